/-! the judgement -/
/-- a method: name, code, locals, answer, depth of calls below it, cells and slots that it may make -/
abbrev ZM : Type := MethodName × ByteArray × Nat × Option FieldType × Nat × Nat × Nat
def zmy (M : ZM) : MethodName := M.1
def zmc (M : ZM) : ByteArray := M.2.1
def zmn (M : ZM) : Nat := M.2.2.1
def zmr (M : ZM) : Option FieldType := M.2.2.2.1
def zmd (M : ZM) : Nat := M.2.2.2.2.1
def zmC (M : ZM) : Nat := M.2.2.2.2.2.1
def zmS (M : ZM) : Nat := M.2.2.2.2.2.2
def zrm (M : ZM) : Room := { frames := zmd M, cells := zmC M, slots := zmS M, locals := 39 * zmd M }
def zws (M : ZM) : List Cond := .code (zmy M) (zmc M) (zmn M) (zmr M) :: zw
def zK (D : va_G) (dA : Nat → ClassId) (U : State) : Prop := va_K D vwCl (zTys dA) U ∧ zX U
theorem zK.warm {D : va_G} {dA : Nat → ClassId} {s U : State} (hW : s.WarmedH U.vm) (h : zK D dA s) : zK D dA U := ⟨va_K.moved hW.alike h.1, h.2.warm hW⟩
/-- what stands during a method's run -/
def ZX (M : ZM) (p : Program) (R : Room) (s : State) (m : MethodId) (args : Array Value) (meth : Method) (c : Code) (D : va_G) (dA : Nat → ClassId) : Prop :=
  p.tables.exec = Jvm.exec ∧ c.code = zmc M ∧ c.maxLocals = zmn M ∧ s.vm.findClass (zmy M).cls = some m.cls ∧ (∀ w ∈ zw, w.before args s = true) ∧ zK D dA s ∧ meth.name = (zmy M).name ∧ zmd M ≤ R.frames ∧ 39 * zmd M ≤ R.locals ∧ zmC M ≤ R.cells ∧ zmS M ≤ R.slots
/-- an answer fits the return instruction that stands at pc -/
def zRt (ret : Option FieldType) (cc : ByteArray) (pc : Nat) (r : Option Av) : Prop := match r with
  | none => ret = none ∧ decode cc pc = .ok (.return_, 1)
  | some (.inl v) => ∃ ty, ret = some ty ∧ narrow ty (.int v) = .int v ∧ decode cc pc = .ok (.ireturn, 1)
  | some (.inr (.inl _)) => ret = some .long ∧ decode cc pc = .ok (.lreturn, 1)
  | some (.inr (.inr _)) => (∃ ty, ret = some ty ∧ ((∃ n, ty = .object n) ∨ ∃ t, ty = .array t)) ∧ decode cc pc = .ok (.areturn, 1)
def zTop (r : Option Av) : List Value := match r with
  | none => []
  | some v => [vv v]
def ZR (M : ZM) (post : Option Av → ZS → Prop) (p : Program) (l : Launch) (e : Env) (R : Room) (s : State) (m : MethodId) (args : Array Value) (below : List Frame) (meth : Method) (c : Code) (Q : State → Prop) (D : va_G) (dA : Nat → ClassId) (A : Nat → Prop) : Prop :=
  ∀ (r : Option Av) (σ : ZS) (H : Heap) (locs : List Loc) (cells slots pc : Nat) (arr : Array Slot), post r σ → zP D dA σ H → va_S A s.heap H locs → (∀ a, (zk σ a).1 ≠ 0 → A a) → cells ≤ zmC M → slots ≤ zmS M → zRt (zmr M) (zmc M) pc r → W p l e R s m args below meth c H locs cells slots Q (F0 m pc arr (zTop r))
/-- THE JUDGEMENT: from pc with locals ls, stack st and heap σ, with kc cells and ks slots still to make, the method comes to its end with post -/
def ZV (M : ZM) (post : Option Av → ZS → Prop) (pc : Nat) (ls : Zl) (st : List Av) (σ : ZS) (kc ks : Nat) : Prop :=
  ∀ (p : Program) (l : Launch) (e : Env) (R : Room) (s : State) (m : MethodId) (args : Array Value) (below : List Frame) (meth : Method) (c : Code) (Q : State → Prop) (D : va_G) (dA : Nat → ClassId) (A : Nat → Prop),
  ZX M p R s m args meth c D dA → (∀ q, s.heap.size ≤ q → A q) → ZR M post p l e R s m args below meth c Q D dA A →
  ∀ (H : Heap) (locs : List Loc) (cells slots : Nat) (arr : Array Slot), zP D dA σ H → va_S A s.heap H locs → (∀ a, (zk σ a).1 ≠ 0 → A a) → cells + kc ≤ zmC M → slots + ks ≤ zmS M → zH arr (zmn M) ls →
  W p l e R s m args below meth c H locs cells slots Q (F0 m pc arr (st.map vv))
def zdom (σ : ZS) (a : Nat) : Prop := (zk σ a).1 ≠ 0 ∨ zn σ ≤ a
def zPc (D : va_G) (dA : Nat → ClassId) (As : List Av) (σ : ZS) : Array Value → State → Prop := fun v U => v = (As.map vv).toArray ∧ zP D dA σ U.heap ∧ zK D dA U
def zQc (D : va_G) (dA : Nat → ClassId) (σ : ZS) (post : Option Av → ZS → Prop) : Array Value → State → Outcome → State → Prop := fun _ st o t =>
  ∃ (r : Option Av) (σ' : ZS), o = .returned (r.map vv) ∧ post r σ' ∧ zP D dA σ' t.heap ∧ (∀ a, (zk σ' a).1 ≠ 0 → zdom σ a) ∧ va_F (zdom σ) st t
/-- A CONTRACT: from heap σ, with these arguments, the method answers r and leaves σ' with post r σ' -/
def ZC (M : ZM) (As : List Av) (σ : ZS) (post : Option Av → ZS → Prop) : Prop :=
  ∀ (l : Launch) (D : va_G) (dA : Nat → ClassId), Met l (zmy M) (zws M) (zrm M) (zPc D dA As σ) (zQc D dA σ post) (zmC M) (zmS M) (zdom σ)
theorem zPc_blind {D : va_G} {dA : Nat → ClassId} {As : List Av} {σ : ZS} : FrameBlind (zPc D dA As σ) := by
  intro a U g mk h
  exact ⟨h.1, h.2.1, va_K.moved (u := U) (U := U.calling g mk a) (Vm.Alike.refl U.vm) h.2.2.1, zX.same (s := U) (U := U.calling g mk a) rfl h.2.2.2⟩
set_option maxHeartbeats 1000000 in
theorem ZC_of {M : ZM} {As : List Av} {σ : ZS} {post : Option Av → ZS → Prop} {ls : Zl} (hy : plainName (zmy M).cls = true) (hn : (lg_sl (As.map vv)).length ≤ zmn M) (hls : zEnt As ++ List.replicate (zmn M - (zEnt As).length) none = ls) (h : ZV M post 0 ls [] σ (zmC M) (zmS M)) : ZC M As σ post := by
  intro l D dA
  refine Met.ofW (cc := zmc M) (maxL := zmn M) (ret := zmr M) hy rfl ?_
  intro p e s m args below meth c s₁ B hml hv
  obtain ⟨rfl, hP, hK⟩ := hv
  have hts := atoms_spec (ws := zws M) B.pre
  have hr := B.returns
  have hlocks := B.notSynchronized
  have hx := B.exec
  have hb := B.bytes
  have hZX : ZX M p (headSpec (zws M) (zrm M)).room s m ((As.map vv).toArray) meth c D dA := ⟨hx, hb, hml, findClass_of_methodNamed B.named, fun w hw => hts w (List.mem_cons_of_mem _ hw), hK, (name_of_methodNamed B.named B.method).1, Nat.le_refl _, Nat.le_refl _, Nat.le_refl _, Nat.le_refl _⟩
  have hA : ∀ q, s.heap.size ≤ q → zdom σ q := fun q hq => Or.inr (by rw [hP.1]; exact hq)
  have hT : ZR M post p l e (headSpec (zws M) (zrm M)).room s m ((As.map vv).toArray) below meth c (MQ below (zQc D dA σ post) ((As.map vv).toArray) s (zmC M) (zmS M) (zdom σ)) D dA (zdom σ) := by
    intro r σ' H locs cells slots pc arr hpost hP' hS hD hc hs hret
    refine W.widen (k := zmC M) (n := zmS M) hc hs ?_
    have hq : ∀ (o : Option Value), o = r.map vv → ∀ t : State, t.heap = H → s.WarmedH t.vm → zQc D dA σ post ((As.map vv).toArray) s (.returned o) t := fun o ho t ht _ => ⟨r, σ', by rw [ho], hpost, by rw [ht]; exact hP', hD, hS.F ht⟩
    match r, hret with
    | none, hret => exact W.vret hx hb (hr.trans hret.1) (hq none rfl) hS.2.2 hret.2
    | some (.inl v), hret =>
      obtain ⟨ty, h1, h2, h3⟩ := hret
      exact W.zret (ty := ty) hx hb (hr.trans h1) h2 (hq (some (.int v)) rfl) hS.2.2 h3
    | some (.inr (.inl v)), hret => exact W.lret hx hb (hr.trans hret.1) (hq (some (.long v)) rfl) hS.2.2 hret.2
    | some (.inr (.inr o)), hret =>
      obtain ⟨⟨ty, h1, h2⟩, h3⟩ := hret
      exact W.aret (v := va_rf o) hx hb (hr.trans h1) h2 (by cases o with | none => exact Or.inl rfl | some a => exact Or.inr ⟨a, rfl⟩) (hq (some (va_rf o)) rfl) hS.2.2 h3
  rw [lg_entry_eq]
  exact h p l e _ s m _ below meth c _ D dA (zdom σ) hZX hA hT s.heap [] 0 0 _ hP va_S.rf (fun a ha => Or.inl ha) (by omega) (by omega) (zH_entry hn hls)
theorem ZC.mono {M : ZM} {As : List Av} {σ : ZS} {post post' : Option Av → ZS → Prop} (h : ZC M As σ post) (hp : ∀ r σ', post r σ' → post' r σ') : ZC M As σ post' := by
  intro l D dA p e ha hc hk s m args below hf happ hpre hK
  obtain ⟨k, o, h1, h2, h3, ⟨r, σ', e1, e2, e3⟩, h5⟩ := h l D dA p e ha hc hk s m args below hf happ hpre hK
  exact ⟨k, o, h1, h2, h3, ⟨r, σ', e1, hp _ _ e2, e3⟩, h5⟩
