/-! THE CLAIM OUT OF ONE WALK OF THE LAW'S BODY. Your part is whole_start (and what it stands on); all else here is the same for every law, but numbers. -/
def R_law : String := "StaveScoreLaw"
def lw_P (b : Addr) (xs : List Int32) (args : Array Value) (s : State) : Prop := args = #[.ref b] ∧ s.IntsAt b xs ∧ xs.length ≤ 3584 ∧ (Jvm.Cond.and given_1 narrow_1).before args s = true
def lw_Q (_ : Array Value) (s : State) (o : Outcome) (t : State) : Prop := o = .returned (some (.int 1)) ∧ Framed s o t [] 600000 7302250
def lw_Z (below : List Frame) (a : Array Value) (s : State) : State → Prop := fun t => ∃ o, t.status = .running ∧ Ended t below o ∧ lw_Q a s o t
/-- the law's own end, with 1 on the stack, nothing written that was there before, its room as the claim has it -/
theorem lw_ret {p : Program} {l : Launch} {e : Env} {s : State} {m : MethodId} {below : List Frame} {meth : Method} {c : Code} {b : Nat} (hx : p.tables.exec = Jvm.exec) (hb : c.code = code) (hr : meth.sig.returnType = ret) (hlocks : meth.locks = false) {pc : Nat} {H : Heap} {ls : Array Slot} (hdg : decode code pc = .ok (.ireturn, 1)) : W p l e room_1 s m #[Value.ref b] below meth c H [] 600000 7302250 (lw_Z below #[Value.ref b] s) (F0 m pc ls [.int 1]) := by
  intro T hT X
  obtain ⟨fs, hret, hrun, hended, hW, hframe⟩ := X.leave (v := some (.int 1)) (hlocks := hlocks) (fun h => by rw [hr] at h; cases h)
  have hmeth' : T.vm.method? m = some meth := X.method'
  refine ⟨T.setFrames fs, ?_, .returned (some (.int 1)), hrun, hended, rfl, ⟨_, rfl⟩, hW, hframe⟩
  jvm_step X.here [X.here.top, hx, hb, hdg, hmeth', hr, ret, narrow_b1]
  (try refine ⟨rfl, ?_⟩); (try refine ⟨rfl, ?_⟩)
  first | (intro acts; rw [hret _ acts rfl rfl rfl]) | rw [hret _ _ rfl rfl rfl]
  exact Steps.refl _
/-- what holds at the law's entry: the machine, the code, the tables' words (any of lw_tbl by 'hts w (by decide +kernel)'), the script of L ints xs at the cell b, what the Statement gives of the start (any of its parts by flat_of_before) -/
def lw_At (p : Program) (s : State) (m : MethodId) (meth : Method) (c : Code) (b L : Nat) (xs : Nat → Int32) : Prop :=
  p.tables.exec = Jvm.exec ∧ c.code = code ∧ meth.sig.returnType = ret ∧ c.maxLocals = 4 ∧ s.vm.findClass R_law = some m.cls ∧ (∀ w ∈ lw_tbl, w.before #[Value.ref b] s = true) ∧ va_X b L xs s s.heap ∧ b < s.heap.size ∧ meth.locks = false ∧ (Jvm.Cond.and given_1 narrow_1).before #[Value.ref b] s = true ∧ meth.name = "law"
def ML : ZM := (yL_law, cL_law, 4, some .boolean, 8, 600000, 7302250)
/-- another size of the heap -/
def zU (σ : ZS) (n : Nat) : ZS := (σ.1, σ.2.1, σ.2.2.1, σ.2.2.2.1, σ.2.2.2.2.1, σ.2.2.2.2.2.1, σ.2.2.2.2.2.2.1, n)
def LC (p : Program) (s : State) (m : MethodId) (meth : Method) (c : Code) (D : va_G) (dA : Nat → ClassId) (b L : Nat) (xs : Nat → Int32) : Prop := ZX ML p room_1 s m #[Value.ref b] meth c D dA ∧ meth.sig.returnType = ret ∧ meth.locks = false ∧ va_X b L xs s s.heap ∧ b < s.heap.size
/-- two pictures, apart, all of them new -/
def LH (D : va_G) (dA : Nat → ClassId) (s : State) (σ ρ : ZS) (H : Heap) (locs : List Loc) : Prop := zP D dA σ H ∧ zP D dA ρ H ∧ (∀ a, (zk σ a).1 ≠ 0 → (zk ρ a).1 = 0) ∧ va_S (fun q => s.heap.size ≤ q) s.heap H locs ∧ (∀ a, (zk σ a).1 ≠ 0 → s.heap.size ≤ a) ∧ (∀ a, (zk ρ a).1 ≠ 0 → s.heap.size ≤ a)
/-- THE LAW'S JUDGEMENT -/
def LV (b L : Nat) (xs : Nat → Int32) (pc : Nat) (ls : Zl) (st : List Av) (σ ρ : ZS) (kc ks : Nat) : Prop := ∀ (p : Program) (l : Launch) (e : Env) (s : State) (m : MethodId) (below : List Frame) (meth : Method) (c : Code) (D : va_G) (dA : Nat → ClassId), LC p s m meth c D dA b L xs → ∀ (H : Heap) (locs : List Loc) (cells slots : Nat) (arr : Array Slot), LH D dA s σ ρ H locs → cells + kc ≤ 600000 → slots + ks ≤ 7302250 → zH arr 4 ls → W p l e room_1 s m #[Value.ref b] below meth c H locs cells slots (lw_Z below #[Value.ref b] s) (F0 m pc arr (st.map vv))
theorem zE_k {dA : Nat → ClassId} {σ : ZS} {a : Nat} {x : va_E} (h : zE dA σ a = some x) : (zk σ a).1 ≠ 0 := by
  intro hz
  cases hk : zk σ a with
  | mk k n =>
    rw [hk] at hz
    simp only at hz
    subst hz
    unfold zE at h
    rw [hk] at h
    simp at h
theorem zE_some {dA : Nat → ClassId} {σ : ZS} {a : Nat} (h : (zk σ a).1 ≠ 0) : ∃ x, zE dA σ a = some x := by
  unfold zE
  cases hk : zk σ a with
  | mk k n =>
    rw [hk] at h
    match k, h with
    | 0, h => exact absurd rfl h
    | 1, _ => exact ⟨_, rfl⟩
    | 2, _ => exact ⟨_, rfl⟩
    | 3, _ => exact ⟨_, rfl⟩
    | 4, _ => exact ⟨_, rfl⟩
    | j + 5, _ => exact ⟨_, rfl⟩
theorem zk_lt {D : va_G} {dA : Nat → ClassId} {σ : ZS} {H : Heap} (h : zP D dA σ H) {a : Nat} (ha : (zk σ a).1 ≠ 0) : a < H.size := by
  obtain ⟨x, hx⟩ := zE_some (dA := dA) ha
  exact (h.2 a x hx).lt
theorem zP_U {D : va_G} {dA : Nat → ClassId} {ρ : ZS} {H H1 : Heap} (h : zP D dA ρ H) (hk : ∀ a : Nat, (zk ρ a).1 ≠ 0 → H1[a]? = H[a]?) : zP D dA (zU ρ H1.size) H1 := ⟨rfl, fun a x hx => (h.2 a x hx).kept (hk a (zE_k (σ := ρ) hx))⟩
theorem LV_swap {b L : Nat} {xs : Nat → Int32} {pc : Nat} {ls : Zl} {st : List Av} {σ ρ : ZS} {kc ks : Nat} (k : LV b L xs pc ls st ρ σ kc ks) : LV b L xs pc ls st σ ρ kc ks := by
  intro p l e s m below meth c D dA hC H locs cells slots arr hH hc hs hl
  obtain ⟨h1, h2, h3, h4, h5, h6⟩ := hH
  exact k p l e s m below meth c D dA hC H locs cells slots arr ⟨h2, h1, fun a ha => Decidable.byContradiction (fun q => ha (h3 a q)), h4, h6, h5⟩ hc hs hl
theorem LV_less {b L : Nat} {xs : Nat → Int32} {pc : Nat} {ls : Zl} {st : List Av} {σ ρ : ZS} {kc ks kc' ks' : Nat} (h1 : kc' ≤ kc) (h2 : ks' ≤ ks) (k : LV b L xs pc ls st σ ρ kc' ks') : LV b L xs pc ls st σ ρ kc ks := by
  intro p l e s m below meth c D dA hC H locs cells slots arr hH hc hs hl
  exact k p l e s m below meth c D dA hC H locs cells slots arr hH (by omega) (by omega) hl
set_option maxHeartbeats 1000000 in
theorem LV_run {b L : Nat} {xs : Nat → Int32} {pc n : Nat} {ls : Zl} {st : List Av} {σ ρ : ZS} {kc ks : Nat} {rest : List Av} {M' : ZM} {post' : Option Av → ZS → Prop} {kc' ks' : Nat} (h : ZRun ML pc st rest σ M' post') (hkc : kc' + zmC M' ≤ kc) (hks : ks' + zmS M' ≤ ks) (hn : pc + 3 = n) (k : ∀ (r : Option Av) (σ' : ZS), post' r σ' → zn σ ≤ zn σ' → LV b L xs n ls (zPs r rest) σ' (zU ρ (zn σ')) kc' ks') : LV b L xs pc ls st σ ρ kc ks := by
  intro p l e s m below meth c D dA hC H locs cells slots arr hH hc hs hl
  subst hn
  obtain ⟨hP, hR, hdj, hS, hA1, hA2⟩ := hH
  obtain ⟨a, hr⟩ := h p l e room_1 s m #[Value.ref b] below meth c D dA hC.1 H locs cells slots arr hP hl.1 (by show cells + zmC M' ≤ 600000; omega) (by show slots + zmS M' ≤ 7302250; omega)
  intro T hTH X
  obtain ⟨v, st₀, t, T', L', h0, X', hL, e1, e2, ⟨r, σ', hv, hp, hP', hdm, hF1, hF2⟩, go⟩ := hr T hTH X
  have hz : ∀ q, zdom σ q → s.heap.size ≤ q := fun q hq => by
    rcases hq with hq | hq
    · exact hA1 q hq
    · exact Nat.le_trans hS.1 (by rw [← hP.1]; exact hq)
  rw [h0] at hF1 hF2
  have hsz : zn σ' = T'.heap.size := by rw [e1]; exact hP'.1
  have hno : ∀ q, (zk ρ q).1 ≠ 0 → ¬ zdom σ q := fun q hq z => by
    rcases z with z | z
    · exact hq (hdj q z)
    · have := zk_lt hR hq
      rw [← hP.1] at this
      omega
  have hk0 : ∀ q : Nat, (zk ρ q).1 ≠ 0 → T'.heap[q]? = H[q]? := fun q hq => by rw [e1]; exact hF2 q (zk_lt hR hq) (hno q hq)
  have W' := k r σ' hp (by rw [hP.1, hP'.1]; exact hF1) p l e s m below meth c D dA hC T'.heap (locs ++ L') (cells + zmC M') (slots + zmS M') arr
    ⟨by rw [e1]; exact hP', by rw [hsz]; exact zP_U hR hk0, fun q hq => Decidable.byContradiction (fun z => hno q z (hdm q hq)), ⟨by rw [e1]; exact Nat.le_trans hS.1 hF1, fun q h1 h2 => by rw [e1, hF2 q (Nat.lt_of_lt_of_le h1 hS.1) (fun z => h2 (hz q z))]; exact hS.2.1 q h1 h2, fun q hq => by
      rcases List.mem_append.mp hq with h | h
      · exact hS.2.2 q h
      · exact hz _ (hL q h)⟩, fun q hq => hz q (hdm q hq), hA2⟩ (by omega) (by omega) hl
  obtain ⟨t2, a1, b1⟩ := W' T' rfl X'
  refine ⟨t2, go t2 ?_, b1⟩
  have hv' : v = r.map vv := by cases hv; rfl
  subst hv'
  cases r with
  | none => exact a1
  | some v => exact a1
set_option maxHeartbeats 1000000 in
theorem LV_newC {b L : Nat} {xs : Nat → Int32} {pc n : Nat} {ls : Zl} {st : List Av} {σ ρ : ZS} {kc ks : Nat} {idx ci N : Nat} (hd : decode (zmc ML) pc = .ok (.new idx, 3)) (hn : pc + 3 = n) (hci : ci < 13) (hN : (zcl ci).2.2 = N) (hcl : Cond.classLink (zmy ML).cls idx (zcl ci).1 ∈ zw) (hin0 : Cond.instantiable (zcl ci).1 N ∈ zw) (hini : Cond.initialized (zcl ci).1 ∈ zw) (k : LV b L xs n ls (Ar (some (zn σ)) :: st) (zNew σ (1, ci)) (zU ρ (zn σ + 1)) kc ks) : LV b L xs pc ls st σ ρ (kc + 1) (ks + N) := by
  intro p l e s m below meth c D dA hC9 H locs cells slots arr hH hc hs hl
  obtain ⟨hP, hR, hdj, hS, hA1, hA2⟩ := hH
  have hC := hC9.1
  subst hn
  subst hN
  have hts := hC.2.2.2.2.1
  have hz0 : H.size = zn σ := hP.1.symm
  have hKn := hC.2.2.2.2.2.1.1.1 ci _ (zcl_at ci hci)
  refine W.newcK hC.1 hC.2.1 hC.2.2.2.1 (hts _ hcl) (hts _ hin0) (hts _ hini) rfl hd (Nat.le_trans (by omega : cells + 1 ≤ 600000) hC.2.2.2.2.2.2.2.2.2.1) (Nat.le_trans (by omega : slots + (zcl ci).2.2 ≤ 7302250) hC.2.2.2.2.2.2.2.2.2.2) hKn.2.1 hz0 fun H1 kC hkC e1 e2 e3 => ?_
  refine k p l e s m below meth c D dA hC9 H1 _ (cells + 1) (slots + (zcl ci).2.2) arr ⟨hP.new (by rw [e2, hz0]) (by rw [hz0]; exact e3) (fun y hy => ?_), by rw [show zn σ + 1 = H1.size by rw [e2]]; exact zP_U hR (fun q hq => e3 q (by rw [← hz0]; exact zk_lt hR hq)), fun q hq => ?_, ⟨Nat.le_trans hS.1 (by rw [e2, hz0]; omega), fun q h1 h2 => (e3 q (by rw [← hz0]; exact Nat.lt_of_lt_of_le h1 hS.1)).trans (hS.2.1 q h1 h2), hS.2.2⟩, fun b hb => ?_, hA2⟩ (by omega) (by omega) hl
  · rw [zE_obj (zk_new σ (1, ci))] at hy
    cases hy
    refine ⟨_, zcl_at ci hci, (u_born (zty ci) hts (zcl_in ci hci) hKn hkC e1 (zcl_ty ci hci)).to (fun j hj => ?_)⟩
    have hl0 : j < (zF ci).length := by rw [zF_len ci hci]; exact hj
    obtain ⟨q, hq⟩ : ∃ q, (zF ci)[j]? = some q := ⟨_, List.getElem?_eq_getElem hl0⟩
    have hc9 := zF_c hq
    have hv : vp_V (zVs (zNew σ (1, ci)) ci (zn σ)) j = zV1 (zNew σ (1, ci)) q (zn σ) := by
      unfold vp_V
      rw [List.getD_eq_getElem?_getD, zVs_at hq]
      rfl
    rw [hv]
    obtain ⟨t, f⟩ := q
    have h2 := zF_2 hq
    simp only at h2 hc9
    rcases (show t = 0 ∨ t = 1 ∨ t = 2 by omega) with rfl | rfl | rfl
    · have : zV1 (zNew σ (1, ci)) (0, f) (zn σ) = .int 0 := by simp [zV1, zI, zNew]
      rw [this]
      cases hz : zty ci j <;> rw [hz] at hc9 <;> simp [zFc] at hc9 <;> rfl
    · have : zV1 (zNew σ (1, ci)) (1, f) (zn σ) = .long 0 := by simp [zV1, zL, zNew]
      rw [this]
      cases hz : zty ci j <;> rw [hz] at hc9 <;> simp [zFc] at hc9 <;> rfl
    · have : zV1 (zNew σ (1, ci)) (2, f) (zn σ) = .null := by simp [zV1, zR, zNew, va_rf]
      rw [this]
      cases hz : zty ci j <;> rw [hz] at hc9 <;> simp [zFc] at hc9 <;> rfl
  · by_cases hq2 : q = zn σ
    · refine Decidable.byContradiction (fun z => ?_)
      have := zk_lt hR (a := q) z
      omega
    · rw [zk_new_ne hq2] at hq; exact hdj q hq
  · by_cases hb2 : b = zn σ
    · rw [hb2, ← hz0]; exact hS.1
    · rw [zk_new_ne hb2] at hb; exact hA1 b hb
theorem LV_iadd {b L : Nat} {xs : Nat → Int32} {pc n : Nat} {ls : Zl} {st : List Av} {σ ρ : ZS} {kc ks : Nat} {x y : Int32} (hd : decode (zmc ML) pc = .ok (.iadd, 1))  (hn : pc + 1 = n) (k : LV b L xs n ls (Ai (x + y) :: st) σ ρ kc ks) : LV b L xs pc ls (Ai y :: Ai x :: st) σ ρ kc ks := by
  intro p l e s m below meth c D dA hC H locs cells slots arr hH hc hs hl
  subst hn
  exact lv_iadd hC.1.1 hC.1.2.1 hd  (k p l e s m below meth c D dA hC H locs cells slots arr hH hc hs hl)
theorem LV_isub {b L : Nat} {xs : Nat → Int32} {pc n : Nat} {ls : Zl} {st : List Av} {σ ρ : ZS} {kc ks : Nat} {x y : Int32} (hd : decode (zmc ML) pc = .ok (.isub, 1))  (hn : pc + 1 = n) (k : LV b L xs n ls (Ai (x - y) :: st) σ ρ kc ks) : LV b L xs pc ls (Ai y :: Ai x :: st) σ ρ kc ks := by
  intro p l e s m below meth c D dA hC H locs cells slots arr hH hc hs hl
  subst hn
  exact lv_isub hC.1.1 hC.1.2.1 hd  (k p l e s m below meth c D dA hC H locs cells slots arr hH hc hs hl)
theorem LV_iand {b L : Nat} {xs : Nat → Int32} {pc n : Nat} {ls : Zl} {st : List Av} {σ ρ : ZS} {kc ks : Nat} {x y : Int32} (hd : decode (zmc ML) pc = .ok (.iand, 1))  (hn : pc + 1 = n) (k : LV b L xs n ls (Ai (x &&& y) :: st) σ ρ kc ks) : LV b L xs pc ls (Ai y :: Ai x :: st) σ ρ kc ks := by
  intro p l e s m below meth c D dA hC H locs cells slots arr hH hc hs hl
  subst hn
  exact lv_iand hC.1.1 hC.1.2.1 hd  (k p l e s m below meth c D dA hC H locs cells slots arr hH hc hs hl)
theorem LV_iconst {b L : Nat} {xs : Nat → Int32} {pc n : Nat} {ls : Zl} {st : List Av} {σ ρ : ZS} {kc ks : Nat} {q : Int} {v : Int32} (hd : decode (zmc ML) pc = .ok (.iconst q, 1)) (hv : Int32.ofInt q = v) (hn : pc + 1 = n) (k : LV b L xs n ls (Ai v :: st) σ ρ kc ks) : LV b L xs pc ls st σ ρ kc ks := by
  intro p l e s m below meth c D dA hC H locs cells slots arr hH hc hs hl
  subst hn
  exact lv_iconst hC.1.1 hC.1.2.1 hd hv (k p l e s m below meth c D dA hC H locs cells slots arr hH hc hs hl)
theorem LV_bipush {b L : Nat} {xs : Nat → Int32} {pc n : Nat} {ls : Zl} {st : List Av} {σ ρ : ZS} {kc ks : Nat} {q : Int} {v : Int32} (hd : decode (zmc ML) pc = .ok (.bipush q, 2)) (hv : (Int8.ofInt q).toInt32 = v) (hn : pc + 2 = n) (k : LV b L xs n ls (Ai v :: st) σ ρ kc ks) : LV b L xs pc ls st σ ρ kc ks := by
  intro p l e s m below meth c D dA hC H locs cells slots arr hH hc hs hl
  subst hn
  exact lv_bipush hC.1.1 hC.1.2.1 hd hv (k p l e s m below meth c D dA hC H locs cells slots arr hH hc hs hl)
theorem LV_dup {b L : Nat} {xs : Nat → Int32} {pc n : Nat} {ls : Zl} {st : List Av} {σ ρ : ZS} {kc ks : Nat} {v : Av} (hd : decode (zmc ML) pc = .ok (.dup, 1)) (hw : zW2 v = false) (hn : pc + 1 = n) (k : LV b L xs n ls (v :: v :: st) σ ρ kc ks) : LV b L xs pc ls (v :: st) σ ρ kc ks := by
  intro p l e s m below meth c D dA hC H locs cells slots arr hH hc hs hl
  subst hn
  exact lv_dup hC.1.1 hC.1.2.1 hd (vv_cat1 hw) (k p l e s m below meth c D dA hC H locs cells slots arr hH hc hs hl)
theorem LV_iload_n {b L : Nat} {xs : Nat → Int32} {pc n : Nat} {ls : Zl} {st : List Av} {σ ρ : ZS} {kc ks : Nat} {q : Fin 4} {i : Nat} {x : Int32} (hd : decode (zmc ML) pc = .ok (.iload_n q, 1)) (hi : (q : Nat) = i) (hx : ls[i]? = some (some (Ai x))) (hn : pc + 1 = n) (k : LV b L xs n ls (Ai x :: st) σ ρ kc ks) : LV b L xs pc ls st σ ρ kc ks := by
  intro p l e s m below meth c D dA hC H locs cells slots arr hH hc hs hl
  subst hn
  exact lv_iload_n hC.1.1 hC.1.2.1 hd hi (hl.2.2 i _ hx) (k p l e s m below meth c D dA hC H locs cells slots arr hH hc hs hl)
theorem LV_aload_n {b L : Nat} {xs : Nat → Int32} {pc n : Nat} {ls : Zl} {st : List Av} {σ ρ : ZS} {kc ks : Nat} {q : Fin 4} {i a : Nat} (hd : decode (zmc ML) pc = .ok (.aload_n q, 1)) (hi : (q : Nat) = i) (hx : ls[i]? = some (some (Ar (some a)))) (hn : pc + 1 = n) (k : LV b L xs n ls (Ar (some a) :: st) σ ρ kc ks) : LV b L xs pc ls st σ ρ kc ks := by
  intro p l e s m below meth c D dA hC H locs cells slots arr hH hc hs hl
  subst hn
  exact lv_aload_n hC.1.1 hC.1.2.1 hd hi (hl.2.2 i _ hx) (k p l e s m below meth c D dA hC H locs cells slots arr hH hc hs hl)
theorem LV_istoreG {b L : Nat} {xs : Nat → Int32} {pc n : Nat} {ls : Zl} {st : List Av} {σ ρ : ZS} {kc ks : Nat} {q : Fin 4} {i : Nat} {x : Int32} (hd : decode (zmc ML) pc = .ok (.istore_n q, 1)) (hi : (q : Nat) = i) (hL : i < 4) (hok : ∀ (j : Nat) (w : Option Av), i = j + 1 → ls[j]? = some w → zNL w = true) (hn : pc + 1 = n) (k : LV b L xs n (ls.set i (some (Ai x))) st σ ρ kc ks) : LV b L xs pc ls (Ai x :: st) σ ρ kc ks := by
  intro p l e s m below meth c D dA hC H locs cells slots arr hH hc hs hl
  subst hn
  exact lv_istore_n (lv' := _) hC.1.1 hC.1.2.1 hd hi (zH_has.mp hl) hL rfl (fun arr' h' => k p l e s m below meth c D dA hC H locs cells slots arr' hH hc hs (zH_set1 h' hok))
theorem LV_astoreG {b L : Nat} {xs : Nat → Int32} {pc n : Nat} {ls : Zl} {st : List Av} {σ ρ : ZS} {kc ks : Nat} {q : Fin 4} {i a : Nat} (hd : decode (zmc ML) pc = .ok (.astore_n q, 1)) (hi : (q : Nat) = i) (hL : i < 4) (hok : ∀ (j : Nat) (w : Option Av), i = j + 1 → ls[j]? = some w → zNL w = true) (hn : pc + 1 = n) (k : LV b L xs n (ls.set i (some (Ar (some a)))) st σ ρ kc ks) : LV b L xs pc ls (Ar (some a) :: st) σ ρ kc ks := by
  intro p l e s m below meth c D dA hC H locs cells slots arr hH hc hs hl
  subst hn
  exact lv_astore_n (lv' := _) hC.1.1 hC.1.2.1 hd hi (zH_has.mp hl) hL rfl (fun arr' h' => k p l e s m below meth c D dA hC H locs cells slots arr' hH hc hs (zH_set1 (v := Ar (some a)) h' hok))
theorem LV_iincG {b L : Nat} {xs : Nat → Int32} {pc n : Nat} {ls : Zl} {st : List Av} {σ ρ : ZS} {kc ks : Nat} {i : Nat} {q : Int} {x v : Int32} (hd : decode (zmc ML) pc = .ok (.iinc i q, 3)) (hv : Int32.ofInt q = v) (hx : ls[i]? = some (some (Ai x))) (hL : i < 4) (hok : ∀ (j : Nat) (w : Option Av), i = j + 1 → ls[j]? = some w → zNL w = true) (hn : pc + 3 = n) (k : LV b L xs n (ls.set i (some (Ai (x + v)))) st σ ρ kc ks) : LV b L xs pc ls st σ ρ kc ks := by
  intro p l e s m below meth c D dA hC H locs cells slots arr hH hc hs hl
  subst hn
  obtain ⟨w, hw⟩ := List.getElem?_of_mem ((zlL_mem ls 0 (i, .int x)).mpr ⟨i, Ai x, by simp, hx, rfl⟩)
  exact lv_iinc (lv' := _) (v := x + v) hC.1.1 hC.1.2.1 hd (zH_has.mp hl) hw (by rw [hv]) hL rfl (fun arr' h' => k p l e s m below meth c D dA hC H locs cells slots arr' hH hc hs (zH_set1 (v := Ai (x + v)) h' hok))
theorem LV_icmp_gt {b L : Nat} {xs : Nat → Int32} {pc n : Nat} {ls : Zl} {st : List Av} {σ ρ : ZS} {kc ks : Nat} {x y : Int32} {off : Int} {tgt : Nat} (hd : decode (zmc ML) pc = .ok (.if_icmp .gt off, 3)) (ht : (pc : Int) + off = (tgt : Int)) (hn : pc + 3 = n) (kt : y < x → LV b L xs tgt ls st σ ρ kc ks) (kf : ¬ y < x → LV b L xs n ls st σ ρ kc ks) : LV b L xs pc ls (Ai y :: Ai x :: st) σ ρ kc ks := by
  intro p l e s m below meth c D dA hC H locs cells slots arr hH hc hs hl
  subst hn
  exact lv_icmp_gt hC.1.1 hC.1.2.1 hd ht (fun q => kt q p l e s m below meth c D dA hC H locs cells slots arr hH hc hs hl) (fun q => kf q p l e s m below meth c D dA hC H locs cells slots arr hH hc hs hl)
theorem LV_icmp_eq {b L : Nat} {xs : Nat → Int32} {pc n : Nat} {ls : Zl} {st : List Av} {σ ρ : ZS} {kc ks : Nat} {x y : Int32} {off : Int} {tgt : Nat} (hd : decode (zmc ML) pc = .ok (.if_icmp .eq off, 3)) (ht : (pc : Int) + off = (tgt : Int)) (hn : pc + 3 = n) (kt : x = y → LV b L xs tgt ls st σ ρ kc ks) (kf : ¬ x = y → LV b L xs n ls st σ ρ kc ks) : LV b L xs pc ls (Ai y :: Ai x :: st) σ ρ kc ks := by
  intro p l e s m below meth c D dA hC H locs cells slots arr hH hc hs hl
  subst hn
  exact lv_icmp_eq hC.1.1 hC.1.2.1 hd ht (fun q => kt q p l e s m below meth c D dA hC H locs cells slots arr hH hc hs hl) (fun q => kf q p l e s m below meth c D dA hC H locs cells slots arr hH hc hs hl)
theorem LV_if_eq {b L : Nat} {xs : Nat → Int32} {pc n : Nat} {ls : Zl} {st : List Av} {σ ρ : ZS} {kc ks : Nat} {x : Int32} {off : Int} {tgt : Nat} (hd : decode (zmc ML) pc = .ok (.ifCond .eq off, 3)) (ht : (pc : Int) + off = (tgt : Int)) (hn : pc + 3 = n) (kt : x = 0 → LV b L xs tgt ls st σ ρ kc ks) (kf : ¬ x = 0 → LV b L xs n ls st σ ρ kc ks) : LV b L xs pc ls (Ai x :: st) σ ρ kc ks := by
  intro p l e s m below meth c D dA hC H locs cells slots arr hH hc hs hl
  subst hn
  exact lv_if_eq hC.1.1 hC.1.2.1 hd ht (fun q => kt q p l e s m below meth c D dA hC H locs cells slots arr hH hc hs hl) (fun q => kf q p l e s m below meth c D dA hC H locs cells slots arr hH hc hs hl)
theorem LV_lcmp_eq {b L : Nat} {xs : Nat → Int32} {pc n : Nat} {ls : Zl} {st : List Av} {σ ρ : ZS} {kc ks : Nat} {x y : Int64} {off : Int} {tgt pc1 : Nat} (hd : decode (zmc ML) pc = .ok (.lcmp, 1)) (hn1 : pc + 1 = pc1) (hd2 : decode (zmc ML) pc1 = .ok (.ifCond .eq off, 3)) (ht : (pc1 : Int) + off = (tgt : Int)) (hn : pc1 + 3 = n) (kt : x = y → LV b L xs tgt ls st σ ρ kc ks) (kf : ¬ (x = y) → LV b L xs n ls st σ ρ kc ks) : LV b L xs pc ls (Al y :: Al x :: st) σ ρ kc ks := by
  intro p l e s m below meth c D dA hC H locs cells slots arr hH hc hs hl
  subst hn1
  subst hn
  refine W.lcmp hC.1.1 hC.1.2.1 hd ?_
  exact lv_if_eq hC.1.1 hC.1.2.1 hd2 ht (fun q => kt ((zlc_eq x y).mp q) p l e s m below meth c D dA hC H locs cells slots arr hH hc hs hl) (fun q => kf (fun z => absurd ((zlc_eq x y).mpr z) q) p l e s m below meth c D dA hC H locs cells slots arr hH hc hs hl)
theorem LV_goto {b L : Nat} {xs : Nat → Int32} {pc : Nat} {ls : Zl} {st : List Av} {σ ρ : ZS} {kc ks : Nat} {off : Int} {tgt : Nat} (hd : decode (zmc ML) pc = .ok (.goto off, 3)) (ht : (pc : Int) + off = (tgt : Int)) (k : LV b L xs tgt ls st σ ρ kc ks) : LV b L xs pc ls st σ ρ kc ks := by
  intro p l e s m below meth c D dA hC H locs cells slots arr hH hc hs hl
  exact lv_goto hC.1.1 hC.1.2.1 hd ht (k p l e s m below meth c D dA hC H locs cells slots arr hH hc hs hl)
theorem LV_tableOut {b L : Nat} {xs : Nat → Int32} {pc : Nat} {ls : Zl} {st : List Av} {σ ρ : ZS} {kc ks : Nat} {dflt lo hi : Int} {offs : Array Int} {len : Nat} {x : Int32} {tgt : Nat} (hd : decode (zmc ML) pc = .ok (.tableswitch dflt lo hi offs, len)) (h : x.toInt < lo ∨ hi < x.toInt) (ht : (pc : Int) + dflt = (tgt : Int)) (k : LV b L xs tgt ls st σ ρ kc ks) : LV b L xs pc ls (Ai x :: st) σ ρ kc ks := by
  intro p l e s m below meth c D dA hC H locs cells slots arr hH hc hs hl
  exact lv_tableOut hC.1.1 hC.1.2.1 hd h ht (k p l e s m below meth c D dA hC H locs cells slots arr hH hc hs hl)
theorem LV_tableIn {b L : Nat} {xs : Nat → Int32} {pc : Nat} {ls : Zl} {st : List Av} {σ ρ : ZS} {kc ks : Nat} {dflt lo hi : Int} {offs : Array Int} {len : Nat} {x : Int32} {off : Int} {tgt : Nat} (hd : decode (zmc ML) pc = .ok (.tableswitch dflt lo hi offs, len)) (h1 : ¬ x.toInt < lo) (h2 : ¬ hi < x.toInt) (ho : offs[(x.toInt - lo).toNat]? = some off) (ht : (pc : Int) + off = (tgt : Int)) (k : LV b L xs tgt ls st σ ρ kc ks) : LV b L xs pc ls (Ai x :: st) σ ρ kc ks := by
  intro p l e s m below meth c D dA hC H locs cells slots arr hH hc hs hl
  exact lv_tableIn hC.1.1 hC.1.2.1 hd h1 h2 ho ht (k p l e s m below meth c D dA hC H locs cells slots arr hH hc hs hl)
theorem LV_topi {b L : Nat} {xs : Nat → Int32} {pc : Nat} {ls : Zl} {st : List Av} {σ ρ : ZS} {kc ks : Nat} {v w : Int32} (h : v = w) (k : LV b L xs pc ls (Ai w :: st) σ ρ kc ks) : LV b L xs pc ls (Ai v :: st) σ ρ kc ks := by rw [h]; exact k
theorem LV_iaddN {b L : Nat} {xs : Nat → Int32} {pc n : Nat} {ls : Zl} {st : List Av} {σ ρ : ZS} {kc ks : Nat} {x y : Nat} (hd : decode (zmc ML) pc = .ok (.iadd, 1)) (hn : pc + 1 = n) (k : LV b L xs n ls (Ai (nI (x + y)) :: st) σ ρ kc ks) : LV b L xs pc ls (Ai (nI y) :: Ai (nI x) :: st) σ ρ kc ks := LV_iadd hd hn (by rw [nI_add]; exact k)
theorem LV_sld {b L : Nat} {xs : Nat → Int32} {pc n : Nat} {ls : Zl} {st : List Av} {σ ρ : ZS} {kc ks : Nat} {j : Nat} (hd : decode (zmc ML) pc = .ok (.iaload, 1)) (hn : pc + 1 = n) (hj : j < L) (hL : L ≤ 3584) (k : LV b L xs n ls (Ai (xs j) :: st) σ ρ kc ks) : LV b L xs pc ls (Ai (nI j) :: Ar (some b) :: st) σ ρ kc ks := by
  intro p l e s m below meth c D dA hC H locs cells slots arr hH hc hs hl
  subst hn
  have hcj : (nI j).toNatClampNeg = j := nI_clamp (by omega)
  refine va_sld hC.1.1 hC.1.2.1 hC.2.2.2.1 hC.2.2.2.2 (Nat.not_le.mpr hC.2.2.2.2) hH.2.2.2.1 (i := nI j) ?_ hd ?_
  · unfold vp_in
    rw [hcj]
    rintro (q | q)
    · exact nI_nn (by omega) q
    · omega
  · rw [hcj]
    exact (k p l e s m below meth c D dA hC H locs cells slots arr hH hc hs hl)
theorem LV_slen {b L : Nat} {xs : Nat → Int32} {pc n : Nat} {ls : Zl} {st : List Av} {σ ρ : ZS} {kc ks : Nat} (hd : decode (zmc ML) pc = .ok (.arraylength, 1)) (hn : pc + 1 = n) (k : LV b L xs n ls (Ai (nI L) :: st) σ ρ kc ks) : LV b L xs pc ls (Ar (some b) :: st) σ ρ kc ks := by
  intro p l e s m below meth c D dA hC H locs cells slots arr hH hc hs hl
  subst hn
  exact va_slen hC.1.1 hC.1.2.1 hC.2.2.2.1 hC.2.2.2.2 (Nat.not_le.mpr hC.2.2.2.2) hH.2.2.2.1 hd (k p l e s m below meth c D dA hC H locs cells slots arr hH hc hs hl)
theorem LV_ret {b L : Nat} {xs : Nat → Int32} {pc : Nat} {ls : Zl} {σ ρ : ZS} {kc ks : Nat} (hd : decode (zmc ML) pc = .ok (.ireturn, 1)) : LV b L xs pc ls [Ai 1] σ ρ kc ks := by
  intro p l e s m below meth c D dA hC H locs cells slots arr hH hc hs hl
  refine va_forget (fun q hq => hH.2.2.2.1.2.2 q hq) ?_
  refine W.widen (k := 600000) (n := 7302250) (by omega) (by omega) ?_
  exact lw_ret hC.1.1 hC.1.2.1 hC.2.1 hC.2.2.1 hd
theorem rR_zU {x : Nat} {σ : ZS} {T : TS} (h : rR x σ T) (n : Nat) : rR x (zU σ n) T := h
theorem cR_zU {c : Nat} {σ : ZS} {T : TS} (h : cR c σ T) {n : Nat} (hn : zn σ ≤ n) : cR c (zU σ n) T := by
  obtain ⟨B, K, hG, hK⟩ := h
  exact ⟨B, K, cG_ag (τ := zU σ n) ⟨hn, fun a _ => ⟨rfl, fun _ => rfl, fun _ => rfl, fun _ => rfl, fun _ => rfl, fun _ => rfl, fun _ => rfl⟩⟩ hG, hK⟩
theorem cR_k {c : Nat} {σ : ZS} {T : TS} (h : cR c σ T) : zk σ c = (1, 11) := by
  obtain ⟨B, K, hG, hK⟩ := h
  exact (cf_sh hG).1
def E0 (n : Nat) : ZS := (fun _ => (0, 0), fun _ _ => 0, fun _ _ => 0, fun _ _ => none, fun _ _ => 0, fun _ _ => 0, fun _ _ => none, n)
theorem nB_0 {ci : Nat} {σ : ZS} {k : Nat} (h : σ = E0 k) : nB ci (zn σ) [] (zNew σ (1, ci)) := by
  subst h
  refine ⟨zk_new _ _, rfl, fun f => ?_, fun f => ?_, fun q hq => absurd hq List.not_mem_nil⟩
  · show (if k = k then 0 else _) = 0
    rw [if_pos rfl]
  · show (if k = k then 0 else _) = 0
    rw [if_pos rfl]
