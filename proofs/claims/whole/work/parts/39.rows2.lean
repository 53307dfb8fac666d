theorem ZV_ifnull_n {M : ZM} {post : Option Av → ZS → Prop} {pc : Nat} {ls : Zl} {st : List Av} {σ : ZS} {kc ks : Nat} {off : Int} {tgt : Nat} (hd : decode (zmc M) pc = .ok (.ifnull off, 3)) (ht : (pc : Int) + off = (tgt : Int)) (k : ZV M post tgt ls st σ kc ks) : ZV M post pc ls (Ar none :: st) σ kc ks := ZV_ifnull (n := pc + 3) hd ht rfl (fun _ => k) (fun a h => by cases h)
theorem ZV_ifnull_s {M : ZM} {post : Option Av → ZS → Prop} {pc n : Nat} {ls : Zl} {st : List Av} {σ : ZS} {kc ks : Nat} {off : Int} {tgt a : Nat} (hd : decode (zmc M) pc = .ok (.ifnull off, 3)) (ht : (pc : Int) + off = (tgt : Int)) (hn : pc + 3 = n) (k : ZV M post n ls st σ kc ks) : ZV M post pc ls (Ar (some a) :: st) σ kc ks := ZV_ifnull (tgt := tgt) hd ht hn (fun h => by cases h) (fun _ _ => k)
theorem ZV_ifnonnull_n {M : ZM} {post : Option Av → ZS → Prop} {pc n : Nat} {ls : Zl} {st : List Av} {σ : ZS} {kc ks : Nat} {off : Int} {tgt : Nat} (hd : decode (zmc M) pc = .ok (.ifnonnull off, 3)) (ht : (pc : Int) + off = (tgt : Int)) (hn : pc + 3 = n) (k : ZV M post n ls st σ kc ks) : ZV M post pc ls (Ar none :: st) σ kc ks := ZV_ifnonnull (tgt := tgt) hd ht hn (fun a h => by cases h) (fun _ => k)
theorem ZV_ifnonnull_s {M : ZM} {post : Option Av → ZS → Prop} {pc : Nat} {ls : Zl} {st : List Av} {σ : ZS} {kc ks : Nat} {off : Int} {tgt a : Nat} (hd : decode (zmc M) pc = .ok (.ifnonnull off, 3)) (ht : (pc : Int) + off = (tgt : Int)) (k : ZV M post tgt ls st σ kc ks) : ZV M post pc ls (Ar (some a) :: st) σ kc ks := ZV_ifnonnull (n := pc + 3) hd ht rfl (fun _ _ => k) (fun h => by cases h)
theorem ZV_acmp_neI {M : ZM} {post : Option Av → ZS → Prop} {pc n : Nat} {ls : Zl} {st : List Av} {σ : ZS} {kc ks : Nat} {off : Int} {tgt a b i j : Nat} (hd : decode (zmc M) pc = .ok (.if_acmp .ne off, 3)) (ht : (pc : Int) + off = (tgt : Int)) (hn : pc + 3 = n) (hij : a = b → i = j) (hji : i = j → a = b) (kt : i ≠ j → ZV M post tgt ls st σ kc ks) (kf : i = j → ZV M post n ls st σ kc ks) : ZV M post pc ls (Ar (some b) :: Ar (some a) :: st) σ kc ks := ZV_acmp_ne hd ht hn (fun q => kt (fun y => q (by rw [hji y]))) (fun q => kf (hij (Option.some.inj q)))
theorem ZV_acmp_ne_n {M : ZM} {post : Option Av → ZS → Prop} {pc : Nat} {ls : Zl} {st : List Av} {σ : ZS} {kc ks : Nat} {off : Int} {tgt b : Nat} (hd : decode (zmc M) pc = .ok (.if_acmp .ne off, 3)) (ht : (pc : Int) + off = (tgt : Int)) (k : ZV M post tgt ls st σ kc ks) : ZV M post pc ls (Ar (some b) :: Ar none :: st) σ kc ks := ZV_acmp_ne (n := pc + 3) hd ht rfl (fun _ => k) (fun q => by cases q)
theorem ZV_kw {M : ZM} {post : Option Av → ZS → Prop} {pc : Nat} {ls : Zl} {st : List Av} {σ : ZS} {kc ks : Nat} {ks' : Nat} (h : ks' ≤ ks) (k : ZV M post pc ls st σ kc ks') : ZV M post pc ls st σ kc ks := by
  intro p l e R s m args below meth c Q D dA A hC hA hT H locs cells slots arr hP hS hD hc hs hl
  exact k p l e R s m args below meth c Q D dA A hC hA hT H locs cells slots arr hP hS hD hc (Nat.le_trans (Nat.add_le_add_left h slots) hs) hl
theorem ZV_kc {M : ZM} {post : Option Av → ZS → Prop} {pc : Nat} {ls : Zl} {st : List Av} {σ : ZS} {kc ks : Nat} {kc' : Nat} (h : kc' ≤ kc) (k : ZV M post pc ls st σ kc' ks) : ZV M post pc ls st σ kc ks := by
  intro p l e R s m args below meth c Q D dA A hC hA hT H locs cells slots arr hP hS hD hc hs hl
  exact k p l e R s m args below meth c Q D dA A hC hA hT H locs cells slots arr hP hS hD (Nat.le_trans (Nat.add_le_add_left h cells) hc) hs hl
set_option maxHeartbeats 1000000 in
/-- invokevirtual of what the receiver's class selects -/
theorem ZRun_O {M M' : ZM} {pc : Nat} {As rest : List Av} {σ : ZS} {post' : Option Av → ZS → Prop} {idx n b ci m0 : Nat} {x : MethodName} {owner : String} {b0 : ByteArray} {r0 : Option FieldType} (hM : ZC M' (Ar (some b) :: As) σ post') (hb : zCb M' n) (hl : Cond.methodLink (zmy M).cls idx x ∈ zw) (hsm : Cond.sameMethod x.cls owner x.name x.desc ∈ zw) (hi0 : Cond.instanceMethod ⟨owner, x.name, x.desc⟩ ∈ zw) (hi : Cond.instanceMethod (zmy M') ∈ zw) (hse : Cond.selects (zcl ci).1 x (zmy M') ∈ zw) (h0 : Cond.code ⟨owner, x.name, x.desc⟩ b0 m0 r0 ∈ zw) (hmh : owner ≠ "java/lang/invoke/MethodHandle" ∧ owner ≠ "java/lang/invoke/VarHandle" ∧ (parseMethodDescriptor x.desc).map (fun d => d.parameters.length) = some n) (hk : zk σ b = (1, ci)) (hci : ci < 13) (hn : As.length = n) (hd : decode (zmc M) pc = .ok (.invokevirtual idx, 3)) (hdep : zmd M' + 1 ≤ zmd M) (hr : (rest.map fun v => if zW2 v then 2 else 1).sum ≤ 8) : ZRun M pc (As.reverse ++ Ar (some b) :: rest) rest σ M' post' := by
  intro p l e R s m args below meth c D dA hC H locs cells slots arr hP harr hc hs
  obtain ⟨b1, b2, b3, b4, b5, b6⟩ := hb
  have hts := hC.2.2.2.2.1
  have hrc := hP.2 b _ (zE_obj hk)
  refine ⟨(Value.ref b :: As.map vv).toArray, va_runU (As := As.map vv) (rest := rest.map vv) ⟨hC.1, hC.2.1, hC.2.2.1, hC.2.2.2.1, hts⟩ (hM l D dA) (va_cwO (C := (zcl ci).1) n hts (zGood (fun w hw => ?_)) rfl rfl rfl h0 hmh (zRoom hC b6 hdep)) ⟨zPc_blind, ?_, fun U hU hW => ⟨rfl, by rw [hU]; exact hP, hC.2.2.2.2.2.1.warm hW⟩⟩ rfl (by rw [List.length_map]; exact hn) harr (zmap_rev As (Ar (some b) :: rest)) (zMr hr) hd ⟨Nat.le_trans hc hC.2.2.2.2.2.2.2.2.2.1, Nat.le_trans hs hC.2.2.2.2.2.2.2.2.2.2⟩⟩
  · unfold va_wsO at hw
    rcases List.mem_append.mp hw with hw | hw
    · simp only [List.mem_cons, List.not_mem_nil, or_false] at hw
      rcases hw with rfl | rfl | rfl | rfl | rfl | rfl
      · exact hl
      · exact hsm
      · exact hi0
      · exact hse
      · exact hi
      · exact b2
    · exact zws_in b1 w hw
  · obtain ⟨r, h1, cell, g1, g2, g3, -⟩ := hrc
    exact ⟨cell, g1, by rw [g3]; rfl, by rw [g2]; exact (hC.2.2.2.2.2.1.1.1 ci (zcl ci) (zcl_at ci hci)).2.1⟩
set_option maxHeartbeats 1000000 in
theorem zcallSX {p : Program} {l : Launch} {e : Env} {R : Room} {s : State} {m : MethodId} {args : Array Value} {below : List Frame} {meth : Method} {c : Code} {T : State} {locs : List Loc} {cells slots : Nat} (X : Stand p l e R s m args below meth c T locs cells slots) (hexec : p.tables.exec = Jvm.exec) {own sup : String} {index : Nat} {y : MethodName} {bytes : ByteArray} {maxL : Nat} {ret : Option FieldType}
    (hown : s.vm.findClass own = some m.cls) (hlink : (Cond.methodLink own index ⟨sup, y.name, y.desc⟩).before args s = true) (hsame : (Cond.sameMethod sup y.cls y.name y.desc).before args s = true) (hsup : (Cond.superclass own sup).before args s = true) (hsup2 : sup = y.cls ∨ (Cond.superclass sup y.cls).before args s = true)
    (hinst : (Cond.instanceMethod y).before args s = true) (hcode : (Cond.code y bytes maxL ret).before args s = true) (hno : y.name ≠ "<init>")
    {W : Nat} {Pre : Pt → Array Value → Prop} {Post : Pt → Array Value → Option Value → Pt → Prop} (hK : Back l R p e below s args y 3 W Pre Post)
    {b : Addr} {cellB : Cell} {kB : Class} (hcell : T.heap[b]? = some cellB) (hobj : cellB.vm.isStatics = false) (hkB : s.vm.classes[cellB.cls]? = some kB)
    {g : JFrame} (hg : g.method = m) (hsize : g.locals.size = c.maxLocals) {argsL rest : List Value} (hlen : ∀ sig, parseMethodDescriptor y.desc = some sig → argsL.length = sig.parameters.length)
    (hstack : g.stack = argsL.reverse ++ .ref b :: rest) (hW : 2 * g.monitorRoom + (rest.map fun v => v.category).sum ≤ W) (hdg : decode c.code g.pc = .ok (.invokespecial index, 3))
    (hpre : ∀ vm₁, s.WarmedH vm₁ → Pre ⟨T.setVm vm₁, locs, cells, slots⟩ (Value.ref b :: argsL).toArray) :
    ∃ (v : Option Value) (vm₁ : Vm) (B : Pt), s.WarmedH vm₁ ∧ Stand p l e R s m args below meth c B.U B.locs B.cells B.slots ∧ Post ⟨T.setVm vm₁, locs, cells, slots⟩ (Value.ref b :: argsL).toArray v B ∧
      ∀ target, Steps p.tables e below (B.U.setTop { g with pc := g.pc + 3, stack := v.toList ++ rest }) target → Steps p.tables e below (T.setTop g) target := by
  obtain ⟨mk, methM, hnamed, hmethM, hstM, habM⟩ := Cond.instanceMethod_spec hinst
  obtain ⟨methM', cM, hmethM', -, -, -, -, -, -, hsigM⟩ := Cond.code_spec hnamed hcode
  cases hmethM.symm.trans hmethM'
  obtain ⟨ps, dk, kp, hps, hdk, hkp, hsuper, -, -, hnid⟩ := Cond.superclass_spec hown hsup
  have hn : s.methodNamed? ⟨y.cls, y.name, y.desc⟩ = some mk := hnamed
  have hsub : s.vm.isSubclass ps mk.cls = true := by
    rcases hsup2 with h2 | h2
    · have hpm : ps = mk.cls := Option.some.inj (hps.symm.trans (by rw [h2]; exact findClass_of_methodNamed hnamed))
      rw [hpm]
      simp [Vm.isSubclass, Vm.isSubclassAux]
    · obtain ⟨ps2, dk2, kp2, hps2, hdk2, hkp2, hsuper2, -, -, -⟩ := Cond.superclass_spec hps h2
      have hpm : ps2 = mk.cls := Option.some.inj (hps2.symm.trans (findClass_of_methodNamed hnamed))
      obtain ⟨N, hN⟩ : ∃ N, s.vm.classes.size = N + 1 := by
        have := (Array.getElem?_eq_some_iff.mp hdk2).1
        exact ⟨s.vm.classes.size - 1, by omega⟩
      rw [← hpm]
      unfold Vm.isSubclass
      rw [hN, Vm.isSubclassAux, hdk2, Bool.or_eq_true]
      right
      simp only [hsuper2]
      rw [Vm.isSubclassAux, Bool.or_eq_true]
      left
      simp
  obtain ⟨vm₁, X₁, hstep₁⟩ := X.invokespecialUp hexec (x := ⟨sup, y.name, y.desc⟩) (owner := y.cls) hown hlink hsame hn hmethM hstM habM hno hdk hnid hps hsuper hsub (a := b) (cell := cellB) hcell
    (fun z h => by rw [h] at hobj; cases hobj) hkB (g := g) hg (argsL := argsL) (rest := rest) (hlen _ hsigM) hstack hdg
  obtain ⟨v, B, X', hpost, hsteps⟩ := hK m meth c ⟨T.setVm vm₁, locs, cells, slots⟩ { g with stack := rest } (.invokespecial index) mk (Value.ref b :: argsL).toArray X₁ hg hsize hdg hW (X₁.named hnamed) (hpre vm₁ X₁.warmed)
  exact ⟨v, vm₁, B, X₁.warmed, X', hpost, fun target h => hstep₁ _ (by rw [doInvoke_state]; exact hsteps.trans h)⟩
set_option maxHeartbeats 1000000 in
/-- super.m(..) -/
theorem ZRun_X {M M' : ZM} {pc : Nat} {As rest : List Av} {σ : ZS} {post' : Option Av → ZS → Prop} {idx n b ci : Nat} {sup : String} (hM : ZC M' (Ar (some b) :: As) σ post') (hb : zCb M' n) (hl : Cond.methodLink (zmy M).cls idx ⟨sup, (zmy M').name, (zmy M').desc⟩ ∈ zw) (hsm : Cond.sameMethod sup (zmy M').cls (zmy M').name (zmy M').desc ∈ zw) (hsup : Cond.superclass (zmy M).cls sup ∈ zw) (hsup2 : sup = (zmy M').cls ∨ Cond.superclass sup (zmy M').cls ∈ zw) (hi : Cond.instanceMethod (zmy M') ∈ zw) (hno : (zmy M').name ≠ "<init>") (hk : zk σ b = (1, ci)) (hci : ci < 13) (hn : As.length = n) (hd : decode (zmc M) pc = .ok (.invokespecial idx, 3)) (hdep : zmd M' + 1 ≤ zmd M) (hr : (rest.map fun v => if zW2 v then 2 else 1).sum ≤ 8) : ZRun M pc (As.reverse ++ Ar (some b) :: rest) rest σ M' post' := by
  intro p l e R s m args below meth c D dA hC H locs cells slots arr hP harr hc hs
  obtain ⟨b1, b2, b3, b4, b5, b6⟩ := hb
  have hts := hC.2.2.2.2.1
  have hrc := hP.2 b _ (zE_obj hk)
  obtain ⟨r, h1, cellB, g1, g2, g3, -⟩ := hrc
  have hat := (hC.2.2.2.2.2.1.1.1 ci (zcl ci) (zcl_at ci hci)).2
  obtain ⟨hfc, kB, hkB, -⟩ := hat
  have hG := zGood (zws_in (M := M') b1)
  have hroom := zRoom hC b6 hdep
  have hini := hts _ b2
  have hK : Back l R p e below s args (zmy M') 3 8 (PreOf R (zmC M') (zmS M') (zPc D dA (Ar (some b) :: As) σ)) (PostOf (zQc D dA σ post') (zmC M') (zmS M') (zdom σ)) := back_of (bytes := zmc M') (maxL := zmn M') (ret := zmr M') (hM l D dA) zPc_blind rfl rfl hroom.1 hroom.2 (pay_in hts hG) List.mem_cons_self (fun a' U hW => word_at hW (Or.inl (by first | rfl | simp [Cond.onTables, Cond.keeps, Cond.steady])) hini)
  refine ⟨(Value.ref b :: As.map vv).toArray, ?_⟩
  intro T hT X
  obtain ⟨v, vm₁, ⟨U', l2, c2, s2⟩, hW₁, X', ⟨g', mk, t, L, e1, e2, hq, h1, hL, h2, h3⟩, st⟩ := zcallSX X hC.1 (bytes := zmc M') (maxL := zmn M') (ret := zmr M') hC.2.2.2.1 (hts _ hl) (hts _ hsm) (hts _ hsup) (hsup2.imp id (fun h => hts _ h)) (hts _ hi) (hts _ b1) hno hK (b := b) (cellB := cellB) (kB := kB) (by rw [hT]; exact g1) (by rw [g3]; rfl) (by rw [g2]; exact hkB) (g := F0 m pc arr ((As.reverse ++ Ar (some b) :: rest).map vv)) rfl (harr.trans hC.2.2.1.symm) (argsL := As.map vv) (rest := rest.map vv) (fun sig h => by
      rw [h] at b5
      rw [List.length_map, hn]
      exact (Option.some.inj b5).symm) (zmap_rev As (Ar (some b) :: rest)) (zMr hr) (by rw [hC.2.1]; exact hd)
    (fun vm₁ hW₁ => ⟨Nat.le_trans hc hC.2.2.2.2.2.2.2.2.2.1, Nat.le_trans hs hC.2.2.2.2.2.2.2.2.2.2, rfl, by rw [show (T.setVm vm₁).heap = T.heap from rfl, hT]; exact hP, hC.2.2.2.2.2.1.warm hW₁⟩)
  dsimp only [Pt.U, Pt.locs, Pt.cells, Pt.slots] at X' e1 e2 h1 h2 h3 st
  subst h1; subst h2; subst h3
  exact ⟨v, (T.setVm vm₁).calling g' mk (Value.ref b :: As.map vv).toArray, t, U', L, hT, X', hL, e1, e2, hq, st⟩
/-- an int array's contents anew -/
def qw (σ : ZS) (a : Nat) (f : Nat → Int32) : ZS := (σ.1, σ.2.1, σ.2.2.1, σ.2.2.2.1, (fun b j => if b = a then f j else σ.2.2.2.2.1 b j), σ.2.2.2.2.2)
theorem zPut_qw (σ : ZS) (a : Nat) (f : Nat → Int32) : zPut σ (qw σ a f) a := ⟨fun _ => rfl, rfl, fun dA b hb => by
  have h1 : zi (qw σ a f) b = zi σ b := by funext i; simp [zi, qw, hb]
  unfold zE
  rw [h1]
  rfl⟩
set_option maxHeartbeats 1000000 in
theorem ZV_copy {M : ZM} {post : Option Av → ZS → Prop} {pc n : Nat} {ls : Zl} {st : List Av} {σ : ZS} {kc ks : Nat} {a0 a N0 N i j q idx : Nat} {o0 o : Option Nat} (hd : decode (zmc M) pc = .ok (.invokestatic idx, 3)) (hn : pc + 3 = n) (hlk : Cond.methodLink (zmy M).cls idx arraycopyName ∈ zw) (hnat : Cond.native arraycopyName ∈ zw) (hstat : Cond.static arraycopyName ∈ zw) (hini : Cond.initialized "java/lang/System" ∈ zw) (ho0 : o0 = some a0) (ho : o = some a) (hk0 : zk σ a0 = (2, N0)) (hk : zk σ a = (2, N)) (hi : i + q ≤ N0 ∧ i < 2147483648) (hj : j + q ≤ N ∧ j < 2147483648) (hq : q < 2147483648) (hdep : 1 ≤ zmd M) (hr : (st.map fun v => if zW2 v then 2 else 1).sum ≤ 8) (k : ZV M post n ls st (qw σ a (cpF (zi σ a) (zi σ a0) i j q)) kc ks) : ZV M post pc ls (Ai (nI q) :: Ai (nI j) :: Ar o :: Ai (nI i) :: Ar o0 :: st) σ kc ks := by
  intro p l e R s m args below meth c Q D dA A hC hA hT H locs cells slots arr hP hS hD hc hs hl
  subst hn
  subst ho
  subst ho0
  have hts := hC.2.2.2.2.1
  have hK := hC.2.2.2.2.2.1.1
  have hdA : A a := hD a (by rw [hk]; simp)
  have hc0 : H[a0]? = some (vp_cell (dA 0) (N0, .inl (zi σ a0))) := hP.2 a0 _ (zE_int hk0)
  have hc1 : H[a]? = some (vp_cell (dA 0) (N, .inl (zi σ a))) := hP.2 a _ (zE_int hk)
  obtain ⟨-, k0, hk0', cm0, hkk0⟩ := (hK.2 0 (dA 0, .int) rfl).1 N0 (fun j => .int (zi σ a0 j))
  obtain ⟨-, k1, hk1', cm1, hkk1⟩ := (hK.2 0 (dA 0, .int) rfl).1 N (fun j => .int (zi σ a j))
  have n0 : ∀ z : Nat, z < 2147483648 → ¬ nI z < 0 := fun z hz => by
    rw [Int32.lt_iff_toInt_lt, nI_toInt hz]
    show ¬ (z : Int) < 0
    omega
  have hroom : 39 ≤ R.locals := Nat.le_trans (by omega) hC.2.2.2.2.2.2.2.2.1
  have hsum := zMr (m := m) (pc := pc) (arr := arr) (st2 := []) hr
  intro T hT2 X
  obtain ⟨vm', X', step⟩ := X.arraycopy hC.1 hC.2.2.2.1 (hts _ hlk) (hts _ hnat) (hts _ hstat) (hts _ hini) (src := a0) (dst := a) (cs := vp_cell (dA 0) (N0, .inl (zi σ a0))) (cd := vp_cell (dA 0) (N, .inl (zi σ a))) (srcPos := nI i) (destPos := nI j) (n := nI q) (by rw [hT2]; exact hc0) (by rw [hT2]; exact hc1)
    (fun _ h => by cases h) (fun _ h => by cases h) (fun h => by cases h) (fun h => by cases h) hk0' hk1' hkk0 hkk1 (by simp [refKind]) (n0 i hi.2) (n0 j hj.2) (n0 q hq)
    (by rw [nI_toInt hi.2, nI_toInt hq]; show ¬ _ > ((arrV (dA 0) N0 (fun j => .int (zi σ a0 j))).slots.size : Int); rw [arrV_size]; omega)
    (by rw [nI_toInt hj.2, nI_toInt hq]; show ¬ _ > ((arrV (dA 0) N (fun j => .int (zi σ a j))).slots.size : Int); rw [arrV_size]; omega)
    (fun vm₁ _ t ht => by
      rw [nI_clamp hi.2]
      rw [nI_clamp hq] at ht
      have e : (vp_cell (dA 0) (N0, .inl (zi σ a0))).slots.getD (i + t) .null = .int (zi σ a0 (i + t)) := by
        show (arrV (dA 0) N0 (fun j => .int (zi σ a0 j))).slots.getD _ _ = _
        rw [Array.getD_eq_getD_getElem?, arrV_read _ _ (by omega)]
        rfl
      refine ⟨?_, ?_⟩
      · rw [e]
        rfl
      · rw [e]
        exact trivial)
    (g := F0 m pc arr ((Ai (nI q) :: Ai (nI j) :: Ar (some a) :: Ai (nI i) :: Ar (some a0) :: st).map vv)) rfl (by rw [hC.2.2.1]; exact hl.1) (rest := st.map vv) rfl (by rw [hC.2.1]; exact hd) (Nat.le_trans hdep hC.2.2.2.2.2.2.2.1) (by
      have h7 : nativeFrameWords "java/lang/System" "arraycopy" 5 + 11 ≤ 20 := by decide
      show 2 * 0 + _ + _ ≤ _
      simp only [] at hsum
      omega)
  have e1 : copied (vp_cell (dA 0) (N0, .inl (zi σ a0))) (vp_cell (dA 0) (N, .inl (zi σ a))) (nI i) (nI j) (nI q) = vp_cell (dA 0) (N, .inl (cpF (zi σ a) (zi σ a0) i j q)) := by
    have := va_copied (fun z => .int z) (dA 0) (dA 0) (n0 := N0) (n1 := N) (sp := i) (dp := j) (n := q) (zi σ a0) (zi σ a) hi.1
    unfold copied
    rw [nI_clamp hi.2, nI_clamp hj.2, nI_clamp hq]
    exact this
  rw [e1] at X' step
  have hl2 : a < H.size := (Array.getElem?_eq_some_iff.mp hc1).1
  have hheap : ((T.setVm vm').setCell a (vp_cell (dA 0) (N, .inl (cpF (zi σ a) (zi σ a0) i j q)))).heap = H.setIfInBounds a (vp_cell (dA 0) (N, .inl (cpF (zi σ a) (zi σ a0) i j q))) := by rw [← hT2]; rfl
  have oq : ∀ q' : Nat, q' ≠ a → (H.setIfInBounds a (vp_cell (dA 0) (N, .inl (cpF (zi σ a) (zi σ a0) i j q))))[q']? = H[q']? := fun q' hq' => by simp [Array.getElem?_setIfInBounds, Ne.symm hq']
  have hPn : zP D dA (qw σ a (cpF (zi σ a) (zi σ a0) i j q)) (H.setIfInBounds a (vp_cell (dA 0) (N, .inl (cpF (zi σ a) (zi σ a0) i j q)))) := hP.put (zPut_qw σ a _) (by simp) oq (fun y hy => by
    rw [zE_int (σ := qw σ a (cpF (zi σ a) (zi σ a0) i j q)) hk] at hy
    cases hy
    show (H.setIfInBounds a _)[a]? = some (vp_cell _ _)
    rw [Array.getElem?_setIfInBounds, if_pos rfl, if_pos hl2]
    rw [show zi (qw σ a (cpF (zi σ a) (zi σ a0) i j q)) a = cpF (zi σ a) (zi σ a0) i j q from by funext y; exact if_pos rfl])
  obtain ⟨t, a1, b1⟩ := k p l e R s m args below meth c Q D dA A hC hA hT _ _ cells slots arr hPn ⟨by simp; exact hS.1, fun q' g1 g2 => by
      rw [oq q' (fun e => g2 (by rw [e]; exact hdA))]
      exact hS.2.1 q' g1 g2, fun q' hq' => by
      rcases List.mem_append.mp hq' with h | h
      · exact hS.2.2 q' h
      · obtain ⟨z, -, hz⟩ := List.mem_map.mp h
        rw [← hz]
        exact hdA⟩ hD hc hs hl _ hheap X'
  exact ⟨t, step t a1, b1⟩
