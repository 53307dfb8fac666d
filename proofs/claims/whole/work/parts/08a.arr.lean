theorem zfound {s : State} {C : String} {comp : ClassId} (h : s.vm.findClass C = some comp) : ∃ k : Class, s.vm.classes[comp]? = some k := by
  exact Vm.classAt_of_findClass h
theorem zE_int {dA : Nat → ClassId} {σ : ZS} {a N : Nat} (h : zk σ a = (2, N)) : zE dA σ a = some (.inl (dA 0, N, .inl (zi σ a))) := by simp [zE, h]
theorem zE_bool {dA : Nat → ClassId} {σ : ZS} {a N : Nat} (h : zk σ a = (3, N)) : zE dA σ a = some (.inl (dA 1, N, .inl (zi σ a))) := by simp [zE, h]
theorem zE_long {dA : Nat → ClassId} {σ : ZS} {a N : Nat} (h : zk σ a = (4, N)) : zE dA σ a = some (.inl (dA 2, N, .inr (.inl (zl σ a)))) := by simp [zE, h]
theorem zE_ref {dA : Nat → ClassId} {σ : ZS} {a N c : Nat} (h : zk σ a = (c + 5, N)) : zE dA σ a = some (.inl (dA (c + 3), N, .inr (.inr (.inr (.inr (zr σ a)))))) := by simp [zE, h]
theorem zin {j N : Nat} (hj : j < N ∧ j < 2147483648) : vp_in (nI j) N := by
  rw [vp_in_iff, nI_toInt hj.2]
  omega
theorem zcmp {j : Nat} (hj : j < 2147483648) : (nI j).toNatClampNeg = j := nI_clamp hj
def zRC (c : Nat) : String := match c with
  | 0 => RX7
  | 1 => RX10
  | 2 => RX2
  | 3 => RX9
  | 4 => RX4
  | _ => RX8
theorem zTys_ref {dA : Nat → ClassId} : ∀ c, c < 6 → (zTys dA)[c + 3]? = some (dA (c + 3), .object (zRC c))
  | 0, _ => rfl
  | 1, _ => rfl
  | 2, _ => rfl
  | 3, _ => rfl
  | 4, _ => rfl
  | 5, _ => rfl
  | c + 6, h => absurd h (by omega)
theorem ZV_iald {M : ZM} {post : Option Av → ZS → Prop} {pc n : Nat} {ls : Zl} {st : List Av} {σ : ZS} {kc ks : Nat} {a N j : Nat} {i : Int32} {o : Option Nat} (hd : decode (zmc M) pc = .ok (.iaload, 1)) (hn : pc + 1 = n) (ho : o = some a) (hk : zk σ a = (2, N)) (hi : i = nI j) (hj : j < N ∧ j < 2147483648) (k : ZV M post n ls (Ai (zi σ a j) :: st) σ kc ks) : ZV M post pc ls (Ai i :: Ar o :: st) σ kc ks := by
  intro p l e R s m args below meth c Q D dA A hC hA hT H locs cells slots arr hP hS hD hc hs hl
  subst hn
  subst ho
  subst hi
  have hP1 := va_P1 (hP.2 a _ (zE_int hk))
  refine va_iald (D := D) (cl := vwCl) (tys := zTys dA) hC.1 hC.2.1 hC.2.2.2.2.2.1.1 hP1 0 0 rfl rfl (zin hj) hd ?_
  rw [zcmp hj.2]
  exact k p l e R s m args below meth c Q D dA A hC hA hT H locs cells slots arr hP hS hD hc hs hl
theorem ZV_bald {M : ZM} {post : Option Av → ZS → Prop} {pc n : Nat} {ls : Zl} {st : List Av} {σ : ZS} {kc ks : Nat} {a N j : Nat} {i : Int32} {o : Option Nat} (hd : decode (zmc M) pc = .ok (.baload, 1)) (hn : pc + 1 = n) (ho : o = some a) (hk : zk σ a = (3, N)) (hi : i = nI j) (hj : j < N ∧ j < 2147483648) (k : ZV M post n ls (Ai (zi σ a j) :: st) σ kc ks) : ZV M post pc ls (Ai i :: Ar o :: st) σ kc ks := by
  intro p l e R s m args below meth c Q D dA A hC hA hT H locs cells slots arr hP hS hD hc hs hl
  subst hn
  subst ho
  subst hi
  have hP1 := va_P1 (hP.2 a _ (zE_bool hk))
  refine va_zald (D := D) (cl := vwCl) (tys := zTys dA) hC.1 hC.2.1 hC.2.2.2.2.2.1.1 hP1 0 1 rfl rfl (zin hj) hd ?_
  rw [zcmp hj.2]
  exact k p l e R s m args below meth c Q D dA A hC hA hT H locs cells slots arr hP hS hD hc hs hl
theorem ZV_lald {M : ZM} {post : Option Av → ZS → Prop} {pc n : Nat} {ls : Zl} {st : List Av} {σ : ZS} {kc ks : Nat} {a N j : Nat} {i : Int32} {o : Option Nat} (hd : decode (zmc M) pc = .ok (.laload, 1)) (hn : pc + 1 = n) (ho : o = some a) (hk : zk σ a = (4, N)) (hi : i = nI j) (hj : j < N ∧ j < 2147483648) (k : ZV M post n ls (Al (zl σ a j) :: st) σ kc ks) : ZV M post pc ls (Ai i :: Ar o :: st) σ kc ks := by
  intro p l e R s m args below meth c Q D dA A hC hA hT H locs cells slots arr hP hS hD hc hs hl
  subst hn
  subst ho
  subst hi
  have hP1 := va_P1 (hP.2 a _ (zE_long hk))
  refine va_lald (D := D) (cl := vwCl) (tys := zTys dA) hC.1 hC.2.1 hC.2.2.2.2.2.1.1 hP1 0 2 rfl rfl (zin hj) hd ?_
  rw [zcmp hj.2]
  exact k p l e R s m args below meth c Q D dA A hC hA hT H locs cells slots arr hP hS hD hc hs hl
theorem ZV_aald {M : ZM} {post : Option Av → ZS → Prop} {pc n : Nat} {ls : Zl} {st : List Av} {σ : ZS} {kc ks : Nat} {a N j c0 : Nat} {i : Int32} {o : Option Nat} (hd : decode (zmc M) pc = .ok (.aaload, 1)) (hn : pc + 1 = n) (hc0 : c0 < 6) (ho : o = some a) (hk : zk σ a = (c0 + 5, N)) (hi : i = nI j) (hj : j < N ∧ j < 2147483648) (k : ZV M post n ls (Ar (zr σ a j) :: st) σ kc ks) : ZV M post pc ls (Ai i :: Ar o :: st) σ kc ks := by
  intro p l e R s m args below meth c Q D dA A hC hA hT H locs cells slots arr hP hS hD hc hs hl
  subst hn
  subst ho
  subst hi
  have hP1 := va_P1 (hP.2 a _ (zE_ref hk))
  refine va_aldq (D := D) (cl := vwCl) (tys := zTys dA) hC.1 hC.2.1 hC.2.2.2.2.2.1.1 hP1 0 (c0 + 3) rfl (zTys_ref c0 hc0) (zin hj) hd ?_
  rw [zcmp hj.2]
  exact k p l e R s m args below meth c Q D dA A hC hA hT H locs cells slots arr hP hS hD hc hs hl
theorem ZV_alen {M : ZM} {post : Option Av → ZS → Prop} {pc n : Nat} {ls : Zl} {st : List Av} {σ : ZS} {kc ks : Nat} {a t N : Nat} {o : Option Nat} (hd : decode (zmc M) pc = .ok (.arraylength, 1)) (hn : pc + 1 = n) (ho : o = some a) (hk : zk σ a = (t + 2, N)) (ht : t < 9) (k : ZV M post n ls (Ai (nI N) :: st) σ kc ks) : ZV M post pc ls (Ar o :: st) σ kc ks := by
  intro p l e R s m args below meth c Q D dA A hC hA hT H locs cells slots arr hP hS hD hc hs hl
  subst hn
  subst ho
  have hK := hC.2.2.2.2.2.1.1
  match t, hk, ht with
  | 0, hk, _ => exact va_alen (D := D) (cl := vwCl) (tys := zTys dA) hC.1 hC.2.1 hK (va_P1 (hP.2 a _ (zE_int hk))) 0 0 rfl (ty := .int) rfl rfl hd (k p l e R s m args below meth c Q D dA A hC hA hT H locs cells slots arr hP hS hD hc hs hl)
  | 1, hk, _ => exact va_alen (D := D) (cl := vwCl) (tys := zTys dA) hC.1 hC.2.1 hK (va_P1 (hP.2 a _ (zE_bool hk))) 0 1 rfl (ty := .boolean) rfl rfl hd (k p l e R s m args below meth c Q D dA A hC hA hT H locs cells slots arr hP hS hD hc hs hl)
  | 2, hk, _ => exact va_alen (D := D) (cl := vwCl) (tys := zTys dA) hC.1 hC.2.1 hK (va_P1 (hP.2 a _ (zE_long hk))) 0 2 rfl (ty := .long) rfl rfl hd (k p l e R s m args below meth c Q D dA A hC hA hT H locs cells slots arr hP hS hD hc hs hl)
  | c0 + 3, hk, h => exact va_alen (D := D) (cl := vwCl) (tys := zTys dA) hC.1 hC.2.1 hK (va_P1 (hP.2 a _ (zE_ref (c := c0) hk))) 0 (c0 + 3) rfl (zTys_ref c0 (by omega)) rfl hd (k p l e R s m args below meth c Q D dA A hC hA hT H locs cells slots arr hP hS hD hc hs hl)
theorem zPut_qi (σ : ZS) (a j : Nat) (v : Int32) : zPut σ (qi σ a j v) a := ⟨fun _ => rfl, rfl, fun dA b hb => by
  have h1 : zi (qi σ a j v) b = zi σ b := by funext i; simp [zi, qi, z2, hb]
  unfold zE
  rw [h1]
  rfl⟩
theorem zPut_ql (σ : ZS) (a j : Nat) (v : Int64) : zPut σ (ql σ a j v) a := ⟨fun _ => rfl, rfl, fun dA b hb => by
  have h1 : zl (ql σ a j v) b = zl σ b := by funext i; simp [zl, ql, z2, hb]
  unfold zE
  rw [h1]
  rfl⟩
theorem zPut_qr (σ : ZS) (a j : Nat) (v : Option Nat) : zPut σ (qr σ a j v) a := ⟨fun _ => rfl, rfl, fun dA b hb => by
  have h1 : zr (qr σ a j v) b = zr σ b := by funext i; simp [zr, qr, z2, hb]
  unfold zE
  rw [h1]
  rfl⟩
theorem ZV_iast {M : ZM} {post : Option Av → ZS → Prop} {pc n : Nat} {ls : Zl} {st : List Av} {σ : ZS} {kc ks : Nat} {a N j : Nat} {i : Int32} {o : Option Nat} {x : Int32} (hd : decode (zmc M) pc = .ok (.iastore, 1)) (hn : pc + 1 = n)  (ho : o = some a) (hk : zk σ a = (2, N)) (hi : i = nI j) (hj : j < N ∧ j < 2147483648) (k : ZV M post n ls st (qi σ a j x) kc ks) : ZV M post pc ls (Ai x :: Ai i :: Ar o :: st) σ kc ks := by
  intro p l e R s m args below meth c Q D dA A hC hA hT H locs cells slots arr hP hS hD hc hs hl
  subst hn
  subst ho
  subst hi
  have hdA : A a := hD a (by rw [hk]; simp)
  refine W.iast hC.1 hC.2.1 (hP.2 a _ (zE_int hk)) ((hC.2.2.2.2.2.1.1.2 0 (dA 0, .int) rfl).1 N (fun q => .int (zi σ a q))) (fun q => by cases q) (by show ¬ (nI j < 0 ∨ (arrV _ _ _).slots.size ≤ _); rw [arrV_size]; exact zin hj) rfl rfl hd fun H1 e1 e2 e3 => ?_
  rw [zcmp hj.2] at e1 ⊢
  refine k p l e R s m args below meth c Q D dA A hC hA hT H1 _ cells slots arr (hP.put (zPut_qi σ a j x) e2 e3 (fun y hy => ?_)) (hS.put e2 e3 hdA) hD hc hs hl
  rw [zE_int (σ := qi σ a j x) hk] at hy
  cases hy
  show H1[a]? = some (vp_cell _ _)
  rw [e1, vp_cell_i, vp_cell_i, arrV_store]
  congr 2
  funext q
  by_cases hq : q = j
  · subst hq
    simp [updV, zi, qi, z2]
  · simp [updV, zi, qi, z2, hq]
theorem ZV_bast {M : ZM} {post : Option Av → ZS → Prop} {pc n : Nat} {ls : Zl} {st : List Av} {σ : ZS} {kc ks : Nat} {a N j : Nat} {i : Int32} {o : Option Nat} {x : Int32} (hd : decode (zmc M) pc = .ok (.bastore, 1)) (hn : pc + 1 = n) (hb : x = 0 ∨ x = 1) (ho : o = some a) (hk : zk σ a = (3, N)) (hi : i = nI j) (hj : j < N ∧ j < 2147483648) (k : ZV M post n ls st (qi σ a j x) kc ks) : ZV M post pc ls (Ai x :: Ai i :: Ar o :: st) σ kc ks := by
  intro p l e R s m args below meth c Q D dA A hC hA hT H locs cells slots arr hP hS hD hc hs hl
  subst hn
  subst ho
  subst hi
  have hdA : A a := hD a (by rw [hk]; simp)
  refine W.zast hC.1 hC.2.1 (hP.2 a _ (zE_bool hk)) ((hC.2.2.2.2.2.1.1.2 1 (dA 1, .boolean) rfl).1 N (fun q => .int (zi σ a q))) (fun q => by cases q) (by show ¬ (nI j < 0 ∨ (arrV _ _ _).slots.size ≤ _); rw [arrV_size]; exact zin hj) rfl rfl hd fun H1 e1 e2 e3 => ?_
  rw [zcmp hj.2] at e1 ⊢
  refine k p l e R s m args below meth c Q D dA A hC hA hT H1 _ cells slots arr (hP.put (zPut_qi σ a j x) e2 e3 (fun y hy => ?_)) (hS.put e2 e3 hdA) hD hc hs hl
  rw [zE_bool (σ := qi σ a j x) hk] at hy
  cases hy
  show H1[a]? = some (vp_cell _ _)
  rw [e1, show narrow .boolean (.int x) = .int x by rcases hb with rfl | rfl <;> rfl, vp_cell_i, vp_cell_i, arrV_store]
  congr 2
  funext q
  by_cases hq : q = j
  · subst hq
    simp [updV, zi, qi, z2]
  · simp [updV, zi, qi, z2, hq]
theorem ZV_last {M : ZM} {post : Option Av → ZS → Prop} {pc n : Nat} {ls : Zl} {st : List Av} {σ : ZS} {kc ks : Nat} {a N j : Nat} {i : Int32} {o : Option Nat} {x : Int64} (hd : decode (zmc M) pc = .ok (.lastore, 1)) (hn : pc + 1 = n)  (ho : o = some a) (hk : zk σ a = (4, N)) (hi : i = nI j) (hj : j < N ∧ j < 2147483648) (k : ZV M post n ls st (ql σ a j x) kc ks) : ZV M post pc ls (Al x :: Ai i :: Ar o :: st) σ kc ks := by
  intro p l e R s m args below meth c Q D dA A hC hA hT H locs cells slots arr hP hS hD hc hs hl
  subst hn
  subst ho
  subst hi
  have hdA : A a := hD a (by rw [hk]; simp)
  refine W.last hC.1 hC.2.1 (hP.2 a _ (zE_long hk)) ((hC.2.2.2.2.2.1.1.2 2 (dA 2, .long) rfl).1 N (fun q => .long (zl σ a q))) (fun q => by cases q) (by show ¬ (nI j < 0 ∨ (arrV _ _ _).slots.size ≤ _); rw [arrV_size]; exact zin hj) rfl rfl hd fun H1 e1 e2 e3 => ?_
  rw [zcmp hj.2] at e1 ⊢
  refine k p l e R s m args below meth c Q D dA A hC hA hT H1 _ cells slots arr (hP.put (zPut_ql σ a j x) e2 e3 (fun y hy => ?_)) (hS.put e2 e3 hdA) hD hc hs hl
  rw [zE_long (σ := ql σ a j x) hk] at hy
  cases hy
  show H1[a]? = some (vp_cell _ _)
  rw [e1, vp_cell_l, vp_cell_l, arrV_store]
  congr 2
  funext q
  by_cases hq : q = j
  · subst hq
    simp [updV, zl, ql, z2]
  · simp [updV, zl, ql, z2, hq]
/-- a reference array takes objects of its own class (instruments of any kind: by the castable words) -/
def zTk (c0 ci : Nat) : Prop := ci < 13 ∧ ((zcl ci).1 = zRC c0 ∨ Cond.castable (zcl ci).1 (zRC c0) ∈ zx)
set_option maxHeartbeats 1000000 in
theorem ZV_aast {M : ZM} {post : Option Av → ZS → Prop} {pc n : Nat} {ls : Zl} {st : List Av} {σ : ZS} {kc ks : Nat} {a N j c0 : Nat} {i : Int32} {o x : Option Nat} (hd : decode (zmc M) pc = .ok (.aastore, 1)) (hn : pc + 1 = n) (hc0 : c0 < 6) (hx : ∀ b, x = some b → ∃ ci, zk σ b = (1, ci) ∧ zTk c0 ci) (ho : o = some a) (hk : zk σ a = (c0 + 5, N)) (hi : i = nI j) (hj : j < N ∧ j < 2147483648) (k : ZV M post n ls st (qr σ a j x) kc ks) : ZV M post pc ls (Ar x :: Ai i :: Ar o :: st) σ kc ks := by
  intro p l e R s m args below meth c Q D dA A hC hA hT H locs cells slots arr hP hS hD hc hs hl
  subst hn
  subst ho
  subst hi
  have hdA : A a := hD a (by rw [hk]; simp)
  have hK := hC.2.2.2.2.2.1.1
  have hcell := hP.2 a _ (zE_ref hk)
  have key : ∀ H1 : Heap, H1[a]? = some ((vp_cell (dA (c0 + 3)) (N, .inr (.inr (.inr (.inr (zr σ a)))))).setSlot j (va_rf x)) → H1.size = H.size → (∀ q, q ≠ a → H1[q]? = H[q]?) → W p l e R s m args below meth c H1 (locs ++ [⟨a, j⟩]) cells slots Q (F0 m (pc + 1) arr (st.map vv)) := by
    intro H1 e1 e2 e3
    refine k p l e R s m args below meth c Q D dA A hC hA hT H1 _ cells slots arr (hP.put (zPut_qr σ a j x) e2 e3 (fun y hy => ?_)) (hS.put e2 e3 hdA) hD hc hs hl
    rw [zE_ref (σ := qr σ a j x) hk] at hy
    cases hy
    show H1[a]? = some (vp_cell _ _)
    rw [e1, vp_cell_q, vp_cell_q, arrV_store]
    congr 2
    funext q
    by_cases hq : q = j
    · subst hq
      simp [updV, zr, qr, z2]
    · simp [updV, zr, qr, z2, hq]
  cases x with
  | none =>
    refine va_WaastN (C := zRC c0) hC.1 hC.2.1 hcell ((hK.2 (c0 + 3) _ (zTys_ref c0 hc0)).1 N (fun q => va_rf (zr σ a q))) (fun h => by cases h) (by show ¬ (nI j < 0 ∨ (arrV _ _ _).slots.size ≤ _); rw [arrV_size]; exact zin hj) rfl rfl hd fun H1 e1 e2 e3 => ?_
    rw [zcmp hj.2] at e1 ⊢
    exact key H1 e1 e2 e3
  | some b =>
    obtain ⟨ci, hkb, hci, htk⟩ := hx b rfl
    obtain ⟨r', hr', cellV, g1, g2, g3, -⟩ := hP.2 b _ (zE_obj hkb)
    have hcls := (hK.1 ci (zcl ci) (zcl_at ci hci)).2
    obtain ⟨kA, comp, k1, k2, k3, -⟩ := (hK.2 (c0 + 3) _ (zTys_ref c0 hc0)).2
    have hasg : s.vm.assignable (D.1 ci) comp = true := by
      rcases htk with h | h
      · have : comp = D.1 ci := Option.some.inj (k3.symm.trans (by rw [← h]; exact hcls.1))
        rw [this]
        exact va_assign hcls
      · exact vb_asgC (hC.2.2.2.2.2.1.2 _ h) comp (D.1 ci) k3 hcls.1
    obtain ⟨kC, hkC, -⟩ := hcls.2
    obtain ⟨kco, hkco⟩ : ∃ kco : Class, s.vm.classes[comp]? = some kco := zfound k3
    have hin := zin hj
    unfold vp_in at hin
    refine W.aast hC.1 hC.2.1 hcell (fun q h => by cases h) (fun h => by cases h) k1 k2 rfl hkco ⟨fun q => hin (Or.inl q), by show _ < (arrV _ _ _).slots.size; rw [arrV_size]; exact Nat.not_le.mp (fun q => hin (Or.inr q))⟩ g1 (fun q h => by rw [g3] at h; cases h) (by rw [g2]; exact hkC) (by rw [g2]; exact hasg) rfl rfl hd fun H1 e1 e2 e3 => ?_
    rw [zcmp hj.2] at e1 ⊢
    exact key H1 e1 e2 e3
theorem zE_new_ne {dA : Nat → ClassId} {σ : ZS} {kd : Nat × Nat} {a : Nat} (h : a ≠ zn σ) : zE dA (zNew σ kd) a = zE dA σ a := by
  have h0 : zk (zNew σ kd) a = zk σ a := by simp [zk, zNew, va_up, h]
  have h1 : zi (zNew σ kd) a = zi σ a := by funext i; simp [zi, zNew, h]
  have h2 : zl (zNew σ kd) a = zl σ a := by funext i; simp [zl, zNew, h]
  have h3 : zr (zNew σ kd) a = zr σ a := by funext i; simp [zr, zNew, h]
  have h4 : ∀ ci, zVs (zNew σ kd) ci a = zVs σ ci a := by
    intro ci
    unfold zVs
    apply List.map_congr_left
    intro q _
    unfold zV1
    have e1 : zI (zNew σ kd) q.2 a = zI σ q.2 a := by simp [zI, zNew, h]
    have e2 : zL (zNew σ kd) q.2 a = zL σ q.2 a := by simp [zL, zNew, h]
    have e3 : zR (zNew σ kd) q.2 a = zR σ q.2 a := by simp [zR, zNew, h]
    rw [e1, e2, e3]
  unfold zE
  rw [h0, h1, h2, h3]
  split <;> first | rfl | simp [h4]
theorem zP.new {D : va_G} {dA : Nat → ClassId} {σ : ZS} {kd : Nat × Nat} {H H1 : Heap} (h : zP D dA σ H) (hz : H1.size = H.size + 1) (ho : ∀ q : Nat, q < H.size → H1[q]? = H[q]?) (ha : ∀ x, zE dA (zNew σ kd) (zn σ) = some x → va_at D vwCl (zn σ, x) H1) : zP D dA (zNew σ kd) H1 := by
  refine ⟨?_, fun b x hb => ?_⟩
  · show zn σ + 1 = H1.size
    rw [hz, h.1]
  by_cases hba : b = zn σ
  · subst hba; exact ha x hb
  · rw [zE_new_ne hba] at hb
    have := h.2 b x hb
    exact this.kept (ho b this.lt)
theorem zk_new (σ : ZS) (kd : Nat × Nat) : zk (zNew σ kd) (zn σ) = kd := by simp [zk, zNew, va_up]
theorem zk_new_ne {σ : ZS} {kd : Nat × Nat} {a : Nat} (h : a ≠ zn σ) : zk (zNew σ kd) a = zk σ a := by simp [zk, zNew, va_up, h]
set_option maxHeartbeats 1000000 in
theorem ZV_newI {M : ZM} {post : Option Av → ZS → Prop} {pc n : Nat} {ls : Zl} {st : List Av} {σ : ZS} {kc ks : Nat} {N : Nat} {x : Int32} (hd : decode (zmc M) pc = .ok (.newarray .int, 2)) (hn : pc + 2 = n) (hx : x = nI N) (hN : N ≤ 100000) (k : ZV M post n ls (Ar (some (zn σ)) :: st) (zNew σ (2, N)) kc ks) : ZV M post pc ls (Ai x :: st) σ (kc + 1) (ks + N) := by
  intro p l e R s m args below meth c Q D dA A hC hA hT H locs cells slots arr hP hS hD hc hs hl
  subst hn
  subst hx
  have hz0 : H.size = zn σ := hP.1.symm
  refine va_newaK (atype := .int) hC.1 hC.2.1 (hC.2.2.2.2.1 _ wd_1_97) rfl hd rfl (nI_pos (by omega)) (nI_clamp (by omega)) (by show N * 4 ≤ 536870912; omega) (Nat.le_trans (by omega : cells + 1 ≤ zmC M) hC.2.2.2.2.2.2.2.2.2.1) (Nat.le_trans (by omega : slots + N ≤ zmS M) hC.2.2.2.2.2.2.2.2.2.2) hz0 fun H1 cA e1 e2 e3 hAr hNm => ?_
  have hcA : cA = dA 0 := Option.some.inj (hNm.symm.trans (hC.2.2.2.2.2.1.1.2 0 _ rfl).2)
  subst hcA
  refine k p l e R s m args below meth c Q D dA A hC hA hT H1 _ (cells + 1) (slots + N) arr (hP.new (by rw [e2, hz0]) (by rw [hz0]; exact e3) (fun y hy => ?_)) ⟨Nat.le_trans hS.1 (by rw [e2, hz0]; omega), fun q h1 h2 => (e3 q (by rw [← hz0]; exact Nat.lt_of_lt_of_le h1 hS.1)).trans (hS.2.1 q h1 h2), hS.2.2⟩ (fun b hb => ?_) (by omega) (by omega) hl
  · rw [zE_int (zk_new σ (2, N))] at hy
    cases hy
    show H1[zn σ]? = some (vp_cell _ _)
    rw [e1, vp_cell_i]
    congr 2
    funext q
    simp [zi, zNew]
    rfl
  · by_cases hb2 : b = zn σ
    · rw [hb2, ← hz0]; exact hA _ hS.1
    · rw [zk_new_ne hb2] at hb; exact hD b hb
set_option maxHeartbeats 1000000 in
theorem ZV_newZ {M : ZM} {post : Option Av → ZS → Prop} {pc n : Nat} {ls : Zl} {st : List Av} {σ : ZS} {kc ks : Nat} {N : Nat} {x : Int32} (hd : decode (zmc M) pc = .ok (.newarray .boolean, 2)) (hn : pc + 2 = n) (hx : x = nI N) (hN : N ≤ 100000) (k : ZV M post n ls (Ar (some (zn σ)) :: st) (zNew σ (3, N)) kc ks) : ZV M post pc ls (Ai x :: st) σ (kc + 1) (ks + N) := by
  intro p l e R s m args below meth c Q D dA A hC hA hT H locs cells slots arr hP hS hD hc hs hl
  subst hn
  subst hx
  have hz0 : H.size = zn σ := hP.1.symm
  refine va_newaK (atype := .boolean) hC.1 hC.2.1 (hC.2.2.2.2.1 _ wd_5_75) rfl hd rfl (nI_pos (by omega)) (nI_clamp (by omega)) (by show N * 1 ≤ 536870912; omega) (Nat.le_trans (by omega : cells + 1 ≤ zmC M) hC.2.2.2.2.2.2.2.2.2.1) (Nat.le_trans (by omega : slots + N ≤ zmS M) hC.2.2.2.2.2.2.2.2.2.2) hz0 fun H1 cA e1 e2 e3 hAr hNm => ?_
  have hcA : cA = dA 1 := Option.some.inj (hNm.symm.trans (hC.2.2.2.2.2.1.1.2 1 _ rfl).2)
  subst hcA
  refine k p l e R s m args below meth c Q D dA A hC hA hT H1 _ (cells + 1) (slots + N) arr (hP.new (by rw [e2, hz0]) (by rw [hz0]; exact e3) (fun y hy => ?_)) ⟨Nat.le_trans hS.1 (by rw [e2, hz0]; omega), fun q h1 h2 => (e3 q (by rw [← hz0]; exact Nat.lt_of_lt_of_le h1 hS.1)).trans (hS.2.1 q h1 h2), hS.2.2⟩ (fun b hb => ?_) (by omega) (by omega) hl
  · rw [zE_bool (zk_new σ (3, N))] at hy
    cases hy
    show H1[zn σ]? = some (vp_cell _ _)
    rw [e1, vp_cell_i]
    congr 2
    funext q
    simp [zi, zNew]
    rfl
  · by_cases hb2 : b = zn σ
    · rw [hb2, ← hz0]; exact hA _ hS.1
    · rw [zk_new_ne hb2] at hb; exact hD b hb
set_option maxHeartbeats 1000000 in
theorem ZV_newJ {M : ZM} {post : Option Av → ZS → Prop} {pc n : Nat} {ls : Zl} {st : List Av} {σ : ZS} {kc ks : Nat} {N : Nat} {x : Int32} (hd : decode (zmc M) pc = .ok (.newarray .long, 2)) (hn : pc + 2 = n) (hx : x = nI N) (hN : N ≤ 100000) (k : ZV M post n ls (Ar (some (zn σ)) :: st) (zNew σ (4, N)) kc ks) : ZV M post pc ls (Ai x :: st) σ (kc + 1) (ks + N) := by
  intro p l e R s m args below meth c Q D dA A hC hA hT H locs cells slots arr hP hS hD hc hs hl
  subst hn
  subst hx
  have hz0 : H.size = zn σ := hP.1.symm
  refine va_newaK (atype := .long) hC.1 hC.2.1 (hC.2.2.2.2.1 _ wd_1_96) rfl hd rfl (nI_pos (by omega)) (nI_clamp (by omega)) (by show N * 8 ≤ 536870912; omega) (Nat.le_trans (by omega : cells + 1 ≤ zmC M) hC.2.2.2.2.2.2.2.2.2.1) (Nat.le_trans (by omega : slots + N ≤ zmS M) hC.2.2.2.2.2.2.2.2.2.2) hz0 fun H1 cA e1 e2 e3 hAr hNm => ?_
  have hcA : cA = dA 2 := Option.some.inj (hNm.symm.trans (hC.2.2.2.2.2.1.1.2 2 _ rfl).2)
  subst hcA
  refine k p l e R s m args below meth c Q D dA A hC hA hT H1 _ (cells + 1) (slots + N) arr (hP.new (by rw [e2, hz0]) (by rw [hz0]; exact e3) (fun y hy => ?_)) ⟨Nat.le_trans hS.1 (by rw [e2, hz0]; omega), fun q h1 h2 => (e3 q (by rw [← hz0]; exact Nat.lt_of_lt_of_le h1 hS.1)).trans (hS.2.1 q h1 h2), hS.2.2⟩ (fun b hb => ?_) (by omega) (by omega) hl
  · rw [zE_long (zk_new σ (4, N))] at hy
    cases hy
    show H1[zn σ]? = some (vp_cell _ _)
    rw [e1, vp_cell_l]
    congr 2
    funext q
    simp [zl, zNew]
    rfl
  · by_cases hb2 : b = zn σ
    · rw [hb2, ← hz0]; exact hA _ hS.1
    · rw [zk_new_ne hb2] at hb; exact hD b hb
set_option maxHeartbeats 1000000 in
theorem ZV_newR {M : ZM} {post : Option Av → ZS → Prop} {pc n : Nat} {ls : Zl} {st : List Av} {σ : ZS} {kc ks : Nat} {N idx c0 : Nat} {x : Int32} (hd : decode (zmc M) pc = .ok (.anewarray idx, 3)) (hn : pc + 3 = n) (hc0 : c0 < 6) (hcl : Cond.classLink (zmy M).cls idx (zRC c0) ∈ zw) (hov : Cond.arrayOver (.object (zRC c0)) ∈ zx) (hx : x = nI N) (hN : N ≤ 100000) (k : ZV M post n ls (Ar (some (zn σ)) :: st) (zNew σ (c0 + 5, N)) kc ks) : ZV M post pc ls (Ai x :: st) σ (kc + 1) (ks + N) := by
  intro p l e R s m args below meth c Q D dA A hC hA hT H locs cells slots arr hP hS hD hc hs hl
  subst hn
  subst hx
  have hz0 : zn σ = H.size := hP.1
  have hcl0 : (nI N).toNatClampNeg = N := nI_clamp (by omega)
  refine W.anew hC.1 hC.2.1 hC.2.2.2.1 (hC.2.2.2.2.1 _ hcl) (va_AO.use (hC.2.2.2.2.2.1.2 _ hov)) rfl hd rfl (nI_pos (by omega)) (by rw [hcl0]; omega) (Nat.le_trans (by omega : cells + 1 ≤ zmC M) hC.2.2.2.2.2.2.2.2.2.1) (Nat.le_trans (by rw [hcl0]; omega : slots + (nI N).toNatClampNeg ≤ zmS M) hC.2.2.2.2.2.2.2.2.2.2) fun cA kA comp f1 f2 f3 f4 => ?_
  rw [hcl0]
  obtain ⟨kA', comp', -, -, -, hNm⟩ := (hC.2.2.2.2.2.1.1.2 (c0 + 3) _ (zTys_ref c0 hc0)).2
  have hcA : cA = dA (c0 + 3) := Option.some.inj (f1.symm.trans hNm)
  subst hcA
  have e2 : (H.push ({ cls := dA (c0 + 3), slots := Array.replicate N .null, vm := .none } : Cell)).size = H.size + 1 := Array.size_push _
  have e3 : ∀ q : Nat, q < H.size → (H.push ({ cls := dA (c0 + 3), slots := Array.replicate N .null, vm := .none } : Cell))[q]? = H[q]? := fun q hq => by rw [Array.getElem?_push, if_neg (Nat.ne_of_lt hq)]
  have e1 : (H.push ({ cls := dA (c0 + 3), slots := Array.replicate N .null, vm := .none } : Cell))[H.size]? = some (arrV (dA (c0 + 3)) N (fun _ => .null)) := by rw [Array.getElem?_push_size, ← arrV_new]
  generalize H.push ({ cls := dA (c0 + 3), slots := Array.replicate N .null, vm := .none } : Cell) = H1 at e1 e2 e3 ⊢
  rw [← hz0]
  refine k p l e R s m args below meth c Q D dA A hC hA hT H1 _ (cells + 1) (slots + N) arr (hP.new e2 e3 (fun y hy => ?_)) ⟨Nat.le_trans hS.1 (by rw [e2]; omega), fun q h1 h2 => (e3 q (Nat.lt_of_lt_of_le h1 hS.1)).trans (hS.2.1 q h1 h2), hS.2.2⟩ (fun b hb => ?_) (by omega) (by omega) hl
  · rw [zE_ref (zk_new σ (c0 + 5, N))] at hy
    cases hy
    show H1[zn σ]? = some (vp_cell _ _)
    rw [hz0, e1, vp_cell_q]
    congr 2
    funext q
    simp [zr, zNew, va_rf, hz0]
  · by_cases hb2 : b = zn σ
    · rw [hb2, hz0]; exact hA _ hS.1
    · rw [zk_new_ne hb2] at hb; exact hD b hb
set_option maxHeartbeats 1000000 in
theorem ZV_newC {M : ZM} {post : Option Av → ZS → Prop} {pc n : Nat} {ls : Zl} {st : List Av} {σ : ZS} {kc ks : Nat} {idx ci N : Nat} (hd : decode (zmc M) pc = .ok (.new idx, 3)) (hn : pc + 3 = n) (hci : ci < 13) (hN : (zcl ci).2.2 = N) (hcl : Cond.classLink (zmy M).cls idx (zcl ci).1 ∈ zw) (hin0 : Cond.instantiable (zcl ci).1 N ∈ zw) (hini : Cond.initialized (zcl ci).1 ∈ zw) (k : ZV M post n ls (Ar (some (zn σ)) :: st) (zNew σ (1, ci)) kc ks) : ZV M post pc ls st σ (kc + 1) (ks + N) := by
  intro p l e R s m args below meth c Q D dA A hC hA hT H locs cells slots arr hP hS hD hc hs hl
  subst hn
  subst hN
  have hts := hC.2.2.2.2.1
  have hz0 : H.size = zn σ := hP.1.symm
  have hKn := hC.2.2.2.2.2.1.1.1 ci _ (zcl_at ci hci)
  refine W.newcK hC.1 hC.2.1 hC.2.2.2.1 (hts _ hcl) (hts _ hin0) (hts _ hini) rfl hd (Nat.le_trans (by omega : cells + 1 ≤ zmC M) hC.2.2.2.2.2.2.2.2.2.1) (Nat.le_trans (by omega : slots + (zcl ci).2.2 ≤ zmS M) hC.2.2.2.2.2.2.2.2.2.2) hKn.2.1 hz0 fun H1 kC hkC e1 e2 e3 => ?_
  refine k p l e R s m args below meth c Q D dA A hC hA hT H1 _ (cells + 1) (slots + (zcl ci).2.2) arr (hP.new (by rw [e2, hz0]) (by rw [hz0]; exact e3) (fun y hy => ?_)) ⟨Nat.le_trans hS.1 (by rw [e2, hz0]; omega), fun q h1 h2 => (e3 q (by rw [← hz0]; exact Nat.lt_of_lt_of_le h1 hS.1)).trans (hS.2.1 q h1 h2), hS.2.2⟩ (fun b hb => ?_) (by omega) (by omega) hl
  · rw [zE_obj (zk_new σ (1, ci))] at hy
    cases hy
    refine ⟨_, zcl_at ci hci, (u_born (zty ci) hts (zcl_in ci hci) hKn hkC e1 (zcl_ty ci hci)).to (fun j hj => ?_)⟩
    have hl0 : j < (zF ci).length := by rw [zF_len ci hci]; exact hj
    obtain ⟨q, hq⟩ : ∃ q, (zF ci)[j]? = some q := ⟨_, List.getElem?_eq_getElem hl0⟩
    have hc9 := zF_c hq
    have hv : vp_V (zVs (zNew σ (1, ci)) ci (zn σ)) j = zV1 (zNew σ (1, ci)) q (zn σ) := by
      unfold vp_V
      rw [List.getD_eq_getElem?_getD, zVs_at hq]
      rfl
    rw [hv]
    obtain ⟨t, f⟩ := q
    have h2 := zF_2 hq
    simp only at h2 hc9
    rcases (show t = 0 ∨ t = 1 ∨ t = 2 by omega) with rfl | rfl | rfl
    · have : zV1 (zNew σ (1, ci)) (0, f) (zn σ) = .int 0 := by simp [zV1, zI, zNew]
      rw [this]
      cases hz : zty ci j <;> rw [hz] at hc9 <;> simp [zFc] at hc9 <;> rfl
    · have : zV1 (zNew σ (1, ci)) (1, f) (zn σ) = .long 0 := by simp [zV1, zL, zNew]
      rw [this]
      cases hz : zty ci j <;> rw [hz] at hc9 <;> simp [zFc] at hc9 <;> rfl
    · have : zV1 (zNew σ (1, ci)) (2, f) (zn σ) = .null := by simp [zV1, zR, zNew, va_rf]
      rw [this]
      cases hz : zty ci j <;> rw [hz] at hc9 <;> simp [zFc] at hc9 <;> rfl
  · by_cases hb2 : b = zn σ
    · rw [hb2, ← hz0]; exact hA _ hS.1
    · rw [zk_new_ne hb2] at hb; exact hD b hb
