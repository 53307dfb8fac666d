/-- a new object at x, with the first arrays of L behind it, all 0 -/
def nB (ci x : Nat) (L : List (Nat × Nat × Nat × Nat)) (σ : ZS) : Prop := zk σ x = (1, ci) ∧ zn σ = x + 1 + L.length ∧ (∀ f, zI σ f x = 0) ∧ (∀ f, zL σ f x = 0) ∧ ∀ q ∈ L, zR σ q.1 x = some (x + q.2.1) ∧ zk σ (x + q.2.1) = (q.2.2.1, q.2.2.2) ∧ 1 ≤ q.2.1 ∧ q.2.1 ≤ L.length ∧ (∀ j, zi σ (x + q.2.1) j = 0) ∧ (∀ j, zl σ (x + q.2.1) j = 0) ∧ (∀ j, zr σ (x + q.2.1) j = none)
theorem nB_step {ci x : Nat} {L : List (Nat × Nat × Nat × Nat)} {σ : ZS} (h : nB ci x L σ) {f k n : Nat} (hf : ∀ q ∈ L, q.1 ≠ f) : nB ci x (L ++ [(f, L.length + 1, k, n)]) (pR (zNew σ (k, n)) f x (some (zn σ))) := by
  obtain ⟨h1, h2, h3, h4, h5⟩ := h
  have hx : x ≠ zn σ := by omega
  refine ⟨?_, ?_, ?_, ?_, ?_⟩
  · show zk (zNew σ (k, n)) x = _
    rw [zk_new_ne hx]
    exact h1
  · show zn σ + 1 = _
    rw [h2, List.length_append]
    simp only [List.length_cons, List.length_nil]
    omega
  · intro f2
    show (if x = zn σ then 0 else zI σ f2 x) = 0
    rw [if_neg hx]
    exact h3 f2
  · intro f2
    show (if x = zn σ then 0 else zL σ f2 x) = 0
    rw [if_neg hx]
    exact h4 f2
  · intro q hq
    rw [List.length_append]
    simp only [List.length_cons, List.length_nil]
    rcases List.mem_append.mp hq with hq | hq
    · obtain ⟨g1, g2, g3, g4, g5, g6, g7⟩ := h5 q hq
      have hne : x + q.2.1 ≠ zn σ := by omega
      refine ⟨?_, ?_, g3, by omega, ?_, ?_, ?_⟩
      · show (if q.1 = f ∧ x = x then some (zn σ) else (if x = zn σ then none else zR σ q.1 x)) = _
        rw [if_neg (fun z => hf q hq z.1), if_neg hx]
        exact g1
      · show zk (zNew σ (k, n)) (x + q.2.1) = _
        rw [zk_new_ne hne]
        exact g2
      · intro j
        show (if x + q.2.1 = zn σ then 0 else zi σ (x + q.2.1) j) = 0
        rw [if_neg hne]
        exact g5 j
      · intro j
        show (if x + q.2.1 = zn σ then 0 else zl σ (x + q.2.1) j) = 0
        rw [if_neg hne]
        exact g6 j
      · intro j
        show (if x + q.2.1 = zn σ then none else zr σ (x + q.2.1) j) = none
        rw [if_neg hne]
        exact g7 j
    · obtain rfl := List.mem_singleton.mp hq
      have he : x + (L.length + 1) = zn σ := by omega
      refine ⟨?_, ?_, by show 1 ≤ L.length + 1; omega, Nat.le_refl _, ?_, ?_, ?_⟩
      · show (if f = f ∧ x = x then some (zn σ) else _) = some (x + (L.length + 1))
        rw [if_pos ⟨rfl, rfl⟩, he]
      · show zk (zNew σ (k, n)) (x + (L.length + 1)) = _
        rw [he, zk_new]
      · intro j
        show (if x + (L.length + 1) = zn σ then 0 else _) = 0
        rw [if_pos he]
      · intro j
        show (if x + (L.length + 1) = zn σ then 0 else _) = 0
        rw [if_pos he]
      · intro j
        show (if x + (L.length + 1) = zn σ then none else _) = none
        rw [if_pos he]
def T0 : TS := (fun _ => 0, fun _ _ => 0, fun _ _ => false, fun _ _ _ => 0, fun _ _ => some 0, fun _ _ _ => some 0, fun _ _ => 0, fun _ _ _ => 0, 0, 0)
theorem rR_0 {x : Nat} {σ : ZS} (h : nB 12 x rTab σ) : rR x σ T0 := ⟨⟨h.1, fun q hq => ⟨(h.2.2.2.2 q hq).1, (h.2.2.2.2 q hq).2.1⟩⟩, (h.2.2.1 _), (fun _ _ => (h.2.2.2.2 (769, 1, 2, 6) (List.mem_of_getElem? (i := 0) rfl)).2.2.2.2.1 _), (h.2.2.1 _), (fun _ _ => (h.2.2.2.2 (771, 2, 4, 24) (List.mem_of_getElem? (i := 1) rfl)).2.2.2.2.2.1 _), (h.2.2.1 _), (h.2.2.1 _), (fun _ _ => (h.2.2.2.2 (774, 3, 3, 150) (List.mem_of_getElem? (i := 2) rfl)).2.2.2.2.1 _), (fun _ _ => (h.2.2.2.2 (775, 4, 2, 150) (List.mem_of_getElem? (i := 3) rfl)).2.2.2.2.1 _), (fun _ _ => (h.2.2.2.2 (776, 5, 2, 150) (List.mem_of_getElem? (i := 4) rfl)).2.2.2.2.1 _), (fun _ _ => (h.2.2.2.2 (777, 6, 2, 150) (List.mem_of_getElem? (i := 5) rfl)).2.2.2.2.1 _), (fun _ _ _ _ => (h.2.2.2.2 (778, 7, 2, 900) (List.mem_of_getElem? (i := 6) rfl)).2.2.2.2.1 _), (fun _ _ => (h.2.2.2.2 (779, 8, 2, 150) (List.mem_of_getElem? (i := 7) rfl)).2.2.2.2.1 _), (fun _ _ => (h.2.2.2.2 (780, 9, 2, 150) (List.mem_of_getElem? (i := 8) rfl)).2.2.2.2.1 _), (fun _ _ => (h.2.2.2.2 (781, 10, 3, 150) (List.mem_of_getElem? (i := 9) rfl)).2.2.2.2.1 _), (fun _ _ => (h.2.2.2.2 (783, 12, 2, 18) (List.mem_of_getElem? (i := 11) rfl)).2.2.2.2.1 _), (fun _ _ _ _ => (h.2.2.2.2 (782, 11, 2, 720) (List.mem_of_getElem? (i := 10) rfl)).2.2.2.2.1 _), (h.2.2.1 _), (h.2.2.1 _), (fun _ _ => (h.2.2.2.2 (786, 13, 3, 20) (List.mem_of_getElem? (i := 12) rfl)).2.2.2.2.1 _), (fun _ _ => (h.2.2.2.2 (787, 14, 2, 20) (List.mem_of_getElem? (i := 13) rfl)).2.2.2.2.1 _), (fun _ _ => (h.2.2.2.2 (788, 15, 2, 20) (List.mem_of_getElem? (i := 14) rfl)).2.2.2.2.1 _), (fun _ _ => (h.2.2.2.2 (789, 16, 2, 20) (List.mem_of_getElem? (i := 15) rfl)).2.2.2.2.1 _), (fun _ _ => (h.2.2.2.2 (790, 17, 2, 20) (List.mem_of_getElem? (i := 16) rfl)).2.2.2.2.1 _), (fun _ _ => (h.2.2.2.2 (791, 18, 2, 20) (List.mem_of_getElem? (i := 17) rfl)).2.2.2.2.1 _), (fun _ _ => (h.2.2.2.2 (792, 19, 2, 20) (List.mem_of_getElem? (i := 18) rfl)).2.2.2.2.1 _), (h.2.2.1 _), (h.2.2.1 _), (fun _ _ => (h.2.2.2.2 (795, 20, 3, 30) (List.mem_of_getElem? (i := 19) rfl)).2.2.2.2.1 _), (fun _ _ => (h.2.2.2.2 (796, 21, 2, 30) (List.mem_of_getElem? (i := 20) rfl)).2.2.2.2.1 _), (fun _ _ => (h.2.2.2.2 (797, 22, 2, 30) (List.mem_of_getElem? (i := 21) rfl)).2.2.2.2.1 _), (fun _ _ => (h.2.2.2.2 (798, 23, 2, 30) (List.mem_of_getElem? (i := 22) rfl)).2.2.2.2.1 _), (h.2.2.1 _), (fun _ _ => (h.2.2.2.2 (800, 24, 2, 150) (List.mem_of_getElem? (i := 23) rfl)).2.2.2.2.1 _), (h.2.2.1 _), (fun _ _ => (h.2.2.2.2 (802, 25, 2, 300) (List.mem_of_getElem? (i := 24) rfl)).2.2.2.2.1 _), (fun _ _ => (h.2.2.2.2 (803, 26, 3, 4) (List.mem_of_getElem? (i := 25) rfl)).2.2.2.2.1 _), (fun _ _ => (h.2.2.2.2 (804, 27, 2, 4) (List.mem_of_getElem? (i := 26) rfl)).2.2.2.2.1 _), (fun _ _ => (h.2.2.2.2 (805, 28, 2, 4) (List.mem_of_getElem? (i := 27) rfl)).2.2.2.2.1 _), (fun _ _ _ _ => (h.2.2.2.2 (806, 29, 2, 80) (List.mem_of_getElem? (i := 28) rfl)).2.2.2.2.1 _), (fun _ _ => (h.2.2.2.2 (808, 31, 3, 4) (List.mem_of_getElem? (i := 30) rfl)).2.2.2.2.1 _), (fun _ _ => (h.2.2.2.2 (809, 32, 2, 4) (List.mem_of_getElem? (i := 31) rfl)).2.2.2.2.1 _), (fun _ _ => (h.2.2.2.2 (810, 33, 2, 4) (List.mem_of_getElem? (i := 32) rfl)).2.2.2.2.1 _), (fun _ _ _ _ => (h.2.2.2.2 (811, 34, 2, 240) (List.mem_of_getElem? (i := 33) rfl)).2.2.2.2.1 _), (fun _ _ => (h.2.2.2.2 (813, 36, 2, 5) (List.mem_of_getElem? (i := 35) rfl)).2.2.2.2.1 _), (h.2.2.1 _), (h.2.2.2.1 _)⟩
set_option maxHeartbeats 4000000 in
set_option maxRecDepth 100000 in
theorem c_init {x : Nat} {σ : ZS} (h : nB 12 x [] σ) : ZC M_X12_init [Ar (some x)] σ (fun y0 τ0 => y0 = none ∧ rR x τ0 T0) := by
  refine ZC_of (ls := [some (Ar (some x))]) (by decide) (Nat.le_of_ble_eq_true rfl) rfl ?_
  show ZV _ _ _ _ _ _ 60 5000
  refine ZV_aload_n (n := 1) dX12_init_0 rfl rfl rfl ?_
  refine ZV_objInit (n := 4) dX12_init_1 wd_4_160 wd_1_24 wd_1_25 (Nat.le_of_ble_eq_true rfl) (by decide) rfl ?_
  refine ZV_aload_n (n := 5) dX12_init_4 rfl rfl rfl ?_
  refine ZV_bipush (v := nI 6) (n := 7) dX12_init_5 rfl rfl ?_
  refine ZV_newI (N := 6) (n := 9) dX12_init_7 rfl rfl (by decide) ?_
  refine ZV_putR (n := 12) dX12_init_9 fl_X12_7 rfl (Or.inr ⟨rfl, rfl, rfl⟩) rfl rfl (by rw [zk_new_ne (by have := h.2.1; omega)]; exact h.1) ?_
  refine ZV_gen (P := fun τ => nB 12 x _ τ) (nB_step h (f := 769) (k := 2) (n := 6) (by decide)) (fun σ h => ?_)
  simp only [List.nil_append, List.cons_append, List.length_cons, List.length_nil, Nat.reduceAdd] at h
  refine ZV_aload_n (n := 13) dX12_init_12 rfl rfl rfl ?_
  refine ZV_bipush (v := nI 24) (n := 15) dX12_init_13 rfl rfl ?_
  refine ZV_newJ (N := 24) (n := 17) dX12_init_15 rfl rfl (by decide) ?_
  refine ZV_putR (n := 20) dX12_init_17 fl_X12_13 rfl (Or.inr ⟨rfl, rfl, rfl⟩) rfl rfl (by rw [zk_new_ne (by have := h.2.1; omega)]; exact h.1) ?_
  refine ZV_gen (P := fun τ => nB 12 x _ τ) (nB_step h (f := 771) (k := 4) (n := 24) (by decide)) (fun σ h => ?_)
  simp only [List.nil_append, List.cons_append, List.length_cons, List.length_nil, Nat.reduceAdd] at h
  refine ZV_aload_n (n := 21) dX12_init_20 rfl rfl rfl ?_
  refine ZV_sipush (v := nI 150) (n := 24) dX12_init_21 rfl rfl ?_
  refine ZV_newZ (N := 150) (n := 26) dX12_init_24 rfl rfl (by decide) ?_
  refine ZV_putR (n := 29) dX12_init_26 fl_X12_17 rfl (Or.inr ⟨rfl, rfl, rfl⟩) rfl rfl (by rw [zk_new_ne (by have := h.2.1; omega)]; exact h.1) ?_
  refine ZV_gen (P := fun τ => nB 12 x _ τ) (nB_step h (f := 774) (k := 3) (n := 150) (by decide)) (fun σ h => ?_)
  simp only [List.nil_append, List.cons_append, List.length_cons, List.length_nil, Nat.reduceAdd] at h
  refine ZV_aload_n (n := 30) dX12_init_29 rfl rfl rfl ?_
  refine ZV_sipush (v := nI 150) (n := 33) dX12_init_30 rfl rfl ?_
  refine ZV_newI (N := 150) (n := 35) dX12_init_33 rfl rfl (by decide) ?_
  refine ZV_putR (n := 38) dX12_init_35 fl_X12_21 rfl (Or.inr ⟨rfl, rfl, rfl⟩) rfl rfl (by rw [zk_new_ne (by have := h.2.1; omega)]; exact h.1) ?_
  refine ZV_gen (P := fun τ => nB 12 x _ τ) (nB_step h (f := 775) (k := 2) (n := 150) (by decide)) (fun σ h => ?_)
  simp only [List.nil_append, List.cons_append, List.length_cons, List.length_nil, Nat.reduceAdd] at h
  refine ZV_aload_n (n := 39) dX12_init_38 rfl rfl rfl ?_
  refine ZV_sipush (v := nI 150) (n := 42) dX12_init_39 rfl rfl ?_
  refine ZV_newI (N := 150) (n := 44) dX12_init_42 rfl rfl (by decide) ?_
  refine ZV_putR (n := 47) dX12_init_44 fl_X12_24 rfl (Or.inr ⟨rfl, rfl, rfl⟩) rfl rfl (by rw [zk_new_ne (by have := h.2.1; omega)]; exact h.1) ?_
  refine ZV_gen (P := fun τ => nB 12 x _ τ) (nB_step h (f := 776) (k := 2) (n := 150) (by decide)) (fun σ h => ?_)
  simp only [List.nil_append, List.cons_append, List.length_cons, List.length_nil, Nat.reduceAdd] at h
  refine ZV_aload_n (n := 48) dX12_init_47 rfl rfl rfl ?_
  refine ZV_sipush (v := nI 150) (n := 51) dX12_init_48 rfl rfl ?_
  refine ZV_newI (N := 150) (n := 53) dX12_init_51 rfl rfl (by decide) ?_
  refine ZV_putR (n := 56) dX12_init_53 fl_X12_27 rfl (Or.inr ⟨rfl, rfl, rfl⟩) rfl rfl (by rw [zk_new_ne (by have := h.2.1; omega)]; exact h.1) ?_
  refine ZV_gen (P := fun τ => nB 12 x _ τ) (nB_step h (f := 777) (k := 2) (n := 150) (by decide)) (fun σ h => ?_)
  simp only [List.nil_append, List.cons_append, List.length_cons, List.length_nil, Nat.reduceAdd] at h
  refine ZV_aload_n (n := 57) dX12_init_56 rfl rfl rfl ?_
  refine ZV_sipush (v := nI 900) (n := 60) dX12_init_57 rfl rfl ?_
  refine ZV_newI (N := 900) (n := 62) dX12_init_60 rfl rfl (by decide) ?_
  refine ZV_putR (n := 65) dX12_init_62 fl_X12_30 rfl (Or.inr ⟨rfl, rfl, rfl⟩) rfl rfl (by rw [zk_new_ne (by have := h.2.1; omega)]; exact h.1) ?_
  refine ZV_gen (P := fun τ => nB 12 x _ τ) (nB_step h (f := 778) (k := 2) (n := 900) (by decide)) (fun σ h => ?_)
  simp only [List.nil_append, List.cons_append, List.length_cons, List.length_nil, Nat.reduceAdd] at h
  refine ZV_aload_n (n := 66) dX12_init_65 rfl rfl rfl ?_
  refine ZV_sipush (v := nI 150) (n := 69) dX12_init_66 rfl rfl ?_
  refine ZV_newI (N := 150) (n := 71) dX12_init_69 rfl rfl (by decide) ?_
  refine ZV_putR (n := 74) dX12_init_71 fl_X12_33 rfl (Or.inr ⟨rfl, rfl, rfl⟩) rfl rfl (by rw [zk_new_ne (by have := h.2.1; omega)]; exact h.1) ?_
  refine ZV_gen (P := fun τ => nB 12 x _ τ) (nB_step h (f := 779) (k := 2) (n := 150) (by decide)) (fun σ h => ?_)
  simp only [List.nil_append, List.cons_append, List.length_cons, List.length_nil, Nat.reduceAdd] at h
  refine ZV_aload_n (n := 75) dX12_init_74 rfl rfl rfl ?_
  refine ZV_sipush (v := nI 150) (n := 78) dX12_init_75 rfl rfl ?_
  refine ZV_newI (N := 150) (n := 80) dX12_init_78 rfl rfl (by decide) ?_
  refine ZV_putR (n := 83) dX12_init_80 fl_X12_36 rfl (Or.inr ⟨rfl, rfl, rfl⟩) rfl rfl (by rw [zk_new_ne (by have := h.2.1; omega)]; exact h.1) ?_
  refine ZV_gen (P := fun τ => nB 12 x _ τ) (nB_step h (f := 780) (k := 2) (n := 150) (by decide)) (fun σ h => ?_)
  simp only [List.nil_append, List.cons_append, List.length_cons, List.length_nil, Nat.reduceAdd] at h
  refine ZV_aload_n (n := 84) dX12_init_83 rfl rfl rfl ?_
  refine ZV_sipush (v := nI 150) (n := 87) dX12_init_84 rfl rfl ?_
  refine ZV_newZ (N := 150) (n := 89) dX12_init_87 rfl rfl (by decide) ?_
  refine ZV_putR (n := 92) dX12_init_89 fl_X12_39 rfl (Or.inr ⟨rfl, rfl, rfl⟩) rfl rfl (by rw [zk_new_ne (by have := h.2.1; omega)]; exact h.1) ?_
  refine ZV_gen (P := fun τ => nB 12 x _ τ) (nB_step h (f := 781) (k := 3) (n := 150) (by decide)) (fun σ h => ?_)
  simp only [List.nil_append, List.cons_append, List.length_cons, List.length_nil, Nat.reduceAdd] at h
  refine ZV_aload_n (n := 93) dX12_init_92 rfl rfl rfl ?_
  refine ZV_sipush (v := nI 720) (n := 96) dX12_init_93 rfl rfl ?_
  refine ZV_newI (N := 720) (n := 98) dX12_init_96 rfl rfl (by decide) ?_
  refine ZV_putR (n := 101) dX12_init_98 fl_X12_42 rfl (Or.inr ⟨rfl, rfl, rfl⟩) rfl rfl (by rw [zk_new_ne (by have := h.2.1; omega)]; exact h.1) ?_
  refine ZV_gen (P := fun τ => nB 12 x _ τ) (nB_step h (f := 782) (k := 2) (n := 720) (by decide)) (fun σ h => ?_)
  simp only [List.nil_append, List.cons_append, List.length_cons, List.length_nil, Nat.reduceAdd] at h
  refine ZV_aload_n (n := 102) dX12_init_101 rfl rfl rfl ?_
  refine ZV_bipush (v := nI 18) (n := 104) dX12_init_102 rfl rfl ?_
  refine ZV_newI (N := 18) (n := 106) dX12_init_104 rfl rfl (by decide) ?_
  refine ZV_putR (n := 109) dX12_init_106 fl_X12_45 rfl (Or.inr ⟨rfl, rfl, rfl⟩) rfl rfl (by rw [zk_new_ne (by have := h.2.1; omega)]; exact h.1) ?_
  refine ZV_gen (P := fun τ => nB 12 x _ τ) (nB_step h (f := 783) (k := 2) (n := 18) (by decide)) (fun σ h => ?_)
  simp only [List.nil_append, List.cons_append, List.length_cons, List.length_nil, Nat.reduceAdd] at h
  refine ZV_aload_n (n := 110) dX12_init_109 rfl rfl rfl ?_
  refine ZV_bipush (v := nI 20) (n := 112) dX12_init_110 rfl rfl ?_
  refine ZV_newZ (N := 20) (n := 114) dX12_init_112 rfl rfl (by decide) ?_
  refine ZV_putR (n := 117) dX12_init_114 fl_X12_48 rfl (Or.inr ⟨rfl, rfl, rfl⟩) rfl rfl (by rw [zk_new_ne (by have := h.2.1; omega)]; exact h.1) ?_
  refine ZV_gen (P := fun τ => nB 12 x _ τ) (nB_step h (f := 786) (k := 3) (n := 20) (by decide)) (fun σ h => ?_)
  simp only [List.nil_append, List.cons_append, List.length_cons, List.length_nil, Nat.reduceAdd] at h
  refine ZV_aload_n (n := 118) dX12_init_117 rfl rfl rfl ?_
  refine ZV_bipush (v := nI 20) (n := 120) dX12_init_118 rfl rfl ?_
  refine ZV_newI (N := 20) (n := 122) dX12_init_120 rfl rfl (by decide) ?_
  refine ZV_putR (n := 125) dX12_init_122 fl_X12_51 rfl (Or.inr ⟨rfl, rfl, rfl⟩) rfl rfl (by rw [zk_new_ne (by have := h.2.1; omega)]; exact h.1) ?_
  refine ZV_gen (P := fun τ => nB 12 x _ τ) (nB_step h (f := 787) (k := 2) (n := 20) (by decide)) (fun σ h => ?_)
  simp only [List.nil_append, List.cons_append, List.length_cons, List.length_nil, Nat.reduceAdd] at h
  refine ZV_aload_n (n := 126) dX12_init_125 rfl rfl rfl ?_
  refine ZV_bipush (v := nI 20) (n := 128) dX12_init_126 rfl rfl ?_
  refine ZV_newI (N := 20) (n := 130) dX12_init_128 rfl rfl (by decide) ?_
  refine ZV_putR (n := 133) dX12_init_130 fl_X12_54 rfl (Or.inr ⟨rfl, rfl, rfl⟩) rfl rfl (by rw [zk_new_ne (by have := h.2.1; omega)]; exact h.1) ?_
  refine ZV_gen (P := fun τ => nB 12 x _ τ) (nB_step h (f := 788) (k := 2) (n := 20) (by decide)) (fun σ h => ?_)
  simp only [List.nil_append, List.cons_append, List.length_cons, List.length_nil, Nat.reduceAdd] at h
  refine ZV_aload_n (n := 134) dX12_init_133 rfl rfl rfl ?_
  refine ZV_bipush (v := nI 20) (n := 136) dX12_init_134 rfl rfl ?_
  refine ZV_newI (N := 20) (n := 138) dX12_init_136 rfl rfl (by decide) ?_
  refine ZV_putR (n := 141) dX12_init_138 fl_X12_57 rfl (Or.inr ⟨rfl, rfl, rfl⟩) rfl rfl (by rw [zk_new_ne (by have := h.2.1; omega)]; exact h.1) ?_
  refine ZV_gen (P := fun τ => nB 12 x _ τ) (nB_step h (f := 789) (k := 2) (n := 20) (by decide)) (fun σ h => ?_)
  simp only [List.nil_append, List.cons_append, List.length_cons, List.length_nil, Nat.reduceAdd] at h
  refine ZV_aload_n (n := 142) dX12_init_141 rfl rfl rfl ?_
  refine ZV_bipush (v := nI 20) (n := 144) dX12_init_142 rfl rfl ?_
  refine ZV_newI (N := 20) (n := 146) dX12_init_144 rfl rfl (by decide) ?_
  refine ZV_putR (n := 149) dX12_init_146 fl_X12_60 rfl (Or.inr ⟨rfl, rfl, rfl⟩) rfl rfl (by rw [zk_new_ne (by have := h.2.1; omega)]; exact h.1) ?_
  refine ZV_gen (P := fun τ => nB 12 x _ τ) (nB_step h (f := 790) (k := 2) (n := 20) (by decide)) (fun σ h => ?_)
  simp only [List.nil_append, List.cons_append, List.length_cons, List.length_nil, Nat.reduceAdd] at h
  refine ZV_aload_n (n := 150) dX12_init_149 rfl rfl rfl ?_
  refine ZV_bipush (v := nI 20) (n := 152) dX12_init_150 rfl rfl ?_
  refine ZV_newI (N := 20) (n := 154) dX12_init_152 rfl rfl (by decide) ?_
  refine ZV_putR (n := 157) dX12_init_154 fl_X12_63 rfl (Or.inr ⟨rfl, rfl, rfl⟩) rfl rfl (by rw [zk_new_ne (by have := h.2.1; omega)]; exact h.1) ?_
  refine ZV_gen (P := fun τ => nB 12 x _ τ) (nB_step h (f := 791) (k := 2) (n := 20) (by decide)) (fun σ h => ?_)
  simp only [List.nil_append, List.cons_append, List.length_cons, List.length_nil, Nat.reduceAdd] at h
  refine ZV_aload_n (n := 158) dX12_init_157 rfl rfl rfl ?_
  refine ZV_bipush (v := nI 20) (n := 160) dX12_init_158 rfl rfl ?_
  refine ZV_newI (N := 20) (n := 162) dX12_init_160 rfl rfl (by decide) ?_
  refine ZV_putR (n := 165) dX12_init_162 fl_X12_66 rfl (Or.inr ⟨rfl, rfl, rfl⟩) rfl rfl (by rw [zk_new_ne (by have := h.2.1; omega)]; exact h.1) ?_
  refine ZV_gen (P := fun τ => nB 12 x _ τ) (nB_step h (f := 792) (k := 2) (n := 20) (by decide)) (fun σ h => ?_)
  simp only [List.nil_append, List.cons_append, List.length_cons, List.length_nil, Nat.reduceAdd] at h
  refine ZV_aload_n (n := 166) dX12_init_165 rfl rfl rfl ?_
  refine ZV_bipush (v := nI 30) (n := 168) dX12_init_166 rfl rfl ?_
  refine ZV_newZ (N := 30) (n := 170) dX12_init_168 rfl rfl (by decide) ?_
  refine ZV_putR (n := 173) dX12_init_170 fl_X12_69 rfl (Or.inr ⟨rfl, rfl, rfl⟩) rfl rfl (by rw [zk_new_ne (by have := h.2.1; omega)]; exact h.1) ?_
  refine ZV_gen (P := fun τ => nB 12 x _ τ) (nB_step h (f := 795) (k := 3) (n := 30) (by decide)) (fun σ h => ?_)
  simp only [List.nil_append, List.cons_append, List.length_cons, List.length_nil, Nat.reduceAdd] at h
  refine ZV_aload_n (n := 174) dX12_init_173 rfl rfl rfl ?_
  refine ZV_bipush (v := nI 30) (n := 176) dX12_init_174 rfl rfl ?_
  refine ZV_newI (N := 30) (n := 178) dX12_init_176 rfl rfl (by decide) ?_
  refine ZV_putR (n := 181) dX12_init_178 fl_X12_72 rfl (Or.inr ⟨rfl, rfl, rfl⟩) rfl rfl (by rw [zk_new_ne (by have := h.2.1; omega)]; exact h.1) ?_
  refine ZV_gen (P := fun τ => nB 12 x _ τ) (nB_step h (f := 796) (k := 2) (n := 30) (by decide)) (fun σ h => ?_)
  simp only [List.nil_append, List.cons_append, List.length_cons, List.length_nil, Nat.reduceAdd] at h
  refine ZV_aload_n (n := 182) dX12_init_181 rfl rfl rfl ?_
  refine ZV_bipush (v := nI 30) (n := 184) dX12_init_182 rfl rfl ?_
  refine ZV_newI (N := 30) (n := 186) dX12_init_184 rfl rfl (by decide) ?_
  refine ZV_putR (n := 189) dX12_init_186 fl_X12_75 rfl (Or.inr ⟨rfl, rfl, rfl⟩) rfl rfl (by rw [zk_new_ne (by have := h.2.1; omega)]; exact h.1) ?_
  refine ZV_gen (P := fun τ => nB 12 x _ τ) (nB_step h (f := 797) (k := 2) (n := 30) (by decide)) (fun σ h => ?_)
  simp only [List.nil_append, List.cons_append, List.length_cons, List.length_nil, Nat.reduceAdd] at h
  refine ZV_aload_n (n := 190) dX12_init_189 rfl rfl rfl ?_
  refine ZV_bipush (v := nI 30) (n := 192) dX12_init_190 rfl rfl ?_
  refine ZV_newI (N := 30) (n := 194) dX12_init_192 rfl rfl (by decide) ?_
  refine ZV_putR (n := 197) dX12_init_194 fl_X12_78 rfl (Or.inr ⟨rfl, rfl, rfl⟩) rfl rfl (by rw [zk_new_ne (by have := h.2.1; omega)]; exact h.1) ?_
  refine ZV_gen (P := fun τ => nB 12 x _ τ) (nB_step h (f := 798) (k := 2) (n := 30) (by decide)) (fun σ h => ?_)
  simp only [List.nil_append, List.cons_append, List.length_cons, List.length_nil, Nat.reduceAdd] at h
  refine ZV_aload_n (n := 198) dX12_init_197 rfl rfl rfl ?_
  refine ZV_sipush (v := nI 150) (n := 201) dX12_init_198 rfl rfl ?_
  refine ZV_newI (N := 150) (n := 203) dX12_init_201 rfl rfl (by decide) ?_
  refine ZV_putR (n := 206) dX12_init_203 fl_X12_81 rfl (Or.inr ⟨rfl, rfl, rfl⟩) rfl rfl (by rw [zk_new_ne (by have := h.2.1; omega)]; exact h.1) ?_
  refine ZV_gen (P := fun τ => nB 12 x _ τ) (nB_step h (f := 800) (k := 2) (n := 150) (by decide)) (fun σ h => ?_)
  simp only [List.nil_append, List.cons_append, List.length_cons, List.length_nil, Nat.reduceAdd] at h
  refine ZV_aload_n (n := 207) dX12_init_206 rfl rfl rfl ?_
  refine ZV_sipush (v := nI 300) (n := 210) dX12_init_207 rfl rfl ?_
  refine ZV_newI (N := 300) (n := 212) dX12_init_210 rfl rfl (by decide) ?_
  refine ZV_putR (n := 215) dX12_init_212 fl_X12_84 rfl (Or.inr ⟨rfl, rfl, rfl⟩) rfl rfl (by rw [zk_new_ne (by have := h.2.1; omega)]; exact h.1) ?_
  refine ZV_gen (P := fun τ => nB 12 x _ τ) (nB_step h (f := 802) (k := 2) (n := 300) (by decide)) (fun σ h => ?_)
  simp only [List.nil_append, List.cons_append, List.length_cons, List.length_nil, Nat.reduceAdd] at h
  refine ZV_aload_n (n := 216) dX12_init_215 rfl rfl rfl ?_
  refine ZV_iconst (v := nI 4) (n := 217) dX12_init_216 rfl rfl ?_
  refine ZV_newZ (N := 4) (n := 219) dX12_init_217 rfl rfl (by decide) ?_
  refine ZV_putR (n := 222) dX12_init_219 fl_X12_87 rfl (Or.inr ⟨rfl, rfl, rfl⟩) rfl rfl (by rw [zk_new_ne (by have := h.2.1; omega)]; exact h.1) ?_
  refine ZV_gen (P := fun τ => nB 12 x _ τ) (nB_step h (f := 803) (k := 3) (n := 4) (by decide)) (fun σ h => ?_)
  simp only [List.nil_append, List.cons_append, List.length_cons, List.length_nil, Nat.reduceAdd] at h
  refine ZV_aload_n (n := 223) dX12_init_222 rfl rfl rfl ?_
  refine ZV_iconst (v := nI 4) (n := 224) dX12_init_223 rfl rfl ?_
  refine ZV_newI (N := 4) (n := 226) dX12_init_224 rfl rfl (by decide) ?_
  refine ZV_putR (n := 229) dX12_init_226 fl_X12_90 rfl (Or.inr ⟨rfl, rfl, rfl⟩) rfl rfl (by rw [zk_new_ne (by have := h.2.1; omega)]; exact h.1) ?_
  refine ZV_gen (P := fun τ => nB 12 x _ τ) (nB_step h (f := 804) (k := 2) (n := 4) (by decide)) (fun σ h => ?_)
  simp only [List.nil_append, List.cons_append, List.length_cons, List.length_nil, Nat.reduceAdd] at h
  refine ZV_aload_n (n := 230) dX12_init_229 rfl rfl rfl ?_
  refine ZV_iconst (v := nI 4) (n := 231) dX12_init_230 rfl rfl ?_
  refine ZV_newI (N := 4) (n := 233) dX12_init_231 rfl rfl (by decide) ?_
  refine ZV_putR (n := 236) dX12_init_233 fl_X12_93 rfl (Or.inr ⟨rfl, rfl, rfl⟩) rfl rfl (by rw [zk_new_ne (by have := h.2.1; omega)]; exact h.1) ?_
  refine ZV_gen (P := fun τ => nB 12 x _ τ) (nB_step h (f := 805) (k := 2) (n := 4) (by decide)) (fun σ h => ?_)
  simp only [List.nil_append, List.cons_append, List.length_cons, List.length_nil, Nat.reduceAdd] at h
  refine ZV_aload_n (n := 237) dX12_init_236 rfl rfl rfl ?_
  refine ZV_bipush (v := nI 80) (n := 239) dX12_init_237 rfl rfl ?_
  refine ZV_newI (N := 80) (n := 241) dX12_init_239 rfl rfl (by decide) ?_
  refine ZV_putR (n := 244) dX12_init_241 fl_X12_96 rfl (Or.inr ⟨rfl, rfl, rfl⟩) rfl rfl (by rw [zk_new_ne (by have := h.2.1; omega)]; exact h.1) ?_
  refine ZV_gen (P := fun τ => nB 12 x _ τ) (nB_step h (f := 806) (k := 2) (n := 80) (by decide)) (fun σ h => ?_)
  simp only [List.nil_append, List.cons_append, List.length_cons, List.length_nil, Nat.reduceAdd] at h
  refine ZV_aload_n (n := 245) dX12_init_244 rfl rfl rfl ?_
  refine ZV_bipush (v := nI 20) (n := 247) dX12_init_245 rfl rfl ?_
  refine ZV_newI (N := 20) (n := 249) dX12_init_247 rfl rfl (by decide) ?_
  refine ZV_putR (n := 252) dX12_init_249 fl_X12_99 rfl (Or.inr ⟨rfl, rfl, rfl⟩) rfl rfl (by rw [zk_new_ne (by have := h.2.1; omega)]; exact h.1) ?_
  refine ZV_gen (P := fun τ => nB 12 x _ τ) (nB_step h (f := 807) (k := 2) (n := 20) (by decide)) (fun σ h => ?_)
  simp only [List.nil_append, List.cons_append, List.length_cons, List.length_nil, Nat.reduceAdd] at h
  refine ZV_aload_n (n := 253) dX12_init_252 rfl rfl rfl ?_
  refine ZV_iconst (v := nI 4) (n := 254) dX12_init_253 rfl rfl ?_
  refine ZV_newZ (N := 4) (n := 256) dX12_init_254 rfl rfl (by decide) ?_
  refine ZV_putR (n := 259) dX12_init_256 fl_X12_102 rfl (Or.inr ⟨rfl, rfl, rfl⟩) rfl rfl (by rw [zk_new_ne (by have := h.2.1; omega)]; exact h.1) ?_
  refine ZV_gen (P := fun τ => nB 12 x _ τ) (nB_step h (f := 808) (k := 3) (n := 4) (by decide)) (fun σ h => ?_)
  simp only [List.nil_append, List.cons_append, List.length_cons, List.length_nil, Nat.reduceAdd] at h
  refine ZV_aload_n (n := 260) dX12_init_259 rfl rfl rfl ?_
  refine ZV_iconst (v := nI 4) (n := 261) dX12_init_260 rfl rfl ?_
  refine ZV_newI (N := 4) (n := 263) dX12_init_261 rfl rfl (by decide) ?_
  refine ZV_putR (n := 266) dX12_init_263 fl_X12_105 rfl (Or.inr ⟨rfl, rfl, rfl⟩) rfl rfl (by rw [zk_new_ne (by have := h.2.1; omega)]; exact h.1) ?_
  refine ZV_gen (P := fun τ => nB 12 x _ τ) (nB_step h (f := 809) (k := 2) (n := 4) (by decide)) (fun σ h => ?_)
  simp only [List.nil_append, List.cons_append, List.length_cons, List.length_nil, Nat.reduceAdd] at h
  refine ZV_aload_n (n := 267) dX12_init_266 rfl rfl rfl ?_
  refine ZV_iconst (v := nI 4) (n := 268) dX12_init_267 rfl rfl ?_
  refine ZV_newI (N := 4) (n := 270) dX12_init_268 rfl rfl (by decide) ?_
  refine ZV_putR (n := 273) dX12_init_270 fl_X12_108 rfl (Or.inr ⟨rfl, rfl, rfl⟩) rfl rfl (by rw [zk_new_ne (by have := h.2.1; omega)]; exact h.1) ?_
  refine ZV_gen (P := fun τ => nB 12 x _ τ) (nB_step h (f := 810) (k := 2) (n := 4) (by decide)) (fun σ h => ?_)
  simp only [List.nil_append, List.cons_append, List.length_cons, List.length_nil, Nat.reduceAdd] at h
  refine ZV_aload_n (n := 274) dX12_init_273 rfl rfl rfl ?_
  refine ZV_sipush (v := nI 240) (n := 277) dX12_init_274 rfl rfl ?_
  refine ZV_newI (N := 240) (n := 279) dX12_init_277 rfl rfl (by decide) ?_
  refine ZV_putR (n := 282) dX12_init_279 fl_X12_111 rfl (Or.inr ⟨rfl, rfl, rfl⟩) rfl rfl (by rw [zk_new_ne (by have := h.2.1; omega)]; exact h.1) ?_
  refine ZV_gen (P := fun τ => nB 12 x _ τ) (nB_step h (f := 811) (k := 2) (n := 240) (by decide)) (fun σ h => ?_)
  simp only [List.nil_append, List.cons_append, List.length_cons, List.length_nil, Nat.reduceAdd] at h
  refine ZV_aload_n (n := 283) dX12_init_282 rfl rfl rfl ?_
  refine ZV_bipush (v := nI 60) (n := 285) dX12_init_283 rfl rfl ?_
  refine ZV_newI (N := 60) (n := 287) dX12_init_285 rfl rfl (by decide) ?_
  refine ZV_putR (n := 290) dX12_init_287 fl_X12_114 rfl (Or.inr ⟨rfl, rfl, rfl⟩) rfl rfl (by rw [zk_new_ne (by have := h.2.1; omega)]; exact h.1) ?_
  refine ZV_gen (P := fun τ => nB 12 x _ τ) (nB_step h (f := 812) (k := 2) (n := 60) (by decide)) (fun σ h => ?_)
  simp only [List.nil_append, List.cons_append, List.length_cons, List.length_nil, Nat.reduceAdd] at h
  refine ZV_aload_n (n := 291) dX12_init_290 rfl rfl rfl ?_
  refine ZV_iconst (v := nI 5) (n := 292) dX12_init_291 rfl rfl ?_
  refine ZV_newI (N := 5) (n := 294) dX12_init_292 rfl rfl (by decide) ?_
  refine ZV_putR (n := 297) dX12_init_294 fl_X12_117 rfl (Or.inr ⟨rfl, rfl, rfl⟩) rfl rfl (by rw [zk_new_ne (by have := h.2.1; omega)]; exact h.1) ?_
  refine ZV_gen (P := fun τ => nB 12 x _ τ) (nB_step h (f := 813) (k := 2) (n := 5) (by decide)) (fun σ h => ?_)
  simp only [List.nil_append, List.cons_append, List.length_cons, List.length_nil, Nat.reduceAdd] at h
  refine ZV_aload_n (n := 298) dX12_init_297 rfl rfl rfl ?_
  refine ZV_sipush (v := nI 150) (n := 301) dX12_init_298 rfl rfl ?_
  refine ZV_newJ (N := 150) (n := 303) dX12_init_301 rfl rfl (by decide) ?_
  refine ZV_putR (n := 306) dX12_init_303 fl_X12_120 rfl (Or.inr ⟨rfl, rfl, rfl⟩) rfl rfl (by rw [zk_new_ne (by have := h.2.1; omega)]; exact h.1) ?_
  refine ZV_gen (P := fun τ => nB 12 x _ τ) (nB_step h (f := 817) (k := 4) (n := 150) (by decide)) (fun σ h => ?_)
  simp only [List.nil_append, List.cons_append, List.length_cons, List.length_nil, Nat.reduceAdd] at h
  refine ZV_vret dX12_init_306 rfl ?_
  exact ⟨rfl, rR_0 h⟩
theorem tI_0 : tI T0 := ⟨rfl, rfl, rfl, (Nat.zero_le _), (fun _ h => absurd h (Nat.not_lt_zero _)), (Nat.zero_le _), (fun _ h => absurd h (Nat.not_lt_zero _)), (Nat.zero_le _), (fun _ h => absurd h (Nat.not_lt_zero _)), (fun _ h => absurd h (Nat.not_lt_zero _)), (fun _ => Nat.zero_le _), (fun _ h => absurd h (Nat.not_lt_zero _)), (fun _ h => absurd h (Nat.not_lt_zero _)), (fun _ h => absurd h (Nat.not_lt_zero _)), (fun _ _ h => absurd h (Nat.not_lt_zero _)), (fun _ _ h => absurd h (Nat.not_lt_zero _)), (fun _ h => absurd h (Nat.not_lt_zero _)), (fun _ h => absurd h (Nat.not_lt_zero _)), (fun _ => Nat.zero_le _), (fun _ _ => rfl), (fun _ _ _ h => absurd h (Nat.not_lt_zero _)), (fun _ h => absurd h (Nat.not_lt_zero _)), (Nat.zero_le _), (fun _ h => absurd h (Nat.not_lt_zero _)), (fun _ h => absurd h (Nat.not_lt_zero _)), (fun _ h => absurd h (Nat.not_lt_zero _)), (fun _ h => absurd h (Nat.not_lt_zero _)), (fun _ _ h => absurd h (Nat.not_lt_zero _)), (fun _ _ => Nat.zero_le _), (Nat.zero_le _), (fun _ h => absurd h (Nat.not_lt_zero _)), (fun _ h => absurd h (Nat.not_lt_zero _)), (fun _ _ h => absurd h (Nat.not_lt_zero _)), (Nat.zero_le _), (Nat.zero_le _), (fun i _ => ⟨Nat.zero_le _, Nat.zero_le _⟩), (fun i j e _ h => absurd h Bool.false_ne_true), (fun i _ => ⟨Nat.zero_le _, Nat.zero_le _⟩), (fun _ h => absurd h (Nat.not_lt_zero _)), rfl, (fun i j e _ _ h => by cases h; decide)⟩
