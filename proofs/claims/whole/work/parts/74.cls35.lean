theorem nB_I0 {ci x : Nat} {L : List (Nat × Nat × Nat × Nat)} {σ : ZS} (h : nB ci x L σ) (f : Nat) : nB ci x L (pI σ f x (nI 0)) := by
  obtain ⟨h1, h2, h3, h4, h5⟩ := h
  refine ⟨h1, h2, fun f2 => ?_, h4, h5⟩
  show (if f2 = f ∧ x = x then nI 0 else zI σ f2 x) = 0
  split
  · rfl
  · exact h3 f2
def K0 : KS := (fun _ _ => 0, fun _ => lN 0)
theorem cR_0 {c : Nat} {σ : ZS} (h : nB 11 c cTab σ) : cR c σ T0 := ⟨c + 12, K0, ⟨⟨h.1, fun q hq => ⟨(h.2.2.2.2 q hq).1, (h.2.2.2.2 q hq).2.1⟩⟩,
  ⟨Nat.le_refl _, by rw [h.2.1]; exact Nat.le_refl _⟩,
  ⟨Nat.zero_le _, Nat.zero_le _, Nat.zero_le _, Nat.zero_le _, Nat.zero_le _⟩,
  (fun _ q => absurd q (Nat.not_lt_zero _)),
  (fun _ q => absurd q (Nat.not_lt_zero _)),
  (fun _ q => absurd q (Nat.not_lt_zero _)),
  (fun _ q => absurd q (Nat.not_lt_zero _)),
  (fun _ q => absurd q (Nat.not_lt_zero _)),
  (fun _ _ q => absurd q Bool.false_ne_true),
  (fun _ _ q => absurd q Bool.false_ne_true),
  (fun _ _ q => absurd q (Nat.not_lt_zero _)),
  (fun _ _ q => absurd q (Nat.not_lt_zero _)),
  (fun i _ _ _ q => absurd q (by unfold rwP; split <;> exact Bool.false_ne_true)),
  (h.2.2.1 _),
  (h.2.2.1 _),
  (h.2.2.1 _),
  (h.2.2.1 _),
  (h.2.2.1 _),
  (h.2.2.1 _),
  (h.2.2.1 _),
  (h.2.2.1 _),
  (fun _ q => absurd q (Nat.not_lt_zero _)),
  (fun _ q => absurd q (Nat.not_lt_zero _)),
  (fun _ q => absurd q (Nat.not_lt_zero _)),
  (fun _ q => absurd q (Nat.not_lt_zero _)),
  (fun _ q => absurd q (Nat.not_lt_zero _)),
  (fun _ q => absurd q (Nat.not_lt_zero _)),
  (fun _ q => absurd q (Nat.not_lt_zero _)),
  (fun _ q => absurd q (Nat.not_lt_zero _)),
  (fun _ q => absurd q (Nat.not_lt_zero _)),
  (fun _ _ q _ => absurd q (Nat.not_lt_zero _)),
  (fun _ q => absurd q (Nat.not_lt_zero _)),
  (fun _ q => absurd q (Nat.not_lt_zero _)),
  (fun _ q => absurd q (Nat.not_lt_zero _)),
  (fun _ q => absurd q (Nat.not_lt_zero _)),
  (fun _ q => absurd q (Nat.not_lt_zero _)),
  (fun _ q => absurd q (Nat.not_lt_zero _)),
  (fun _ q => absurd q (Nat.not_lt_zero _)),
  (fun _ q => absurd q (Nat.not_lt_zero _)),
  (fun _ q => absurd q (Nat.not_lt_zero _)),
  (fun _ q => absurd q (Nat.not_lt_zero _)),
  (fun _ q => absurd q (Nat.not_lt_zero _)),
  (fun _ q => absurd q (Nat.not_lt_zero _)),
  (fun _ q => absurd q (Nat.not_lt_zero _)),
  (fun _ _ q _ => absurd q (Nat.not_lt_zero _)),
  (fun _ q => absurd q (Nat.not_lt_zero _)),
  (fun _ q => absurd q (Nat.not_lt_zero _)),
  (fun _ q _ => absurd q (Nat.not_lt_zero _)),
  (fun _ q => absurd q (Nat.not_lt_zero _)),
  (fun _ q => absurd q (Nat.not_lt_zero _)),
  (fun _ q => absurd q (Nat.not_lt_zero _)),
  (fun _ q => absurd q (Nat.not_lt_zero _)),
  (fun _ q => absurd q (Nat.not_lt_zero _)),
  (fun _ q => absurd q (Nat.not_lt_zero _)),
  (fun _ q => absurd q (Nat.not_lt_zero _)),
  (fun _ q _ => absurd q (Nat.not_lt_zero _)),
  (fun _ q _ => absurd q (Nat.not_lt_zero _)),
  (fun _ q => absurd q (Nat.not_lt_zero _)),
  (fun _ _ => (h.2.2.2.2 (717, 8, 2, 300) (List.mem_of_getElem? (i := 7) rfl)).2.2.2.2.1 _),
  (fun _ _ => (h.2.2.2.2 (721, 11, 2, 5) (List.mem_of_getElem? (i := 10) rfl)).2.2.2.2.1 _),
  (fun _ _ => Eq.trans ((h.2.2.2.2 (719, 9, 10, 4) (List.mem_of_getElem? (i := 8) rfl)).2.2.2.2.2.2 _) (if_neg Bool.false_ne_true).symm),
  (fun _ _ => Eq.trans ((h.2.2.2.2 (720, 10, 10, 4) (List.mem_of_getElem? (i := 9) rfl)).2.2.2.2.2.2 _) (if_neg Bool.false_ne_true).symm),
  (fun _ _ q => absurd q Bool.false_ne_true),
  (fun _ _ q => absurd q Bool.false_ne_true),
  (fun _ _ q => absurd q Bool.false_ne_true),
  (fun _ _ q => absurd q Bool.false_ne_true),
  (fun _ _ _ q _ => absurd q Bool.false_ne_true),
  (fun _ _ _ q _ => absurd q Bool.false_ne_true)⟩,
  ⟨fun _ q => absurd q (Nat.not_lt_zero _), fun _ q => absurd q (Nat.not_lt_zero _), fun _ q => absurd q (Nat.not_lt_zero _), fun _ q => absurd q (Nat.not_lt_zero _), fun _ q => absurd q (Nat.not_lt_zero _), fun _ q => absurd q (Nat.not_lt_zero _), rfl⟩⟩
set_option maxHeartbeats 4000000 in
set_option maxRecDepth 100000 in
theorem q_init {c : Nat} {σ : ZS} (h : nB 11 c [] σ) : ZC M_X11_init [Ar (some c)] σ (fun y0 τ0 => y0 = none ∧ cR c τ0 T0) := by
  refine ZC_of (ls := [some (Ar (some c))]) (by decide) (Nat.le_of_ble_eq_true rfl) rfl ?_
  show ZV _ _ _ _ _ _ 11 800
  refine ZV_aload_n (n := 1) dX11_init_0 rfl rfl rfl ?_
  refine ZV_objInit (n := 4) dX11_init_1 wd_1_23 wd_1_24 wd_1_25 (Nat.le_of_ble_eq_true rfl) (by decide) rfl ?_
  refine ZV_aload_n (n := 5) dX11_init_4 rfl rfl rfl ?_
  refine ZV_bipush (v := nI 6) (n := 7) dX11_init_5 rfl rfl ?_
  refine ZV_newR (N := 6) (c0 := 0) (n := 10) dX11_init_7 rfl (by decide) wd_1_26 wd_1_27 rfl (by decide) ?_
  refine ZV_putR (n := 13) dX11_init_10 fl_X11_11 rfl (Or.inr ⟨rfl, rfl, rfl⟩) rfl rfl (by rw [zk_new_ne (by have := h.2.1; omega)]; exact h.1) ?_
  refine ZV_gen (P := fun τ => nB 11 c _ τ) (nB_step h (f := 704) (k := 5) (n := 6) (by decide)) (fun σ h => ?_)
  simp only [List.nil_append, List.cons_append, List.length_cons, List.length_nil, Nat.reduceAdd] at h
  refine ZV_aload_n (n := 14) dX11_init_13 rfl rfl rfl ?_
  refine ZV_iconst (v := nI 0) (n := 15) dX11_init_14 rfl rfl ?_
  refine ZV_putI (n := 18) dX11_init_15 fl_X11_15 rfl (Or.inl rfl) rfl (fun h => absurd h (by decide)) rfl h.1 ?_
  refine ZV_gen (P := fun τ => nB 11 c _ τ) (nB_I0 h _) (fun σ h => ?_)
  refine ZV_aload_n (n := 19) dX11_init_18 rfl rfl rfl ?_
  refine ZV_bipush (v := nI 18) (n := 21) dX11_init_19 rfl rfl ?_
  refine ZV_newR (N := 18) (c0 := 1) (n := 24) dX11_init_21 rfl (by decide) wd_1_28 wd_1_29 rfl (by decide) ?_
  refine ZV_putR (n := 27) dX11_init_24 fl_X11_21 rfl (Or.inr ⟨rfl, rfl, rfl⟩) rfl rfl (by rw [zk_new_ne (by have := h.2.1; omega)]; exact h.1) ?_
  refine ZV_gen (P := fun τ => nB 11 c _ τ) (nB_step h (f := 706) (k := 6) (n := 18) (by decide)) (fun σ h => ?_)
  simp only [List.nil_append, List.cons_append, List.length_cons, List.length_nil, Nat.reduceAdd] at h
  refine ZV_aload_n (n := 28) dX11_init_27 rfl rfl rfl ?_
  refine ZV_bipush (v := nI 24) (n := 30) dX11_init_28 rfl rfl ?_
  refine ZV_newJ (N := 24) (n := 32) dX11_init_30 rfl rfl (by decide) ?_
  refine ZV_putR (n := 35) dX11_init_32 fl_X11_25 rfl (Or.inr ⟨rfl, rfl, rfl⟩) rfl rfl (by rw [zk_new_ne (by have := h.2.1; omega)]; exact h.1) ?_
  refine ZV_gen (P := fun τ => nB 11 c _ τ) (nB_step h (f := 707) (k := 4) (n := 24) (by decide)) (fun σ h => ?_)
  simp only [List.nil_append, List.cons_append, List.length_cons, List.length_nil, Nat.reduceAdd] at h
  refine ZV_aload_n (n := 36) dX11_init_35 rfl rfl rfl ?_
  refine ZV_iconst (v := nI 0) (n := 37) dX11_init_36 rfl rfl ?_
  refine ZV_putI (n := 40) dX11_init_37 fl_X11_29 rfl (Or.inl rfl) rfl (fun h => absurd h (by decide)) rfl h.1 ?_
  refine ZV_gen (P := fun τ => nB 11 c _ τ) (nB_I0 h _) (fun σ h => ?_)
  refine ZV_aload_n (n := 41) dX11_init_40 rfl rfl rfl ?_
  refine ZV_sipush (v := nI 150) (n := 44) dX11_init_41 rfl rfl ?_
  refine ZV_newR (N := 150) (c0 := 2) (n := 47) dX11_init_44 rfl (by decide) wd_1_30 wd_1_31 rfl (by decide) ?_
  refine ZV_putR (n := 50) dX11_init_47 fl_X11_34 rfl (Or.inr ⟨rfl, rfl, rfl⟩) rfl rfl (by rw [zk_new_ne (by have := h.2.1; omega)]; exact h.1) ?_
  refine ZV_gen (P := fun τ => nB 11 c _ τ) (nB_step h (f := 709) (k := 7) (n := 150) (by decide)) (fun σ h => ?_)
  simp only [List.nil_append, List.cons_append, List.length_cons, List.length_nil, Nat.reduceAdd] at h
  refine ZV_aload_n (n := 51) dX11_init_50 rfl rfl rfl ?_
  refine ZV_iconst (v := nI 0) (n := 52) dX11_init_51 rfl rfl ?_
  refine ZV_putI (n := 55) dX11_init_52 fl_X11_38 rfl (Or.inl rfl) rfl (fun h => absurd h (by decide)) rfl h.1 ?_
  refine ZV_gen (P := fun τ => nB 11 c _ τ) (nB_I0 h _) (fun σ h => ?_)
  refine ZV_aload_n (n := 56) dX11_init_55 rfl rfl rfl ?_
  refine ZV_bipush (v := nI 20) (n := 58) dX11_init_56 rfl rfl ?_
  refine ZV_newR (N := 20) (c0 := 3) (n := 61) dX11_init_58 rfl (by decide) wd_1_32 wd_1_33 rfl (by decide) ?_
  refine ZV_putR (n := 64) dX11_init_61 fl_X11_43 rfl (Or.inr ⟨rfl, rfl, rfl⟩) rfl rfl (by rw [zk_new_ne (by have := h.2.1; omega)]; exact h.1) ?_
  refine ZV_gen (P := fun τ => nB 11 c _ τ) (nB_step h (f := 711) (k := 8) (n := 20) (by decide)) (fun σ h => ?_)
  simp only [List.nil_append, List.cons_append, List.length_cons, List.length_nil, Nat.reduceAdd] at h
  refine ZV_aload_n (n := 65) dX11_init_64 rfl rfl rfl ?_
  refine ZV_iconst (v := nI 0) (n := 66) dX11_init_65 rfl rfl ?_
  refine ZV_putI (n := 69) dX11_init_66 fl_X11_47 rfl (Or.inl rfl) rfl (fun h => absurd h (by decide)) rfl h.1 ?_
  refine ZV_gen (P := fun τ => nB 11 c _ τ) (nB_I0 h _) (fun σ h => ?_)
  refine ZV_aload_n (n := 70) dX11_init_69 rfl rfl rfl ?_
  refine ZV_bipush (v := nI 30) (n := 72) dX11_init_70 rfl rfl ?_
  refine ZV_newR (N := 30) (c0 := 4) (n := 75) dX11_init_72 rfl (by decide) wd_1_34 wd_1_35 rfl (by decide) ?_
  refine ZV_putR (n := 78) dX11_init_75 fl_X11_52 rfl (Or.inr ⟨rfl, rfl, rfl⟩) rfl rfl (by rw [zk_new_ne (by have := h.2.1; omega)]; exact h.1) ?_
  refine ZV_gen (P := fun τ => nB 11 c _ τ) (nB_step h (f := 713) (k := 9) (n := 30) (by decide)) (fun σ h => ?_)
  simp only [List.nil_append, List.cons_append, List.length_cons, List.length_nil, Nat.reduceAdd] at h
  refine ZV_aload_n (n := 79) dX11_init_78 rfl rfl rfl ?_
  refine ZV_iconst (v := nI 0) (n := 80) dX11_init_79 rfl rfl ?_
  refine ZV_putI (n := 83) dX11_init_80 fl_X11_56 rfl (Or.inl rfl) rfl (fun h => absurd h (by decide)) rfl h.1 ?_
  refine ZV_gen (P := fun τ => nB 11 c _ τ) (nB_I0 h _) (fun σ h => ?_)
  refine ZV_aload_n (n := 84) dX11_init_83 rfl rfl rfl ?_
  refine ZV_sipush (v := nI 150) (n := 87) dX11_init_84 rfl rfl ?_
  refine ZV_newI (N := 150) (n := 89) dX11_init_87 rfl rfl (by decide) ?_
  refine ZV_putR (n := 92) dX11_init_89 fl_X11_59 rfl (Or.inr ⟨rfl, rfl, rfl⟩) rfl rfl (by rw [zk_new_ne (by have := h.2.1; omega)]; exact h.1) ?_
  refine ZV_gen (P := fun τ => nB 11 c _ τ) (nB_step h (f := 715) (k := 2) (n := 150) (by decide)) (fun σ h => ?_)
  simp only [List.nil_append, List.cons_append, List.length_cons, List.length_nil, Nat.reduceAdd] at h
  refine ZV_aload_n (n := 93) dX11_init_92 rfl rfl rfl ?_
  refine ZV_iconst (v := nI 0) (n := 94) dX11_init_93 rfl rfl ?_
  refine ZV_putI (n := 97) dX11_init_94 fl_X11_63 rfl (Or.inl rfl) rfl (fun h => absurd h (by decide)) rfl h.1 ?_
  refine ZV_gen (P := fun τ => nB 11 c _ τ) (nB_I0 h _) (fun σ h => ?_)
  refine ZV_aload_n (n := 98) dX11_init_97 rfl rfl rfl ?_
  refine ZV_sipush (v := nI 300) (n := 101) dX11_init_98 rfl rfl ?_
  refine ZV_newI (N := 300) (n := 103) dX11_init_101 rfl rfl (by decide) ?_
  refine ZV_putR (n := 106) dX11_init_103 fl_X11_66 rfl (Or.inr ⟨rfl, rfl, rfl⟩) rfl rfl (by rw [zk_new_ne (by have := h.2.1; omega)]; exact h.1) ?_
  refine ZV_gen (P := fun τ => nB 11 c _ τ) (nB_step h (f := 717) (k := 2) (n := 300) (by decide)) (fun σ h => ?_)
  simp only [List.nil_append, List.cons_append, List.length_cons, List.length_nil, Nat.reduceAdd] at h
  refine ZV_aload_n (n := 107) dX11_init_106 rfl rfl rfl ?_
  refine ZV_iconst (v := nI 0) (n := 108) dX11_init_107 rfl rfl ?_
  refine ZV_putI (n := 111) dX11_init_108 fl_X11_69 rfl (Or.inl rfl) rfl (fun h => absurd h (by decide)) rfl h.1 ?_
  refine ZV_gen (P := fun τ => nB 11 c _ τ) (nB_I0 h _) (fun σ h => ?_)
  refine ZV_aload_n (n := 112) dX11_init_111 rfl rfl rfl ?_
  refine ZV_iconst (v := nI 4) (n := 113) dX11_init_112 rfl rfl ?_
  refine ZV_newR (N := 4) (c0 := 5) (n := 116) dX11_init_113 rfl (by decide) wd_1_36 wd_1_37 rfl (by decide) ?_
  refine ZV_putR (n := 119) dX11_init_116 fl_X11_74 rfl (Or.inr ⟨rfl, rfl, rfl⟩) rfl rfl (by rw [zk_new_ne (by have := h.2.1; omega)]; exact h.1) ?_
  refine ZV_gen (P := fun τ => nB 11 c _ τ) (nB_step h (f := 719) (k := 10) (n := 4) (by decide)) (fun σ h => ?_)
  simp only [List.nil_append, List.cons_append, List.length_cons, List.length_nil, Nat.reduceAdd] at h
  refine ZV_aload_n (n := 120) dX11_init_119 rfl rfl rfl ?_
  refine ZV_iconst (v := nI 4) (n := 121) dX11_init_120 rfl rfl ?_
  refine ZV_newR (N := 4) (c0 := 5) (n := 124) dX11_init_121 rfl (by decide) wd_1_36 wd_1_37 rfl (by decide) ?_
  refine ZV_putR (n := 127) dX11_init_124 fl_X11_78 rfl (Or.inr ⟨rfl, rfl, rfl⟩) rfl rfl (by rw [zk_new_ne (by have := h.2.1; omega)]; exact h.1) ?_
  refine ZV_gen (P := fun τ => nB 11 c _ τ) (nB_step h (f := 720) (k := 10) (n := 4) (by decide)) (fun σ h => ?_)
  simp only [List.nil_append, List.cons_append, List.length_cons, List.length_nil, Nat.reduceAdd] at h
  refine ZV_aload_n (n := 128) dX11_init_127 rfl rfl rfl ?_
  refine ZV_iconst (v := nI 5) (n := 129) dX11_init_128 rfl rfl ?_
  refine ZV_newI (N := 5) (n := 131) dX11_init_129 rfl rfl (by decide) ?_
  refine ZV_putR (n := 134) dX11_init_131 fl_X11_81 rfl (Or.inr ⟨rfl, rfl, rfl⟩) rfl rfl (by rw [zk_new_ne (by have := h.2.1; omega)]; exact h.1) ?_
  refine ZV_gen (P := fun τ => nB 11 c _ τ) (nB_step h (f := 721) (k := 2) (n := 5) (by decide)) (fun σ h => ?_)
  simp only [List.nil_append, List.cons_append, List.length_cons, List.length_nil, Nat.reduceAdd] at h
  refine ZV_aload_n (n := 135) dX11_init_134 rfl rfl rfl ?_
  refine ZV_iconst (v := nI 0) (n := 136) dX11_init_135 rfl rfl ?_
  refine ZV_putI (n := 139) dX11_init_136 fl_X11_84 rfl (Or.inl rfl) rfl (fun h => absurd h (by decide)) rfl h.1 ?_
  refine ZV_gen (P := fun τ => nB 11 c _ τ) (nB_I0 h _) (fun σ h => ?_)
  refine ZV_vret dX11_init_139 rfl ?_
  exact ⟨rfl, cR_0 h⟩
