theorem lw_idx {L i : Nat} (hL : L ≤ 3584) (hi : i ≤ 100000) (h : ¬ nI L - nI 7 < nI i) : i + 7 ≤ L := by
  rw [Int32.lt_iff_toInt_lt, Int32.toInt_sub, nI_toInt (by omega), nI_toInt (by omega), nI_toInt (by omega)] at h
  rw [Int.bmod_eq_of_le (by omega) (by omega)] at h
  omega
set_option maxHeartbeats 4000000 in
set_option maxRecDepth 100000 in
theorem lw_loop {b L : Nat} {xs : Nat → Int32} (hL : L ≤ 3584) {c x : Nat} : ∀ (n k : Nat) (σ ρ : ZS) (T : TS), n + k = 512 → cR c σ T → rR x ρ T → tI T → LV b L xs 18 [some (Ar (some b)), some (Ar (some c)), some (Ar (some x)), some (Ai (nI (7 * k)))] [] σ ρ (8 * n) (200 * n) := by
  intro n
  induction n with
  | zero =>
    intro k σ ρ T hn hR hM hI
    refine LV_iload_n (n := 19) dL_law_18 rfl rfl rfl ?_
    refine LV_aload_n (n := 20) dL_law_19 rfl rfl rfl ?_
    refine LV_slen (n := 21) dL_law_20 rfl ?_
    refine LV_bipush (v := nI 7) (n := 23) dL_law_21 rfl rfl ?_
    refine LV_isub (n := 24) dL_law_23 rfl ?_
    refine LV_icmp_gt (tgt := 1690) (n := 27) dL_law_24 (by decide) rfl (fun h9 => ?_) (fun h9 => ?_)
    · refine LV_iconst (v := 1) (n := 1691) dL_law_1690 rfl rfl ?_
      exact LV_ret dL_law_1691
    · have hi := lw_idx hL (i := 7 * k) (by omega) h9
      exfalso
      omega
  | succ n ih =>
    intro k σ ρ T hn hR hM hI
    refine LV_iload_n (n := 19) dL_law_18 rfl rfl rfl ?_
    refine LV_aload_n (n := 20) dL_law_19 rfl rfl rfl ?_
    refine LV_slen (n := 21) dL_law_20 rfl ?_
    refine LV_bipush (v := nI 7) (n := 23) dL_law_21 rfl rfl ?_
    refine LV_isub (n := 24) dL_law_23 rfl ?_
    refine LV_icmp_gt (tgt := 1690) (n := 27) dL_law_24 (by decide) rfl (fun h9 => ?_) (fun h9 => ?_)
    · refine LV_iconst (v := 1) (n := 1691) dL_law_1690 rfl rfl ?_
      exact LV_ret dL_law_1691
    · have hi := lw_idx hL (i := 7 * k) (by omega) h9
      have back : ∀ (σ' ρ' : ZS) (T' : TS), cR c σ' T' → rR x ρ' T' → tI T' → LV b L xs 1684 [some (Ar (some b)), some (Ar (some c)), some (Ar (some x)), some (Ai (nI (7 * k)))] [] σ' ρ' (8 * n) (200 * n) := by
        intro σ' ρ' T' h1 h2 h3
        refine LV_iincG (i := 3) (x := nI (7 * k)) (v := nI 7) (n := 1687) dL_law_1684 rfl rfl (by decide) (fun j w h1 h2 => zokl (i := 2) (by omega) h2 rfl rfl) rfl ?_
        rw [nI_add]
        refine LV_goto (tgt := 18) dL_law_1687 (by decide) ?_
        exact ih (k + 1) σ' ρ' T' (by omega) h1 h2 h3
      refine LV_aload_n (n := 28) dL_law_27 rfl rfl rfl ?_
      refine LV_iload_n (n := 29) dL_law_28 rfl rfl rfl ?_
      refine LV_sld (j := 7 * k) (n := 30) dL_law_29 rfl (by omega) hL ?_
      refine LV_bipush (v := nI 63) (n := 32) dL_law_30 rfl rfl ?_
      refine LV_iand (n := 33) dL_law_32 rfl ?_
      generalize xs (7 * k) &&& nI 63 = v
      by_cases h0 : v = nI 0
      · subst h0
        refine LV_tableIn (tgt := 212) dL_law_33 (by decide) (by decide) rfl (by decide) ?_
        exact lw_case_0 hL hR hM hI hi back
      by_cases h1 : v = nI 1
      · subst h1
        refine LV_tableIn (tgt := 235) dL_law_33 (by decide) (by decide) rfl (by decide) ?_
        exact lw_case_1 hL hR hM hI hi back
      by_cases h2 : v = nI 2
      · subst h2
        refine LV_tableIn (tgt := 268) dL_law_33 (by decide) (by decide) rfl (by decide) ?_
        exact lw_case_2 hL hR hM hI hi back
      by_cases h3 : v = nI 3
      · subst h3
        refine LV_tableIn (tgt := 343) dL_law_33 (by decide) (by decide) rfl (by decide) ?_
        exact lw_case_3 hL hR hM hI hi back
      by_cases h4 : v = nI 4
      · subst h4
        refine LV_tableIn (tgt := 366) dL_law_33 (by decide) (by decide) rfl (by decide) ?_
        exact lw_case_4 hL hR hM hI hi back
      by_cases h5 : v = nI 5
      · subst h5
        refine LV_tableIn (tgt := 399) dL_law_33 (by decide) (by decide) rfl (by decide) ?_
        exact lw_case_5 hL hR hM hI hi back
      by_cases h6 : v = nI 6
      · subst h6
        refine LV_tableIn (tgt := 432) dL_law_33 (by decide) (by decide) rfl (by decide) ?_
        exact lw_case_6 hL hR hM hI hi back
      by_cases h7 : v = nI 7
      · subst h7
        refine LV_tableIn (tgt := 465) dL_law_33 (by decide) (by decide) rfl (by decide) ?_
        exact lw_case_7 hL hR hM hI hi back
      by_cases h8 : v = nI 8
      · subst h8
        refine LV_tableIn (tgt := 498) dL_law_33 (by decide) (by decide) rfl (by decide) ?_
        exact lw_case_8 hL hR hM hI hi back
      by_cases h9 : v = nI 9
      · subst h9
        refine LV_tableIn (tgt := 531) dL_law_33 (by decide) (by decide) rfl (by decide) ?_
        exact lw_case_9 hL hR hM hI hi back
      by_cases h10 : v = nI 10
      · subst h10
        refine LV_tableIn (tgt := 580) dL_law_33 (by decide) (by decide) rfl (by decide) ?_
        exact lw_case_10 hL hR hM hI hi back
      by_cases h11 : v = nI 11
      · subst h11
        refine LV_tableIn (tgt := 623) dL_law_33 (by decide) (by decide) rfl (by decide) ?_
        exact lw_case_11 hL hR hM hI hi back
      by_cases h12 : v = nI 12
      · subst h12
        refine LV_tableIn (tgt := 656) dL_law_33 (by decide) (by decide) rfl (by decide) ?_
        exact lw_case_12 hL hR hM hI hi back
      by_cases h13 : v = nI 13
      · subst h13
        refine LV_tableIn (tgt := 690) dL_law_33 (by decide) (by decide) rfl (by decide) ?_
        exact lw_case_13 hL hR hM hI hi back
      by_cases h14 : v = nI 14
      · subst h14
        refine LV_tableIn (tgt := 724) dL_law_33 (by decide) (by decide) rfl (by decide) ?_
        exact lw_case_14 hL hR hM hI hi back
      by_cases h15 : v = nI 15
      · subst h15
        refine LV_tableIn (tgt := 757) dL_law_33 (by decide) (by decide) rfl (by decide) ?_
        exact lw_case_15 hL hR hM hI hi back
      by_cases h16 : v = nI 16
      · subst h16
        refine LV_tableIn (tgt := 800) dL_law_33 (by decide) (by decide) rfl (by decide) ?_
        exact lw_case_16 hL hR hM hI hi back
      by_cases h17 : v = nI 17
      · subst h17
        refine LV_tableIn (tgt := 875) dL_law_33 (by decide) (by decide) rfl (by decide) ?_
        exact lw_case_17 hL hR hM hI hi back
      by_cases h18 : v = nI 18
      · subst h18
        refine LV_tableIn (tgt := 898) dL_law_33 (by decide) (by decide) rfl (by decide) ?_
        exact lw_case_18 hL hR hM hI hi back
      by_cases h19 : v = nI 19
      · subst h19
        refine LV_tableIn (tgt := 931) dL_law_33 (by decide) (by decide) rfl (by decide) ?_
        exact lw_case_19 hL hR hM hI hi back
      by_cases h20 : v = nI 20
      · subst h20
        refine LV_tableIn (tgt := 974) dL_law_33 (by decide) (by decide) rfl (by decide) ?_
        exact lw_case_20 hL hR hM hI hi back
      by_cases h21 : v = nI 21
      · subst h21
        refine LV_tableIn (tgt := 1007) dL_law_33 (by decide) (by decide) rfl (by decide) ?_
        exact lw_case_21 hL hR hM hI hi back
      by_cases h22 : v = nI 22
      · subst h22
        refine LV_tableIn (tgt := 1040) dL_law_33 (by decide) (by decide) rfl (by decide) ?_
        exact lw_case_22 hL hR hM hI hi back
      by_cases h23 : v = nI 23
      · subst h23
        refine LV_tableIn (tgt := 1053) dL_law_33 (by decide) (by decide) rfl (by decide) ?_
        exact lw_case_23 hL hR hM hI hi back
      by_cases h24 : v = nI 24
      · subst h24
        refine LV_tableIn (tgt := 1076) dL_law_33 (by decide) (by decide) rfl (by decide) ?_
        exact lw_case_24 hL hR hM hI hi back
      by_cases h25 : v = nI 25
      · subst h25
        refine LV_tableIn (tgt := 1089) dL_law_33 (by decide) (by decide) rfl (by decide) ?_
        exact lw_case_25 hL hR hM hI hi back
      by_cases h26 : v = nI 26
      · subst h26
        refine LV_tableIn (tgt := 1122) dL_law_33 (by decide) (by decide) rfl (by decide) ?_
        exact lw_case_26 hL hR hM hI hi back
      by_cases h27 : v = nI 27
      · subst h27
        refine LV_tableIn (tgt := 1155) dL_law_33 (by decide) (by decide) rfl (by decide) ?_
        exact lw_case_27 hL hR hM hI hi back
      by_cases h28 : v = nI 28
      · subst h28
        refine LV_tableIn (tgt := 1198) dL_law_33 (by decide) (by decide) rfl (by decide) ?_
        exact lw_case_28 hL hR hM hI hi back
      by_cases h29 : v = nI 29
      · subst h29
        refine LV_tableIn (tgt := 1241) dL_law_33 (by decide) (by decide) rfl (by decide) ?_
        exact lw_case_29 hL hR hM hI hi back
      by_cases h30 : v = nI 30
      · subst h30
        refine LV_tableIn (tgt := 1274) dL_law_33 (by decide) (by decide) rfl (by decide) ?_
        exact lw_case_30 hL hR hM hI hi back
      by_cases h31 : v = nI 31
      · subst h31
        refine LV_tableIn (tgt := 1327) dL_law_33 (by decide) (by decide) rfl (by decide) ?_
        exact lw_case_31 hL hR hM hI hi back
      by_cases h32 : v = nI 32
      · subst h32
        refine LV_tableIn (tgt := 1370) dL_law_33 (by decide) (by decide) rfl (by decide) ?_
        exact lw_case_32 hL hR hM hI hi back
      by_cases h33 : v = nI 33
      · subst h33
        refine LV_tableIn (tgt := 1439) dL_law_33 (by decide) (by decide) rfl (by decide) ?_
        exact lw_case_33 hL hR hM hI hi back
      by_cases h34 : v = nI 34
      · subst h34
        refine LV_tableIn (tgt := 1472) dL_law_33 (by decide) (by decide) rfl (by decide) ?_
        exact lw_case_34 hL hR hM hI hi back
      by_cases h35 : v = nI 35
      · subst h35
        refine LV_tableIn (tgt := 1515) dL_law_33 (by decide) (by decide) rfl (by decide) ?_
        exact lw_case_35 hL hR hM hI hi back
      by_cases h36 : v = nI 36
      · subst h36
        refine LV_tableIn (tgt := 1578) dL_law_33 (by decide) (by decide) rfl (by decide) ?_
        exact lw_case_36 hL hR hM hI hi back
      by_cases h37 : v = nI 37
      · subst h37
        refine LV_tableIn (tgt := 1611) dL_law_33 (by decide) (by decide) rfl (by decide) ?_
        exact lw_case_37 hL hR hM hI hi back
      by_cases h38 : v = nI 38
      · subst h38
        refine LV_tableIn (tgt := 1634) dL_law_33 (by decide) (by decide) rfl (by decide) ?_
        exact lw_case_38 hL hR hM hI hi back
      by_cases h39 : v = nI 39
      · subst h39
        refine LV_tableIn (tgt := 1647) dL_law_33 (by decide) (by decide) rfl (by decide) ?_
        exact lw_case_39 hL hR hM hI hi back
      by_cases h40 : v = nI 40
      · subst h40
        refine LV_tableIn (tgt := 1661) dL_law_33 (by decide) (by decide) rfl (by decide) ?_
        exact lw_case_40 hL hR hM hI hi back
      have g0 := zne_toInt h0 (by decide)
      have g1 := zne_toInt h1 (by decide)
      have g2 := zne_toInt h2 (by decide)
      have g3 := zne_toInt h3 (by decide)
      have g4 := zne_toInt h4 (by decide)
      have g5 := zne_toInt h5 (by decide)
      have g6 := zne_toInt h6 (by decide)
      have g7 := zne_toInt h7 (by decide)
      have g8 := zne_toInt h8 (by decide)
      have g9 := zne_toInt h9 (by decide)
      have g10 := zne_toInt h10 (by decide)
      have g11 := zne_toInt h11 (by decide)
      have g12 := zne_toInt h12 (by decide)
      have g13 := zne_toInt h13 (by decide)
      have g14 := zne_toInt h14 (by decide)
      have g15 := zne_toInt h15 (by decide)
      have g16 := zne_toInt h16 (by decide)
      have g17 := zne_toInt h17 (by decide)
      have g18 := zne_toInt h18 (by decide)
      have g19 := zne_toInt h19 (by decide)
      have g20 := zne_toInt h20 (by decide)
      have g21 := zne_toInt h21 (by decide)
      have g22 := zne_toInt h22 (by decide)
      have g23 := zne_toInt h23 (by decide)
      have g24 := zne_toInt h24 (by decide)
      have g25 := zne_toInt h25 (by decide)
      have g26 := zne_toInt h26 (by decide)
      have g27 := zne_toInt h27 (by decide)
      have g28 := zne_toInt h28 (by decide)
      have g29 := zne_toInt h29 (by decide)
      have g30 := zne_toInt h30 (by decide)
      have g31 := zne_toInt h31 (by decide)
      have g32 := zne_toInt h32 (by decide)
      have g33 := zne_toInt h33 (by decide)
      have g34 := zne_toInt h34 (by decide)
      have g35 := zne_toInt h35 (by decide)
      have g36 := zne_toInt h36 (by decide)
      have g37 := zne_toInt h37 (by decide)
      have g38 := zne_toInt h38 (by decide)
      have g39 := zne_toInt h39 (by decide)
      have g40 := zne_toInt h40 (by decide)
      refine LV_tableOut (tgt := 1684) dL_law_33 (by omega) (by decide) ?_
      exact LV_less (Nat.le_add_right _ 8) (Nat.le_add_right _ 200) (back σ ρ T hR hM hI)
set_option maxHeartbeats 4000000 in
theorem lw_begin {b L : Nat} {xs : Nat → Int32} (hL : L ≤ 3584) (h : Nat) : LV b L xs 0 [some (Ar (some b)), none, none, none] [] (E0 h) (E0 h) 600000 7302250 := by
  refine LV_less (kc' := 4168 + 1) (ks' := 108251 + 19) (by decide) (by decide) ?_
  refine LV_newC (N := 19) (ci := 11) (n := 3) dL_law_0 rfl (by decide) rfl wd_1_18 wd_1_19 wd_1_1 ?_
  refine LV_dup (n := 4) dL_law_3 rfl rfl ?_
  refine LV_run (kc' := 4157) (ks' := 107451) (ZRun_I (M := ML) (M' := M_X11_init) (As := []) (rest := [Ar (some (zn (E0 h)))]) (n := 0) (q_init (nB_0 (k := h) rfl)) cb_X11_init rfl wd_1_20 wd_1_21 rfl rfl dL_law_4 (Nat.le_of_ble_eq_true rfl) (Nat.le_of_ble_eq_true rfl)) (Nat.le_of_ble_eq_true rfl) (Nat.le_of_ble_eq_true rfl) rfl (fun r9 σ9 hp9 hz9 => ?_)
  obtain ⟨rfl, hR⟩ := hp9
  refine LV_astoreG (i := 1) (a := zn (E0 h)) (n := 8) dL_law_7 rfl (by decide) (fun j w h1 h2 => zokl (i := 0) (by omega) h2 rfl rfl) rfl ?_
  refine LV_swap ?_
  show LV b L xs 8 _ _ (E0 (zn σ9)) _ _ _
  refine LV_newC (kc := 4156) (ks := 107400) (N := 51) (ci := 12) (n := 11) dL_law_8 rfl (by decide) rfl wd_4_155 wd_4_156 wd_1_2 ?_
  refine LV_dup (n := 12) dL_law_11 rfl rfl ?_
  refine LV_run (kc' := 4096) (ks' := 102400) (ZRun_I (M := ML) (M' := M_X12_init) (As := []) (rest := [Ar (some (zn (E0 (zn σ9))))]) (n := 0) (c_init (nB_0 (k := zn σ9) rfl)) cb_X12_init rfl wd_4_157 wd_4_158 rfl rfl dL_law_12 (Nat.le_of_ble_eq_true rfl) (Nat.le_of_ble_eq_true rfl)) (Nat.le_of_ble_eq_true rfl) (Nat.le_of_ble_eq_true rfl) rfl (fun r8 ρ8 hp8 hz8 => ?_)
  obtain ⟨rfl, hM⟩ := hp8
  have hz8 : zn σ9 + 1 ≤ zn ρ8 := hz8
  refine LV_astoreG (i := 2) (a := zn (E0 (zn σ9))) (n := 16) dL_law_15 rfl (by decide) (fun j w h1 h2 => zokl (i := 1) (by omega) h2 rfl rfl) rfl ?_
  refine LV_swap ?_
  refine LV_iconst (v := nI 0) (n := 17) dL_law_16 rfl rfl ?_
  refine LV_istoreG (i := 3) (n := 18) dL_law_17 rfl (by decide) (fun j w h1 h2 => zokl (i := 2) (by omega) h2 rfl rfl) rfl ?_
  exact lw_loop hL 512 0 _ _ T0 rfl (cR_zU (n := zn ρ8) hR (by omega)) hM tI_0
theorem lw_cls {s : State} {args : Array Value} (hts : ∀ w ∈ zw, w.before args s = true) : ∀ ci, ci < 13 → ∃ (cC : ClassId) (iS : Nat → Nat), u_Kn s (zcl ci).1 (zcl ci).2.1 (zcl ci).2.2 cC iS
  | 0, _ => u_known hts (zcl_in 0 (by decide)) (hts _ wd_1_136)
  | 1, _ => u_known hts (zcl_in 1 (by decide)) (hts _ wd_1_160)
  | 2, _ => u_known hts (zcl_in 2 (by decide)) (hts _ wd_2_2)
  | 3, _ => u_known hts (zcl_in 3 (by decide)) (hts _ wd_1_144)
  | 4, _ => u_known hts (zcl_in 4 (by decide)) (hts _ wd_3_150)
  | 5, _ => u_known hts (zcl_in 5 (by decide)) (hts _ wd_1_114)
  | 6, _ => u_known hts (zcl_in 6 (by decide)) (hts _ wd_1_152)
  | 7, _ => u_known hts (zcl_in 7 (by decide)) (hts _ wd_1_167)
  | 8, _ => u_known hts (zcl_in 8 (by decide)) (hts _ wd_4_42)
  | 9, _ => u_known hts (zcl_in 9 (by decide)) (hts _ wd_3_89)
  | 10, _ => u_known hts (zcl_in 10 (by decide)) (hts _ wd_1_171)
  | 11, _ => u_known hts (zcl_in 11 (by decide)) (hts _ wd_1_19)
  | 12, _ => u_known hts (zcl_in 12 (by decide)) (hts _ wd_4_156)
  | n + 13, h => absurd h (by omega)
theorem lw_arr {s : State} {args : Array Value} {ty : FieldType} (h : (Cond.arrayClass ty).before args s = true) : ∃ cA : ClassId, ArrOfT s cA ty ∧ s.vm.findClass ("[" ++ ty.toString) = some cA := by
  obtain ⟨cA, kA, comp, h1, h2, h3⟩ := Cond.arrayClass_spec h
  exact ⟨cA, fun n z => ⟨fun k h => (by cases h), kA, h2, comp, h3⟩, h1⟩
theorem lw_ao {s : State} {args : Array Value} {C : String} (h : (Cond.arrayOver (.object C)).before args s = true) : ∃ cA : ClassId, ArrOfT s cA (.object C) ∧ va_RA s cA (.object C) := by
  obtain ⟨comp, c, k, h1, h2, h3, h4, h5⟩ := Cond.arrayOver_spec h
  exact ⟨c, fun n z => ⟨fun k h => (by cases h), k, h3, comp, h4⟩, k, comp, h3, h4, h1, h5⟩
theorem lw_K {s : State} {args : Array Value} (hts : ∀ w ∈ lw_tbl, w.before args s = true) : ∃ (D : va_G) (dA : Nat → ClassId), zK D dA s := by
  have hzw : ∀ w ∈ zw, w.before args s = true := fun w hw => hts w (List.mem_filter.mp hw).1
  have hzx : ∀ w ∈ zx, w.before args s = true := fun w hw => hts w (List.mem_append_right _ (List.mem_filter.mp hw).1)
  have hcl : ∀ ci, ∃ q : ClassId × (Nat → Nat), ci < 13 → u_Kn s (zcl ci).1 (zcl ci).2.1 (zcl ci).2.2 q.1 q.2 := by
    intro ci
    by_cases h : ci < 13
    · obtain ⟨cC, iS, hk⟩ := lw_cls hzw ci h
      exact ⟨(cC, iS), fun _ => hk⟩
    · exact ⟨(0, fun _ => 0), fun z => absurd z h⟩
  obtain ⟨a0, i0, j0⟩ := lw_arr (hzw _ wd_1_97)
  obtain ⟨a1, i1, j1⟩ := lw_arr (hzw _ wd_5_75)
  obtain ⟨a2, i2, j2⟩ := lw_arr (hzw _ wd_1_96)
  obtain ⟨a3, i3, j3⟩ := lw_ao (hzx _ wd_1_27)
  obtain ⟨a4, i4, j4⟩ := lw_ao (hzx _ wd_1_29)
  obtain ⟨a5, i5, j5⟩ := lw_ao (hzx _ wd_1_31)
  obtain ⟨a6, i6, j6⟩ := lw_ao (hzx _ wd_1_33)
  obtain ⟨a7, i7, j7⟩ := lw_ao (hzx _ wd_1_35)
  obtain ⟨a8, i8, j8⟩ := lw_ao (hzx _ wd_1_37)
  refine ⟨(fun ci => (Classical.choose (hcl ci)).1, fun ci => (Classical.choose (hcl ci)).2), (fun k => match k with
    | 0 => a0
    | 1 => a1
    | 2 => a2
    | 3 => a3
    | 4 => a4
    | 5 => a5
    | 6 => a6
    | 7 => a7
    | _ => a8), ⟨fun ci q hq => ?_, fun k q hq => ?_⟩, fun w hw => ?_⟩
  · have hlt : ci < 13 := (List.getElem?_eq_some_iff.mp hq).1
    have he := zcl_at ci hlt
    rw [he] at hq
    cases hq
    exact Classical.choose_spec (hcl ci) hlt
  · match k, hq with
    | 0, hq => cases hq; exact ⟨i0, j0⟩
    | 1, hq => cases hq; exact ⟨i1, j1⟩
    | 2, hq => cases hq; exact ⟨i2, j2⟩
    | 3, hq => cases hq; exact ⟨i3, j3⟩
    | 4, hq => cases hq; exact ⟨i4, j4⟩
    | 5, hq => cases hq; exact ⟨i5, j5⟩
    | 6, hq => cases hq; exact ⟨i6, j6⟩
    | 7, hq => cases hq; exact ⟨i7, j7⟩
    | 8, hq => cases hq; exact ⟨i8, j8⟩
    | k + 9, hq => cases hq
  · have h2 := (List.mem_filter.mp hw).2
    have h3 := hzx w hw
    cases w <;> (try (simp [zExtra] at h2; done))
    all_goals first | exact va_Nw.of rfl h3 | skip
    rename_i ty
    obtain ⟨C, hC⟩ := zx_obj hw
    subst hC
    exact va_AO.of h3
set_option maxHeartbeats 1000000 in
theorem whole_start {p : Program} {e : Env} {s : State} {m : MethodId} {below : List Frame} {meth : Method} {c : Code} (l : Launch) {b L : Nat} {xs : Nat → Int32} (hL : L ≤ 3584) (C0 : lw_At p s m meth c b L xs) : W p l e room_1 s m #[Value.ref b] below meth c s.heap [] 0 0 (lw_Z below #[Value.ref b] s) (entryFrame m ([Value.ref b] : List Value).toArray 4) := by
  obtain ⟨hx, hb, hr, hml, hown, hts, hX, hbl, hlocks, hgv, hnm⟩ := id C0
  obtain ⟨D, dA, hK⟩ := lw_K hts
  have hzw : ∀ w ∈ zw, w.before #[Value.ref b] s = true := fun w hw => hts w (List.mem_filter.mp hw).1
  have hC : LC p s m meth c D dA b L xs := ⟨⟨hx, hb, hml, hown, hzw, hK, hnm, by decide, by decide, Nat.le_refl _, Nat.le_refl _⟩, hr, hlocks, hX, hbl⟩
  rw [lg_entry_eq]
  have hH : LH D dA s (E0 s.heap.size) (E0 s.heap.size) s.heap [] := ⟨⟨rfl, fun a x h => by cases h⟩, ⟨rfl, fun a x h => by cases h⟩, fun a h => absurd rfl h, va_S.rf, fun a h => absurd rfl h, fun a h => absurd rfl h⟩
  exact lw_begin hL s.heap.size p l e s m below meth c D dA hC s.heap [] 0 0 _ hH (by decide) (by decide) (zH_entry (As := [Ar (some b)]) (n := 4) (Nat.le_of_ble_eq_true rfl) rfl)
