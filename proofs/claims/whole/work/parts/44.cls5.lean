theorem lsh1 : ∀ v, v ≤ 5 → lN (5644800 / 2 ^ v) >>> ((nI 1).toInt64 &&& 63) = lN (5644800 / 2 ^ v / 2)
  | 0, _ => by decide
  | 1, _ => by decide
  | 2, _ => by decide
  | 3, _ => by decide
  | 4, _ => by decide
  | 5, _ => by decide
  | v + 6, h => absurd h (by omega)
theorem lsh2 : ∀ v, v ≤ 5 → lN (5644800 / 2 ^ v) >>> ((nI 2).toInt64 &&& 63) = lN (5644800 / 2 ^ v / 4)
  | 0, _ => by decide
  | 1, _ => by decide
  | 2, _ => by decide
  | 3, _ => by decide
  | 4, _ => by decide
  | 5, _ => by decide
  | v + 6, h => absurd h (by omega)
theorem wr1 : ∀ v, v ≤ 5 → 5644800 / 2 ^ v + 5644800 / 2 ^ v / 2 = 5644800 / 2 ^ v / 2 * 3
  | 0, _ => by decide
  | 1, _ => by decide
  | 2, _ => by decide
  | 3, _ => by decide
  | 4, _ => by decide
  | 5, _ => by decide
  | v + 6, h => absurd h (by omega)
theorem wr2 : ∀ v, v ≤ 5 → 5644800 / 2 ^ v + 5644800 / 2 ^ v / 2 + 5644800 / 2 ^ v / 4 = 5644800 / 2 ^ v / 4 * 7
  | 0, _ => by decide
  | 1, _ => by decide
  | 2, _ => by decide
  | 3, _ => by decide
  | 4, _ => by decide
  | 5, _ => by decide
  | v + 6, h => absurd h (by omega)
set_option maxHeartbeats 4000000 in
set_option maxRecDepth 100000 in
theorem e_isNote {c B : Nat} {σ : ZS} {T : TS} {K : KS} (hG : cG c B σ T K) {e : Nat} (he : e < g_ev T) (hk : g_kd T e ≤ 4) : ZC M_X2_isNote [Ar (some (k_ea K e))] σ (fun y9 τ9 => y9 = some (Ai (bI (noB T e))) ∧ τ9 = σ) := by
  refine ZC_of (ls := [some (Ar (some (k_ea K e)))]) (by decide) (Nat.le_of_ble_eq_true rfl) rfl ?_
  refine ZV_aload_n (n := 1) dX2_isNote_0 rfl rfl rfl ?_
  refine ZV_getIv (n := 4) dX2_isNote_1 fl_X2_36 rfl rfl rfl (cf_ek hG e he).1 (cf_ed hG e he) ?_
  refine call_X2_49 (e_isNoteKind _ _ (by omega)) rfl dX2_isNote_4 (Nat.le_of_ble_eq_true rfl) (Nat.le_of_ble_eq_true rfl) rfl (fun r9 σ9 hp9 => ?_)
  obtain ⟨rfl, hs9⟩ := hp9
  subst σ9
  refine ZV_zret dX2_isNote_7 rfl (bI_01 _) ?_
  exact ⟨rfl, rfl⟩
set_option maxHeartbeats 4000000 in
set_option maxRecDepth 100000 in
theorem e_isWithoutTime {c B : Nat} {σ : ZS} {T : TS} {K : KS} (hG : cG c B σ T K) {e : Nat} (he : e < g_ev T) (hk : g_kd T e ≤ 4) : ZC M_X2_isWithoutTime [Ar (some (k_ea K e))] σ (fun y9 τ9 => y9 = some (Ai (bI (decide (g_kd T e = 2 ∨ g_kd T e = 4)))) ∧ τ9 = σ) := by
  refine ZC_of (ls := [some (Ar (some (k_ea K e)))]) (by decide) (Nat.le_of_ble_eq_true rfl) rfl ?_
  refine ZV_aload_n (n := 1) dX2_isWithoutTime_0 rfl rfl rfl ?_
  refine ZV_getIv (n := 4) dX2_isWithoutTime_1 fl_X2_36 rfl rfl rfl (cf_ek hG e he).1 (cf_ed hG e he) ?_
  refine ZV_iconst (v := nI 2) (n := 5) dX2_isWithoutTime_4 rfl rfl ?_
  refine ZV_icmp_eqN (tgt := 16) (n := 8) dX2_isWithoutTime_5 (by decide) rfl (by omega) (by omega) (fun h5 => ?_) (fun h5 => ?_)
  · skip
    refine ZV_iconst (v := nI 1) (n := 17) dX2_isWithoutTime_16 rfl rfl ?_
    refine ZV_goto (tgt := 21) dX2_isWithoutTime_17 (by decide) ?_
    refine ZV_zret dX2_isWithoutTime_21 rfl (by first | exact Or.inl rfl | exact Or.inr rfl) ?_
    refine ⟨?_, rfl⟩
    first | (rw [decide_eq_true (by omega)]; rfl) | (rw [decide_eq_false (by omega)]; rfl)
  · skip
    refine ZV_aload_n (n := 9) dX2_isWithoutTime_8 rfl rfl rfl ?_
    refine ZV_getIv (n := 12) dX2_isWithoutTime_9 fl_X2_36 rfl rfl rfl (cf_ek hG e he).1 (cf_ed hG e he) ?_
    refine ZV_iconst (v := nI 4) (n := 13) dX2_isWithoutTime_12 rfl rfl ?_
    refine ZV_icmp_neN (tgt := 20) (n := 16) dX2_isWithoutTime_13 (by decide) rfl (by omega) (by omega) (fun h13 => ?_) (fun h13 => ?_)
    · skip
      refine ZV_iconst (v := nI 0) (n := 21) dX2_isWithoutTime_20 rfl rfl ?_
      refine ZV_zret dX2_isWithoutTime_21 rfl (by first | exact Or.inl rfl | exact Or.inr rfl) ?_
      refine ⟨?_, rfl⟩
      first | (rw [decide_eq_true (by omega)]; rfl) | (rw [decide_eq_false (by omega)]; rfl)
    · skip
      refine ZV_iconst (v := nI 1) (n := 17) dX2_isWithoutTime_16 rfl rfl ?_
      refine ZV_goto (tgt := 21) dX2_isWithoutTime_17 (by decide) ?_
      refine ZV_zret dX2_isWithoutTime_21 rfl (by first | exact Or.inl rfl | exact Or.inr rfl) ?_
      refine ⟨?_, rfl⟩
      first | (rw [decide_eq_true (by omega)]; rfl) | (rw [decide_eq_false (by omega)]; rfl)
set_option maxHeartbeats 4000000 in
set_option maxRecDepth 100000 in
theorem e_writtenTime {c B : Nat} {σ : ZS} {T : TS} {K : KS} (hG : cG c B σ T K) {e : Nat} (he : e < g_ev T) (hk : g_kd T e ≤ 4) (hva : g_va T e ≤ 5) (hdt : g_dt T e ≤ 2) : ZC M_X2_writtenTime [Ar (some (k_ea K e))] σ (fun y9 τ9 => y9 = some (Al (lN (wrT T e))) ∧ τ9 = σ) := by
  refine ZC_of (ls := [some (Ar (some (k_ea K e))), none, none]) (by decide) (Nat.le_of_ble_eq_true rfl) rfl ?_
  refine ZV_aload_n (n := 1) dX2_writtenTime_0 rfl rfl rfl ?_
  refine call_X2_53 (e_isWithoutTime hG he hk) rfl dX2_writtenTime_1 rfl (cf_ek hG e he).1 (Nat.le_of_ble_eq_true rfl) (Nat.le_of_ble_eq_true rfl) rfl (fun r9 σ9 hp9 => ?_)
  obtain ⟨rfl, hs9⟩ := hp9
  subst σ9
  refine ZV_if_eqB (tgt := 9) (n := 7) dX2_writtenTime_4 (by decide) rfl (fun h4 => ?_) (fun h4 => ?_)
  · skip
    refine ZV_ldc2 (v := lN 5644800) (n := 12) dX2_writtenTime_9 wd_2_87 rfl ?_
    refine ZV_aload_n (n := 13) dX2_writtenTime_12 rfl rfl rfl ?_
    refine ZV_getIv (n := 16) dX2_writtenTime_13 fl_X2_39 rfl rfl rfl (cf_ek hG e he).1 (cf_et hG e he) ?_
    refine ZV_lshr (n := 17) dX2_writtenTime_16 rfl ?_
    refine ZV_topl (lsh_lem _ hva) ?_
    refine ZV_lstore_1 (n := 18) dX2_writtenTime_17 rfl (Nat.le_of_ble_eq_true rfl) rfl ?_
    refine ZV_aload_n (n := 19) dX2_writtenTime_18 rfl rfl rfl ?_
    refine ZV_getIv (n := 22) dX2_writtenTime_19 fl_X2_42 rfl rfl rfl (cf_ek hG e he).1 (cf_es hG e he) ?_
    by_cases h22_1 : g_dt T e = 1
    · skip
      rw [h22_1]
      refine ZV_lookup (tgt := 48) dX2_writtenTime_22 (by decide) (off := 26) (by decide) (by decide) ?_
      refine ZV_lload_n (n := 49) dX2_writtenTime_48 rfl rfl rfl ?_
      refine ZV_lload_n (n := 50) dX2_writtenTime_49 rfl rfl rfl ?_
      refine ZV_iconst (v := nI 1) (n := 51) dX2_writtenTime_50 rfl rfl ?_
      refine ZV_lshr (n := 52) dX2_writtenTime_51 rfl ?_
      refine ZV_topl (lsh1 _ hva) ?_
      refine ZV_laddN (n := 53) dX2_writtenTime_52 rfl ?_
      refine ZV_lret dX2_writtenTime_53 rfl ?_
      refine ⟨?_, rfl⟩
      unfold wrT
      rw [if_neg (of_decide_eq_false h4), if_neg (by omega), if_pos h22_1, wr1 _ hva]
    by_cases h22_2 : g_dt T e = 2
    · skip
      rw [h22_2]
      refine ZV_lookup (tgt := 54) dX2_writtenTime_22 (by decide) (off := 32) (by decide) (by decide) ?_
      refine ZV_lload_n (n := 55) dX2_writtenTime_54 rfl rfl rfl ?_
      refine ZV_lload_n (n := 56) dX2_writtenTime_55 rfl rfl rfl ?_
      refine ZV_iconst (v := nI 1) (n := 57) dX2_writtenTime_56 rfl rfl ?_
      refine ZV_lshr (n := 58) dX2_writtenTime_57 rfl ?_
      refine ZV_topl (lsh1 _ hva) ?_
      refine ZV_laddN (n := 59) dX2_writtenTime_58 rfl ?_
      refine ZV_lload_n (n := 60) dX2_writtenTime_59 rfl rfl rfl ?_
      refine ZV_iconst (v := nI 2) (n := 61) dX2_writtenTime_60 rfl rfl ?_
      refine ZV_lshr (n := 62) dX2_writtenTime_61 rfl ?_
      refine ZV_topl (lsh2 _ hva) ?_
      refine ZV_laddN (n := 63) dX2_writtenTime_62 rfl ?_
      refine ZV_lret dX2_writtenTime_63 rfl ?_
      refine ⟨?_, rfl⟩
      unfold wrT
      rw [if_neg (of_decide_eq_false h4), if_neg (by omega), if_neg (by omega), wr2 _ hva]
    have h22_0 : g_dt T e = 0 := by omega
    rw [h22_0]
    refine ZV_lookup (tgt := 64) dX2_writtenTime_22 (by decide) (off := 42) (by decide) (by decide) ?_
    refine ZV_lload_n (n := 65) dX2_writtenTime_64 rfl rfl rfl ?_
    refine ZV_lret dX2_writtenTime_65 rfl ?_
    refine ⟨?_, rfl⟩
    unfold wrT
    rw [if_neg (of_decide_eq_false h4), if_pos h22_0]
  · skip
    refine ZV_lconst (v := lN 0) (n := 8) dX2_writtenTime_7 rfl rfl ?_
    refine ZV_lret dX2_writtenTime_8 rfl ?_
    refine ⟨?_, rfl⟩
    unfold wrT
    rw [if_pos (of_decide_eq_true h4)]
set_option maxHeartbeats 4000000 in
set_option maxRecDepth 100000 in
theorem e_hasPitchAt {c B : Nat} {σ : ZS} {T : TS} {K : KS} (hG : cG c B σ T K) {e : Nat} (he : e < g_ev T) (hp : g_pn T e ≤ 6) (i : Int32) : ZC M_X2_hasPitchAt [Ar (some (k_ea K e)), Ai i] σ (fun y9 τ9 => y9 = some (Ai (bI (inB i (g_pn T e)))) ∧ τ9 = σ) := by
  refine ZC_of (ls := [some (Ar (some (k_ea K e))), some (Ai i)]) (by decide) (Nat.le_of_ble_eq_true rfl) rfl ?_
  refine ZV_iload_n (n := 1) dX2_hasPitchAt_0 rfl rfl rfl ?_
  refine ZV_if_lt (tgt := 16) (n := 4) dX2_hasPitchAt_1 (by decide) rfl (fun h1 => ?_) (fun h1 => ?_)
  · skip
    refine ZV_iconst (v := nI 0) (n := 17) dX2_hasPitchAt_16 rfl rfl ?_
    refine ZV_zret dX2_hasPitchAt_17 rfl (by first | exact Or.inl rfl | exact Or.inr rfl) ?_
    refine ⟨?_, rfl⟩
    rw [inB_lt0 _ h1]; rfl
  · skip
    refine ZV_iload_n (n := 5) dX2_hasPitchAt_4 rfl rfl rfl ?_
    refine ZV_aload_n (n := 6) dX2_hasPitchAt_5 rfl rfl rfl ?_
    refine ZV_getIv (n := 9) dX2_hasPitchAt_6 fl_X2_9 rfl rfl rfl (cf_ek hG e he).1 (cf_ec hG e he) ?_
    refine ZV_icmp_ge (tgt := 16) (n := 12) dX2_hasPitchAt_9 (by decide) rfl (fun h9 => ?_) (fun h9 => ?_)
    · skip
      refine ZV_iconst (v := nI 0) (n := 17) dX2_hasPitchAt_16 rfl rfl ?_
      refine ZV_zret dX2_hasPitchAt_17 rfl (by first | exact Or.inl rfl | exact Or.inr rfl) ?_
      refine ⟨?_, rfl⟩
      first | (rw [inB_lt0 _ h1]; rfl) | (rw [inB_ge (by omega) (Int32.not_lt.mpr h9)]; rfl) | (rw [inB_ok (by omega) h1 (Int32.not_le.mp h9)]; rfl)
    · skip
      refine ZV_iconst (v := nI 1) (n := 13) dX2_hasPitchAt_12 rfl rfl ?_
      refine ZV_goto (tgt := 17) dX2_hasPitchAt_13 (by decide) ?_
      refine ZV_zret dX2_hasPitchAt_17 rfl (by first | exact Or.inl rfl | exact Or.inr rfl) ?_
      refine ⟨?_, rfl⟩
      first | (rw [inB_lt0 _ h1]; rfl) | (rw [inB_ge (by omega) (Int32.not_lt.mpr h9)]; rfl) | (rw [inB_ok (by omega) h1 (Int32.not_le.mp h9)]; rfl)
theorem pitch_len {T : TS} {e j : Nat} (h1 : g_kd T e ≠ 1 → g_pn T e ≤ 1) (h : g_pn T e ≤ 6) (hj : j < g_pn T e) : j < (if g_kd T e = 1 then 6 else 1) ∧ j < 2147483648 := by
  split
  · omega
  · have := h1 (by assumption)
    omega
set_option maxHeartbeats 4000000 in
set_option maxRecDepth 100000 in
theorem e_lowest {c B : Nat} {σ : ZS} {T : TS} {K : KS} (hG : cG c B σ T K) {e : Nat} (he : e < g_ev T) (hp : g_pn T e ≤ 6) (hc : g_kd T e ≠ 1 → g_pn T e ≤ 1) : ZC M_X2_lowest [Ar (some (k_ea K e))] σ (fun y9 τ9 => y9 = some (Ai (if 0 < g_pn T e then g_pi T e 0 else -1)) ∧ τ9 = σ) := by
  refine ZC_of (ls := [some (Ar (some (k_ea K e)))]) (by decide) (Nat.le_of_ble_eq_true rfl) rfl ?_
  refine ZV_aload_n (n := 1) dX2_lowest_0 rfl rfl rfl ?_
  refine ZV_getIv (n := 4) dX2_lowest_1 fl_X2_9 rfl rfl rfl (cf_ek hG e he).1 (cf_ec hG e he) ?_
  refine ZV_if_leN (tgt := 16) (n := 7) dX2_lowest_4 (by decide) rfl (by omega) (fun h4 => ?_) (fun h4 => ?_)
  · skip
    refine ZV_iconst (v := -1) (n := 17) dX2_lowest_16 rfl rfl ?_
    refine ZV_iret dX2_lowest_17 rfl ?_
    refine ⟨?_, rfl⟩
    first | rw [if_pos (by omega)] | (rw [if_neg (by omega)])
  · skip
    refine ZV_aload_n (n := 8) dX2_lowest_7 rfl rfl rfl ?_
    refine ZV_getRv (n := 11) dX2_lowest_8 fl_X2_45 rfl rfl rfl (cf_ek hG e he).1 (cf_ep hG e he) ?_
    refine ZV_iconst (v := nI 0) (n := 12) dX2_lowest_11 rfl rfl ?_
    refine ZV_ialdv (j := 0) (n := 13) dX2_lowest_12 rfl rfl (cf_ek hG e he).2.1 rfl (pitch_len hc hp (by omega)) (cf_pi hG e 0 he (by omega)) ?_
    refine ZV_goto (tgt := 17) dX2_lowest_13 (by decide) ?_
    refine ZV_iret dX2_lowest_17 rfl ?_
    refine ⟨?_, rfl⟩
    first | rw [if_pos (by omega)] | (rw [if_neg (by omega)])
set_option maxHeartbeats 4000000 in
set_option maxRecDepth 100000 in
theorem e_highest {c B : Nat} {σ : ZS} {T : TS} {K : KS} (hG : cG c B σ T K) {e : Nat} (he : e < g_ev T) (hp : g_pn T e ≤ 6) (hc : g_kd T e ≠ 1 → g_pn T e ≤ 1) : ZC M_X2_highest [Ar (some (k_ea K e))] σ (fun y9 τ9 => y9 = some (Ai (if 0 < g_pn T e then g_pi T e (g_pn T e - 1) else -1)) ∧ τ9 = σ) := by
  refine ZC_of (ls := [some (Ar (some (k_ea K e)))]) (by decide) (Nat.le_of_ble_eq_true rfl) rfl ?_
  refine ZV_aload_n (n := 1) dX2_highest_0 rfl rfl rfl ?_
  refine ZV_getIv (n := 4) dX2_highest_1 fl_X2_9 rfl rfl rfl (cf_ek hG e he).1 (cf_ec hG e he) ?_
  refine ZV_if_leN (tgt := 21) (n := 7) dX2_highest_4 (by decide) rfl (by omega) (fun h4 => ?_) (fun h4 => ?_)
  · skip
    refine ZV_iconst (v := -1) (n := 22) dX2_highest_21 rfl rfl ?_
    refine ZV_iret dX2_highest_22 rfl ?_
    refine ⟨?_, rfl⟩
    first | rw [if_pos (by omega)] | (rw [if_neg (by omega)])
  · skip
    refine ZV_aload_n (n := 8) dX2_highest_7 rfl rfl rfl ?_
    refine ZV_getRv (n := 11) dX2_highest_8 fl_X2_45 rfl rfl rfl (cf_ek hG e he).1 (cf_ep hG e he) ?_
    refine ZV_aload_n (n := 12) dX2_highest_11 rfl rfl rfl ?_
    refine ZV_getIv (n := 15) dX2_highest_12 fl_X2_9 rfl rfl rfl (cf_ek hG e he).1 (cf_ec hG e he) ?_
    refine ZV_iconst (v := nI 1) (n := 16) dX2_highest_15 rfl rfl ?_
    refine ZV_isubN (n := 17) dX2_highest_16 rfl (by omega) ?_
    refine ZV_ialdv (j := g_pn T e - 1) (n := 18) dX2_highest_17 rfl rfl (cf_ek hG e he).2.1 rfl (pitch_len hc hp (by omega)) (cf_pi hG e (g_pn T e - 1) he (by omega)) ?_
    refine ZV_goto (tgt := 22) dX2_highest_18 (by decide) ?_
    refine ZV_iret dX2_highest_22 rfl ?_
    refine ⟨?_, rfl⟩
    first | rw [if_pos (by omega)] | (rw [if_neg (by omega)])
theorem hpN_t {T : TS} {e : Nat} {p : Int32} {i : Nat} (h : g_pi T e i = p) : ∀ n, i < n → hpN T e p n = true
  | 0, q => absurd q (Nat.not_lt_zero _)
  | n + 1, q => by
    rw [hpN]
    by_cases h2 : i = n
    · rw [← h2, decide_eq_true h, Bool.or_true]
    · rw [hpN_t h n (by omega), Bool.true_or]
set_option maxHeartbeats 4000000 in
set_option maxRecDepth 100000 in
theorem e_hasPitch {c B : Nat} {σ : ZS} {T : TS} {K : KS} (hG : cG c B σ T K) {e : Nat} (he : e < g_ev T) (hp : g_pn T e ≤ 6) (hc : g_kd T e ≠ 1 → g_pn T e ≤ 1) (p : Int32) : ZC M_X2_hasPitch [Ar (some (k_ea K e)), Ai p] σ (fun y9 τ9 => y9 = some (Ai (bI (hpB T e p))) ∧ τ9 = σ) := by
  refine ZC_of (ls := [some (Ar (some (k_ea K e))), some (Ai p), none]) (by decide) (Nat.le_of_ble_eq_true rfl) rfl ?_
  have loop : ∀ (n9 : Nat) (i : Nat), g_pn T e - i < n9 → i ≤ g_pn T e → hpN T e p i = false → ZV M_X2_hasPitch (fun y9 τ9 => y9 = some (Ai (bI (hpB T e p))) ∧ τ9 = σ) 2 [some (Ar (some (k_ea K e))), some (Ai p), some (Ai (nI i))] [] σ (zmC M_X2_hasPitch) (zmS M_X2_hasPitch) := by
    intro n9
    induction n9 with
    | zero => intro i hm; exact absurd hm (Nat.not_lt_zero _)
    | succ n9 ih =>
      intro i hm hi hz
      refine ZV_iload_n (n := 3) dX2_hasPitch_2 rfl rfl rfl ?_
      refine ZV_aload_n (n := 4) dX2_hasPitch_3 rfl rfl rfl ?_
      refine ZV_getIv (n := 7) dX2_hasPitch_4 fl_X2_9 rfl rfl rfl (cf_ek hG e he).1 (cf_ec hG e he) ?_
      refine ZV_icmp_geN (tgt := 28) (n := 10) dX2_hasPitch_7 (by decide) rfl (by omega) (by omega) (fun h7 => ?_) (fun h7 => ?_)
      · skip
        refine ZV_iconst (v := nI 0) (n := 29) dX2_hasPitch_28 rfl rfl ?_
        refine ZV_zret dX2_hasPitch_29 rfl (by first | exact Or.inl rfl | exact Or.inr rfl) ?_
        refine ⟨?_, rfl⟩
        unfold hpB
        obtain rfl : i = g_pn T e := by omega
        rw [hz]; rfl
      · skip
        refine ZV_aload_n (n := 11) dX2_hasPitch_10 rfl rfl rfl ?_
        refine ZV_getRv (n := 14) dX2_hasPitch_11 fl_X2_45 rfl rfl rfl (cf_ek hG e he).1 (cf_ep hG e he) ?_
        refine ZV_iload_n (n := 15) dX2_hasPitch_14 rfl rfl rfl ?_
        refine ZV_ialdv (j := i) (n := 16) dX2_hasPitch_15 rfl rfl (cf_ek hG e he).2.1 rfl (pitch_len hc hp (by omega)) (cf_pi hG e i he (by omega)) ?_
        refine ZV_iload_n (n := 17) dX2_hasPitch_16 rfl rfl rfl ?_
        refine ZV_icmp_ne (tgt := 22) (n := 20) dX2_hasPitch_17 (by decide) rfl (fun h17 => ?_) (fun h17 => ?_)
        · skip
          refine ZV_iincN_2 (v := 1) (n := 25) dX2_hasPitch_22 rfl rfl (Nat.le_of_ble_eq_true rfl) rfl ?_
          refine ZV_goto (tgt := 2) dX2_hasPitch_25 (by decide) ?_
          exact ih (i + 1) (by omega) (by omega) (by rw [hpN, hz, decide_eq_false h17]; rfl)
        · skip
          refine ZV_iconst (v := nI 1) (n := 21) dX2_hasPitch_20 rfl rfl ?_
          refine ZV_zret dX2_hasPitch_21 rfl (by first | exact Or.inl rfl | exact Or.inr rfl) ?_
          refine ⟨?_, rfl⟩
          unfold hpB
          rw [hpN_t h17 _ (by omega)]; rfl
  refine ZV_iconst (v := nI 0) (n := 1) dX2_hasPitch_0 rfl rfl ?_
  refine ZV_istore_2 (n := 2) dX2_hasPitch_1 rfl (Nat.le_of_ble_eq_true rfl) rfl ?_
  exact loop _ 0 (Nat.lt_succ_self _) (Nat.zero_le _) rfl
theorem haN_f {T : TS} {f e i : Nat} (h : hpB T f (g_pi T e i) = false) : ∀ n, i < n → haN T f e n = false
  | 0, q => absurd q (Nat.not_lt_zero _)
  | n + 1, q => by
    rw [haN]
    by_cases h2 : i = n
    · rw [← h2, h, Bool.and_false]
    · rw [haN_f h n (by omega), Bool.false_and]
set_option maxHeartbeats 4000000 in
set_option maxRecDepth 100000 in
theorem e_hasAllPitchesOf {c B : Nat} {σ : ZS} {T : TS} {K : KS} (hG : cG c B σ T K) {e : Nat} (he : e < g_ev T) {f : Nat} (hf : f < g_ev T) (hp : g_pn T e ≤ 6) (hc : g_kd T e ≠ 1 → g_pn T e ≤ 1) (hp2 : g_pn T f ≤ 6) (hc2 : g_kd T f ≠ 1 → g_pn T f ≤ 1) : ZC M_X2_hasAllPitchesOf [Ar (some (k_ea K f)), Ar (some (k_ea K e))] σ (fun y9 τ9 => y9 = some (Ai (bI (haN T f e (g_pn T e)))) ∧ τ9 = σ) := by
  refine ZC_of (ls := [some (Ar (some (k_ea K f))), some (Ar (some (k_ea K e))), none]) (by decide) (Nat.le_of_ble_eq_true rfl) rfl ?_
  have loop : ∀ (n9 : Nat) (i : Nat), g_pn T e - i < n9 → i ≤ g_pn T e → haN T f e i = true → ZV M_X2_hasAllPitchesOf (fun y9 τ9 => y9 = some (Ai (bI (haN T f e (g_pn T e)))) ∧ τ9 = σ) 2 [some (Ar (some (k_ea K f))), some (Ar (some (k_ea K e))), some (Ai (nI i))] [] σ (zmC M_X2_hasAllPitchesOf) (zmS M_X2_hasAllPitchesOf) := by
    intro n9
    induction n9 with
    | zero => intro i hm; exact absurd hm (Nat.not_lt_zero _)
    | succ n9 ih =>
      intro i hm hi hz
      refine ZV_iload_n (n := 3) dX2_hasAllPitchesOf_2 rfl rfl rfl ?_
      refine ZV_aload_n (n := 4) dX2_hasAllPitchesOf_3 rfl rfl rfl ?_
      refine ZV_getIv (n := 7) dX2_hasAllPitchesOf_4 fl_X2_9 rfl rfl rfl (cf_ek hG e he).1 (cf_ec hG e he) ?_
      refine ZV_icmp_geN (tgt := 31) (n := 10) dX2_hasAllPitchesOf_7 (by decide) rfl (by omega) (by omega) (fun h7 => ?_) (fun h7 => ?_)
      · skip
        refine ZV_iconst (v := nI 1) (n := 32) dX2_hasAllPitchesOf_31 rfl rfl ?_
        refine ZV_zret dX2_hasAllPitchesOf_32 rfl (by first | exact Or.inl rfl | exact Or.inr rfl) ?_
        refine ⟨?_, rfl⟩
        obtain rfl : i = g_pn T e := by omega
        rw [hz]; rfl
      · skip
        refine ZV_aload_n (n := 11) dX2_hasAllPitchesOf_10 rfl rfl rfl ?_
        refine ZV_aload_n (n := 12) dX2_hasAllPitchesOf_11 rfl rfl rfl ?_
        refine ZV_getRv (n := 15) dX2_hasAllPitchesOf_12 fl_X2_45 rfl rfl rfl (cf_ek hG e he).1 (cf_ep hG e he) ?_
        refine ZV_iload_n (n := 16) dX2_hasAllPitchesOf_15 rfl rfl rfl ?_
        refine ZV_ialdv (j := i) (n := 17) dX2_hasAllPitchesOf_16 rfl rfl (cf_ek hG e he).2.1 rfl (pitch_len hc hp (by omega)) (cf_pi hG e i he (by omega)) ?_
        refine call_X2_70 (e_hasPitch hG hf hp2 hc2 _) rfl dX2_hasAllPitchesOf_17 rfl (cf_ek hG f hf).1 (Nat.le_of_ble_eq_true rfl) (Nat.le_of_ble_eq_true rfl) rfl (fun r9 σ9 hp9 => ?_)
        obtain ⟨rfl, hs9⟩ := hp9
        subst σ9
        refine ZV_if_neB (tgt := 25) (n := 23) dX2_hasAllPitchesOf_20 (by decide) rfl (fun h20 => ?_) (fun h20 => ?_)
        · skip
          refine ZV_iincN_2 (v := 1) (n := 28) dX2_hasAllPitchesOf_25 rfl rfl (Nat.le_of_ble_eq_true rfl) rfl ?_
          refine ZV_goto (tgt := 2) dX2_hasAllPitchesOf_28 (by decide) ?_
          exact ih (i + 1) (by omega) (by omega) (by rw [haN, hz, h20]; rfl)
        · skip
          refine ZV_iconst (v := nI 0) (n := 24) dX2_hasAllPitchesOf_23 rfl rfl ?_
          refine ZV_zret dX2_hasAllPitchesOf_24 rfl (by first | exact Or.inl rfl | exact Or.inr rfl) ?_
          refine ⟨?_, rfl⟩
          rw [haN_f h20 _ (by omega)]; rfl
  refine ZV_iconst (v := nI 0) (n := 1) dX2_hasAllPitchesOf_0 rfl rfl ?_
  refine ZV_istore_2 (n := 2) dX2_hasAllPitchesOf_1 rfl (Nat.le_of_ble_eq_true rfl) rfl ?_
  exact loop _ 0 (Nat.lt_succ_self _) (Nat.zero_le _) rfl
