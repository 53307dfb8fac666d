theorem u2_u2 {α : Type} (f : Nat → Nat → α) (e i : Nat) (G : Nat → α) (v : α) : va_u2 (va_u2 f e G) e (va_up (va_u2 f e G e) i v) = va_u2 f e (va_up G i v) := by
  funext a
  unfold va_u2
  by_cases h : a = e
  · simp [h]
  · simp [h]
theorem u2_self {α : Type} (f : Nat → Nat → α) (e : Nat) : va_u2 f e (f e) = f := by
  funext a
  unfold va_u2
  by_cases h : a = e
  · simp [h]
  · simp [h]
theorem u2_at {α : Type} (f : Nat → Nat → α) (e : Nat) (G : Nat → α) : va_u2 f e G e = G := by simp [va_u2]
def ltF {α : Type} (a b : Nat → α) (i : Nat) : Nat → α := fun j => if j < i then a j else b j
theorem ltF_up {α : Type} (a b : Nat → α) (i : Nat) : va_up (ltF a b i) i (a i) = ltF a b (i + 1) := by
  funext j
  unfold va_up ltF
  by_cases h : j = i
  · simp [h]
  · by_cases h2 : j < i
    · simp [h, h2, Nat.lt_succ_of_lt h2]
    · have : ¬ j < i + 1 := by omega
      simp [h, h2, this]
theorem ltF_0 {α : Type} (a b : Nat → α) : ltF a b 0 = b := by funext j; simp [ltF]
theorem ltF_at {α : Type} (a b : Nat → α) (i : Nat) : ltF a b i i = b i := by simp [ltF]
theorem up_self {α : Type} (f : Nat → α) (i : Nat) : va_up f i (f i) = f := by
  funext j
  unfold va_up
  by_cases h : j = i
  · simp [h]
  · simp [h]
theorem hs_pi (T : TS) : h_pi T (g_pi T) = T := by unfold h_pi g_pi; simp only [up_self]
theorem hs_ro (T : TS) : h_ro T (g_ro T) = T := by unfold h_ro g_ro; simp only [up_self]
theorem la_toInt {a : Nat} {b : Int64} (ha : a ≤ 127) (hb : -8589934592 ≤ b.toInt ∧ b.toInt ≤ 8589934592) : (lN a + b).toInt = (a : Int) + b.toInt := by
  rw [Int64.toInt_add, pk_lT (by omega)]
  rw [Int.bmod_eq_of_le] <;> omega
def mayB (T : TS) (e : Nat) (z : Int) : Bool := decide (0 ≤ (g_pv T e 0 : Int) + z ∧ (g_pv T e (g_pn T e - 1) : Int) + z ≤ 127)
def shT (T : TS) (e : Nat) (w : Int32) : TS := h_pi T (va_u2 (g_pi T) e (ltF (fun j => g_pi T e j + w) (g_pi T e) (g_pn T e)))
def sp_shift (T : TS) (e w : Int32) : Int32 × TS := if evB T e = false then sNo T (-2) else if noB T e.toNatClampNeg = false then sFl T 2 (-13) (-13) else if mayB T e.toNatClampNeg w.toInt = false then sFl T 1 (-12) (-12) else sOk (shT T e.toNatClampNeg w) (nI (g_pn T e.toNatClampNeg))
set_option maxHeartbeats 4000000 in
set_option maxRecDepth 100000 in
theorem c_mayShift {x : Nat} {σ : ZS} {T : TS} (hR : rR x σ T) (hI : tI T) (e : Nat) (he : e < g_ev T) (hk : g_kd T e < 3) (w : Int64) (hb : -8589934592 ≤ w.toInt ∧ w.toInt ≤ 8589934592) : ZC M_X12_mayShift [Ar (some x), Ai (nI e), Al w] σ (fun r τ => r = some (Ai (bI (mayB T e w.toInt))) ∧ τ = σ) := by
  have hev := ti_ev hI
  have hpn := ti_pn hI e
  have hpn1 := ti_pn1 hI e he hk
  have hp0 := ti_pi hI e 0 he (by omega)
  have hp1 := ti_pi hI e (g_pn T e - 1) he (by omega)
  refine ZC_of (ls := [some (Ar (some x)), some (Ai (nI e)), some (Al w), none]) (by decide) (Nat.le_of_ble_eq_true rfl) rfl ?_
  refine ZV_aload_n (n := 1) dX12_mayShift_0 rfl rfl rfl ?_
  refine ZV_getR (n := 4) dX12_mayShift_1 fl_X12_30 rfl rfl rfl (rf_sh hR :).1 ?_
  refine ZV_bipush (v := nI 6) (n := 6) dX12_mayShift_4 rfl rfl ?_
  refine ZV_iload_n (n := 7) dX12_mayShift_6 rfl rfl rfl ?_
  refine ZV_imulN (n := 8) dX12_mayShift_7 rfl ?_
  refine ZV_ialdv (n := 9) dX12_mayShift_8 rfl (ra_pitchOf (rf_sh hR :) :) (rk_pitchOf (rf_sh hR :) :) rfl (by omega) ((rf_pitchOf hR e 0 (by omega) (by omega)).trans hp0.1) ?_
  refine ZV_i2lN (n := 10) dX12_mayShift_9 rfl (by omega) ?_
  refine ZV_lload_n (n := 11) dX12_mayShift_10 rfl rfl rfl ?_
  refine ZV_ladd (n := 12) dX12_mayShift_11 rfl ?_
  refine ZV_lconst (v := lN 0) (n := 13) dX12_mayShift_12 rfl rfl ?_
  refine ZV_lcmp_lt (tgt := 49) (pc1 := 14) (n := 17) dX12_mayShift_13 rfl dX12_mayShift_14 (by decide) rfl (fun h13 => ?_) (fun h13 => ?_)
  · skip
    refine ZV_iconst (v := nI 0) (n := 50) dX12_mayShift_49 rfl rfl ?_
    refine ZV_zret dX12_mayShift_50 rfl (by first | exact Or.inl rfl | exact Or.inr rfl) ?_
    refine ⟨?_, rfl⟩
    simp only [Int64.lt_iff_toInt_lt, la_toInt hp0.2 hb, la_toInt hp1.2 hb, pk_lT (n := 0) (by decide), pk_lT (n := 127) (by decide)] at *
    unfold mayB
    first | (rw [decide_eq_true (by omega)]; rfl) | (rw [decide_eq_false (by omega)]; rfl)
  · skip
    refine ZV_aload_n (n := 18) dX12_mayShift_17 rfl rfl rfl ?_
    refine ZV_getR (n := 21) dX12_mayShift_18 fl_X12_30 rfl rfl rfl (rf_sh hR :).1 ?_
    refine ZV_bipush (v := nI 6) (n := 23) dX12_mayShift_21 rfl rfl ?_
    refine ZV_iload_n (n := 24) dX12_mayShift_23 rfl rfl rfl ?_
    refine ZV_imulN (n := 25) dX12_mayShift_24 rfl ?_
    refine ZV_aload_n (n := 26) dX12_mayShift_25 rfl rfl rfl ?_
    refine ZV_getR (n := 29) dX12_mayShift_26 fl_X12_27 rfl rfl rfl (rf_sh hR :).1 ?_
    refine ZV_iload_n (n := 30) dX12_mayShift_29 rfl rfl rfl ?_
    refine ZV_ialdv (n := 31) dX12_mayShift_30 rfl (ra_pitches (rf_sh hR :) :) (rk_pitches (rf_sh hR :) :) rfl (by omega) (rf_pitches hR _ (by omega)) ?_
    refine ZV_iaddN (n := 32) dX12_mayShift_31 rfl ?_
    refine ZV_iconst (v := nI 1) (n := 33) dX12_mayShift_32 rfl rfl ?_
    refine ZV_isubN (n := 34) dX12_mayShift_33 rfl (by omega) ?_
    refine ZV_ialdv (n := 35) dX12_mayShift_34 rfl (ra_pitchOf (rf_sh hR :) :) (rk_pitchOf (rf_sh hR :) :) rfl (by omega) (Eq.trans (congrArg _ (show 6 * e + g_pn T e - 1 = 6 * e + (g_pn T e - 1) by omega)) ((rf_pitchOf hR e (g_pn T e - 1) (by omega) (by omega)).trans hp1.1)) ?_
    refine ZV_i2lN (n := 36) dX12_mayShift_35 rfl (by omega) ?_
    refine ZV_lload_n (n := 37) dX12_mayShift_36 rfl rfl rfl ?_
    refine ZV_ladd (n := 38) dX12_mayShift_37 rfl ?_
    refine ZV_ldc2 (v := lN 127) (n := 41) dX12_mayShift_38 wd_5_128 rfl ?_
    refine ZV_lcmp_gt (tgt := 49) (pc1 := 42) (n := 45) dX12_mayShift_41 rfl dX12_mayShift_42 (by decide) rfl (fun h41 => ?_) (fun h41 => ?_)
    · skip
      refine ZV_iconst (v := nI 0) (n := 50) dX12_mayShift_49 rfl rfl ?_
      refine ZV_zret dX12_mayShift_50 rfl (by first | exact Or.inl rfl | exact Or.inr rfl) ?_
      refine ⟨?_, rfl⟩
      simp only [Int64.lt_iff_toInt_lt, la_toInt hp0.2 hb, la_toInt hp1.2 hb, pk_lT (n := 0) (by decide), pk_lT (n := 127) (by decide)] at *
      unfold mayB
      first | (rw [decide_eq_true (by omega)]; rfl) | (rw [decide_eq_false (by omega)]; rfl)
    · skip
      refine ZV_iconst (v := nI 1) (n := 46) dX12_mayShift_45 rfl rfl ?_
      refine ZV_goto (tgt := 50) dX12_mayShift_46 (by decide) ?_
      refine ZV_zret dX12_mayShift_50 rfl (by first | exact Or.inl rfl | exact Or.inr rfl) ?_
      refine ⟨?_, rfl⟩
      simp only [Int64.lt_iff_toInt_lt, la_toInt hp0.2 hb, la_toInt hp1.2 hb, pk_lT (n := 0) (by decide), pk_lT (n := 127) (by decide)] at *
      unfold mayB
      first | (rw [decide_eq_true (by omega)]; rfl) | (rw [decide_eq_false (by omega)]; rfl)
set_option maxHeartbeats 4000000 in
set_option maxRecDepth 100000 in
theorem c_shifts {x : Nat} {σ : ZS} {T : TS} (hR : rR x σ T) (hI : tI T) (e : Nat) (he : e < g_ev T) (w : Int32) : ZC M_X12_shifts [Ar (some x), Ai (nI e), Ai w] σ (fun y0 τ0 => y0 = none ∧ rR x τ0 (shT T e w)) := by
  have hev := ti_ev hI
  have hpn := ti_pn hI e
  refine ZC_of (ls := [some (Ar (some x)), some (Ai (nI e)), some (Ai w), none]) (by decide) (Nat.le_of_ble_eq_true rfl) rfl ?_
  have loop : ∀ (n9 : Nat) (i : Nat) (τ : ZS), g_pn T e - i < n9 → i ≤ g_pn T e → rR x τ (h_pi T (va_u2 (g_pi T) e (ltF (fun j => g_pi T e j + w) (g_pi T e) i))) → ZV M_X12_shifts (fun y0 τ0 => y0 = none ∧ rR x τ0 (shT T e w)) 2 [some (Ar (some x)), some (Ai (nI e)), some (Ai w), some (Ai (nI i))] [] τ (zmC M_X12_shifts) (zmS M_X12_shifts) := by
    intro n9
    induction n9 with
    | zero => intro i τ hm; exact absurd hm (Nat.not_lt_zero _)
    | succ n9 ih =>
      intro i τ hm hi hR9
      refine ZV_iload_n (n := 3) dX12_shifts_2 rfl rfl rfl ?_
      refine ZV_aload_n (n := 4) dX12_shifts_3 rfl rfl rfl ?_
      refine ZV_getR (n := 7) dX12_shifts_4 fl_X12_27 rfl rfl rfl (rf_sh hR9 :).1 ?_
      refine ZV_iload_n (n := 8) dX12_shifts_7 rfl rfl rfl ?_
      refine ZV_ialdv (n := 9) dX12_shifts_8 rfl (ra_pitches (rf_sh hR9 :) :) (rk_pitches (rf_sh hR9 :) :) rfl (by omega) (Eq.trans ((rf_pitches hR9 e (by omega)) :) (show _ = nI (g_pn T e) by first | simp only [gh_pn_ct, gh_pn_cu, gh_pn_cl, gh_pn_np, gh_pn_pk, gh_pn_nb, gh_pn_bt, gh_pn_ev, gh_pn_th, gh_pn_vo, gh_pn_kd, gh_pn_pn, gh_pn_pi, gh_pn_va, gh_pn_dt, gh_pn_ti, gh_pn_pl, gh_pn_mn, gh_pn_ro, gh_pn_te, gh_pn_tt, gh_pn_tv, gh_pn_tf, gh_pn_tl, gh_pn_tn, gh_pn_tm, gh_pn_tu, gh_pn_le, gh_pn_lt, gh_pn_lk, gh_pn_lf, gh_pn_lo, gh_pn_wm, gh_pn_wr, gh_pn_fo, gh_pn_fi, gh_pn_hr, gh_pn_rk, gh_pn_rs, gh_pn_rr, gh_pn_hs, gh_pn_sk, gh_pn_ss, gh_pn_sr, gh_pn_fa, gh_pn_su, gh_pn_tr] | rfl)) ?_
      refine ZV_icmp_geN (tgt := 33) (n := 12) dX12_shifts_9 (by decide) rfl (by omega) (by omega) (fun h9 => ?_) (fun h9 => ?_)
      · skip
        refine ZV_vret dX12_shifts_33 rfl ?_
        obtain rfl : i = g_pn T e := by omega
        exact ⟨rfl, hR9⟩
      · skip
        refine ZV_aload_n (n := 13) dX12_shifts_12 rfl rfl rfl ?_
        refine ZV_getR (n := 16) dX12_shifts_13 fl_X12_30 rfl rfl rfl (rf_sh hR9 :).1 ?_
        refine ZV_bipush (v := nI 6) (n := 18) dX12_shifts_16 rfl rfl ?_
        refine ZV_iload_n (n := 19) dX12_shifts_18 rfl rfl rfl ?_
        refine ZV_imulN (n := 20) dX12_shifts_19 rfl ?_
        refine ZV_iload_n (n := 21) dX12_shifts_20 rfl rfl rfl ?_
        refine ZV_iaddN (n := 22) dX12_shifts_21 rfl ?_
        refine ZV_dup2 (n := 23) dX12_shifts_22 rfl rfl rfl ?_
        refine ZV_ialdv (n := 24) dX12_shifts_23 rfl (ra_pitchOf (rf_sh hR9 :) :) (rk_pitchOf (rf_sh hR9 :) :) rfl (by omega) ((rf_pitchOf hR9 e i (by omega) (by omega)).trans (show va_u2 (g_pi T) e _ e i = g_pi T e i by rw [u2_at, ltF_at])) ?_
        refine ZV_iload_n (n := 25) dX12_shifts_24 rfl rfl rfl ?_
        refine ZV_iadd (n := 26) dX12_shifts_25 rfl ?_
        refine ZV_iast (n := 27) dX12_shifts_26 rfl (ra_pitchOf (rf_sh hR9 :) :) (rk_pitchOf (rf_sh hR9 :) :) rfl (by omega) ?_
        refine ZV_gen (P := fun τ => rR x τ _) (rR_pitchOf (i := e) (j := i) hR9 (by omega) (by omega) _) (fun τ2 hR9 => ?_)
        rw [hh_pi, show g_pi (h_pi T (va_u2 (g_pi T) e (ltF (fun j => g_pi T e j + w) (g_pi T e) i))) = va_u2 (g_pi T) e (ltF (fun j => g_pi T e j + w) (g_pi T e) i) from rfl, u2_u2, ltF_up (fun j => g_pi T e j + w)] at hR9
        refine ZV_iincN_3 (v := 1) (n := 30) dX12_shifts_27 rfl rfl (Nat.le_of_ble_eq_true rfl) rfl ?_
        refine ZV_goto (tgt := 2) dX12_shifts_30 (by decide) ?_
        exact ih (i + 1) _ (by omega) (by omega) hR9
  refine ZV_iconst (v := nI 0) (n := 1) dX12_shifts_0 rfl rfl ?_
  refine ZV_istore_3 (n := 2) dX12_shifts_1 rfl (Nat.le_of_ble_eq_true rfl) rfl ?_
  exact loop _ 0 σ (Nat.lt_succ_self _) (by omega) (by rw [ltF_0, u2_self, hs_pi]; exact hR)
set_option maxHeartbeats 4000000 in
set_option maxRecDepth 100000 in
theorem c_shift {x : Nat} {σ : ZS} {T : TS} (hR : rR x σ T) (hI : tI T) (e w : Int32) : ZC M_X12_shift [Ar (some x), Ai e, Ai w] σ (fun y0 τ0 => y0 = some (Ai (sp_shift T e w).1) ∧ rR x τ0 (sp_shift T e w).2) := by
  have hsp : sp_shift T e w = sp_shift (h_su T 0) e w := rfl
  rw [hsp]
  clear hsp
  refine ZC_of (ls := [some (Ar (some x)), some (Ai e), some (Ai w)]) (by decide) (Nat.le_of_ble_eq_true rfl) rfl ?_
  refine ZV_aload_n (n := 1) dX12_shift_0 rfl rfl rfl ?_
  refine call_X12_144 (c_begin hR) rfl dX12_shift_1 rfl (rf_sh hR :).1 (Nat.le_of_ble_eq_true rfl) (Nat.le_of_ble_eq_true rfl) rfl (fun r9 σ9 hp9 => ?_)
  obtain ⟨rfl, hR⟩ := hp9
  have hI := tI_su hI 0
  have hsu : g_su (h_su T 0) = 0 := rfl
  generalize h_su T 0 = T at hR hI hsu ⊢
  have hev := ti_ev hI
  refine ZV_aload_n (n := 5) dX12_shift_4 rfl rfl rfl ?_
  refine ZV_iload_n (n := 6) dX12_shift_5 rfl rfl rfl ?_
  refine call_X12_193 (c_isEvent hR hI _) rfl dX12_shift_6 rfl (rf_sh hR :).1 (Nat.le_of_ble_eq_true rfl) (Nat.le_of_ble_eq_true rfl) rfl (fun r9 σ9 hp9 => ?_)
  obtain ⟨rfl, rfl⟩ := hp9
  refine ZV_if_neB (tgt := 19) (n := 12) dX12_shift_9 (by decide) rfl (fun h9 => ?_) (fun h9 => ?_)
  · skip
    obtain ⟨j, hj, hjt, rfl⟩ := evB_t hI h9
    have hjx : j < 2147483648 := by omega
    have hpn := ti_pn hI j
    refine ZV_aload_n (n := 20) dX12_shift_19 rfl rfl rfl ?_
    refine ZV_iload_n (n := 21) dX12_shift_20 rfl rfl rfl ?_
    refine call_X12_214 (c_isNote hR hI _ (by omega)) rfl dX12_shift_21 rfl (rf_sh hR :).1 (Nat.le_of_ble_eq_true rfl) (Nat.le_of_ble_eq_true rfl) rfl (fun r9 σ9 hp9 => ?_)
    obtain ⟨rfl, rfl⟩ := hp9
    refine ZV_if_neB (tgt := 34) (n := 27) dX12_shift_24 (by decide) rfl (fun h24 => ?_) (fun h24 => ?_)
    · skip
      have hkd : g_kd T j < 3 := of_decide_eq_true h24
      have hw1 := w.toInt_lt
      have hw2 := w.le_toInt
      have hwe : w.toInt64.toInt = w.toInt := Int32.toInt_toInt64 w
      refine ZV_aload_n (n := 35) dX12_shift_34 rfl rfl rfl ?_
      refine ZV_iload_n (n := 36) dX12_shift_35 rfl rfl rfl ?_
      refine ZV_iload_n (n := 37) dX12_shift_36 rfl rfl rfl ?_
      refine ZV_i2l (n := 38) dX12_shift_37 rfl ?_
      refine call_X12_223 (c_mayShift hR hI _ (by omega) hkd _ (by omega)) rfl dX12_shift_38 rfl (rf_sh hR :).1 (Nat.le_of_ble_eq_true rfl) (Nat.le_of_ble_eq_true rfl) rfl (fun r9 σ9 hp9 => ?_)
      obtain ⟨rfl, rfl⟩ := hp9
      rw [hwe]
      refine ZV_if_neB (tgt := 51) (n := 44) dX12_shift_41 (by decide) rfl (fun h41 => ?_) (fun h41 => ?_)
      · skip
        refine ZV_aload_n (n := 52) dX12_shift_51 rfl rfl rfl ?_
        refine ZV_iload_n (n := 53) dX12_shift_52 rfl rfl rfl ?_
        refine ZV_iload_n (n := 54) dX12_shift_53 rfl rfl rfl ?_
        refine call_X12_227 (c_shifts hR hI _ (by omega) _) rfl dX12_shift_54 rfl (rf_sh hR :).1 (Nat.le_of_ble_eq_true rfl) (Nat.le_of_ble_eq_true rfl) rfl (fun r9 σ9 hp9 => ?_)
        obtain ⟨rfl, hR⟩ := hp9
        refine ZV_aload_n (n := 58) dX12_shift_57 rfl rfl rfl ?_
        refine ZV_getR (n := 61) dX12_shift_58 fl_X12_27 rfl rfl rfl (rf_sh hR :).1 ?_
        refine ZV_iload_n (n := 62) dX12_shift_61 rfl rfl rfl ?_
        refine ZV_ialdv (n := 63) dX12_shift_62 rfl (ra_pitches (rf_sh hR :) :) (rk_pitches (rf_sh hR :) :) rfl (by omega) (Eq.trans ((rf_pitches hR j (by omega)) :) (show _ = nI (g_pn T j) by first | simp only [gh_pn_ct, gh_pn_cu, gh_pn_cl, gh_pn_np, gh_pn_pk, gh_pn_nb, gh_pn_bt, gh_pn_ev, gh_pn_th, gh_pn_vo, gh_pn_kd, gh_pn_pn, gh_pn_pi, gh_pn_va, gh_pn_dt, gh_pn_ti, gh_pn_pl, gh_pn_mn, gh_pn_ro, gh_pn_te, gh_pn_tt, gh_pn_tv, gh_pn_tf, gh_pn_tl, gh_pn_tn, gh_pn_tm, gh_pn_tu, gh_pn_le, gh_pn_lt, gh_pn_lk, gh_pn_lf, gh_pn_lo, gh_pn_wm, gh_pn_wr, gh_pn_fo, gh_pn_fi, gh_pn_hr, gh_pn_rk, gh_pn_rs, gh_pn_rr, gh_pn_hs, gh_pn_sk, gh_pn_ss, gh_pn_sr, gh_pn_fa, gh_pn_su, gh_pn_tr] | rfl)) ?_
        refine ZV_iret dX12_shift_63 rfl ?_
        exact zleaf (v := sOk (shT T j w) (nI (g_pn T j))) (by simp [sp_shift, h9, h24, h41, nI_clamp hjx]) rfl (rR_s0 hR hsu)
      · skip
        refine ZV_aload_n (n := 45) dX12_shift_44 rfl rfl rfl ?_
        refine ZV_bipush (v := -12) (n := 47) dX12_shift_45 rfl rfl ?_
        refine call_X12_211 (c_fails hR (-12) 1 (by decide) rfl) rfl dX12_shift_47 rfl (rf_sh hR :).1 (Nat.le_of_ble_eq_true rfl) (Nat.le_of_ble_eq_true rfl) rfl (fun r9 σ9 hp9 => ?_)
        obtain ⟨rfl, hR⟩ := hp9
        refine ZV_iret dX12_shift_50 rfl ?_
        exact zleaf (v := sFl T 1 (-12) (-12)) (by simp [sp_shift, h9, h24, h41, nI_clamp hjx]) rfl hR
    · skip
      refine ZV_aload_n (n := 28) dX12_shift_27 rfl rfl rfl ?_
      refine ZV_bipush (v := -13) (n := 30) dX12_shift_28 rfl rfl ?_
      refine call_X12_211 (c_fails hR (-13) 2 (by decide) rfl) rfl dX12_shift_30 rfl (rf_sh hR :).1 (Nat.le_of_ble_eq_true rfl) (Nat.le_of_ble_eq_true rfl) rfl (fun r9 σ9 hp9 => ?_)
      obtain ⟨rfl, hR⟩ := hp9
      refine ZV_iret dX12_shift_33 rfl ?_
      exact zleaf (v := sFl T 2 (-13) (-13)) (by simp [sp_shift, h9, h24, nI_clamp hjx]) rfl hR
  · skip
    refine ZV_aload_n (n := 13) dX12_shift_12 rfl rfl rfl ?_
    refine ZV_bipush (v := -2) (n := 15) dX12_shift_13 rfl rfl ?_
    refine call_X12_130 (c_no hR _) rfl dX12_shift_15 rfl (rf_sh hR :).1 (Nat.le_of_ble_eq_true rfl) (Nat.le_of_ble_eq_true rfl) rfl (fun r9 σ9 hp9 => ?_)
    obtain ⟨rfl, hR⟩ := hp9
    refine ZV_iret dX12_shift_18 rfl ?_
    exact zleaf (v := sNo T (-2)) (by simp [sp_shift, h9]) rfl hR
theorem pv_sh {T : TS} (hI : tI T) {e : Nat} (he : e < g_ev T) (hk : g_kd T e < 3) {w : Int32} (hm : mayB T e w.toInt = true) {j : Nat} (hj : j < g_pn T e) : g_pi T e j + w = nI (((g_pv T e j : Int) + w.toInt).toNat) ∧ 0 ≤ (g_pv T e j : Int) + w.toInt ∧ (g_pv T e j : Int) + w.toInt ≤ 127 := by
  have hm := of_decide_eq_true hm
  have hmono : ∀ d a, a + d < g_pn T e → g_pv T e a ≤ g_pv T e (a + d) := by
    intro d
    induction d with
    | zero => intro a _; exact Nat.le_refl _
    | succ d ih => intro a ha; have h1 := ih a (by omega); have h2 := ti_pim hI e (a + d) he (by omega); rw [show a + (d + 1) = a + d + 1 by omega]; omega
  have h1 := hmono j 0 (by omega)
  have h2 := hmono (g_pn T e - 1 - j) j (by omega)
  rw [Nat.zero_add] at h1
  rw [show j + (g_pn T e - 1 - j) = g_pn T e - 1 by omega] at h2
  have hp := ti_pi hI e j he hj
  have hr : 0 ≤ (g_pv T e j : Int) + w.toInt ∧ (g_pv T e j : Int) + w.toInt ≤ 127 := by omega
  refine ⟨?_, hr⟩
  apply Int32.toInt_inj.mp
  rw [nI_toInt (by omega), Int32.toInt_add, hp.1, nI_toInt (by omega), Int.bmod_eq_of_le (by omega) (by omega)]
  omega
theorem pv_shT {T : TS} (hI : tI T) {e : Nat} (he : e < g_ev T) (hk : g_kd T e < 3) {w : Int32} (hm : mayB T e w.toInt = true) {j : Nat} (hj : j < g_pn T e) : g_pv (shT T e w) e j = ((g_pv T e j : Int) + w.toInt).toNat := by
  have h := pv_sh hI he hk hm hj
  show (va_u2 (g_pi T) e _ e j).toNatClampNeg = _
  rw [u2_at]
  unfold ltF
  rw [if_pos hj]
  show (g_pi T e j + w).toNatClampNeg = _
  rw [h.1, nI_clamp (by omega)]
theorem pi_shT_ne {T : TS} {e f : Nat} {w : Int32} (h : f ≠ e) (j : Nat) : g_pi (shT T e w) f j = g_pi T f j := by
  show va_u2 (g_pi T) e _ f j = _
  unfold va_u2
  rw [if_neg h]
theorem tI_shT {T : TS} (hI : tI T) {e : Nat} (he : e < g_ev T) (hk : g_kd T e < 3) {w : Int32} (hm : mayB T e w.toInt = true) : tI (shT T e w) := ⟨(ti_ct hI :), (ti_cu hI :), (ti_cl hI :), (ti_np hI :), (ti_pk hI :), (ti_nb hI :), (ti_bt hI :), (ti_ev hI :), (ti_vo hI :), (ti_kd hI :), (ti_pn hI :), (ti_pn1 hI :), (ti_pn0 hI :), (ti_pnc hI :), (fun f j hf hj => by
      by_cases hfe : f = e
      · subst hfe
        have h := pv_sh hI he hk hm hj
        have h2 := pv_shT hI he hk hm hj
        rw [h2]
        refine ⟨?_, by omega⟩
        show va_u2 (g_pi T) f _ f j = _
        rw [u2_at]
        unfold ltF
        rw [if_pos (show j < g_pn T f from hj)]
        exact h.1
      · have h := ti_pi hI f j hf hj
        unfold g_pv at h ⊢
        rw [pi_shT_ne hfe]
        exact h), (fun f j hf hj => by
      have hj : j + 1 < g_pn T f := hj
      by_cases hfe : f = e
      · subst hfe
        rw [pv_shT hI he hk hm (by omega), pv_shT hI he hk hm hj]
        have h1 := pv_sh hI he hk hm (j := j) (by omega)
        have h2 := ti_pim hI f j hf hj
        omega
      · have h := ti_pim hI f j hf hj
        unfold g_pv at h ⊢
        rw [pi_shT_ne hfe, pi_shT_ne hfe]
        exact h), (ti_va hI :), (ti_dt hI :), (ti_mn hI :), (ti_mn0 hI :), (ti_ro hI :), (ti_pl hI :), (ti_te hI :), (ti_tn hI :), (ti_tm hI :), (ti_tu hI :), (ti_tp hI :), (ti_tnest hI :), (ti_tover hI :), (ti_le hI :), (ti_lk hI :), (ti_lf hI :), (ti_lo hI :), (ti_wm hI :), (ti_fo hI :), (ti_rk hI :), (ti_rr hI :), (ti_sk hI :), (ti_tied hI :), (ti_sm hI :), (ti_rrb hI :)⟩
def trS (w : Int32) (v : Nat) : Nat → Nat → Nat → TS → Nat × TS × Bool
  | 0, _, n, T => (n, T, true)
  | k + 1, p, n, T => if noB T (g_ro T v p) = true then (if mayB T (g_ro T v p) w.toInt = true then trS w v k (p + 1) (n + 1) (shT T (g_ro T v p) w) else (n, T, false)) else trS w v k (p + 1) n T
def trR (i : Nat) (c : Int32) (R : Nat × TS × Bool) : Int32 × TS := if R.2.2 = true then sOk R.2.1 (nI R.1) else sFl R.2.1 i c (nI R.1)
def sp_transpose (T : TS) (v w : Int32) : Int32 × TS := if inB v (3 * g_np T) = false then sNo T (-2) else trR 1 (-12) (trS w v.toNatClampNeg (g_mn T v.toNatClampNeg) 0 0 (h_su T 0))
theorem su0 {T : TS} (h : g_su T = 0) : h_su T 0 = T := by
  unfold h_su
  rw [← h]
  rfl
set_option maxHeartbeats 4000000 in
set_option maxRecDepth 100000 in
theorem c_transpose {x : Nat} {σ : ZS} {T : TS} (hR : rR x σ T) (hI : tI T) (v w : Int32) : ZC M_X12_transpose [Ar (some x), Ai v, Ai w] σ (fun y0 τ0 => y0 = some (Ai (sp_transpose T v w).1) ∧ rR x τ0 (sp_transpose T v w).2) := by
  have hsp : sp_transpose T v w = sp_transpose (h_su T 0) v w := rfl
  rw [hsp]
  clear hsp
  refine ZC_of (ls := [some (Ar (some x)), some (Ai v), some (Ai w), none, none, none, none]) (by decide) (Nat.le_of_ble_eq_true rfl) rfl ?_
  refine ZV_aload_n (n := 1) dX12_transpose_0 rfl rfl rfl ?_
  refine call_X12_144 (c_begin hR) rfl dX12_transpose_1 rfl (rf_sh hR :).1 (Nat.le_of_ble_eq_true rfl) (Nat.le_of_ble_eq_true rfl) rfl (fun r9 σ9 hp9 => ?_)
  obtain ⟨rfl, hR⟩ := hp9
  have hI := tI_su hI 0
  have hsu : g_su (h_su T 0) = 0 := rfl
  generalize h_su T 0 = T at hR hI hsu ⊢
  have hnp := ti_np hI
  refine ZV_aload_n (n := 5) dX12_transpose_4 rfl rfl rfl ?_
  refine ZV_iload_n (n := 6) dX12_transpose_5 rfl rfl rfl ?_
  refine call_X12_184 (c_isVoice hR hI _) rfl dX12_transpose_6 rfl (rf_sh hR :).1 (Nat.le_of_ble_eq_true rfl) (Nat.le_of_ble_eq_true rfl) rfl (fun r9 σ9 hp9 => ?_)
  obtain ⟨rfl, rfl⟩ := hp9
  refine ZV_if_neB (tgt := 19) (n := 12) dX12_transpose_9 (by decide) rfl (fun h9 => ?_) (fun h9 => ?_)
  · skip
    obtain ⟨v, hv, hvx, rfl⟩ := inB_t h9
    have hv18 : v < 18 := by omega
    refine ZV_iconst (v := nI 0) (n := 20) dX12_transpose_19 rfl rfl ?_
    refine ZV_istore_3 (n := 21) dX12_transpose_20 rfl (Nat.le_of_ble_eq_true rfl) rfl ?_
    refine ZV_iconst (v := nI 0) (n := 22) dX12_transpose_21 rfl rfl ?_
    refine ZV_istore_4 (n := 24) dX12_transpose_22 rfl (Nat.le_of_ble_eq_true rfl) rfl ?_
    have hw1 := w.toInt_lt
    have hw2 := w.le_toInt
    have hwe : w.toInt64.toInt = w.toInt := Int32.toInt_toInt64 w
    have hZ : sp_transpose T (nI v) w = trR 1 (-12) (trS w v (g_mn T v) 0 0 T) := by simp [sp_transpose, h9, nI_clamp hvx, su0 hsu]
    rw [hZ]
    generalize hZ0 : trR 1 (-12) (trS w v (g_mn T v) 0 0 T) = Z
    have loop : ∀ (n9 : Nat) (k p n : Nat) (T1 : TS) (τ : ZS), k < n9 → p + k = g_mn T1 v → n ≤ p → g_su T1 = 0 → tI T1 → rR x τ T1 → trR 1 (-12) (trS w v k p n T1) = Z → ZV M_X12_transpose (fun y0 τ0 => y0 = some (Ai Z.1) ∧ rR x τ0 Z.2) 24 [some (Ar (some x)), some (Ai (nI v)), some (Ai w), some (Ai (nI n)), some (Ai (nI p)), none, none] [] τ (zmC M_X12_transpose) (zmS M_X12_transpose) := by
      intro n9
      induction n9 with
      | zero => intro k p n T1 τ hm; exact absurd hm (Nat.not_lt_zero _)
      | succ n9 ih =>
        intro k p n T1 τ hm hpk hnp2 hs1 hI1 hR1 hz
        have hmn := ti_mn hI1 v
        have hev := ti_ev hI1
        refine ZV_iload (n := 26) dX12_transpose_24 rfl rfl ?_
        refine ZV_aload_n (n := 27) dX12_transpose_26 rfl rfl rfl ?_
        refine ZV_getR (n := 30) dX12_transpose_27 fl_X12_45 rfl rfl rfl (rf_sh hR1 :).1 ?_
        refine ZV_iload_n (n := 31) dX12_transpose_30 rfl rfl rfl ?_
        refine ZV_ialdv (n := 32) dX12_transpose_31 rfl (ra_many (rf_sh hR1 :) :) (rk_many (rf_sh hR1 :) :) rfl (by omega) (rf_many hR1 _ (by omega)) ?_
        refine ZV_icmp_geN (tgt := 95) (n := 35) dX12_transpose_32 (by decide) rfl (by omega) (by omega) (fun h32 => ?_) (fun h32 => ?_)
        · skip
          obtain rfl : k = 0 := by omega
          refine ZV_iload_n (n := 96) dX12_transpose_95 rfl rfl rfl ?_
          refine ZV_iret dX12_transpose_96 rfl ?_
          rw [trS] at hz
          subst hz
          exact ⟨rfl, rR_s0 hR1 hs1⟩
        · skip
          obtain ⟨k, rfl⟩ : ∃ q, k = q + 1 := ⟨k - 1, by omega⟩
          have hro := ti_ro hI1 v p (by omega) (by omega)
          refine ZV_aload_n (n := 36) dX12_transpose_35 rfl rfl rfl ?_
          refine ZV_getR (n := 39) dX12_transpose_36 fl_X12_42 rfl rfl rfl (rf_sh hR1 :).1 ?_
          refine ZV_bipush (v := nI 40) (n := 41) dX12_transpose_39 rfl rfl ?_
          refine ZV_iload_n (n := 42) dX12_transpose_41 rfl rfl rfl ?_
          refine ZV_imulN (n := 43) dX12_transpose_42 rfl ?_
          refine ZV_iload (n := 45) dX12_transpose_43 rfl rfl ?_
          refine ZV_iaddN (n := 46) dX12_transpose_45 rfl ?_
          refine ZV_ialdv (n := 47) dX12_transpose_46 rfl (ra_row (rf_sh hR1 :) :) (rk_row (rf_sh hR1 :) :) rfl (by omega) (rf_row hR1 _ _ (by omega) (by omega)) ?_
          refine ZV_istore_5 (n := 49) dX12_transpose_47 rfl (Nat.le_of_ble_eq_true rfl) rfl ?_
          refine ZV_aload_n (n := 50) dX12_transpose_49 rfl rfl rfl ?_
          refine ZV_iload (n := 52) dX12_transpose_50 rfl rfl ?_
          refine call_X12_214 (c_isNote hR1 hI1 _ hro.1) rfl dX12_transpose_52 rfl (rf_sh hR1 :).1 (Nat.le_of_ble_eq_true rfl) (Nat.le_of_ble_eq_true rfl) rfl (fun r9 σ9 hp9 => ?_)
          obtain ⟨rfl, rfl⟩ := hp9
          refine ZV_if_eqB (tgt := 89) (n := 58) dX12_transpose_55 (by decide) rfl (fun h55 => ?_) (fun h55 => ?_)
          · skip
            refine ZV_iincN_4 (v := 1) (n := 92) dX12_transpose_89 rfl rfl (Nat.le_of_ble_eq_true rfl) rfl ?_
            refine ZV_goto (tgt := 24) dX12_transpose_92 (by decide) ?_
            refine ZV_fg_5 ?_
            exact ih k (p + 1) n T1 _ (by omega) (by show p + 1 + k = g_mn T1 v; omega) (by omega) hs1 hI1 hR1 (by rw [← hz, trS, if_neg (by rw [h55]; decide)])
          · skip
            have hkd : g_kd T1 (g_ro T1 v p) < 3 := of_decide_eq_true h55
            refine ZV_aload_n (n := 59) dX12_transpose_58 rfl rfl rfl ?_
            refine ZV_iload (n := 61) dX12_transpose_59 rfl rfl ?_
            refine ZV_iload_n (n := 62) dX12_transpose_61 rfl rfl rfl ?_
            refine ZV_i2l (n := 63) dX12_transpose_62 rfl ?_
            refine call_X12_223 (c_mayShift hR1 hI1 _ hro.1 hkd _ (by omega)) rfl dX12_transpose_63 rfl (rf_sh hR1 :).1 (Nat.le_of_ble_eq_true rfl) (Nat.le_of_ble_eq_true rfl) rfl (fun r9 σ9 hp9 => ?_)
            obtain ⟨rfl, rfl⟩ := hp9
            rw [hwe]
            refine ZV_if_neB (tgt := 79) (n := 69) dX12_transpose_66 (by decide) rfl (fun h66 => ?_) (fun h66 => ?_)
            · skip
              refine ZV_aload_n (n := 80) dX12_transpose_79 rfl rfl rfl ?_
              refine ZV_iload (n := 82) dX12_transpose_80 rfl rfl ?_
              refine ZV_iload_n (n := 83) dX12_transpose_82 rfl rfl rfl ?_
              refine call_X12_227 (c_shifts hR1 hI1 _ hro.1 _) rfl dX12_transpose_83 rfl (rf_sh hR1 :).1 (Nat.le_of_ble_eq_true rfl) (Nat.le_of_ble_eq_true rfl) rfl (fun r9 σ9 hp9 => ?_)
              obtain ⟨rfl, hR1⟩ := hp9
              refine ZV_iincN_3 (v := 1) (n := 89) dX12_transpose_86 rfl rfl (Nat.le_of_ble_eq_true rfl) rfl ?_
              refine ZV_iincN_4 (v := 1) (n := 92) dX12_transpose_89 rfl rfl (Nat.le_of_ble_eq_true rfl) rfl ?_
              refine ZV_goto (tgt := 24) dX12_transpose_92 (by decide) ?_
              refine ZV_fg_5 ?_
              exact ih k (p + 1) (n + 1) (shT T1 (g_ro T1 v p) w) _ (by omega) (by show p + 1 + k = g_mn T1 v; omega) (by omega) hs1 (tI_shT hI1 hro.1 hkd h66) hR1 (by rw [← hz, trS, if_pos h55, if_pos h66])
            · skip
              refine ZV_aload_n (n := 70) dX12_transpose_69 rfl rfl rfl ?_
              refine ZV_bipush (v := -12) (n := 72) dX12_transpose_70 rfl rfl ?_
              refine call_X12_211 (c_fails hR1 (-12) 1 (by decide) rfl) rfl dX12_transpose_72 rfl (rf_sh hR1 :).1 (Nat.le_of_ble_eq_true rfl) (Nat.le_of_ble_eq_true rfl) rfl (fun r9 σ9 hp9 => ?_)
              obtain ⟨rfl, hR1⟩ := hp9
              refine ZV_istore_6 (n := 77) dX12_transpose_75 rfl (Nat.le_of_ble_eq_true rfl) rfl ?_
              refine ZV_iload_n (n := 78) dX12_transpose_77 rfl rfl rfl ?_
              refine ZV_iret dX12_transpose_78 rfl ?_
              rw [trS, if_pos h55, if_neg (by rw [h66]; decide)] at hz
              subst hz
              exact ⟨rfl, hR1⟩
    exact loop _ _ 0 0 T _ (Nat.lt_succ_self _) (by omega) (by omega) hsu hI hR hZ0
  · skip
    refine ZV_aload_n (n := 13) dX12_transpose_12 rfl rfl rfl ?_
    refine ZV_bipush (v := -2) (n := 15) dX12_transpose_13 rfl rfl ?_
    refine call_X12_130 (c_no hR _) rfl dX12_transpose_15 rfl (rf_sh hR :).1 (Nat.le_of_ble_eq_true rfl) (Nat.le_of_ble_eq_true rfl) rfl (fun r9 σ9 hp9 => ?_)
    obtain ⟨rfl, hR⟩ := hp9
    refine ZV_iret dX12_transpose_18 rfl ?_
    exact zleaf (v := sNo T (-2)) (by simp [sp_transpose, h9]) rfl hR
