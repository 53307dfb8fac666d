theorem u2_u2 {α : Type} (f : Nat → Nat → α) (e i : Nat) (G : Nat → α) (v : α) : va_u2 (va_u2 f e G) e (va_up (va_u2 f e G e) i v) = va_u2 f e (va_up G i v) := by
  funext a
  unfold va_u2
  by_cases h : a = e
  · simp [h]
  · simp [h]
theorem u2_self {α : Type} (f : Nat → Nat → α) (e : Nat) : va_u2 f e (f e) = f := by
  funext a
  unfold va_u2
  by_cases h : a = e
  · simp [h]
  · simp [h]
theorem u2_at {α : Type} (f : Nat → Nat → α) (e : Nat) (G : Nat → α) : va_u2 f e G e = G := by simp [va_u2]
def ltF {α : Type} (a b : Nat → α) (i : Nat) : Nat → α := fun j => if j < i then a j else b j
theorem ltF_up {α : Type} (a b : Nat → α) (i : Nat) : va_up (ltF a b i) i (a i) = ltF a b (i + 1) := by
  funext j
  unfold va_up ltF
  by_cases h : j = i
  · simp [h]
  · by_cases h2 : j < i
    · simp [h, h2, Nat.lt_succ_of_lt h2]
    · have : ¬ j < i + 1 := by omega
      simp [h, h2, this]
theorem ltF_0 {α : Type} (a b : Nat → α) : ltF a b 0 = b := by funext j; simp [ltF]
theorem ltF_at {α : Type} (a b : Nat → α) (i : Nat) : ltF a b i i = b i := by simp [ltF]
theorem up_self {α : Type} (f : Nat → α) (i : Nat) : va_up f i (f i) = f := by
  funext j
  unfold va_up
  by_cases h : j = i
  · simp [h]
  · simp [h]
theorem hs_pi (T : TS) : h_pi T (g_pi T) = T := by unfold h_pi g_pi; simp only [up_self]
theorem hs_ro (T : TS) : h_ro T (g_ro T) = T := by unfold h_ro g_ro; simp only [up_self]
theorem la_toInt {a : Nat} {b : Int64} (ha : a ≤ 127) (hb : -8589934592 ≤ b.toInt ∧ b.toInt ≤ 8589934592) : (lN a + b).toInt = (a : Int) + b.toInt := by
  rw [Int64.toInt_add, pk_lT (by omega)]
  rw [Int.bmod_eq_of_le] <;> omega
def mayB (T : TS) (e : Nat) (z : Int) : Bool := decide (0 ≤ (g_pv T e 0 : Int) + z ∧ (g_pv T e (g_pn T e - 1) : Int) + z ≤ 127)
def shT (T : TS) (e : Nat) (w : Int32) : TS := h_pi T (va_u2 (g_pi T) e (ltF (fun j => g_pi T e j + w) (g_pi T e) (g_pn T e)))
def sp_shift (T : TS) (e w : Int32) : Int32 × TS := if evB T e = false then sNo T (-2) else if noB T e.toNatClampNeg = false then sFl T 2 (-13) (-13) else if mayB T e.toNatClampNeg w.toInt = false then sFl T 1 (-12) (-12) else sOk (shT T e.toNatClampNeg w) (nI (g_pn T e.toNatClampNeg))
set_option maxHeartbeats 4000000 in
set_option maxRecDepth 100000 in
theorem c_mayShift {x : Nat} {σ : ZS} {T : TS} (hR : rR x σ T) (hI : tI T) (e : Nat) (he : e < g_ev T) (hk : g_kd T e < 3) (w : Int64) (hb : -8589934592 ≤ w.toInt ∧ w.toInt ≤ 8589934592) : ZC M_X12_mayShift [Ar (some x), Ai (nI e), Al w] σ (fun r τ => r = some (Ai (bI (mayB T e w.toInt))) ∧ τ = σ) := by
  have hev := ti_ev hI
  have hpn := ti_pn hI e
  have hpn1 := ti_pn1 hI e he hk
  have hp0 := ti_pi hI e 0 he (by omega)
  have hp1 := ti_pi hI e (g_pn T e - 1) he (by omega)
  refine ZC_of (ls := [some (Ar (some x)), some (Ai (nI e)), some (Al w), none]) (by decide) (Nat.le_of_ble_eq_true rfl) rfl ?_
  refine ZV_aload_n (n := 1) dX12_mayShift_0 rfl rfl rfl ?_
  refine ZV_getR (n := 4) dX12_mayShift_1 fl_X12_30 rfl rfl rfl (rf_sh hR :).1 ?_
  refine ZV_bipush (v := nI 6) (n := 6) dX12_mayShift_4 rfl rfl ?_
  refine ZV_iload_n (n := 7) dX12_mayShift_6 rfl rfl rfl ?_
  refine ZV_imulN (n := 8) dX12_mayShift_7 rfl ?_
  refine ZV_ialdv (n := 9) dX12_mayShift_8 rfl (ra_pitchOf (rf_sh hR :) :) (rk_pitchOf (rf_sh hR :) :) rfl (by omega) ((rf_pitchOf hR e 0 (by omega) (by omega)).trans hp0.1) ?_
  refine ZV_i2lN (n := 10) dX12_mayShift_9 rfl (by omega) ?_
  refine ZV_lload_n (n := 11) dX12_mayShift_10 rfl rfl rfl ?_
  refine ZV_ladd (n := 12) dX12_mayShift_11 rfl ?_
  refine ZV_lconst (v := lN 0) (n := 13) dX12_mayShift_12 rfl rfl ?_
  refine ZV_lcmp_lt (tgt := 49) (pc1 := 14) (n := 17) dX12_mayShift_13 rfl dX12_mayShift_14 (by decide) rfl (fun h13 => ?_) (fun h13 => ?_)
  · skip
    refine ZV_iconst (v := nI 0) (n := 50) dX12_mayShift_49 rfl rfl ?_
    refine ZV_zret dX12_mayShift_50 rfl (by first | exact Or.inl rfl | exact Or.inr rfl) ?_
    refine ⟨?_, rfl⟩
    simp only [Int64.lt_iff_toInt_lt, la_toInt hp0.2 hb, la_toInt hp1.2 hb, pk_lT (n := 0) (by decide), pk_lT (n := 127) (by decide)] at *
    unfold mayB
    first | (rw [decide_eq_true (by omega)]; rfl) | (rw [decide_eq_false (by omega)]; rfl)
  · skip
    refine ZV_aload_n (n := 18) dX12_mayShift_17 rfl rfl rfl ?_
    refine ZV_getR (n := 21) dX12_mayShift_18 fl_X12_30 rfl rfl rfl (rf_sh hR :).1 ?_
    refine ZV_bipush (v := nI 6) (n := 23) dX12_mayShift_21 rfl rfl ?_
    refine ZV_iload_n (n := 24) dX12_mayShift_23 rfl rfl rfl ?_
    refine ZV_imulN (n := 25) dX12_mayShift_24 rfl ?_
    refine ZV_aload_n (n := 26) dX12_mayShift_25 rfl rfl rfl ?_
    refine ZV_getR (n := 29) dX12_mayShift_26 fl_X12_27 rfl rfl rfl (rf_sh hR :).1 ?_
    refine ZV_iload_n (n := 30) dX12_mayShift_29 rfl rfl rfl ?_
    refine ZV_ialdv (n := 31) dX12_mayShift_30 rfl (ra_pitches (rf_sh hR :) :) (rk_pitches (rf_sh hR :) :) rfl (by omega) (rf_pitches hR _ (by omega)) ?_
    refine ZV_iaddN (n := 32) dX12_mayShift_31 rfl ?_
    refine ZV_iconst (v := nI 1) (n := 33) dX12_mayShift_32 rfl rfl ?_
    refine ZV_isubN (n := 34) dX12_mayShift_33 rfl (by omega) ?_
    refine ZV_ialdv (n := 35) dX12_mayShift_34 rfl (ra_pitchOf (rf_sh hR :) :) (rk_pitchOf (rf_sh hR :) :) rfl (by omega) (Eq.trans (congrArg _ (show 6 * e + g_pn T e - 1 = 6 * e + (g_pn T e - 1) by omega)) ((rf_pitchOf hR e (g_pn T e - 1) (by omega) (by omega)).trans hp1.1)) ?_
    refine ZV_i2lN (n := 36) dX12_mayShift_35 rfl (by omega) ?_
    refine ZV_lload_n (n := 37) dX12_mayShift_36 rfl rfl rfl ?_
    refine ZV_ladd (n := 38) dX12_mayShift_37 rfl ?_
    refine ZV_ldc2 (v := lN 127) (n := 41) dX12_mayShift_38 wd_5_128 rfl ?_
    refine ZV_lcmp_gt (tgt := 49) (pc1 := 42) (n := 45) dX12_mayShift_41 rfl dX12_mayShift_42 (by decide) rfl (fun h41 => ?_) (fun h41 => ?_)
    · skip
      refine ZV_iconst (v := nI 0) (n := 50) dX12_mayShift_49 rfl rfl ?_
      refine ZV_zret dX12_mayShift_50 rfl (by first | exact Or.inl rfl | exact Or.inr rfl) ?_
      refine ⟨?_, rfl⟩
      simp only [Int64.lt_iff_toInt_lt, la_toInt hp0.2 hb, la_toInt hp1.2 hb, pk_lT (n := 0) (by decide), pk_lT (n := 127) (by decide)] at *
      unfold mayB
      first | (rw [decide_eq_true (by omega)]; rfl) | (rw [decide_eq_false (by omega)]; rfl)
    · skip
      refine ZV_iconst (v := nI 1) (n := 46) dX12_mayShift_45 rfl rfl ?_
      refine ZV_goto (tgt := 50) dX12_mayShift_46 (by decide) ?_
      refine ZV_zret dX12_mayShift_50 rfl (by first | exact Or.inl rfl | exact Or.inr rfl) ?_
      refine ⟨?_, rfl⟩
      simp only [Int64.lt_iff_toInt_lt, la_toInt hp0.2 hb, la_toInt hp1.2 hb, pk_lT (n := 0) (by decide), pk_lT (n := 127) (by decide)] at *
      unfold mayB
      first | (rw [decide_eq_true (by omega)]; rfl) | (rw [decide_eq_false (by omega)]; rfl)
set_option maxHeartbeats 4000000 in
set_option maxRecDepth 100000 in
theorem c_shifts {x : Nat} {σ : ZS} {T : TS} (hR : rR x σ T) (hI : tI T) (e : Nat) (he : e < g_ev T) (w : Int32) : ZC M_X12_shifts [Ar (some x), Ai (nI e), Ai w] σ (fun y0 τ0 => y0 = none ∧ rR x τ0 (shT T e w)) := by
  have hev := ti_ev hI
  have hpn := ti_pn hI e
  refine ZC_of (ls := [some (Ar (some x)), some (Ai (nI e)), some (Ai w), none]) (by decide) (Nat.le_of_ble_eq_true rfl) rfl ?_
  have loop : ∀ (n9 : Nat) (i : Nat) (τ : ZS), g_pn T e - i < n9 → i ≤ g_pn T e → rR x τ (h_pi T (va_u2 (g_pi T) e (ltF (fun j => g_pi T e j + w) (g_pi T e) i))) → ZV M_X12_shifts (fun y0 τ0 => y0 = none ∧ rR x τ0 (shT T e w)) 2 [some (Ar (some x)), some (Ai (nI e)), some (Ai w), some (Ai (nI i))] [] τ (zmC M_X12_shifts) (zmS M_X12_shifts) := by
    intro n9
    induction n9 with
    | zero => intro i τ hm; exact absurd hm (Nat.not_lt_zero _)
    | succ n9 ih =>
      intro i τ hm hi hR9
      refine ZV_iload_n (n := 3) dX12_shifts_2 rfl rfl rfl ?_
      refine ZV_aload_n (n := 4) dX12_shifts_3 rfl rfl rfl ?_
      refine ZV_getR (n := 7) dX12_shifts_4 fl_X12_27 rfl rfl rfl (rf_sh hR9 :).1 ?_
      refine ZV_iload_n (n := 8) dX12_shifts_7 rfl rfl rfl ?_
      refine ZV_ialdv (n := 9) dX12_shifts_8 rfl (ra_pitches (rf_sh hR9 :) :) (rk_pitches (rf_sh hR9 :) :) rfl (by omega) (show zi _ _ _ = nI (g_pn T e) from ((rf_pitches hR9 e (by omega)) :)) ?_
      refine ZV_icmp_geN (tgt := 33) (n := 12) dX12_shifts_9 (by decide) rfl (by omega) (by omega) (fun h9 => ?_) (fun h9 => ?_)
      · skip
        refine ZV_vret dX12_shifts_33 rfl ?_
        obtain rfl : i = g_pn T e := by omega
        exact ⟨rfl, hR9⟩
      · skip
        refine ZV_aload_n (n := 13) dX12_shifts_12 rfl rfl rfl ?_
        refine ZV_getR (n := 16) dX12_shifts_13 fl_X12_30 rfl rfl rfl (rf_sh hR9 :).1 ?_
        refine ZV_bipush (v := nI 6) (n := 18) dX12_shifts_16 rfl rfl ?_
        refine ZV_iload_n (n := 19) dX12_shifts_18 rfl rfl rfl ?_
        refine ZV_imulN (n := 20) dX12_shifts_19 rfl ?_
        refine ZV_iload_n (n := 21) dX12_shifts_20 rfl rfl rfl ?_
        refine ZV_iaddN (n := 22) dX12_shifts_21 rfl ?_
        refine ZV_dup2 (n := 23) dX12_shifts_22 rfl rfl rfl ?_
        refine ZV_ialdv (n := 24) dX12_shifts_23 rfl (ra_pitchOf (rf_sh hR9 :) :) (rk_pitchOf (rf_sh hR9 :) :) rfl (by omega) ((rf_pitchOf hR9 e i (by omega) (by omega)).trans (show va_u2 (g_pi T) e _ e i = g_pi T e i by rw [u2_at, ltF_at])) ?_
        refine ZV_iload_n (n := 25) dX12_shifts_24 rfl rfl rfl ?_
        refine ZV_iadd (n := 26) dX12_shifts_25 rfl ?_
        refine ZV_iast (n := 27) dX12_shifts_26 rfl (ra_pitchOf (rf_sh hR9 :) :) (rk_pitchOf (rf_sh hR9 :) :) rfl (by omega) ?_
        refine ZV_gen (P := fun τ => rR x τ _) (rR_pitchOf (i := e) (j := i) hR9 (by omega) (by omega) _) (fun τ2 hR9 => ?_)
        rw [hh_pi, show g_pi (h_pi T (va_u2 (g_pi T) e (ltF (fun j => g_pi T e j + w) (g_pi T e) i))) = va_u2 (g_pi T) e (ltF (fun j => g_pi T e j + w) (g_pi T e) i) from rfl, u2_u2, ltF_up (fun j => g_pi T e j + w)] at hR9
        refine ZV_iincN_3 (v := 1) (n := 30) dX12_shifts_27 rfl rfl (Nat.le_of_ble_eq_true rfl) rfl ?_
        refine ZV_goto (tgt := 2) dX12_shifts_30 (by decide) ?_
        exact ih (i + 1) _ (by omega) (by omega) hR9
  refine ZV_iconst (v := nI 0) (n := 1) dX12_shifts_0 rfl rfl ?_
  refine ZV_istore_3 (n := 2) dX12_shifts_1 rfl (Nat.le_of_ble_eq_true rfl) rfl ?_
  exact loop _ 0 σ (Nat.lt_succ_self _) (by omega) (by rw [ltF_0, u2_self, hs_pi]; exact hR)
set_option maxHeartbeats 4000000 in
set_option maxRecDepth 100000 in
theorem c_shift {x : Nat} {σ : ZS} {T : TS} (hR : rR x σ T) (hI : tI T) (e w : Int32) : ZC M_X12_shift [Ar (some x), Ai e, Ai w] σ (fun y0 τ0 => y0 = some (Ai (sp_shift T e w).1) ∧ rR x τ0 (sp_shift T e w).2) := by
  have hsp : sp_shift T e w = sp_shift (h_su T 0) e w := rfl
  rw [hsp]
  clear hsp
  refine ZC_of (ls := [some (Ar (some x)), some (Ai e), some (Ai w)]) (by decide) (Nat.le_of_ble_eq_true rfl) rfl ?_
  refine ZV_aload_n (n := 1) dX12_shift_0 rfl rfl rfl ?_
  refine call_X12_144 (c_begin hR) rfl dX12_shift_1 rfl (rf_sh hR :).1 (Nat.le_of_ble_eq_true rfl) (Nat.le_of_ble_eq_true rfl) rfl (fun r9 σ9 hp9 => ?_)
  obtain ⟨rfl, hR⟩ := hp9
  have hI := tI_su hI 0
  have hsu : g_su (h_su T 0) = 0 := rfl
  generalize h_su T 0 = T at hR hI hsu ⊢
  have hev := ti_ev hI
  refine ZV_aload_n (n := 5) dX12_shift_4 rfl rfl rfl ?_
  refine ZV_iload_n (n := 6) dX12_shift_5 rfl rfl rfl ?_
  refine call_X12_193 (c_isEvent hR hI _) rfl dX12_shift_6 rfl (rf_sh hR :).1 (Nat.le_of_ble_eq_true rfl) (Nat.le_of_ble_eq_true rfl) rfl (fun r9 σ9 hp9 => ?_)
  obtain ⟨rfl, rfl⟩ := hp9
  refine ZV_if_neB (tgt := 19) (n := 12) dX12_shift_9 (by decide) rfl (fun h9 => ?_) (fun h9 => ?_)
  · skip
    obtain ⟨j, hj, hjt, rfl⟩ := evB_t hI h9
    have hjx : j < 2147483648 := by omega
    have hpn := ti_pn hI j
    refine ZV_aload_n (n := 20) dX12_shift_19 rfl rfl rfl ?_
    refine ZV_iload_n (n := 21) dX12_shift_20 rfl rfl rfl ?_
    refine call_X12_214 (c_isNote hR hI _ (by omega)) rfl dX12_shift_21 rfl (rf_sh hR :).1 (Nat.le_of_ble_eq_true rfl) (Nat.le_of_ble_eq_true rfl) rfl (fun r9 σ9 hp9 => ?_)
    obtain ⟨rfl, rfl⟩ := hp9
    refine ZV_if_neB (tgt := 34) (n := 27) dX12_shift_24 (by decide) rfl (fun h24 => ?_) (fun h24 => ?_)
    · skip
      have hkd : g_kd T j < 3 := of_decide_eq_true h24
      have hw1 := w.toInt_lt
      have hw2 := w.le_toInt
      have hwe : w.toInt64.toInt = w.toInt := Int32.toInt_toInt64 w
      refine ZV_aload_n (n := 35) dX12_shift_34 rfl rfl rfl ?_
      refine ZV_iload_n (n := 36) dX12_shift_35 rfl rfl rfl ?_
      refine ZV_iload_n (n := 37) dX12_shift_36 rfl rfl rfl ?_
      refine ZV_i2l (n := 38) dX12_shift_37 rfl ?_
      refine call_X12_223 (c_mayShift hR hI _ (by omega) hkd _ (by omega)) rfl dX12_shift_38 rfl (rf_sh hR :).1 (Nat.le_of_ble_eq_true rfl) (Nat.le_of_ble_eq_true rfl) rfl (fun r9 σ9 hp9 => ?_)
      obtain ⟨rfl, rfl⟩ := hp9
      rw [hwe]
      refine ZV_if_neB (tgt := 51) (n := 44) dX12_shift_41 (by decide) rfl (fun h41 => ?_) (fun h41 => ?_)
      · skip
        refine ZV_aload_n (n := 52) dX12_shift_51 rfl rfl rfl ?_
        refine ZV_iload_n (n := 53) dX12_shift_52 rfl rfl rfl ?_
        refine ZV_iload_n (n := 54) dX12_shift_53 rfl rfl rfl ?_
        refine call_X12_227 (c_shifts hR hI _ (by omega) _) rfl dX12_shift_54 rfl (rf_sh hR :).1 (Nat.le_of_ble_eq_true rfl) (Nat.le_of_ble_eq_true rfl) rfl (fun r9 σ9 hp9 => ?_)
        obtain ⟨rfl, hR⟩ := hp9
        refine ZV_aload_n (n := 58) dX12_shift_57 rfl rfl rfl ?_
        refine ZV_getR (n := 61) dX12_shift_58 fl_X12_27 rfl rfl rfl (rf_sh hR :).1 ?_
        refine ZV_iload_n (n := 62) dX12_shift_61 rfl rfl rfl ?_
        refine ZV_ialdv (n := 63) dX12_shift_62 rfl (ra_pitches (rf_sh hR :) :) (rk_pitches (rf_sh hR :) :) rfl (by omega) (show zi _ _ _ = nI (g_pn T j) from ((rf_pitches hR j (by omega)) :)) ?_
        refine ZV_iret dX12_shift_63 rfl ?_
        exact zleaf (v := sOk (shT T j w) (nI (g_pn T j))) (by simp [sp_shift, h9, h24, h41, nI_clamp hjx]) rfl (rR_s0 hR hsu)
      · skip
        refine ZV_aload_n (n := 45) dX12_shift_44 rfl rfl rfl ?_
        refine ZV_bipush (v := -12) (n := 47) dX12_shift_45 rfl rfl ?_
        refine call_X12_211 (c_fails hR (-12) 1 (by decide) rfl) rfl dX12_shift_47 rfl (rf_sh hR :).1 (Nat.le_of_ble_eq_true rfl) (Nat.le_of_ble_eq_true rfl) rfl (fun r9 σ9 hp9 => ?_)
        obtain ⟨rfl, hR⟩ := hp9
        refine ZV_iret dX12_shift_50 rfl ?_
        exact zleaf (v := sFl T 1 (-12) (-12)) (by simp [sp_shift, h9, h24, h41, nI_clamp hjx]) rfl hR
    · skip
      refine ZV_aload_n (n := 28) dX12_shift_27 rfl rfl rfl ?_
      refine ZV_bipush (v := -13) (n := 30) dX12_shift_28 rfl rfl ?_
      refine call_X12_211 (c_fails hR (-13) 2 (by decide) rfl) rfl dX12_shift_30 rfl (rf_sh hR :).1 (Nat.le_of_ble_eq_true rfl) (Nat.le_of_ble_eq_true rfl) rfl (fun r9 σ9 hp9 => ?_)
      obtain ⟨rfl, hR⟩ := hp9
      refine ZV_iret dX12_shift_33 rfl ?_
      exact zleaf (v := sFl T 2 (-13) (-13)) (by simp [sp_shift, h9, h24, nI_clamp hjx]) rfl hR
  · skip
    refine ZV_aload_n (n := 13) dX12_shift_12 rfl rfl rfl ?_
    refine ZV_bipush (v := -2) (n := 15) dX12_shift_13 rfl rfl ?_
    refine call_X12_130 (c_no hR _) rfl dX12_shift_15 rfl (rf_sh hR :).1 (Nat.le_of_ble_eq_true rfl) (Nat.le_of_ble_eq_true rfl) rfl (fun r9 σ9 hp9 => ?_)
    obtain ⟨rfl, hR⟩ := hp9
    refine ZV_iret dX12_shift_18 rfl ?_
    exact zleaf (v := sNo T (-2)) (by simp [sp_shift, h9]) rfl hR
