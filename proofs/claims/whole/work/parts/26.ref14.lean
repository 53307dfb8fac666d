def fdT (T : TS) (a b c : Int32) : TS := h_fo (h_fi T (if g_fo T < 100 then va_up (va_up (va_up (g_fi T) (3 * g_fo T) a) (3 * g_fo T + 1) b) (3 * g_fo T + 2) c else g_fi T)) (g_fo T + 1)
theorem hs_fi (T : TS) : h_fi T (g_fi T) = T := by unfold h_fi g_fi; simp only [up_self]
def hpN (T : TS) (e : Nat) (p : Int32) : Nat → Bool
  | 0 => false
  | n + 1 => hpN T e p n || decide (g_pi T e n = p)
def hpB (T : TS) (e : Nat) (p : Int32) : Bool := hpN T e p (g_pn T e)
def haN (T : TS) (f e : Nat) : Nat → Bool
  | 0 => true
  | n + 1 => haN T f e n && hpB T f (g_pi T e n)
def ntF (T : TS) (v : Nat) : Nat → Nat → Nat
  | 0, q => q
  | k + 1, q => if g_kd T (g_ro T v q) = 2 ∨ g_kd T (g_ro T v q) = 4 then ntF T v k (q + 1) else q
def ntQ (T : TS) (v p : Nat) : Nat := ntF T v (g_mn T v - (p + 1)) (p + 1)
theorem ntF_le (T : TS) (v : Nat) : ∀ k q, q ≤ ntF T v k q ∧ ntF T v k q ≤ q + k
  | 0, q => by simp [ntF]
  | k + 1, q => by
    rw [ntF]
    split
    · have := ntF_le T v k (q + 1)
      omega
    · omega
def twB (T : TS) (v p : Nat) : Bool := noB T (g_ro T v p) && g_ti T (g_ro T v p) && (decide (ntQ T v p = g_mn T v) || !(noB T (g_ro T v (ntQ T v p)) && haN T (g_ro T v (ntQ T v p)) (g_ro T v p) (g_pn T (g_ro T v p))))
theorem orB (a b : Bool) : bI a ||| bI b = bI (a || b) := by cases a <;> cases b <;> rfl
theorem andB (a b : Bool) : bI a &&& bI b = bI (a && b) := by cases a <;> cases b <;> rfl
def ouF (T : TS) (e : Nat) : Nat → Nat → Int64 → Bool × Int64
  | 0, _, w => (false, w)
  | k + 1, i, w => if hdP T e i < nI (leP (g_pk T (g_vo T e / 3))) ∨ ¬ hdP T e i ≤ nI (moP (g_pk T (g_vo T e / 3))) then (true, w + trP (g_pk T (g_vo T e / 3)) + leT (g_pk T (g_vo T e / 3))) else ouF T e k (i + 1) (w + trP (g_pk T (g_vo T e / 3)) + leT (g_pk T (g_vo T e / 3)))
set_option maxHeartbeats 4000000 in
set_option maxRecDepth 100000 in
theorem c_finds {x : Nat} {σ : ZS} {T : TS} (hR : rR x σ T) (a b c : Int32) (hfo : g_fo T ≤ 5000) : ZC M_X12_finds [Ar (some x), Ai a, Ai b, Ai c] σ (fun y0 τ0 => y0 = none ∧ rR x τ0 (fdT T a b c)) := by
  refine ZC_of (ls := [some (Ar (some x)), some (Ai a), some (Ai b), some (Ai c)]) (by decide) (Nat.le_of_ble_eq_true rfl) rfl ?_
  refine ZV_aload_n (n := 1) dX12_finds_0 rfl rfl rfl ?_
  refine ZV_getIv (n := 4) dX12_finds_1 fl_X12_289 rfl rfl rfl (rf_sh hR :).1 (rf_found hR :) ?_
  refine ZV_bipush (v := nI 100) (n := 6) dX12_finds_4 rfl rfl ?_
  refine ZV_icmp_geN (tgt := 49) (n := 9) dX12_finds_6 (by decide) rfl (by omega) (by omega) (fun h6 => ?_) (fun h6 => ?_)
  · skip
    rw [fdT, if_neg (by omega), hs_fi]
    refine ZV_aload_n (n := 50) dX12_finds_49 rfl rfl rfl ?_
    refine ZV_dup (n := 51) dX12_finds_50 rfl rfl ?_
    refine ZV_getIv (n := 54) dX12_finds_51 fl_X12_289 rfl rfl rfl (rf_sh hR :).1 (Eq.trans ((rf_found hR :) :) (show _ = nI (g_fo T) by first | simp only [gh_fo_ct, gh_fo_cu, gh_fo_cl, gh_fo_np, gh_fo_pk, gh_fo_nb, gh_fo_bt, gh_fo_ev, gh_fo_th, gh_fo_vo, gh_fo_kd, gh_fo_pn, gh_fo_pi, gh_fo_va, gh_fo_dt, gh_fo_ti, gh_fo_pl, gh_fo_mn, gh_fo_ro, gh_fo_te, gh_fo_tt, gh_fo_tv, gh_fo_tf, gh_fo_tl, gh_fo_tn, gh_fo_tm, gh_fo_tu, gh_fo_le, gh_fo_lt, gh_fo_lk, gh_fo_lf, gh_fo_lo, gh_fo_wm, gh_fo_wr, gh_fo_fo, gh_fo_fi, gh_fo_hr, gh_fo_rk, gh_fo_rs, gh_fo_rr, gh_fo_hs, gh_fo_sk, gh_fo_ss, gh_fo_sr, gh_fo_fa, gh_fo_su, gh_fo_tr] | rfl)) ?_
    refine ZV_iconst (v := nI 1) (n := 55) dX12_finds_54 rfl rfl ?_
    refine ZV_iaddN (n := 56) dX12_finds_55 rfl ?_
    refine ZV_putI (n := 59) dX12_finds_56 fl_X12_289 rfl (Or.inl rfl) rfl (fun h => absurd h (by decide)) rfl (rf_sh hR :).1 ?_
    refine ZV_gen (P := fun τ => rR x τ _) (rR_found hR _) (fun σ hR => ?_)
    refine ZV_vret dX12_finds_59 rfl ?_
    exact ⟨rfl, hR⟩
  · skip
    rw [fdT, if_pos h6]
    refine ZV_aload_n (n := 10) dX12_finds_9 rfl rfl rfl ?_
    refine ZV_getR (n := 13) dX12_finds_10 fl_X12_84 rfl rfl rfl (rf_sh hR :).1 ?_
    refine ZV_iconst (v := nI 3) (n := 14) dX12_finds_13 rfl rfl ?_
    refine ZV_aload_n (n := 15) dX12_finds_14 rfl rfl rfl ?_
    refine ZV_getIv (n := 18) dX12_finds_15 fl_X12_289 rfl rfl rfl (rf_sh hR :).1 (rf_found hR :) ?_
    refine ZV_imulN (n := 19) dX12_finds_18 rfl ?_
    refine ZV_iload_n (n := 20) dX12_finds_19 rfl rfl rfl ?_
    refine ZV_iast (n := 21) dX12_finds_20 rfl (ra_findings (rf_sh hR :) :) (rk_findings (rf_sh hR :) :) rfl (by omega) ?_
    refine ZV_gen (P := fun τ => rR x τ _) (rR_findings hR a) (fun σ hR => ?_)
    try simp only [gh_fi_ct, gh_fi_cu, gh_fi_cl, gh_fi_np, gh_fi_pk, gh_fi_nb, gh_fi_bt, gh_fi_ev, gh_fi_th, gh_fi_vo, gh_fi_kd, gh_fi_pn, gh_fi_pi, gh_fi_va, gh_fi_dt, gh_fi_ti, gh_fi_pl, gh_fi_mn, gh_fi_ro, gh_fi_te, gh_fi_tt, gh_fi_tv, gh_fi_tf, gh_fi_tl, gh_fi_tn, gh_fi_tm, gh_fi_tu, gh_fi_le, gh_fi_lt, gh_fi_lk, gh_fi_lf, gh_fi_lo, gh_fi_wm, gh_fi_wr, gh_fi_fo, gh_fi_fi, gh_fi_hr, gh_fi_rk, gh_fi_rs, gh_fi_rr, gh_fi_hs, gh_fi_sk, gh_fi_ss, gh_fi_sr, gh_fi_fa, gh_fi_su, gh_fi_tr] at hR
    refine ZV_aload_n (n := 22) dX12_finds_21 rfl rfl rfl ?_
    refine ZV_getR (n := 25) dX12_finds_22 fl_X12_84 rfl rfl rfl (rf_sh hR :).1 ?_
    refine ZV_iconst (v := nI 3) (n := 26) dX12_finds_25 rfl rfl ?_
    refine ZV_aload_n (n := 27) dX12_finds_26 rfl rfl rfl ?_
    refine ZV_getIv (n := 30) dX12_finds_27 fl_X12_289 rfl rfl rfl (rf_sh hR :).1 (Eq.trans ((rf_found hR :) :) (show _ = nI (g_fo T) by first | simp only [gh_fo_ct, gh_fo_cu, gh_fo_cl, gh_fo_np, gh_fo_pk, gh_fo_nb, gh_fo_bt, gh_fo_ev, gh_fo_th, gh_fo_vo, gh_fo_kd, gh_fo_pn, gh_fo_pi, gh_fo_va, gh_fo_dt, gh_fo_ti, gh_fo_pl, gh_fo_mn, gh_fo_ro, gh_fo_te, gh_fo_tt, gh_fo_tv, gh_fo_tf, gh_fo_tl, gh_fo_tn, gh_fo_tm, gh_fo_tu, gh_fo_le, gh_fo_lt, gh_fo_lk, gh_fo_lf, gh_fo_lo, gh_fo_wm, gh_fo_wr, gh_fo_fo, gh_fo_fi, gh_fo_hr, gh_fo_rk, gh_fo_rs, gh_fo_rr, gh_fo_hs, gh_fo_sk, gh_fo_ss, gh_fo_sr, gh_fo_fa, gh_fo_su, gh_fo_tr] | rfl)) ?_
    refine ZV_imulN (n := 31) dX12_finds_30 rfl ?_
    refine ZV_iconst (v := nI 1) (n := 32) dX12_finds_31 rfl rfl ?_
    refine ZV_iaddN (n := 33) dX12_finds_32 rfl ?_
    refine ZV_iload_n (n := 34) dX12_finds_33 rfl rfl rfl ?_
    refine ZV_iast (n := 35) dX12_finds_34 rfl (ra_findings (rf_sh hR :) :) (rk_findings (rf_sh hR :) :) rfl (by omega) ?_
    refine ZV_gen (P := fun τ => rR x τ _) (rR_findings hR b) (fun σ hR => ?_)
    try simp only [gh_fi_ct, gh_fi_cu, gh_fi_cl, gh_fi_np, gh_fi_pk, gh_fi_nb, gh_fi_bt, gh_fi_ev, gh_fi_th, gh_fi_vo, gh_fi_kd, gh_fi_pn, gh_fi_pi, gh_fi_va, gh_fi_dt, gh_fi_ti, gh_fi_pl, gh_fi_mn, gh_fi_ro, gh_fi_te, gh_fi_tt, gh_fi_tv, gh_fi_tf, gh_fi_tl, gh_fi_tn, gh_fi_tm, gh_fi_tu, gh_fi_le, gh_fi_lt, gh_fi_lk, gh_fi_lf, gh_fi_lo, gh_fi_wm, gh_fi_wr, gh_fi_fo, gh_fi_fi, gh_fi_hr, gh_fi_rk, gh_fi_rs, gh_fi_rr, gh_fi_hs, gh_fi_sk, gh_fi_ss, gh_fi_sr, gh_fi_fa, gh_fi_su, gh_fi_tr] at hR
    refine ZV_aload_n (n := 36) dX12_finds_35 rfl rfl rfl ?_
    refine ZV_getR (n := 39) dX12_finds_36 fl_X12_84 rfl rfl rfl (rf_sh hR :).1 ?_
    refine ZV_iconst (v := nI 3) (n := 40) dX12_finds_39 rfl rfl ?_
    refine ZV_aload_n (n := 41) dX12_finds_40 rfl rfl rfl ?_
    refine ZV_getIv (n := 44) dX12_finds_41 fl_X12_289 rfl rfl rfl (rf_sh hR :).1 (Eq.trans ((rf_found hR :) :) (show _ = nI (g_fo T) by first | simp only [gh_fo_ct, gh_fo_cu, gh_fo_cl, gh_fo_np, gh_fo_pk, gh_fo_nb, gh_fo_bt, gh_fo_ev, gh_fo_th, gh_fo_vo, gh_fo_kd, gh_fo_pn, gh_fo_pi, gh_fo_va, gh_fo_dt, gh_fo_ti, gh_fo_pl, gh_fo_mn, gh_fo_ro, gh_fo_te, gh_fo_tt, gh_fo_tv, gh_fo_tf, gh_fo_tl, gh_fo_tn, gh_fo_tm, gh_fo_tu, gh_fo_le, gh_fo_lt, gh_fo_lk, gh_fo_lf, gh_fo_lo, gh_fo_wm, gh_fo_wr, gh_fo_fo, gh_fo_fi, gh_fo_hr, gh_fo_rk, gh_fo_rs, gh_fo_rr, gh_fo_hs, gh_fo_sk, gh_fo_ss, gh_fo_sr, gh_fo_fa, gh_fo_su, gh_fo_tr] | rfl)) ?_
    refine ZV_imulN (n := 45) dX12_finds_44 rfl ?_
    refine ZV_iconst (v := nI 2) (n := 46) dX12_finds_45 rfl rfl ?_
    refine ZV_iaddN (n := 47) dX12_finds_46 rfl ?_
    refine ZV_iload_n (n := 48) dX12_finds_47 rfl rfl rfl ?_
    refine ZV_iast (n := 49) dX12_finds_48 rfl (ra_findings (rf_sh hR :) :) (rk_findings (rf_sh hR :) :) rfl (by omega) ?_
    refine ZV_gen (P := fun τ => rR x τ _) (rR_findings hR c) (fun σ hR => ?_)
    try simp only [gh_fi_ct, gh_fi_cu, gh_fi_cl, gh_fi_np, gh_fi_pk, gh_fi_nb, gh_fi_bt, gh_fi_ev, gh_fi_th, gh_fi_vo, gh_fi_kd, gh_fi_pn, gh_fi_pi, gh_fi_va, gh_fi_dt, gh_fi_ti, gh_fi_pl, gh_fi_mn, gh_fi_ro, gh_fi_te, gh_fi_tt, gh_fi_tv, gh_fi_tf, gh_fi_tl, gh_fi_tn, gh_fi_tm, gh_fi_tu, gh_fi_le, gh_fi_lt, gh_fi_lk, gh_fi_lf, gh_fi_lo, gh_fi_wm, gh_fi_wr, gh_fi_fo, gh_fi_fi, gh_fi_hr, gh_fi_rk, gh_fi_rs, gh_fi_rr, gh_fi_hs, gh_fi_sk, gh_fi_ss, gh_fi_sr, gh_fi_fa, gh_fi_su, gh_fi_tr] at hR
    rw [hh_fi, hh_fi] at hR
    refine ZV_aload_n (n := 50) dX12_finds_49 rfl rfl rfl ?_
    refine ZV_dup (n := 51) dX12_finds_50 rfl rfl ?_
    refine ZV_getIv (n := 54) dX12_finds_51 fl_X12_289 rfl rfl rfl (rf_sh hR :).1 (Eq.trans ((rf_found hR :) :) (show _ = nI (g_fo T) by first | simp only [gh_fo_ct, gh_fo_cu, gh_fo_cl, gh_fo_np, gh_fo_pk, gh_fo_nb, gh_fo_bt, gh_fo_ev, gh_fo_th, gh_fo_vo, gh_fo_kd, gh_fo_pn, gh_fo_pi, gh_fo_va, gh_fo_dt, gh_fo_ti, gh_fo_pl, gh_fo_mn, gh_fo_ro, gh_fo_te, gh_fo_tt, gh_fo_tv, gh_fo_tf, gh_fo_tl, gh_fo_tn, gh_fo_tm, gh_fo_tu, gh_fo_le, gh_fo_lt, gh_fo_lk, gh_fo_lf, gh_fo_lo, gh_fo_wm, gh_fo_wr, gh_fo_fo, gh_fo_fi, gh_fo_hr, gh_fo_rk, gh_fo_rs, gh_fo_rr, gh_fo_hs, gh_fo_sk, gh_fo_ss, gh_fo_sr, gh_fo_fa, gh_fo_su, gh_fo_tr] | rfl)) ?_
    refine ZV_iconst (v := nI 1) (n := 55) dX12_finds_54 rfl rfl ?_
    refine ZV_iaddN (n := 56) dX12_finds_55 rfl ?_
    refine ZV_putI (n := 59) dX12_finds_56 fl_X12_289 rfl (Or.inl rfl) rfl (fun h => absurd h (by decide)) rfl (rf_sh hR :).1 ?_
    refine ZV_gen (P := fun τ => rR x τ _) (rR_found hR _) (fun σ hR => ?_)
    refine ZV_vret dX12_finds_59 rfl ?_
    exact ⟨rfl, hR⟩
set_option maxHeartbeats 4000000 in
set_option maxRecDepth 100000 in
theorem c_hasPitch {x : Nat} {σ : ZS} {T : TS} (hR : rR x σ T) (hI : tI T) (e : Nat) (he : e < g_ev T) (p : Int32) : ZC M_X12_hasPitch [Ar (some x), Ai (nI e), Ai p] σ (fun r τ => r = some (Ai (bI (hpB T e p))) ∧ τ = σ) := by
  have hev := ti_ev hI
  have hpn := ti_pn hI e
  refine ZC_of (ls := [some (Ar (some x)), some (Ai (nI e)), some (Ai p), none, none]) (by decide) (Nat.le_of_ble_eq_true rfl) rfl ?_
  have loop : ∀ (n9 : Nat) (i : Nat), g_pn T e - i < n9 → i ≤ g_pn T e → ZV M_X12_hasPitch (fun r τ => r = some (Ai (bI (hpB T e p))) ∧ τ = σ) 5 [some (Ar (some x)), some (Ai (nI e)), some (Ai p), some (Ai (bI (hpN T e p i))), some (Ai (nI i))] [] σ (zmC M_X12_hasPitch) (zmS M_X12_hasPitch) := by
    intro n9
    induction n9 with
    | zero => intro i hm; exact absurd hm (Nat.not_lt_zero _)
    | succ n9 ih =>
      intro i hm hi
      refine ZV_iload (n := 7) dX12_hasPitch_5 rfl rfl ?_
      refine ZV_aload_n (n := 8) dX12_hasPitch_7 rfl rfl rfl ?_
      refine ZV_getR (n := 11) dX12_hasPitch_8 fl_X12_27 rfl rfl rfl (rf_sh hR :).1 ?_
      refine ZV_iload_n (n := 12) dX12_hasPitch_11 rfl rfl rfl ?_
      refine ZV_ialdv (n := 13) dX12_hasPitch_12 rfl (ra_pitches (rf_sh hR :) :) (rk_pitches (rf_sh hR :) :) rfl (by omega) (rf_pitches hR _ (by omega)) ?_
      refine ZV_icmp_geN (tgt := 46) (n := 16) dX12_hasPitch_13 (by decide) rfl (by omega) (by omega) (fun h13 => ?_) (fun h13 => ?_)
      · skip
        refine ZV_iload_n (n := 47) dX12_hasPitch_46 rfl rfl rfl ?_
        refine ZV_zret dX12_hasPitch_47 rfl (bI_01 _) ?_
        obtain rfl : i = g_pn T e := by omega
        exact ⟨rfl, rfl⟩
      · skip
        refine ZV_iload_n (n := 17) dX12_hasPitch_16 rfl rfl rfl ?_
        refine ZV_aload_n (n := 18) dX12_hasPitch_17 rfl rfl rfl ?_
        refine ZV_getR (n := 21) dX12_hasPitch_18 fl_X12_30 rfl rfl rfl (rf_sh hR :).1 ?_
        refine ZV_bipush (v := nI 6) (n := 23) dX12_hasPitch_21 rfl rfl ?_
        refine ZV_iload_n (n := 24) dX12_hasPitch_23 rfl rfl rfl ?_
        refine ZV_imulN (n := 25) dX12_hasPitch_24 rfl ?_
        refine ZV_iload (n := 27) dX12_hasPitch_25 rfl rfl ?_
        refine ZV_iaddN (n := 28) dX12_hasPitch_27 rfl ?_
        refine ZV_ialdv (n := 29) dX12_hasPitch_28 rfl (ra_pitchOf (rf_sh hR :) :) (rk_pitchOf (rf_sh hR :) :) rfl (by omega) (rf_pitchOf hR _ _ (by omega) (by omega)) ?_
        refine ZV_iload_n (n := 30) dX12_hasPitch_29 rfl rfl rfl ?_
        refine ZV_icmp_ne (tgt := 37) (n := 33) dX12_hasPitch_30 (by decide) rfl (fun h30 => ?_) (fun h30 => ?_)
        · skip
          refine ZV_iconst (v := nI 0) (n := 38) dX12_hasPitch_37 rfl rfl ?_
          refine ZV_topi (w := bI (decide (g_pi T e i = p))) (by first | (rw [decide_eq_true h30]; rfl) | (rw [decide_eq_false h30]; rfl)) ?_
          refine ZV_ior (n := 39) dX12_hasPitch_38 rfl ?_
          refine ZV_topi (orB _ _) ?_
          rw [← hpN]
          refine ZV_istore_3 (n := 40) dX12_hasPitch_39 rfl (Nat.le_of_ble_eq_true rfl) rfl ?_
          refine ZV_iincN_4 (v := 1) (n := 43) dX12_hasPitch_40 rfl rfl (Nat.le_of_ble_eq_true rfl) rfl ?_
          refine ZV_goto (tgt := 5) dX12_hasPitch_43 (by decide) ?_
          exact ih (i + 1) (by omega) (by omega)
        · skip
          refine ZV_iconst (v := nI 1) (n := 34) dX12_hasPitch_33 rfl rfl ?_
          refine ZV_goto (tgt := 38) dX12_hasPitch_34 (by decide) ?_
          refine ZV_topi (w := bI (decide (g_pi T e i = p))) (by first | (rw [decide_eq_true h30]; rfl) | (rw [decide_eq_false h30]; rfl)) ?_
          refine ZV_ior (n := 39) dX12_hasPitch_38 rfl ?_
          refine ZV_topi (orB _ _) ?_
          rw [← hpN]
          refine ZV_istore_3 (n := 40) dX12_hasPitch_39 rfl (Nat.le_of_ble_eq_true rfl) rfl ?_
          refine ZV_iincN_4 (v := 1) (n := 43) dX12_hasPitch_40 rfl rfl (Nat.le_of_ble_eq_true rfl) rfl ?_
          refine ZV_goto (tgt := 5) dX12_hasPitch_43 (by decide) ?_
          exact ih (i + 1) (by omega) (by omega)
  refine ZV_iconst (v := nI 0) (n := 1) dX12_hasPitch_0 rfl rfl ?_
  refine ZV_istore_3 (n := 2) dX12_hasPitch_1 rfl (Nat.le_of_ble_eq_true rfl) rfl ?_
  refine ZV_iconst (v := nI 0) (n := 3) dX12_hasPitch_2 rfl rfl ?_
  refine ZV_istore_4 (n := 5) dX12_hasPitch_3 rfl (Nat.le_of_ble_eq_true rfl) rfl ?_
  exact loop _ 0 (Nat.lt_succ_self _) (Nat.zero_le _)
set_option maxHeartbeats 4000000 in
set_option maxRecDepth 100000 in
theorem c_isTieWrong {x : Nat} {σ : ZS} {T : TS} (hR : rR x σ T) (hI : tI T) (v p : Nat) (hv : v < 18) (hp : p < g_mn T v) : ZC M_X12_isTieWrong [Ar (some x), Ai (nI v), Ai (nI p)] σ (fun r τ => r = some (Ai (bI (twB T v p))) ∧ τ = σ) := by
  have hev := ti_ev hI
  have hmn := ti_mn hI v
  have hrp := ti_ro hI v p hv hp
  have hpn := ti_pn hI (g_ro T v p)
  have hkp := ti_kd hI _ hrp.1
  refine ZC_of (ls := [some (Ar (some x)), some (Ai (nI v)), some (Ai (nI p)), none, none, none, none, none]) (by decide) (Nat.le_of_ble_eq_true rfl) rfl ?_
  refine ZV_aload_n (n := 1) dX12_isTieWrong_0 rfl rfl rfl ?_
  refine ZV_getR (n := 4) dX12_isTieWrong_1 fl_X12_42 rfl rfl rfl (rf_sh hR :).1 ?_
  refine ZV_bipush (v := nI 40) (n := 6) dX12_isTieWrong_4 rfl rfl ?_
  refine ZV_iload_n (n := 7) dX12_isTieWrong_6 rfl rfl rfl ?_
  refine ZV_imulN (n := 8) dX12_isTieWrong_7 rfl ?_
  refine ZV_iload_n (n := 9) dX12_isTieWrong_8 rfl rfl rfl ?_
  refine ZV_iaddN (n := 10) dX12_isTieWrong_9 rfl ?_
  refine ZV_ialdv (n := 11) dX12_isTieWrong_10 rfl (ra_row (rf_sh hR :) :) (rk_row (rf_sh hR :) :) rfl (by omega) (rf_row hR _ _ (by omega) (by omega)) ?_
  refine ZV_istore_3 (n := 12) dX12_isTieWrong_11 rfl (Nat.le_of_ble_eq_true rfl) rfl ?_
  refine ZV_aload_n (n := 13) dX12_isTieWrong_12 rfl rfl rfl ?_
  refine ZV_iload_n (n := 14) dX12_isTieWrong_13 rfl rfl rfl ?_
  refine call_X12_214 (c_isNote hR hI _ hrp.1) rfl dX12_isTieWrong_14 rfl (rf_sh hR :).1 (Nat.le_of_ble_eq_true rfl) (Nat.le_of_ble_eq_true rfl) rfl (fun r9 σ9 hp9 => ?_)
  obtain ⟨rfl, hs9⟩ := hp9
  subst σ9
  refine ZV_if_eqB (tgt := 29) (n := 20) dX12_isTieWrong_17 (by decide) rfl (fun h17 => ?_) (fun h17 => ?_)
  · skip
    refine ZV_iconst (v := nI 0) (n := 30) dX12_isTieWrong_29 rfl rfl ?_
    refine ZV_zret dX12_isTieWrong_30 rfl (by first | exact Or.inl rfl | exact Or.inr rfl) ?_
    exact ⟨by unfold twB; simp [h17]; rfl, rfl⟩
  · skip
    refine ZV_aload_n (n := 21) dX12_isTieWrong_20 rfl rfl rfl ?_
    refine ZV_getR (n := 24) dX12_isTieWrong_21 fl_X12_39 rfl rfl rfl (rf_sh hR :).1 ?_
    refine ZV_iload_n (n := 25) dX12_isTieWrong_24 rfl rfl rfl ?_
    refine ZV_baldv (n := 26) dX12_isTieWrong_25 rfl (ra_isTied (rf_sh hR :) :) (rk_isTied (rf_sh hR :) :) rfl (by omega) (rf_isTied hR _ (by omega)) ?_
    refine ZV_if_neB (tgt := 31) (n := 29) dX12_isTieWrong_26 (by decide) rfl (fun h26 => ?_) (fun h26 => ?_)
    · skip
      refine ZV_iload_n (n := 32) dX12_isTieWrong_31 rfl rfl rfl ?_
      refine ZV_iconst (v := nI 1) (n := 33) dX12_isTieWrong_32 rfl rfl ?_
      refine ZV_iaddN (n := 34) dX12_isTieWrong_33 rfl ?_
      refine ZV_istore_4 (n := 36) dX12_isTieWrong_34 rfl (Nat.le_of_ble_eq_true rfl) rfl ?_
      have hQ := ntF_le T v (g_mn T v - (p + 1)) (p + 1)
      obtain ⟨Q, hQ0⟩ : ∃ Q, Q = ntQ T v p := ⟨_, rfl⟩
      have hQ1 : p + 1 ≤ Q ∧ Q ≤ g_mn T v := by rw [hQ0]; unfold ntQ; omega
      have tail : ZV M_X12_isTieWrong (fun r τ => r = some (Ai (bI (twB T v p))) ∧ τ = σ) 95 [some (Ar (some x)), some (Ai (nI v)), some (Ai (nI p)), some (Ai (nI (g_ro T v p))), some (Ai (nI Q)), none, none, none] [] σ (zmC M_X12_isTieWrong) (zmS M_X12_isTieWrong) := by
        refine ZV_iload (n := 97) dX12_isTieWrong_95 rfl rfl ?_
        refine ZV_aload_n (n := 98) dX12_isTieWrong_97 rfl rfl rfl ?_
        refine ZV_getR (n := 101) dX12_isTieWrong_98 fl_X12_45 rfl rfl rfl (rf_sh hR :).1 ?_
        refine ZV_iload_n (n := 102) dX12_isTieWrong_101 rfl rfl rfl ?_
        refine ZV_ialdv (n := 103) dX12_isTieWrong_102 rfl (ra_many (rf_sh hR :) :) (rk_many (rf_sh hR :) :) rfl (by omega) (rf_many hR _ (by omega)) ?_
        refine ZV_icmp_neN (tgt := 108) (n := 106) dX12_isTieWrong_103 (by decide) rfl (by omega) (by omega) (fun h103 => ?_) (fun h103 => ?_)
        · skip
          have hrq := ti_ro hI v Q hv (by omega)
          refine ZV_aload_n (n := 109) dX12_isTieWrong_108 rfl rfl rfl ?_
          refine ZV_getR (n := 112) dX12_isTieWrong_109 fl_X12_42 rfl rfl rfl (rf_sh hR :).1 ?_
          refine ZV_bipush (v := nI 40) (n := 114) dX12_isTieWrong_112 rfl rfl ?_
          refine ZV_iload_n (n := 115) dX12_isTieWrong_114 rfl rfl rfl ?_
          refine ZV_imulN (n := 116) dX12_isTieWrong_115 rfl ?_
          refine ZV_iload (n := 118) dX12_isTieWrong_116 rfl rfl ?_
          refine ZV_iaddN (n := 119) dX12_isTieWrong_118 rfl ?_
          refine ZV_ialdv (n := 120) dX12_isTieWrong_119 rfl (ra_row (rf_sh hR :) :) (rk_row (rf_sh hR :) :) rfl (by omega) (rf_row hR _ _ (by omega) (by omega)) ?_
          refine ZV_istore_5 (n := 122) dX12_isTieWrong_120 rfl (Nat.le_of_ble_eq_true rfl) rfl ?_
          refine ZV_aload_n (n := 123) dX12_isTieWrong_122 rfl rfl rfl ?_
          refine ZV_iload (n := 125) dX12_isTieWrong_123 rfl rfl ?_
          refine call_X12_214 (c_isNote hR hI _ hrq.1) rfl dX12_isTieWrong_125 rfl (rf_sh hR :).1 (Nat.le_of_ble_eq_true rfl) (Nat.le_of_ble_eq_true rfl) rfl (fun r9 σ9 hp9 => ?_)
          obtain ⟨rfl, hs9⟩ := hp9
          subst σ9
          refine ZV_istore_6 (n := 130) dX12_isTieWrong_128 rfl (Nat.le_of_ble_eq_true rfl) rfl ?_
          refine ZV_iconst (v := nI 0) (n := 131) dX12_isTieWrong_130 rfl rfl ?_
          refine ZV_istore_7 (n := 133) dX12_isTieWrong_131 rfl (Nat.le_of_ble_eq_true rfl) rfl ?_
          have loop2 : ∀ (n9 : Nat) (i : Nat), g_pn T (g_ro T v p) - i < n9 → i ≤ g_pn T (g_ro T v p) → ZV M_X12_isTieWrong (fun r τ => r = some (Ai (bI (twB T v p))) ∧ τ = σ) 133 [some (Ar (some x)), some (Ai (nI v)), some (Ai (nI p)), some (Ai (nI (g_ro T v p))), some (Ai (nI Q)), some (Ai (nI (g_ro T v Q))), some (Ai (bI (noB T (g_ro T v Q) && haN T (g_ro T v Q) (g_ro T v p) i))), some (Ai (nI i))] [] σ (zmC M_X12_isTieWrong) (zmS M_X12_isTieWrong) := by
            intro n9
            induction n9 with
            | zero => intro i hm; exact absurd hm (Nat.not_lt_zero _)
            | succ n9 ih =>
              intro i hm hi
              refine ZV_iload (n := 135) dX12_isTieWrong_133 rfl rfl ?_
              refine ZV_aload_n (n := 136) dX12_isTieWrong_135 rfl rfl rfl ?_
              refine ZV_getR (n := 139) dX12_isTieWrong_136 fl_X12_27 rfl rfl rfl (rf_sh hR :).1 ?_
              refine ZV_iload_n (n := 140) dX12_isTieWrong_139 rfl rfl rfl ?_
              refine ZV_ialdv (n := 141) dX12_isTieWrong_140 rfl (ra_pitches (rf_sh hR :) :) (rk_pitches (rf_sh hR :) :) rfl (by omega) (rf_pitches hR _ (by omega)) ?_
              refine ZV_icmp_geN (tgt := 173) (n := 144) dX12_isTieWrong_141 (by decide) rfl (by omega) (by omega) (fun h141 => ?_) (fun h141 => ?_)
              · skip
                refine ZV_iload (n := 175) dX12_isTieWrong_173 rfl rfl ?_
                refine ZV_if_neB (tgt := 182) (n := 178) dX12_isTieWrong_175 (by decide) rfl (fun h175 => ?_) (fun h175 => ?_)
                · skip
                  obtain rfl : i = g_pn T (g_ro T v p) := by omega
                  refine ZV_iconst (v := nI 0) (n := 183) dX12_isTieWrong_182 rfl rfl ?_
                  refine ZV_zret dX12_isTieWrong_183 rfl (by first | exact Or.inl rfl | exact Or.inr rfl) ?_
                  refine ⟨?_, rfl⟩
                  unfold twB
                  rw [← hQ0, h17, h26, decide_eq_false h103, h175]
                  rfl
                · skip
                  obtain rfl : i = g_pn T (g_ro T v p) := by omega
                  refine ZV_iconst (v := nI 1) (n := 179) dX12_isTieWrong_178 rfl rfl ?_
                  refine ZV_goto (tgt := 183) dX12_isTieWrong_179 (by decide) ?_
                  refine ZV_zret dX12_isTieWrong_183 rfl (by first | exact Or.inl rfl | exact Or.inr rfl) ?_
                  refine ⟨?_, rfl⟩
                  unfold twB
                  rw [← hQ0, h17, h26, decide_eq_false h103, h175]
                  rfl
              · skip
                refine ZV_iload (n := 146) dX12_isTieWrong_144 rfl rfl ?_
                refine ZV_aload_n (n := 147) dX12_isTieWrong_146 rfl rfl rfl ?_
                refine ZV_iload (n := 149) dX12_isTieWrong_147 rfl rfl ?_
                refine ZV_aload_n (n := 150) dX12_isTieWrong_149 rfl rfl rfl ?_
                refine ZV_getR (n := 153) dX12_isTieWrong_150 fl_X12_30 rfl rfl rfl (rf_sh hR :).1 ?_
                refine ZV_bipush (v := nI 6) (n := 155) dX12_isTieWrong_153 rfl rfl ?_
                refine ZV_iload_n (n := 156) dX12_isTieWrong_155 rfl rfl rfl ?_
                refine ZV_imulN (n := 157) dX12_isTieWrong_156 rfl ?_
                refine ZV_iload (n := 159) dX12_isTieWrong_157 rfl rfl ?_
                refine ZV_iaddN (n := 160) dX12_isTieWrong_159 rfl ?_
                refine ZV_ialdv (n := 161) dX12_isTieWrong_160 rfl (ra_pitchOf (rf_sh hR :) :) (rk_pitchOf (rf_sh hR :) :) rfl (by omega) (rf_pitchOf hR _ _ (by omega) (by omega)) ?_
                refine call_X12_292 (c_hasPitch hR hI _ hrq.1 _) rfl dX12_isTieWrong_161 rfl (rf_sh hR :).1 (Nat.le_of_ble_eq_true rfl) (Nat.le_of_ble_eq_true rfl) rfl (fun r9 σ9 hp9 => ?_)
                obtain ⟨rfl, rfl⟩ := hp9
                refine ZV_iand (n := 165) dX12_isTieWrong_164 rfl ?_
                refine ZV_topi (andB _ _) ?_
                rw [Bool.and_assoc, ← haN]
                refine ZV_istore_6 (n := 167) dX12_isTieWrong_165 rfl (Nat.le_of_ble_eq_true rfl) rfl ?_
                refine ZV_iincN_7 (v := 1) (n := 170) dX12_isTieWrong_167 rfl rfl (Nat.le_of_ble_eq_true rfl) rfl ?_
                refine ZV_goto (tgt := 133) dX12_isTieWrong_170 (by decide) ?_
                exact ih (i + 1) (by omega) (by omega)
          have hl2 := loop2 _ 0 (Nat.lt_succ_self _) (Nat.zero_le _)
          rw [haN, Bool.and_true] at hl2
          exact hl2
        · skip
          refine ?_
          refine ZV_iconst (v := nI 1) (n := 107) dX12_isTieWrong_106 rfl rfl ?_
          refine ZV_zret dX12_isTieWrong_107 rfl (by first | exact Or.inl rfl | exact Or.inr rfl) ?_
          refine ⟨?_, rfl⟩
          unfold twB
          rw [← hQ0, h17, h26, decide_eq_true h103]
          rfl
      have loop1 : ∀ (n9 : Nat) (k q : Nat), k < n9 → q + k = g_mn T v → p < q → ntF T v k q = Q → ZV M_X12_isTieWrong (fun r τ => r = some (Ai (bI (twB T v p))) ∧ τ = σ) 36 [some (Ar (some x)), some (Ai (nI v)), some (Ai (nI p)), some (Ai (nI (g_ro T v p))), some (Ai (nI q)), none, none, none] [] σ (zmC M_X12_isTieWrong) (zmS M_X12_isTieWrong) := by
        intro n9
        induction n9 with
        | zero => intro k q hm; exact absurd hm (Nat.not_lt_zero _)
        | succ n9 ih =>
          intro k q hm hqk hpq hz
          refine ZV_iload (n := 38) dX12_isTieWrong_36 rfl rfl ?_
          refine ZV_aload_n (n := 39) dX12_isTieWrong_38 rfl rfl rfl ?_
          refine ZV_getR (n := 42) dX12_isTieWrong_39 fl_X12_45 rfl rfl rfl (rf_sh hR :).1 ?_
          refine ZV_iload_n (n := 43) dX12_isTieWrong_42 rfl rfl rfl ?_
          refine ZV_ialdv (n := 44) dX12_isTieWrong_43 rfl (ra_many (rf_sh hR :) :) (rk_many (rf_sh hR :) :) rfl (by omega) (rf_many hR _ (by omega)) ?_
          refine ZV_icmp_geN (tgt := 95) (n := 47) dX12_isTieWrong_44 (by decide) rfl (by omega) (by omega) (fun h44 => ?_) (fun h44 => ?_)
          · skip
            obtain rfl : q = Q := by rw [← hz, show k = 0 by omega]; rfl
            exact tail
          · skip
            obtain ⟨k, rfl⟩ : ∃ z, k = z + 1 := ⟨k - 1, by omega⟩
            have hrq := ti_ro hI v q hv (by omega)
            have hkq := ti_kd hI _ hrq.1
            refine ZV_aload_n (n := 48) dX12_isTieWrong_47 rfl rfl rfl ?_
            refine ZV_getR (n := 51) dX12_isTieWrong_48 fl_X12_24 rfl rfl rfl (rf_sh hR :).1 ?_
            refine ZV_aload_n (n := 52) dX12_isTieWrong_51 rfl rfl rfl ?_
            refine ZV_getR (n := 55) dX12_isTieWrong_52 fl_X12_42 rfl rfl rfl (rf_sh hR :).1 ?_
            refine ZV_bipush (v := nI 40) (n := 57) dX12_isTieWrong_55 rfl rfl ?_
            refine ZV_iload_n (n := 58) dX12_isTieWrong_57 rfl rfl rfl ?_
            refine ZV_imulN (n := 59) dX12_isTieWrong_58 rfl ?_
            refine ZV_iload (n := 61) dX12_isTieWrong_59 rfl rfl ?_
            refine ZV_iaddN (n := 62) dX12_isTieWrong_61 rfl ?_
            refine ZV_ialdv (n := 63) dX12_isTieWrong_62 rfl (ra_row (rf_sh hR :) :) (rk_row (rf_sh hR :) :) rfl (by omega) (rf_row hR _ _ (by omega) (by omega)) ?_
            refine ZV_ialdv (n := 64) dX12_isTieWrong_63 rfl (ra_kindOf (rf_sh hR :) :) (rk_kindOf (rf_sh hR :) :) rfl (by omega) (rf_kindOf hR _ (by omega)) ?_
            refine ZV_iconst (v := nI 2) (n := 65) dX12_isTieWrong_64 rfl rfl ?_
            refine ZV_icmp_eqN (tgt := 89) (n := 68) dX12_isTieWrong_65 (by decide) rfl (by omega) (by omega) (fun h65 => ?_) (fun h65 => ?_)
            · skip
              refine ZV_iincN_4 (v := 1) (n := 92) dX12_isTieWrong_89 rfl rfl (Nat.le_of_ble_eq_true rfl) rfl ?_
              refine ZV_goto (tgt := 36) dX12_isTieWrong_92 (by decide) ?_
              exact ih k (q + 1) (by omega) (by omega) (by omega) (by rw [← hz, ntF, if_pos (by omega)])
            · skip
              refine ZV_aload_n (n := 69) dX12_isTieWrong_68 rfl rfl rfl ?_
              refine ZV_getR (n := 72) dX12_isTieWrong_69 fl_X12_24 rfl rfl rfl (rf_sh hR :).1 ?_
              refine ZV_aload_n (n := 73) dX12_isTieWrong_72 rfl rfl rfl ?_
              refine ZV_getR (n := 76) dX12_isTieWrong_73 fl_X12_42 rfl rfl rfl (rf_sh hR :).1 ?_
              refine ZV_bipush (v := nI 40) (n := 78) dX12_isTieWrong_76 rfl rfl ?_
              refine ZV_iload_n (n := 79) dX12_isTieWrong_78 rfl rfl rfl ?_
              refine ZV_imulN (n := 80) dX12_isTieWrong_79 rfl ?_
              refine ZV_iload (n := 82) dX12_isTieWrong_80 rfl rfl ?_
              refine ZV_iaddN (n := 83) dX12_isTieWrong_82 rfl ?_
              refine ZV_ialdv (n := 84) dX12_isTieWrong_83 rfl (ra_row (rf_sh hR :) :) (rk_row (rf_sh hR :) :) rfl (by omega) (rf_row hR _ _ (by omega) (by omega)) ?_
              refine ZV_ialdv (n := 85) dX12_isTieWrong_84 rfl (ra_kindOf (rf_sh hR :) :) (rk_kindOf (rf_sh hR :) :) rfl (by omega) (rf_kindOf hR _ (by omega)) ?_
              refine ZV_iconst (v := nI 4) (n := 86) dX12_isTieWrong_85 rfl rfl ?_
              refine ZV_icmp_neN (tgt := 95) (n := 89) dX12_isTieWrong_86 (by decide) rfl (by omega) (by omega) (fun h86 => ?_) (fun h86 => ?_)
              · skip
                obtain rfl : q = Q := by rw [← hz, ntF, if_neg (by omega)]
                exact tail
              · skip
                refine ZV_iincN_4 (v := 1) (n := 92) dX12_isTieWrong_89 rfl rfl (Nat.le_of_ble_eq_true rfl) rfl ?_
                refine ZV_goto (tgt := 36) dX12_isTieWrong_92 (by decide) ?_
                exact ih k (q + 1) (by omega) (by omega) (by omega) (by rw [← hz, ntF, if_pos (by omega)])
      exact loop1 _ (g_mn T v - (p + 1)) (p + 1) (Nat.lt_succ_self _) (by omega) (by omega) (by rw [hQ0]; rfl)
    · skip
      refine ZV_iconst (v := nI 0) (n := 30) dX12_isTieWrong_29 rfl rfl ?_
      refine ZV_zret dX12_isTieWrong_30 rfl (by first | exact Or.inl rfl | exact Or.inr rfl) ?_
      exact ⟨by unfold twB; simp [h17, h26]; rfl, rfl⟩
theorem c_isNoteW {x : Nat} {σ : ZS} {T : TS} {w : Int64} (hR : rR x σ (h_tr T w)) (hI : tI T) (e : Nat) (he : e < g_ev T) : ZC M_X12_isNote [Ar (some x), Ai (nI e)] σ (fun y0 τ0 => y0 = some (Ai (bI (noB T e))) ∧ τ0 = σ) := c_isNote hR (tI_tr hI w) e he
theorem c_heardOfW {x : Nat} {σ : ZS} {T : TS} {w : Int64} (hR : rR x σ (h_tr T w)) (hI : tI T) (e i : Nat) (he : e < g_ev T) (hth : g_th T e = true) (hi : i < g_pn T e) : ZC M_X12_heardOf [Ar (some x), Ai (nI e), Ai (nI i)] σ (fun y0 τ0 => y0 = some (Ai (hdP T e i)) ∧ rR x τ0 (h_tr T (w + trP (g_pk T (g_vo T e / 3))))) := c_heardOf hR (tI_tr hI w) e i he hth hi
theorem c_leastOfW {x : Nat} {σ : ZS} {T : TS} {w : Int64} (hR : rR x σ (h_tr T w)) (hI : tI T) (k : Nat) (hk : k ≤ 5) : ZC M_X12_leastOf [Ar (some x), Ai (nI k)] σ (fun y0 τ0 => y0 = some (Ai (nI (leP k))) ∧ rR x τ0 (h_tr T (w + leT k))) := c_leastOf hR (tI_tr hI w) k hk
set_option maxHeartbeats 4000000 in
set_option maxRecDepth 100000 in
theorem c_isOut {x : Nat} {σ : ZS} {T : TS} (hR : rR x σ T) (hI : tI T) (e : Nat) (he : e < g_ev T) (hth : g_th T e = true) : ZC M_X12_isOut [Ar (some x), Ai (nI e)] σ (fun y0 τ0 => y0 = some (Ai (bI (ouF T e (g_pn T e) 0 (g_tr T)).1)) ∧ rR x τ0 (h_tr T (ouF T e (g_pn T e) 0 (g_tr T)).2)) := by
  have hev := ti_ev hI
  have hnp := ti_np hI
  have hvo := ti_vo hI e he
  have hpn := ti_pn hI e
  have hpk := ti_pk hI (g_vo T e / 3) (by omega)
  have hpn0 := ti_pn0 hI e he
  refine ZC_of (ls := [some (Ar (some x)), some (Ai (nI e)), none, none, none]) (by decide) (Nat.le_of_ble_eq_true rfl) rfl ?_
  refine ZV_aload_n (n := 1) dX12_isOut_0 rfl rfl rfl ?_
  refine ZV_getR (n := 4) dX12_isOut_1 fl_X12_7 rfl rfl rfl (rf_sh hR :).1 ?_
  refine ZV_aload_n (n := 5) dX12_isOut_4 rfl rfl rfl ?_
  refine ZV_getR (n := 8) dX12_isOut_5 fl_X12_21 rfl rfl rfl (rf_sh hR :).1 ?_
  refine ZV_iload_n (n := 9) dX12_isOut_8 rfl rfl rfl ?_
  refine ZV_ialdv (n := 10) dX12_isOut_9 rfl (ra_voiceOf (rf_sh hR :) :) (rk_voiceOf (rf_sh hR :) :) rfl (by omega) (rf_voiceOf hR _ (by omega)) ?_
  refine ZV_iconst (v := nI 3) (n := 11) dX12_isOut_10 rfl rfl ?_
  refine ZV_idivN (n := 12) dX12_isOut_11 rfl (by omega) (by omega) (by omega) ?_
  refine ZV_ialdv (n := 13) dX12_isOut_12 rfl (ra_partKind (rf_sh hR :) :) (rk_partKind (rf_sh hR :) :) rfl (by omega) (rf_partKind hR _ (by omega)) ?_
  refine ZV_istore_2 (n := 14) dX12_isOut_13 rfl (Nat.le_of_ble_eq_true rfl) rfl ?_
  refine ZV_iconst (v := nI 0) (n := 15) dX12_isOut_14 rfl rfl ?_
  refine ZV_istore_3 (n := 16) dX12_isOut_15 rfl (Nat.le_of_ble_eq_true rfl) rfl ?_
  generalize hZ0 : ouF T e (g_pn T e) 0 (g_tr T) = Z
  have loop : ∀ (n9 : Nat) (k i : Nat) (w : Int64) (τ : ZS), k < n9 → i + k = g_pn T e → rR x τ (h_tr T w) → ouF T e k i w = Z → ZV M_X12_isOut (fun y0 τ0 => y0 = some (Ai (bI Z.1)) ∧ rR x τ0 (h_tr T Z.2)) 16 [some (Ar (some x)), some (Ai (nI e)), some (Ai (nI (g_pk T (g_vo T e / 3)))), some (Ai (nI i)), none] [] τ (zmC M_X12_isOut) (zmS M_X12_isOut) := by
    intro n9
    induction n9 with
    | zero => intro k i w τ hm; exact absurd hm (Nat.not_lt_zero _)
    | succ n9 ih =>
      intro k i w τ hm hik hR1 hz
      refine ZV_aload_n (n := 17) dX12_isOut_16 rfl rfl rfl ?_
      refine ZV_iload_n (n := 18) dX12_isOut_17 rfl rfl rfl ?_
      refine call_X12_214 (c_isNoteW hR1 hI _ he) rfl dX12_isOut_18 rfl (rf_sh hR1 :).1 (Nat.le_of_ble_eq_true rfl) (Nat.le_of_ble_eq_true rfl) rfl (fun r9 σ9 hp9 => ?_)
      obtain ⟨rfl, rfl⟩ := hp9
      refine ZV_if_eqB (tgt := 69) (n := 24) dX12_isOut_21 (by decide) rfl (fun h21 => ?_) (fun h21 => ?_)
      · skip
        obtain rfl : k = 0 := by
          have := hpn0 (by have := of_decide_eq_false h21; omega)
          omega
        rw [ouF] at hz
        subst hz
        refine ZV_iconst (v := nI 0) (n := 70) dX12_isOut_69 rfl rfl ?_
        refine ZV_zret dX12_isOut_70 rfl (by first | exact Or.inl rfl | exact Or.inr rfl) ?_
        exact ⟨rfl, hR1⟩
      · skip
        refine ZV_iload_n (n := 25) dX12_isOut_24 rfl rfl rfl ?_
        refine ZV_aload_n (n := 26) dX12_isOut_25 rfl rfl rfl ?_
        refine ZV_getR (n := 29) dX12_isOut_26 fl_X12_27 rfl rfl rfl (rf_sh hR1 :).1 ?_
        refine ZV_iload_n (n := 30) dX12_isOut_29 rfl rfl rfl ?_
        refine ZV_ialdv (n := 31) dX12_isOut_30 rfl (ra_pitches (rf_sh hR1 :) :) (rk_pitches (rf_sh hR1 :) :) rfl (by omega) (Eq.trans ((rf_pitches hR1 e (by omega)) :) (show _ = nI (g_pn T e) by first | simp only [gh_pn_ct, gh_pn_cu, gh_pn_cl, gh_pn_np, gh_pn_pk, gh_pn_nb, gh_pn_bt, gh_pn_ev, gh_pn_th, gh_pn_vo, gh_pn_kd, gh_pn_pn, gh_pn_pi, gh_pn_va, gh_pn_dt, gh_pn_ti, gh_pn_pl, gh_pn_mn, gh_pn_ro, gh_pn_te, gh_pn_tt, gh_pn_tv, gh_pn_tf, gh_pn_tl, gh_pn_tn, gh_pn_tm, gh_pn_tu, gh_pn_le, gh_pn_lt, gh_pn_lk, gh_pn_lf, gh_pn_lo, gh_pn_wm, gh_pn_wr, gh_pn_fo, gh_pn_fi, gh_pn_hr, gh_pn_rk, gh_pn_rs, gh_pn_rr, gh_pn_hs, gh_pn_sk, gh_pn_ss, gh_pn_sr, gh_pn_fa, gh_pn_su, gh_pn_tr] | rfl)) ?_
        refine ZV_icmp_geN (tgt := 69) (n := 34) dX12_isOut_31 (by decide) rfl (by omega) (by omega) (fun h31 => ?_) (fun h31 => ?_)
        · skip
          obtain rfl : k = 0 := by omega
          rw [ouF] at hz
          subst hz
          refine ZV_iconst (v := nI 0) (n := 70) dX12_isOut_69 rfl rfl ?_
          refine ZV_zret dX12_isOut_70 rfl (by first | exact Or.inl rfl | exact Or.inr rfl) ?_
          exact ⟨rfl, hR1⟩
        · skip
          obtain ⟨k, rfl⟩ : ∃ z, k = z + 1 := ⟨k - 1, by omega⟩
          refine ZV_aload_n (n := 35) dX12_isOut_34 rfl rfl rfl ?_
          refine ZV_iload_n (n := 36) dX12_isOut_35 rfl rfl rfl ?_
          refine ZV_iload_n (n := 37) dX12_isOut_36 rfl rfl rfl ?_
          refine call_X12_220 (c_heardOfW hR1 hI _ _ he hth (by omega)) rfl dX12_isOut_37 rfl (rf_sh hR1 :).1 (Nat.le_of_ble_eq_true rfl) (Nat.le_of_ble_eq_true rfl) rfl (fun r9 σ9 hp9 => ?_)
          obtain ⟨rfl, hR1⟩ := hp9
          refine ZV_istore_4 (n := 42) dX12_isOut_40 rfl (Nat.le_of_ble_eq_true rfl) rfl ?_
          refine ZV_iload (n := 44) dX12_isOut_42 rfl rfl ?_
          refine ZV_aload_n (n := 45) dX12_isOut_44 rfl rfl rfl ?_
          refine ZV_iload_n (n := 46) dX12_isOut_45 rfl rfl rfl ?_
          refine call_X12_178 (c_leastOfW hR1 hI _ hpk) rfl dX12_isOut_46 rfl (rf_sh hR1 :).1 (Nat.le_of_ble_eq_true rfl) (Nat.le_of_ble_eq_true rfl) rfl (fun r9 σ9 hp9 => ?_)
          obtain ⟨rfl, hR1⟩ := hp9
          refine ZV_icmp_lt (tgt := 61) (n := 52) dX12_isOut_49 (by decide) rfl (fun h49 => ?_) (fun h49 => ?_)
          · skip
            refine ZV_iconst (v := nI 1) (n := 62) dX12_isOut_61 rfl rfl ?_
            refine ZV_zret dX12_isOut_62 rfl (by first | exact Or.inl rfl | exact Or.inr rfl) ?_
            rw [ouF, if_pos (by first | exact Or.inl h49 | exact Or.inr h58)] at hz
            subst hz
            exact ⟨rfl, hR1⟩
          · skip
            refine ZV_iload (n := 54) dX12_isOut_52 rfl rfl ?_
            refine ZV_iload_n (n := 55) dX12_isOut_54 rfl rfl rfl ?_
            refine call_X12_181 (c_mostOf _ hpk) rfl dX12_isOut_55 (Nat.le_of_ble_eq_true rfl) (Nat.le_of_ble_eq_true rfl) rfl (fun r9 σ9 hp9 => ?_)
            obtain ⟨rfl, rfl⟩ := hp9
            refine ZV_icmp_le (tgt := 63) (n := 61) dX12_isOut_58 (by decide) rfl (fun h58 => ?_) (fun h58 => ?_)
            · skip
              refine ZV_iincN_3 (v := 1) (n := 66) dX12_isOut_63 rfl rfl (Nat.le_of_ble_eq_true rfl) rfl ?_
              refine ZV_goto (tgt := 16) dX12_isOut_66 (by decide) ?_
              refine ZV_fg_4 ?_
              exact ih k (i + 1) _ _ (by omega) (by omega) hR1 (by rw [← hz, ouF, if_neg (fun z => z.elim h49 (fun z => z h58))])
            · skip
              refine ZV_iconst (v := nI 1) (n := 62) dX12_isOut_61 rfl rfl ?_
              refine ZV_zret dX12_isOut_62 rfl (by first | exact Or.inl rfl | exact Or.inr rfl) ?_
              rw [ouF, if_pos (by first | exact Or.inl h49 | exact Or.inr h58)] at hz
              subst hz
              exact ⟨rfl, hR1⟩
  exact loop _ _ 0 (g_tr T) _ (Nat.lt_succ_self _) (Nat.zero_add _) hR hZ0
