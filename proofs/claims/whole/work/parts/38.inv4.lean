theorem tw_np (T : TS) (v a b n m u : Nat) : g_np (tupT T v a b n m u) = g_np T := by unfold tupT; simp only [gh_np_tu, gh_np_tm, gh_np_tn, gh_np_tl, gh_np_tf, gh_np_tv, gh_np_tt, gh_np_cu, gh_np_te]
theorem tw_pk (T : TS) (v a b n m u : Nat) : g_pk (tupT T v a b n m u) = g_pk T := by unfold tupT; simp only [gh_pk_tu, gh_pk_tm, gh_pk_tn, gh_pk_tl, gh_pk_tf, gh_pk_tv, gh_pk_tt, gh_pk_cu, gh_pk_te]
theorem tw_nb (T : TS) (v a b n m u : Nat) : g_nb (tupT T v a b n m u) = g_nb T := by unfold tupT; simp only [gh_nb_tu, gh_nb_tm, gh_nb_tn, gh_nb_tl, gh_nb_tf, gh_nb_tv, gh_nb_tt, gh_nb_cu, gh_nb_te]
theorem tw_bt (T : TS) (v a b n m u : Nat) : g_bt (tupT T v a b n m u) = g_bt T := by unfold tupT; simp only [gh_bt_tu, gh_bt_tm, gh_bt_tn, gh_bt_tl, gh_bt_tf, gh_bt_tv, gh_bt_tt, gh_bt_cu, gh_bt_te]
theorem tw_ev (T : TS) (v a b n m u : Nat) : g_ev (tupT T v a b n m u) = g_ev T := by unfold tupT; simp only [gh_ev_tu, gh_ev_tm, gh_ev_tn, gh_ev_tl, gh_ev_tf, gh_ev_tv, gh_ev_tt, gh_ev_cu, gh_ev_te]
theorem tw_ct (T : TS) (v a b n m u : Nat) : g_ct (tupT T v a b n m u) = g_ct T := by unfold tupT; simp only [gh_ct_tu, gh_ct_tm, gh_ct_tn, gh_ct_tl, gh_ct_tf, gh_ct_tv, gh_ct_tt, gh_ct_cu, gh_ct_te]
theorem tw_th (T : TS) (v a b n m u : Nat) : g_th (tupT T v a b n m u) = g_th T := by unfold tupT; simp only [gh_th_tu, gh_th_tm, gh_th_tn, gh_th_tl, gh_th_tf, gh_th_tv, gh_th_tt, gh_th_cu, gh_th_te]
theorem tw_vo (T : TS) (v a b n m u : Nat) : g_vo (tupT T v a b n m u) = g_vo T := by unfold tupT; simp only [gh_vo_tu, gh_vo_tm, gh_vo_tn, gh_vo_tl, gh_vo_tf, gh_vo_tv, gh_vo_tt, gh_vo_cu, gh_vo_te]
theorem tw_kd (T : TS) (v a b n m u : Nat) : g_kd (tupT T v a b n m u) = g_kd T := by unfold tupT; simp only [gh_kd_tu, gh_kd_tm, gh_kd_tn, gh_kd_tl, gh_kd_tf, gh_kd_tv, gh_kd_tt, gh_kd_cu, gh_kd_te]
theorem tw_pn (T : TS) (v a b n m u : Nat) : g_pn (tupT T v a b n m u) = g_pn T := by unfold tupT; simp only [gh_pn_tu, gh_pn_tm, gh_pn_tn, gh_pn_tl, gh_pn_tf, gh_pn_tv, gh_pn_tt, gh_pn_cu, gh_pn_te]
theorem tw_pi (T : TS) (v a b n m u : Nat) : g_pi (tupT T v a b n m u) = g_pi T := by unfold tupT; simp only [gh_pi_tu, gh_pi_tm, gh_pi_tn, gh_pi_tl, gh_pi_tf, gh_pi_tv, gh_pi_tt, gh_pi_cu, gh_pi_te]
theorem tw_va (T : TS) (v a b n m u : Nat) : g_va (tupT T v a b n m u) = g_va T := by unfold tupT; simp only [gh_va_tu, gh_va_tm, gh_va_tn, gh_va_tl, gh_va_tf, gh_va_tv, gh_va_tt, gh_va_cu, gh_va_te]
theorem tw_dt (T : TS) (v a b n m u : Nat) : g_dt (tupT T v a b n m u) = g_dt T := by unfold tupT; simp only [gh_dt_tu, gh_dt_tm, gh_dt_tn, gh_dt_tl, gh_dt_tf, gh_dt_tv, gh_dt_tt, gh_dt_cu, gh_dt_te]
theorem tw_ti (T : TS) (v a b n m u : Nat) : g_ti (tupT T v a b n m u) = g_ti T := by unfold tupT; simp only [gh_ti_tu, gh_ti_tm, gh_ti_tn, gh_ti_tl, gh_ti_tf, gh_ti_tv, gh_ti_tt, gh_ti_cu, gh_ti_te]
theorem tw_mn (T : TS) (v a b n m u : Nat) : g_mn (tupT T v a b n m u) = g_mn T := by unfold tupT; simp only [gh_mn_tu, gh_mn_tm, gh_mn_tn, gh_mn_tl, gh_mn_tf, gh_mn_tv, gh_mn_tt, gh_mn_cu, gh_mn_te]
theorem tw_ro (T : TS) (v a b n m u : Nat) : g_ro (tupT T v a b n m u) = g_ro T := by unfold tupT; simp only [gh_ro_tu, gh_ro_tm, gh_ro_tn, gh_ro_tl, gh_ro_tf, gh_ro_tv, gh_ro_tt, gh_ro_cu, gh_ro_te]
theorem tw_te (T : TS) (v a b n m u : Nat) : g_te (tupT T v a b n m u) = g_te T + 1 := by unfold tupT; simp only [gh_te_tu, gh_te_tm, gh_te_tn, gh_te_tl, gh_te_tf, gh_te_tv, gh_te_tt, gh_te_cu, gh_te_te]
theorem tw_cu (T : TS) (v a b n m u : Nat) : g_cu (tupT T v a b n m u) = g_cu T + 1 := by unfold tupT; simp only [gh_cu_tu, gh_cu_tm, gh_cu_tn, gh_cu_tl, gh_cu_tf, gh_cu_tv, gh_cu_tt, gh_cu_cu, gh_cu_te]
theorem tw_tt (T : TS) (v a b n m u : Nat) : g_tt (tupT T v a b n m u) = va_up (g_tt T) (g_te T) true := by unfold tupT; simp only [gh_tt_tu, gh_tt_tm, gh_tt_tn, gh_tt_tl, gh_tt_tf, gh_tt_tv, gh_tt_tt, gh_tt_cu, gh_tt_te]
theorem tw_tv (T : TS) (v a b n m u : Nat) : g_tv (tupT T v a b n m u) = va_up (g_tv T) (g_te T) v := by unfold tupT; simp only [gh_tv_tu, gh_tv_tm, gh_tv_tn, gh_tv_tl, gh_tv_tf, gh_tv_tv, gh_tv_tt, gh_tv_cu, gh_tv_te]
theorem tw_tf (T : TS) (v a b n m u : Nat) : g_tf (tupT T v a b n m u) = va_up (g_tf T) (g_te T) (g_ro T v a) := by unfold tupT; simp only [gh_tf_tu, gh_tf_tm, gh_tf_tn, gh_tf_tl, gh_tf_tf, gh_tf_tv, gh_tf_tt, gh_tf_cu, gh_tf_te]
theorem tw_tl (T : TS) (v a b n m u : Nat) : g_tl (tupT T v a b n m u) = va_up (g_tl T) (g_te T) (g_ro T v b) := by unfold tupT; simp only [gh_tl_tu, gh_tl_tm, gh_tl_tn, gh_tl_tl, gh_tl_tf, gh_tl_tv, gh_tl_tt, gh_tl_cu, gh_tl_te]
theorem tw_tn (T : TS) (v a b n m u : Nat) : g_tn (tupT T v a b n m u) = va_up (g_tn T) (g_te T) n := by unfold tupT; simp only [gh_tn_tu, gh_tn_tm, gh_tn_tn, gh_tn_tl, gh_tn_tf, gh_tn_tv, gh_tn_tt, gh_tn_cu, gh_tn_te]
theorem tw_tm (T : TS) (v a b n m u : Nat) : g_tm (tupT T v a b n m u) = va_up (g_tm T) (g_te T) m := by unfold tupT; simp only [gh_tm_tu, gh_tm_tm, gh_tm_tn, gh_tm_tl, gh_tm_tf, gh_tm_tv, gh_tm_tt, gh_tm_cu, gh_tm_te]
theorem tw_tu (T : TS) (v a b n m u : Nat) : g_tu (tupT T v a b n m u) = va_up (g_tu T) (g_te T) u := by unfold tupT; simp only [gh_tu_tu, gh_tu_tm, gh_tu_tn, gh_tu_tl, gh_tu_tf, gh_tu_tv, gh_tu_tt, gh_tu_cu, gh_tu_te]
theorem tw_le (T : TS) (v a b n m u : Nat) : g_le (tupT T v a b n m u) = g_le T := by unfold tupT; simp only [gh_le_tu, gh_le_tm, gh_le_tn, gh_le_tl, gh_le_tf, gh_le_tv, gh_le_tt, gh_le_cu, gh_le_te]
theorem tw_cl (T : TS) (v a b n m u : Nat) : g_cl (tupT T v a b n m u) = g_cl T := by unfold tupT; simp only [gh_cl_tu, gh_cl_tm, gh_cl_tn, gh_cl_tl, gh_cl_tf, gh_cl_tv, gh_cl_tt, gh_cl_cu, gh_cl_te]
theorem tw_lt (T : TS) (v a b n m u : Nat) : g_lt (tupT T v a b n m u) = g_lt T := by unfold tupT; simp only [gh_lt_tu, gh_lt_tm, gh_lt_tn, gh_lt_tl, gh_lt_tf, gh_lt_tv, gh_lt_tt, gh_lt_cu, gh_lt_te]
theorem tw_lk (T : TS) (v a b n m u : Nat) : g_lk (tupT T v a b n m u) = g_lk T := by unfold tupT; simp only [gh_lk_tu, gh_lk_tm, gh_lk_tn, gh_lk_tl, gh_lk_tf, gh_lk_tv, gh_lk_tt, gh_lk_cu, gh_lk_te]
theorem tw_lf (T : TS) (v a b n m u : Nat) : g_lf (tupT T v a b n m u) = g_lf T := by unfold tupT; simp only [gh_lf_tu, gh_lf_tm, gh_lf_tn, gh_lf_tl, gh_lf_tf, gh_lf_tv, gh_lf_tt, gh_lf_cu, gh_lf_te]
theorem tw_lo (T : TS) (v a b n m u : Nat) : g_lo (tupT T v a b n m u) = g_lo T := by unfold tupT; simp only [gh_lo_tu, gh_lo_tm, gh_lo_tn, gh_lo_tl, gh_lo_tf, gh_lo_tv, gh_lo_tt, gh_lo_cu, gh_lo_te]
theorem tw_wm (T : TS) (v a b n m u : Nat) : g_wm (tupT T v a b n m u) = g_wm T := by unfold tupT; simp only [gh_wm_tu, gh_wm_tm, gh_wm_tn, gh_wm_tl, gh_wm_tf, gh_wm_tv, gh_wm_tt, gh_wm_cu, gh_wm_te]
theorem tw_wr (T : TS) (v a b n m u : Nat) : g_wr (tupT T v a b n m u) = g_wr T := by unfold tupT; simp only [gh_wr_tu, gh_wr_tm, gh_wr_tn, gh_wr_tl, gh_wr_tf, gh_wr_tv, gh_wr_tt, gh_wr_cu, gh_wr_te]
theorem tw_fo (T : TS) (v a b n m u : Nat) : g_fo (tupT T v a b n m u) = g_fo T := by unfold tupT; simp only [gh_fo_tu, gh_fo_tm, gh_fo_tn, gh_fo_tl, gh_fo_tf, gh_fo_tv, gh_fo_tt, gh_fo_cu, gh_fo_te]
theorem tw_fi (T : TS) (v a b n m u : Nat) : g_fi (tupT T v a b n m u) = g_fi T := by unfold tupT; simp only [gh_fi_tu, gh_fi_tm, gh_fi_tn, gh_fi_tl, gh_fi_tf, gh_fi_tv, gh_fi_tt, gh_fi_cu, gh_fi_te]
theorem tw_hr (T : TS) (v a b n m u : Nat) : g_hr (tupT T v a b n m u) = g_hr T := by unfold tupT; simp only [gh_hr_tu, gh_hr_tm, gh_hr_tn, gh_hr_tl, gh_hr_tf, gh_hr_tv, gh_hr_tt, gh_hr_cu, gh_hr_te]
theorem tw_rk (T : TS) (v a b n m u : Nat) : g_rk (tupT T v a b n m u) = g_rk T := by unfold tupT; simp only [gh_rk_tu, gh_rk_tm, gh_rk_tn, gh_rk_tl, gh_rk_tf, gh_rk_tv, gh_rk_tt, gh_rk_cu, gh_rk_te]
theorem tw_rs (T : TS) (v a b n m u : Nat) : g_rs (tupT T v a b n m u) = g_rs T := by unfold tupT; simp only [gh_rs_tu, gh_rs_tm, gh_rs_tn, gh_rs_tl, gh_rs_tf, gh_rs_tv, gh_rs_tt, gh_rs_cu, gh_rs_te]
theorem tw_rr (T : TS) (v a b n m u : Nat) : g_rr (tupT T v a b n m u) = g_rr T := by unfold tupT; simp only [gh_rr_tu, gh_rr_tm, gh_rr_tn, gh_rr_tl, gh_rr_tf, gh_rr_tv, gh_rr_tt, gh_rr_cu, gh_rr_te]
theorem tw_hs (T : TS) (v a b n m u : Nat) : g_hs (tupT T v a b n m u) = g_hs T := by unfold tupT; simp only [gh_hs_tu, gh_hs_tm, gh_hs_tn, gh_hs_tl, gh_hs_tf, gh_hs_tv, gh_hs_tt, gh_hs_cu, gh_hs_te]
theorem tw_sk (T : TS) (v a b n m u : Nat) : g_sk (tupT T v a b n m u) = g_sk T := by unfold tupT; simp only [gh_sk_tu, gh_sk_tm, gh_sk_tn, gh_sk_tl, gh_sk_tf, gh_sk_tv, gh_sk_tt, gh_sk_cu, gh_sk_te]
theorem tw_ss (T : TS) (v a b n m u : Nat) : g_ss (tupT T v a b n m u) = g_ss T := by unfold tupT; simp only [gh_ss_tu, gh_ss_tm, gh_ss_tn, gh_ss_tl, gh_ss_tf, gh_ss_tv, gh_ss_tt, gh_ss_cu, gh_ss_te]
theorem tw_sr (T : TS) (v a b n m u : Nat) : g_sr (tupT T v a b n m u) = g_sr T := by unfold tupT; simp only [gh_sr_tu, gh_sr_tm, gh_sr_tn, gh_sr_tl, gh_sr_tf, gh_sr_tv, gh_sr_tt, gh_sr_cu, gh_sr_te]
theorem tw_fa (T : TS) (v a b n m u : Nat) : g_fa (tupT T v a b n m u) = g_fa T := by unfold tupT; simp only [gh_fa_tu, gh_fa_tm, gh_fa_tn, gh_fa_tl, gh_fa_tf, gh_fa_tv, gh_fa_tt, gh_fa_cu, gh_fa_te]
theorem tw_su (T : TS) (v a b n m u : Nat) : g_su (tupT T v a b n m u) = g_su T := by unfold tupT; simp only [gh_su_tu, gh_su_tm, gh_su_tn, gh_su_tl, gh_su_tf, gh_su_tv, gh_su_tt, gh_su_cu, gh_su_te]
theorem tw_tr (T : TS) (v a b n m u : Nat) : g_tr (tupT T v a b n m u) = g_tr T := by unfold tupT; simp only [gh_tr_tu, gh_tr_tm, gh_tr_tn, gh_tr_tl, gh_tr_tf, gh_tr_tv, gh_tr_tt, gh_tr_cu, gh_tr_te]
theorem tw_pl (T : TS) (v a b n m u : Nat) : g_pl (tupT T v a b n m u) = g_pl T := by unfold tupT; simp only [gh_pl_tu, gh_pl_tm, gh_pl_tn, gh_pl_tl, gh_pl_tf, gh_pl_tv, gh_pl_tt, gh_pl_cu, gh_pl_te]
theorem anyF_f {b : Nat → Bool} {n : Nat} (h : anyF b n = false) {i : Nat} (hi : i < n) : b i = false := by
  cases hb : b i with
  | false => rfl
  | true => rw [anyF_t hb n hi] at h; cases h
theorem tI_tup {T : TS} (hI : tI T) {v a b n m u : Nat} (hv : v < 3 * g_np T) (hab : a ≤ b) (hb : b < g_mn T v) (hn : n = 3 ∨ n = 5 ∨ n = 6 ∨ n = 7) (hm : 1 ≤ m ∧ m ≤ 8) (hu : u ≤ 5) (hc : anyF (crB T v a b) (g_te T) = false) (ho : ∀ i, a + i ≤ b → zcnt (liB T (g_ro T v (a + i))) (g_te T) ≤ 1) (hte : g_te T ≠ 20) : tI (tupT T v a b n m u) := by
  have ra := ti_ro hI v a (by have := ti_np hI; omega) (by omega)
  have rb := ti_ro hI v b (by have := ti_np hI; omega) (by omega)
  have hcr : ∀ t, t < g_te T → g_tt T t = true → g_tv T t = v → (g_pl T (g_tl T t) < a ∨ b < g_pl T (g_tf T t)) ∨ (g_pl T (g_tf T t) ≤ a ∧ b ≤ g_pl T (g_tl T t)) ∨ (a ≤ g_pl T (g_tf T t) ∧ g_pl T (g_tl T t) ≤ b) := by
    intro t ht h1 h2
    have h3 := anyF_f hc ht
    unfold crB at h3
    rw [h1, Bool.true_and] at h3
    have h3 := of_decide_eq_false h3
    omega
  exact ⟨(by simp only [tw_np, tw_pk, tw_nb, tw_bt, tw_ev, tw_ct, tw_th, tw_vo, tw_kd, tw_pn, tw_pi, tw_va, tw_dt, tw_ti, tw_mn, tw_ro, tw_te, tw_cu, tw_tt, tw_tv, tw_tf, tw_tl, tw_tn, tw_tm, tw_tu, tw_le, tw_cl, tw_lt, tw_lk, tw_lf, tw_lo, tw_wm, tw_wr, tw_fo, tw_fi, tw_hr, tw_rk, tw_rs, tw_rr, tw_hs, tw_sk, tw_ss, tw_sr, tw_fa, tw_su, tw_tr, tw_pl]; exact ti_ct hI), (by rw [tw_cu, tw_tt, tw_te, zcnt_set, ti_cu hI]), (by simp only [tw_np, tw_pk, tw_nb, tw_bt, tw_ev, tw_ct, tw_th, tw_vo, tw_kd, tw_pn, tw_pi, tw_va, tw_dt, tw_ti, tw_mn, tw_ro, tw_te, tw_cu, tw_tt, tw_tv, tw_tf, tw_tl, tw_tn, tw_tm, tw_tu, tw_le, tw_cl, tw_lt, tw_lk, tw_lf, tw_lo, tw_wm, tw_wr, tw_fo, tw_fi, tw_hr, tw_rk, tw_rs, tw_rr, tw_hs, tw_sk, tw_ss, tw_sr, tw_fa, tw_su, tw_tr, tw_pl]; exact ti_cl hI), (by simp only [tw_np, tw_pk, tw_nb, tw_bt, tw_ev, tw_ct, tw_th, tw_vo, tw_kd, tw_pn, tw_pi, tw_va, tw_dt, tw_ti, tw_mn, tw_ro, tw_te, tw_cu, tw_tt, tw_tv, tw_tf, tw_tl, tw_tn, tw_tm, tw_tu, tw_le, tw_cl, tw_lt, tw_lk, tw_lf, tw_lo, tw_wm, tw_wr, tw_fo, tw_fi, tw_hr, tw_rk, tw_rs, tw_rr, tw_hs, tw_sk, tw_ss, tw_sr, tw_fa, tw_su, tw_tr, tw_pl]; exact ti_np hI), (by simp only [tw_np, tw_pk, tw_nb, tw_bt, tw_ev, tw_ct, tw_th, tw_vo, tw_kd, tw_pn, tw_pi, tw_va, tw_dt, tw_ti, tw_mn, tw_ro, tw_te, tw_cu, tw_tt, tw_tv, tw_tf, tw_tl, tw_tn, tw_tm, tw_tu, tw_le, tw_cl, tw_lt, tw_lk, tw_lf, tw_lo, tw_wm, tw_wr, tw_fo, tw_fi, tw_hr, tw_rk, tw_rs, tw_rr, tw_hs, tw_sk, tw_ss, tw_sr, tw_fa, tw_su, tw_tr, tw_pl]; exact ti_pk hI), (by simp only [tw_np, tw_pk, tw_nb, tw_bt, tw_ev, tw_ct, tw_th, tw_vo, tw_kd, tw_pn, tw_pi, tw_va, tw_dt, tw_ti, tw_mn, tw_ro, tw_te, tw_cu, tw_tt, tw_tv, tw_tf, tw_tl, tw_tn, tw_tm, tw_tu, tw_le, tw_cl, tw_lt, tw_lk, tw_lf, tw_lo, tw_wm, tw_wr, tw_fo, tw_fi, tw_hr, tw_rk, tw_rs, tw_rr, tw_hs, tw_sk, tw_ss, tw_sr, tw_fa, tw_su, tw_tr, tw_pl]; exact ti_nb hI), (by simp only [tw_np, tw_pk, tw_nb, tw_bt, tw_ev, tw_ct, tw_th, tw_vo, tw_kd, tw_pn, tw_pi, tw_va, tw_dt, tw_ti, tw_mn, tw_ro, tw_te, tw_cu, tw_tt, tw_tv, tw_tf, tw_tl, tw_tn, tw_tm, tw_tu, tw_le, tw_cl, tw_lt, tw_lk, tw_lf, tw_lo, tw_wm, tw_wr, tw_fo, tw_fi, tw_hr, tw_rk, tw_rs, tw_rr, tw_hs, tw_sk, tw_ss, tw_sr, tw_fa, tw_su, tw_tr, tw_pl]; exact ti_bt hI), (by simp only [tw_np, tw_pk, tw_nb, tw_bt, tw_ev, tw_ct, tw_th, tw_vo, tw_kd, tw_pn, tw_pi, tw_va, tw_dt, tw_ti, tw_mn, tw_ro, tw_te, tw_cu, tw_tt, tw_tv, tw_tf, tw_tl, tw_tn, tw_tm, tw_tu, tw_le, tw_cl, tw_lt, tw_lk, tw_lf, tw_lo, tw_wm, tw_wr, tw_fo, tw_fi, tw_hr, tw_rk, tw_rs, tw_rr, tw_hs, tw_sk, tw_ss, tw_sr, tw_fa, tw_su, tw_tr, tw_pl]; exact ti_ev hI), (by simp only [tw_np, tw_pk, tw_nb, tw_bt, tw_ev, tw_ct, tw_th, tw_vo, tw_kd, tw_pn, tw_pi, tw_va, tw_dt, tw_ti, tw_mn, tw_ro, tw_te, tw_cu, tw_tt, tw_tv, tw_tf, tw_tl, tw_tn, tw_tm, tw_tu, tw_le, tw_cl, tw_lt, tw_lk, tw_lf, tw_lo, tw_wm, tw_wr, tw_fo, tw_fi, tw_hr, tw_rk, tw_rs, tw_rr, tw_hs, tw_sk, tw_ss, tw_sr, tw_fa, tw_su, tw_tr, tw_pl]; exact ti_vo hI), (by simp only [tw_np, tw_pk, tw_nb, tw_bt, tw_ev, tw_ct, tw_th, tw_vo, tw_kd, tw_pn, tw_pi, tw_va, tw_dt, tw_ti, tw_mn, tw_ro, tw_te, tw_cu, tw_tt, tw_tv, tw_tf, tw_tl, tw_tn, tw_tm, tw_tu, tw_le, tw_cl, tw_lt, tw_lk, tw_lf, tw_lo, tw_wm, tw_wr, tw_fo, tw_fi, tw_hr, tw_rk, tw_rs, tw_rr, tw_hs, tw_sk, tw_ss, tw_sr, tw_fa, tw_su, tw_tr, tw_pl]; exact ti_kd hI), (by simp only [tw_np, tw_pk, tw_nb, tw_bt, tw_ev, tw_ct, tw_th, tw_vo, tw_kd, tw_pn, tw_pi, tw_va, tw_dt, tw_ti, tw_mn, tw_ro, tw_te, tw_cu, tw_tt, tw_tv, tw_tf, tw_tl, tw_tn, tw_tm, tw_tu, tw_le, tw_cl, tw_lt, tw_lk, tw_lf, tw_lo, tw_wm, tw_wr, tw_fo, tw_fi, tw_hr, tw_rk, tw_rs, tw_rr, tw_hs, tw_sk, tw_ss, tw_sr, tw_fa, tw_su, tw_tr, tw_pl]; exact ti_pn hI), (by simp only [tw_np, tw_pk, tw_nb, tw_bt, tw_ev, tw_ct, tw_th, tw_vo, tw_kd, tw_pn, tw_pi, tw_va, tw_dt, tw_ti, tw_mn, tw_ro, tw_te, tw_cu, tw_tt, tw_tv, tw_tf, tw_tl, tw_tn, tw_tm, tw_tu, tw_le, tw_cl, tw_lt, tw_lk, tw_lf, tw_lo, tw_wm, tw_wr, tw_fo, tw_fi, tw_hr, tw_rk, tw_rs, tw_rr, tw_hs, tw_sk, tw_ss, tw_sr, tw_fa, tw_su, tw_tr, tw_pl]; exact ti_pn1 hI), (by simp only [tw_np, tw_pk, tw_nb, tw_bt, tw_ev, tw_ct, tw_th, tw_vo, tw_kd, tw_pn, tw_pi, tw_va, tw_dt, tw_ti, tw_mn, tw_ro, tw_te, tw_cu, tw_tt, tw_tv, tw_tf, tw_tl, tw_tn, tw_tm, tw_tu, tw_le, tw_cl, tw_lt, tw_lk, tw_lf, tw_lo, tw_wm, tw_wr, tw_fo, tw_fi, tw_hr, tw_rk, tw_rs, tw_rr, tw_hs, tw_sk, tw_ss, tw_sr, tw_fa, tw_su, tw_tr, tw_pl]; exact ti_pn0 hI), (by simp only [tw_np, tw_pk, tw_nb, tw_bt, tw_ev, tw_ct, tw_th, tw_vo, tw_kd, tw_pn, tw_pi, tw_va, tw_dt, tw_ti, tw_mn, tw_ro, tw_te, tw_cu, tw_tt, tw_tv, tw_tf, tw_tl, tw_tn, tw_tm, tw_tu, tw_le, tw_cl, tw_lt, tw_lk, tw_lf, tw_lo, tw_wm, tw_wr, tw_fo, tw_fi, tw_hr, tw_rk, tw_rs, tw_rr, tw_hs, tw_sk, tw_ss, tw_sr, tw_fa, tw_su, tw_tr, tw_pl]; exact ti_pnc hI), (by simp only [tw_np, tw_pk, tw_nb, tw_bt, tw_ev, tw_ct, tw_th, tw_vo, tw_kd, tw_pn, tw_pi, tw_va, tw_dt, tw_ti, tw_mn, tw_ro, tw_te, tw_cu, tw_tt, tw_tv, tw_tf, tw_tl, tw_tn, tw_tm, tw_tu, tw_le, tw_cl, tw_lt, tw_lk, tw_lf, tw_lo, tw_wm, tw_wr, tw_fo, tw_fi, tw_hr, tw_rk, tw_rs, tw_rr, tw_hs, tw_sk, tw_ss, tw_sr, tw_fa, tw_su, tw_tr, tw_pl]; exact ti_pi hI), (by simp only [tw_np, tw_pk, tw_nb, tw_bt, tw_ev, tw_ct, tw_th, tw_vo, tw_kd, tw_pn, tw_pi, tw_va, tw_dt, tw_ti, tw_mn, tw_ro, tw_te, tw_cu, tw_tt, tw_tv, tw_tf, tw_tl, tw_tn, tw_tm, tw_tu, tw_le, tw_cl, tw_lt, tw_lk, tw_lf, tw_lo, tw_wm, tw_wr, tw_fo, tw_fi, tw_hr, tw_rk, tw_rs, tw_rr, tw_hs, tw_sk, tw_ss, tw_sr, tw_fa, tw_su, tw_tr, tw_pl]; exact ti_pim hI), (by simp only [tw_np, tw_pk, tw_nb, tw_bt, tw_ev, tw_ct, tw_th, tw_vo, tw_kd, tw_pn, tw_pi, tw_va, tw_dt, tw_ti, tw_mn, tw_ro, tw_te, tw_cu, tw_tt, tw_tv, tw_tf, tw_tl, tw_tn, tw_tm, tw_tu, tw_le, tw_cl, tw_lt, tw_lk, tw_lf, tw_lo, tw_wm, tw_wr, tw_fo, tw_fi, tw_hr, tw_rk, tw_rs, tw_rr, tw_hs, tw_sk, tw_ss, tw_sr, tw_fa, tw_su, tw_tr, tw_pl]; exact ti_va hI), (by simp only [tw_np, tw_pk, tw_nb, tw_bt, tw_ev, tw_ct, tw_th, tw_vo, tw_kd, tw_pn, tw_pi, tw_va, tw_dt, tw_ti, tw_mn, tw_ro, tw_te, tw_cu, tw_tt, tw_tv, tw_tf, tw_tl, tw_tn, tw_tm, tw_tu, tw_le, tw_cl, tw_lt, tw_lk, tw_lf, tw_lo, tw_wm, tw_wr, tw_fo, tw_fi, tw_hr, tw_rk, tw_rs, tw_rr, tw_hs, tw_sk, tw_ss, tw_sr, tw_fa, tw_su, tw_tr, tw_pl]; exact ti_dt hI), (by simp only [tw_np, tw_pk, tw_nb, tw_bt, tw_ev, tw_ct, tw_th, tw_vo, tw_kd, tw_pn, tw_pi, tw_va, tw_dt, tw_ti, tw_mn, tw_ro, tw_te, tw_cu, tw_tt, tw_tv, tw_tf, tw_tl, tw_tn, tw_tm, tw_tu, tw_le, tw_cl, tw_lt, tw_lk, tw_lf, tw_lo, tw_wm, tw_wr, tw_fo, tw_fi, tw_hr, tw_rk, tw_rs, tw_rr, tw_hs, tw_sk, tw_ss, tw_sr, tw_fa, tw_su, tw_tr, tw_pl]; exact ti_mn hI), (by simp only [tw_np, tw_pk, tw_nb, tw_bt, tw_ev, tw_ct, tw_th, tw_vo, tw_kd, tw_pn, tw_pi, tw_va, tw_dt, tw_ti, tw_mn, tw_ro, tw_te, tw_cu, tw_tt, tw_tv, tw_tf, tw_tl, tw_tn, tw_tm, tw_tu, tw_le, tw_cl, tw_lt, tw_lk, tw_lf, tw_lo, tw_wm, tw_wr, tw_fo, tw_fi, tw_hr, tw_rk, tw_rs, tw_rr, tw_hs, tw_sk, tw_ss, tw_sr, tw_fa, tw_su, tw_tr, tw_pl]; exact ti_mn0 hI), (by simp only [tw_np, tw_pk, tw_nb, tw_bt, tw_ev, tw_ct, tw_th, tw_vo, tw_kd, tw_pn, tw_pi, tw_va, tw_dt, tw_ti, tw_mn, tw_ro, tw_te, tw_cu, tw_tt, tw_tv, tw_tf, tw_tl, tw_tn, tw_tm, tw_tu, tw_le, tw_cl, tw_lt, tw_lk, tw_lf, tw_lo, tw_wm, tw_wr, tw_fo, tw_fi, tw_hr, tw_rk, tw_rs, tw_rr, tw_hs, tw_sk, tw_ss, tw_sr, tw_fa, tw_su, tw_tr, tw_pl]; exact ti_ro hI), (by simp only [tw_np, tw_pk, tw_nb, tw_bt, tw_ev, tw_ct, tw_th, tw_vo, tw_kd, tw_pn, tw_pi, tw_va, tw_dt, tw_ti, tw_mn, tw_ro, tw_te, tw_cu, tw_tt, tw_tv, tw_tf, tw_tl, tw_tn, tw_tm, tw_tu, tw_le, tw_cl, tw_lt, tw_lk, tw_lf, tw_lo, tw_wm, tw_wr, tw_fo, tw_fi, tw_hr, tw_rk, tw_rs, tw_rr, tw_hs, tw_sk, tw_ss, tw_sr, tw_fa, tw_su, tw_tr, tw_pl]; exact ti_pl hI), (by have := ti_te hI; rw [tw_te]; omega), (by
  rw [tw_te, tw_tn]
  intro t ht
  by_cases h : t = g_te T
  · subst h; rw [up_eq]; exact hn
  · rw [up_ne h]; exact ti_tn hI t (by omega)), (by
  rw [tw_te, tw_tm]
  intro t ht
  by_cases h : t = g_te T
  · subst h; rw [up_eq]; exact hm
  · rw [up_ne h]; exact ti_tm hI t (by omega)), (by
  rw [tw_te, tw_tu]
  intro t ht
  by_cases h : t = g_te T
  · subst h; rw [up_eq]; exact hu
  · rw [up_ne h]; exact ti_tu hI t (by omega)), (by
  rw [tw_te, tw_tt, tw_tf, tw_tl, tw_tv, tw_ev, tw_th, tw_vo, tw_pl]
  intro t ht htt
  by_cases h : t = g_te T
  · subst h
    rw [up_eq, up_eq, up_eq]
    exact ⟨ra.1, rb.1, ra.2.1, rb.2.1, ra.2.2.1, rb.2.2.1, by rw [ra.2.2.2, rb.2.2.2]; exact hab⟩
  · rw [up_ne h] at htt
    rw [up_ne h, up_ne h, up_ne h]
    exact ti_tp hI t (by omega) htt), (by
  rw [tw_te, tw_tt, tw_tf, tw_tl, tw_tv, tw_pl]
  intro t s ht hs htt hss hv2
  by_cases h : t = g_te T
  · subst h
    by_cases h2 : s = g_te T
    · subst h2
      omega
    · rw [up_ne h2] at hss hv2
      rw [up_eq] at hv2
      rw [up_eq, up_eq, up_ne h2, up_ne h2, ra.2.2.2, rb.2.2.2]
      have := hcr s (by omega) hss hv2.symm
      omega
  · rw [up_ne h] at htt hv2
    by_cases h2 : s = g_te T
    · subst h2
      rw [up_eq] at hv2
      rw [up_eq, up_eq, up_ne h, up_ne h, ra.2.2.2, rb.2.2.2]
      have := hcr t (by omega) htt hv2
      omega
    · rw [up_ne h2] at hss hv2
      rw [up_ne h, up_ne h2, up_ne h, up_ne h2]
      exact ti_tnest hI t s (by omega) (by omega) htt hss hv2), (by
  rw [tw_te, tw_tt, tw_tf, tw_tl, tw_tv, tw_pl]
  intro w x
  rw [zcnt, up_eq, up_eq, up_eq, up_eq, ra.2.2.2, rb.2.2.2, zcnt_cong (b := fun t => g_tt T t && decide (g_tv T t = w ∧ g_pl T (g_tf T t) ≤ x ∧ x ≤ g_pl T (g_tl T t))) _ (fun t ht => by rw [up_ne (by omega), up_ne (by omega), up_ne (by omega), up_ne (by omega)])]
  have h1 := ti_tover hI w x
  by_cases h : v = w ∧ a ≤ x ∧ x ≤ b
  · obtain ⟨rfl, h2, h3⟩ := h
    have h4 := ho (x - a) (by omega)
    rw [show a + (x - a) = x by omega] at h4
    have h5 := ti_ro hI v x (by have := ti_np hI; omega) (by omega)
    unfold liB at h4
    rw [h5.2.2.1, h5.2.2.2] at h4
    rw [decide_eq_true ⟨rfl, h2, h3⟩]
    simp only [Bool.and_self, ite_true]
    omega
  · rw [decide_eq_false h]
    simp only [Bool.and_false, Bool.false_eq_true, ite_false]
    exact h1), (by simp only [tw_np, tw_pk, tw_nb, tw_bt, tw_ev, tw_ct, tw_th, tw_vo, tw_kd, tw_pn, tw_pi, tw_va, tw_dt, tw_ti, tw_mn, tw_ro, tw_te, tw_cu, tw_tt, tw_tv, tw_tf, tw_tl, tw_tn, tw_tm, tw_tu, tw_le, tw_cl, tw_lt, tw_lk, tw_lf, tw_lo, tw_wm, tw_wr, tw_fo, tw_fi, tw_hr, tw_rk, tw_rs, tw_rr, tw_hs, tw_sk, tw_ss, tw_sr, tw_fa, tw_su, tw_tr, tw_pl]; exact ti_le hI), (by simp only [tw_np, tw_pk, tw_nb, tw_bt, tw_ev, tw_ct, tw_th, tw_vo, tw_kd, tw_pn, tw_pi, tw_va, tw_dt, tw_ti, tw_mn, tw_ro, tw_te, tw_cu, tw_tt, tw_tv, tw_tf, tw_tl, tw_tn, tw_tm, tw_tu, tw_le, tw_cl, tw_lt, tw_lk, tw_lf, tw_lo, tw_wm, tw_wr, tw_fo, tw_fi, tw_hr, tw_rk, tw_rs, tw_rr, tw_hs, tw_sk, tw_ss, tw_sr, tw_fa, tw_su, tw_tr, tw_pl]; exact ti_lk hI), (by simp only [tw_np, tw_pk, tw_nb, tw_bt, tw_ev, tw_ct, tw_th, tw_vo, tw_kd, tw_pn, tw_pi, tw_va, tw_dt, tw_ti, tw_mn, tw_ro, tw_te, tw_cu, tw_tt, tw_tv, tw_tf, tw_tl, tw_tn, tw_tm, tw_tu, tw_le, tw_cl, tw_lt, tw_lk, tw_lf, tw_lo, tw_wm, tw_wr, tw_fo, tw_fi, tw_hr, tw_rk, tw_rs, tw_rr, tw_hs, tw_sk, tw_ss, tw_sr, tw_fa, tw_su, tw_tr, tw_pl]; exact ti_lf hI), (by simp only [tw_np, tw_pk, tw_nb, tw_bt, tw_ev, tw_ct, tw_th, tw_vo, tw_kd, tw_pn, tw_pi, tw_va, tw_dt, tw_ti, tw_mn, tw_ro, tw_te, tw_cu, tw_tt, tw_tv, tw_tf, tw_tl, tw_tn, tw_tm, tw_tu, tw_le, tw_cl, tw_lt, tw_lk, tw_lf, tw_lo, tw_wm, tw_wr, tw_fo, tw_fi, tw_hr, tw_rk, tw_rs, tw_rr, tw_hs, tw_sk, tw_ss, tw_sr, tw_fa, tw_su, tw_tr, tw_pl]; exact ti_lo hI), (by simp only [tw_np, tw_pk, tw_nb, tw_bt, tw_ev, tw_ct, tw_th, tw_vo, tw_kd, tw_pn, tw_pi, tw_va, tw_dt, tw_ti, tw_mn, tw_ro, tw_te, tw_cu, tw_tt, tw_tv, tw_tf, tw_tl, tw_tn, tw_tm, tw_tu, tw_le, tw_cl, tw_lt, tw_lk, tw_lf, tw_lo, tw_wm, tw_wr, tw_fo, tw_fi, tw_hr, tw_rk, tw_rs, tw_rr, tw_hs, tw_sk, tw_ss, tw_sr, tw_fa, tw_su, tw_tr, tw_pl]; exact ti_wm hI), (by simp only [tw_np, tw_pk, tw_nb, tw_bt, tw_ev, tw_ct, tw_th, tw_vo, tw_kd, tw_pn, tw_pi, tw_va, tw_dt, tw_ti, tw_mn, tw_ro, tw_te, tw_cu, tw_tt, tw_tv, tw_tf, tw_tl, tw_tn, tw_tm, tw_tu, tw_le, tw_cl, tw_lt, tw_lk, tw_lf, tw_lo, tw_wm, tw_wr, tw_fo, tw_fi, tw_hr, tw_rk, tw_rs, tw_rr, tw_hs, tw_sk, tw_ss, tw_sr, tw_fa, tw_su, tw_tr, tw_pl]; exact ti_fo hI), (by simp only [tw_np, tw_pk, tw_nb, tw_bt, tw_ev, tw_ct, tw_th, tw_vo, tw_kd, tw_pn, tw_pi, tw_va, tw_dt, tw_ti, tw_mn, tw_ro, tw_te, tw_cu, tw_tt, tw_tv, tw_tf, tw_tl, tw_tn, tw_tm, tw_tu, tw_le, tw_cl, tw_lt, tw_lk, tw_lf, tw_lo, tw_wm, tw_wr, tw_fo, tw_fi, tw_hr, tw_rk, tw_rs, tw_rr, tw_hs, tw_sk, tw_ss, tw_sr, tw_fa, tw_su, tw_tr, tw_pl]; exact ti_rk hI), (by simp only [tw_np, tw_pk, tw_nb, tw_bt, tw_ev, tw_ct, tw_th, tw_vo, tw_kd, tw_pn, tw_pi, tw_va, tw_dt, tw_ti, tw_mn, tw_ro, tw_te, tw_cu, tw_tt, tw_tv, tw_tf, tw_tl, tw_tn, tw_tm, tw_tu, tw_le, tw_cl, tw_lt, tw_lk, tw_lf, tw_lo, tw_wm, tw_wr, tw_fo, tw_fi, tw_hr, tw_rk, tw_rs, tw_rr, tw_hs, tw_sk, tw_ss, tw_sr, tw_fa, tw_su, tw_tr, tw_pl]; exact ti_rr hI), (by simp only [tw_np, tw_pk, tw_nb, tw_bt, tw_ev, tw_ct, tw_th, tw_vo, tw_kd, tw_pn, tw_pi, tw_va, tw_dt, tw_ti, tw_mn, tw_ro, tw_te, tw_cu, tw_tt, tw_tv, tw_tf, tw_tl, tw_tn, tw_tm, tw_tu, tw_le, tw_cl, tw_lt, tw_lk, tw_lf, tw_lo, tw_wm, tw_wr, tw_fo, tw_fi, tw_hr, tw_rk, tw_rs, tw_rr, tw_hs, tw_sk, tw_ss, tw_sr, tw_fa, tw_su, tw_tr, tw_pl]; exact ti_sk hI), (by simp only [tw_np, tw_pk, tw_nb, tw_bt, tw_ev, tw_ct, tw_th, tw_vo, tw_kd, tw_pn, tw_pi, tw_va, tw_dt, tw_ti, tw_mn, tw_ro, tw_te, tw_cu, tw_tt, tw_tv, tw_tf, tw_tl, tw_tn, tw_tm, tw_tu, tw_le, tw_cl, tw_lt, tw_lk, tw_lf, tw_lo, tw_wm, tw_wr, tw_fo, tw_fi, tw_hr, tw_rk, tw_rs, tw_rr, tw_hs, tw_sk, tw_ss, tw_sr, tw_fa, tw_su, tw_tr, tw_pl]; exact ti_tied hI), (by simp only [tw_np, tw_pk, tw_nb, tw_bt, tw_ev, tw_ct, tw_th, tw_vo, tw_kd, tw_pn, tw_pi, tw_va, tw_dt, tw_ti, tw_mn, tw_ro, tw_te, tw_cu, tw_tt, tw_tv, tw_tf, tw_tl, tw_tn, tw_tm, tw_tu, tw_le, tw_cl, tw_lt, tw_lk, tw_lf, tw_lo, tw_wm, tw_wr, tw_fo, tw_fi, tw_hr, tw_rk, tw_rs, tw_rr, tw_hs, tw_sk, tw_ss, tw_sr, tw_fa, tw_su, tw_tr, tw_pl]; exact ti_sm hI), (by simp only [tw_np, tw_pk, tw_nb, tw_bt, tw_ev, tw_ct, tw_th, tw_vo, tw_kd, tw_pn, tw_pi, tw_va, tw_dt, tw_ti, tw_mn, tw_ro, tw_te, tw_cu, tw_tt, tw_tv, tw_tf, tw_tl, tw_tn, tw_tm, tw_tu, tw_le, tw_cl, tw_lt, tw_lk, tw_lf, tw_lo, tw_wm, tw_wr, tw_fo, tw_fi, tw_hr, tw_rk, tw_rs, tw_rr, tw_hs, tw_sk, tw_ss, tw_sr, tw_fa, tw_su, tw_tr, tw_pl]; exact ti_rrb hI)⟩
theorem ki_tuplet {T : TS} (hI : tI T) (v a k n m u : Int32) : tI (sp_tuplet T v a k n m u).2 := by
  unfold sp_tuplet
  split
  · next h =>
    obtain ⟨h1, h2, h3, h4, h5⟩ := h
    split
    · exact tI_no hI _
    · next h6 =>
      split
      · exact tI_no hI _
      · next h7 =>
        obtain ⟨j, e, hj⟩ := isN_t h3
        obtain ⟨i, hi, e2⟩ := inR_t (by decide) h4
        obtain ⟨a2, k2, q1, q2, q3, rfl, rfl⟩ := tuA_t h2
        subst e e2
        rw [nI_clamp q2, nI_clamp q3] at h6 ⊢
        rw [nI_clamp (show j < 2147483648 by omega), nI_clamp (show i < 2147483648 by omega)]
        have h8 := clamp_nI h5
        refine tI_ok (tI_tup hI (clamp_nI h1) (by omega) (by omega) hj hi (by omega) ?_ ?_ h7) _
        · cases hz : anyF (crB T v.toNatClampNeg a2 (a2 + (k2 + 1) - 1)) (g_te T) with
          | false => rfl
          | true => exact absurd (Or.inl hz) h6
        · intro i2 hi2
          have hz : anyF (ovB T v.toNatClampNeg a2) (k2 + 1) = false := by
            cases hz : anyF (ovB T v.toNatClampNeg a2) (k2 + 1) with
            | false => rfl
            | true => exact absurd (Or.inr hz) h6
          have := of_decide_eq_false (anyF_f hz (show i2 < k2 + 1 by omega))
          omega
  · exact tI_no hI _
theorem dp_np (T : TS) (e : Nat) : g_np (dropT T e) = g_np T := by unfold dropT dT2 lT dT1 bT; simp only [gh_np_pl, gh_np_ct, gh_np_th, gh_np_mn, gh_np_ro, gh_np_rr, gh_np_cl, gh_np_lo, gh_np_lt, gh_np_cu, gh_np_tl, gh_np_tf, gh_np_tt]
theorem dp_pk (T : TS) (e : Nat) : g_pk (dropT T e) = g_pk T := by unfold dropT dT2 lT dT1 bT; simp only [gh_pk_pl, gh_pk_ct, gh_pk_th, gh_pk_mn, gh_pk_ro, gh_pk_rr, gh_pk_cl, gh_pk_lo, gh_pk_lt, gh_pk_cu, gh_pk_tl, gh_pk_tf, gh_pk_tt]
theorem dp_nb (T : TS) (e : Nat) : g_nb (dropT T e) = g_nb T := by unfold dropT dT2 lT dT1 bT; simp only [gh_nb_pl, gh_nb_ct, gh_nb_th, gh_nb_mn, gh_nb_ro, gh_nb_rr, gh_nb_cl, gh_nb_lo, gh_nb_lt, gh_nb_cu, gh_nb_tl, gh_nb_tf, gh_nb_tt]
theorem dp_bt (T : TS) (e : Nat) : g_bt (dropT T e) = g_bt T := by unfold dropT dT2 lT dT1 bT; simp only [gh_bt_pl, gh_bt_ct, gh_bt_th, gh_bt_mn, gh_bt_ro, gh_bt_rr, gh_bt_cl, gh_bt_lo, gh_bt_lt, gh_bt_cu, gh_bt_tl, gh_bt_tf, gh_bt_tt]
theorem dp_ev (T : TS) (e : Nat) : g_ev (dropT T e) = g_ev T := by unfold dropT dT2 lT dT1 bT; simp only [gh_ev_pl, gh_ev_ct, gh_ev_th, gh_ev_mn, gh_ev_ro, gh_ev_rr, gh_ev_cl, gh_ev_lo, gh_ev_lt, gh_ev_cu, gh_ev_tl, gh_ev_tf, gh_ev_tt]
theorem dp_ct (T : TS) (e : Nat) : g_ct (dropT T e) = g_ct T - 1 := by unfold dropT dT2 lT dT1 bT; simp only [gh_ct_pl, gh_ct_ct, gh_ct_th, gh_ct_mn, gh_ct_ro, gh_ct_rr, gh_ct_cl, gh_ct_lo, gh_ct_lt, gh_ct_cu, gh_ct_tl, gh_ct_tf, gh_ct_tt]
theorem dp_th (T : TS) (e : Nat) : g_th (dropT T e) = va_up (g_th T) e false := by unfold dropT dT2 lT dT1 bT; simp only [gh_th_pl, gh_th_ct, gh_th_th, gh_th_mn, gh_th_ro, gh_th_rr, gh_th_cl, gh_th_lo, gh_th_lt, gh_th_cu, gh_th_tl, gh_th_tf, gh_th_tt]
theorem dp_vo (T : TS) (e : Nat) : g_vo (dropT T e) = g_vo T := by unfold dropT dT2 lT dT1 bT; simp only [gh_vo_pl, gh_vo_ct, gh_vo_th, gh_vo_mn, gh_vo_ro, gh_vo_rr, gh_vo_cl, gh_vo_lo, gh_vo_lt, gh_vo_cu, gh_vo_tl, gh_vo_tf, gh_vo_tt]
theorem dp_kd (T : TS) (e : Nat) : g_kd (dropT T e) = g_kd T := by unfold dropT dT2 lT dT1 bT; simp only [gh_kd_pl, gh_kd_ct, gh_kd_th, gh_kd_mn, gh_kd_ro, gh_kd_rr, gh_kd_cl, gh_kd_lo, gh_kd_lt, gh_kd_cu, gh_kd_tl, gh_kd_tf, gh_kd_tt]
theorem dp_pn (T : TS) (e : Nat) : g_pn (dropT T e) = g_pn T := by unfold dropT dT2 lT dT1 bT; simp only [gh_pn_pl, gh_pn_ct, gh_pn_th, gh_pn_mn, gh_pn_ro, gh_pn_rr, gh_pn_cl, gh_pn_lo, gh_pn_lt, gh_pn_cu, gh_pn_tl, gh_pn_tf, gh_pn_tt]
theorem dp_pi (T : TS) (e : Nat) : g_pi (dropT T e) = g_pi T := by unfold dropT dT2 lT dT1 bT; simp only [gh_pi_pl, gh_pi_ct, gh_pi_th, gh_pi_mn, gh_pi_ro, gh_pi_rr, gh_pi_cl, gh_pi_lo, gh_pi_lt, gh_pi_cu, gh_pi_tl, gh_pi_tf, gh_pi_tt]
theorem dp_va (T : TS) (e : Nat) : g_va (dropT T e) = g_va T := by unfold dropT dT2 lT dT1 bT; simp only [gh_va_pl, gh_va_ct, gh_va_th, gh_va_mn, gh_va_ro, gh_va_rr, gh_va_cl, gh_va_lo, gh_va_lt, gh_va_cu, gh_va_tl, gh_va_tf, gh_va_tt]
theorem dp_dt (T : TS) (e : Nat) : g_dt (dropT T e) = g_dt T := by unfold dropT dT2 lT dT1 bT; simp only [gh_dt_pl, gh_dt_ct, gh_dt_th, gh_dt_mn, gh_dt_ro, gh_dt_rr, gh_dt_cl, gh_dt_lo, gh_dt_lt, gh_dt_cu, gh_dt_tl, gh_dt_tf, gh_dt_tt]
theorem dp_ti (T : TS) (e : Nat) : g_ti (dropT T e) = g_ti T := by unfold dropT dT2 lT dT1 bT; simp only [gh_ti_pl, gh_ti_ct, gh_ti_th, gh_ti_mn, gh_ti_ro, gh_ti_rr, gh_ti_cl, gh_ti_lo, gh_ti_lt, gh_ti_cu, gh_ti_tl, gh_ti_tf, gh_ti_tt]
theorem dp_mn (T : TS) (e : Nat) : g_mn (dropT T e) = va_up (g_mn T) (g_vo T e) (g_mn T (g_vo T e) - 1) := by unfold dropT dT2 lT dT1 bT; simp only [gh_mn_pl, gh_mn_ct, gh_mn_th, gh_mn_mn, gh_mn_ro, gh_mn_rr, gh_mn_cl, gh_mn_lo, gh_mn_lt, gh_mn_cu, gh_mn_tl, gh_mn_tf, gh_mn_tt]
theorem dp_ro (T : TS) (e : Nat) : g_ro (dropT T e) = va_u2 (g_ro T) (g_vo T e) (upF (g_ro T (g_vo T e)) (g_pl T e) (g_mn T (g_vo T e) - 1)) := by unfold dropT dT2 lT dT1 bT; simp only [gh_ro_pl, gh_ro_ct, gh_ro_th, gh_ro_mn, gh_ro_ro, gh_ro_rr, gh_ro_cl, gh_ro_lo, gh_ro_lt, gh_ro_cu, gh_ro_tl, gh_ro_tf, gh_ro_tt]
theorem dp_te (T : TS) (e : Nat) : g_te (dropT T e) = g_te T := by unfold dropT dT2 lT dT1 bT; simp only [gh_te_pl, gh_te_ct, gh_te_th, gh_te_mn, gh_te_ro, gh_te_rr, gh_te_cl, gh_te_lo, gh_te_lt, gh_te_cu, gh_te_tl, gh_te_tf, gh_te_tt]
theorem dp_cu (T : TS) (e : Nat) : g_cu (dropT T e) = g_cu T - zcnt (dtr T e) (g_te T) := by unfold dropT dT2 lT dT1 bT; simp only [gh_cu_pl, gh_cu_ct, gh_cu_th, gh_cu_mn, gh_cu_ro, gh_cu_rr, gh_cu_cl, gh_cu_lo, gh_cu_lt, gh_cu_cu, gh_cu_tl, gh_cu_tf, gh_cu_tt]
theorem dp_tt (T : TS) (e : Nat) : g_tt (dropT T e) = dtt T e (g_te T) := by unfold dropT dT2 lT dT1 bT; simp only [gh_tt_pl, gh_tt_ct, gh_tt_th, gh_tt_mn, gh_tt_ro, gh_tt_rr, gh_tt_cl, gh_tt_lo, gh_tt_lt, gh_tt_cu, gh_tt_tl, gh_tt_tf, gh_tt_tt]
theorem dp_tv (T : TS) (e : Nat) : g_tv (dropT T e) = g_tv T := by unfold dropT dT2 lT dT1 bT; simp only [gh_tv_pl, gh_tv_ct, gh_tv_th, gh_tv_mn, gh_tv_ro, gh_tv_rr, gh_tv_cl, gh_tv_lo, gh_tv_lt, gh_tv_cu, gh_tv_tl, gh_tv_tf, gh_tv_tt]
theorem dp_tf (T : TS) (e : Nat) : g_tf (dropT T e) = dtf T e (g_te T) := by unfold dropT dT2 lT dT1 bT; simp only [gh_tf_pl, gh_tf_ct, gh_tf_th, gh_tf_mn, gh_tf_ro, gh_tf_rr, gh_tf_cl, gh_tf_lo, gh_tf_lt, gh_tf_cu, gh_tf_tl, gh_tf_tf, gh_tf_tt]
theorem dp_tl (T : TS) (e : Nat) : g_tl (dropT T e) = dtl T e (g_te T) := by unfold dropT dT2 lT dT1 bT; simp only [gh_tl_pl, gh_tl_ct, gh_tl_th, gh_tl_mn, gh_tl_ro, gh_tl_rr, gh_tl_cl, gh_tl_lo, gh_tl_lt, gh_tl_cu, gh_tl_tl, gh_tl_tf, gh_tl_tt]
theorem dp_tn (T : TS) (e : Nat) : g_tn (dropT T e) = g_tn T := by unfold dropT dT2 lT dT1 bT; simp only [gh_tn_pl, gh_tn_ct, gh_tn_th, gh_tn_mn, gh_tn_ro, gh_tn_rr, gh_tn_cl, gh_tn_lo, gh_tn_lt, gh_tn_cu, gh_tn_tl, gh_tn_tf, gh_tn_tt]
theorem dp_tm (T : TS) (e : Nat) : g_tm (dropT T e) = g_tm T := by unfold dropT dT2 lT dT1 bT; simp only [gh_tm_pl, gh_tm_ct, gh_tm_th, gh_tm_mn, gh_tm_ro, gh_tm_rr, gh_tm_cl, gh_tm_lo, gh_tm_lt, gh_tm_cu, gh_tm_tl, gh_tm_tf, gh_tm_tt]
theorem dp_tu (T : TS) (e : Nat) : g_tu (dropT T e) = g_tu T := by unfold dropT dT2 lT dT1 bT; simp only [gh_tu_pl, gh_tu_ct, gh_tu_th, gh_tu_mn, gh_tu_ro, gh_tu_rr, gh_tu_cl, gh_tu_lo, gh_tu_lt, gh_tu_cu, gh_tu_tl, gh_tu_tf, gh_tu_tt]
theorem dp_le (T : TS) (e : Nat) : g_le (dropT T e) = g_le T := by unfold dropT dT2 lT dT1 bT; simp only [gh_le_pl, gh_le_ct, gh_le_th, gh_le_mn, gh_le_ro, gh_le_rr, gh_le_cl, gh_le_lo, gh_le_lt, gh_le_cu, gh_le_tl, gh_le_tf, gh_le_tt]
theorem dp_cl (T : TS) (e : Nat) : g_cl (dropT T e) = g_cl T - zcnt (dlr T e) (g_le T) := by unfold dropT dT2 lT dlt dlo dlr dT1 bT; simp only [gh_cl_pl, gh_cl_ct, gh_cl_th, gh_cl_mn, gh_cl_ro, gh_cl_rr, gh_cl_cl, gh_cl_lo, gh_cl_lt, gh_cl_cu, gh_cl_tl, gh_cl_tf, gh_cl_tt, gh_lt_cu, gh_lt_tl, gh_lt_tf, gh_lt_tt, gh_lf_cu, gh_lf_tl, gh_lf_tf, gh_lf_tt, gh_lo_cu, gh_lo_tl, gh_lo_tf, gh_lo_tt]; rfl
theorem dp_lt (T : TS) (e : Nat) : g_lt (dropT T e) = dlt T e (g_le T) := by unfold dropT dT2 lT dlt dlo dlr dT1 bT; simp only [gh_lt_pl, gh_lt_ct, gh_lt_th, gh_lt_mn, gh_lt_ro, gh_lt_rr, gh_lt_cl, gh_lt_lo, gh_lt_lt, gh_lt_cu, gh_lt_tl, gh_lt_tf, gh_lt_tt, gh_lf_cu, gh_lf_tl, gh_lf_tf, gh_lf_tt, gh_lo_cu, gh_lo_tl, gh_lo_tf, gh_lo_tt, gh_cl_cu, gh_cl_tl, gh_cl_tf, gh_cl_tt]; rfl
theorem dp_lk (T : TS) (e : Nat) : g_lk (dropT T e) = g_lk T := by unfold dropT dT2 lT dT1 bT; simp only [gh_lk_pl, gh_lk_ct, gh_lk_th, gh_lk_mn, gh_lk_ro, gh_lk_rr, gh_lk_cl, gh_lk_lo, gh_lk_lt, gh_lk_cu, gh_lk_tl, gh_lk_tf, gh_lk_tt]
theorem dp_lf (T : TS) (e : Nat) : g_lf (dropT T e) = g_lf T := by unfold dropT dT2 lT dT1 bT; simp only [gh_lf_pl, gh_lf_ct, gh_lf_th, gh_lf_mn, gh_lf_ro, gh_lf_rr, gh_lf_cl, gh_lf_lo, gh_lf_lt, gh_lf_cu, gh_lf_tl, gh_lf_tf, gh_lf_tt]
theorem dp_lo (T : TS) (e : Nat) : g_lo (dropT T e) = dlo T e (g_le T) := by unfold dropT dT2 lT dlt dlo dlr dT1 bT; simp only [gh_lo_pl, gh_lo_ct, gh_lo_th, gh_lo_mn, gh_lo_ro, gh_lo_rr, gh_lo_cl, gh_lo_lo, gh_lo_lt, gh_lo_cu, gh_lo_tl, gh_lo_tf, gh_lo_tt, gh_lt_cu, gh_lt_tl, gh_lt_tf, gh_lt_tt, gh_lf_cu, gh_lf_tl, gh_lf_tf, gh_lf_tt, gh_cl_cu, gh_cl_tl, gh_cl_tf, gh_cl_tt]; rfl
theorem dp_wm (T : TS) (e : Nat) : g_wm (dropT T e) = g_wm T := by unfold dropT dT2 lT dT1 bT; simp only [gh_wm_pl, gh_wm_ct, gh_wm_th, gh_wm_mn, gh_wm_ro, gh_wm_rr, gh_wm_cl, gh_wm_lo, gh_wm_lt, gh_wm_cu, gh_wm_tl, gh_wm_tf, gh_wm_tt]
theorem dp_wr (T : TS) (e : Nat) : g_wr (dropT T e) = g_wr T := by unfold dropT dT2 lT dT1 bT; simp only [gh_wr_pl, gh_wr_ct, gh_wr_th, gh_wr_mn, gh_wr_ro, gh_wr_rr, gh_wr_cl, gh_wr_lo, gh_wr_lt, gh_wr_cu, gh_wr_tl, gh_wr_tf, gh_wr_tt]
theorem dp_fo (T : TS) (e : Nat) : g_fo (dropT T e) = g_fo T := by unfold dropT dT2 lT dT1 bT; simp only [gh_fo_pl, gh_fo_ct, gh_fo_th, gh_fo_mn, gh_fo_ro, gh_fo_rr, gh_fo_cl, gh_fo_lo, gh_fo_lt, gh_fo_cu, gh_fo_tl, gh_fo_tf, gh_fo_tt]
theorem dp_fi (T : TS) (e : Nat) : g_fi (dropT T e) = g_fi T := by unfold dropT dT2 lT dT1 bT; simp only [gh_fi_pl, gh_fi_ct, gh_fi_th, gh_fi_mn, gh_fi_ro, gh_fi_rr, gh_fi_cl, gh_fi_lo, gh_fi_lt, gh_fi_cu, gh_fi_tl, gh_fi_tf, gh_fi_tt]
theorem dp_hr (T : TS) (e : Nat) : g_hr (dropT T e) = g_hr T := by unfold dropT dT2 lT dT1 bT; simp only [gh_hr_pl, gh_hr_ct, gh_hr_th, gh_hr_mn, gh_hr_ro, gh_hr_rr, gh_hr_cl, gh_hr_lo, gh_hr_lt, gh_hr_cu, gh_hr_tl, gh_hr_tf, gh_hr_tt]
theorem dp_rk (T : TS) (e : Nat) : g_rk (dropT T e) = g_rk T := by unfold dropT dT2 lT dT1 bT; simp only [gh_rk_pl, gh_rk_ct, gh_rk_th, gh_rk_mn, gh_rk_ro, gh_rk_rr, gh_rk_cl, gh_rk_lo, gh_rk_lt, gh_rk_cu, gh_rk_tl, gh_rk_tf, gh_rk_tt]
theorem dp_rs (T : TS) (e : Nat) : g_rs (dropT T e) = g_rs T := by unfold dropT dT2 lT dT1 bT; simp only [gh_rs_pl, gh_rs_ct, gh_rs_th, gh_rs_mn, gh_rs_ro, gh_rs_rr, gh_rs_cl, gh_rs_lo, gh_rs_lt, gh_rs_cu, gh_rs_tl, gh_rs_tf, gh_rs_tt]
theorem dp_rr (T : TS) (e : Nat) : g_rr (dropT T e) = rrE T e := by unfold dropT dT2 lT dT1 bT; simp only [gh_rr_pl, gh_rr_ct, gh_rr_th, gh_rr_mn, gh_rr_ro, gh_rr_rr, gh_rr_cl, gh_rr_lo, gh_rr_lt, gh_rr_cu, gh_rr_tl, gh_rr_tf, gh_rr_tt]
theorem dp_hs (T : TS) (e : Nat) : g_hs (dropT T e) = g_hs T := by unfold dropT dT2 lT dT1 bT; simp only [gh_hs_pl, gh_hs_ct, gh_hs_th, gh_hs_mn, gh_hs_ro, gh_hs_rr, gh_hs_cl, gh_hs_lo, gh_hs_lt, gh_hs_cu, gh_hs_tl, gh_hs_tf, gh_hs_tt]
theorem dp_sk (T : TS) (e : Nat) : g_sk (dropT T e) = g_sk T := by unfold dropT dT2 lT dT1 bT; simp only [gh_sk_pl, gh_sk_ct, gh_sk_th, gh_sk_mn, gh_sk_ro, gh_sk_rr, gh_sk_cl, gh_sk_lo, gh_sk_lt, gh_sk_cu, gh_sk_tl, gh_sk_tf, gh_sk_tt]
theorem dp_ss (T : TS) (e : Nat) : g_ss (dropT T e) = g_ss T := by unfold dropT dT2 lT dT1 bT; simp only [gh_ss_pl, gh_ss_ct, gh_ss_th, gh_ss_mn, gh_ss_ro, gh_ss_rr, gh_ss_cl, gh_ss_lo, gh_ss_lt, gh_ss_cu, gh_ss_tl, gh_ss_tf, gh_ss_tt]
theorem dp_sr (T : TS) (e : Nat) : g_sr (dropT T e) = g_sr T := by unfold dropT dT2 lT dT1 bT; simp only [gh_sr_pl, gh_sr_ct, gh_sr_th, gh_sr_mn, gh_sr_ro, gh_sr_rr, gh_sr_cl, gh_sr_lo, gh_sr_lt, gh_sr_cu, gh_sr_tl, gh_sr_tf, gh_sr_tt]
theorem dp_fa (T : TS) (e : Nat) : g_fa (dropT T e) = g_fa T := by unfold dropT dT2 lT dT1 bT; simp only [gh_fa_pl, gh_fa_ct, gh_fa_th, gh_fa_mn, gh_fa_ro, gh_fa_rr, gh_fa_cl, gh_fa_lo, gh_fa_lt, gh_fa_cu, gh_fa_tl, gh_fa_tf, gh_fa_tt]
theorem dp_su (T : TS) (e : Nat) : g_su (dropT T e) = g_su T := by unfold dropT dT2 lT dT1 bT; simp only [gh_su_pl, gh_su_ct, gh_su_th, gh_su_mn, gh_su_ro, gh_su_rr, gh_su_cl, gh_su_lo, gh_su_lt, gh_su_cu, gh_su_tl, gh_su_tf, gh_su_tt]
theorem dp_tr (T : TS) (e : Nat) : g_tr (dropT T e) = g_tr T := by unfold dropT dT2 lT dT1 bT; simp only [gh_tr_pl, gh_tr_ct, gh_tr_th, gh_tr_mn, gh_tr_ro, gh_tr_rr, gh_tr_cl, gh_tr_lo, gh_tr_lt, gh_tr_cu, gh_tr_tl, gh_tr_tf, gh_tr_tt]
theorem dp_pl (T : TS) (e : Nat) : g_pl (dropT T e) = (fun f => if g_th T f = true ∧ g_vo T f = g_vo T e ∧ g_pl T e < g_pl T f then g_pl T f - 1 else g_pl T f) := by unfold dropT dT2 lT dT1 bT; simp only [gh_pl_pl, gh_pl_ct, gh_pl_th, gh_pl_mn, gh_pl_ro, gh_pl_rr, gh_pl_cl, gh_pl_lo, gh_pl_lt, gh_pl_cu, gh_pl_tl, gh_pl_tf, gh_pl_tt]
theorem zcnt_split {a b c : Nat → Bool} : ∀ n, (∀ i, i < n → c i = (a i || b i) ∧ (a i && b i) = false) → zcnt a n + zcnt b n = zcnt c n
  | 0, _ => rfl
  | n + 1, h => by
    have h1 := zcnt_split n (fun i hi => h i (by omega))
    have h2 := h n (Nat.lt_succ_self _)
    rw [zcnt, zcnt, zcnt, h2.1]
    cases ha : a n <;> cases hb : b n <;> simp [ha, hb] at h2 ⊢ <;> omega
theorem dp_old {T : TS} {e f : Nat} (hI : tI T) (he : e < g_ev T) (hte : g_th T e = true) (hf : f < g_ev T) (ht : g_th T f = true) (hn : f ≠ e) : g_th (dropT T e) f = true ∧ g_vo (dropT T e) f = g_vo T f ∧ g_pl (dropT T e) f = (if g_vo T f = g_vo T e ∧ g_pl T e < g_pl T f then g_pl T f - 1 else g_pl T f) ∧ (g_vo T f = g_vo T e → g_pl T f ≠ g_pl T e) := by
  rw [dp_th, dp_vo, dp_pl, up_ne hn]
  refine ⟨ht, rfl, ?_, ?_⟩
  · show (if g_th T f = true ∧ g_vo T f = g_vo T e ∧ g_pl T e < g_pl T f then g_pl T f - 1 else g_pl T f) = _
    by_cases h : g_vo T f = g_vo T e ∧ g_pl T e < g_pl T f
    · rw [if_pos ⟨ht, h⟩, if_pos h]
    · rw [if_neg (fun z => h z.2), if_neg h]
  · intro h1 h2
    have h3 := (ti_pl hI f hf ht).2
    rw [h1, h2, (ti_pl hI e he hte).2] at h3
    exact hn h3.symm
theorem dp_tup {T : TS} {e t : Nat} (hI : tI T) (he : e < g_ev T) (hte : g_th T e = true) (ht : t < g_te T) (hd : dtt T e (g_te T) t = true) : g_tt T t = true ∧ (g_tv T t = g_vo T e → ¬ (g_pl T (g_tf T t) = g_pl T e ∧ g_pl T (g_tl T t) = g_pl T e)) ∧
    (dtf T e (g_te T) t < g_ev T ∧ g_th (dropT T e) (dtf T e (g_te T) t) = true ∧ g_vo T (dtf T e (g_te T) t) = g_tv T t ∧ g_pl (dropT T e) (dtf T e (g_te T) t) = (if g_tv T t = g_vo T e ∧ g_pl T e < g_pl T (g_tf T t) then g_pl T (g_tf T t) - 1 else g_pl T (g_tf T t))) ∧
    (dtl T e (g_te T) t < g_ev T ∧ g_th (dropT T e) (dtl T e (g_te T) t) = true ∧ g_vo T (dtl T e (g_te T) t) = g_tv T t ∧ g_pl (dropT T e) (dtl T e (g_te T) t) = (if g_tv T t = g_vo T e ∧ g_pl T e ≤ g_pl T (g_tl T t) then g_pl T (g_tl T t) - 1 else g_pl T (g_tl T t))) := by
  unfold dtt at hd
  split at hd
  · cases hd
  · next hnb =>
    have h := ti_tp hI t ht hd
    obtain ⟨k1, k2, k3, k4, k5, k6, k7⟩ := h
    have hE := ti_pl hI e he hte
    have hV : g_vo T e < 18 := by have := ti_vo hI e he; have := ti_np hI; omega
    have nb : ¬ (g_tf T t = e ∧ g_tl T t = e) := fun z => hnb ⟨ht, z⟩
    have p1 : g_tf T t ≠ e → g_tv T t = g_vo T e → g_pl T (g_tf T t) ≠ g_pl T e := fun z y => (dp_old hI he hte k1 k3 z).2.2.2 (k5.trans y)
    have p2 : g_tl T t ≠ e → g_tv T t = g_vo T e → g_pl T (g_tl T t) ≠ g_pl T e := fun z y => (dp_old hI he hte k2 k4 z).2.2.2 (k6.trans y)
    refine ⟨hd, ?_, ?_, ?_⟩
    · intro hv z
      by_cases h1 : g_tf T t = e
      · exact p2 (fun y => nb ⟨h1, y⟩) hv z.2
      · exact p1 h1 hv z.1
    · by_cases h1 : g_tf T t = e
      · have h2 : g_tl T t ≠ e := fun y => nb ⟨h1, y⟩
        have e1 : dtf T e (g_te T) t = g_ro T (g_vo T e) (g_pl T e + 1) := by unfold dtf; rw [if_pos ⟨ht, hd, h1, h2⟩]
        have hv : g_tv T t = g_vo T e := by rw [← k5, h1]
        have h3 := p2 h2 hv
        have hL := (ti_pl hI _ k2 k4).1
        rw [k6, hv] at hL
        rw [h1] at k7
        have h4 := ti_ro hI (g_vo T e) (g_pl T e + 1) hV (by omega)
        have h5 : g_ro T (g_vo T e) (g_pl T e + 1) ≠ e := fun z => by
          have := h4.2.2.2
          rw [z] at this
          omega
        have h6 := dp_old hI he hte h4.1 h4.2.1 h5
        rw [e1, h6.2.2.1, h4.2.2.1, h4.2.2.2, if_pos ⟨rfl, by omega⟩, h1, hv, if_neg (by omega)]
        exact ⟨h4.1, h6.1, rfl, by omega⟩
      · have e1 : dtf T e (g_te T) t = g_tf T t := by unfold dtf; rw [if_neg (fun z => h1 z.2.2.1)]
        have h6 := dp_old hI he hte k1 k3 h1
        rw [e1, h6.2.2.1, k5]
        exact ⟨k1, h6.1, rfl, rfl⟩
    · by_cases h1 : g_tl T t = e
      · have h2 : g_tf T t ≠ e := fun y => nb ⟨y, h1⟩
        have e1 : dtl T e (g_te T) t = g_ro T (g_vo T e) (g_pl T e - 1) := by unfold dtl; rw [if_pos ⟨ht, hd, h2, h1⟩]
        have hv : g_tv T t = g_vo T e := by rw [← k6, h1]
        have h3 := p1 h2 hv
        rw [h1] at k7
        have h4 := ti_ro hI (g_vo T e) (g_pl T e - 1) hV (by omega)
        have h5 : g_ro T (g_vo T e) (g_pl T e - 1) ≠ e := fun z => by
          have := h4.2.2.2
          rw [z] at this
          omega
        have h6 := dp_old hI he hte h4.1 h4.2.1 h5
        rw [e1, h6.2.2.1, h4.2.2.1, h4.2.2.2, if_neg (by omega), h1, hv, if_pos ⟨rfl, Nat.le_refl _⟩]
        exact ⟨h4.1, h6.1, rfl, rfl⟩
      · have e1 : dtl T e (g_te T) t = g_tl T t := by unfold dtl; rw [if_neg (fun z => h1 z.2.2.2)]
        have h6 := dp_old hI he hte k2 k4 h1
        rw [e1, h6.2.2.1, k6]
        refine ⟨k2, h6.1, rfl, ?_⟩
        have h7 := p2 h1
        by_cases h8 : g_tv T t = g_vo T e
        · have h7 := h7 h8
          simp only [h8, true_and]
          split <;> split <;> omega
        · simp only [h8, false_and]
theorem tI_drop {T : TS} (hI : tI T) {e : Nat} (he : e < g_ev T) (hte : g_th T e = true) : tI (dropT T e) := ⟨(by
  have h1 := zcnt_off (g_ev T) he hte
  have h2 := ti_ct hI
  rw [dp_ct, dp_th, dp_ev]
  omega), (by
  have h1 := zcnt_split (a := dtt T e (g_te T)) (b := dtr T e) (c := g_tt T) (g_te T) (fun i hi => by
    unfold dtt dtr
    by_cases h : g_tf T i = e ∧ g_tl T i = e
    · rw [if_pos ⟨hi, h⟩, decide_eq_true h]; cases g_tt T i <;> exact ⟨rfl, rfl⟩
    · rw [if_neg (fun z => h z.2), decide_eq_false h]; cases g_tt T i <;> exact ⟨rfl, rfl⟩)
  have h2 := ti_cu hI
  rw [dp_cu, dp_tt, dp_te]
  omega), (by
  have h1 := zcnt_split (a := dlt T e (g_le T)) (b := dlr T e) (c := g_lt T) (g_le T) (fun i hi => by
    unfold dlt dlr
    by_cases h : g_lf T i = e
    · rw [if_pos ⟨hi, h⟩, decide_eq_true h]; cases g_lt T i <;> exact ⟨rfl, rfl⟩
    · rw [if_neg (fun z => h z.2), decide_eq_false h]; cases g_lt T i <;> exact ⟨rfl, rfl⟩)
  have h2 := ti_cl hI
  rw [dp_cl, dp_lt, dp_le]
  omega), (by simp only [dp_np, dp_pk, dp_nb, dp_bt, dp_ev, dp_ct, dp_th, dp_vo, dp_kd, dp_pn, dp_pi, dp_va, dp_dt, dp_ti, dp_mn, dp_ro, dp_te, dp_cu, dp_tt, dp_tv, dp_tf, dp_tl, dp_tn, dp_tm, dp_tu, dp_le, dp_cl, dp_lt, dp_lk, dp_lf, dp_lo, dp_wm, dp_wr, dp_fo, dp_fi, dp_hr, dp_rk, dp_rs, dp_rr, dp_hs, dp_sk, dp_ss, dp_sr, dp_fa, dp_su, dp_tr, dp_pl]; exact ti_np hI), (by simp only [dp_np, dp_pk, dp_nb, dp_bt, dp_ev, dp_ct, dp_th, dp_vo, dp_kd, dp_pn, dp_pi, dp_va, dp_dt, dp_ti, dp_mn, dp_ro, dp_te, dp_cu, dp_tt, dp_tv, dp_tf, dp_tl, dp_tn, dp_tm, dp_tu, dp_le, dp_cl, dp_lt, dp_lk, dp_lf, dp_lo, dp_wm, dp_wr, dp_fo, dp_fi, dp_hr, dp_rk, dp_rs, dp_rr, dp_hs, dp_sk, dp_ss, dp_sr, dp_fa, dp_su, dp_tr, dp_pl]; exact ti_pk hI), (by simp only [dp_np, dp_pk, dp_nb, dp_bt, dp_ev, dp_ct, dp_th, dp_vo, dp_kd, dp_pn, dp_pi, dp_va, dp_dt, dp_ti, dp_mn, dp_ro, dp_te, dp_cu, dp_tt, dp_tv, dp_tf, dp_tl, dp_tn, dp_tm, dp_tu, dp_le, dp_cl, dp_lt, dp_lk, dp_lf, dp_lo, dp_wm, dp_wr, dp_fo, dp_fi, dp_hr, dp_rk, dp_rs, dp_rr, dp_hs, dp_sk, dp_ss, dp_sr, dp_fa, dp_su, dp_tr, dp_pl]; exact ti_nb hI), (by simp only [dp_np, dp_pk, dp_nb, dp_bt, dp_ev, dp_ct, dp_th, dp_vo, dp_kd, dp_pn, dp_pi, dp_va, dp_dt, dp_ti, dp_mn, dp_ro, dp_te, dp_cu, dp_tt, dp_tv, dp_tf, dp_tl, dp_tn, dp_tm, dp_tu, dp_le, dp_cl, dp_lt, dp_lk, dp_lf, dp_lo, dp_wm, dp_wr, dp_fo, dp_fi, dp_hr, dp_rk, dp_rs, dp_rr, dp_hs, dp_sk, dp_ss, dp_sr, dp_fa, dp_su, dp_tr, dp_pl]; exact ti_bt hI), (by simp only [dp_np, dp_pk, dp_nb, dp_bt, dp_ev, dp_ct, dp_th, dp_vo, dp_kd, dp_pn, dp_pi, dp_va, dp_dt, dp_ti, dp_mn, dp_ro, dp_te, dp_cu, dp_tt, dp_tv, dp_tf, dp_tl, dp_tn, dp_tm, dp_tu, dp_le, dp_cl, dp_lt, dp_lk, dp_lf, dp_lo, dp_wm, dp_wr, dp_fo, dp_fi, dp_hr, dp_rk, dp_rs, dp_rr, dp_hs, dp_sk, dp_ss, dp_sr, dp_fa, dp_su, dp_tr, dp_pl]; exact ti_ev hI), (by simp only [dp_np, dp_pk, dp_nb, dp_bt, dp_ev, dp_ct, dp_th, dp_vo, dp_kd, dp_pn, dp_pi, dp_va, dp_dt, dp_ti, dp_mn, dp_ro, dp_te, dp_cu, dp_tt, dp_tv, dp_tf, dp_tl, dp_tn, dp_tm, dp_tu, dp_le, dp_cl, dp_lt, dp_lk, dp_lf, dp_lo, dp_wm, dp_wr, dp_fo, dp_fi, dp_hr, dp_rk, dp_rs, dp_rr, dp_hs, dp_sk, dp_ss, dp_sr, dp_fa, dp_su, dp_tr, dp_pl]; exact ti_vo hI), (by simp only [dp_np, dp_pk, dp_nb, dp_bt, dp_ev, dp_ct, dp_th, dp_vo, dp_kd, dp_pn, dp_pi, dp_va, dp_dt, dp_ti, dp_mn, dp_ro, dp_te, dp_cu, dp_tt, dp_tv, dp_tf, dp_tl, dp_tn, dp_tm, dp_tu, dp_le, dp_cl, dp_lt, dp_lk, dp_lf, dp_lo, dp_wm, dp_wr, dp_fo, dp_fi, dp_hr, dp_rk, dp_rs, dp_rr, dp_hs, dp_sk, dp_ss, dp_sr, dp_fa, dp_su, dp_tr, dp_pl]; exact ti_kd hI), (by simp only [dp_np, dp_pk, dp_nb, dp_bt, dp_ev, dp_ct, dp_th, dp_vo, dp_kd, dp_pn, dp_pi, dp_va, dp_dt, dp_ti, dp_mn, dp_ro, dp_te, dp_cu, dp_tt, dp_tv, dp_tf, dp_tl, dp_tn, dp_tm, dp_tu, dp_le, dp_cl, dp_lt, dp_lk, dp_lf, dp_lo, dp_wm, dp_wr, dp_fo, dp_fi, dp_hr, dp_rk, dp_rs, dp_rr, dp_hs, dp_sk, dp_ss, dp_sr, dp_fa, dp_su, dp_tr, dp_pl]; exact ti_pn hI), (by simp only [dp_np, dp_pk, dp_nb, dp_bt, dp_ev, dp_ct, dp_th, dp_vo, dp_kd, dp_pn, dp_pi, dp_va, dp_dt, dp_ti, dp_mn, dp_ro, dp_te, dp_cu, dp_tt, dp_tv, dp_tf, dp_tl, dp_tn, dp_tm, dp_tu, dp_le, dp_cl, dp_lt, dp_lk, dp_lf, dp_lo, dp_wm, dp_wr, dp_fo, dp_fi, dp_hr, dp_rk, dp_rs, dp_rr, dp_hs, dp_sk, dp_ss, dp_sr, dp_fa, dp_su, dp_tr, dp_pl]; exact ti_pn1 hI), (by simp only [dp_np, dp_pk, dp_nb, dp_bt, dp_ev, dp_ct, dp_th, dp_vo, dp_kd, dp_pn, dp_pi, dp_va, dp_dt, dp_ti, dp_mn, dp_ro, dp_te, dp_cu, dp_tt, dp_tv, dp_tf, dp_tl, dp_tn, dp_tm, dp_tu, dp_le, dp_cl, dp_lt, dp_lk, dp_lf, dp_lo, dp_wm, dp_wr, dp_fo, dp_fi, dp_hr, dp_rk, dp_rs, dp_rr, dp_hs, dp_sk, dp_ss, dp_sr, dp_fa, dp_su, dp_tr, dp_pl]; exact ti_pn0 hI), (by simp only [dp_np, dp_pk, dp_nb, dp_bt, dp_ev, dp_ct, dp_th, dp_vo, dp_kd, dp_pn, dp_pi, dp_va, dp_dt, dp_ti, dp_mn, dp_ro, dp_te, dp_cu, dp_tt, dp_tv, dp_tf, dp_tl, dp_tn, dp_tm, dp_tu, dp_le, dp_cl, dp_lt, dp_lk, dp_lf, dp_lo, dp_wm, dp_wr, dp_fo, dp_fi, dp_hr, dp_rk, dp_rs, dp_rr, dp_hs, dp_sk, dp_ss, dp_sr, dp_fa, dp_su, dp_tr, dp_pl]; exact ti_pnc hI), (by simp only [dp_np, dp_pk, dp_nb, dp_bt, dp_ev, dp_ct, dp_th, dp_vo, dp_kd, dp_pn, dp_pi, dp_va, dp_dt, dp_ti, dp_mn, dp_ro, dp_te, dp_cu, dp_tt, dp_tv, dp_tf, dp_tl, dp_tn, dp_tm, dp_tu, dp_le, dp_cl, dp_lt, dp_lk, dp_lf, dp_lo, dp_wm, dp_wr, dp_fo, dp_fi, dp_hr, dp_rk, dp_rs, dp_rr, dp_hs, dp_sk, dp_ss, dp_sr, dp_fa, dp_su, dp_tr, dp_pl]; exact ti_pi hI), (by simp only [dp_np, dp_pk, dp_nb, dp_bt, dp_ev, dp_ct, dp_th, dp_vo, dp_kd, dp_pn, dp_pi, dp_va, dp_dt, dp_ti, dp_mn, dp_ro, dp_te, dp_cu, dp_tt, dp_tv, dp_tf, dp_tl, dp_tn, dp_tm, dp_tu, dp_le, dp_cl, dp_lt, dp_lk, dp_lf, dp_lo, dp_wm, dp_wr, dp_fo, dp_fi, dp_hr, dp_rk, dp_rs, dp_rr, dp_hs, dp_sk, dp_ss, dp_sr, dp_fa, dp_su, dp_tr, dp_pl]; exact ti_pim hI), (by simp only [dp_np, dp_pk, dp_nb, dp_bt, dp_ev, dp_ct, dp_th, dp_vo, dp_kd, dp_pn, dp_pi, dp_va, dp_dt, dp_ti, dp_mn, dp_ro, dp_te, dp_cu, dp_tt, dp_tv, dp_tf, dp_tl, dp_tn, dp_tm, dp_tu, dp_le, dp_cl, dp_lt, dp_lk, dp_lf, dp_lo, dp_wm, dp_wr, dp_fo, dp_fi, dp_hr, dp_rk, dp_rs, dp_rr, dp_hs, dp_sk, dp_ss, dp_sr, dp_fa, dp_su, dp_tr, dp_pl]; exact ti_va hI), (by simp only [dp_np, dp_pk, dp_nb, dp_bt, dp_ev, dp_ct, dp_th, dp_vo, dp_kd, dp_pn, dp_pi, dp_va, dp_dt, dp_ti, dp_mn, dp_ro, dp_te, dp_cu, dp_tt, dp_tv, dp_tf, dp_tl, dp_tn, dp_tm, dp_tu, dp_le, dp_cl, dp_lt, dp_lk, dp_lf, dp_lo, dp_wm, dp_wr, dp_fo, dp_fi, dp_hr, dp_rk, dp_rs, dp_rr, dp_hs, dp_sk, dp_ss, dp_sr, dp_fa, dp_su, dp_tr, dp_pl]; exact ti_dt hI), (by
  rw [dp_mn]
  intro w
  by_cases h : w = g_vo T e
  · subst h; rw [up_eq]; have := ti_mn hI (g_vo T e); omega
  · rw [up_ne h]; exact ti_mn hI w), (by
  rw [dp_mn, dp_np]
  intro w hw
  have := ti_vo hI e he
  rw [up_ne (by omega)]
  exact ti_mn0 hI w hw), (by
  rw [dp_mn, dp_ro, dp_ev]
  intro w x hw hx
  by_cases h : w = g_vo T e
  · subst h
    rw [up_eq] at hx
    rw [u2_eq]
    unfold upF
    by_cases h1 : g_pl T e ≤ x
    · rw [if_pos ⟨h1, by omega⟩]
      have hr := ti_ro hI (g_vo T e) (x + 1) hw (by omega)
      have hz : g_ro T (g_vo T e) (x + 1) ≠ e := fun z => by have := hr.2.2.2; rw [z] at this; omega
      have ho := dp_old hI he hte hr.1 hr.2.1 hz
      rw [hr.2.2.1, hr.2.2.2, if_pos ⟨rfl, by omega⟩] at ho
      exact ⟨hr.1, ho.1, ho.2.1, ho.2.2.1⟩
    · rw [if_neg (fun z => h1 z.1)]
      have hr := ti_ro hI (g_vo T e) x hw (by omega)
      have hz : g_ro T (g_vo T e) x ≠ e := fun z => by have := hr.2.2.2; rw [z] at this; omega
      have ho := dp_old hI he hte hr.1 hr.2.1 hz
      rw [hr.2.2.1, hr.2.2.2, if_neg (by omega)] at ho
      exact ⟨hr.1, ho.1, ho.2.1, ho.2.2.1⟩
  · rw [up_ne h] at hx
    rw [u2_ne h]
    have hr := ti_ro hI w x hw hx
    have hz : g_ro T w x ≠ e := fun z => by have := hr.2.2.1; rw [z] at this; exact h this.symm
    have ho := dp_old hI he hte hr.1 hr.2.1 hz
    rw [hr.2.2.1, hr.2.2.2, if_neg (fun z => h z.1)] at ho
    exact ⟨hr.1, ho.1, ho.2.1, ho.2.2.1⟩), (by
  rw [dp_ev, dp_th]
  intro f hf ht
  have h := up_t ht
  have ho := dp_old hI he hte hf h.2 h.1
  have hl := ti_pl hI f hf h.2
  have hE := (ti_pl hI e he hte).1
  rw [ho.2.1, ho.2.2.1, dp_mn, dp_ro]
  by_cases h1 : g_vo T f = g_vo T e
  · rw [h1] at hl ⊢
    have h3 := ho.2.2.2 h1
    rw [up_eq, u2_eq]
    unfold upF
    by_cases h2 : g_pl T e < g_pl T f
    · rw [if_pos ⟨rfl, h2⟩, if_pos (by omega), show g_pl T f - 1 + 1 = g_pl T f by omega]
      exact ⟨by omega, hl.2⟩
    · rw [if_neg (fun z => h2 z.2), if_neg (by omega)]
      exact ⟨by omega, hl.2⟩
  · rw [up_ne h1, u2_ne h1, if_neg (fun z => h1 z.1)]
    exact hl), (by simp only [dp_np, dp_pk, dp_nb, dp_bt, dp_ev, dp_ct, dp_th, dp_vo, dp_kd, dp_pn, dp_pi, dp_va, dp_dt, dp_ti, dp_mn, dp_ro, dp_te, dp_cu, dp_tt, dp_tv, dp_tf, dp_tl, dp_tn, dp_tm, dp_tu, dp_le, dp_cl, dp_lt, dp_lk, dp_lf, dp_lo, dp_wm, dp_wr, dp_fo, dp_fi, dp_hr, dp_rk, dp_rs, dp_rr, dp_hs, dp_sk, dp_ss, dp_sr, dp_fa, dp_su, dp_tr, dp_pl]; exact ti_te hI), (by simp only [dp_np, dp_pk, dp_nb, dp_bt, dp_ev, dp_ct, dp_th, dp_vo, dp_kd, dp_pn, dp_pi, dp_va, dp_dt, dp_ti, dp_mn, dp_ro, dp_te, dp_cu, dp_tt, dp_tv, dp_tf, dp_tl, dp_tn, dp_tm, dp_tu, dp_le, dp_cl, dp_lt, dp_lk, dp_lf, dp_lo, dp_wm, dp_wr, dp_fo, dp_fi, dp_hr, dp_rk, dp_rs, dp_rr, dp_hs, dp_sk, dp_ss, dp_sr, dp_fa, dp_su, dp_tr, dp_pl]; exact ti_tn hI), (by simp only [dp_np, dp_pk, dp_nb, dp_bt, dp_ev, dp_ct, dp_th, dp_vo, dp_kd, dp_pn, dp_pi, dp_va, dp_dt, dp_ti, dp_mn, dp_ro, dp_te, dp_cu, dp_tt, dp_tv, dp_tf, dp_tl, dp_tn, dp_tm, dp_tu, dp_le, dp_cl, dp_lt, dp_lk, dp_lf, dp_lo, dp_wm, dp_wr, dp_fo, dp_fi, dp_hr, dp_rk, dp_rs, dp_rr, dp_hs, dp_sk, dp_ss, dp_sr, dp_fa, dp_su, dp_tr, dp_pl]; exact ti_tm hI), (by simp only [dp_np, dp_pk, dp_nb, dp_bt, dp_ev, dp_ct, dp_th, dp_vo, dp_kd, dp_pn, dp_pi, dp_va, dp_dt, dp_ti, dp_mn, dp_ro, dp_te, dp_cu, dp_tt, dp_tv, dp_tf, dp_tl, dp_tn, dp_tm, dp_tu, dp_le, dp_cl, dp_lt, dp_lk, dp_lf, dp_lo, dp_wm, dp_wr, dp_fo, dp_fi, dp_hr, dp_rk, dp_rs, dp_rr, dp_hs, dp_sk, dp_ss, dp_sr, dp_fa, dp_su, dp_tr, dp_pl]; exact ti_tu hI), (by
  rw [dp_te, dp_tt, dp_ev, dp_tf, dp_tl, dp_tv, dp_vo]
  intro t ht htt
  have h := dp_tup hI he hte ht htt
  obtain ⟨h1, h2, h3, h4⟩ := h
  have k := ti_tp hI t ht h1
  refine ⟨h3.1, h4.1, h3.2.1, h4.2.1, h3.2.2.1, h4.2.2.1, ?_⟩
  rw [h3.2.2.2, h4.2.2.2]
  have k7 := k.2.2.2.2.2.2
  by_cases hv : g_tv T t = g_vo T e
  · have h2 := h2 hv
    simp only [hv, true_and]
    split <;> split <;> omega
  · simp only [hv, false_and, ite_false]
    exact k7), (by
  rw [dp_te, dp_tt, dp_tf, dp_tl, dp_tv]
  intro t u ht hu htt htu hvv
  obtain ⟨h1, h2, h3, h4⟩ := dp_tup hI he hte ht htt
  obtain ⟨g1, g2, g3, g4⟩ := dp_tup hI he hte hu htu
  have k := (ti_tp hI t ht h1).2.2.2.2.2.2
  have l := (ti_tp hI u hu g1).2.2.2.2.2.2
  have hn := ti_tnest hI t u ht hu h1 g1 hvv
  rw [h3.2.2.2, h4.2.2.2, g3.2.2.2, g4.2.2.2]
  by_cases hv : g_tv T t = g_vo T e
  · have h2 := h2 hv
    have g2 := g2 (hvv ▸ hv)
    simp only [← hvv, hv, true_and]
    clear h3 h4 g3 g4
    split <;> split <;> split <;> split <;> omega
  · simp only [← hvv, hv, false_and, ite_false]
    exact hn), (by
  rw [dp_te, dp_tt, dp_tf, dp_tl, dp_tv]
  intro w x
  refine Nat.le_trans (zcnt_subL (b := fun t => g_tt T t && decide (g_tv T t = w ∧ g_pl T (g_tf T t) ≤ (if w = g_vo T e ∧ g_pl T e ≤ x then x + 1 else x) ∧ (if w = g_vo T e ∧ g_pl T e ≤ x then x + 1 else x) ≤ g_pl T (g_tl T t))) _ ?_) (ti_tover hI w _)
  intro t ht hh
  have hh := Bool.and_eq_true_iff.mp hh
  have hd := of_decide_eq_true hh.2
  obtain ⟨h1, h2, h3, h4⟩ := dp_tup hI he hte ht hh.1
  rw [h3.2.2.2, h4.2.2.2] at hd
  have k := (ti_tp hI t ht h1).2.2.2.2.2.2
  rw [h1, Bool.true_and]
  apply decide_eq_true
  refine ⟨hd.1, ?_⟩
  have e1 := hd.1
  by_cases hw : w = g_vo T e
  · have h2 := h2 (e1.trans hw)
    simp only [e1, hw, true_and] at hd ⊢
    clear h3 h4
    split at hd <;> split at hd <;> split <;> omega
  · simp only [e1, hw, false_and, ite_false, true_and] at hd ⊢
    exact hd), (by simp only [dp_np, dp_pk, dp_nb, dp_bt, dp_ev, dp_ct, dp_th, dp_vo, dp_kd, dp_pn, dp_pi, dp_va, dp_dt, dp_ti, dp_mn, dp_ro, dp_te, dp_cu, dp_tt, dp_tv, dp_tf, dp_tl, dp_tn, dp_tm, dp_tu, dp_le, dp_cl, dp_lt, dp_lk, dp_lf, dp_lo, dp_wm, dp_wr, dp_fo, dp_fi, dp_hr, dp_rk, dp_rs, dp_rr, dp_hs, dp_sk, dp_ss, dp_sr, dp_fa, dp_su, dp_tr, dp_pl]; exact ti_le hI), (by simp only [dp_np, dp_pk, dp_nb, dp_bt, dp_ev, dp_ct, dp_th, dp_vo, dp_kd, dp_pn, dp_pi, dp_va, dp_dt, dp_ti, dp_mn, dp_ro, dp_te, dp_cu, dp_tt, dp_tv, dp_tf, dp_tl, dp_tn, dp_tm, dp_tu, dp_le, dp_cl, dp_lt, dp_lk, dp_lf, dp_lo, dp_wm, dp_wr, dp_fo, dp_fi, dp_hr, dp_rk, dp_rs, dp_rr, dp_hs, dp_sk, dp_ss, dp_sr, dp_fa, dp_su, dp_tr, dp_pl]; exact ti_lk hI), (by
  rw [dp_le, dp_lt, dp_lf, dp_ev]
  intro l hl h
  unfold dlt at h
  split at h
  · cases h
  · next hz =>
    have h1 := ti_lf hI l hl h
    exact ⟨h1.1, (dp_old hI he hte h1.1 h1.2 (fun z => hz ⟨hl, z⟩)).1⟩), (by
  rw [dp_le, dp_lt, dp_lo, dp_ev]
  intro l f hl h h2
  unfold dlt at h
  unfold dlo at h2
  split at h
  · cases h
  · next hz =>
    split at h2
    · cases h2
    · next hy =>
      have h1 := ti_lo hI l f hl h h2
      exact ⟨h1.1, (dp_old hI he hte h1.1 h1.2 (fun z => hy ⟨hl, h, fun y => hz ⟨hl, y⟩, z ▸ h2⟩)).1⟩), (by simp only [dp_np, dp_pk, dp_nb, dp_bt, dp_ev, dp_ct, dp_th, dp_vo, dp_kd, dp_pn, dp_pi, dp_va, dp_dt, dp_ti, dp_mn, dp_ro, dp_te, dp_cu, dp_tt, dp_tv, dp_tf, dp_tl, dp_tn, dp_tm, dp_tu, dp_le, dp_cl, dp_lt, dp_lk, dp_lf, dp_lo, dp_wm, dp_wr, dp_fo, dp_fi, dp_hr, dp_rk, dp_rs, dp_rr, dp_hs, dp_sk, dp_ss, dp_sr, dp_fa, dp_su, dp_tr, dp_pl]; exact ti_wm hI), (by simp only [dp_np, dp_pk, dp_nb, dp_bt, dp_ev, dp_ct, dp_th, dp_vo, dp_kd, dp_pn, dp_pi, dp_va, dp_dt, dp_ti, dp_mn, dp_ro, dp_te, dp_cu, dp_tt, dp_tv, dp_tf, dp_tl, dp_tn, dp_tm, dp_tu, dp_le, dp_cl, dp_lt, dp_lk, dp_lf, dp_lo, dp_wm, dp_wr, dp_fo, dp_fi, dp_hr, dp_rk, dp_rs, dp_rr, dp_hs, dp_sk, dp_ss, dp_sr, dp_fa, dp_su, dp_tr, dp_pl]; exact ti_fo hI), (by simp only [dp_np, dp_pk, dp_nb, dp_bt, dp_ev, dp_ct, dp_th, dp_vo, dp_kd, dp_pn, dp_pi, dp_va, dp_dt, dp_ti, dp_mn, dp_ro, dp_te, dp_cu, dp_tt, dp_tv, dp_tf, dp_tl, dp_tn, dp_tm, dp_tu, dp_le, dp_cl, dp_lt, dp_lk, dp_lf, dp_lo, dp_wm, dp_wr, dp_fo, dp_fi, dp_hr, dp_rk, dp_rs, dp_rr, dp_hs, dp_sk, dp_ss, dp_sr, dp_fa, dp_su, dp_tr, dp_pl]; exact ti_rk hI), (by
  rw [dp_hr, dp_rs, dp_rr, dp_ev]
  intro i j f hi h hj h2
  unfold rrE at h2
  split at h2
  · cases h2
  · next hz =>
    have h1 := ti_rr hI i j f hi h hj h2
    exact ⟨h1.1, (dp_old hI he hte h1.1 h1.2 (fun z => hz (z ▸ h2))).1⟩), (by simp only [dp_np, dp_pk, dp_nb, dp_bt, dp_ev, dp_ct, dp_th, dp_vo, dp_kd, dp_pn, dp_pi, dp_va, dp_dt, dp_ti, dp_mn, dp_ro, dp_te, dp_cu, dp_tt, dp_tv, dp_tf, dp_tl, dp_tn, dp_tm, dp_tu, dp_le, dp_cl, dp_lt, dp_lk, dp_lf, dp_lo, dp_wm, dp_wr, dp_fo, dp_fi, dp_hr, dp_rk, dp_rs, dp_rr, dp_hs, dp_sk, dp_ss, dp_sr, dp_fa, dp_su, dp_tr, dp_pl]; exact ti_sk hI), (by simp only [dp_np, dp_pk, dp_nb, dp_bt, dp_ev, dp_ct, dp_th, dp_vo, dp_kd, dp_pn, dp_pi, dp_va, dp_dt, dp_ti, dp_mn, dp_ro, dp_te, dp_cu, dp_tt, dp_tv, dp_tf, dp_tl, dp_tn, dp_tm, dp_tu, dp_le, dp_cl, dp_lt, dp_lk, dp_lf, dp_lo, dp_wm, dp_wr, dp_fo, dp_fi, dp_hr, dp_rk, dp_rs, dp_rr, dp_hs, dp_sk, dp_ss, dp_sr, dp_fa, dp_su, dp_tr, dp_pl]; exact ti_tied hI), (by
  rw [dp_mn, dp_ct]
  have h1 := smF_up (g_mn T) (g_vo T e) (g_mn T (g_vo T e) - 1) 18 (by have := ti_vo hI e he; have := ti_np hI; omega)
  have h2 := ti_sm hI
  have h3 := (ti_pl hI e he hte).1
  omega), (by
  rw [dp_rr]
  intro i j f hi hj h2
  unfold rrE at h2
  split at h2
  · cases h2
  · exact ti_rrb hI i j f hi hj h2)⟩
theorem ki_drop {T : TS} (hI : tI T) (e : Int32) : tI (sp_drop T e).2 := by
  unfold sp_drop
  split
  · exact tI_no hI _
  · next h =>
    have h1 := clamp_ev hI (tr_f h)
    exact tI_ok (tI_drop (tI_su hI 0) h1.1 h1.2) _
