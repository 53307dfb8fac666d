theorem zag_le {B b : Nat} {σ τ : ZS} (h : B ≤ b) (g : zag b σ τ) : zag B σ τ := ⟨g.1, fun a ha => g.2 a (by omega)⟩
def lnT (T : TS) (k f : Nat) (o : Option Nat) : TS := h_cl (h_le (h_lo (h_lf (h_lk (h_lt T (va_up (g_lt T) (g_le T) true)) (va_up (g_lk T) (g_le T) k)) (va_up (g_lf T) (g_le T) f)) (va_up (g_lo T) (g_le T) o)) (g_le T + 1)) (g_cl T + 1)
theorem lw_np (T : TS) (k f : Nat) (o : Option Nat) : g_np (lnT T k f o) = g_np T := by unfold lnT; simp only [gh_np_cl, gh_np_le, gh_np_lo, gh_np_lf, gh_np_lk, gh_np_lt]
theorem lw_pk (T : TS) (k f : Nat) (o : Option Nat) : g_pk (lnT T k f o) = g_pk T := by unfold lnT; simp only [gh_pk_cl, gh_pk_le, gh_pk_lo, gh_pk_lf, gh_pk_lk, gh_pk_lt]
theorem lw_nb (T : TS) (k f : Nat) (o : Option Nat) : g_nb (lnT T k f o) = g_nb T := by unfold lnT; simp only [gh_nb_cl, gh_nb_le, gh_nb_lo, gh_nb_lf, gh_nb_lk, gh_nb_lt]
theorem lw_bt (T : TS) (k f : Nat) (o : Option Nat) : g_bt (lnT T k f o) = g_bt T := by unfold lnT; simp only [gh_bt_cl, gh_bt_le, gh_bt_lo, gh_bt_lf, gh_bt_lk, gh_bt_lt]
theorem lw_ev (T : TS) (k f : Nat) (o : Option Nat) : g_ev (lnT T k f o) = g_ev T := by unfold lnT; simp only [gh_ev_cl, gh_ev_le, gh_ev_lo, gh_ev_lf, gh_ev_lk, gh_ev_lt]
theorem lw_ct (T : TS) (k f : Nat) (o : Option Nat) : g_ct (lnT T k f o) = g_ct T := by unfold lnT; simp only [gh_ct_cl, gh_ct_le, gh_ct_lo, gh_ct_lf, gh_ct_lk, gh_ct_lt]
theorem lw_th (T : TS) (k f : Nat) (o : Option Nat) : g_th (lnT T k f o) = g_th T := by unfold lnT; simp only [gh_th_cl, gh_th_le, gh_th_lo, gh_th_lf, gh_th_lk, gh_th_lt]
theorem lw_vo (T : TS) (k f : Nat) (o : Option Nat) : g_vo (lnT T k f o) = g_vo T := by unfold lnT; simp only [gh_vo_cl, gh_vo_le, gh_vo_lo, gh_vo_lf, gh_vo_lk, gh_vo_lt]
theorem lw_kd (T : TS) (k f : Nat) (o : Option Nat) : g_kd (lnT T k f o) = g_kd T := by unfold lnT; simp only [gh_kd_cl, gh_kd_le, gh_kd_lo, gh_kd_lf, gh_kd_lk, gh_kd_lt]
theorem lw_pn (T : TS) (k f : Nat) (o : Option Nat) : g_pn (lnT T k f o) = g_pn T := by unfold lnT; simp only [gh_pn_cl, gh_pn_le, gh_pn_lo, gh_pn_lf, gh_pn_lk, gh_pn_lt]
theorem lw_pi (T : TS) (k f : Nat) (o : Option Nat) : g_pi (lnT T k f o) = g_pi T := by unfold lnT; simp only [gh_pi_cl, gh_pi_le, gh_pi_lo, gh_pi_lf, gh_pi_lk, gh_pi_lt]
theorem lw_va (T : TS) (k f : Nat) (o : Option Nat) : g_va (lnT T k f o) = g_va T := by unfold lnT; simp only [gh_va_cl, gh_va_le, gh_va_lo, gh_va_lf, gh_va_lk, gh_va_lt]
theorem lw_dt (T : TS) (k f : Nat) (o : Option Nat) : g_dt (lnT T k f o) = g_dt T := by unfold lnT; simp only [gh_dt_cl, gh_dt_le, gh_dt_lo, gh_dt_lf, gh_dt_lk, gh_dt_lt]
theorem lw_ti (T : TS) (k f : Nat) (o : Option Nat) : g_ti (lnT T k f o) = g_ti T := by unfold lnT; simp only [gh_ti_cl, gh_ti_le, gh_ti_lo, gh_ti_lf, gh_ti_lk, gh_ti_lt]
theorem lw_mn (T : TS) (k f : Nat) (o : Option Nat) : g_mn (lnT T k f o) = g_mn T := by unfold lnT; simp only [gh_mn_cl, gh_mn_le, gh_mn_lo, gh_mn_lf, gh_mn_lk, gh_mn_lt]
theorem lw_ro (T : TS) (k f : Nat) (o : Option Nat) : g_ro (lnT T k f o) = g_ro T := by unfold lnT; simp only [gh_ro_cl, gh_ro_le, gh_ro_lo, gh_ro_lf, gh_ro_lk, gh_ro_lt]
theorem lw_te (T : TS) (k f : Nat) (o : Option Nat) : g_te (lnT T k f o) = g_te T := by unfold lnT; simp only [gh_te_cl, gh_te_le, gh_te_lo, gh_te_lf, gh_te_lk, gh_te_lt]
theorem lw_cu (T : TS) (k f : Nat) (o : Option Nat) : g_cu (lnT T k f o) = g_cu T := by unfold lnT; simp only [gh_cu_cl, gh_cu_le, gh_cu_lo, gh_cu_lf, gh_cu_lk, gh_cu_lt]
theorem lw_tt (T : TS) (k f : Nat) (o : Option Nat) : g_tt (lnT T k f o) = g_tt T := by unfold lnT; simp only [gh_tt_cl, gh_tt_le, gh_tt_lo, gh_tt_lf, gh_tt_lk, gh_tt_lt]
theorem lw_tv (T : TS) (k f : Nat) (o : Option Nat) : g_tv (lnT T k f o) = g_tv T := by unfold lnT; simp only [gh_tv_cl, gh_tv_le, gh_tv_lo, gh_tv_lf, gh_tv_lk, gh_tv_lt]
theorem lw_tf (T : TS) (k f : Nat) (o : Option Nat) : g_tf (lnT T k f o) = g_tf T := by unfold lnT; simp only [gh_tf_cl, gh_tf_le, gh_tf_lo, gh_tf_lf, gh_tf_lk, gh_tf_lt]
theorem lw_tl (T : TS) (k f : Nat) (o : Option Nat) : g_tl (lnT T k f o) = g_tl T := by unfold lnT; simp only [gh_tl_cl, gh_tl_le, gh_tl_lo, gh_tl_lf, gh_tl_lk, gh_tl_lt]
theorem lw_tn (T : TS) (k f : Nat) (o : Option Nat) : g_tn (lnT T k f o) = g_tn T := by unfold lnT; simp only [gh_tn_cl, gh_tn_le, gh_tn_lo, gh_tn_lf, gh_tn_lk, gh_tn_lt]
theorem lw_tm (T : TS) (k f : Nat) (o : Option Nat) : g_tm (lnT T k f o) = g_tm T := by unfold lnT; simp only [gh_tm_cl, gh_tm_le, gh_tm_lo, gh_tm_lf, gh_tm_lk, gh_tm_lt]
theorem lw_tu (T : TS) (k f : Nat) (o : Option Nat) : g_tu (lnT T k f o) = g_tu T := by unfold lnT; simp only [gh_tu_cl, gh_tu_le, gh_tu_lo, gh_tu_lf, gh_tu_lk, gh_tu_lt]
theorem lw_le (T : TS) (k f : Nat) (o : Option Nat) : g_le (lnT T k f o) = g_le T + 1 := by unfold lnT; simp only [gh_le_cl, gh_le_le, gh_le_lo, gh_le_lf, gh_le_lk, gh_le_lt]
theorem lw_cl (T : TS) (k f : Nat) (o : Option Nat) : g_cl (lnT T k f o) = g_cl T + 1 := by unfold lnT; simp only [gh_cl_cl, gh_cl_le, gh_cl_lo, gh_cl_lf, gh_cl_lk, gh_cl_lt]
theorem lw_lt (T : TS) (k f : Nat) (o : Option Nat) : g_lt (lnT T k f o) = va_up (g_lt T) (g_le T) true := by unfold lnT; simp only [gh_lt_cl, gh_lt_le, gh_lt_lo, gh_lt_lf, gh_lt_lk, gh_lt_lt]
theorem lw_lk (T : TS) (k f : Nat) (o : Option Nat) : g_lk (lnT T k f o) = va_up (g_lk T) (g_le T) k := by unfold lnT; simp only [gh_lk_cl, gh_lk_le, gh_lk_lo, gh_lk_lf, gh_lk_lk, gh_lk_lt]
theorem lw_lf (T : TS) (k f : Nat) (o : Option Nat) : g_lf (lnT T k f o) = va_up (g_lf T) (g_le T) f := by unfold lnT; simp only [gh_lf_cl, gh_lf_le, gh_lf_lo, gh_lf_lf, gh_lf_lk, gh_lf_lt]
theorem lw_lo (T : TS) (k f : Nat) (o : Option Nat) : g_lo (lnT T k f o) = va_up (g_lo T) (g_le T) o := by unfold lnT; simp only [gh_lo_cl, gh_lo_le, gh_lo_lo, gh_lo_lf, gh_lo_lk, gh_lo_lt]
theorem lw_wm (T : TS) (k f : Nat) (o : Option Nat) : g_wm (lnT T k f o) = g_wm T := by unfold lnT; simp only [gh_wm_cl, gh_wm_le, gh_wm_lo, gh_wm_lf, gh_wm_lk, gh_wm_lt]
theorem lw_wr (T : TS) (k f : Nat) (o : Option Nat) : g_wr (lnT T k f o) = g_wr T := by unfold lnT; simp only [gh_wr_cl, gh_wr_le, gh_wr_lo, gh_wr_lf, gh_wr_lk, gh_wr_lt]
theorem lw_fo (T : TS) (k f : Nat) (o : Option Nat) : g_fo (lnT T k f o) = g_fo T := by unfold lnT; simp only [gh_fo_cl, gh_fo_le, gh_fo_lo, gh_fo_lf, gh_fo_lk, gh_fo_lt]
theorem lw_fi (T : TS) (k f : Nat) (o : Option Nat) : g_fi (lnT T k f o) = g_fi T := by unfold lnT; simp only [gh_fi_cl, gh_fi_le, gh_fi_lo, gh_fi_lf, gh_fi_lk, gh_fi_lt]
theorem lw_hr (T : TS) (k f : Nat) (o : Option Nat) : g_hr (lnT T k f o) = g_hr T := by unfold lnT; simp only [gh_hr_cl, gh_hr_le, gh_hr_lo, gh_hr_lf, gh_hr_lk, gh_hr_lt]
theorem lw_rk (T : TS) (k f : Nat) (o : Option Nat) : g_rk (lnT T k f o) = g_rk T := by unfold lnT; simp only [gh_rk_cl, gh_rk_le, gh_rk_lo, gh_rk_lf, gh_rk_lk, gh_rk_lt]
theorem lw_rs (T : TS) (k f : Nat) (o : Option Nat) : g_rs (lnT T k f o) = g_rs T := by unfold lnT; simp only [gh_rs_cl, gh_rs_le, gh_rs_lo, gh_rs_lf, gh_rs_lk, gh_rs_lt]
theorem lw_rr (T : TS) (k f : Nat) (o : Option Nat) : g_rr (lnT T k f o) = g_rr T := by unfold lnT; simp only [gh_rr_cl, gh_rr_le, gh_rr_lo, gh_rr_lf, gh_rr_lk, gh_rr_lt]
theorem lw_hs (T : TS) (k f : Nat) (o : Option Nat) : g_hs (lnT T k f o) = g_hs T := by unfold lnT; simp only [gh_hs_cl, gh_hs_le, gh_hs_lo, gh_hs_lf, gh_hs_lk, gh_hs_lt]
theorem lw_sk (T : TS) (k f : Nat) (o : Option Nat) : g_sk (lnT T k f o) = g_sk T := by unfold lnT; simp only [gh_sk_cl, gh_sk_le, gh_sk_lo, gh_sk_lf, gh_sk_lk, gh_sk_lt]
theorem lw_ss (T : TS) (k f : Nat) (o : Option Nat) : g_ss (lnT T k f o) = g_ss T := by unfold lnT; simp only [gh_ss_cl, gh_ss_le, gh_ss_lo, gh_ss_lf, gh_ss_lk, gh_ss_lt]
theorem lw_sr (T : TS) (k f : Nat) (o : Option Nat) : g_sr (lnT T k f o) = g_sr T := by unfold lnT; simp only [gh_sr_cl, gh_sr_le, gh_sr_lo, gh_sr_lf, gh_sr_lk, gh_sr_lt]
theorem lw_fa (T : TS) (k f : Nat) (o : Option Nat) : g_fa (lnT T k f o) = g_fa T := by unfold lnT; simp only [gh_fa_cl, gh_fa_le, gh_fa_lo, gh_fa_lf, gh_fa_lk, gh_fa_lt]
theorem lw_su (T : TS) (k f : Nat) (o : Option Nat) : g_su (lnT T k f o) = g_su T := by unfold lnT; simp only [gh_su_cl, gh_su_le, gh_su_lo, gh_su_lf, gh_su_lk, gh_su_lt]
theorem lw_tr (T : TS) (k f : Nat) (o : Option Nat) : g_tr (lnT T k f o) = g_tr T := by unfold lnT; simp only [gh_tr_cl, gh_tr_le, gh_tr_lo, gh_tr_lf, gh_tr_lk, gh_tr_lt]
theorem lw_pl (T : TS) (k f : Nat) (o : Option Nat) : g_pl (lnT T k f o) = g_pl T := by unfold lnT; simp only [gh_pl_cl, gh_pl_le, gh_pl_lo, gh_pl_lf, gh_pl_lk, gh_pl_lt]
set_option maxHeartbeats 2000000 in
theorem U_ln {c B : Nat} {σ τ : ZS} {T : TS} {K : KS} (h : cG c B σ T K) {b k f : Nat} {o : Option Nat} (hB : B ≤ b) (hz : zn σ = b + 1) (hN : liN σ τ b k (k_ea K f) (o.map (k_ea K))) (hn : g_le T ≠ 30) : cG c (b + 1) (pI (qr τ (c + 6) (g_le T) (some b)) 714 c (nI (g_le T + 1))) (lnT T k f o) (j_la K (va_up (k_la K) (g_le T) b)) := by
  have e_np := lw_np T k f o
  have e_pk := lw_pk T k f o
  have e_nb := lw_nb T k f o
  have e_bt := lw_bt T k f o
  have e_ev := lw_ev T k f o
  have e_ct := lw_ct T k f o
  have e_th := lw_th T k f o
  have e_vo := lw_vo T k f o
  have e_kd := lw_kd T k f o
  have e_pn := lw_pn T k f o
  have e_pi := lw_pi T k f o
  have e_va := lw_va T k f o
  have e_dt := lw_dt T k f o
  have e_ti := lw_ti T k f o
  have e_mn := lw_mn T k f o
  have e_ro := lw_ro T k f o
  have e_te := lw_te T k f o
  have e_cu := lw_cu T k f o
  have e_tt := lw_tt T k f o
  have e_tv := lw_tv T k f o
  have e_tf := lw_tf T k f o
  have e_tl := lw_tl T k f o
  have e_tn := lw_tn T k f o
  have e_tm := lw_tm T k f o
  have e_tu := lw_tu T k f o
  have e_le := lw_le T k f o
  have e_cl := lw_cl T k f o
  have e_lt := lw_lt T k f o
  have e_lk := lw_lk T k f o
  have e_lf := lw_lf T k f o
  have e_lo := lw_lo T k f o
  have e_wm := lw_wm T k f o
  have e_wr := lw_wr T k f o
  have e_fo := lw_fo T k f o
  have e_fi := lw_fi T k f o
  have e_hr := lw_hr T k f o
  have e_rk := lw_rk T k f o
  have e_rs := lw_rs T k f o
  have e_rr := lw_rr T k f o
  have e_hs := lw_hs T k f o
  have e_sk := lw_sk T k f o
  have e_ss := lw_ss T k f o
  have e_sr := lw_sr T k f o
  have e_fa := lw_fa T k f o
  have e_su := lw_su T k f o
  have e_tr := lw_tr T k f o
  have e_pl := lw_pl T k f o
  have hzt := hN.2.1
  have h1 : cG c (b + 1) τ T K := cG_up (cG_ag (zag_le hB hN.1) h) (by omega) (by omega)
  have hB12 := (cf_B h).1
  generalize lnT T k f o = S at *
  exact ⟨(cf_sh h1 :),
  (cf_B h1 :),
  (by
  try simp only [e_np, e_ev, e_te, e_le, e_nb]
  have z := cf_bd h
  omega),
  (by
  try simp only [e_np, e_pk, kj_pa_la]
  exact (cf_pk h1 :)),
  (by
  try simp only [e_np, kj_va_la]
  exact (cf_vk h1 :)),
  (by
  try simp only [e_ev, e_kd, kj_ea_la]
  exact (cf_ek h1 :)),
  (by
  try simp only [e_te, kj_ta_la]
  exact (cf_tk h1 :)),
  (by
  try simp only [e_le, kj_la_la]
  intro l q0
  by_cases q : l = g_le T
  · subst q
    try simp only [up_eq, u2_eq] at *
    exact ⟨hN.2.2.1, by omega, by omega⟩
  · try simp only [up_ne q, u2_ne q] at *
    exact cf_lk h1 l (by omega)),
  (by
  try simp only [e_hr, e_rs, kj_wa_la]
  exact (cf_rk h1 :)),
  (by
  try simp only [e_hs, e_ss, kj_wa_la]
  exact (cf_sk h1 :)),
  (by
  try simp only [e_np, kj_pa_la]
  exact (cf_pai h1 :)),
  (by
  try simp only [e_le, kj_la_la]
  intro i j hi hj hq
  by_cases q1 : i = g_le T
  · by_cases q2 : j = g_le T
    · rw [q1, q2]
    · rw [q1, up_eq, up_ne q2] at hq
      have := (cf_lk (cG_ag (zag_le hB hN.1) h) j (by omega)).2.2
      omega
  · by_cases q2 : j = g_le T
    · rw [q2, up_eq, up_ne q1] at hq
      have := (cf_lk (cG_ag (zag_le hB hN.1) h) i (by omega)).2.2
      omega
    · rw [up_ne q1, up_ne q2] at hq
      exact cf_lai h1 i j (by omega) (by omega) hq),
  (by
  try simp only [kj_wa_la]
  have e_rw : rwP S = rwP T := by funext i; unfold rwP; rw [e_hr, e_hs]
  rw [e_rw]
  exact cf_wai h1),
  (by
  try simp only [e_np]
  exact (cf_np h1 :)),
  (by
  try simp only [e_nb]
  exact (cf_nb h1 :)),
  (by
  try simp only [e_ev]
  exact (cf_ev h1 :)),
  (by
  try simp only [e_te]
  exact (cf_te h1 :)),
  (by
  try simp only [e_le]
  exact if_pos ⟨rfl, rfl⟩),
  (by
  try simp only [e_wm]
  exact (cf_wm h1 :)),
  (by
  try simp only [e_fo]
  exact (cf_fo h1 :)),
  (by
  try simp only [e_su]
  exact (cf_su h1 :)),
  (by
  try simp only [e_np, kj_pa_la]
  exact (fun i q0 => Eq.trans (if_neg (fun z => absurd z.1 (by omega))) (cf_pa h1 i q0))),
  (by
  try simp only [e_np, kj_pa_la, kj_as_la]
  exact (cf_pas h1 :)),
  (by
  try simp only [e_np, kj_va_la]
  exact (fun v q0 => Eq.trans (if_neg (fun z => absurd z.1 (by omega))) (cf_va h1 v q0))),
  (by
  try simp only [e_np, kj_va_la]
  exact (cf_vn h1 :)),
  (by
  try simp only [e_np, kj_va_la, kj_pa_la]
  exact (cf_vi h1 :)),
  (by
  try simp only [e_np, kj_va_la]
  exact (cf_ve h1 :)),
  (by
  try simp only [e_np, e_mn, kj_va_la]
  exact (cf_vs h1 :)),
  (by
  try simp only [e_np, kj_va_la, kj_wt_la]
  exact (cf_vw h1 :)),
  (by
  try simp only [e_np, kj_va_la, kj_vl_la]
  exact (cf_vl h1 :)),
  (by
  try simp only [e_np, e_mn, e_ro, kj_va_la, kj_ea_la]
  exact (fun v p q0 q1 => Eq.trans (if_neg (fun z => absurd z.1 (by have := (cf_vk h1 v q0).2.2.1; omega))) (cf_ro h1 v p q0 q1))),
  (by
  try simp only [e_nb, kj_be_la]
  exact (cf_be h1 :)),
  (by
  try simp only [e_ev, e_th, kj_ea_la]
  exact (fun e q0 => Eq.trans (if_neg (fun z => absurd z.1 (by omega))) (cf_ea h1 e q0))),
  (by
  try simp only [e_ev, kj_ea_la]
  exact (cf_en h1 :)),
  (by
  try simp only [e_ev, e_vo, kj_ea_la, kj_va_la]
  exact (cf_eo h1 :)),
  (by
  try simp only [e_ev, e_kd, kj_ea_la]
  exact (cf_ed h1 :)),
  (by
  try simp only [e_ev, kj_ea_la]
  exact (cf_ep h1 :)),
  (by
  try simp only [e_ev, e_pn, kj_ea_la]
  exact (cf_ec h1 :)),
  (by
  try simp only [e_ev, e_va, kj_ea_la]
  exact (cf_et h1 :)),
  (by
  try simp only [e_ev, e_dt, kj_ea_la]
  exact (cf_es h1 :)),
  (by
  try simp only [e_ev, e_ti, kj_ea_la]
  exact (cf_ei h1 :)),
  (by
  try simp only [e_ev, kj_ea_la, kj_pl_la]
  exact (cf_el h1 :)),
  (by
  try simp only [e_ev, kj_ea_la, kj_bg_la]
  exact (cf_eb h1 :)),
  (by
  try simp only [e_ev, kj_ea_la, kj_ls_la]
  exact (cf_ez h1 :)),
  (by
  try simp only [e_ev, e_pn, e_pi, kj_ea_la]
  exact (cf_pi h1 :)),
  (by
  try simp only [e_te, e_tt, kj_ta_la]
  exact (fun t q0 => Eq.trans (if_neg (fun z => absurd z.1 (by omega))) (cf_ta h1 t q0))),
  (by
  try simp only [e_te, kj_ta_la]
  exact (cf_tq h1 :)),
  (by
  try simp only [e_te, e_tt, e_tv, kj_ta_la, kj_va_la]
  exact (cf_to h1 :)),
  (by
  try simp only [e_te, kj_ta_la, kj_t1_la]
  exact (cf_t1 h1 :)),
  (by
  try simp only [e_te, kj_ta_la, kj_tk_la]
  exact (cf_t2 h1 :)),
  (by
  try simp only [e_te, e_tn, kj_ta_la]
  exact (cf_tn h1 :)),
  (by
  try simp only [e_te, e_tm, kj_ta_la]
  exact (cf_tm h1 :)),
  (by
  try simp only [e_te, e_tu, kj_ta_la]
  exact (cf_tu h1 :)),
  (by
  try simp only [e_le, e_lt, kj_la_la]
  intro l q0
  by_cases q : l = g_le T
  · subst q
    try simp only [up_eq, u2_eq] at *
    first | rw [if_pos rfl] | rw [if_pos trivial]
    exact if_pos ⟨rfl, rfl⟩
  · try simp only [up_ne q, u2_ne q] at *
    exact Eq.trans (if_neg (fun z => q z.2)) (cf_la h1 l (by omega))),
  (by
  try simp only [e_le, e_lk, kj_la_la]
  intro l q0
  by_cases q : l = g_le T
  · subst q
    try simp only [up_eq, u2_eq] at *
    exact hN.2.2.2.1
  · try simp only [up_ne q, u2_ne q] at *
    exact cf_lj h1 l (by omega)),
  (by
  try simp only [e_le, e_lt, e_lf, kj_la_la, kj_ea_la]
  intro l q0 q1
  by_cases q : l = g_le T
  · subst q
    try simp only [up_eq, u2_eq] at *
    exact hN.2.2.2.2.1
  · try simp only [up_ne q, u2_ne q] at *
    exact cf_lf h1 l (by omega) q1),
  (by
  try simp only [e_le, e_lt, e_lo, kj_la_la, kj_ea_la]
  intro l q0 q1
  by_cases q : l = g_le T
  · subst q
    try simp only [up_eq, u2_eq] at *
    exact hN.2.2.2.2.2
  · try simp only [up_ne q, u2_ne q] at *
    exact cf_lo h1 l (by omega) q1),
  (by
  try simp only [e_wm, e_wr]
  exact (cf_wr h1 :)),
  (by
  try simp only [e_fi]
  exact (cf_fi h1 :)),
  (by
  try simp only [e_fa]
  exact (cf_fa h1 :)),
  (by
  try simp only [e_hr, kj_wa_la]
  exact (fun r q0 => Eq.trans (if_neg (fun z => absurd z.1 (by omega))) (cf_ra h1 r q0))),
  (by
  try simp only [e_hs, kj_wa_la]
  exact (fun r q0 => Eq.trans (if_neg (fun z => absurd z.1 (by omega))) (cf_sa h1 r q0))),
  (by
  try simp only [e_hr, e_rk, kj_wa_la]
  exact (cf_rd h1 :)),
  (by
  try simp only [e_hs, e_sk, kj_wa_la]
  exact (cf_sd h1 :)),
  (by
  try simp only [e_hr, kj_wa_la]
  exact (cf_rt h1 :)),
  (by
  try simp only [e_hs, kj_wa_la]
  exact (cf_st h1 :)),
  (by
  try simp only [e_hr, e_rs, e_rr, kj_wa_la]
  exact (cf_rr h1 :)),
  (by
  try simp only [e_hs, e_ss, e_sr, kj_wa_la]
  exact (cf_sr h1 :))⟩
set_option maxHeartbeats 2000000 in
theorem U_tu {c B : Nat} {σ τ : ZS} {T : TS} {K : KS} (h : cG c B σ T K) {b v a f k n m u : Nat} (hB : B ≤ b) (hz : zn σ = b + 1) (hN : tuN σ τ b (g_te T) (k_va K v) f k n m u) (hn : g_te T ≠ 20) : cG c (b + 1) (pI (qr τ (c + 5) (g_te T) (some b)) 712 c (nI (g_te T + 1))) (tupT T v a (a + k - 1) n m u) (j_tk (j_t1 (j_ta K (va_up (k_ta K) (g_te T) b)) (va_up (k_t1 K) (g_te T) f)) (va_up (k_tk K) (g_te T) k)) := by
  have e_np := tw_np T v a (a + k - 1) n m u
  have e_pk := tw_pk T v a (a + k - 1) n m u
  have e_nb := tw_nb T v a (a + k - 1) n m u
  have e_bt := tw_bt T v a (a + k - 1) n m u
  have e_ev := tw_ev T v a (a + k - 1) n m u
  have e_ct := tw_ct T v a (a + k - 1) n m u
  have e_th := tw_th T v a (a + k - 1) n m u
  have e_vo := tw_vo T v a (a + k - 1) n m u
  have e_kd := tw_kd T v a (a + k - 1) n m u
  have e_pn := tw_pn T v a (a + k - 1) n m u
  have e_pi := tw_pi T v a (a + k - 1) n m u
  have e_va := tw_va T v a (a + k - 1) n m u
  have e_dt := tw_dt T v a (a + k - 1) n m u
  have e_ti := tw_ti T v a (a + k - 1) n m u
  have e_mn := tw_mn T v a (a + k - 1) n m u
  have e_ro := tw_ro T v a (a + k - 1) n m u
  have e_te := tw_te T v a (a + k - 1) n m u
  have e_cu := tw_cu T v a (a + k - 1) n m u
  have e_tt := tw_tt T v a (a + k - 1) n m u
  have e_tv := tw_tv T v a (a + k - 1) n m u
  have e_tf := tw_tf T v a (a + k - 1) n m u
  have e_tl := tw_tl T v a (a + k - 1) n m u
  have e_tn := tw_tn T v a (a + k - 1) n m u
  have e_tm := tw_tm T v a (a + k - 1) n m u
  have e_tu := tw_tu T v a (a + k - 1) n m u
  have e_le := tw_le T v a (a + k - 1) n m u
  have e_cl := tw_cl T v a (a + k - 1) n m u
  have e_lt := tw_lt T v a (a + k - 1) n m u
  have e_lk := tw_lk T v a (a + k - 1) n m u
  have e_lf := tw_lf T v a (a + k - 1) n m u
  have e_lo := tw_lo T v a (a + k - 1) n m u
  have e_wm := tw_wm T v a (a + k - 1) n m u
  have e_wr := tw_wr T v a (a + k - 1) n m u
  have e_fo := tw_fo T v a (a + k - 1) n m u
  have e_fi := tw_fi T v a (a + k - 1) n m u
  have e_hr := tw_hr T v a (a + k - 1) n m u
  have e_rk := tw_rk T v a (a + k - 1) n m u
  have e_rs := tw_rs T v a (a + k - 1) n m u
  have e_rr := tw_rr T v a (a + k - 1) n m u
  have e_hs := tw_hs T v a (a + k - 1) n m u
  have e_sk := tw_sk T v a (a + k - 1) n m u
  have e_ss := tw_ss T v a (a + k - 1) n m u
  have e_sr := tw_sr T v a (a + k - 1) n m u
  have e_fa := tw_fa T v a (a + k - 1) n m u
  have e_su := tw_su T v a (a + k - 1) n m u
  have e_tr := tw_tr T v a (a + k - 1) n m u
  have e_pl := tw_pl T v a (a + k - 1) n m u
  have hzt := hN.2.1
  have h1 : cG c (b + 1) τ T K := cG_up (cG_ag (zag_le hB hN.1) h) (by omega) (by omega)
  have hB12 := (cf_B h).1
  generalize tupT T v a (a + k - 1) n m u = S at *
  exact ⟨(cf_sh h1 :),
  (cf_B h1 :),
  (by
  try simp only [e_np, e_ev, e_te, e_le, e_nb]
  have z := cf_bd h
  omega),
  (by
  try simp only [e_np, e_pk, kj_pa_ta, kj_pa_t1, kj_pa_tk]
  exact (cf_pk h1 :)),
  (by
  try simp only [e_np, kj_va_ta, kj_va_t1, kj_va_tk]
  exact (cf_vk h1 :)),
  (by
  try simp only [e_ev, e_kd, kj_ea_ta, kj_ea_t1, kj_ea_tk]
  exact (cf_ek h1 :)),
  (by
  try simp only [e_te, kj_ta_ta, kj_ta_t1, kj_ta_tk]
  intro t q0
  by_cases q : t = g_te T
  · subst q
    try simp only [up_eq, u2_eq] at *
    exact ⟨hN.2.2.1, by omega, by omega⟩
  · try simp only [up_ne q, u2_ne q] at *
    exact cf_tk h1 t (by omega)),
  (by
  try simp only [e_le, kj_la_ta, kj_la_t1, kj_la_tk]
  exact (cf_lk h1 :)),
  (by
  try simp only [e_hr, e_rs, kj_wa_ta, kj_wa_t1, kj_wa_tk]
  exact (cf_rk h1 :)),
  (by
  try simp only [e_hs, e_ss, kj_wa_ta, kj_wa_t1, kj_wa_tk]
  exact (cf_sk h1 :)),
  (by
  try simp only [e_np, kj_pa_ta, kj_pa_t1, kj_pa_tk]
  exact (cf_pai h1 :)),
  (by
  try simp only [e_le, kj_la_ta, kj_la_t1, kj_la_tk]
  exact (cf_lai h1 :)),
  (by
  try simp only [kj_wa_ta, kj_wa_t1, kj_wa_tk]
  have e_rw : rwP S = rwP T := by funext i; unfold rwP; rw [e_hr, e_hs]
  rw [e_rw]
  exact cf_wai h1),
  (by
  try simp only [e_np]
  exact (cf_np h1 :)),
  (by
  try simp only [e_nb]
  exact (cf_nb h1 :)),
  (by
  try simp only [e_ev]
  exact (cf_ev h1 :)),
  (by
  try simp only [e_te]
  exact if_pos ⟨rfl, rfl⟩),
  (by
  try simp only [e_le]
  exact (cf_le h1 :)),
  (by
  try simp only [e_wm]
  exact (cf_wm h1 :)),
  (by
  try simp only [e_fo]
  exact (cf_fo h1 :)),
  (by
  try simp only [e_su]
  exact (cf_su h1 :)),
  (by
  try simp only [e_np, kj_pa_ta, kj_pa_t1, kj_pa_tk]
  exact (fun i q0 => Eq.trans (if_neg (fun z => absurd z.1 (by omega))) (cf_pa h1 i q0))),
  (by
  try simp only [e_np, kj_pa_ta, kj_pa_t1, kj_pa_tk, kj_as_ta, kj_as_t1, kj_as_tk]
  exact (cf_pas h1 :)),
  (by
  try simp only [e_np, kj_va_ta, kj_va_t1, kj_va_tk]
  exact (fun v q0 => Eq.trans (if_neg (fun z => absurd z.1 (by omega))) (cf_va h1 v q0))),
  (by
  try simp only [e_np, kj_va_ta, kj_va_t1, kj_va_tk]
  exact (cf_vn h1 :)),
  (by
  try simp only [e_np, kj_va_ta, kj_va_t1, kj_va_tk, kj_pa_ta, kj_pa_t1, kj_pa_tk]
  exact (cf_vi h1 :)),
  (by
  try simp only [e_np, kj_va_ta, kj_va_t1, kj_va_tk]
  exact (cf_ve h1 :)),
  (by
  try simp only [e_np, e_mn, kj_va_ta, kj_va_t1, kj_va_tk]
  exact (cf_vs h1 :)),
  (by
  try simp only [e_np, kj_va_ta, kj_va_t1, kj_va_tk, kj_wt_ta, kj_wt_t1, kj_wt_tk]
  exact (cf_vw h1 :)),
  (by
  try simp only [e_np, kj_va_ta, kj_va_t1, kj_va_tk, kj_vl_ta, kj_vl_t1, kj_vl_tk]
  exact (cf_vl h1 :)),
  (by
  try simp only [e_np, e_mn, e_ro, kj_va_ta, kj_va_t1, kj_va_tk, kj_ea_ta, kj_ea_t1, kj_ea_tk]
  exact (fun v p q0 q1 => Eq.trans (if_neg (fun z => absurd z.1 (by have := (cf_vk h1 v q0).2.2.1; omega))) (cf_ro h1 v p q0 q1))),
  (by
  try simp only [e_nb, kj_be_ta, kj_be_t1, kj_be_tk]
  exact (cf_be h1 :)),
  (by
  try simp only [e_ev, e_th, kj_ea_ta, kj_ea_t1, kj_ea_tk]
  exact (fun e q0 => Eq.trans (if_neg (fun z => absurd z.1 (by omega))) (cf_ea h1 e q0))),
  (by
  try simp only [e_ev, kj_ea_ta, kj_ea_t1, kj_ea_tk]
  exact (cf_en h1 :)),
  (by
  try simp only [e_ev, e_vo, kj_ea_ta, kj_ea_t1, kj_ea_tk, kj_va_ta, kj_va_t1, kj_va_tk]
  exact (cf_eo h1 :)),
  (by
  try simp only [e_ev, e_kd, kj_ea_ta, kj_ea_t1, kj_ea_tk]
  exact (cf_ed h1 :)),
  (by
  try simp only [e_ev, kj_ea_ta, kj_ea_t1, kj_ea_tk]
  exact (cf_ep h1 :)),
  (by
  try simp only [e_ev, e_pn, kj_ea_ta, kj_ea_t1, kj_ea_tk]
  exact (cf_ec h1 :)),
  (by
  try simp only [e_ev, e_va, kj_ea_ta, kj_ea_t1, kj_ea_tk]
  exact (cf_et h1 :)),
  (by
  try simp only [e_ev, e_dt, kj_ea_ta, kj_ea_t1, kj_ea_tk]
  exact (cf_es h1 :)),
  (by
  try simp only [e_ev, e_ti, kj_ea_ta, kj_ea_t1, kj_ea_tk]
  exact (cf_ei h1 :)),
  (by
  try simp only [e_ev, kj_ea_ta, kj_ea_t1, kj_ea_tk, kj_pl_ta, kj_pl_t1, kj_pl_tk]
  exact (cf_el h1 :)),
  (by
  try simp only [e_ev, kj_ea_ta, kj_ea_t1, kj_ea_tk, kj_bg_ta, kj_bg_t1, kj_bg_tk]
  exact (cf_eb h1 :)),
  (by
  try simp only [e_ev, kj_ea_ta, kj_ea_t1, kj_ea_tk, kj_ls_ta, kj_ls_t1, kj_ls_tk]
  exact (cf_ez h1 :)),
  (by
  try simp only [e_ev, e_pn, e_pi, kj_ea_ta, kj_ea_t1, kj_ea_tk]
  exact (cf_pi h1 :)),
  (by
  try simp only [e_te, e_tt, kj_ta_ta, kj_ta_t1, kj_ta_tk]
  intro t q0
  by_cases q : t = g_te T
  · subst q
    try simp only [up_eq, u2_eq] at *
    first | rw [if_pos rfl] | rw [if_pos trivial]
    exact if_pos ⟨rfl, rfl⟩
  · try simp only [up_ne q, u2_ne q] at *
    exact Eq.trans (if_neg (fun z => q z.2)) (cf_ta h1 t (by omega))),
  (by
  try simp only [e_te, kj_ta_ta, kj_ta_t1, kj_ta_tk]
  intro t q0
  by_cases q : t = g_te T
  · subst q
    try simp only [up_eq, u2_eq] at *
    exact hN.2.2.2.1
  · try simp only [up_ne q, u2_ne q] at *
    exact cf_tq h1 t (by omega)),
  (by
  try simp only [e_te, e_tt, e_tv, kj_ta_ta, kj_ta_t1, kj_ta_tk, kj_va_ta, kj_va_t1, kj_va_tk]
  intro t q0 q1
  by_cases q : t = g_te T
  · subst q
    try simp only [up_eq, u2_eq] at *
    exact hN.2.2.2.2.1
  · try simp only [up_ne q, u2_ne q] at *
    exact cf_to h1 t (by omega) q1),
  (by
  try simp only [e_te, kj_ta_ta, kj_ta_t1, kj_ta_tk, kj_t1_ta, kj_t1_t1, kj_t1_tk]
  intro t q0
  by_cases q : t = g_te T
  · subst q
    try simp only [up_eq, u2_eq] at *
    exact hN.2.2.2.2.2.1
  · try simp only [up_ne q, u2_ne q] at *
    exact cf_t1 h1 t (by omega)),
  (by
  try simp only [e_te, kj_ta_ta, kj_ta_t1, kj_ta_tk, kj_tk_ta, kj_tk_t1, kj_tk_tk]
  intro t q0
  by_cases q : t = g_te T
  · subst q
    try simp only [up_eq, u2_eq] at *
    exact hN.2.2.2.2.2.2.1
  · try simp only [up_ne q, u2_ne q] at *
    exact cf_t2 h1 t (by omega)),
  (by
  try simp only [e_te, e_tn, kj_ta_ta, kj_ta_t1, kj_ta_tk]
  intro t q0
  by_cases q : t = g_te T
  · subst q
    try simp only [up_eq, u2_eq] at *
    exact hN.2.2.2.2.2.2.2.1
  · try simp only [up_ne q, u2_ne q] at *
    exact cf_tn h1 t (by omega)),
  (by
  try simp only [e_te, e_tm, kj_ta_ta, kj_ta_t1, kj_ta_tk]
  intro t q0
  by_cases q : t = g_te T
  · subst q
    try simp only [up_eq, u2_eq] at *
    exact hN.2.2.2.2.2.2.2.2.1
  · try simp only [up_ne q, u2_ne q] at *
    exact cf_tm h1 t (by omega)),
  (by
  try simp only [e_te, e_tu, kj_ta_ta, kj_ta_t1, kj_ta_tk]
  intro t q0
  by_cases q : t = g_te T
  · subst q
    try simp only [up_eq, u2_eq] at *
    exact hN.2.2.2.2.2.2.2.2.2
  · try simp only [up_ne q, u2_ne q] at *
    exact cf_tu h1 t (by omega)),
  (by
  try simp only [e_le, e_lt, kj_la_ta, kj_la_t1, kj_la_tk]
  exact (fun l q0 => Eq.trans (if_neg (fun z => absurd z.1 (by omega))) (cf_la h1 l q0))),
  (by
  try simp only [e_le, e_lk, kj_la_ta, kj_la_t1, kj_la_tk]
  exact (cf_lj h1 :)),
  (by
  try simp only [e_le, e_lt, e_lf, kj_la_ta, kj_la_t1, kj_la_tk, kj_ea_ta, kj_ea_t1, kj_ea_tk]
  exact (cf_lf h1 :)),
  (by
  try simp only [e_le, e_lt, e_lo, kj_la_ta, kj_la_t1, kj_la_tk, kj_ea_ta, kj_ea_t1, kj_ea_tk]
  exact (cf_lo h1 :)),
  (by
  try simp only [e_wm, e_wr]
  exact (cf_wr h1 :)),
  (by
  try simp only [e_fi]
  exact (cf_fi h1 :)),
  (by
  try simp only [e_fa]
  exact (cf_fa h1 :)),
  (by
  try simp only [e_hr, kj_wa_ta, kj_wa_t1, kj_wa_tk]
  exact (fun r q0 => Eq.trans (if_neg (fun z => absurd z.1 (by omega))) (cf_ra h1 r q0))),
  (by
  try simp only [e_hs, kj_wa_ta, kj_wa_t1, kj_wa_tk]
  exact (fun r q0 => Eq.trans (if_neg (fun z => absurd z.1 (by omega))) (cf_sa h1 r q0))),
  (by
  try simp only [e_hr, e_rk, kj_wa_ta, kj_wa_t1, kj_wa_tk]
  exact (cf_rd h1 :)),
  (by
  try simp only [e_hs, e_sk, kj_wa_ta, kj_wa_t1, kj_wa_tk]
  exact (cf_sd h1 :)),
  (by
  try simp only [e_hr, kj_wa_ta, kj_wa_t1, kj_wa_tk]
  exact (cf_rt h1 :)),
  (by
  try simp only [e_hs, kj_wa_ta, kj_wa_t1, kj_wa_tk]
  exact (cf_st h1 :)),
  (by
  try simp only [e_hr, e_rs, e_rr, kj_wa_ta, kj_wa_t1, kj_wa_tk]
  exact (cf_rr h1 :)),
  (by
  try simp only [e_hs, e_ss, e_sr, kj_wa_ta, kj_wa_t1, kj_wa_tk]
  exact (cf_sr h1 :))⟩
def evT (T : TS) (v k : Nat) (q : Int32) (a d : Nat) : TS := h_ti (h_dt (h_va (h_pi (h_pn (h_kd (h_vo (h_th (h_ct (h_ev T (g_ev T + 1)) (g_ct T + 1)) (va_up (g_th T) (g_ev T) true)) (va_up (g_vo T) (g_ev T) v)) (va_up (g_kd T) (g_ev T) k)) (va_up (g_pn T) (g_ev T) (if k < 3 then 1 else 0))) (va_u2 (g_pi T) (g_ev T) (va_up (g_pi T (g_ev T)) 0 q))) (va_up (g_va T) (g_ev T) a)) (va_up (g_dt T) (g_ev T) d)) (va_up (g_ti T) (g_ev T) false)
theorem ew_np (T : TS) (v k : Nat) (q : Int32) (a d : Nat) : g_np (evT T v k q a d) = g_np T := by unfold evT; simp only [gh_np_ti, gh_np_dt, gh_np_va, gh_np_pi, gh_np_pn, gh_np_kd, gh_np_vo, gh_np_th, gh_np_ct, gh_np_ev]
theorem ew_pk (T : TS) (v k : Nat) (q : Int32) (a d : Nat) : g_pk (evT T v k q a d) = g_pk T := by unfold evT; simp only [gh_pk_ti, gh_pk_dt, gh_pk_va, gh_pk_pi, gh_pk_pn, gh_pk_kd, gh_pk_vo, gh_pk_th, gh_pk_ct, gh_pk_ev]
theorem ew_nb (T : TS) (v k : Nat) (q : Int32) (a d : Nat) : g_nb (evT T v k q a d) = g_nb T := by unfold evT; simp only [gh_nb_ti, gh_nb_dt, gh_nb_va, gh_nb_pi, gh_nb_pn, gh_nb_kd, gh_nb_vo, gh_nb_th, gh_nb_ct, gh_nb_ev]
theorem ew_bt (T : TS) (v k : Nat) (q : Int32) (a d : Nat) : g_bt (evT T v k q a d) = g_bt T := by unfold evT; simp only [gh_bt_ti, gh_bt_dt, gh_bt_va, gh_bt_pi, gh_bt_pn, gh_bt_kd, gh_bt_vo, gh_bt_th, gh_bt_ct, gh_bt_ev]
theorem ew_ev (T : TS) (v k : Nat) (q : Int32) (a d : Nat) : g_ev (evT T v k q a d) = g_ev T + 1 := by unfold evT; simp only [gh_ev_ti, gh_ev_dt, gh_ev_va, gh_ev_pi, gh_ev_pn, gh_ev_kd, gh_ev_vo, gh_ev_th, gh_ev_ct, gh_ev_ev]
theorem ew_ct (T : TS) (v k : Nat) (q : Int32) (a d : Nat) : g_ct (evT T v k q a d) = g_ct T + 1 := by unfold evT; simp only [gh_ct_ti, gh_ct_dt, gh_ct_va, gh_ct_pi, gh_ct_pn, gh_ct_kd, gh_ct_vo, gh_ct_th, gh_ct_ct, gh_ct_ev]
theorem ew_th (T : TS) (v k : Nat) (q : Int32) (a d : Nat) : g_th (evT T v k q a d) = va_up (g_th T) (g_ev T) true := by unfold evT; simp only [gh_th_ti, gh_th_dt, gh_th_va, gh_th_pi, gh_th_pn, gh_th_kd, gh_th_vo, gh_th_th, gh_th_ct, gh_th_ev]
theorem ew_vo (T : TS) (v k : Nat) (q : Int32) (a d : Nat) : g_vo (evT T v k q a d) = va_up (g_vo T) (g_ev T) v := by unfold evT; simp only [gh_vo_ti, gh_vo_dt, gh_vo_va, gh_vo_pi, gh_vo_pn, gh_vo_kd, gh_vo_vo, gh_vo_th, gh_vo_ct, gh_vo_ev]
theorem ew_kd (T : TS) (v k : Nat) (q : Int32) (a d : Nat) : g_kd (evT T v k q a d) = va_up (g_kd T) (g_ev T) k := by unfold evT; simp only [gh_kd_ti, gh_kd_dt, gh_kd_va, gh_kd_pi, gh_kd_pn, gh_kd_kd, gh_kd_vo, gh_kd_th, gh_kd_ct, gh_kd_ev]
theorem ew_pn (T : TS) (v k : Nat) (q : Int32) (a d : Nat) : g_pn (evT T v k q a d) = va_up (g_pn T) (g_ev T) (if k < 3 then 1 else 0) := by unfold evT; simp only [gh_pn_ti, gh_pn_dt, gh_pn_va, gh_pn_pi, gh_pn_pn, gh_pn_kd, gh_pn_vo, gh_pn_th, gh_pn_ct, gh_pn_ev]
theorem ew_pi (T : TS) (v k : Nat) (q : Int32) (a d : Nat) : g_pi (evT T v k q a d) = va_u2 (g_pi T) (g_ev T) (va_up (g_pi T (g_ev T)) 0 q) := by unfold evT; simp only [gh_pi_ti, gh_pi_dt, gh_pi_va, gh_pi_pi, gh_pi_pn, gh_pi_kd, gh_pi_vo, gh_pi_th, gh_pi_ct, gh_pi_ev]
theorem ew_va (T : TS) (v k : Nat) (q : Int32) (a d : Nat) : g_va (evT T v k q a d) = va_up (g_va T) (g_ev T) a := by unfold evT; simp only [gh_va_ti, gh_va_dt, gh_va_va, gh_va_pi, gh_va_pn, gh_va_kd, gh_va_vo, gh_va_th, gh_va_ct, gh_va_ev]
theorem ew_dt (T : TS) (v k : Nat) (q : Int32) (a d : Nat) : g_dt (evT T v k q a d) = va_up (g_dt T) (g_ev T) d := by unfold evT; simp only [gh_dt_ti, gh_dt_dt, gh_dt_va, gh_dt_pi, gh_dt_pn, gh_dt_kd, gh_dt_vo, gh_dt_th, gh_dt_ct, gh_dt_ev]
theorem ew_ti (T : TS) (v k : Nat) (q : Int32) (a d : Nat) : g_ti (evT T v k q a d) = va_up (g_ti T) (g_ev T) false := by unfold evT; simp only [gh_ti_ti, gh_ti_dt, gh_ti_va, gh_ti_pi, gh_ti_pn, gh_ti_kd, gh_ti_vo, gh_ti_th, gh_ti_ct, gh_ti_ev]
theorem ew_mn (T : TS) (v k : Nat) (q : Int32) (a d : Nat) : g_mn (evT T v k q a d) = g_mn T := by unfold evT; simp only [gh_mn_ti, gh_mn_dt, gh_mn_va, gh_mn_pi, gh_mn_pn, gh_mn_kd, gh_mn_vo, gh_mn_th, gh_mn_ct, gh_mn_ev]
theorem ew_ro (T : TS) (v k : Nat) (q : Int32) (a d : Nat) : g_ro (evT T v k q a d) = g_ro T := by unfold evT; simp only [gh_ro_ti, gh_ro_dt, gh_ro_va, gh_ro_pi, gh_ro_pn, gh_ro_kd, gh_ro_vo, gh_ro_th, gh_ro_ct, gh_ro_ev]
theorem ew_te (T : TS) (v k : Nat) (q : Int32) (a d : Nat) : g_te (evT T v k q a d) = g_te T := by unfold evT; simp only [gh_te_ti, gh_te_dt, gh_te_va, gh_te_pi, gh_te_pn, gh_te_kd, gh_te_vo, gh_te_th, gh_te_ct, gh_te_ev]
theorem ew_cu (T : TS) (v k : Nat) (q : Int32) (a d : Nat) : g_cu (evT T v k q a d) = g_cu T := by unfold evT; simp only [gh_cu_ti, gh_cu_dt, gh_cu_va, gh_cu_pi, gh_cu_pn, gh_cu_kd, gh_cu_vo, gh_cu_th, gh_cu_ct, gh_cu_ev]
theorem ew_tt (T : TS) (v k : Nat) (q : Int32) (a d : Nat) : g_tt (evT T v k q a d) = g_tt T := by unfold evT; simp only [gh_tt_ti, gh_tt_dt, gh_tt_va, gh_tt_pi, gh_tt_pn, gh_tt_kd, gh_tt_vo, gh_tt_th, gh_tt_ct, gh_tt_ev]
theorem ew_tv (T : TS) (v k : Nat) (q : Int32) (a d : Nat) : g_tv (evT T v k q a d) = g_tv T := by unfold evT; simp only [gh_tv_ti, gh_tv_dt, gh_tv_va, gh_tv_pi, gh_tv_pn, gh_tv_kd, gh_tv_vo, gh_tv_th, gh_tv_ct, gh_tv_ev]
theorem ew_tf (T : TS) (v k : Nat) (q : Int32) (a d : Nat) : g_tf (evT T v k q a d) = g_tf T := by unfold evT; simp only [gh_tf_ti, gh_tf_dt, gh_tf_va, gh_tf_pi, gh_tf_pn, gh_tf_kd, gh_tf_vo, gh_tf_th, gh_tf_ct, gh_tf_ev]
theorem ew_tl (T : TS) (v k : Nat) (q : Int32) (a d : Nat) : g_tl (evT T v k q a d) = g_tl T := by unfold evT; simp only [gh_tl_ti, gh_tl_dt, gh_tl_va, gh_tl_pi, gh_tl_pn, gh_tl_kd, gh_tl_vo, gh_tl_th, gh_tl_ct, gh_tl_ev]
theorem ew_tn (T : TS) (v k : Nat) (q : Int32) (a d : Nat) : g_tn (evT T v k q a d) = g_tn T := by unfold evT; simp only [gh_tn_ti, gh_tn_dt, gh_tn_va, gh_tn_pi, gh_tn_pn, gh_tn_kd, gh_tn_vo, gh_tn_th, gh_tn_ct, gh_tn_ev]
theorem ew_tm (T : TS) (v k : Nat) (q : Int32) (a d : Nat) : g_tm (evT T v k q a d) = g_tm T := by unfold evT; simp only [gh_tm_ti, gh_tm_dt, gh_tm_va, gh_tm_pi, gh_tm_pn, gh_tm_kd, gh_tm_vo, gh_tm_th, gh_tm_ct, gh_tm_ev]
theorem ew_tu (T : TS) (v k : Nat) (q : Int32) (a d : Nat) : g_tu (evT T v k q a d) = g_tu T := by unfold evT; simp only [gh_tu_ti, gh_tu_dt, gh_tu_va, gh_tu_pi, gh_tu_pn, gh_tu_kd, gh_tu_vo, gh_tu_th, gh_tu_ct, gh_tu_ev]
theorem ew_le (T : TS) (v k : Nat) (q : Int32) (a d : Nat) : g_le (evT T v k q a d) = g_le T := by unfold evT; simp only [gh_le_ti, gh_le_dt, gh_le_va, gh_le_pi, gh_le_pn, gh_le_kd, gh_le_vo, gh_le_th, gh_le_ct, gh_le_ev]
theorem ew_cl (T : TS) (v k : Nat) (q : Int32) (a d : Nat) : g_cl (evT T v k q a d) = g_cl T := by unfold evT; simp only [gh_cl_ti, gh_cl_dt, gh_cl_va, gh_cl_pi, gh_cl_pn, gh_cl_kd, gh_cl_vo, gh_cl_th, gh_cl_ct, gh_cl_ev]
theorem ew_lt (T : TS) (v k : Nat) (q : Int32) (a d : Nat) : g_lt (evT T v k q a d) = g_lt T := by unfold evT; simp only [gh_lt_ti, gh_lt_dt, gh_lt_va, gh_lt_pi, gh_lt_pn, gh_lt_kd, gh_lt_vo, gh_lt_th, gh_lt_ct, gh_lt_ev]
theorem ew_lk (T : TS) (v k : Nat) (q : Int32) (a d : Nat) : g_lk (evT T v k q a d) = g_lk T := by unfold evT; simp only [gh_lk_ti, gh_lk_dt, gh_lk_va, gh_lk_pi, gh_lk_pn, gh_lk_kd, gh_lk_vo, gh_lk_th, gh_lk_ct, gh_lk_ev]
theorem ew_lf (T : TS) (v k : Nat) (q : Int32) (a d : Nat) : g_lf (evT T v k q a d) = g_lf T := by unfold evT; simp only [gh_lf_ti, gh_lf_dt, gh_lf_va, gh_lf_pi, gh_lf_pn, gh_lf_kd, gh_lf_vo, gh_lf_th, gh_lf_ct, gh_lf_ev]
theorem ew_lo (T : TS) (v k : Nat) (q : Int32) (a d : Nat) : g_lo (evT T v k q a d) = g_lo T := by unfold evT; simp only [gh_lo_ti, gh_lo_dt, gh_lo_va, gh_lo_pi, gh_lo_pn, gh_lo_kd, gh_lo_vo, gh_lo_th, gh_lo_ct, gh_lo_ev]
theorem ew_wm (T : TS) (v k : Nat) (q : Int32) (a d : Nat) : g_wm (evT T v k q a d) = g_wm T := by unfold evT; simp only [gh_wm_ti, gh_wm_dt, gh_wm_va, gh_wm_pi, gh_wm_pn, gh_wm_kd, gh_wm_vo, gh_wm_th, gh_wm_ct, gh_wm_ev]
theorem ew_wr (T : TS) (v k : Nat) (q : Int32) (a d : Nat) : g_wr (evT T v k q a d) = g_wr T := by unfold evT; simp only [gh_wr_ti, gh_wr_dt, gh_wr_va, gh_wr_pi, gh_wr_pn, gh_wr_kd, gh_wr_vo, gh_wr_th, gh_wr_ct, gh_wr_ev]
theorem ew_fo (T : TS) (v k : Nat) (q : Int32) (a d : Nat) : g_fo (evT T v k q a d) = g_fo T := by unfold evT; simp only [gh_fo_ti, gh_fo_dt, gh_fo_va, gh_fo_pi, gh_fo_pn, gh_fo_kd, gh_fo_vo, gh_fo_th, gh_fo_ct, gh_fo_ev]
theorem ew_fi (T : TS) (v k : Nat) (q : Int32) (a d : Nat) : g_fi (evT T v k q a d) = g_fi T := by unfold evT; simp only [gh_fi_ti, gh_fi_dt, gh_fi_va, gh_fi_pi, gh_fi_pn, gh_fi_kd, gh_fi_vo, gh_fi_th, gh_fi_ct, gh_fi_ev]
theorem ew_hr (T : TS) (v k : Nat) (q : Int32) (a d : Nat) : g_hr (evT T v k q a d) = g_hr T := by unfold evT; simp only [gh_hr_ti, gh_hr_dt, gh_hr_va, gh_hr_pi, gh_hr_pn, gh_hr_kd, gh_hr_vo, gh_hr_th, gh_hr_ct, gh_hr_ev]
theorem ew_rk (T : TS) (v k : Nat) (q : Int32) (a d : Nat) : g_rk (evT T v k q a d) = g_rk T := by unfold evT; simp only [gh_rk_ti, gh_rk_dt, gh_rk_va, gh_rk_pi, gh_rk_pn, gh_rk_kd, gh_rk_vo, gh_rk_th, gh_rk_ct, gh_rk_ev]
theorem ew_rs (T : TS) (v k : Nat) (q : Int32) (a d : Nat) : g_rs (evT T v k q a d) = g_rs T := by unfold evT; simp only [gh_rs_ti, gh_rs_dt, gh_rs_va, gh_rs_pi, gh_rs_pn, gh_rs_kd, gh_rs_vo, gh_rs_th, gh_rs_ct, gh_rs_ev]
theorem ew_rr (T : TS) (v k : Nat) (q : Int32) (a d : Nat) : g_rr (evT T v k q a d) = g_rr T := by unfold evT; simp only [gh_rr_ti, gh_rr_dt, gh_rr_va, gh_rr_pi, gh_rr_pn, gh_rr_kd, gh_rr_vo, gh_rr_th, gh_rr_ct, gh_rr_ev]
theorem ew_hs (T : TS) (v k : Nat) (q : Int32) (a d : Nat) : g_hs (evT T v k q a d) = g_hs T := by unfold evT; simp only [gh_hs_ti, gh_hs_dt, gh_hs_va, gh_hs_pi, gh_hs_pn, gh_hs_kd, gh_hs_vo, gh_hs_th, gh_hs_ct, gh_hs_ev]
theorem ew_sk (T : TS) (v k : Nat) (q : Int32) (a d : Nat) : g_sk (evT T v k q a d) = g_sk T := by unfold evT; simp only [gh_sk_ti, gh_sk_dt, gh_sk_va, gh_sk_pi, gh_sk_pn, gh_sk_kd, gh_sk_vo, gh_sk_th, gh_sk_ct, gh_sk_ev]
theorem ew_ss (T : TS) (v k : Nat) (q : Int32) (a d : Nat) : g_ss (evT T v k q a d) = g_ss T := by unfold evT; simp only [gh_ss_ti, gh_ss_dt, gh_ss_va, gh_ss_pi, gh_ss_pn, gh_ss_kd, gh_ss_vo, gh_ss_th, gh_ss_ct, gh_ss_ev]
theorem ew_sr (T : TS) (v k : Nat) (q : Int32) (a d : Nat) : g_sr (evT T v k q a d) = g_sr T := by unfold evT; simp only [gh_sr_ti, gh_sr_dt, gh_sr_va, gh_sr_pi, gh_sr_pn, gh_sr_kd, gh_sr_vo, gh_sr_th, gh_sr_ct, gh_sr_ev]
theorem ew_fa (T : TS) (v k : Nat) (q : Int32) (a d : Nat) : g_fa (evT T v k q a d) = g_fa T := by unfold evT; simp only [gh_fa_ti, gh_fa_dt, gh_fa_va, gh_fa_pi, gh_fa_pn, gh_fa_kd, gh_fa_vo, gh_fa_th, gh_fa_ct, gh_fa_ev]
theorem ew_su (T : TS) (v k : Nat) (q : Int32) (a d : Nat) : g_su (evT T v k q a d) = g_su T := by unfold evT; simp only [gh_su_ti, gh_su_dt, gh_su_va, gh_su_pi, gh_su_pn, gh_su_kd, gh_su_vo, gh_su_th, gh_su_ct, gh_su_ev]
theorem ew_tr (T : TS) (v k : Nat) (q : Int32) (a d : Nat) : g_tr (evT T v k q a d) = g_tr T := by unfold evT; simp only [gh_tr_ti, gh_tr_dt, gh_tr_va, gh_tr_pi, gh_tr_pn, gh_tr_kd, gh_tr_vo, gh_tr_th, gh_tr_ct, gh_tr_ev]
theorem ew_pl (T : TS) (v k : Nat) (q : Int32) (a d : Nat) : g_pl (evT T v k q a d) = g_pl T := by unfold evT; simp only [gh_pl_ti, gh_pl_dt, gh_pl_va, gh_pl_pi, gh_pl_pn, gh_pl_kd, gh_pl_vo, gh_pl_th, gh_pl_ct, gh_pl_ev]
set_option maxHeartbeats 2000000 in
theorem U_ev {c B : Nat} {σ τ : ZS} {T : TS} {K : KS} (h : cG c B σ T K) {b v k : Nat} {x : Int32} {a d : Nat} (hB : B ≤ b) (hz : zn σ = b + 1) (hN : evN σ τ b (g_ev T) (k_va K v) k x a d) (hn : g_ev T ≠ 150) (hro : ∀ u p, u < 3 * g_np T → p < g_mn T u → g_ro T u p < g_ev T) (hlf : ∀ l, l < g_le T → g_lt T l = true → g_lf T l < g_ev T) (hlo : ∀ l e, l < g_le T → g_lt T l = true → g_lo T l = some e → e < g_ev T) : cG c (b + 2) (pI (qr τ (c + 4) (g_ev T) (some b)) 710 c (nI (g_ev T + 1))) (evT T v k x a d) (j_ls (j_bg (j_pl (j_ea K (va_up (k_ea K) (g_ev T) b)) (va_up (k_pl K) (g_ev T) 0)) (va_up (k_bg K) (g_ev T) 0)) (va_up (k_ls K) (g_ev T) 0)) := by
  have e_np := ew_np T v k x a d
  have e_pk := ew_pk T v k x a d
  have e_nb := ew_nb T v k x a d
  have e_bt := ew_bt T v k x a d
  have e_ev := ew_ev T v k x a d
  have e_ct := ew_ct T v k x a d
  have e_th := ew_th T v k x a d
  have e_vo := ew_vo T v k x a d
  have e_kd := ew_kd T v k x a d
  have e_pn := ew_pn T v k x a d
  have e_pi := ew_pi T v k x a d
  have e_va := ew_va T v k x a d
  have e_dt := ew_dt T v k x a d
  have e_ti := ew_ti T v k x a d
  have e_mn := ew_mn T v k x a d
  have e_ro := ew_ro T v k x a d
  have e_te := ew_te T v k x a d
  have e_cu := ew_cu T v k x a d
  have e_tt := ew_tt T v k x a d
  have e_tv := ew_tv T v k x a d
  have e_tf := ew_tf T v k x a d
  have e_tl := ew_tl T v k x a d
  have e_tn := ew_tn T v k x a d
  have e_tm := ew_tm T v k x a d
  have e_tu := ew_tu T v k x a d
  have e_le := ew_le T v k x a d
  have e_cl := ew_cl T v k x a d
  have e_lt := ew_lt T v k x a d
  have e_lk := ew_lk T v k x a d
  have e_lf := ew_lf T v k x a d
  have e_lo := ew_lo T v k x a d
  have e_wm := ew_wm T v k x a d
  have e_wr := ew_wr T v k x a d
  have e_fo := ew_fo T v k x a d
  have e_fi := ew_fi T v k x a d
  have e_hr := ew_hr T v k x a d
  have e_rk := ew_rk T v k x a d
  have e_rs := ew_rs T v k x a d
  have e_rr := ew_rr T v k x a d
  have e_hs := ew_hs T v k x a d
  have e_sk := ew_sk T v k x a d
  have e_ss := ew_ss T v k x a d
  have e_sr := ew_sr T v k x a d
  have e_fa := ew_fa T v k x a d
  have e_su := ew_su T v k x a d
  have e_tr := ew_tr T v k x a d
  have e_pl := ew_pl T v k x a d
  have hzt := hN.2.1
  have h1 : cG c (b + 2) τ T K := cG_up (cG_ag (zag_le hB hN.1) h) (by omega) (by omega)
  have hB12 := (cf_B h).1
  generalize evT T v k x a d = S at *
  exact ⟨(cf_sh h1 :),
  (cf_B h1 :),
  (by
  try simp only [e_np, e_ev, e_te, e_le, e_nb]
  have z := cf_bd h
  omega),
  (by
  try simp only [e_np, e_pk, kj_pa_ea, kj_pa_pl, kj_pa_bg, kj_pa_ls]
  exact (cf_pk h1 :)),
  (by
  try simp only [e_np, kj_va_ea, kj_va_pl, kj_va_bg, kj_va_ls]
  exact (cf_vk h1 :)),
  (by
  try simp only [e_ev, e_kd, kj_ea_ea, kj_ea_pl, kj_ea_bg, kj_ea_ls]
  intro e q0
  by_cases q : e = g_ev T
  · subst q
    try simp only [up_eq, u2_eq] at *
    exact ⟨hN.2.2.1, hN.2.2.2.1, by omega, by omega⟩
  · try simp only [up_ne q, u2_ne q] at *
    exact cf_ek h1 e (by omega)),
  (by
  try simp only [e_te, kj_ta_ea, kj_ta_pl, kj_ta_bg, kj_ta_ls]
  exact (cf_tk h1 :)),
  (by
  try simp only [e_le, kj_la_ea, kj_la_pl, kj_la_bg, kj_la_ls]
  exact (cf_lk h1 :)),
  (by
  try simp only [e_hr, e_rs, kj_wa_ea, kj_wa_pl, kj_wa_bg, kj_wa_ls]
  exact (cf_rk h1 :)),
  (by
  try simp only [e_hs, e_ss, kj_wa_ea, kj_wa_pl, kj_wa_bg, kj_wa_ls]
  exact (cf_sk h1 :)),
  (by
  try simp only [e_np, kj_pa_ea, kj_pa_pl, kj_pa_bg, kj_pa_ls]
  exact (cf_pai h1 :)),
  (by
  try simp only [e_le, kj_la_ea, kj_la_pl, kj_la_bg, kj_la_ls]
  exact (cf_lai h1 :)),
  (by
  try simp only [kj_wa_ea, kj_wa_pl, kj_wa_bg, kj_wa_ls]
  have e_rw : rwP S = rwP T := by funext i; unfold rwP; rw [e_hr, e_hs]
  rw [e_rw]
  exact cf_wai h1),
  (by
  try simp only [e_np]
  exact (cf_np h1 :)),
  (by
  try simp only [e_nb]
  exact (cf_nb h1 :)),
  (by
  try simp only [e_ev]
  exact if_pos ⟨rfl, rfl⟩),
  (by
  try simp only [e_te]
  exact (cf_te h1 :)),
  (by
  try simp only [e_le]
  exact (cf_le h1 :)),
  (by
  try simp only [e_wm]
  exact (cf_wm h1 :)),
  (by
  try simp only [e_fo]
  exact (cf_fo h1 :)),
  (by
  try simp only [e_su]
  exact (cf_su h1 :)),
  (by
  try simp only [e_np, kj_pa_ea, kj_pa_pl, kj_pa_bg, kj_pa_ls]
  exact (fun i q0 => Eq.trans (if_neg (fun z => absurd z.1 (by omega))) (cf_pa h1 i q0))),
  (by
  try simp only [e_np, kj_pa_ea, kj_pa_pl, kj_pa_bg, kj_pa_ls, kj_as_ea, kj_as_pl, kj_as_bg, kj_as_ls]
  exact (cf_pas h1 :)),
  (by
  try simp only [e_np, kj_va_ea, kj_va_pl, kj_va_bg, kj_va_ls]
  exact (fun v q0 => Eq.trans (if_neg (fun z => absurd z.1 (by omega))) (cf_va h1 v q0))),
  (by
  try simp only [e_np, kj_va_ea, kj_va_pl, kj_va_bg, kj_va_ls]
  exact (cf_vn h1 :)),
  (by
  try simp only [e_np, kj_va_ea, kj_va_pl, kj_va_bg, kj_va_ls, kj_pa_ea, kj_pa_pl, kj_pa_bg, kj_pa_ls]
  exact (cf_vi h1 :)),
  (by
  try simp only [e_np, kj_va_ea, kj_va_pl, kj_va_bg, kj_va_ls]
  exact (cf_ve h1 :)),
  (by
  try simp only [e_np, e_mn, kj_va_ea, kj_va_pl, kj_va_bg, kj_va_ls]
  exact (cf_vs h1 :)),
  (by
  try simp only [e_np, kj_va_ea, kj_va_pl, kj_va_bg, kj_va_ls, kj_wt_ea, kj_wt_pl, kj_wt_bg, kj_wt_ls]
  exact (cf_vw h1 :)),
  (by
  try simp only [e_np, kj_va_ea, kj_va_pl, kj_va_bg, kj_va_ls, kj_vl_ea, kj_vl_pl, kj_vl_bg, kj_vl_ls]
  exact (cf_vl h1 :)),
  (by
  try simp only [e_np, e_mn, e_ro, kj_va_ea, kj_va_pl, kj_va_bg, kj_va_ls, kj_ea_ea, kj_ea_pl, kj_ea_bg, kj_ea_ls]
  intro u p q0 q1
  have z := hro u p q0 q1
  rw [up_ne (by omega)]
  exact Eq.trans (if_neg (fun z => absurd z.1 (by have := (cf_vk h1 u q0).2.2.1; omega))) (cf_ro h1 u p q0 q1)),
  (by
  try simp only [e_nb, kj_be_ea, kj_be_pl, kj_be_bg, kj_be_ls]
  exact (cf_be h1 :)),
  (by
  try simp only [e_ev, e_th, kj_ea_ea, kj_ea_pl, kj_ea_bg, kj_ea_ls]
  intro e q0
  by_cases q : e = g_ev T
  · subst q
    try simp only [up_eq, u2_eq] at *
    first | rw [if_pos rfl] | rw [if_pos trivial]
    exact if_pos ⟨rfl, rfl⟩
  · try simp only [up_ne q, u2_ne q] at *
    exact Eq.trans (if_neg (fun z => q z.2)) (cf_ea h1 e (by omega))),
  (by
  try simp only [e_ev, kj_ea_ea, kj_ea_pl, kj_ea_bg, kj_ea_ls]
  intro e q0
  by_cases q : e = g_ev T
  · subst q
    try simp only [up_eq, u2_eq] at *
    exact hN.2.2.2.2.1
  · try simp only [up_ne q, u2_ne q] at *
    exact cf_en h1 e (by omega)),
  (by
  try simp only [e_ev, e_vo, kj_ea_ea, kj_ea_pl, kj_ea_bg, kj_ea_ls, kj_va_ea, kj_va_pl, kj_va_bg, kj_va_ls]
  intro e q0
  by_cases q : e = g_ev T
  · subst q
    try simp only [up_eq, u2_eq] at *
    exact hN.2.2.2.2.2.1
  · try simp only [up_ne q, u2_ne q] at *
    exact cf_eo h1 e (by omega)),
  (by
  try simp only [e_ev, e_kd, kj_ea_ea, kj_ea_pl, kj_ea_bg, kj_ea_ls]
  intro e q0
  by_cases q : e = g_ev T
  · subst q
    try simp only [up_eq, u2_eq] at *
    exact hN.2.2.2.2.2.2.1
  · try simp only [up_ne q, u2_ne q] at *
    exact cf_ed h1 e (by omega)),
  (by
  try simp only [e_ev, kj_ea_ea, kj_ea_pl, kj_ea_bg, kj_ea_ls]
  intro e q0
  by_cases q : e = g_ev T
  · subst q
    try simp only [up_eq, u2_eq] at *
    exact hN.2.2.2.2.2.2.2.1
  · try simp only [up_ne q, u2_ne q] at *
    exact cf_ep h1 e (by omega)),
  (by
  try simp only [e_ev, e_pn, kj_ea_ea, kj_ea_pl, kj_ea_bg, kj_ea_ls]
  intro e q0
  by_cases q : e = g_ev T
  · subst q
    try simp only [up_eq, u2_eq] at *
    exact hN.2.2.2.2.2.2.2.2.1
  · try simp only [up_ne q, u2_ne q] at *
    exact cf_ec h1 e (by omega)),
  (by
  try simp only [e_ev, e_va, kj_ea_ea, kj_ea_pl, kj_ea_bg, kj_ea_ls]
  intro e q0
  by_cases q : e = g_ev T
  · subst q
    try simp only [up_eq, u2_eq] at *
    exact hN.2.2.2.2.2.2.2.2.2.1
  · try simp only [up_ne q, u2_ne q] at *
    exact cf_et h1 e (by omega)),
  (by
  try simp only [e_ev, e_dt, kj_ea_ea, kj_ea_pl, kj_ea_bg, kj_ea_ls]
  intro e q0
  by_cases q : e = g_ev T
  · subst q
    try simp only [up_eq, u2_eq] at *
    exact hN.2.2.2.2.2.2.2.2.2.2.1
  · try simp only [up_ne q, u2_ne q] at *
    exact cf_es h1 e (by omega)),
  (by
  try simp only [e_ev, e_ti, kj_ea_ea, kj_ea_pl, kj_ea_bg, kj_ea_ls]
  intro e q0
  by_cases q : e = g_ev T
  · subst q
    try simp only [up_eq, u2_eq] at *
    exact hN.2.2.2.2.2.2.2.2.2.2.2.1
  · try simp only [up_ne q, u2_ne q] at *
    exact cf_ei h1 e (by omega)),
  (by
  try simp only [e_ev, kj_ea_ea, kj_ea_pl, kj_ea_bg, kj_ea_ls, kj_pl_ea, kj_pl_pl, kj_pl_bg, kj_pl_ls]
  intro e q0
  by_cases q : e = g_ev T
  · subst q
    try simp only [up_eq, u2_eq] at *
    exact hN.2.2.2.2.2.2.2.2.2.2.2.2.1
  · try simp only [up_ne q, u2_ne q] at *
    exact cf_el h1 e (by omega)),
  (by
  try simp only [e_ev, kj_ea_ea, kj_ea_pl, kj_ea_bg, kj_ea_ls, kj_bg_ea, kj_bg_pl, kj_bg_bg, kj_bg_ls]
  intro e q0
  by_cases q : e = g_ev T
  · subst q
    try simp only [up_eq, u2_eq] at *
    exact hN.2.2.2.2.2.2.2.2.2.2.2.2.2.1
  · try simp only [up_ne q, u2_ne q] at *
    exact cf_eb h1 e (by omega)),
  (by
  try simp only [e_ev, kj_ea_ea, kj_ea_pl, kj_ea_bg, kj_ea_ls, kj_ls_ea, kj_ls_pl, kj_ls_bg, kj_ls_ls]
  intro e q0
  by_cases q : e = g_ev T
  · subst q
    try simp only [up_eq, u2_eq] at *
    exact hN.2.2.2.2.2.2.2.2.2.2.2.2.2.2.1
  · try simp only [up_ne q, u2_ne q] at *
    exact cf_ez h1 e (by omega)),
  (by
  try simp only [e_ev, e_pn, e_pi, kj_ea_ea, kj_ea_pl, kj_ea_bg, kj_ea_ls]
  intro e j q0 q1
  by_cases q : e = g_ev T
  · subst q
    try simp only [up_eq, u2_eq] at *
    by_cases hk3 : k < 3
    · rw [if_pos hk3] at q1
      obtain rfl : j = 0 := by omega
      rw [up_eq]
      exact hN.2.2.2.2.2.2.2.2.2.2.2.2.2.2.2 hk3
    · rw [if_neg hk3] at q1
      exact absurd q1 (Nat.not_lt_zero _)
  · try simp only [up_ne q, u2_ne q] at *
    exact cf_pi h1 e j (by omega) q1),
  (by
  try simp only [e_te, e_tt, kj_ta_ea, kj_ta_pl, kj_ta_bg, kj_ta_ls]
  exact (fun t q0 => Eq.trans (if_neg (fun z => absurd z.1 (by omega))) (cf_ta h1 t q0))),
  (by
  try simp only [e_te, kj_ta_ea, kj_ta_pl, kj_ta_bg, kj_ta_ls]
  exact (cf_tq h1 :)),
  (by
  try simp only [e_te, e_tt, e_tv, kj_ta_ea, kj_ta_pl, kj_ta_bg, kj_ta_ls, kj_va_ea, kj_va_pl, kj_va_bg, kj_va_ls]
  exact (cf_to h1 :)),
  (by
  try simp only [e_te, kj_ta_ea, kj_ta_pl, kj_ta_bg, kj_ta_ls, kj_t1_ea, kj_t1_pl, kj_t1_bg, kj_t1_ls]
  exact (cf_t1 h1 :)),
  (by
  try simp only [e_te, kj_ta_ea, kj_ta_pl, kj_ta_bg, kj_ta_ls, kj_tk_ea, kj_tk_pl, kj_tk_bg, kj_tk_ls]
  exact (cf_t2 h1 :)),
  (by
  try simp only [e_te, e_tn, kj_ta_ea, kj_ta_pl, kj_ta_bg, kj_ta_ls]
  exact (cf_tn h1 :)),
  (by
  try simp only [e_te, e_tm, kj_ta_ea, kj_ta_pl, kj_ta_bg, kj_ta_ls]
  exact (cf_tm h1 :)),
  (by
  try simp only [e_te, e_tu, kj_ta_ea, kj_ta_pl, kj_ta_bg, kj_ta_ls]
  exact (cf_tu h1 :)),
  (by
  try simp only [e_le, e_lt, kj_la_ea, kj_la_pl, kj_la_bg, kj_la_ls]
  exact (fun l q0 => Eq.trans (if_neg (fun z => absurd z.1 (by omega))) (cf_la h1 l q0))),
  (by
  try simp only [e_le, e_lk, kj_la_ea, kj_la_pl, kj_la_bg, kj_la_ls]
  exact (cf_lj h1 :)),
  (by
  try simp only [e_le, e_lt, e_lf, kj_la_ea, kj_la_pl, kj_la_bg, kj_la_ls, kj_ea_ea, kj_ea_pl, kj_ea_bg, kj_ea_ls]
  intro l q0 q1
  have z := hlf l q0 q1
  rw [up_ne (by omega)]
  exact cf_lf h1 l q0 q1),
  (by
  try simp only [e_le, e_lt, e_lo, kj_la_ea, kj_la_pl, kj_la_bg, kj_la_ls, kj_ea_ea, kj_ea_pl, kj_ea_bg, kj_ea_ls]
  intro l q0 q1
  refine (cf_lo h1 l q0 q1).trans ?_
  cases hq : g_lo T l with
  | none => rfl
  | some e =>
    have z := hlo l e q0 q1 hq
    show some (k_ea K e) = some (va_up (k_ea K) (g_ev T) b e)
    rw [up_ne (by omega)]),
  (by
  try simp only [e_wm, e_wr]
  exact (cf_wr h1 :)),
  (by
  try simp only [e_fi]
  exact (cf_fi h1 :)),
  (by
  try simp only [e_fa]
  exact (cf_fa h1 :)),
  (by
  try simp only [e_hr, kj_wa_ea, kj_wa_pl, kj_wa_bg, kj_wa_ls]
  exact (fun r q0 => Eq.trans (if_neg (fun z => absurd z.1 (by omega))) (cf_ra h1 r q0))),
  (by
  try simp only [e_hs, kj_wa_ea, kj_wa_pl, kj_wa_bg, kj_wa_ls]
  exact (fun r q0 => Eq.trans (if_neg (fun z => absurd z.1 (by omega))) (cf_sa h1 r q0))),
  (by
  try simp only [e_hr, e_rk, kj_wa_ea, kj_wa_pl, kj_wa_bg, kj_wa_ls]
  exact (cf_rd h1 :)),
  (by
  try simp only [e_hs, e_sk, kj_wa_ea, kj_wa_pl, kj_wa_bg, kj_wa_ls]
  exact (cf_sd h1 :)),
  (by
  try simp only [e_hr, kj_wa_ea, kj_wa_pl, kj_wa_bg, kj_wa_ls]
  exact (cf_rt h1 :)),
  (by
  try simp only [e_hs, kj_wa_ea, kj_wa_pl, kj_wa_bg, kj_wa_ls]
  exact (cf_st h1 :)),
  (by
  try simp only [e_hr, e_rs, e_rr, kj_wa_ea, kj_wa_pl, kj_wa_bg, kj_wa_ls]
  exact (cf_rr h1 :)),
  (by
  try simp only [e_hs, e_ss, e_sr, kj_wa_ea, kj_wa_pl, kj_wa_bg, kj_wa_ls]
  exact (cf_sr h1 :))⟩
def rkT (T : TS) (r k n : Nat) : TS := h_rr (h_rs (h_rk (h_hr T (va_up (g_hr T) r true)) (va_up (g_rk T) r k)) (va_up (g_rs T) r n)) (va_u2 (g_rr T) r (fun _ => none))
def shlT (T : TS) (r k n : Nat) : TS := h_sr (h_ss (h_sk (h_hs T (va_up (g_hs T) r true)) (va_up (g_sk T) r k)) (va_up (g_ss T) r n)) (va_u2 (g_sr T) r (fun _ => 0))
theorem rw_np (T : TS) (r k n : Nat) : g_np (rkT T r k n) = g_np T := by unfold rkT; simp only [gh_np_rr, gh_np_rs, gh_np_rk, gh_np_hr]
theorem rw_pk (T : TS) (r k n : Nat) : g_pk (rkT T r k n) = g_pk T := by unfold rkT; simp only [gh_pk_rr, gh_pk_rs, gh_pk_rk, gh_pk_hr]
theorem rw_nb (T : TS) (r k n : Nat) : g_nb (rkT T r k n) = g_nb T := by unfold rkT; simp only [gh_nb_rr, gh_nb_rs, gh_nb_rk, gh_nb_hr]
theorem rw_bt (T : TS) (r k n : Nat) : g_bt (rkT T r k n) = g_bt T := by unfold rkT; simp only [gh_bt_rr, gh_bt_rs, gh_bt_rk, gh_bt_hr]
theorem rw_ev (T : TS) (r k n : Nat) : g_ev (rkT T r k n) = g_ev T := by unfold rkT; simp only [gh_ev_rr, gh_ev_rs, gh_ev_rk, gh_ev_hr]
theorem rw_ct (T : TS) (r k n : Nat) : g_ct (rkT T r k n) = g_ct T := by unfold rkT; simp only [gh_ct_rr, gh_ct_rs, gh_ct_rk, gh_ct_hr]
theorem rw_th (T : TS) (r k n : Nat) : g_th (rkT T r k n) = g_th T := by unfold rkT; simp only [gh_th_rr, gh_th_rs, gh_th_rk, gh_th_hr]
theorem rw_vo (T : TS) (r k n : Nat) : g_vo (rkT T r k n) = g_vo T := by unfold rkT; simp only [gh_vo_rr, gh_vo_rs, gh_vo_rk, gh_vo_hr]
theorem rw_kd (T : TS) (r k n : Nat) : g_kd (rkT T r k n) = g_kd T := by unfold rkT; simp only [gh_kd_rr, gh_kd_rs, gh_kd_rk, gh_kd_hr]
theorem rw_pn (T : TS) (r k n : Nat) : g_pn (rkT T r k n) = g_pn T := by unfold rkT; simp only [gh_pn_rr, gh_pn_rs, gh_pn_rk, gh_pn_hr]
theorem rw_pi (T : TS) (r k n : Nat) : g_pi (rkT T r k n) = g_pi T := by unfold rkT; simp only [gh_pi_rr, gh_pi_rs, gh_pi_rk, gh_pi_hr]
theorem rw_va (T : TS) (r k n : Nat) : g_va (rkT T r k n) = g_va T := by unfold rkT; simp only [gh_va_rr, gh_va_rs, gh_va_rk, gh_va_hr]
theorem rw_dt (T : TS) (r k n : Nat) : g_dt (rkT T r k n) = g_dt T := by unfold rkT; simp only [gh_dt_rr, gh_dt_rs, gh_dt_rk, gh_dt_hr]
theorem rw_ti (T : TS) (r k n : Nat) : g_ti (rkT T r k n) = g_ti T := by unfold rkT; simp only [gh_ti_rr, gh_ti_rs, gh_ti_rk, gh_ti_hr]
theorem rw_mn (T : TS) (r k n : Nat) : g_mn (rkT T r k n) = g_mn T := by unfold rkT; simp only [gh_mn_rr, gh_mn_rs, gh_mn_rk, gh_mn_hr]
theorem rw_ro (T : TS) (r k n : Nat) : g_ro (rkT T r k n) = g_ro T := by unfold rkT; simp only [gh_ro_rr, gh_ro_rs, gh_ro_rk, gh_ro_hr]
theorem rw_te (T : TS) (r k n : Nat) : g_te (rkT T r k n) = g_te T := by unfold rkT; simp only [gh_te_rr, gh_te_rs, gh_te_rk, gh_te_hr]
theorem rw_cu (T : TS) (r k n : Nat) : g_cu (rkT T r k n) = g_cu T := by unfold rkT; simp only [gh_cu_rr, gh_cu_rs, gh_cu_rk, gh_cu_hr]
theorem rw_tt (T : TS) (r k n : Nat) : g_tt (rkT T r k n) = g_tt T := by unfold rkT; simp only [gh_tt_rr, gh_tt_rs, gh_tt_rk, gh_tt_hr]
theorem rw_tv (T : TS) (r k n : Nat) : g_tv (rkT T r k n) = g_tv T := by unfold rkT; simp only [gh_tv_rr, gh_tv_rs, gh_tv_rk, gh_tv_hr]
theorem rw_tf (T : TS) (r k n : Nat) : g_tf (rkT T r k n) = g_tf T := by unfold rkT; simp only [gh_tf_rr, gh_tf_rs, gh_tf_rk, gh_tf_hr]
theorem rw_tl (T : TS) (r k n : Nat) : g_tl (rkT T r k n) = g_tl T := by unfold rkT; simp only [gh_tl_rr, gh_tl_rs, gh_tl_rk, gh_tl_hr]
theorem rw_tn (T : TS) (r k n : Nat) : g_tn (rkT T r k n) = g_tn T := by unfold rkT; simp only [gh_tn_rr, gh_tn_rs, gh_tn_rk, gh_tn_hr]
theorem rw_tm (T : TS) (r k n : Nat) : g_tm (rkT T r k n) = g_tm T := by unfold rkT; simp only [gh_tm_rr, gh_tm_rs, gh_tm_rk, gh_tm_hr]
theorem rw_tu (T : TS) (r k n : Nat) : g_tu (rkT T r k n) = g_tu T := by unfold rkT; simp only [gh_tu_rr, gh_tu_rs, gh_tu_rk, gh_tu_hr]
theorem rw_le (T : TS) (r k n : Nat) : g_le (rkT T r k n) = g_le T := by unfold rkT; simp only [gh_le_rr, gh_le_rs, gh_le_rk, gh_le_hr]
theorem rw_cl (T : TS) (r k n : Nat) : g_cl (rkT T r k n) = g_cl T := by unfold rkT; simp only [gh_cl_rr, gh_cl_rs, gh_cl_rk, gh_cl_hr]
theorem rw_lt (T : TS) (r k n : Nat) : g_lt (rkT T r k n) = g_lt T := by unfold rkT; simp only [gh_lt_rr, gh_lt_rs, gh_lt_rk, gh_lt_hr]
theorem rw_lk (T : TS) (r k n : Nat) : g_lk (rkT T r k n) = g_lk T := by unfold rkT; simp only [gh_lk_rr, gh_lk_rs, gh_lk_rk, gh_lk_hr]
theorem rw_lf (T : TS) (r k n : Nat) : g_lf (rkT T r k n) = g_lf T := by unfold rkT; simp only [gh_lf_rr, gh_lf_rs, gh_lf_rk, gh_lf_hr]
theorem rw_lo (T : TS) (r k n : Nat) : g_lo (rkT T r k n) = g_lo T := by unfold rkT; simp only [gh_lo_rr, gh_lo_rs, gh_lo_rk, gh_lo_hr]
theorem rw_wm (T : TS) (r k n : Nat) : g_wm (rkT T r k n) = g_wm T := by unfold rkT; simp only [gh_wm_rr, gh_wm_rs, gh_wm_rk, gh_wm_hr]
theorem rw_wr (T : TS) (r k n : Nat) : g_wr (rkT T r k n) = g_wr T := by unfold rkT; simp only [gh_wr_rr, gh_wr_rs, gh_wr_rk, gh_wr_hr]
theorem rw_fo (T : TS) (r k n : Nat) : g_fo (rkT T r k n) = g_fo T := by unfold rkT; simp only [gh_fo_rr, gh_fo_rs, gh_fo_rk, gh_fo_hr]
theorem rw_fi (T : TS) (r k n : Nat) : g_fi (rkT T r k n) = g_fi T := by unfold rkT; simp only [gh_fi_rr, gh_fi_rs, gh_fi_rk, gh_fi_hr]
theorem rw_hr (T : TS) (r k n : Nat) : g_hr (rkT T r k n) = va_up (g_hr T) r true := by unfold rkT; simp only [gh_hr_rr, gh_hr_rs, gh_hr_rk, gh_hr_hr]
theorem rw_rk (T : TS) (r k n : Nat) : g_rk (rkT T r k n) = va_up (g_rk T) r k := by unfold rkT; simp only [gh_rk_rr, gh_rk_rs, gh_rk_rk, gh_rk_hr]
theorem rw_rs (T : TS) (r k n : Nat) : g_rs (rkT T r k n) = va_up (g_rs T) r n := by unfold rkT; simp only [gh_rs_rr, gh_rs_rs, gh_rs_rk, gh_rs_hr]
theorem rw_rr (T : TS) (r k n : Nat) : g_rr (rkT T r k n) = va_u2 (g_rr T) r (fun _ => none) := by unfold rkT; simp only [gh_rr_rr, gh_rr_rs, gh_rr_rk, gh_rr_hr]
theorem rw_hs (T : TS) (r k n : Nat) : g_hs (rkT T r k n) = g_hs T := by unfold rkT; simp only [gh_hs_rr, gh_hs_rs, gh_hs_rk, gh_hs_hr]
theorem rw_sk (T : TS) (r k n : Nat) : g_sk (rkT T r k n) = g_sk T := by unfold rkT; simp only [gh_sk_rr, gh_sk_rs, gh_sk_rk, gh_sk_hr]
theorem rw_ss (T : TS) (r k n : Nat) : g_ss (rkT T r k n) = g_ss T := by unfold rkT; simp only [gh_ss_rr, gh_ss_rs, gh_ss_rk, gh_ss_hr]
theorem rw_sr (T : TS) (r k n : Nat) : g_sr (rkT T r k n) = g_sr T := by unfold rkT; simp only [gh_sr_rr, gh_sr_rs, gh_sr_rk, gh_sr_hr]
theorem rw_fa (T : TS) (r k n : Nat) : g_fa (rkT T r k n) = g_fa T := by unfold rkT; simp only [gh_fa_rr, gh_fa_rs, gh_fa_rk, gh_fa_hr]
theorem rw_su (T : TS) (r k n : Nat) : g_su (rkT T r k n) = g_su T := by unfold rkT; simp only [gh_su_rr, gh_su_rs, gh_su_rk, gh_su_hr]
theorem rw_tr (T : TS) (r k n : Nat) : g_tr (rkT T r k n) = g_tr T := by unfold rkT; simp only [gh_tr_rr, gh_tr_rs, gh_tr_rk, gh_tr_hr]
theorem rw_pl (T : TS) (r k n : Nat) : g_pl (rkT T r k n) = g_pl T := by unfold rkT; simp only [gh_pl_rr, gh_pl_rs, gh_pl_rk, gh_pl_hr]
theorem sw_np (T : TS) (r k n : Nat) : g_np (shlT T r k n) = g_np T := by unfold shlT; simp only [gh_np_sr, gh_np_ss, gh_np_sk, gh_np_hs]
theorem sw_pk (T : TS) (r k n : Nat) : g_pk (shlT T r k n) = g_pk T := by unfold shlT; simp only [gh_pk_sr, gh_pk_ss, gh_pk_sk, gh_pk_hs]
theorem sw_nb (T : TS) (r k n : Nat) : g_nb (shlT T r k n) = g_nb T := by unfold shlT; simp only [gh_nb_sr, gh_nb_ss, gh_nb_sk, gh_nb_hs]
theorem sw_bt (T : TS) (r k n : Nat) : g_bt (shlT T r k n) = g_bt T := by unfold shlT; simp only [gh_bt_sr, gh_bt_ss, gh_bt_sk, gh_bt_hs]
theorem sw_ev (T : TS) (r k n : Nat) : g_ev (shlT T r k n) = g_ev T := by unfold shlT; simp only [gh_ev_sr, gh_ev_ss, gh_ev_sk, gh_ev_hs]
theorem sw_ct (T : TS) (r k n : Nat) : g_ct (shlT T r k n) = g_ct T := by unfold shlT; simp only [gh_ct_sr, gh_ct_ss, gh_ct_sk, gh_ct_hs]
theorem sw_th (T : TS) (r k n : Nat) : g_th (shlT T r k n) = g_th T := by unfold shlT; simp only [gh_th_sr, gh_th_ss, gh_th_sk, gh_th_hs]
theorem sw_vo (T : TS) (r k n : Nat) : g_vo (shlT T r k n) = g_vo T := by unfold shlT; simp only [gh_vo_sr, gh_vo_ss, gh_vo_sk, gh_vo_hs]
theorem sw_kd (T : TS) (r k n : Nat) : g_kd (shlT T r k n) = g_kd T := by unfold shlT; simp only [gh_kd_sr, gh_kd_ss, gh_kd_sk, gh_kd_hs]
theorem sw_pn (T : TS) (r k n : Nat) : g_pn (shlT T r k n) = g_pn T := by unfold shlT; simp only [gh_pn_sr, gh_pn_ss, gh_pn_sk, gh_pn_hs]
theorem sw_pi (T : TS) (r k n : Nat) : g_pi (shlT T r k n) = g_pi T := by unfold shlT; simp only [gh_pi_sr, gh_pi_ss, gh_pi_sk, gh_pi_hs]
theorem sw_va (T : TS) (r k n : Nat) : g_va (shlT T r k n) = g_va T := by unfold shlT; simp only [gh_va_sr, gh_va_ss, gh_va_sk, gh_va_hs]
theorem sw_dt (T : TS) (r k n : Nat) : g_dt (shlT T r k n) = g_dt T := by unfold shlT; simp only [gh_dt_sr, gh_dt_ss, gh_dt_sk, gh_dt_hs]
theorem sw_ti (T : TS) (r k n : Nat) : g_ti (shlT T r k n) = g_ti T := by unfold shlT; simp only [gh_ti_sr, gh_ti_ss, gh_ti_sk, gh_ti_hs]
theorem sw_mn (T : TS) (r k n : Nat) : g_mn (shlT T r k n) = g_mn T := by unfold shlT; simp only [gh_mn_sr, gh_mn_ss, gh_mn_sk, gh_mn_hs]
theorem sw_ro (T : TS) (r k n : Nat) : g_ro (shlT T r k n) = g_ro T := by unfold shlT; simp only [gh_ro_sr, gh_ro_ss, gh_ro_sk, gh_ro_hs]
theorem sw_te (T : TS) (r k n : Nat) : g_te (shlT T r k n) = g_te T := by unfold shlT; simp only [gh_te_sr, gh_te_ss, gh_te_sk, gh_te_hs]
theorem sw_cu (T : TS) (r k n : Nat) : g_cu (shlT T r k n) = g_cu T := by unfold shlT; simp only [gh_cu_sr, gh_cu_ss, gh_cu_sk, gh_cu_hs]
theorem sw_tt (T : TS) (r k n : Nat) : g_tt (shlT T r k n) = g_tt T := by unfold shlT; simp only [gh_tt_sr, gh_tt_ss, gh_tt_sk, gh_tt_hs]
theorem sw_tv (T : TS) (r k n : Nat) : g_tv (shlT T r k n) = g_tv T := by unfold shlT; simp only [gh_tv_sr, gh_tv_ss, gh_tv_sk, gh_tv_hs]
theorem sw_tf (T : TS) (r k n : Nat) : g_tf (shlT T r k n) = g_tf T := by unfold shlT; simp only [gh_tf_sr, gh_tf_ss, gh_tf_sk, gh_tf_hs]
theorem sw_tl (T : TS) (r k n : Nat) : g_tl (shlT T r k n) = g_tl T := by unfold shlT; simp only [gh_tl_sr, gh_tl_ss, gh_tl_sk, gh_tl_hs]
theorem sw_tn (T : TS) (r k n : Nat) : g_tn (shlT T r k n) = g_tn T := by unfold shlT; simp only [gh_tn_sr, gh_tn_ss, gh_tn_sk, gh_tn_hs]
theorem sw_tm (T : TS) (r k n : Nat) : g_tm (shlT T r k n) = g_tm T := by unfold shlT; simp only [gh_tm_sr, gh_tm_ss, gh_tm_sk, gh_tm_hs]
theorem sw_tu (T : TS) (r k n : Nat) : g_tu (shlT T r k n) = g_tu T := by unfold shlT; simp only [gh_tu_sr, gh_tu_ss, gh_tu_sk, gh_tu_hs]
theorem sw_le (T : TS) (r k n : Nat) : g_le (shlT T r k n) = g_le T := by unfold shlT; simp only [gh_le_sr, gh_le_ss, gh_le_sk, gh_le_hs]
theorem sw_cl (T : TS) (r k n : Nat) : g_cl (shlT T r k n) = g_cl T := by unfold shlT; simp only [gh_cl_sr, gh_cl_ss, gh_cl_sk, gh_cl_hs]
theorem sw_lt (T : TS) (r k n : Nat) : g_lt (shlT T r k n) = g_lt T := by unfold shlT; simp only [gh_lt_sr, gh_lt_ss, gh_lt_sk, gh_lt_hs]
theorem sw_lk (T : TS) (r k n : Nat) : g_lk (shlT T r k n) = g_lk T := by unfold shlT; simp only [gh_lk_sr, gh_lk_ss, gh_lk_sk, gh_lk_hs]
theorem sw_lf (T : TS) (r k n : Nat) : g_lf (shlT T r k n) = g_lf T := by unfold shlT; simp only [gh_lf_sr, gh_lf_ss, gh_lf_sk, gh_lf_hs]
theorem sw_lo (T : TS) (r k n : Nat) : g_lo (shlT T r k n) = g_lo T := by unfold shlT; simp only [gh_lo_sr, gh_lo_ss, gh_lo_sk, gh_lo_hs]
theorem sw_wm (T : TS) (r k n : Nat) : g_wm (shlT T r k n) = g_wm T := by unfold shlT; simp only [gh_wm_sr, gh_wm_ss, gh_wm_sk, gh_wm_hs]
theorem sw_wr (T : TS) (r k n : Nat) : g_wr (shlT T r k n) = g_wr T := by unfold shlT; simp only [gh_wr_sr, gh_wr_ss, gh_wr_sk, gh_wr_hs]
theorem sw_fo (T : TS) (r k n : Nat) : g_fo (shlT T r k n) = g_fo T := by unfold shlT; simp only [gh_fo_sr, gh_fo_ss, gh_fo_sk, gh_fo_hs]
theorem sw_fi (T : TS) (r k n : Nat) : g_fi (shlT T r k n) = g_fi T := by unfold shlT; simp only [gh_fi_sr, gh_fi_ss, gh_fi_sk, gh_fi_hs]
theorem sw_hr (T : TS) (r k n : Nat) : g_hr (shlT T r k n) = g_hr T := by unfold shlT; simp only [gh_hr_sr, gh_hr_ss, gh_hr_sk, gh_hr_hs]
theorem sw_rk (T : TS) (r k n : Nat) : g_rk (shlT T r k n) = g_rk T := by unfold shlT; simp only [gh_rk_sr, gh_rk_ss, gh_rk_sk, gh_rk_hs]
theorem sw_rs (T : TS) (r k n : Nat) : g_rs (shlT T r k n) = g_rs T := by unfold shlT; simp only [gh_rs_sr, gh_rs_ss, gh_rs_sk, gh_rs_hs]
theorem sw_rr (T : TS) (r k n : Nat) : g_rr (shlT T r k n) = g_rr T := by unfold shlT; simp only [gh_rr_sr, gh_rr_ss, gh_rr_sk, gh_rr_hs]
theorem sw_hs (T : TS) (r k n : Nat) : g_hs (shlT T r k n) = va_up (g_hs T) r true := by unfold shlT; simp only [gh_hs_sr, gh_hs_ss, gh_hs_sk, gh_hs_hs]
theorem sw_sk (T : TS) (r k n : Nat) : g_sk (shlT T r k n) = va_up (g_sk T) r k := by unfold shlT; simp only [gh_sk_sr, gh_sk_ss, gh_sk_sk, gh_sk_hs]
theorem sw_ss (T : TS) (r k n : Nat) : g_ss (shlT T r k n) = va_up (g_ss T) r n := by unfold shlT; simp only [gh_ss_sr, gh_ss_ss, gh_ss_sk, gh_ss_hs]
theorem sw_sr (T : TS) (r k n : Nat) : g_sr (shlT T r k n) = va_u2 (g_sr T) r (fun _ => 0) := by unfold shlT; simp only [gh_sr_sr, gh_sr_ss, gh_sr_sk, gh_sr_hs]
theorem sw_fa (T : TS) (r k n : Nat) : g_fa (shlT T r k n) = g_fa T := by unfold shlT; simp only [gh_fa_sr, gh_fa_ss, gh_fa_sk, gh_fa_hs]
theorem sw_su (T : TS) (r k n : Nat) : g_su (shlT T r k n) = g_su T := by unfold shlT; simp only [gh_su_sr, gh_su_ss, gh_su_sk, gh_su_hs]
theorem sw_tr (T : TS) (r k n : Nat) : g_tr (shlT T r k n) = g_tr T := by unfold shlT; simp only [gh_tr_sr, gh_tr_ss, gh_tr_sk, gh_tr_hs]
theorem sw_pl (T : TS) (r k n : Nat) : g_pl (shlT T r k n) = g_pl T := by unfold shlT; simp only [gh_pl_sr, gh_pl_ss, gh_pl_sk, gh_pl_hs]
set_option maxHeartbeats 2000000 in
theorem U_rk {c B : Nat} {σ τ : ZS} {T : TS} {K : KS} (h : cG c B σ T K) {b s k n : Nat} (hB : B ≤ b) (hz : zn σ = b + 1) (hN : rwN σ τ b k n (-1)) (hs : s < 4) : cG c (b + 2) (qr τ (c + 9) s (some b)) (rkT T s k n) (j_wa K (va_up (k_wa K) s b)) := by
  have e_np := rw_np T s k n
  have e_pk := rw_pk T s k n
  have e_nb := rw_nb T s k n
  have e_bt := rw_bt T s k n
  have e_ev := rw_ev T s k n
  have e_ct := rw_ct T s k n
  have e_th := rw_th T s k n
  have e_vo := rw_vo T s k n
  have e_kd := rw_kd T s k n
  have e_pn := rw_pn T s k n
  have e_pi := rw_pi T s k n
  have e_va := rw_va T s k n
  have e_dt := rw_dt T s k n
  have e_ti := rw_ti T s k n
  have e_mn := rw_mn T s k n
  have e_ro := rw_ro T s k n
  have e_te := rw_te T s k n
  have e_cu := rw_cu T s k n
  have e_tt := rw_tt T s k n
  have e_tv := rw_tv T s k n
  have e_tf := rw_tf T s k n
  have e_tl := rw_tl T s k n
  have e_tn := rw_tn T s k n
  have e_tm := rw_tm T s k n
  have e_tu := rw_tu T s k n
  have e_le := rw_le T s k n
  have e_cl := rw_cl T s k n
  have e_lt := rw_lt T s k n
  have e_lk := rw_lk T s k n
  have e_lf := rw_lf T s k n
  have e_lo := rw_lo T s k n
  have e_wm := rw_wm T s k n
  have e_wr := rw_wr T s k n
  have e_fo := rw_fo T s k n
  have e_fi := rw_fi T s k n
  have e_hr := rw_hr T s k n
  have e_rk := rw_rk T s k n
  have e_rs := rw_rs T s k n
  have e_rr := rw_rr T s k n
  have e_hs := rw_hs T s k n
  have e_sk := rw_sk T s k n
  have e_ss := rw_ss T s k n
  have e_sr := rw_sr T s k n
  have e_fa := rw_fa T s k n
  have e_su := rw_su T s k n
  have e_tr := rw_tr T s k n
  have e_pl := rw_pl T s k n
  have hzt := hN.2.1
  have h1 : cG c (b + 2) τ T K := cG_up (cG_ag (zag_le hB hN.1) h) (by omega) (by omega)
  have hB12 := (cf_B h).1
  generalize rkT T s k n = S at *
  exact ⟨(cf_sh h1 :),
  (cf_B h1 :),
  (by
  try simp only [e_np, e_ev, e_te, e_le, e_nb]
  exact (cf_bd h1 :)),
  (by
  try simp only [e_np, e_pk, kj_pa_wa]
  exact (cf_pk h1 :)),
  (by
  try simp only [e_np, kj_va_wa]
  exact (cf_vk h1 :)),
  (by
  try simp only [e_ev, e_kd, kj_ea_wa]
  exact (cf_ek h1 :)),
  (by
  try simp only [e_te, kj_ta_wa]
  exact (cf_tk h1 :)),
  (by
  try simp only [e_le, kj_la_wa]
  exact (cf_lk h1 :)),
  (by
  try simp only [e_hr, e_rs, kj_wa_wa]
  intro r q0 q1
  by_cases q : r = s
  · subst q
    try simp only [up_eq, u2_eq] at *
    exact ⟨hN.2.2.1, hN.2.2.2.1, by omega, by omega⟩
  · try simp only [up_ne q, u2_ne q, up_ne (show r ≠ s by omega)] at *
    exact cf_rk h1 r q0 q1),
  (by
  try simp only [e_hs, e_ss, kj_wa_wa]
  intro r q0 q1
  simp only [up_ne (show r + 4 ≠ s by omega)]
  exact cf_sk h1 r q0 q1),
  (by
  try simp only [e_np, kj_pa_wa]
  exact (cf_pai h1 :)),
  (by
  try simp only [e_le, kj_la_wa]
  exact (cf_lai h1 :)),
  (by
  try simp only [kj_wa_wa]
  intro i j hi hj ri rj hq
  have hlow : ∀ y, y < 8 → y ≠ s → rwP S y = true → rwP T y = true ∧ k_wa K y < B := by
    intro y hy hne hr9
    have e9 : rwP S y = rwP T y := by
      unfold rwP
      rw [e_hr, e_hs]
      by_cases hy4 : y < 4
      · rw [if_pos hy4, if_pos hy4]
        exact up_ne (by omega)
      · rw [if_neg hy4, if_neg hy4]
    rw [e9] at hr9
    refine ⟨hr9, ?_⟩
    unfold rwP at hr9
    by_cases hy4 : y < 4
    · rw [if_pos hy4] at hr9
      exact Nat.lt_of_succ_lt (cf_rk h y hy4 hr9).2.2.2
    · rw [if_neg hy4] at hr9
      have := (cf_sk h (y - 4) (by omega) hr9).2.2.2
      rw [show y - 4 + 4 = y by omega] at this
      omega
  by_cases q1 : i = s
  · by_cases q2 : j = s
    · rw [q1, q2]
    · rw [q1, up_eq, up_ne q2] at hq
      have := (hlow j hj q2 rj).2
      omega
  · by_cases q2 : j = s
    · rw [q2, up_eq, up_ne q1] at hq
      have := (hlow i hi q1 ri).2
      omega
    · rw [up_ne q1, up_ne q2] at hq
      exact cf_wai h i j hi hj (hlow i hi q1 ri).1 (hlow j hj q2 rj).1 hq),
  (by
  try simp only [e_np]
  exact (cf_np h1 :)),
  (by
  try simp only [e_nb]
  exact (cf_nb h1 :)),
  (by
  try simp only [e_ev]
  exact (cf_ev h1 :)),
  (by
  try simp only [e_te]
  exact (cf_te h1 :)),
  (by
  try simp only [e_le]
  exact (cf_le h1 :)),
  (by
  try simp only [e_wm]
  exact (cf_wm h1 :)),
  (by
  try simp only [e_fo]
  exact (cf_fo h1 :)),
  (by
  try simp only [e_su]
  exact (cf_su h1 :)),
  (by
  try simp only [e_np, kj_pa_wa]
  exact (fun i q0 => Eq.trans (if_neg (fun z => absurd z.1 (by omega))) (cf_pa h1 i q0))),
  (by
  try simp only [e_np, kj_pa_wa, kj_as_wa]
  exact (cf_pas h1 :)),
  (by
  try simp only [e_np, kj_va_wa]
  exact (fun v q0 => Eq.trans (if_neg (fun z => absurd z.1 (by omega))) (cf_va h1 v q0))),
  (by
  try simp only [e_np, kj_va_wa]
  exact (cf_vn h1 :)),
  (by
  try simp only [e_np, kj_va_wa, kj_pa_wa]
  exact (cf_vi h1 :)),
  (by
  try simp only [e_np, kj_va_wa]
  exact (cf_ve h1 :)),
  (by
  try simp only [e_np, e_mn, kj_va_wa]
  exact (cf_vs h1 :)),
  (by
  try simp only [e_np, kj_va_wa, kj_wt_wa]
  exact (cf_vw h1 :)),
  (by
  try simp only [e_np, kj_va_wa, kj_vl_wa]
  exact (cf_vl h1 :)),
  (by
  try simp only [e_np, e_mn, e_ro, kj_va_wa, kj_ea_wa]
  exact (fun v p q0 q1 => Eq.trans (if_neg (fun z => absurd z.1 (by have := (cf_vk h1 v q0).2.2.1; omega))) (cf_ro h1 v p q0 q1))),
  (by
  try simp only [e_nb, kj_be_wa]
  exact (cf_be h1 :)),
  (by
  try simp only [e_ev, e_th, kj_ea_wa]
  exact (fun e q0 => Eq.trans (if_neg (fun z => absurd z.1 (by omega))) (cf_ea h1 e q0))),
  (by
  try simp only [e_ev, kj_ea_wa]
  exact (cf_en h1 :)),
  (by
  try simp only [e_ev, e_vo, kj_ea_wa, kj_va_wa]
  exact (cf_eo h1 :)),
  (by
  try simp only [e_ev, e_kd, kj_ea_wa]
  exact (cf_ed h1 :)),
  (by
  try simp only [e_ev, kj_ea_wa]
  exact (cf_ep h1 :)),
  (by
  try simp only [e_ev, e_pn, kj_ea_wa]
  exact (cf_ec h1 :)),
  (by
  try simp only [e_ev, e_va, kj_ea_wa]
  exact (cf_et h1 :)),
  (by
  try simp only [e_ev, e_dt, kj_ea_wa]
  exact (cf_es h1 :)),
  (by
  try simp only [e_ev, e_ti, kj_ea_wa]
  exact (cf_ei h1 :)),
  (by
  try simp only [e_ev, kj_ea_wa, kj_pl_wa]
  exact (cf_el h1 :)),
  (by
  try simp only [e_ev, kj_ea_wa, kj_bg_wa]
  exact (cf_eb h1 :)),
  (by
  try simp only [e_ev, kj_ea_wa, kj_ls_wa]
  exact (cf_ez h1 :)),
  (by
  try simp only [e_ev, e_pn, e_pi, kj_ea_wa]
  exact (cf_pi h1 :)),
  (by
  try simp only [e_te, e_tt, kj_ta_wa]
  exact (fun t q0 => Eq.trans (if_neg (fun z => absurd z.1 (by omega))) (cf_ta h1 t q0))),
  (by
  try simp only [e_te, kj_ta_wa]
  exact (cf_tq h1 :)),
  (by
  try simp only [e_te, e_tt, e_tv, kj_ta_wa, kj_va_wa]
  exact (cf_to h1 :)),
  (by
  try simp only [e_te, kj_ta_wa, kj_t1_wa]
  exact (cf_t1 h1 :)),
  (by
  try simp only [e_te, kj_ta_wa, kj_tk_wa]
  exact (cf_t2 h1 :)),
  (by
  try simp only [e_te, e_tn, kj_ta_wa]
  exact (cf_tn h1 :)),
  (by
  try simp only [e_te, e_tm, kj_ta_wa]
  exact (cf_tm h1 :)),
  (by
  try simp only [e_te, e_tu, kj_ta_wa]
  exact (cf_tu h1 :)),
  (by
  try simp only [e_le, e_lt, kj_la_wa]
  exact (fun l q0 => Eq.trans (if_neg (fun z => absurd z.1 (by omega))) (cf_la h1 l q0))),
  (by
  try simp only [e_le, e_lk, kj_la_wa]
  exact (cf_lj h1 :)),
  (by
  try simp only [e_le, e_lt, e_lf, kj_la_wa, kj_ea_wa]
  exact (cf_lf h1 :)),
  (by
  try simp only [e_le, e_lt, e_lo, kj_la_wa, kj_ea_wa]
  exact (cf_lo h1 :)),
  (by
  try simp only [e_wm, e_wr]
  exact (cf_wr h1 :)),
  (by
  try simp only [e_fi]
  exact (cf_fi h1 :)),
  (by
  try simp only [e_fa]
  exact (cf_fa h1 :)),
  (by
  try simp only [e_hr, kj_wa_wa]
  intro r q0
  by_cases q : r = s
  · subst q
    try simp only [up_eq, u2_eq] at *
    first | rw [if_pos rfl] | rw [if_pos trivial]
    exact if_pos ⟨rfl, rfl⟩
  · try simp only [up_ne q, u2_ne q, up_ne (show r ≠ s by omega)] at *
    exact Eq.trans (if_neg (fun z => q z.2)) (cf_ra h1 r q0)),
  (by
  try simp only [e_hs, kj_wa_wa]
  intro r q0
  try rw [up_ne (show r + 4 ≠ s by omega)]
  exact Eq.trans (if_neg (fun z => absurd z.1 (by omega))) (cf_sa h1 r q0)),
  (by
  try simp only [e_hr, e_rk, kj_wa_wa]
  intro r q0 q1
  by_cases q : r = s
  · subst q
    try simp only [up_eq, u2_eq] at *
    exact hN.2.2.2.2.1
  · try simp only [up_ne q, u2_ne q, up_ne (show r ≠ s by omega)] at *
    exact cf_rd h1 r q0 q1),
  (by
  try simp only [e_hs, e_sk, kj_wa_wa]
  intro r q0 q1
  try rw [up_ne (show r + 4 ≠ s by omega)]
  exact cf_sd h1 r q0 q1),
  (by
  try simp only [e_hr, kj_wa_wa]
  intro r q0 q1
  by_cases q : r = s
  · subst q
    try simp only [up_eq, u2_eq] at *
    exact hN.2.2.2.2.2.1
  · try simp only [up_ne q, u2_ne q, up_ne (show r ≠ s by omega)] at *
    exact cf_rt h1 r q0 q1),
  (by
  try simp only [e_hs, kj_wa_wa]
  intro r q0 q1
  simp only [up_ne (show r + 4 ≠ s by omega)]
  exact cf_st h1 r q0 q1),
  (by
  try simp only [e_hr, e_rs, e_rr, kj_wa_wa]
  intro r j q0 q1 q2
  by_cases q : r = s
  · subst q
    try simp only [up_eq, u2_eq] at *
    exact hN.2.2.2.2.2.2 j q2
  · try simp only [up_ne q, u2_ne q, up_ne (show r ≠ s by omega)] at *
    exact cf_rr h1 r j q0 q1 q2),
  (by
  try simp only [e_hs, e_ss, e_sr, kj_wa_wa]
  intro r j q0 q1 q2
  try rw [up_ne (show r + 4 ≠ s by omega)]
  exact cf_sr h1 r j q0 q1 q2)⟩
set_option maxHeartbeats 2000000 in
theorem U_shl {c B : Nat} {σ τ : ZS} {T : TS} {K : KS} (h : cG c B σ T K) {b s k n : Nat} (hB : B ≤ b) (hz : zn σ = b + 1) (hN : rwN σ τ b k n 0) (hs : s < 4) : cG c (b + 2) (qr τ (c + 10) s (some b)) (shlT T s k n) (j_wa K (va_up (k_wa K) (s + 4) b)) := by
  have e_np := sw_np T s k n
  have e_pk := sw_pk T s k n
  have e_nb := sw_nb T s k n
  have e_bt := sw_bt T s k n
  have e_ev := sw_ev T s k n
  have e_ct := sw_ct T s k n
  have e_th := sw_th T s k n
  have e_vo := sw_vo T s k n
  have e_kd := sw_kd T s k n
  have e_pn := sw_pn T s k n
  have e_pi := sw_pi T s k n
  have e_va := sw_va T s k n
  have e_dt := sw_dt T s k n
  have e_ti := sw_ti T s k n
  have e_mn := sw_mn T s k n
  have e_ro := sw_ro T s k n
  have e_te := sw_te T s k n
  have e_cu := sw_cu T s k n
  have e_tt := sw_tt T s k n
  have e_tv := sw_tv T s k n
  have e_tf := sw_tf T s k n
  have e_tl := sw_tl T s k n
  have e_tn := sw_tn T s k n
  have e_tm := sw_tm T s k n
  have e_tu := sw_tu T s k n
  have e_le := sw_le T s k n
  have e_cl := sw_cl T s k n
  have e_lt := sw_lt T s k n
  have e_lk := sw_lk T s k n
  have e_lf := sw_lf T s k n
  have e_lo := sw_lo T s k n
  have e_wm := sw_wm T s k n
  have e_wr := sw_wr T s k n
  have e_fo := sw_fo T s k n
  have e_fi := sw_fi T s k n
  have e_hr := sw_hr T s k n
  have e_rk := sw_rk T s k n
  have e_rs := sw_rs T s k n
  have e_rr := sw_rr T s k n
  have e_hs := sw_hs T s k n
  have e_sk := sw_sk T s k n
  have e_ss := sw_ss T s k n
  have e_sr := sw_sr T s k n
  have e_fa := sw_fa T s k n
  have e_su := sw_su T s k n
  have e_tr := sw_tr T s k n
  have e_pl := sw_pl T s k n
  have hzt := hN.2.1
  have h1 : cG c (b + 2) τ T K := cG_up (cG_ag (zag_le hB hN.1) h) (by omega) (by omega)
  have hB12 := (cf_B h).1
  generalize shlT T s k n = S at *
  exact ⟨(cf_sh h1 :),
  (cf_B h1 :),
  (by
  try simp only [e_np, e_ev, e_te, e_le, e_nb]
  exact (cf_bd h1 :)),
  (by
  try simp only [e_np, e_pk, kj_pa_wa]
  exact (cf_pk h1 :)),
  (by
  try simp only [e_np, kj_va_wa]
  exact (cf_vk h1 :)),
  (by
  try simp only [e_ev, e_kd, kj_ea_wa]
  exact (cf_ek h1 :)),
  (by
  try simp only [e_te, kj_ta_wa]
  exact (cf_tk h1 :)),
  (by
  try simp only [e_le, kj_la_wa]
  exact (cf_lk h1 :)),
  (by
  try simp only [e_hr, e_rs, kj_wa_wa]
  intro r q0 q1
  simp only [up_ne (show r ≠ s + 4 by omega)]
  exact cf_rk h1 r q0 q1),
  (by
  try simp only [e_hs, e_ss, kj_wa_wa]
  intro r q0 q1
  by_cases q : r = s
  · subst q
    try simp only [up_eq, u2_eq] at *
    exact ⟨hN.2.2.1, hN.2.2.2.1, by omega, by omega⟩
  · try simp only [up_ne q, u2_ne q, up_ne (show r + 4 ≠ s + 4 by omega)] at *
    exact cf_sk h1 r q0 q1),
  (by
  try simp only [e_np, kj_pa_wa]
  exact (cf_pai h1 :)),
  (by
  try simp only [e_le, kj_la_wa]
  exact (cf_lai h1 :)),
  (by
  try simp only [kj_wa_wa]
  intro i j hi hj ri rj hq
  have hlow : ∀ y, y < 8 → y ≠ s + 4 → rwP S y = true → rwP T y = true ∧ k_wa K y < B := by
    intro y hy hne hr9
    have e9 : rwP S y = rwP T y := by
      unfold rwP
      rw [e_hr, e_hs]
      by_cases hy4 : y < 4
      · rw [if_pos hy4, if_pos hy4]
      · rw [if_neg hy4, if_neg hy4]
        exact up_ne (by omega)
    rw [e9] at hr9
    refine ⟨hr9, ?_⟩
    unfold rwP at hr9
    by_cases hy4 : y < 4
    · rw [if_pos hy4] at hr9
      exact Nat.lt_of_succ_lt (cf_rk h y hy4 hr9).2.2.2
    · rw [if_neg hy4] at hr9
      have := (cf_sk h (y - 4) (by omega) hr9).2.2.2
      rw [show y - 4 + 4 = y by omega] at this
      omega
  by_cases q1 : i = s + 4
  · by_cases q2 : j = s + 4
    · rw [q1, q2]
    · rw [q1, up_eq, up_ne q2] at hq
      have := (hlow j hj q2 rj).2
      omega
  · by_cases q2 : j = s + 4
    · rw [q2, up_eq, up_ne q1] at hq
      have := (hlow i hi q1 ri).2
      omega
    · rw [up_ne q1, up_ne q2] at hq
      exact cf_wai h i j hi hj (hlow i hi q1 ri).1 (hlow j hj q2 rj).1 hq),
  (by
  try simp only [e_np]
  exact (cf_np h1 :)),
  (by
  try simp only [e_nb]
  exact (cf_nb h1 :)),
  (by
  try simp only [e_ev]
  exact (cf_ev h1 :)),
  (by
  try simp only [e_te]
  exact (cf_te h1 :)),
  (by
  try simp only [e_le]
  exact (cf_le h1 :)),
  (by
  try simp only [e_wm]
  exact (cf_wm h1 :)),
  (by
  try simp only [e_fo]
  exact (cf_fo h1 :)),
  (by
  try simp only [e_su]
  exact (cf_su h1 :)),
  (by
  try simp only [e_np, kj_pa_wa]
  exact (fun i q0 => Eq.trans (if_neg (fun z => absurd z.1 (by omega))) (cf_pa h1 i q0))),
  (by
  try simp only [e_np, kj_pa_wa, kj_as_wa]
  exact (cf_pas h1 :)),
  (by
  try simp only [e_np, kj_va_wa]
  exact (fun v q0 => Eq.trans (if_neg (fun z => absurd z.1 (by omega))) (cf_va h1 v q0))),
  (by
  try simp only [e_np, kj_va_wa]
  exact (cf_vn h1 :)),
  (by
  try simp only [e_np, kj_va_wa, kj_pa_wa]
  exact (cf_vi h1 :)),
  (by
  try simp only [e_np, kj_va_wa]
  exact (cf_ve h1 :)),
  (by
  try simp only [e_np, e_mn, kj_va_wa]
  exact (cf_vs h1 :)),
  (by
  try simp only [e_np, kj_va_wa, kj_wt_wa]
  exact (cf_vw h1 :)),
  (by
  try simp only [e_np, kj_va_wa, kj_vl_wa]
  exact (cf_vl h1 :)),
  (by
  try simp only [e_np, e_mn, e_ro, kj_va_wa, kj_ea_wa]
  exact (fun v p q0 q1 => Eq.trans (if_neg (fun z => absurd z.1 (by have := (cf_vk h1 v q0).2.2.1; omega))) (cf_ro h1 v p q0 q1))),
  (by
  try simp only [e_nb, kj_be_wa]
  exact (cf_be h1 :)),
  (by
  try simp only [e_ev, e_th, kj_ea_wa]
  exact (fun e q0 => Eq.trans (if_neg (fun z => absurd z.1 (by omega))) (cf_ea h1 e q0))),
  (by
  try simp only [e_ev, kj_ea_wa]
  exact (cf_en h1 :)),
  (by
  try simp only [e_ev, e_vo, kj_ea_wa, kj_va_wa]
  exact (cf_eo h1 :)),
  (by
  try simp only [e_ev, e_kd, kj_ea_wa]
  exact (cf_ed h1 :)),
  (by
  try simp only [e_ev, kj_ea_wa]
  exact (cf_ep h1 :)),
  (by
  try simp only [e_ev, e_pn, kj_ea_wa]
  exact (cf_ec h1 :)),
  (by
  try simp only [e_ev, e_va, kj_ea_wa]
  exact (cf_et h1 :)),
  (by
  try simp only [e_ev, e_dt, kj_ea_wa]
  exact (cf_es h1 :)),
  (by
  try simp only [e_ev, e_ti, kj_ea_wa]
  exact (cf_ei h1 :)),
  (by
  try simp only [e_ev, kj_ea_wa, kj_pl_wa]
  exact (cf_el h1 :)),
  (by
  try simp only [e_ev, kj_ea_wa, kj_bg_wa]
  exact (cf_eb h1 :)),
  (by
  try simp only [e_ev, kj_ea_wa, kj_ls_wa]
  exact (cf_ez h1 :)),
  (by
  try simp only [e_ev, e_pn, e_pi, kj_ea_wa]
  exact (cf_pi h1 :)),
  (by
  try simp only [e_te, e_tt, kj_ta_wa]
  exact (fun t q0 => Eq.trans (if_neg (fun z => absurd z.1 (by omega))) (cf_ta h1 t q0))),
  (by
  try simp only [e_te, kj_ta_wa]
  exact (cf_tq h1 :)),
  (by
  try simp only [e_te, e_tt, e_tv, kj_ta_wa, kj_va_wa]
  exact (cf_to h1 :)),
  (by
  try simp only [e_te, kj_ta_wa, kj_t1_wa]
  exact (cf_t1 h1 :)),
  (by
  try simp only [e_te, kj_ta_wa, kj_tk_wa]
  exact (cf_t2 h1 :)),
  (by
  try simp only [e_te, e_tn, kj_ta_wa]
  exact (cf_tn h1 :)),
  (by
  try simp only [e_te, e_tm, kj_ta_wa]
  exact (cf_tm h1 :)),
  (by
  try simp only [e_te, e_tu, kj_ta_wa]
  exact (cf_tu h1 :)),
  (by
  try simp only [e_le, e_lt, kj_la_wa]
  exact (fun l q0 => Eq.trans (if_neg (fun z => absurd z.1 (by omega))) (cf_la h1 l q0))),
  (by
  try simp only [e_le, e_lk, kj_la_wa]
  exact (cf_lj h1 :)),
  (by
  try simp only [e_le, e_lt, e_lf, kj_la_wa, kj_ea_wa]
  exact (cf_lf h1 :)),
  (by
  try simp only [e_le, e_lt, e_lo, kj_la_wa, kj_ea_wa]
  exact (cf_lo h1 :)),
  (by
  try simp only [e_wm, e_wr]
  exact (cf_wr h1 :)),
  (by
  try simp only [e_fi]
  exact (cf_fi h1 :)),
  (by
  try simp only [e_fa]
  exact (cf_fa h1 :)),
  (by
  try simp only [e_hr, kj_wa_wa]
  intro r q0
  try rw [up_ne (show r ≠ s + 4 by omega)]
  exact Eq.trans (if_neg (fun z => absurd z.1 (by omega))) (cf_ra h1 r q0)),
  (by
  try simp only [e_hs, kj_wa_wa]
  intro r q0
  by_cases q : r = s
  · subst q
    try simp only [up_eq, u2_eq] at *
    first | rw [if_pos rfl] | rw [if_pos trivial]
    exact if_pos ⟨rfl, rfl⟩
  · try simp only [up_ne q, u2_ne q, up_ne (show r + 4 ≠ s + 4 by omega)] at *
    exact Eq.trans (if_neg (fun z => q z.2)) (cf_sa h1 r q0)),
  (by
  try simp only [e_hr, e_rk, kj_wa_wa]
  intro r q0 q1
  try rw [up_ne (show r ≠ s + 4 by omega)]
  exact cf_rd h1 r q0 q1),
  (by
  try simp only [e_hs, e_sk, kj_wa_wa]
  intro r q0 q1
  by_cases q : r = s
  · subst q
    try simp only [up_eq, u2_eq] at *
    exact hN.2.2.2.2.1
  · try simp only [up_ne q, u2_ne q, up_ne (show r + 4 ≠ s + 4 by omega)] at *
    exact cf_sd h1 r q0 q1),
  (by
  try simp only [e_hr, kj_wa_wa]
  intro r q0 q1
  simp only [up_ne (show r ≠ s + 4 by omega)]
  exact cf_rt h1 r q0 q1),
  (by
  try simp only [e_hs, kj_wa_wa]
  intro r q0 q1
  by_cases q : r = s
  · subst q
    try simp only [up_eq, u2_eq] at *
    exact hN.2.2.2.2.2.1
  · try simp only [up_ne q, u2_ne q, up_ne (show r + 4 ≠ s + 4 by omega)] at *
    exact cf_st h1 r q0 q1),
  (by
  try simp only [e_hr, e_rs, e_rr, kj_wa_wa]
  intro r j q0 q1 q2
  try rw [up_ne (show r ≠ s + 4 by omega)]
  exact cf_rr h1 r j q0 q1 q2),
  (by
  try simp only [e_hs, e_ss, e_sr, kj_wa_wa]
  intro r j q0 q1 q2
  by_cases q : r = s
  · subst q
    try simp only [up_eq, u2_eq] at *
    exact hN.2.2.2.2.2.2 j q2
  · try simp only [up_ne q, u2_ne q, up_ne (show r + 4 ≠ s + 4 by omega)] at *
    exact cf_sr h1 r j q0 q1 q2)⟩
