theorem pt_np (T : TS) (v p k : Nat) (q : Int32) (a d : Nat) : g_np (putT T v p k q a d) = g_np T := by unfold putT; simp only [gh_np_pl, gh_np_mn, gh_np_ro, gh_np_ti, gh_np_dt, gh_np_va, gh_np_pi, gh_np_pn, gh_np_kd, gh_np_vo, gh_np_th, gh_np_ct, gh_np_ev]
theorem pt_pk (T : TS) (v p k : Nat) (q : Int32) (a d : Nat) : g_pk (putT T v p k q a d) = g_pk T := by unfold putT; simp only [gh_pk_pl, gh_pk_mn, gh_pk_ro, gh_pk_ti, gh_pk_dt, gh_pk_va, gh_pk_pi, gh_pk_pn, gh_pk_kd, gh_pk_vo, gh_pk_th, gh_pk_ct, gh_pk_ev]
theorem pt_nb (T : TS) (v p k : Nat) (q : Int32) (a d : Nat) : g_nb (putT T v p k q a d) = g_nb T := by unfold putT; simp only [gh_nb_pl, gh_nb_mn, gh_nb_ro, gh_nb_ti, gh_nb_dt, gh_nb_va, gh_nb_pi, gh_nb_pn, gh_nb_kd, gh_nb_vo, gh_nb_th, gh_nb_ct, gh_nb_ev]
theorem pt_bt (T : TS) (v p k : Nat) (q : Int32) (a d : Nat) : g_bt (putT T v p k q a d) = g_bt T := by unfold putT; simp only [gh_bt_pl, gh_bt_mn, gh_bt_ro, gh_bt_ti, gh_bt_dt, gh_bt_va, gh_bt_pi, gh_bt_pn, gh_bt_kd, gh_bt_vo, gh_bt_th, gh_bt_ct, gh_bt_ev]
theorem pt_ev (T : TS) (v p k : Nat) (q : Int32) (a d : Nat) : g_ev (putT T v p k q a d) = g_ev T + 1 := by unfold putT; simp only [gh_ev_pl, gh_ev_mn, gh_ev_ro, gh_ev_ti, gh_ev_dt, gh_ev_va, gh_ev_pi, gh_ev_pn, gh_ev_kd, gh_ev_vo, gh_ev_th, gh_ev_ct, gh_ev_ev]
theorem pt_ct (T : TS) (v p k : Nat) (q : Int32) (a d : Nat) : g_ct (putT T v p k q a d) = g_ct T + 1 := by unfold putT; simp only [gh_ct_pl, gh_ct_mn, gh_ct_ro, gh_ct_ti, gh_ct_dt, gh_ct_va, gh_ct_pi, gh_ct_pn, gh_ct_kd, gh_ct_vo, gh_ct_th, gh_ct_ct, gh_ct_ev]
theorem pt_th (T : TS) (v p k : Nat) (q : Int32) (a d : Nat) : g_th (putT T v p k q a d) = va_up (g_th T) (g_ev T) true := by unfold putT; simp only [gh_th_pl, gh_th_mn, gh_th_ro, gh_th_ti, gh_th_dt, gh_th_va, gh_th_pi, gh_th_pn, gh_th_kd, gh_th_vo, gh_th_th, gh_th_ct, gh_th_ev]
theorem pt_vo (T : TS) (v p k : Nat) (q : Int32) (a d : Nat) : g_vo (putT T v p k q a d) = va_up (g_vo T) (g_ev T) v := by unfold putT; simp only [gh_vo_pl, gh_vo_mn, gh_vo_ro, gh_vo_ti, gh_vo_dt, gh_vo_va, gh_vo_pi, gh_vo_pn, gh_vo_kd, gh_vo_vo, gh_vo_th, gh_vo_ct, gh_vo_ev]
theorem pt_kd (T : TS) (v p k : Nat) (q : Int32) (a d : Nat) : g_kd (putT T v p k q a d) = va_up (g_kd T) (g_ev T) k := by unfold putT; simp only [gh_kd_pl, gh_kd_mn, gh_kd_ro, gh_kd_ti, gh_kd_dt, gh_kd_va, gh_kd_pi, gh_kd_pn, gh_kd_kd, gh_kd_vo, gh_kd_th, gh_kd_ct, gh_kd_ev]
theorem pt_pn (T : TS) (v p k : Nat) (q : Int32) (a d : Nat) : g_pn (putT T v p k q a d) = va_up (g_pn T) (g_ev T) (if k < 3 then 1 else 0) := by unfold putT; simp only [gh_pn_pl, gh_pn_mn, gh_pn_ro, gh_pn_ti, gh_pn_dt, gh_pn_va, gh_pn_pi, gh_pn_pn, gh_pn_kd, gh_pn_vo, gh_pn_th, gh_pn_ct, gh_pn_ev]
theorem pt_pi (T : TS) (v p k : Nat) (q : Int32) (a d : Nat) : g_pi (putT T v p k q a d) = va_u2 (g_pi T) (g_ev T) (va_up (g_pi T (g_ev T)) 0 q) := by unfold putT; simp only [gh_pi_pl, gh_pi_mn, gh_pi_ro, gh_pi_ti, gh_pi_dt, gh_pi_va, gh_pi_pi, gh_pi_pn, gh_pi_kd, gh_pi_vo, gh_pi_th, gh_pi_ct, gh_pi_ev]
theorem pt_va (T : TS) (v p k : Nat) (q : Int32) (a d : Nat) : g_va (putT T v p k q a d) = va_up (g_va T) (g_ev T) a := by unfold putT; simp only [gh_va_pl, gh_va_mn, gh_va_ro, gh_va_ti, gh_va_dt, gh_va_va, gh_va_pi, gh_va_pn, gh_va_kd, gh_va_vo, gh_va_th, gh_va_ct, gh_va_ev]
theorem pt_dt (T : TS) (v p k : Nat) (q : Int32) (a d : Nat) : g_dt (putT T v p k q a d) = va_up (g_dt T) (g_ev T) d := by unfold putT; simp only [gh_dt_pl, gh_dt_mn, gh_dt_ro, gh_dt_ti, gh_dt_dt, gh_dt_va, gh_dt_pi, gh_dt_pn, gh_dt_kd, gh_dt_vo, gh_dt_th, gh_dt_ct, gh_dt_ev]
theorem pt_ti (T : TS) (v p k : Nat) (q : Int32) (a d : Nat) : g_ti (putT T v p k q a d) = va_up (g_ti T) (g_ev T) false := by unfold putT; simp only [gh_ti_pl, gh_ti_mn, gh_ti_ro, gh_ti_ti, gh_ti_dt, gh_ti_va, gh_ti_pi, gh_ti_pn, gh_ti_kd, gh_ti_vo, gh_ti_th, gh_ti_ct, gh_ti_ev]
theorem pt_mn (T : TS) (v p k : Nat) (q : Int32) (a d : Nat) : g_mn (putT T v p k q a d) = va_up (g_mn T) v (g_mn T v + 1) := by unfold putT; simp only [gh_mn_pl, gh_mn_mn, gh_mn_ro, gh_mn_ti, gh_mn_dt, gh_mn_va, gh_mn_pi, gh_mn_pn, gh_mn_kd, gh_mn_vo, gh_mn_th, gh_mn_ct, gh_mn_ev]
theorem pt_ro (T : TS) (v p k : Nat) (q : Int32) (a d : Nat) : g_ro (putT T v p k q a d) = va_u2 (g_ro T) v (inF (g_ro T v) p (g_mn T v) (g_ev T)) := by unfold putT; simp only [gh_ro_pl, gh_ro_mn, gh_ro_ro, gh_ro_ti, gh_ro_dt, gh_ro_va, gh_ro_pi, gh_ro_pn, gh_ro_kd, gh_ro_vo, gh_ro_th, gh_ro_ct, gh_ro_ev]
theorem pt_te (T : TS) (v p k : Nat) (q : Int32) (a d : Nat) : g_te (putT T v p k q a d) = g_te T := by unfold putT; simp only [gh_te_pl, gh_te_mn, gh_te_ro, gh_te_ti, gh_te_dt, gh_te_va, gh_te_pi, gh_te_pn, gh_te_kd, gh_te_vo, gh_te_th, gh_te_ct, gh_te_ev]
theorem pt_cu (T : TS) (v p k : Nat) (q : Int32) (a d : Nat) : g_cu (putT T v p k q a d) = g_cu T := by unfold putT; simp only [gh_cu_pl, gh_cu_mn, gh_cu_ro, gh_cu_ti, gh_cu_dt, gh_cu_va, gh_cu_pi, gh_cu_pn, gh_cu_kd, gh_cu_vo, gh_cu_th, gh_cu_ct, gh_cu_ev]
theorem pt_tt (T : TS) (v p k : Nat) (q : Int32) (a d : Nat) : g_tt (putT T v p k q a d) = g_tt T := by unfold putT; simp only [gh_tt_pl, gh_tt_mn, gh_tt_ro, gh_tt_ti, gh_tt_dt, gh_tt_va, gh_tt_pi, gh_tt_pn, gh_tt_kd, gh_tt_vo, gh_tt_th, gh_tt_ct, gh_tt_ev]
theorem pt_tv (T : TS) (v p k : Nat) (q : Int32) (a d : Nat) : g_tv (putT T v p k q a d) = g_tv T := by unfold putT; simp only [gh_tv_pl, gh_tv_mn, gh_tv_ro, gh_tv_ti, gh_tv_dt, gh_tv_va, gh_tv_pi, gh_tv_pn, gh_tv_kd, gh_tv_vo, gh_tv_th, gh_tv_ct, gh_tv_ev]
theorem pt_tf (T : TS) (v p k : Nat) (q : Int32) (a d : Nat) : g_tf (putT T v p k q a d) = g_tf T := by unfold putT; simp only [gh_tf_pl, gh_tf_mn, gh_tf_ro, gh_tf_ti, gh_tf_dt, gh_tf_va, gh_tf_pi, gh_tf_pn, gh_tf_kd, gh_tf_vo, gh_tf_th, gh_tf_ct, gh_tf_ev]
theorem pt_tl (T : TS) (v p k : Nat) (q : Int32) (a d : Nat) : g_tl (putT T v p k q a d) = g_tl T := by unfold putT; simp only [gh_tl_pl, gh_tl_mn, gh_tl_ro, gh_tl_ti, gh_tl_dt, gh_tl_va, gh_tl_pi, gh_tl_pn, gh_tl_kd, gh_tl_vo, gh_tl_th, gh_tl_ct, gh_tl_ev]
theorem pt_tn (T : TS) (v p k : Nat) (q : Int32) (a d : Nat) : g_tn (putT T v p k q a d) = g_tn T := by unfold putT; simp only [gh_tn_pl, gh_tn_mn, gh_tn_ro, gh_tn_ti, gh_tn_dt, gh_tn_va, gh_tn_pi, gh_tn_pn, gh_tn_kd, gh_tn_vo, gh_tn_th, gh_tn_ct, gh_tn_ev]
theorem pt_tm (T : TS) (v p k : Nat) (q : Int32) (a d : Nat) : g_tm (putT T v p k q a d) = g_tm T := by unfold putT; simp only [gh_tm_pl, gh_tm_mn, gh_tm_ro, gh_tm_ti, gh_tm_dt, gh_tm_va, gh_tm_pi, gh_tm_pn, gh_tm_kd, gh_tm_vo, gh_tm_th, gh_tm_ct, gh_tm_ev]
theorem pt_tu (T : TS) (v p k : Nat) (q : Int32) (a d : Nat) : g_tu (putT T v p k q a d) = g_tu T := by unfold putT; simp only [gh_tu_pl, gh_tu_mn, gh_tu_ro, gh_tu_ti, gh_tu_dt, gh_tu_va, gh_tu_pi, gh_tu_pn, gh_tu_kd, gh_tu_vo, gh_tu_th, gh_tu_ct, gh_tu_ev]
theorem pt_le (T : TS) (v p k : Nat) (q : Int32) (a d : Nat) : g_le (putT T v p k q a d) = g_le T := by unfold putT; simp only [gh_le_pl, gh_le_mn, gh_le_ro, gh_le_ti, gh_le_dt, gh_le_va, gh_le_pi, gh_le_pn, gh_le_kd, gh_le_vo, gh_le_th, gh_le_ct, gh_le_ev]
theorem pt_cl (T : TS) (v p k : Nat) (q : Int32) (a d : Nat) : g_cl (putT T v p k q a d) = g_cl T := by unfold putT; simp only [gh_cl_pl, gh_cl_mn, gh_cl_ro, gh_cl_ti, gh_cl_dt, gh_cl_va, gh_cl_pi, gh_cl_pn, gh_cl_kd, gh_cl_vo, gh_cl_th, gh_cl_ct, gh_cl_ev]
theorem pt_lt (T : TS) (v p k : Nat) (q : Int32) (a d : Nat) : g_lt (putT T v p k q a d) = g_lt T := by unfold putT; simp only [gh_lt_pl, gh_lt_mn, gh_lt_ro, gh_lt_ti, gh_lt_dt, gh_lt_va, gh_lt_pi, gh_lt_pn, gh_lt_kd, gh_lt_vo, gh_lt_th, gh_lt_ct, gh_lt_ev]
theorem pt_lk (T : TS) (v p k : Nat) (q : Int32) (a d : Nat) : g_lk (putT T v p k q a d) = g_lk T := by unfold putT; simp only [gh_lk_pl, gh_lk_mn, gh_lk_ro, gh_lk_ti, gh_lk_dt, gh_lk_va, gh_lk_pi, gh_lk_pn, gh_lk_kd, gh_lk_vo, gh_lk_th, gh_lk_ct, gh_lk_ev]
theorem pt_lf (T : TS) (v p k : Nat) (q : Int32) (a d : Nat) : g_lf (putT T v p k q a d) = g_lf T := by unfold putT; simp only [gh_lf_pl, gh_lf_mn, gh_lf_ro, gh_lf_ti, gh_lf_dt, gh_lf_va, gh_lf_pi, gh_lf_pn, gh_lf_kd, gh_lf_vo, gh_lf_th, gh_lf_ct, gh_lf_ev]
theorem pt_lo (T : TS) (v p k : Nat) (q : Int32) (a d : Nat) : g_lo (putT T v p k q a d) = g_lo T := by unfold putT; simp only [gh_lo_pl, gh_lo_mn, gh_lo_ro, gh_lo_ti, gh_lo_dt, gh_lo_va, gh_lo_pi, gh_lo_pn, gh_lo_kd, gh_lo_vo, gh_lo_th, gh_lo_ct, gh_lo_ev]
theorem pt_wm (T : TS) (v p k : Nat) (q : Int32) (a d : Nat) : g_wm (putT T v p k q a d) = g_wm T := by unfold putT; simp only [gh_wm_pl, gh_wm_mn, gh_wm_ro, gh_wm_ti, gh_wm_dt, gh_wm_va, gh_wm_pi, gh_wm_pn, gh_wm_kd, gh_wm_vo, gh_wm_th, gh_wm_ct, gh_wm_ev]
theorem pt_wr (T : TS) (v p k : Nat) (q : Int32) (a d : Nat) : g_wr (putT T v p k q a d) = g_wr T := by unfold putT; simp only [gh_wr_pl, gh_wr_mn, gh_wr_ro, gh_wr_ti, gh_wr_dt, gh_wr_va, gh_wr_pi, gh_wr_pn, gh_wr_kd, gh_wr_vo, gh_wr_th, gh_wr_ct, gh_wr_ev]
theorem pt_fo (T : TS) (v p k : Nat) (q : Int32) (a d : Nat) : g_fo (putT T v p k q a d) = g_fo T := by unfold putT; simp only [gh_fo_pl, gh_fo_mn, gh_fo_ro, gh_fo_ti, gh_fo_dt, gh_fo_va, gh_fo_pi, gh_fo_pn, gh_fo_kd, gh_fo_vo, gh_fo_th, gh_fo_ct, gh_fo_ev]
theorem pt_fi (T : TS) (v p k : Nat) (q : Int32) (a d : Nat) : g_fi (putT T v p k q a d) = g_fi T := by unfold putT; simp only [gh_fi_pl, gh_fi_mn, gh_fi_ro, gh_fi_ti, gh_fi_dt, gh_fi_va, gh_fi_pi, gh_fi_pn, gh_fi_kd, gh_fi_vo, gh_fi_th, gh_fi_ct, gh_fi_ev]
theorem pt_hr (T : TS) (v p k : Nat) (q : Int32) (a d : Nat) : g_hr (putT T v p k q a d) = g_hr T := by unfold putT; simp only [gh_hr_pl, gh_hr_mn, gh_hr_ro, gh_hr_ti, gh_hr_dt, gh_hr_va, gh_hr_pi, gh_hr_pn, gh_hr_kd, gh_hr_vo, gh_hr_th, gh_hr_ct, gh_hr_ev]
theorem pt_rk (T : TS) (v p k : Nat) (q : Int32) (a d : Nat) : g_rk (putT T v p k q a d) = g_rk T := by unfold putT; simp only [gh_rk_pl, gh_rk_mn, gh_rk_ro, gh_rk_ti, gh_rk_dt, gh_rk_va, gh_rk_pi, gh_rk_pn, gh_rk_kd, gh_rk_vo, gh_rk_th, gh_rk_ct, gh_rk_ev]
theorem pt_rs (T : TS) (v p k : Nat) (q : Int32) (a d : Nat) : g_rs (putT T v p k q a d) = g_rs T := by unfold putT; simp only [gh_rs_pl, gh_rs_mn, gh_rs_ro, gh_rs_ti, gh_rs_dt, gh_rs_va, gh_rs_pi, gh_rs_pn, gh_rs_kd, gh_rs_vo, gh_rs_th, gh_rs_ct, gh_rs_ev]
theorem pt_rr (T : TS) (v p k : Nat) (q : Int32) (a d : Nat) : g_rr (putT T v p k q a d) = g_rr T := by unfold putT; simp only [gh_rr_pl, gh_rr_mn, gh_rr_ro, gh_rr_ti, gh_rr_dt, gh_rr_va, gh_rr_pi, gh_rr_pn, gh_rr_kd, gh_rr_vo, gh_rr_th, gh_rr_ct, gh_rr_ev]
theorem pt_hs (T : TS) (v p k : Nat) (q : Int32) (a d : Nat) : g_hs (putT T v p k q a d) = g_hs T := by unfold putT; simp only [gh_hs_pl, gh_hs_mn, gh_hs_ro, gh_hs_ti, gh_hs_dt, gh_hs_va, gh_hs_pi, gh_hs_pn, gh_hs_kd, gh_hs_vo, gh_hs_th, gh_hs_ct, gh_hs_ev]
theorem pt_sk (T : TS) (v p k : Nat) (q : Int32) (a d : Nat) : g_sk (putT T v p k q a d) = g_sk T := by unfold putT; simp only [gh_sk_pl, gh_sk_mn, gh_sk_ro, gh_sk_ti, gh_sk_dt, gh_sk_va, gh_sk_pi, gh_sk_pn, gh_sk_kd, gh_sk_vo, gh_sk_th, gh_sk_ct, gh_sk_ev]
theorem pt_ss (T : TS) (v p k : Nat) (q : Int32) (a d : Nat) : g_ss (putT T v p k q a d) = g_ss T := by unfold putT; simp only [gh_ss_pl, gh_ss_mn, gh_ss_ro, gh_ss_ti, gh_ss_dt, gh_ss_va, gh_ss_pi, gh_ss_pn, gh_ss_kd, gh_ss_vo, gh_ss_th, gh_ss_ct, gh_ss_ev]
theorem pt_sr (T : TS) (v p k : Nat) (q : Int32) (a d : Nat) : g_sr (putT T v p k q a d) = g_sr T := by unfold putT; simp only [gh_sr_pl, gh_sr_mn, gh_sr_ro, gh_sr_ti, gh_sr_dt, gh_sr_va, gh_sr_pi, gh_sr_pn, gh_sr_kd, gh_sr_vo, gh_sr_th, gh_sr_ct, gh_sr_ev]
theorem pt_fa (T : TS) (v p k : Nat) (q : Int32) (a d : Nat) : g_fa (putT T v p k q a d) = g_fa T := by unfold putT; simp only [gh_fa_pl, gh_fa_mn, gh_fa_ro, gh_fa_ti, gh_fa_dt, gh_fa_va, gh_fa_pi, gh_fa_pn, gh_fa_kd, gh_fa_vo, gh_fa_th, gh_fa_ct, gh_fa_ev]
theorem pt_su (T : TS) (v p k : Nat) (q : Int32) (a d : Nat) : g_su (putT T v p k q a d) = g_su T := by unfold putT; simp only [gh_su_pl, gh_su_mn, gh_su_ro, gh_su_ti, gh_su_dt, gh_su_va, gh_su_pi, gh_su_pn, gh_su_kd, gh_su_vo, gh_su_th, gh_su_ct, gh_su_ev]
theorem pt_tr (T : TS) (v p k : Nat) (q : Int32) (a d : Nat) : g_tr (putT T v p k q a d) = g_tr T := by unfold putT; simp only [gh_tr_pl, gh_tr_mn, gh_tr_ro, gh_tr_ti, gh_tr_dt, gh_tr_va, gh_tr_pi, gh_tr_pn, gh_tr_kd, gh_tr_vo, gh_tr_th, gh_tr_ct, gh_tr_ev]
theorem pt_pl (T : TS) (v p k : Nat) (q : Int32) (a d : Nat) : g_pl (putT T v p k q a d) = (fun f => if f = g_ev T then p else if g_th T f = true ∧ g_vo T f = v ∧ p ≤ g_pl T f then g_pl T f + 1 else g_pl T f) := by unfold putT; simp only [gh_pl_pl, gh_pl_mn, gh_pl_ro, gh_pl_ti, gh_pl_dt, gh_pl_va, gh_pl_pi, gh_pl_pn, gh_pl_kd, gh_pl_vo, gh_pl_th, gh_pl_ct, gh_pl_ev]
theorem up_ne {α : Type} {f : Nat → α} {i j : Nat} {a : α} (h : j ≠ i) : va_up f i a j = f j := if_neg h
theorem up_eq {α : Type} {f : Nat → α} {i : Nat} {a : α} : va_up f i a i = a := if_pos rfl
theorem u2_ne {α : Type} {f : Nat → Nat → α} {i j : Nat} {a : Nat → α} (h : j ≠ i) : va_u2 f i a j = f j := if_neg h
theorem u2_eq {α : Type} {f : Nat → Nat → α} {i : Nat} {a : Nat → α} : va_u2 f i a i = a := if_pos rfl
theorem zcnt_subL {a b : Nat → Bool} : ∀ n, (∀ i, i < n → a i = true → b i = true) → zcnt a n ≤ zcnt b n
  | 0, _ => Nat.le_refl _
  | n + 1, h => by
    have h1 := zcnt_subL n (fun i hi => h i (by omega))
    rw [zcnt, zcnt]
    cases ha : a n with
    | false => simp only [Bool.false_eq_true, ite_false]; omega
    | true =>
      rw [h n (Nat.lt_succ_self _) ha]
      simp only [ite_true]
      omega
theorem smF_up (f : Nat → Nat) (v x : Nat) : ∀ n, v < n → smF (va_up f v x) n + f v = smF f n + x
  | 0, h => absurd h (Nat.not_lt_zero _)
  | n + 1, h => by
    rw [smF, smF]
    by_cases h1 : v = n
    · subst h1
      rw [up_eq]
      have : ∀ m, m ≤ v → smF (va_up f v x) m = smF f m := by
        intro m
        induction m with
        | zero => intro _; rfl
        | succ m ih => intro hm; rw [smF, smF, ih (by omega), up_ne (by omega)]
      rw [this v (Nat.le_refl _)]
      omega
    · have := smF_up f v x n (by omega)
      rw [up_ne (fun z => h1 z.symm)]
      omega
theorem inF_lt {α : Type} {f : Nat → α} {p m i : Nat} {e : α} (h : i < p) : inF f p m e i = f i := by
  unfold inF dnF
  rw [up_ne (by omega), if_neg (by omega)]
theorem inF_eq {α : Type} {f : Nat → α} {p m : Nat} {e : α} : inF f p m e p = e := up_eq
theorem inF_gt {α : Type} {f : Nat → α} {p m i : Nat} {e : α} (h : p < i) (h2 : i ≤ m) : inF f p m e i = f (i - 1) := by
  unfold inF dnF
  rw [up_ne (by omega), if_pos ⟨h, h2⟩]
theorem pt_new (T : TS) (v p k : Nat) (q : Int32) (a d : Nat) : g_th (putT T v p k q a d) (g_ev T) = true ∧ g_vo (putT T v p k q a d) (g_ev T) = v ∧ g_pl (putT T v p k q a d) (g_ev T) = p := by
  rw [pt_th, pt_vo, pt_pl, up_eq, up_eq]
  exact ⟨rfl, rfl, if_pos rfl⟩
theorem pt_old (T : TS) (v p k : Nat) (q : Int32) (a d : Nat) {f : Nat} (hf : f < g_ev T) (ht : g_th T f = true) : g_th (putT T v p k q a d) f = true ∧ g_vo (putT T v p k q a d) f = g_vo T f ∧ g_pl (putT T v p k q a d) f = (if g_vo T f = v ∧ p ≤ g_pl T f then g_pl T f + 1 else g_pl T f) := by
  rw [pt_th, pt_vo, pt_pl, up_ne (by omega), up_ne (by omega)]
  refine ⟨ht, rfl, ?_⟩
  show (if f = g_ev T then p else if g_th T f = true ∧ g_vo T f = v ∧ p ≤ g_pl T f then g_pl T f + 1 else g_pl T f) = _
  rw [if_neg (by omega)]
  by_cases h : g_vo T f = v ∧ p ≤ g_pl T f
  · rw [if_pos ⟨ht, h⟩, if_pos h]
  · rw [if_neg (fun z => h z.2), if_neg h]
theorem tI_put {T : TS} (hI : tI T) {v p k : Nat} {q : Int32} {a d : Nat} (hv : v < 3 * g_np T) (hp : p ≤ g_mn T v) (hk : k ≤ 4) (hq : k < 3 → ∃ j, j ≤ 127 ∧ q = nI j) (ha : a ≤ 5) (hd : d ≤ 2) (he : g_ev T ≠ 150) (hm : g_mn T v ≠ 40) : tI (putT T v p k q a d) := ⟨(by rw [pt_ct, pt_th, pt_ev, zcnt_set, ti_ct hI]), (by simp only [pt_np, pt_pk, pt_nb, pt_bt, pt_ev, pt_ct, pt_th, pt_vo, pt_kd, pt_pn, pt_pi, pt_va, pt_dt, pt_ti, pt_mn, pt_ro, pt_te, pt_cu, pt_tt, pt_tv, pt_tf, pt_tl, pt_tn, pt_tm, pt_tu, pt_le, pt_cl, pt_lt, pt_lk, pt_lf, pt_lo, pt_wm, pt_wr, pt_fo, pt_fi, pt_hr, pt_rk, pt_rs, pt_rr, pt_hs, pt_sk, pt_ss, pt_sr, pt_fa, pt_su, pt_tr, pt_pl]; exact ti_cu hI), (by simp only [pt_np, pt_pk, pt_nb, pt_bt, pt_ev, pt_ct, pt_th, pt_vo, pt_kd, pt_pn, pt_pi, pt_va, pt_dt, pt_ti, pt_mn, pt_ro, pt_te, pt_cu, pt_tt, pt_tv, pt_tf, pt_tl, pt_tn, pt_tm, pt_tu, pt_le, pt_cl, pt_lt, pt_lk, pt_lf, pt_lo, pt_wm, pt_wr, pt_fo, pt_fi, pt_hr, pt_rk, pt_rs, pt_rr, pt_hs, pt_sk, pt_ss, pt_sr, pt_fa, pt_su, pt_tr, pt_pl]; exact ti_cl hI), (by simp only [pt_np, pt_pk, pt_nb, pt_bt, pt_ev, pt_ct, pt_th, pt_vo, pt_kd, pt_pn, pt_pi, pt_va, pt_dt, pt_ti, pt_mn, pt_ro, pt_te, pt_cu, pt_tt, pt_tv, pt_tf, pt_tl, pt_tn, pt_tm, pt_tu, pt_le, pt_cl, pt_lt, pt_lk, pt_lf, pt_lo, pt_wm, pt_wr, pt_fo, pt_fi, pt_hr, pt_rk, pt_rs, pt_rr, pt_hs, pt_sk, pt_ss, pt_sr, pt_fa, pt_su, pt_tr, pt_pl]; exact ti_np hI), (by simp only [pt_np, pt_pk, pt_nb, pt_bt, pt_ev, pt_ct, pt_th, pt_vo, pt_kd, pt_pn, pt_pi, pt_va, pt_dt, pt_ti, pt_mn, pt_ro, pt_te, pt_cu, pt_tt, pt_tv, pt_tf, pt_tl, pt_tn, pt_tm, pt_tu, pt_le, pt_cl, pt_lt, pt_lk, pt_lf, pt_lo, pt_wm, pt_wr, pt_fo, pt_fi, pt_hr, pt_rk, pt_rs, pt_rr, pt_hs, pt_sk, pt_ss, pt_sr, pt_fa, pt_su, pt_tr, pt_pl]; exact ti_pk hI), (by simp only [pt_np, pt_pk, pt_nb, pt_bt, pt_ev, pt_ct, pt_th, pt_vo, pt_kd, pt_pn, pt_pi, pt_va, pt_dt, pt_ti, pt_mn, pt_ro, pt_te, pt_cu, pt_tt, pt_tv, pt_tf, pt_tl, pt_tn, pt_tm, pt_tu, pt_le, pt_cl, pt_lt, pt_lk, pt_lf, pt_lo, pt_wm, pt_wr, pt_fo, pt_fi, pt_hr, pt_rk, pt_rs, pt_rr, pt_hs, pt_sk, pt_ss, pt_sr, pt_fa, pt_su, pt_tr, pt_pl]; exact ti_nb hI), (by simp only [pt_np, pt_pk, pt_nb, pt_bt, pt_ev, pt_ct, pt_th, pt_vo, pt_kd, pt_pn, pt_pi, pt_va, pt_dt, pt_ti, pt_mn, pt_ro, pt_te, pt_cu, pt_tt, pt_tv, pt_tf, pt_tl, pt_tn, pt_tm, pt_tu, pt_le, pt_cl, pt_lt, pt_lk, pt_lf, pt_lo, pt_wm, pt_wr, pt_fo, pt_fi, pt_hr, pt_rk, pt_rs, pt_rr, pt_hs, pt_sk, pt_ss, pt_sr, pt_fa, pt_su, pt_tr, pt_pl]; exact ti_bt hI), (by have := ti_ev hI; rw [pt_ev]; omega), (by
  rw [pt_ev, pt_vo, pt_np]
  intro e he
  by_cases h : e = g_ev T
  · subst h; rw [up_eq]; exact hv
  · rw [up_ne h]; exact ti_vo hI e (by omega)), (by
  rw [pt_ev, pt_kd]
  intro e he
  by_cases h : e = g_ev T
  · subst h; rw [up_eq]; exact hk
  · rw [up_ne h]; exact ti_kd hI e (by omega)), (by
  rw [pt_pn]
  intro e
  by_cases h : e = g_ev T
  · subst h; rw [up_eq]; split <;> omega
  · rw [up_ne h]; exact ti_pn hI e), (by
  rw [pt_ev, pt_kd, pt_pn]
  intro e he h0
  by_cases h : e = g_ev T
  · subst h; rw [up_eq] at h0 ⊢; rw [if_pos h0]; exact Nat.le_refl _
  · rw [up_ne h] at h0 ⊢; exact ti_pn1 hI e (by omega) h0), (by
  rw [pt_ev, pt_kd, pt_pn]
  intro e he h0
  by_cases h : e = g_ev T
  · subst h; rw [up_eq] at h0 ⊢; rw [if_neg (by omega)]
  · rw [up_ne h] at h0 ⊢; exact ti_pn0 hI e (by omega) h0), (by
  rw [pt_ev, pt_kd, pt_pn]
  intro e he h0
  by_cases h : e = g_ev T
  · subst h; rw [up_eq]; split <;> omega
  · rw [up_ne h] at h0 ⊢; exact ti_pnc hI e (by omega) h0), (by
  unfold g_pv
  rw [pt_ev, pt_pn, pt_pi]
  intro e j he hj
  by_cases h : e = g_ev T
  · subst h
    rw [up_eq] at hj
    rw [u2_eq]
    by_cases h3 : k < 3
    · rw [if_pos h3] at hj
      obtain ⟨r, hr, rfl⟩ := hq h3
      rw [show j = 0 by omega, up_eq, nI_clamp (by omega)]
      exact ⟨rfl, hr⟩
    · rw [if_neg h3] at hj
      exact absurd hj (Nat.not_lt_zero _)
  · rw [up_ne h] at hj
    rw [u2_ne h]
    exact ti_pi hI e j (by omega) hj), (by
  unfold g_pv
  rw [pt_ev, pt_pn, pt_pi]
  intro e j he hj
  by_cases h : e = g_ev T
  · subst h
    rw [up_eq] at hj
    split at hj <;> omega
  · rw [up_ne h] at hj
    rw [u2_ne h]
    exact ti_pim hI e j (by omega) hj), (by
  rw [pt_ev, pt_va]
  intro e he
  by_cases h : e = g_ev T
  · subst h; rw [up_eq]; exact ha
  · rw [up_ne h]; exact ti_va hI e (by omega)), (by
  rw [pt_ev, pt_dt]
  intro e he
  by_cases h : e = g_ev T
  · subst h; rw [up_eq]; exact hd
  · rw [up_ne h]; exact ti_dt hI e (by omega)), (by
  rw [pt_mn]
  intro w
  by_cases h : w = v
  · subst h; rw [up_eq]; have := ti_mn hI w; omega
  · rw [up_ne h]; exact ti_mn hI w), (by
  rw [pt_mn, pt_np]
  intro w hw
  rw [up_ne (by omega)]
  exact ti_mn0 hI w hw), (by
  rw [pt_mn, pt_ro, pt_ev]
  intro w x hw hx
  by_cases h : w = v
  · subst h
    rw [up_eq] at hx
    rw [u2_eq]
    by_cases h1 : x < p
    · rw [inF_lt h1]
      have hr := ti_ro hI w x hw (by omega)
      have ho := pt_old T w p k q a d hr.1 hr.2.1
      rw [hr.2.2.1, hr.2.2.2, if_neg (by omega)] at ho
      exact ⟨by omega, ho⟩
    · by_cases h2 : x = p
      · subst h2
        rw [inF_eq]
        exact ⟨Nat.lt_succ_self _, pt_new T w x k q a d⟩
      · rw [inF_gt (by omega) (by omega)]
        have hr := ti_ro hI w (x - 1) hw (by omega)
        have ho := pt_old T w p k q a d hr.1 hr.2.1
        rw [hr.2.2.1, hr.2.2.2, if_pos (by omega), show x - 1 + 1 = x by omega] at ho
        exact ⟨by omega, ho⟩
  · rw [up_ne h] at hx
    rw [u2_ne h]
    have hr := ti_ro hI w x hw hx
    have ho := pt_old T v p k q a d hr.1 hr.2.1
    rw [hr.2.2.1, hr.2.2.2, if_neg (fun z => h z.1)] at ho
    exact ⟨by omega, ho⟩), (by
  rw [pt_ev]
  intro e he ht
  by_cases h : e = g_ev T
  · subst h
    have hn := pt_new T v p k q a d
    rw [hn.2.1, hn.2.2, pt_mn, pt_ro, up_eq, u2_eq, inF_eq]
    exact ⟨by omega, rfl⟩
  · rw [pt_th, up_ne h] at ht
    have ho := pt_old T v p k q a d (show e < g_ev T by omega) ht
    have hl := ti_pl hI e (by omega) ht
    rw [ho.2.1, ho.2.2, pt_mn, pt_ro]
    by_cases h1 : g_vo T e = v
    · rw [h1] at hl ⊢
      rw [up_eq, u2_eq]
      by_cases h2 : p ≤ g_pl T e
      · rw [if_pos ⟨rfl, h2⟩, inF_gt (by omega) (by omega)]
        exact ⟨by omega, hl.2⟩
      · rw [if_neg (fun z => h2 z.2), inF_lt (by omega)]
        exact ⟨by omega, hl.2⟩
    · rw [up_ne h1, u2_ne h1, if_neg (fun z => h1 z.1)]
      exact hl), (by simp only [pt_np, pt_pk, pt_nb, pt_bt, pt_ev, pt_ct, pt_th, pt_vo, pt_kd, pt_pn, pt_pi, pt_va, pt_dt, pt_ti, pt_mn, pt_ro, pt_te, pt_cu, pt_tt, pt_tv, pt_tf, pt_tl, pt_tn, pt_tm, pt_tu, pt_le, pt_cl, pt_lt, pt_lk, pt_lf, pt_lo, pt_wm, pt_wr, pt_fo, pt_fi, pt_hr, pt_rk, pt_rs, pt_rr, pt_hs, pt_sk, pt_ss, pt_sr, pt_fa, pt_su, pt_tr, pt_pl]; exact ti_te hI), (by simp only [pt_np, pt_pk, pt_nb, pt_bt, pt_ev, pt_ct, pt_th, pt_vo, pt_kd, pt_pn, pt_pi, pt_va, pt_dt, pt_ti, pt_mn, pt_ro, pt_te, pt_cu, pt_tt, pt_tv, pt_tf, pt_tl, pt_tn, pt_tm, pt_tu, pt_le, pt_cl, pt_lt, pt_lk, pt_lf, pt_lo, pt_wm, pt_wr, pt_fo, pt_fi, pt_hr, pt_rk, pt_rs, pt_rr, pt_hs, pt_sk, pt_ss, pt_sr, pt_fa, pt_su, pt_tr, pt_pl]; exact ti_tn hI), (by simp only [pt_np, pt_pk, pt_nb, pt_bt, pt_ev, pt_ct, pt_th, pt_vo, pt_kd, pt_pn, pt_pi, pt_va, pt_dt, pt_ti, pt_mn, pt_ro, pt_te, pt_cu, pt_tt, pt_tv, pt_tf, pt_tl, pt_tn, pt_tm, pt_tu, pt_le, pt_cl, pt_lt, pt_lk, pt_lf, pt_lo, pt_wm, pt_wr, pt_fo, pt_fi, pt_hr, pt_rk, pt_rs, pt_rr, pt_hs, pt_sk, pt_ss, pt_sr, pt_fa, pt_su, pt_tr, pt_pl]; exact ti_tm hI), (by simp only [pt_np, pt_pk, pt_nb, pt_bt, pt_ev, pt_ct, pt_th, pt_vo, pt_kd, pt_pn, pt_pi, pt_va, pt_dt, pt_ti, pt_mn, pt_ro, pt_te, pt_cu, pt_tt, pt_tv, pt_tf, pt_tl, pt_tn, pt_tm, pt_tu, pt_le, pt_cl, pt_lt, pt_lk, pt_lf, pt_lo, pt_wm, pt_wr, pt_fo, pt_fi, pt_hr, pt_rk, pt_rs, pt_rr, pt_hs, pt_sk, pt_ss, pt_sr, pt_fa, pt_su, pt_tr, pt_pl]; exact ti_tu hI), (by
  rw [pt_te, pt_tt, pt_ev, pt_tf, pt_tl, pt_tv]
  intro t ht htt
  have h := ti_tp hI t ht htt
  have h1 := pt_old T v p k q a d h.1 h.2.2.1
  have h2 := pt_old T v p k q a d h.2.1 h.2.2.2.1
  rw [h.2.2.2.2.1] at h1
  rw [h.2.2.2.2.2.1] at h2
  refine ⟨by omega, by omega, h1.1, h2.1, h1.2.1, h2.2.1, ?_⟩
  rw [h1.2.2, h2.2.2]
  have h3 := h.2.2.2.2.2.2
  split <;> split <;> omega), (by
  rw [pt_te, pt_tt, pt_tf, pt_tl, pt_tv]
  intro t u ht hu htt htu hvv
  have h := ti_tp hI t ht htt
  have h1 := pt_old T v p k q a d h.1 h.2.2.1
  have h2 := pt_old T v p k q a d h.2.1 h.2.2.2.1
  rw [h.2.2.2.2.1] at h1
  rw [h.2.2.2.2.2.1] at h2
  have g := ti_tp hI u hu htu
  have g1 := pt_old T v p k q a d g.1 g.2.2.1
  have g2 := pt_old T v p k q a d g.2.1 g.2.2.2.1
  rw [g.2.2.2.2.1, ← hvv] at g1
  rw [g.2.2.2.2.2.1, ← hvv] at g2
  have h3 := h.2.2.2.2.2.2
  have g3 := g.2.2.2.2.2.2
  have hn := ti_tnest hI t u ht hu htt htu hvv
  rw [h1.2.2, h2.2.2, g1.2.2, g2.2.2]
  by_cases hw : g_tv T t = v
  · simp only [hw, true_and]
    clear h h1 h2 g g1 g2
    split <;> split <;> split <;> split <;> omega
  · simp only [hw, false_and, ite_false]
    exact hn), (by
  rw [pt_te, pt_tt, pt_tf, pt_tl, pt_tv]
  intro w x
  refine Nat.le_trans (zcnt_subL (b := fun t => g_tt T t && decide (g_tv T t = w ∧ g_pl T (g_tf T t) ≤ (if w = v ∧ p < x then x - 1 else x) ∧ (if w = v ∧ p < x then x - 1 else x) ≤ g_pl T (g_tl T t))) _ ?_) (ti_tover hI w _)
  intro t ht hh
  have hh := Bool.and_eq_true_iff.mp hh
  have htt := hh.1
  have hd := of_decide_eq_true hh.2
  have h := ti_tp hI t ht htt
  have h1 := pt_old T v p k q a d h.1 h.2.2.1
  have h2 := pt_old T v p k q a d h.2.1 h.2.2.2.1
  rw [h.2.2.2.2.1] at h1
  rw [h.2.2.2.2.2.1] at h2
  rw [h1.2.2, h2.2.2] at hd
  have h3 := h.2.2.2.2.2.2
  rw [htt, Bool.true_and]
  apply decide_eq_true
  refine ⟨hd.1, ?_⟩
  have e1 := hd.1
  by_cases hw : w = v
  · simp only [e1, hw, true_and] at hd ⊢
    clear h h1 h2
    split at hd <;> split at hd <;> split <;> omega
  · simp only [e1, hw, false_and, ite_false, true_and] at hd ⊢
    exact hd), (by simp only [pt_np, pt_pk, pt_nb, pt_bt, pt_ev, pt_ct, pt_th, pt_vo, pt_kd, pt_pn, pt_pi, pt_va, pt_dt, pt_ti, pt_mn, pt_ro, pt_te, pt_cu, pt_tt, pt_tv, pt_tf, pt_tl, pt_tn, pt_tm, pt_tu, pt_le, pt_cl, pt_lt, pt_lk, pt_lf, pt_lo, pt_wm, pt_wr, pt_fo, pt_fi, pt_hr, pt_rk, pt_rs, pt_rr, pt_hs, pt_sk, pt_ss, pt_sr, pt_fa, pt_su, pt_tr, pt_pl]; exact ti_le hI), (by simp only [pt_np, pt_pk, pt_nb, pt_bt, pt_ev, pt_ct, pt_th, pt_vo, pt_kd, pt_pn, pt_pi, pt_va, pt_dt, pt_ti, pt_mn, pt_ro, pt_te, pt_cu, pt_tt, pt_tv, pt_tf, pt_tl, pt_tn, pt_tm, pt_tu, pt_le, pt_cl, pt_lt, pt_lk, pt_lf, pt_lo, pt_wm, pt_wr, pt_fo, pt_fi, pt_hr, pt_rk, pt_rs, pt_rr, pt_hs, pt_sk, pt_ss, pt_sr, pt_fa, pt_su, pt_tr, pt_pl]; exact ti_lk hI), (by
  rw [pt_le, pt_lt, pt_lf, pt_ev]
  intro l hl h
  have h1 := ti_lf hI l hl h
  exact ⟨by omega, (pt_old T v p k q a d h1.1 h1.2).1⟩), (by
  rw [pt_le, pt_lt, pt_lo, pt_ev]
  intro l e hl h h2
  have h1 := ti_lo hI l e hl h h2
  exact ⟨by omega, (pt_old T v p k q a d h1.1 h1.2).1⟩), (by simp only [pt_np, pt_pk, pt_nb, pt_bt, pt_ev, pt_ct, pt_th, pt_vo, pt_kd, pt_pn, pt_pi, pt_va, pt_dt, pt_ti, pt_mn, pt_ro, pt_te, pt_cu, pt_tt, pt_tv, pt_tf, pt_tl, pt_tn, pt_tm, pt_tu, pt_le, pt_cl, pt_lt, pt_lk, pt_lf, pt_lo, pt_wm, pt_wr, pt_fo, pt_fi, pt_hr, pt_rk, pt_rs, pt_rr, pt_hs, pt_sk, pt_ss, pt_sr, pt_fa, pt_su, pt_tr, pt_pl]; exact ti_wm hI), (by simp only [pt_np, pt_pk, pt_nb, pt_bt, pt_ev, pt_ct, pt_th, pt_vo, pt_kd, pt_pn, pt_pi, pt_va, pt_dt, pt_ti, pt_mn, pt_ro, pt_te, pt_cu, pt_tt, pt_tv, pt_tf, pt_tl, pt_tn, pt_tm, pt_tu, pt_le, pt_cl, pt_lt, pt_lk, pt_lf, pt_lo, pt_wm, pt_wr, pt_fo, pt_fi, pt_hr, pt_rk, pt_rs, pt_rr, pt_hs, pt_sk, pt_ss, pt_sr, pt_fa, pt_su, pt_tr, pt_pl]; exact ti_fo hI), (by simp only [pt_np, pt_pk, pt_nb, pt_bt, pt_ev, pt_ct, pt_th, pt_vo, pt_kd, pt_pn, pt_pi, pt_va, pt_dt, pt_ti, pt_mn, pt_ro, pt_te, pt_cu, pt_tt, pt_tv, pt_tf, pt_tl, pt_tn, pt_tm, pt_tu, pt_le, pt_cl, pt_lt, pt_lk, pt_lf, pt_lo, pt_wm, pt_wr, pt_fo, pt_fi, pt_hr, pt_rk, pt_rs, pt_rr, pt_hs, pt_sk, pt_ss, pt_sr, pt_fa, pt_su, pt_tr, pt_pl]; exact ti_rk hI), (by
  rw [pt_hr, pt_rs, pt_rr, pt_ev]
  intro i j e hi h hj h2
  have h1 := ti_rr hI i j e hi h hj h2
  exact ⟨by omega, (pt_old T v p k q a d h1.1 h1.2).1⟩), (by simp only [pt_np, pt_pk, pt_nb, pt_bt, pt_ev, pt_ct, pt_th, pt_vo, pt_kd, pt_pn, pt_pi, pt_va, pt_dt, pt_ti, pt_mn, pt_ro, pt_te, pt_cu, pt_tt, pt_tv, pt_tf, pt_tl, pt_tn, pt_tm, pt_tu, pt_le, pt_cl, pt_lt, pt_lk, pt_lf, pt_lo, pt_wm, pt_wr, pt_fo, pt_fi, pt_hr, pt_rk, pt_rs, pt_rr, pt_hs, pt_sk, pt_ss, pt_sr, pt_fa, pt_su, pt_tr, pt_pl]; exact ti_sk hI), (by
  rw [pt_ev, pt_ti, pt_kd]
  intro e he h0
  by_cases h : e = g_ev T
  · subst h; rw [up_eq] at h0; cases h0
  · rw [up_ne h] at h0 ⊢; exact ti_tied hI e (by omega) h0), (by
  rw [pt_mn, pt_ct]
  have h1 := smF_up (g_mn T) v (g_mn T v + 1) 18 (by have := ti_np hI; omega)
  have h2 := ti_sm hI
  omega), (by simp only [pt_np, pt_pk, pt_nb, pt_bt, pt_ev, pt_ct, pt_th, pt_vo, pt_kd, pt_pn, pt_pi, pt_va, pt_dt, pt_ti, pt_mn, pt_ro, pt_te, pt_cu, pt_tt, pt_tv, pt_tf, pt_tl, pt_tn, pt_tm, pt_tu, pt_le, pt_cl, pt_lt, pt_lk, pt_lf, pt_lo, pt_wm, pt_wr, pt_fo, pt_fi, pt_hr, pt_rk, pt_rs, pt_rr, pt_hs, pt_sk, pt_ss, pt_sr, pt_fa, pt_su, pt_tr, pt_pl]; exact ti_rrb hI)⟩
theorem ki_put {T : TS} (hI : tI T) (v p k q a d : Int32) : tI (sp_put T v p k q a d).2 := by
  unfold sp_put
  split
  · next h =>
    split
    · exact tI_no hI _
    · next h2 =>
      have h3 := clamp_nI h.2.1
      have h4 := clamp_nI h.2.2.1
      have h5 := clamp_nI h.2.2.2.2.1
      have h6 := clamp_nI h.2.2.2.2.2
      refine tI_ok (tI_put hI (clamp_nI h.1) (by omega) (by omega) (fun hk => ?_) (by omega) (by omega) (fun z => h2 (Or.inl z)) (fun z => h2 (Or.inr z))) _
      obtain ⟨j, h7, h8, e⟩ := inB_t (h.2.2.2.1 hk)
      exact ⟨j, by omega, e⟩
  · exact tI_no hI _
