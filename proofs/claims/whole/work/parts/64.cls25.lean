set_option maxHeartbeats 4000000 in
set_option maxRecDepth 100000 in
theorem e_newInstrument (σ : ZS) {k : Nat} (hk : k ≤ 5) : ZC M_X11_newInstrument [Ai (nI k)] σ (fun r τ => r = some (Ar (some (zn σ))) ∧ zag (zn σ) σ τ ∧ zk τ (zn σ) = (1, icl k) ∧ zL τ 448 (zn σ) = lN 0 ∧ zn τ = zn σ + 1) := by
  refine ZC_of (ls := [some (Ai (nI k))]) (by decide) (Nat.le_of_ble_eq_true rfl) rfl ?_
  refine ZV_iload_n (n := 1) dX11_newInstrument_0 rfl rfl rfl ?_
  by_cases h1_1 : k = 1
  · subst h1_1
    refine ZV_tableIn (tgt := 36) dX11_newInstrument_1 (by decide) (by decide) rfl (by decide) ?_
    refine ZV_newC (ci := 5) (N := 1) (n := 39) dX11_newInstrument_36 rfl (by decide) rfl wd_1_113 wd_1_114 wd_1_4 ?_
    refine ZV_dup (n := 40) dX11_newInstrument_39 rfl rfl ?_
    refine call_X11_414 (e_X5_init_5 (zk_new _ _)) rfl dX11_newInstrument_40 (Nat.le_of_ble_eq_true rfl) (Nat.le_of_ble_eq_true rfl) rfl (fun r9 σ9 hp9 => ?_)
    obtain ⟨rfl, rfl⟩ := hp9
    refine ZV_aret dX11_newInstrument_43 rfl ?_
    exact ⟨rfl, zag_tr (zag_new (Nat.le_refl _)) (zag_pL (Nat.le_refl _)), zk_new _ _, if_pos ⟨rfl, rfl⟩, rfl⟩
  by_cases h1_2 : k = 2
  · subst h1_2
    refine ZV_tableIn (tgt := 44) dX11_newInstrument_1 (by decide) (by decide) rfl (by decide) ?_
    refine ZV_newC (ci := 0) (N := 1) (n := 47) dX11_newInstrument_44 rfl (by decide) rfl wd_1_135 wd_1_136 wd_1_5 ?_
    refine ZV_dup (n := 48) dX11_newInstrument_47 rfl rfl ?_
    refine call_X11_417 (e_X0_init_0 (zk_new _ _)) rfl dX11_newInstrument_48 (Nat.le_of_ble_eq_true rfl) (Nat.le_of_ble_eq_true rfl) rfl (fun r9 σ9 hp9 => ?_)
    obtain ⟨rfl, rfl⟩ := hp9
    refine ZV_aret dX11_newInstrument_51 rfl ?_
    exact ⟨rfl, zag_tr (zag_new (Nat.le_refl _)) (zag_pL (Nat.le_refl _)), zk_new _ _, if_pos ⟨rfl, rfl⟩, rfl⟩
  by_cases h1_3 : k = 3
  · subst h1_3
    refine ZV_tableIn (tgt := 52) dX11_newInstrument_1 (by decide) (by decide) rfl (by decide) ?_
    refine ZV_newC (ci := 3) (N := 1) (n := 55) dX11_newInstrument_52 rfl (by decide) rfl wd_1_143 wd_1_144 wd_1_6 ?_
    refine ZV_dup (n := 56) dX11_newInstrument_55 rfl rfl ?_
    refine call_X11_420 (e_X3_init_3 (zk_new _ _)) rfl dX11_newInstrument_56 (Nat.le_of_ble_eq_true rfl) (Nat.le_of_ble_eq_true rfl) rfl (fun r9 σ9 hp9 => ?_)
    obtain ⟨rfl, rfl⟩ := hp9
    refine ZV_aret dX11_newInstrument_59 rfl ?_
    exact ⟨rfl, zag_tr (zag_new (Nat.le_refl _)) (zag_pL (Nat.le_refl _)), zk_new _ _, if_pos ⟨rfl, rfl⟩, rfl⟩
  by_cases h1_4 : k = 4
  · subst h1_4
    refine ZV_tableIn (tgt := 60) dX11_newInstrument_1 (by decide) (by decide) rfl (by decide) ?_
    refine ZV_newC (ci := 6) (N := 1) (n := 63) dX11_newInstrument_60 rfl (by decide) rfl wd_1_151 wd_1_152 wd_1_7 ?_
    refine ZV_dup (n := 64) dX11_newInstrument_63 rfl rfl ?_
    refine call_X11_423 (e_X6_init_6 (zk_new _ _)) rfl dX11_newInstrument_64 (Nat.le_of_ble_eq_true rfl) (Nat.le_of_ble_eq_true rfl) rfl (fun r9 σ9 hp9 => ?_)
    obtain ⟨rfl, rfl⟩ := hp9
    refine ZV_aret dX11_newInstrument_67 rfl ?_
    exact ⟨rfl, zag_tr (zag_new (Nat.le_refl _)) (zag_pL (Nat.le_refl _)), zk_new _ _, if_pos ⟨rfl, rfl⟩, rfl⟩
  by_cases h1_5 : k = 5
  · subst h1_5
    refine ZV_tableIn (tgt := 68) dX11_newInstrument_1 (by decide) (by decide) rfl (by decide) ?_
    refine ZV_newC (ci := 1) (N := 1) (n := 71) dX11_newInstrument_68 rfl (by decide) rfl wd_1_159 wd_1_160 wd_1_8 ?_
    refine ZV_dup (n := 72) dX11_newInstrument_71 rfl rfl ?_
    refine call_X11_426 (e_X1_init_1 (zk_new _ _)) rfl dX11_newInstrument_72 (Nat.le_of_ble_eq_true rfl) (Nat.le_of_ble_eq_true rfl) rfl (fun r9 σ9 hp9 => ?_)
    obtain ⟨rfl, rfl⟩ := hp9
    refine ZV_aret dX11_newInstrument_75 rfl ?_
    exact ⟨rfl, zag_tr (zag_new (Nat.le_refl _)) (zag_pL (Nat.le_refl _)), zk_new _ _, if_pos ⟨rfl, rfl⟩, rfl⟩
  refine ZV_tableOut (tgt := 76) dX11_newInstrument_1 (by rw [nI_toInt (by omega)]; omega) (by decide) ?_
  refine ZV_newC (ci := 7) (N := 1) (n := 79) dX11_newInstrument_76 rfl (by decide) rfl wd_1_26 wd_1_167 wd_1_3 ?_
  refine ZV_dup (n := 80) dX11_newInstrument_79 rfl rfl ?_
  refine call_X11_427 (e_X7_init_7 (zk_new _ _)) rfl dX11_newInstrument_80 (Nat.le_of_ble_eq_true rfl) (Nat.le_of_ble_eq_true rfl) rfl (fun r9 σ9 hp9 => ?_)
  obtain ⟨rfl, rfl⟩ := hp9
  refine ZV_aret dX11_newInstrument_83 rfl ?_
  obtain rfl : k = 0 := by omega
  exact ⟨rfl, zag_tr (zag_new (Nat.le_refl _)) (zag_pL (Nat.le_refl _)), zk_new _ _, if_pos ⟨rfl, rfl⟩, rfl⟩
theorem U_va0 {c B : Nat} {σ : ZS} {T : TS} {K : KS} (h : cG c B σ T K) {j : Nat} (hj : 3 * g_np T ≤ j) (w : Option Nat) : cG c B (qr σ (c + 2) j w) T K := ⟨(cf_sh h :), (cf_B h :), (cf_bd h :), (cf_pk h :), (cf_vk h :), (cf_ek h :), (cf_tk h :), (cf_lk h :), (cf_rk h :), (cf_sk h :), (cf_pai h :), (cf_lai h :), (cf_wai h :), (cf_np h :), (cf_nb h :), (cf_ev h :), (cf_te h :), (cf_le h :), (cf_wm h :), (cf_fo h :), (cf_su h :), (fun i q0 => Eq.trans (if_neg (fun z => absurd z.1 (by omega))) (cf_pa h i q0)), (cf_pas h :), (fun i hi => Eq.trans (if_neg (fun z => absurd z.2 (by omega))) (cf_va h i hi)), (cf_vn h :), (cf_vi h :), (cf_ve h :), (cf_vs h :), (cf_vw h :), (cf_vl h :), (fun v i q0 q1 => Eq.trans (if_neg (fun z => absurd z.1 (by have := (cf_vk h v q0).2.2.1; omega))) (cf_ro h v i q0 q1)), (cf_be h :), (fun i q0 => Eq.trans (if_neg (fun z => absurd z.1 (by omega))) (cf_ea h i q0)), (cf_en h :), (cf_eo h :), (cf_ed h :), (cf_ep h :), (cf_ec h :), (cf_et h :), (cf_es h :), (cf_ei h :), (cf_el h :), (cf_eb h :), (cf_ez h :), (cf_pi h :), (fun i q0 => Eq.trans (if_neg (fun z => absurd z.1 (by omega))) (cf_ta h i q0)), (cf_tq h :), (cf_to h :), (cf_t1 h :), (cf_t2 h :), (cf_tn h :), (cf_tm h :), (cf_tu h :), (fun i q0 => Eq.trans (if_neg (fun z => absurd z.1 (by omega))) (cf_la h i q0)), (cf_lj h :), (cf_lf h :), (cf_lo h :), (cf_wr h :), (cf_fi h :), (cf_fa h :), (fun i q0 => Eq.trans (if_neg (fun z => absurd z.1 (by omega))) (cf_ra h i q0)), (fun i q0 => Eq.trans (if_neg (fun z => absurd z.1 (by omega))) (cf_sa h i q0)), (cf_rd h :), (cf_sd h :), (cf_rt h :), (cf_st h :), (cf_rr h :), (cf_sr h :)⟩
theorem U_pa0 {c B : Nat} {σ : ZS} {T : TS} {K : KS} (h : cG c B σ T K) {j : Nat} (hj : g_np T ≤ j) (w : Option Nat) : cG c B (qr σ (c + 1) j w) T K := ⟨(cf_sh h :), (cf_B h :), (cf_bd h :), (cf_pk h :), (cf_vk h :), (cf_ek h :), (cf_tk h :), (cf_lk h :), (cf_rk h :), (cf_sk h :), (cf_pai h :), (cf_lai h :), (cf_wai h :), (cf_np h :), (cf_nb h :), (cf_ev h :), (cf_te h :), (cf_le h :), (cf_wm h :), (cf_fo h :), (cf_su h :), (fun i hi => Eq.trans (if_neg (fun z => absurd z.2 (by omega))) (cf_pa h i hi)), (cf_pas h :), (fun i q0 => Eq.trans (if_neg (fun z => absurd z.1 (by omega))) (cf_va h i q0)), (cf_vn h :), (cf_vi h :), (cf_ve h :), (cf_vs h :), (cf_vw h :), (cf_vl h :), (fun v i q0 q1 => Eq.trans (if_neg (fun z => absurd z.1 (by have := (cf_vk h v q0).2.2.1; omega))) (cf_ro h v i q0 q1)), (cf_be h :), (fun i q0 => Eq.trans (if_neg (fun z => absurd z.1 (by omega))) (cf_ea h i q0)), (cf_en h :), (cf_eo h :), (cf_ed h :), (cf_ep h :), (cf_ec h :), (cf_et h :), (cf_es h :), (cf_ei h :), (cf_el h :), (cf_eb h :), (cf_ez h :), (cf_pi h :), (fun i q0 => Eq.trans (if_neg (fun z => absurd z.1 (by omega))) (cf_ta h i q0)), (cf_tq h :), (cf_to h :), (cf_t1 h :), (cf_t2 h :), (cf_tn h :), (cf_tm h :), (cf_tu h :), (fun i q0 => Eq.trans (if_neg (fun z => absurd z.1 (by omega))) (cf_la h i q0)), (cf_lj h :), (cf_lf h :), (cf_lo h :), (cf_wr h :), (cf_fi h :), (cf_fa h :), (fun i q0 => Eq.trans (if_neg (fun z => absurd z.1 (by omega))) (cf_ra h i q0)), (fun i q0 => Eq.trans (if_neg (fun z => absurd z.1 (by omega))) (cf_sa h i q0)), (cf_rd h :), (cf_sd h :), (cf_rt h :), (cf_st h :), (cf_rr h :), (cf_sr h :)⟩
/-- voices n + j, j below i, are new, of the instrument at P -/
def nvF (c : Nat) (τ : ZS) (P n i : Nat) : Prop := ∀ j, j < i → zk τ (P + 1 + 2 * j) = (1, 10) ∧ zk τ (P + 1 + 2 * j + 1) = (7, 40) ∧ zI τ 640 (P + 1 + 2 * j) = nI (n + j) ∧ zR τ 641 (P + 1 + 2 * j) = some P ∧ zR τ 642 (P + 1 + 2 * j) = some (P + 1 + 2 * j + 1) ∧ zI τ 643 (P + 1 + 2 * j) = nI 0 ∧ zI τ 644 (P + 1 + 2 * j) = nI 0 ∧ zL τ 645 (P + 1 + 2 * j) = lN 0 ∧ zr τ (c + 2) (n + j) = some (P + 1 + 2 * j)
theorem nvF_s {c P n i b : Nat} {σ τ : ZS} (h : nvF c σ P n i) (hc : c + 12 ≤ P) (hb : b = P + 1 + 2 * i) (hN : voN σ τ b (n + i) P) : nvF c (qr τ (c + 2) (n + i) (some b)) P n (i + 1) := by
  intro j hj
  obtain ⟨ag, hN⟩ := hN
  by_cases q : j = i
  · subst q
    rw [← hb]
    exact ⟨hN.2.1, hN.2.2.1, hN.2.2.2.1, hN.2.2.2.2.1, hN.2.2.2.2.2.1, hN.2.2.2.2.2.2.1, hN.2.2.2.2.2.2.2.1, hN.2.2.2.2.2.2.2.2, if_pos ⟨rfl, rfl⟩⟩
  · obtain ⟨h1, h2, h3, h4, h5, h6, h7, h8, h9⟩ := h j (by omega)
    have e1 : P + 1 + 2 * j < b := by omega
    have e2 : P + 1 + 2 * j + 1 < b := by omega
    exact ⟨(ag_k ag e1).trans h1, (ag_k ag e2).trans h2, (ag_zI ag e1 _).trans h3, (ag_zR ag e1 _).trans h4, (ag_zR ag e1 _).trans h5, (ag_zI ag e1 _).trans h6, (ag_zI ag e1 _).trans h7, (ag_zL ag e1 _).trans h8, Eq.trans (if_neg (fun z => absurd z.2 (by omega))) ((ag_zr ag (show c + 2 < b by omega) _).trans h9)⟩
theorem nvF_n {c P n i : Nat} {σ : ZS} (h : nvF c σ P n i) (hz : zn σ = P + 1 + 2 * i) (hc : c + 12 ≤ P) (k : Nat × Nat) : nvF c (zNew σ k) P n i := by
  intro j hj
  obtain ⟨h1, h2, h3, h4, h5, h6, h7, h8, h9⟩ := h j hj
  have ag : zag (zn σ) σ (zNew σ k) := zag_new (Nat.le_refl _)
  have e1 : P + 1 + 2 * j < zn σ := by omega
  have e2 : P + 1 + 2 * j + 1 < zn σ := by omega
  exact ⟨(ag_k ag e1).trans h1, (ag_k ag e2).trans h2, (ag_zI ag e1 _).trans h3, (ag_zR ag e1 _).trans h4, (ag_zR ag e1 _).trans h5, (ag_zI ag e1 _).trans h6, (ag_zI ag e1 _).trans h7, (ag_zL ag e1 _).trans h8, (ag_zr ag (show c + 2 < zn σ by omega) _).trans h9⟩
def paT (T : TS) (k : Nat) : TS := h_np (h_pk T (va_up (g_pk T) (g_np T) k)) (g_np T + 1)
theorem pq_np (T : TS) (k : Nat) : g_np (paT T k) = g_np T + 1 := by unfold paT; simp only [gh_np_np, gh_np_pk]
theorem pq_pk (T : TS) (k : Nat) : g_pk (paT T k) = va_up (g_pk T) (g_np T) k := by unfold paT; simp only [gh_pk_np, gh_pk_pk]
theorem pq_nb (T : TS) (k : Nat) : g_nb (paT T k) = g_nb T := by unfold paT; simp only [gh_nb_np, gh_nb_pk]
theorem pq_bt (T : TS) (k : Nat) : g_bt (paT T k) = g_bt T := by unfold paT; simp only [gh_bt_np, gh_bt_pk]
theorem pq_ev (T : TS) (k : Nat) : g_ev (paT T k) = g_ev T := by unfold paT; simp only [gh_ev_np, gh_ev_pk]
theorem pq_ct (T : TS) (k : Nat) : g_ct (paT T k) = g_ct T := by unfold paT; simp only [gh_ct_np, gh_ct_pk]
theorem pq_th (T : TS) (k : Nat) : g_th (paT T k) = g_th T := by unfold paT; simp only [gh_th_np, gh_th_pk]
theorem pq_vo (T : TS) (k : Nat) : g_vo (paT T k) = g_vo T := by unfold paT; simp only [gh_vo_np, gh_vo_pk]
theorem pq_kd (T : TS) (k : Nat) : g_kd (paT T k) = g_kd T := by unfold paT; simp only [gh_kd_np, gh_kd_pk]
theorem pq_pn (T : TS) (k : Nat) : g_pn (paT T k) = g_pn T := by unfold paT; simp only [gh_pn_np, gh_pn_pk]
theorem pq_pi (T : TS) (k : Nat) : g_pi (paT T k) = g_pi T := by unfold paT; simp only [gh_pi_np, gh_pi_pk]
theorem pq_va (T : TS) (k : Nat) : g_va (paT T k) = g_va T := by unfold paT; simp only [gh_va_np, gh_va_pk]
theorem pq_dt (T : TS) (k : Nat) : g_dt (paT T k) = g_dt T := by unfold paT; simp only [gh_dt_np, gh_dt_pk]
theorem pq_ti (T : TS) (k : Nat) : g_ti (paT T k) = g_ti T := by unfold paT; simp only [gh_ti_np, gh_ti_pk]
theorem pq_mn (T : TS) (k : Nat) : g_mn (paT T k) = g_mn T := by unfold paT; simp only [gh_mn_np, gh_mn_pk]
theorem pq_ro (T : TS) (k : Nat) : g_ro (paT T k) = g_ro T := by unfold paT; simp only [gh_ro_np, gh_ro_pk]
theorem pq_te (T : TS) (k : Nat) : g_te (paT T k) = g_te T := by unfold paT; simp only [gh_te_np, gh_te_pk]
theorem pq_cu (T : TS) (k : Nat) : g_cu (paT T k) = g_cu T := by unfold paT; simp only [gh_cu_np, gh_cu_pk]
theorem pq_tt (T : TS) (k : Nat) : g_tt (paT T k) = g_tt T := by unfold paT; simp only [gh_tt_np, gh_tt_pk]
theorem pq_tv (T : TS) (k : Nat) : g_tv (paT T k) = g_tv T := by unfold paT; simp only [gh_tv_np, gh_tv_pk]
theorem pq_tf (T : TS) (k : Nat) : g_tf (paT T k) = g_tf T := by unfold paT; simp only [gh_tf_np, gh_tf_pk]
theorem pq_tl (T : TS) (k : Nat) : g_tl (paT T k) = g_tl T := by unfold paT; simp only [gh_tl_np, gh_tl_pk]
theorem pq_tn (T : TS) (k : Nat) : g_tn (paT T k) = g_tn T := by unfold paT; simp only [gh_tn_np, gh_tn_pk]
theorem pq_tm (T : TS) (k : Nat) : g_tm (paT T k) = g_tm T := by unfold paT; simp only [gh_tm_np, gh_tm_pk]
theorem pq_tu (T : TS) (k : Nat) : g_tu (paT T k) = g_tu T := by unfold paT; simp only [gh_tu_np, gh_tu_pk]
theorem pq_le (T : TS) (k : Nat) : g_le (paT T k) = g_le T := by unfold paT; simp only [gh_le_np, gh_le_pk]
theorem pq_cl (T : TS) (k : Nat) : g_cl (paT T k) = g_cl T := by unfold paT; simp only [gh_cl_np, gh_cl_pk]
theorem pq_lt (T : TS) (k : Nat) : g_lt (paT T k) = g_lt T := by unfold paT; simp only [gh_lt_np, gh_lt_pk]
theorem pq_lk (T : TS) (k : Nat) : g_lk (paT T k) = g_lk T := by unfold paT; simp only [gh_lk_np, gh_lk_pk]
theorem pq_lf (T : TS) (k : Nat) : g_lf (paT T k) = g_lf T := by unfold paT; simp only [gh_lf_np, gh_lf_pk]
theorem pq_lo (T : TS) (k : Nat) : g_lo (paT T k) = g_lo T := by unfold paT; simp only [gh_lo_np, gh_lo_pk]
theorem pq_wm (T : TS) (k : Nat) : g_wm (paT T k) = g_wm T := by unfold paT; simp only [gh_wm_np, gh_wm_pk]
theorem pq_wr (T : TS) (k : Nat) : g_wr (paT T k) = g_wr T := by unfold paT; simp only [gh_wr_np, gh_wr_pk]
theorem pq_fo (T : TS) (k : Nat) : g_fo (paT T k) = g_fo T := by unfold paT; simp only [gh_fo_np, gh_fo_pk]
theorem pq_fi (T : TS) (k : Nat) : g_fi (paT T k) = g_fi T := by unfold paT; simp only [gh_fi_np, gh_fi_pk]
theorem pq_hr (T : TS) (k : Nat) : g_hr (paT T k) = g_hr T := by unfold paT; simp only [gh_hr_np, gh_hr_pk]
theorem pq_rk (T : TS) (k : Nat) : g_rk (paT T k) = g_rk T := by unfold paT; simp only [gh_rk_np, gh_rk_pk]
theorem pq_rs (T : TS) (k : Nat) : g_rs (paT T k) = g_rs T := by unfold paT; simp only [gh_rs_np, gh_rs_pk]
theorem pq_rr (T : TS) (k : Nat) : g_rr (paT T k) = g_rr T := by unfold paT; simp only [gh_rr_np, gh_rr_pk]
theorem pq_hs (T : TS) (k : Nat) : g_hs (paT T k) = g_hs T := by unfold paT; simp only [gh_hs_np, gh_hs_pk]
theorem pq_sk (T : TS) (k : Nat) : g_sk (paT T k) = g_sk T := by unfold paT; simp only [gh_sk_np, gh_sk_pk]
theorem pq_ss (T : TS) (k : Nat) : g_ss (paT T k) = g_ss T := by unfold paT; simp only [gh_ss_np, gh_ss_pk]
theorem pq_sr (T : TS) (k : Nat) : g_sr (paT T k) = g_sr T := by unfold paT; simp only [gh_sr_np, gh_sr_pk]
theorem pq_fa (T : TS) (k : Nat) : g_fa (paT T k) = g_fa T := by unfold paT; simp only [gh_fa_np, gh_fa_pk]
theorem pq_su (T : TS) (k : Nat) : g_su (paT T k) = g_su T := by unfold paT; simp only [gh_su_np, gh_su_pk]
theorem pq_tr (T : TS) (k : Nat) : g_tr (paT T k) = g_tr T := by unfold paT; simp only [gh_tr_np, gh_tr_pk]
theorem pq_pl (T : TS) (k : Nat) : g_pl (paT T k) = g_pl T := by unfold paT; simp only [gh_pl_np, gh_pl_pk]
set_option maxHeartbeats 2000000 in
theorem U_part {c B : Nat} {σ τ : ZS} {T : TS} {K : KS} (h : cG c B σ T K) {P k : Nat} (hP : B ≤ P) (hz : zn τ = P + 7) (hag : zag B σ τ) (hk5 : k ≤ 5) (hkP : zk τ P = (1, icl k)) (hLP : zL τ 448 P = lN 0) (hrP : zr τ (c + 1) (g_np T) = some P) (hF : nvF c τ P (3 * g_np T) 3) (hn : g_np T ≠ 6) (hmn0 : ∀ v, 3 * g_np T ≤ v → g_mn T v = 0) (hvo : ∀ e, e < g_ev T → g_vo T e < 3 * g_np T) (htv : ∀ t, t < g_te T → g_tt T t = true → g_tv T t < 3 * g_np T) : cG c (P + 7) (pI τ 705 c (nI (g_np T + 1))) (paT T k) ((j_as (j_wt (j_vl (j_va (j_pa K (va_up (k_pa K) (g_np T) P)) (fun v => if v < 3 * g_np T then k_va K v else P + 1 + 2 * (v - 3 * g_np T))) (fun v => if v < 3 * g_np T then k_vl K v else 0)) (fun v => if v < 3 * g_np T then k_wt K v else 0)) (va_up (k_as K) (g_np T) (lN 0)))) := by
  have e_np := pq_np T k
  have e_pk := pq_pk T k
  have e_nb := pq_nb T k
  have e_bt := pq_bt T k
  have e_ev := pq_ev T k
  have e_ct := pq_ct T k
  have e_th := pq_th T k
  have e_vo := pq_vo T k
  have e_kd := pq_kd T k
  have e_pn := pq_pn T k
  have e_pi := pq_pi T k
  have e_va := pq_va T k
  have e_dt := pq_dt T k
  have e_ti := pq_ti T k
  have e_mn := pq_mn T k
  have e_ro := pq_ro T k
  have e_te := pq_te T k
  have e_cu := pq_cu T k
  have e_tt := pq_tt T k
  have e_tv := pq_tv T k
  have e_tf := pq_tf T k
  have e_tl := pq_tl T k
  have e_tn := pq_tn T k
  have e_tm := pq_tm T k
  have e_tu := pq_tu T k
  have e_le := pq_le T k
  have e_cl := pq_cl T k
  have e_lt := pq_lt T k
  have e_lk := pq_lk T k
  have e_lf := pq_lf T k
  have e_lo := pq_lo T k
  have e_wm := pq_wm T k
  have e_wr := pq_wr T k
  have e_fo := pq_fo T k
  have e_fi := pq_fi T k
  have e_hr := pq_hr T k
  have e_rk := pq_rk T k
  have e_rs := pq_rs T k
  have e_rr := pq_rr T k
  have e_hs := pq_hs T k
  have e_sk := pq_sk T k
  have e_ss := pq_ss T k
  have e_sr := pq_sr T k
  have e_fa := pq_fa T k
  have e_su := pq_su T k
  have e_tr := pq_tr T k
  have e_pl := pq_pl T k
  skip
  have h1 : cG c (P + 7) τ T K := cG_up (cG_ag hag h) (by omega) (by omega)
  have hB12 := (cf_B h).1
  generalize paT T k = S at *
  exact ⟨(cf_sh h1 :),
  (cf_B h1 :),
  (by
  try simp only [e_np, e_ev, e_te, e_le, e_nb]
  have z := cf_bd h
  omega),
  (by
  try simp only [e_np, e_pk, kj_pa_pa, kj_pa_va, kj_pa_vl, kj_pa_wt, kj_pa_as]
  intro i q0
  by_cases q : i = g_np T
  · subst q
    try simp only [up_eq, u2_eq] at *
    exact ⟨hkP, by omega, by omega⟩
  · try simp only [up_ne q, u2_ne q] at *
    exact cf_pk h1 i (by omega)),
  (by
  try simp only [e_np, kj_va_pa, kj_va_va, kj_va_vl, kj_va_wt, kj_va_as]
  intro v hv
  by_cases q : v < 3 * g_np T
  · simp only [if_pos q]
    skip
    exact cf_vk h1 v q
  · simp only [if_neg q]
    have z := hF (v - 3 * g_np T) (by omega)
    rw [show 3 * g_np T + (v - 3 * g_np T) = v by omega] at z
    exact ⟨z.1, z.2.1, by omega, by omega⟩),
  (by
  try simp only [e_ev, e_kd, kj_ea_pa, kj_ea_va, kj_ea_vl, kj_ea_wt, kj_ea_as]
  exact (cf_ek h1 :)),
  (by
  try simp only [e_te, kj_ta_pa, kj_ta_va, kj_ta_vl, kj_ta_wt, kj_ta_as]
  exact (cf_tk h1 :)),
  (by
  try simp only [e_le, kj_la_pa, kj_la_va, kj_la_vl, kj_la_wt, kj_la_as]
  exact (cf_lk h1 :)),
  (by
  try simp only [e_hr, e_rs, kj_wa_pa, kj_wa_va, kj_wa_vl, kj_wa_wt, kj_wa_as]
  exact (cf_rk h1 :)),
  (by
  try simp only [e_hs, e_ss, kj_wa_pa, kj_wa_va, kj_wa_vl, kj_wa_wt, kj_wa_as]
  exact (cf_sk h1 :)),
  (by
  try simp only [e_np, kj_pa_pa, kj_pa_va, kj_pa_vl, kj_pa_wt, kj_pa_as]
  intro i j hi hj hq
  by_cases q1 : i = g_np T
  · by_cases q2 : j = g_np T
    · rw [q1, q2]
    · rw [q1, up_eq, up_ne q2] at hq
      have := (cf_pk (cG_ag hag h) j (by omega)).2.2
      omega
  · by_cases q2 : j = g_np T
    · rw [q2, up_eq, up_ne q1] at hq
      have := (cf_pk (cG_ag hag h) i (by omega)).2.2
      omega
    · rw [up_ne q1, up_ne q2] at hq
      exact cf_pai h1 i j (by omega) (by omega) hq),
  (by
  try simp only [e_le, kj_la_pa, kj_la_va, kj_la_vl, kj_la_wt, kj_la_as]
  exact (cf_lai h1 :)),
  (by
  try simp only [kj_wa_pa, kj_wa_va, kj_wa_vl, kj_wa_wt, kj_wa_as]
  have e_rw : rwP S = rwP T := by funext i; unfold rwP; rw [e_hr, e_hs]
  rw [e_rw]
  exact cf_wai h1),
  (by
  try simp only [e_np]
  exact if_pos ⟨rfl, rfl⟩),
  (by
  try simp only [e_nb]
  exact (cf_nb h1 :)),
  (by
  try simp only [e_ev]
  exact (cf_ev h1 :)),
  (by
  try simp only [e_te]
  exact (cf_te h1 :)),
  (by
  try simp only [e_le]
  exact (cf_le h1 :)),
  (by
  try simp only [e_wm]
  exact (cf_wm h1 :)),
  (by
  try simp only [e_fo]
  exact (cf_fo h1 :)),
  (by
  try simp only [e_su]
  exact (cf_su h1 :)),
  (by
  try simp only [e_np, kj_pa_pa, kj_pa_va, kj_pa_vl, kj_pa_wt, kj_pa_as]
  intro i q0
  by_cases q : i = g_np T
  · subst q
    try simp only [up_eq, u2_eq] at *
    exact hrP
  · try simp only [up_ne q, u2_ne q] at *
    exact cf_pa h1 i (by omega)),
  (by
  try simp only [e_np, kj_pa_pa, kj_pa_va, kj_pa_vl, kj_pa_wt, kj_pa_as, kj_as_pa, kj_as_va, kj_as_vl, kj_as_wt, kj_as_as]
  intro i q0
  by_cases q : i = g_np T
  · subst q
    try simp only [up_eq, u2_eq] at *
    exact hLP
  · try simp only [up_ne q, u2_ne q] at *
    exact cf_pas h1 i (by omega)),
  (by
  try simp only [e_np, kj_va_pa, kj_va_va, kj_va_vl, kj_va_wt, kj_va_as]
  intro v hv
  by_cases q : v < 3 * g_np T
  · simp only [if_pos q]
    skip
    exact cf_va h1 v q
  · simp only [if_neg q]
    have z := hF (v - 3 * g_np T) (by omega)
    rw [show 3 * g_np T + (v - 3 * g_np T) = v by omega] at z
    exact z.2.2.2.2.2.2.2.2),
  (by
  try simp only [e_np, kj_va_pa, kj_va_va, kj_va_vl, kj_va_wt, kj_va_as]
  intro v hv
  by_cases q : v < 3 * g_np T
  · simp only [if_pos q]
    skip
    exact cf_vn h1 v q
  · simp only [if_neg q]
    have z := hF (v - 3 * g_np T) (by omega)
    rw [show 3 * g_np T + (v - 3 * g_np T) = v by omega] at z
    exact z.2.2.1),
  (by
  try simp only [e_np, kj_va_pa, kj_va_va, kj_va_vl, kj_va_wt, kj_va_as, kj_pa_pa, kj_pa_va, kj_pa_vl, kj_pa_wt, kj_pa_as]
  intro v hv
  by_cases q : v < 3 * g_np T
  · simp only [if_pos q]
    rw [up_ne (by omega)]
    exact cf_vi h1 v q
  · simp only [if_neg q]
    have z := hF (v - 3 * g_np T) (by omega)
    rw [show 3 * g_np T + (v - 3 * g_np T) = v by omega] at z
    rw [show v / 3 = g_np T by omega, up_eq]
    exact z.2.2.2.1),
  (by
  try simp only [e_np, kj_va_pa, kj_va_va, kj_va_vl, kj_va_wt, kj_va_as]
  intro v hv
  by_cases q : v < 3 * g_np T
  · simp only [if_pos q]
    skip
    exact cf_ve h1 v q
  · simp only [if_neg q]
    have z := hF (v - 3 * g_np T) (by omega)
    rw [show 3 * g_np T + (v - 3 * g_np T) = v by omega] at z
    exact z.2.2.2.2.1),
  (by
  try simp only [e_np, e_mn, kj_va_pa, kj_va_va, kj_va_vl, kj_va_wt, kj_va_as]
  intro v hv
  by_cases q : v < 3 * g_np T
  · simp only [if_pos q]
    skip
    exact cf_vs h1 v q
  · simp only [if_neg q]
    have z := hF (v - 3 * g_np T) (by omega)
    rw [show 3 * g_np T + (v - 3 * g_np T) = v by omega] at z
    rw [hmn0 v (by omega)]
    exact z.2.2.2.2.2.1),
  (by
  try simp only [e_np, kj_va_pa, kj_va_va, kj_va_vl, kj_va_wt, kj_va_as, kj_wt_pa, kj_wt_va, kj_wt_vl, kj_wt_wt, kj_wt_as]
  intro v hv
  by_cases q : v < 3 * g_np T
  · simp only [if_pos q]
    skip
    exact cf_vw h1 v q
  · simp only [if_neg q]
    have z := hF (v - 3 * g_np T) (by omega)
    rw [show 3 * g_np T + (v - 3 * g_np T) = v by omega] at z
    exact z.2.2.2.2.2.2.1),
  (by
  try simp only [e_np, kj_va_pa, kj_va_va, kj_va_vl, kj_va_wt, kj_va_as, kj_vl_pa, kj_vl_va, kj_vl_vl, kj_vl_wt, kj_vl_as]
  intro v hv
  by_cases q : v < 3 * g_np T
  · simp only [if_pos q]
    skip
    exact cf_vl h1 v q
  · simp only [if_neg q]
    have z := hF (v - 3 * g_np T) (by omega)
    rw [show 3 * g_np T + (v - 3 * g_np T) = v by omega] at z
    exact z.2.2.2.2.2.2.2.1),
  (by
  try simp only [e_np, e_mn, e_ro, kj_va_pa, kj_va_va, kj_va_vl, kj_va_wt, kj_va_as, kj_ea_pa, kj_ea_va, kj_ea_vl, kj_ea_wt, kj_ea_as]
  intro v p hv hp
  by_cases q : v < 3 * g_np T
  · simp only [if_pos q]
    exact cf_ro h1 v p q hp
  · rw [hmn0 v (by omega)] at hp
    exact absurd hp (Nat.not_lt_zero _)),
  (by
  try simp only [e_nb, kj_be_pa, kj_be_va, kj_be_vl, kj_be_wt, kj_be_as]
  exact (cf_be h1 :)),
  (by
  try simp only [e_ev, e_th, kj_ea_pa, kj_ea_va, kj_ea_vl, kj_ea_wt, kj_ea_as]
  exact (cf_ea h1 :)),
  (by
  try simp only [e_ev, kj_ea_pa, kj_ea_va, kj_ea_vl, kj_ea_wt, kj_ea_as]
  exact (cf_en h1 :)),
  (by
  try simp only [e_ev, e_vo, kj_ea_pa, kj_ea_va, kj_ea_vl, kj_ea_wt, kj_ea_as, kj_va_pa, kj_va_va, kj_va_vl, kj_va_wt, kj_va_as]
  intro e he
  rw [if_pos (hvo e he)]
  exact cf_eo h1 e he),
  (by
  try simp only [e_ev, e_kd, kj_ea_pa, kj_ea_va, kj_ea_vl, kj_ea_wt, kj_ea_as]
  exact (cf_ed h1 :)),
  (by
  try simp only [e_ev, kj_ea_pa, kj_ea_va, kj_ea_vl, kj_ea_wt, kj_ea_as]
  exact (cf_ep h1 :)),
  (by
  try simp only [e_ev, e_pn, kj_ea_pa, kj_ea_va, kj_ea_vl, kj_ea_wt, kj_ea_as]
  exact (cf_ec h1 :)),
  (by
  try simp only [e_ev, e_va, kj_ea_pa, kj_ea_va, kj_ea_vl, kj_ea_wt, kj_ea_as]
  exact (cf_et h1 :)),
  (by
  try simp only [e_ev, e_dt, kj_ea_pa, kj_ea_va, kj_ea_vl, kj_ea_wt, kj_ea_as]
  exact (cf_es h1 :)),
  (by
  try simp only [e_ev, e_ti, kj_ea_pa, kj_ea_va, kj_ea_vl, kj_ea_wt, kj_ea_as]
  exact (cf_ei h1 :)),
  (by
  try simp only [e_ev, kj_ea_pa, kj_ea_va, kj_ea_vl, kj_ea_wt, kj_ea_as, kj_pl_pa, kj_pl_va, kj_pl_vl, kj_pl_wt, kj_pl_as]
  exact (cf_el h1 :)),
  (by
  try simp only [e_ev, kj_ea_pa, kj_ea_va, kj_ea_vl, kj_ea_wt, kj_ea_as, kj_bg_pa, kj_bg_va, kj_bg_vl, kj_bg_wt, kj_bg_as]
  exact (cf_eb h1 :)),
  (by
  try simp only [e_ev, kj_ea_pa, kj_ea_va, kj_ea_vl, kj_ea_wt, kj_ea_as, kj_ls_pa, kj_ls_va, kj_ls_vl, kj_ls_wt, kj_ls_as]
  exact (cf_ez h1 :)),
  (by
  try simp only [e_ev, e_pn, e_pi, kj_ea_pa, kj_ea_va, kj_ea_vl, kj_ea_wt, kj_ea_as]
  exact (cf_pi h1 :)),
  (by
  try simp only [e_te, e_tt, kj_ta_pa, kj_ta_va, kj_ta_vl, kj_ta_wt, kj_ta_as]
  exact (cf_ta h1 :)),
  (by
  try simp only [e_te, kj_ta_pa, kj_ta_va, kj_ta_vl, kj_ta_wt, kj_ta_as]
  exact (cf_tq h1 :)),
  (by
  try simp only [e_te, e_tt, e_tv, kj_ta_pa, kj_ta_va, kj_ta_vl, kj_ta_wt, kj_ta_as, kj_va_pa, kj_va_va, kj_va_vl, kj_va_wt, kj_va_as]
  intro t ht htt
  rw [if_pos (htv t ht htt)]
  exact cf_to h1 t ht htt),
  (by
  try simp only [e_te, kj_ta_pa, kj_ta_va, kj_ta_vl, kj_ta_wt, kj_ta_as, kj_t1_pa, kj_t1_va, kj_t1_vl, kj_t1_wt, kj_t1_as]
  exact (cf_t1 h1 :)),
  (by
  try simp only [e_te, kj_ta_pa, kj_ta_va, kj_ta_vl, kj_ta_wt, kj_ta_as, kj_tk_pa, kj_tk_va, kj_tk_vl, kj_tk_wt, kj_tk_as]
  exact (cf_t2 h1 :)),
  (by
  try simp only [e_te, e_tn, kj_ta_pa, kj_ta_va, kj_ta_vl, kj_ta_wt, kj_ta_as]
  exact (cf_tn h1 :)),
  (by
  try simp only [e_te, e_tm, kj_ta_pa, kj_ta_va, kj_ta_vl, kj_ta_wt, kj_ta_as]
  exact (cf_tm h1 :)),
  (by
  try simp only [e_te, e_tu, kj_ta_pa, kj_ta_va, kj_ta_vl, kj_ta_wt, kj_ta_as]
  exact (cf_tu h1 :)),
  (by
  try simp only [e_le, e_lt, kj_la_pa, kj_la_va, kj_la_vl, kj_la_wt, kj_la_as]
  exact (cf_la h1 :)),
  (by
  try simp only [e_le, e_lk, kj_la_pa, kj_la_va, kj_la_vl, kj_la_wt, kj_la_as]
  exact (cf_lj h1 :)),
  (by
  try simp only [e_le, e_lt, e_lf, kj_la_pa, kj_la_va, kj_la_vl, kj_la_wt, kj_la_as, kj_ea_pa, kj_ea_va, kj_ea_vl, kj_ea_wt, kj_ea_as]
  exact (cf_lf h1 :)),
  (by
  try simp only [e_le, e_lt, e_lo, kj_la_pa, kj_la_va, kj_la_vl, kj_la_wt, kj_la_as, kj_ea_pa, kj_ea_va, kj_ea_vl, kj_ea_wt, kj_ea_as]
  exact (cf_lo h1 :)),
  (by
  try simp only [e_wm, e_wr]
  exact (cf_wr h1 :)),
  (by
  try simp only [e_fi]
  exact (cf_fi h1 :)),
  (by
  try simp only [e_fa]
  exact (cf_fa h1 :)),
  (by
  try simp only [e_hr, kj_wa_pa, kj_wa_va, kj_wa_vl, kj_wa_wt, kj_wa_as]
  exact (cf_ra h1 :)),
  (by
  try simp only [e_hs, kj_wa_pa, kj_wa_va, kj_wa_vl, kj_wa_wt, kj_wa_as]
  exact (cf_sa h1 :)),
  (by
  try simp only [e_hr, e_rk, kj_wa_pa, kj_wa_va, kj_wa_vl, kj_wa_wt, kj_wa_as]
  exact (cf_rd h1 :)),
  (by
  try simp only [e_hs, e_sk, kj_wa_pa, kj_wa_va, kj_wa_vl, kj_wa_wt, kj_wa_as]
  exact (cf_sd h1 :)),
  (by
  try simp only [e_hr, kj_wa_pa, kj_wa_va, kj_wa_vl, kj_wa_wt, kj_wa_as]
  exact (cf_rt h1 :)),
  (by
  try simp only [e_hs, kj_wa_pa, kj_wa_va, kj_wa_vl, kj_wa_wt, kj_wa_as]
  exact (cf_st h1 :)),
  (by
  try simp only [e_hr, e_rs, e_rr, kj_wa_pa, kj_wa_va, kj_wa_vl, kj_wa_wt, kj_wa_as]
  exact (cf_rr h1 :)),
  (by
  try simp only [e_hs, e_ss, e_sr, kj_wa_pa, kj_wa_va, kj_wa_vl, kj_wa_wt, kj_wa_as]
  exact (cf_sr h1 :))⟩
theorem kI_part {T : TS} {K : KS} (hI : tI T) (hK : kI T K) {P k : Nat} : kI (paT T k) (j_as (j_wt (j_vl (j_va (j_pa K (va_up (k_pa K) (g_np T) P)) (fun v => if v < 3 * g_np T then k_va K v else P + 1 + 2 * (v - 3 * g_np T))) (fun v => if v < 3 * g_np T then k_vl K v else 0)) (fun v => if v < 3 * g_np T then k_wt K v else 0)) (va_up (k_as K) (g_np T) (lN 0))) := by
  have hb : ∀ w p, bgF (paT T k) w p = bgF T w p := by
    intro w p
    refine bgF_cg (T := T) (S := paT T k) p (fun q _ => ⟨rfl, ?_⟩)
    exact tmF_cg (T := T) (S := paT T k) rfl (g_te T) (fun _ _ => ⟨rfl, fun _ => ⟨rfl, rfl⟩⟩)
  have ht : ∀ e, tmT (paT T k) e = tmT T e := fun e => tmF_cg (T := T) (S := paT T k) rfl (g_te T) (fun _ _ => ⟨rfl, fun _ => ⟨rfl, rfl⟩⟩)
  refine ⟨ki_pl (T := T) (K := K) hK, fun e he hte => (ki_bg (T := T) (K := K) hK e he hte).trans (hb _ _).symm, fun e he hte => (ki_ls (T := T) (K := K) hK e he hte).trans (ht e).symm, fun v hv => ?_, ki_kT (T := T) (K := K) hK, fun b hb2 => (ki_be (T := T) (K := K) hK b hb2).trans (baF_cg (T := T) (S := paT T k) _ (fun _ _ => rfl)).symm, ?_⟩
  · show (if v < 3 * g_np T then k_vl K v else 0) = _
    rw [hb]
    show _ = bgF T v (g_mn T v)
    by_cases q : v < 3 * g_np T
    · rw [if_pos q]
      exact ki_vl hK v q
    · rw [if_neg q, ti_mn0 hI v (by omega)]
      rfl
  · show asF (va_up (k_as K) (g_np T) (lN 0)) (g_np T + 1) = g_tr T
    rw [asF, up_eq, asF_lo (g_np T) (g := k_as K) (fun i hi => up_ne (by omega)), ki_as hK, show lN 0 = 0 from rfl, Int64.add_zero]
theorem nvF_p {c P n i j : Nat} {σ : ZS} {w : Option Nat} (h : nvF c σ P n i) : nvF c (qr σ (c + 1) j w) P n i := by
  intro q hq
  obtain ⟨h1, h2, h3, h4, h5, h6, h7, h8, h9⟩ := h q hq
  exact ⟨h1, h2, h3, h4, h5, h6, h7, h8, Eq.trans (if_neg (fun z => absurd z.1 (by omega))) h9⟩
theorem icl_tk {τ : ZS} {b k : Nat} (h : zk τ b = (1, icl k)) (hk : k ≤ 5) : ∃ ci, zk τ b = (1, ci) ∧ zTk 0 ci := by
  refine ⟨icl k, h, ?_⟩
  have h6 : k = 0 ∨ k = 1 ∨ k = 2 ∨ k = 3 ∨ k = 4 ∨ k = 5 := by omega
  rcases h6 with rfl | rfl | rfl | rfl | rfl | rfl
  · exact ⟨by decide, Or.inl rfl⟩
  · exact ⟨by decide, Or.inr wd_6_175⟩
  · exact ⟨by decide, Or.inr wd_6_172⟩
  · exact ⟨by decide, Or.inr wd_6_174⟩
  · exact ⟨by decide, Or.inr wd_6_176⟩
  · exact ⟨by decide, Or.inr wd_6_173⟩
set_option maxHeartbeats 4000000 in
set_option maxRecDepth 100000 in
theorem q_part {c : Nat} {σ : ZS} {T : TS} (hR : cR c σ T) (hI : tI T) (k : Int32) : ZC M_X11_part [Ar (some c), Ai k] σ (fun y0 τ0 => y0 = some (Ai (sp_part T k).1) ∧ cR c τ0 (sp_part T k).2) := by
  obtain ⟨B, K, hG, hK⟩ := hR
  have hbd := cf_bd hG
  refine ZC_of (ls := [some (Ar (some c)), some (Ai k), none, none, none]) (by decide) (Nat.le_of_ble_eq_true rfl) rfl ?_
  refine ZV_iload_n (n := 1) dX11_part_0 rfl rfl rfl ?_
  refine ZV_if_lt (tgt := 9) (n := 4) dX11_part_1 (by decide) rfl (fun h1 => ?_) (fun h1 => ?_)
  · skip
    refine ZV_aload_n (n := 10) dX11_part_9 rfl rfl rfl ?_
    refine ZV_bipush (v := -2) (n := 12) dX11_part_10 rfl rfl ?_
    refine call_X11_87 (e_refuse hG _) rfl dX11_part_12 rfl (cf_sh hG :).1 (Nat.le_of_ble_eq_true rfl) (Nat.le_of_ble_eq_true rfl) rfl (fun r9 σ9 hp9 => ?_)
    obtain ⟨rfl, hG⟩ := hp9
    refine ZV_iret dX11_part_15 rfl ?_
    have hi : inB k 6 = false := inB_lt0 _ h1
    exact zlC (v := sNo T (-2)) (by simp [sp_part, hi]) rfl ⟨B, K, hG, kI_e hK ⟨rfl, rfl, rfl, rfl, rfl, rfl, rfl, rfl, rfl, rfl, rfl, rfl, rfl, rfl, rfl, rfl, rfl, rfl, rfl, rfl⟩⟩
  · skip
    refine ZV_iload_n (n := 5) dX11_part_4 rfl rfl rfl ?_
    refine ZV_iconst (v := nI 5) (n := 6) dX11_part_5 rfl rfl ?_
    refine ZV_icmp_le (tgt := 16) (n := 9) dX11_part_6 (by decide) rfl (fun h6 => ?_) (fun h6 => ?_)
    · skip
      have hk6 := inB_okl (m := 5) (by decide) h1 (Int32.not_lt.mpr h6)
      obtain ⟨k9, hk9, hk92, rfl⟩ := inB_t hk6
      have hck9 : (nI k9).toNatClampNeg = k9 := nI_clamp hk92
      have hk6 : inB (nI k9) 6 = true := hk6
      refine ZV_aload_n (n := 17) dX11_part_16 rfl rfl rfl ?_
      refine ZV_getIv (n := 20) dX11_part_17 fl_X11_15 rfl rfl rfl (cf_sh hG :).1 (cf_np hG :) ?_
      refine ZV_bipush (v := nI 6) (n := 22) dX11_part_20 rfl rfl ?_
      refine ZV_icmp_ltN (tgt := 32) (n := 25) dX11_part_22 (by decide) rfl (by omega) (by omega) (fun h22 => ?_) (fun h22 => ?_)
      · skip
        have hn6 : g_np T ≠ 6 := by omega
        have hG0 := hG
        refine ZV_iload_n (n := 33) dX11_part_32 rfl rfl rfl ?_
        refine call_X11_91 (e_newInstrument _ (k := k9) (by omega)) rfl dX11_part_33 (Nat.le_of_ble_eq_true rfl) (Nat.le_of_ble_eq_true rfl) rfl (fun r9 σ9 hp9 => ?_)
        obtain ⟨rfl, hag, hkP, hLP, hzP⟩ := hp9
        obtain ⟨P9, hP9⟩ : ∃ b, b = zn σ := ⟨_, rfl⟩
        rw [← hP9] at hag hkP hLP hzP ⊢
        have hBP : B ≤ P9 := by rw [hP9]; exact (cf_B hG).2
        have hc12 := (cf_B hG).1
        refine ZV_astore_2 (n := 37) dX11_part_36 rfl (Nat.le_of_ble_eq_true rfl) rfl ?_
        refine ZV_iconst (v := nI 0) (n := 38) dX11_part_37 rfl rfl ?_
        refine ZV_istore_3 (n := 39) dX11_part_38 rfl (Nat.le_of_ble_eq_true rfl) rfl ?_
        have loop : ∀ (n9 i : Nat) (τ : ZS), 3 - i < n9 → i ≤ 3 → True → zn τ = P9 + 1 + 2 * i → zk τ P9 = (1, icl k9) → zL τ 448 P9 = lN 0 → cG c B τ T K → nvF c τ P9 (3 * g_np T) i → True → ZV M_X11_part (fun y0 τ0 => y0 = some (Ai (sp_part T (nI k9)).1) ∧ cR c τ0 (sp_part T (nI k9)).2) 39 [some (Ar (some c)), some (Ai (nI k9)), some (Ar (some P9)), some (Ai (nI i)), none] [] τ (1 + 2 * (3 - i)) (61 + 46 * (3 - i)) := by
          intro n9
          induction n9 with
          | zero => intro i τ hme; exact absurd hme (Nat.not_lt_zero _)
          | succ n9 ih =>
            intro i τ hme hi hag hzn hkP hLP hG hF hX
            refine ZV_iload_n (n := 40) dX11_part_39 rfl rfl rfl ?_
            refine ZV_iconst (v := nI 3) (n := 41) dX11_part_40 rfl rfl ?_
            refine ZV_icmp_geN (tgt := 77) (n := 44) dX11_part_41 (by decide) rfl (by omega) (by omega) (fun h41 => ?_) (fun h41 => ?_)
            · skip
              obtain rfl : i = 3 := by omega
              refine ZV_aload_n (n := 78) dX11_part_77 rfl rfl rfl ?_
              refine ZV_getRv (n := 81) dX11_part_78 fl_X11_11 rfl rfl rfl (cf_sh hG :).1 (ca_parts (cf_sh hG :)) ?_
              refine ZV_aload_n (n := 82) dX11_part_81 rfl rfl rfl ?_
              refine ZV_getIv (n := 85) dX11_part_82 fl_X11_15 rfl rfl rfl (cf_sh hG :).1 (cf_np hG :) ?_
              refine ZV_aload_n (n := 86) dX11_part_85 rfl rfl rfl ?_
              refine ZV_aast (c0 := 0) (j := g_np T) (n := 87) dX11_part_86 rfl (by decide) (fun x9 q9 => by cases q9; exact icl_tk hkP (by omega)) rfl (ck_parts (cf_sh hG :)) rfl (by omega) ?_
              refine ZV_aload_n (n := 88) dX11_part_87 rfl rfl rfl ?_
              refine ZV_dup (n := 89) dX11_part_88 rfl rfl ?_
              refine ZV_getIv (n := 92) dX11_part_89 fl_X11_15 rfl rfl rfl (cf_sh hG :).1 (cf_np hG :) ?_
              refine ZV_iconst (v := nI 1) (n := 93) dX11_part_92 rfl rfl ?_
              refine ZV_iaddN (n := 94) dX11_part_93 rfl ?_
              refine ZV_putI (n := 97) dX11_part_94 fl_X11_15 rfl (Or.inl rfl) rfl (fun h => absurd h (by decide)) rfl (cf_sh hG :).1 ?_
              refine ZV_gen (P := fun τ => cG c _ τ _ _) (U_part (k := k9) (U_pa0 hG (Nat.le_refl _) (some P9)) hBP (by show zn τ = _; omega) zag_rf (by omega) hkP hLP (if_pos ⟨rfl, rfl⟩) (nvF_p hF) hn6 (ti_mn0 hI) (ti_vo hI) (fun t ht htt => tv_lt hI ht htt)) (fun σ hG => ?_)
              refine ZV_aload_n (n := 98) dX11_part_97 rfl rfl rfl ?_
              refine ZV_aload_n (n := 99) dX11_part_98 rfl rfl rfl ?_
              refine ZV_getIv (n := 102) dX11_part_99 fl_X11_15 rfl rfl rfl (cf_sh hG :).1 (show _ = nI (g_np T + 1) from (cf_np hG).trans (congrArg nI (pq_np T _))) ?_
              refine ZV_iconst (v := nI 1) (n := 103) dX11_part_102 rfl rfl ?_
              refine ZV_isubN (n := 104) dX11_part_103 rfl (by omega) ?_
              refine call_X11_98 (e_done hG _) rfl dX11_part_104 rfl (cf_sh hG :).1 (Nat.le_of_ble_eq_true rfl) (Nat.le_of_ble_eq_true rfl) rfl (fun r9 σ9 hp9 => ?_)
              obtain ⟨rfl, hG⟩ := hp9
              refine ZV_iret dX11_part_107 rfl ?_
              exact zlC (v := sOk (paT T k9) (nI (g_np T))) (by rw [sp_part, if_neg (tne hk6), if_neg hn6, hck9]; rfl) rfl ⟨_, _, hG, kI_e (T := paT T k9) (kI_part hI hK) ⟨rfl, rfl, rfl, rfl, rfl, rfl, rfl, rfl, rfl, rfl, rfl, rfl, rfl, rfl, rfl, rfl, rfl, rfl, rfl, rfl⟩⟩
            · skip
              refine ZV_aload_n (n := 45) dX11_part_44 rfl rfl rfl ?_
              refine ZV_getIv (n := 48) dX11_part_45 fl_X11_15 rfl rfl rfl (cf_sh hG :).1 (cf_np hG :) ?_
              refine ZV_iconst (v := nI 3) (n := 49) dX11_part_48 rfl rfl ?_
              refine ZV_imulN (n := 50) dX11_part_49 rfl ?_
              refine ZV_topi (congrArg nI (Nat.mul_comm _ _)) ?_
              refine ZV_iload_n (n := 51) dX11_part_50 rfl rfl rfl ?_
              refine ZV_iaddN (n := 52) dX11_part_51 rfl ?_
              refine ZV_istore_4 (n := 54) dX11_part_52 rfl (Nat.le_of_ble_eq_true rfl) rfl ?_
              refine ZV_aload_n (n := 55) dX11_part_54 rfl rfl rfl ?_
              refine ZV_getRv (n := 58) dX11_part_55 fl_X11_21 rfl rfl rfl (cf_sh hG :).1 (ca_voices (cf_sh hG :)) ?_
              refine ZV_iload (n := 60) dX11_part_58 rfl rfl ?_
              rw [show 1 + 2 * (3 - i) = (1 + 2 * (3 - (i + 1)) + 1) + 1 by omega, show 61 + 46 * (3 - i) = (61 + 46 * (3 - (i + 1)) + 40) + 6 by omega]
              refine ZV_newC (ci := 10) (N := 6) (n := 63) dX11_part_60 rfl (by decide) rfl wd_1_28 wd_1_171 wd_1_9 ?_
              obtain ⟨b9, hb9⟩ : ∃ b, b = zn τ := ⟨_, rfl⟩
              rw [← hb9]
              have hB9 : B ≤ b9 := by omega
              refine ZV_gen (P := fun υ => cG c B υ T K ∧ zk υ b9 = (1, 10) ∧ zn υ = b9 + 1 ∧ zk υ P9 = (1, icl k9) ∧ zL υ 448 P9 = lN 0 ∧ nvF c υ P9 (3 * g_np T) i) ⟨cG_ag (zag_new (cf_B hG).2) hG, by rw [hb9]; exact zk_new _ _, by rw [hb9]; rfl, (ag_k (zag_new (Nat.le_refl (zn τ))) (show P9 < zn τ by omega)).trans hkP, (ag_zL (zag_new (Nat.le_refl (zn τ))) (show P9 < zn τ by omega) _).trans hLP, nvF_n hF hzn (by omega) _⟩ (fun υ hG9 => ?_)
              have hb9 : b9 = P9 + 1 + 2 * i := by omega
              clear hkP hLP hF hG hag
              obtain ⟨hG, hkb, hzb, hkP, hLP, hF⟩ := hG9
              refine ZV_dup (n := 64) dX11_part_63 rfl rfl ?_
              refine ZV_iload (n := 66) dX11_part_64 rfl rfl ?_
              refine ZV_aload_n (n := 67) dX11_part_66 rfl rfl rfl ?_
              refine call_X11_95 (e_X10_init hkb hzb (3 * g_np T + i) P9) rfl dX11_part_67 (Nat.le_of_ble_eq_true rfl) (Nat.le_of_ble_eq_true rfl) rfl (fun r9 σ9 hp9 => ?_)
              obtain ⟨rfl, hN⟩ := hp9
              have hG := cG_ag (zag_le hB9 hN.1) hG
              refine ZV_aast (c0 := 1) (j := 3 * g_np T + i) (n := 71) dX11_part_70 rfl (by decide) (fun x9 q9 => by cases q9; exact ⟨10, hN.2.2.1, by decide, Or.inl rfl⟩) rfl (ck_voices (cf_sh hG :)) rfl (by omega) ?_
              refine ZV_iincN_3 (v := 1) (n := 74) dX11_part_71 rfl rfl (Nat.le_of_ble_eq_true rfl) rfl ?_
              refine ZV_goto (tgt := 39) dX11_part_74 (by decide) ?_
              refine ZV_fg_4 ?_
              have hlt : P9 < b9 := by omega
              exact ih (i + 1) _ (by omega) (by omega) trivial (by show zn σ9 = _; rw [hN.2.1]; omega) ((ag_k hN.1 hlt).trans hkP) ((ag_zL hN.1 hlt _).trans hLP) (U_va0 hG (by omega) _) (nvF_s hF (by omega) (by omega) hN) hX
        exact loop _ 0 σ9 (Nat.lt_succ_self _) (Nat.zero_le _) trivial (by omega) hkP hLP (cG_ag (zag_le hBP hag) hG) (fun j hj => absurd hj (Nat.not_lt_zero _)) trivial
      · skip
        refine ZV_aload_n (n := 26) dX11_part_25 rfl rfl rfl ?_
        refine ZV_bipush (v := -4) (n := 28) dX11_part_26 rfl rfl ?_
        refine call_X11_87 (e_refuse hG _) rfl dX11_part_28 rfl (cf_sh hG :).1 (Nat.le_of_ble_eq_true rfl) (Nat.le_of_ble_eq_true rfl) rfl (fun r9 σ9 hp9 => ?_)
        obtain ⟨rfl, hG⟩ := hp9
        refine ZV_iret dX11_part_31 rfl ?_
        exact zlC (v := sNo T (-4)) (by rw [sp_part, if_neg (tne hk6), if_pos (by omega)]) rfl ⟨B, K, hG, kI_e hK ⟨rfl, rfl, rfl, rfl, rfl, rfl, rfl, rfl, rfl, rfl, rfl, rfl, rfl, rfl, rfl, rfl, rfl, rfl, rfl, rfl⟩⟩
    · skip
      refine ZV_aload_n (n := 10) dX11_part_9 rfl rfl rfl ?_
      refine ZV_bipush (v := -2) (n := 12) dX11_part_10 rfl rfl ?_
      refine call_X11_87 (e_refuse hG _) rfl dX11_part_12 rfl (cf_sh hG :).1 (Nat.le_of_ble_eq_true rfl) (Nat.le_of_ble_eq_true rfl) rfl (fun r9 σ9 hp9 => ?_)
      obtain ⟨rfl, hG⟩ := hp9
      refine ZV_iret dX11_part_15 rfl ?_
      have hi : inB k 6 = false := inB_gt (m := 5) (by decide) (Int32.not_le.mp h6)
      exact zlC (v := sNo T (-2)) (by simp [sp_part, hi]) rfl ⟨B, K, hG, kI_e hK ⟨rfl, rfl, rfl, rfl, rfl, rfl, rfl, rfl, rfl, rfl, rfl, rfl, rfl, rfl, rfl, rfl, rfl, rfl, rfl, rfl⟩⟩
