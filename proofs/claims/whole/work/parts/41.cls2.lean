theorem ea_inj {c B : Nat} {σ : ZS} {T : TS} {K : KS} (h : cG c B σ T K) {i j : Nat} (hi : i < g_ev T) (hj : j < g_ev T) (e : k_ea K i = k_ea K j) : i = j := by
  have h1 := cf_en h i hi
  rw [e, cf_en h j hj] at h1
  have := (cf_bd h).2.1
  exact ((nI_eq (by omega) (by omega)).mp h1).symm
theorem va_inj {c B : Nat} {σ : ZS} {T : TS} {K : KS} (h : cG c B σ T K) {i j : Nat} (hi : i < 3 * g_np T) (hj : j < 3 * g_np T) (e : k_va K i = k_va K j) : i = j := by
  have h1 := cf_vn h i hi
  rw [e, cf_vn h j hj] at h1
  have := (cf_bd h).1
  exact ((nI_eq (by omega) (by omega)).mp h1).symm
theorem ta_inj {c B : Nat} {σ : ZS} {T : TS} {K : KS} (h : cG c B σ T K) {i j : Nat} (hi : i < g_te T) (hj : j < g_te T) (e : k_ta K i = k_ta K j) : i = j := by
  have h1 := cf_tq h i hi
  rw [e, cf_tq h j hj] at h1
  have := (cf_bd h).2.2.1
  exact ((nI_eq (by omega) (by omega)).mp h1).symm
theorem ra_inj {c B : Nat} {σ : ZS} {T : TS} {K : KS} (h : cG c B σ T K) {i j : Nat} (hi : i < 4) (hj : j < 4) (ri : g_hr T i = true) (rj : g_hr T j = true) (e : k_wa K i = k_wa K j) : i = j :=
  cf_wai h i j (by omega) (by omega) (by unfold rwP; rw [if_pos hi]; exact ri) (by unfold rwP; rw [if_pos hj]; exact rj) e
theorem sa_inj {c B : Nat} {σ : ZS} {T : TS} {K : KS} (h : cG c B σ T K) {i j : Nat} (hi : i < 4) (hj : j < 4) (ri : g_hs T i = true) (rj : g_hs T j = true) (e : k_wa K (i + 4) = k_wa K (j + 4)) : i = j := by
  have := cf_wai h (i + 4) (j + 4) (by omega) (by omega) (by unfold rwP; rw [if_neg (by omega)]; exact ri) (by unfold rwP; rw [if_neg (by omega)]; exact rj) e
  omega
theorem rs_ne {c B : Nat} {σ : ZS} {T : TS} {K : KS} (h : cG c B σ T K) {i j : Nat} (hi : i < 4) (hj : j < 4) (ri : g_hr T i = true) (rj : g_hs T j = true) : k_wa K i ≠ k_wa K (j + 4) := fun e => by
  have := cf_wai h i (j + 4) (by omega) (by omega) (by unfold rwP; rw [if_pos hi]; exact ri) (by unfold rwP; rw [if_neg (by omega)]; exact rj) e
  omega
theorem er_ne {c B : Nat} {σ : ZS} {T : TS} {K : KS} (h : cG c B σ T K) {i j : Nat} (hi : i < g_ev T) (hj : j < 4) (rj : g_hr T j = true) : k_ea K i ≠ k_wa K j := fun e => by
  have h1 := (cf_ek h i hi).1
  rw [e, (cf_rk h j hj rj).1] at h1
  cases h1
theorem es_ne {c B : Nat} {σ : ZS} {T : TS} {K : KS} (h : cG c B σ T K) {i j : Nat} (hi : i < g_ev T) (hj : j < 4) (rj : g_hs T j = true) : k_ea K i ≠ k_wa K (j + 4) := fun e => by
  have h1 := (cf_ek h i hi).1
  rw [e, (cf_sk h j hj rj).1] at h1
  cases h1
theorem U_ti {c B : Nat} {σ : ZS} {T : TS} {K : KS} (h : cG c B σ T K) {e : Nat} (hv : e < g_ev T) (w : Bool) : cG c B (pI σ 135 (k_ea K e) (bI w)) (h_ti T (va_up (g_ti T) e w)) (K) := ⟨(cf_sh h :), (cf_B h :), (cf_bd h :), (cf_pk h :), (cf_vk h :), (cf_ek h :), (cf_tk h :), (cf_lk h :), (cf_rk h :), (cf_sk h :), (cf_pai h :), (cf_lai h :), (cf_wai h :), (cf_np h :), (cf_nb h :), (cf_ev h :), (cf_te h :), (cf_le h :), (cf_wm h :), (cf_fo h :), (cf_su h :), (cf_pa h :), (cf_pas h :), (cf_va h :), (cf_vn h :), (cf_vi h :), (cf_ve h :), (cf_vs h :), (cf_vw h :), (cf_vl h :), (cf_ro h :), (cf_be h :), (cf_ea h :), (cf_en h :), (cf_eo h :), (cf_ed h :), (cf_ep h :), (cf_ec h :), (cf_et h :), (cf_es h :), (fun i hi => by
  show zI (pI σ 135 (k_ea K e) (bI w)) 135 (k_ea K i) = bI (va_up (g_ti T) e w i)
  by_cases q : i = e
  · subst q
    rw [up_eq]
    exact if_pos ⟨rfl, rfl⟩
  · rw [up_ne q]
    exact Eq.trans (if_neg (fun z => q (ea_inj h hi hv z.2))) (cf_ei h i hi)), (cf_el h :), (cf_eb h :), (cf_ez h :), (cf_pi h :), (cf_ta h :), (cf_tq h :), (cf_to h :), (cf_t1 h :), (cf_t2 h :), (cf_tn h :), (cf_tm h :), (cf_tu h :), (cf_la h :), (cf_lj h :), (cf_lf h :), (cf_lo h :), (cf_wr h :), (cf_fi h :), (cf_fa h :), (cf_ra h :), (cf_sa h :), (cf_rd h :), (cf_sd h :), (cf_rt h :), (cf_st h :), (cf_rr h :), (cf_sr h :)⟩
theorem U_va {c B : Nat} {σ : ZS} {T : TS} {K : KS} (h : cG c B σ T K) {e : Nat} (hv : e < g_ev T) (w : Nat) : cG c B (pI σ 133 (k_ea K e) (nI w)) (h_va T (va_up (g_va T) e w)) (K) := ⟨(cf_sh h :), (cf_B h :), (cf_bd h :), (cf_pk h :), (cf_vk h :), (cf_ek h :), (cf_tk h :), (cf_lk h :), (cf_rk h :), (cf_sk h :), (cf_pai h :), (cf_lai h :), (cf_wai h :), (cf_np h :), (cf_nb h :), (cf_ev h :), (cf_te h :), (cf_le h :), (cf_wm h :), (cf_fo h :), (cf_su h :), (cf_pa h :), (cf_pas h :), (cf_va h :), (cf_vn h :), (cf_vi h :), (cf_ve h :), (cf_vs h :), (cf_vw h :), (cf_vl h :), (cf_ro h :), (cf_be h :), (cf_ea h :), (cf_en h :), (cf_eo h :), (cf_ed h :), (cf_ep h :), (cf_ec h :), (fun i hi => by
  show zI (pI σ 133 (k_ea K e) (nI w)) 133 (k_ea K i) = nI (va_up (g_va T) e w i)
  by_cases q : i = e
  · subst q
    rw [up_eq]
    exact if_pos ⟨rfl, rfl⟩
  · rw [up_ne q]
    exact Eq.trans (if_neg (fun z => q (ea_inj h hi hv z.2))) (cf_et h i hi)), (cf_es h :), (cf_ei h :), (cf_el h :), (cf_eb h :), (cf_ez h :), (cf_pi h :), (cf_ta h :), (cf_tq h :), (cf_to h :), (cf_t1 h :), (cf_t2 h :), (cf_tn h :), (cf_tm h :), (cf_tu h :), (cf_la h :), (cf_lj h :), (cf_lf h :), (cf_lo h :), (cf_wr h :), (cf_fi h :), (cf_fa h :), (cf_ra h :), (cf_sa h :), (cf_rd h :), (cf_sd h :), (cf_rt h :), (cf_st h :), (cf_rr h :), (cf_sr h :)⟩
theorem U_dt {c B : Nat} {σ : ZS} {T : TS} {K : KS} (h : cG c B σ T K) {e : Nat} (hv : e < g_ev T) (w : Nat) : cG c B (pI σ 134 (k_ea K e) (nI w)) (h_dt T (va_up (g_dt T) e w)) (K) := ⟨(cf_sh h :), (cf_B h :), (cf_bd h :), (cf_pk h :), (cf_vk h :), (cf_ek h :), (cf_tk h :), (cf_lk h :), (cf_rk h :), (cf_sk h :), (cf_pai h :), (cf_lai h :), (cf_wai h :), (cf_np h :), (cf_nb h :), (cf_ev h :), (cf_te h :), (cf_le h :), (cf_wm h :), (cf_fo h :), (cf_su h :), (cf_pa h :), (cf_pas h :), (cf_va h :), (cf_vn h :), (cf_vi h :), (cf_ve h :), (cf_vs h :), (cf_vw h :), (cf_vl h :), (cf_ro h :), (cf_be h :), (cf_ea h :), (cf_en h :), (cf_eo h :), (cf_ed h :), (cf_ep h :), (cf_ec h :), (cf_et h :), (fun i hi => by
  show zI (pI σ 134 (k_ea K e) (nI w)) 134 (k_ea K i) = nI (va_up (g_dt T) e w i)
  by_cases q : i = e
  · subst q
    rw [up_eq]
    exact if_pos ⟨rfl, rfl⟩
  · rw [up_ne q]
    exact Eq.trans (if_neg (fun z => q (ea_inj h hi hv z.2))) (cf_es h i hi)), (cf_ei h :), (cf_el h :), (cf_eb h :), (cf_ez h :), (cf_pi h :), (cf_ta h :), (cf_tq h :), (cf_to h :), (cf_t1 h :), (cf_t2 h :), (cf_tn h :), (cf_tm h :), (cf_tu h :), (cf_la h :), (cf_lj h :), (cf_lf h :), (cf_lo h :), (cf_wr h :), (cf_fi h :), (cf_fa h :), (cf_ra h :), (cf_sa h :), (cf_rd h :), (cf_sd h :), (cf_rt h :), (cf_st h :), (cf_rr h :), (cf_sr h :)⟩
theorem U_pl {c B : Nat} {σ : ZS} {T : TS} {K : KS} (h : cG c B σ T K) {e : Nat} (hv : e < g_ev T) (w : Nat) : cG c B (pI σ 136 (k_ea K e) (nI w)) (T) (j_pl K (va_up (k_pl K) e w)) := ⟨(cf_sh h :), (cf_B h :), (cf_bd h :), (cf_pk h :), (cf_vk h :), (cf_ek h :), (cf_tk h :), (cf_lk h :), (cf_rk h :), (cf_sk h :), (cf_pai h :), (cf_lai h :), (cf_wai h :), (cf_np h :), (cf_nb h :), (cf_ev h :), (cf_te h :), (cf_le h :), (cf_wm h :), (cf_fo h :), (cf_su h :), (cf_pa h :), (cf_pas h :), (cf_va h :), (cf_vn h :), (cf_vi h :), (cf_ve h :), (cf_vs h :), (cf_vw h :), (cf_vl h :), (cf_ro h :), (cf_be h :), (cf_ea h :), (cf_en h :), (cf_eo h :), (cf_ed h :), (cf_ep h :), (cf_ec h :), (cf_et h :), (cf_es h :), (cf_ei h :), (fun i hi => by
  show zI (pI σ 136 (k_ea K e) (nI w)) 136 (k_ea K i) = nI (va_up (k_pl K) e w i)
  by_cases q : i = e
  · subst q
    rw [up_eq]
    exact if_pos ⟨rfl, rfl⟩
  · rw [up_ne q]
    exact Eq.trans (if_neg (fun z => q (ea_inj h hi hv z.2))) (cf_el h i hi)), (cf_eb h :), (cf_ez h :), (cf_pi h :), (cf_ta h :), (cf_tq h :), (cf_to h :), (cf_t1 h :), (cf_t2 h :), (cf_tn h :), (cf_tm h :), (cf_tu h :), (cf_la h :), (cf_lj h :), (cf_lf h :), (cf_lo h :), (cf_wr h :), (cf_fi h :), (cf_fa h :), (cf_ra h :), (cf_sa h :), (cf_rd h :), (cf_sd h :), (cf_rt h :), (cf_st h :), (cf_rr h :), (cf_sr h :)⟩
theorem U_bg {c B : Nat} {σ : ZS} {T : TS} {K : KS} (h : cG c B σ T K) {e : Nat} (hv : e < g_ev T) (w : Nat) : cG c B (pL σ 137 (k_ea K e) (lN w)) (T) (j_bg K (va_up (k_bg K) e w)) := ⟨(cf_sh h :), (cf_B h :), (cf_bd h :), (cf_pk h :), (cf_vk h :), (cf_ek h :), (cf_tk h :), (cf_lk h :), (cf_rk h :), (cf_sk h :), (cf_pai h :), (cf_lai h :), (cf_wai h :), (cf_np h :), (cf_nb h :), (cf_ev h :), (cf_te h :), (cf_le h :), (cf_wm h :), (cf_fo h :), (cf_su h :), (cf_pa h :), (cf_pas h :), (cf_va h :), (cf_vn h :), (cf_vi h :), (cf_ve h :), (cf_vs h :), (cf_vw h :), (cf_vl h :), (cf_ro h :), (cf_be h :), (cf_ea h :), (cf_en h :), (cf_eo h :), (cf_ed h :), (cf_ep h :), (cf_ec h :), (cf_et h :), (cf_es h :), (cf_ei h :), (cf_el h :), (fun i hi => by
  show zL (pL σ 137 (k_ea K e) (lN w)) 137 (k_ea K i) = lN (va_up (k_bg K) e w i)
  by_cases q : i = e
  · subst q
    rw [up_eq]
    exact if_pos ⟨rfl, rfl⟩
  · rw [up_ne q]
    exact Eq.trans (if_neg (fun z => q (ea_inj h hi hv z.2))) (cf_eb h i hi)), (cf_ez h :), (cf_pi h :), (cf_ta h :), (cf_tq h :), (cf_to h :), (cf_t1 h :), (cf_t2 h :), (cf_tn h :), (cf_tm h :), (cf_tu h :), (cf_la h :), (cf_lj h :), (cf_lf h :), (cf_lo h :), (cf_wr h :), (cf_fi h :), (cf_fa h :), (cf_ra h :), (cf_sa h :), (cf_rd h :), (cf_sd h :), (cf_rt h :), (cf_st h :), (cf_rr h :), (cf_sr h :)⟩
theorem U_ls {c B : Nat} {σ : ZS} {T : TS} {K : KS} (h : cG c B σ T K) {e : Nat} (hv : e < g_ev T) (w : Nat) : cG c B (pL σ 138 (k_ea K e) (lN w)) (T) (j_ls K (va_up (k_ls K) e w)) := ⟨(cf_sh h :), (cf_B h :), (cf_bd h :), (cf_pk h :), (cf_vk h :), (cf_ek h :), (cf_tk h :), (cf_lk h :), (cf_rk h :), (cf_sk h :), (cf_pai h :), (cf_lai h :), (cf_wai h :), (cf_np h :), (cf_nb h :), (cf_ev h :), (cf_te h :), (cf_le h :), (cf_wm h :), (cf_fo h :), (cf_su h :), (cf_pa h :), (cf_pas h :), (cf_va h :), (cf_vn h :), (cf_vi h :), (cf_ve h :), (cf_vs h :), (cf_vw h :), (cf_vl h :), (cf_ro h :), (cf_be h :), (cf_ea h :), (cf_en h :), (cf_eo h :), (cf_ed h :), (cf_ep h :), (cf_ec h :), (cf_et h :), (cf_es h :), (cf_ei h :), (cf_el h :), (cf_eb h :), (fun i hi => by
  show zL (pL σ 138 (k_ea K e) (lN w)) 138 (k_ea K i) = lN (va_up (k_ls K) e w i)
  by_cases q : i = e
  · subst q
    rw [up_eq]
    exact if_pos ⟨rfl, rfl⟩
  · rw [up_ne q]
    exact Eq.trans (if_neg (fun z => q (ea_inj h hi hv z.2))) (cf_ez h i hi)), (cf_pi h :), (cf_ta h :), (cf_tq h :), (cf_to h :), (cf_t1 h :), (cf_t2 h :), (cf_tn h :), (cf_tm h :), (cf_tu h :), (cf_la h :), (cf_lj h :), (cf_lf h :), (cf_lo h :), (cf_wr h :), (cf_fi h :), (cf_fa h :), (cf_ra h :), (cf_sa h :), (cf_rd h :), (cf_sd h :), (cf_rt h :), (cf_st h :), (cf_rr h :), (cf_sr h :)⟩
theorem U_vl {c B : Nat} {σ : ZS} {T : TS} {K : KS} (h : cG c B σ T K) {v : Nat} (hv : v < 3 * g_np T) (w : Nat) : cG c B (pL σ 645 (k_va K v) (lN w)) (T) (j_vl K (va_up (k_vl K) v w)) := ⟨(cf_sh h :), (cf_B h :), (cf_bd h :), (cf_pk h :), (cf_vk h :), (cf_ek h :), (cf_tk h :), (cf_lk h :), (cf_rk h :), (cf_sk h :), (cf_pai h :), (cf_lai h :), (cf_wai h :), (cf_np h :), (cf_nb h :), (cf_ev h :), (cf_te h :), (cf_le h :), (cf_wm h :), (cf_fo h :), (cf_su h :), (cf_pa h :), (cf_pas h :), (cf_va h :), (cf_vn h :), (cf_vi h :), (cf_ve h :), (cf_vs h :), (cf_vw h :), (fun i hi => by
  show zL (pL σ 645 (k_va K v) (lN w)) 645 (k_va K i) = lN (va_up (k_vl K) v w i)
  by_cases q : i = v
  · subst q
    rw [up_eq]
    exact if_pos ⟨rfl, rfl⟩
  · rw [up_ne q]
    exact Eq.trans (if_neg (fun z => q (va_inj h hi hv z.2))) (cf_vl h i hi)), (cf_ro h :), (cf_be h :), (cf_ea h :), (cf_en h :), (cf_eo h :), (cf_ed h :), (cf_ep h :), (cf_ec h :), (cf_et h :), (cf_es h :), (cf_ei h :), (cf_el h :), (cf_eb h :), (cf_ez h :), (cf_pi h :), (cf_ta h :), (cf_tq h :), (cf_to h :), (cf_t1 h :), (cf_t2 h :), (cf_tn h :), (cf_tm h :), (cf_tu h :), (cf_la h :), (cf_lj h :), (cf_lf h :), (cf_lo h :), (cf_wr h :), (cf_fi h :), (cf_fa h :), (cf_ra h :), (cf_sa h :), (cf_rd h :), (cf_sd h :), (cf_rt h :), (cf_st h :), (cf_rr h :), (cf_sr h :)⟩
theorem U_wt {c B : Nat} {σ : ZS} {T : TS} {K : KS} (h : cG c B σ T K) {v : Nat} (hv : v < 3 * g_np T) (w : Nat) : cG c B (pI σ 644 (k_va K v) (nI w)) (T) (j_wt K (va_up (k_wt K) v w)) := ⟨(cf_sh h :), (cf_B h :), (cf_bd h :), (cf_pk h :), (cf_vk h :), (cf_ek h :), (cf_tk h :), (cf_lk h :), (cf_rk h :), (cf_sk h :), (cf_pai h :), (cf_lai h :), (cf_wai h :), (cf_np h :), (cf_nb h :), (cf_ev h :), (cf_te h :), (cf_le h :), (cf_wm h :), (cf_fo h :), (cf_su h :), (cf_pa h :), (cf_pas h :), (cf_va h :), (cf_vn h :), (cf_vi h :), (cf_ve h :), (cf_vs h :), (fun i hi => by
  show zI (pI σ 644 (k_va K v) (nI w)) 644 (k_va K i) = nI (va_up (k_wt K) v w i)
  by_cases q : i = v
  · subst q
    rw [up_eq]
    exact if_pos ⟨rfl, rfl⟩
  · rw [up_ne q]
    exact Eq.trans (if_neg (fun z => q (va_inj h hi hv z.2))) (cf_vw h i hi)), (cf_vl h :), (cf_ro h :), (cf_be h :), (cf_ea h :), (cf_en h :), (cf_eo h :), (cf_ed h :), (cf_ep h :), (cf_ec h :), (cf_et h :), (cf_es h :), (cf_ei h :), (cf_el h :), (cf_eb h :), (cf_ez h :), (cf_pi h :), (cf_ta h :), (cf_tq h :), (cf_to h :), (cf_t1 h :), (cf_t2 h :), (cf_tn h :), (cf_tm h :), (cf_tu h :), (cf_la h :), (cf_lj h :), (cf_lf h :), (cf_lo h :), (cf_wr h :), (cf_fi h :), (cf_fa h :), (cf_ra h :), (cf_sa h :), (cf_rd h :), (cf_sd h :), (cf_rt h :), (cf_st h :), (cf_rr h :), (cf_sr h :)⟩
theorem U_t1 {c B : Nat} {σ : ZS} {T : TS} {K : KS} (h : cG c B σ T K) {t : Nat} (hv : t < g_te T) (w : Nat) : cG c B (pI σ 578 (k_ta K t) (nI w)) (T) (j_t1 K (va_up (k_t1 K) t w)) := ⟨(cf_sh h :), (cf_B h :), (cf_bd h :), (cf_pk h :), (cf_vk h :), (cf_ek h :), (cf_tk h :), (cf_lk h :), (cf_rk h :), (cf_sk h :), (cf_pai h :), (cf_lai h :), (cf_wai h :), (cf_np h :), (cf_nb h :), (cf_ev h :), (cf_te h :), (cf_le h :), (cf_wm h :), (cf_fo h :), (cf_su h :), (cf_pa h :), (cf_pas h :), (cf_va h :), (cf_vn h :), (cf_vi h :), (cf_ve h :), (cf_vs h :), (cf_vw h :), (cf_vl h :), (cf_ro h :), (cf_be h :), (cf_ea h :), (cf_en h :), (cf_eo h :), (cf_ed h :), (cf_ep h :), (cf_ec h :), (cf_et h :), (cf_es h :), (cf_ei h :), (cf_el h :), (cf_eb h :), (cf_ez h :), (cf_pi h :), (cf_ta h :), (cf_tq h :), (cf_to h :), (fun i hi => by
  show zI (pI σ 578 (k_ta K t) (nI w)) 578 (k_ta K i) = nI (va_up (k_t1 K) t w i)
  by_cases q : i = t
  · subst q
    rw [up_eq]
    exact if_pos ⟨rfl, rfl⟩
  · rw [up_ne q]
    exact Eq.trans (if_neg (fun z => q (ta_inj h hi hv z.2))) (cf_t1 h i hi)), (cf_t2 h :), (cf_tn h :), (cf_tm h :), (cf_tu h :), (cf_la h :), (cf_lj h :), (cf_lf h :), (cf_lo h :), (cf_wr h :), (cf_fi h :), (cf_fa h :), (cf_ra h :), (cf_sa h :), (cf_rd h :), (cf_sd h :), (cf_rt h :), (cf_st h :), (cf_rr h :), (cf_sr h :)⟩
theorem U_t2 {c B : Nat} {σ : ZS} {T : TS} {K : KS} (h : cG c B σ T K) {t : Nat} (hv : t < g_te T) (w : Nat) : cG c B (pI σ 579 (k_ta K t) (nI w)) (T) (j_tk K (va_up (k_tk K) t w)) := ⟨(cf_sh h :), (cf_B h :), (cf_bd h :), (cf_pk h :), (cf_vk h :), (cf_ek h :), (cf_tk h :), (cf_lk h :), (cf_rk h :), (cf_sk h :), (cf_pai h :), (cf_lai h :), (cf_wai h :), (cf_np h :), (cf_nb h :), (cf_ev h :), (cf_te h :), (cf_le h :), (cf_wm h :), (cf_fo h :), (cf_su h :), (cf_pa h :), (cf_pas h :), (cf_va h :), (cf_vn h :), (cf_vi h :), (cf_ve h :), (cf_vs h :), (cf_vw h :), (cf_vl h :), (cf_ro h :), (cf_be h :), (cf_ea h :), (cf_en h :), (cf_eo h :), (cf_ed h :), (cf_ep h :), (cf_ec h :), (cf_et h :), (cf_es h :), (cf_ei h :), (cf_el h :), (cf_eb h :), (cf_ez h :), (cf_pi h :), (cf_ta h :), (cf_tq h :), (cf_to h :), (cf_t1 h :), (fun i hi => by
  show zI (pI σ 579 (k_ta K t) (nI w)) 579 (k_ta K i) = nI (va_up (k_tk K) t w i)
  by_cases q : i = t
  · subst q
    rw [up_eq]
    exact if_pos ⟨rfl, rfl⟩
  · rw [up_ne q]
    exact Eq.trans (if_neg (fun z => q (ta_inj h hi hv z.2))) (cf_t2 h i hi)), (cf_tn h :), (cf_tm h :), (cf_tu h :), (cf_la h :), (cf_lj h :), (cf_lf h :), (cf_lo h :), (cf_wr h :), (cf_fi h :), (cf_fa h :), (cf_ra h :), (cf_sa h :), (cf_rd h :), (cf_sd h :), (cf_rt h :), (cf_st h :), (cf_rr h :), (cf_sr h :)⟩
theorem U_lo {c B : Nat} {σ : ZS} {T : TS} {K : KS} (h : cG c B σ T K) {l : Nat} (hv : l < g_le T) (w : Option Nat) : cG c B (pR σ 258 (k_la K l) (w.map (k_ea K))) (h_lo T (va_up (g_lo T) l w)) K := ⟨⟨(cf_sh h).1, fun q hq => ⟨Eq.trans (if_neg (fun z => absurd z.1 (by
  have h2 : cTab.all (fun q => decide (q.1 ≠ 258)) = true := rfl
  exact of_decide_eq_true (List.all_eq_true.mp h2 q hq)))) ((cf_sh h).2 q hq).1, ((cf_sh h).2 q hq).2⟩⟩, (cf_B h :), (cf_bd h :), (cf_pk h :), (cf_vk h :), (cf_ek h :), (cf_tk h :), (cf_lk h :), (cf_rk h :), (cf_sk h :), (cf_pai h :), (cf_lai h :), (cf_wai h :), (cf_np h :), (cf_nb h :), (cf_ev h :), (cf_te h :), (cf_le h :), (cf_wm h :), (cf_fo h :), (cf_su h :), (cf_pa h :), (cf_pas h :), (cf_va h :), (cf_vn h :), (cf_vi h :), (cf_ve h :), (cf_vs h :), (cf_vw h :), (cf_vl h :), (cf_ro h :), (cf_be h :), (cf_ea h :), (cf_en h :), (cf_eo h :), (cf_ed h :), (cf_ep h :), (cf_ec h :), (cf_et h :), (cf_es h :), (cf_ei h :), (cf_el h :), (cf_eb h :), (cf_ez h :), (cf_pi h :), (cf_ta h :), (cf_tq h :), (cf_to h :), (cf_t1 h :), (cf_t2 h :), (cf_tn h :), (cf_tm h :), (cf_tu h :), (cf_la h :), (cf_lj h :), (cf_lf h :), (fun i hi hlt => by
  show zR (pR σ 258 (k_la K l) (w.map (k_ea K))) 258 (k_la K i) = (va_up (g_lo T) l w i).map (k_ea K)
  by_cases q : i = l
  · subst q
    rw [up_eq]
    exact if_pos ⟨rfl, rfl⟩
  · rw [up_ne q]
    exact Eq.trans (if_neg (fun z => q (cf_lai h _ _ hi hv z.2))) (cf_lo h i hi hlt)), (cf_wr h :), (cf_fi h :), (cf_fa h :), (cf_ra h :), (cf_sa h :), (cf_rd h :), (cf_sd h :), (cf_rt h :), (cf_st h :), (cf_rr h :), (cf_sr h :)⟩
theorem U_as {c B : Nat} {σ : ZS} {T : TS} {K : KS} (h : cG c B σ T K) {p : Nat} (hv : p < g_np T) (w : Int64) : cG c B (pL σ 448 (k_pa K p) w) (T) (j_as K (va_up (k_as K) p w)) := ⟨(cf_sh h :), (cf_B h :), (cf_bd h :), (cf_pk h :), (cf_vk h :), (cf_ek h :), (cf_tk h :), (cf_lk h :), (cf_rk h :), (cf_sk h :), (cf_pai h :), (cf_lai h :), (cf_wai h :), (cf_np h :), (cf_nb h :), (cf_ev h :), (cf_te h :), (cf_le h :), (cf_wm h :), (cf_fo h :), (cf_su h :), (cf_pa h :), (fun i hi => by
  show zL (pL σ 448 (k_pa K p) w) 448 (k_pa K i) = va_up (k_as K) p w i
  by_cases q : i = p
  · subst q
    rw [up_eq]
    exact if_pos ⟨rfl, rfl⟩
  · rw [up_ne q]
    exact Eq.trans (if_neg (fun z => q (cf_pai h _ _ hi hv z.2))) (cf_pas h i hi)), (cf_va h :), (cf_vn h :), (cf_vi h :), (cf_ve h :), (cf_vs h :), (cf_vw h :), (cf_vl h :), (cf_ro h :), (cf_be h :), (cf_ea h :), (cf_en h :), (cf_eo h :), (cf_ed h :), (cf_ep h :), (cf_ec h :), (cf_et h :), (cf_es h :), (cf_ei h :), (cf_el h :), (cf_eb h :), (cf_ez h :), (cf_pi h :), (cf_ta h :), (cf_tq h :), (cf_to h :), (cf_t1 h :), (cf_t2 h :), (cf_tn h :), (cf_tm h :), (cf_tu h :), (cf_la h :), (cf_lj h :), (cf_lf h :), (cf_lo h :), (cf_wr h :), (cf_fi h :), (cf_fa h :), (cf_ra h :), (cf_sa h :), (cf_rd h :), (cf_sd h :), (cf_rt h :), (cf_st h :), (cf_rr h :), (cf_sr h :)⟩
theorem U_su {c B : Nat} {σ : ZS} {T : TS} {K : KS} (h : cG c B σ T K) (w : Int32) : cG c B (pI σ 722 c ( w)) (h_su T w) K := ⟨(cf_sh h :), (cf_B h :), (cf_bd h :), (cf_pk h :), (cf_vk h :), (cf_ek h :), (cf_tk h :), (cf_lk h :), (cf_rk h :), (cf_sk h :), (cf_pai h :), (cf_lai h :), (cf_wai h :), (cf_np h :), (cf_nb h :), (cf_ev h :), (cf_te h :), (cf_le h :), (cf_wm h :), (cf_fo h :), (if_pos ⟨rfl, rfl⟩), (cf_pa h :), (cf_pas h :), (cf_va h :), (cf_vn h :), (cf_vi h :), (cf_ve h :), (cf_vs h :), (cf_vw h :), (cf_vl h :), (cf_ro h :), (cf_be h :), (cf_ea h :), (cf_en h :), (cf_eo h :), (cf_ed h :), (cf_ep h :), (cf_ec h :), (cf_et h :), (cf_es h :), (cf_ei h :), (cf_el h :), (cf_eb h :), (cf_ez h :), (cf_pi h :), (cf_ta h :), (cf_tq h :), (cf_to h :), (cf_t1 h :), (cf_t2 h :), (cf_tn h :), (cf_tm h :), (cf_tu h :), (cf_la h :), (cf_lj h :), (cf_lf h :), (cf_lo h :), (cf_wr h :), (cf_fi h :), (cf_fa h :), (cf_ra h :), (cf_sa h :), (cf_rd h :), (cf_sd h :), (cf_rt h :), (cf_st h :), (cf_rr h :), (cf_sr h :)⟩
theorem U_fo {c B : Nat} {σ : ZS} {T : TS} {K : KS} (h : cG c B σ T K) (w : Nat) : cG c B (pI σ 718 c (nI w)) (h_fo T w) K := ⟨(cf_sh h :), (cf_B h :), (cf_bd h :), (cf_pk h :), (cf_vk h :), (cf_ek h :), (cf_tk h :), (cf_lk h :), (cf_rk h :), (cf_sk h :), (cf_pai h :), (cf_lai h :), (cf_wai h :), (cf_np h :), (cf_nb h :), (cf_ev h :), (cf_te h :), (cf_le h :), (cf_wm h :), (if_pos ⟨rfl, rfl⟩), (cf_su h :), (cf_pa h :), (cf_pas h :), (cf_va h :), (cf_vn h :), (cf_vi h :), (cf_ve h :), (cf_vs h :), (cf_vw h :), (cf_vl h :), (cf_ro h :), (cf_be h :), (cf_ea h :), (cf_en h :), (cf_eo h :), (cf_ed h :), (cf_ep h :), (cf_ec h :), (cf_et h :), (cf_es h :), (cf_ei h :), (cf_el h :), (cf_eb h :), (cf_ez h :), (cf_pi h :), (cf_ta h :), (cf_tq h :), (cf_to h :), (cf_t1 h :), (cf_t2 h :), (cf_tn h :), (cf_tm h :), (cf_tu h :), (cf_la h :), (cf_lj h :), (cf_lf h :), (cf_lo h :), (cf_wr h :), (cf_fi h :), (cf_fa h :), (cf_ra h :), (cf_sa h :), (cf_rd h :), (cf_sd h :), (cf_rt h :), (cf_st h :), (cf_rr h :), (cf_sr h :)⟩
theorem U_wm {c B : Nat} {σ : ZS} {T : TS} {K : KS} (h : cG c B σ T K) {n : Nat} (hn : ∀ i, i < n → zi σ (c + 7) i = nI (g_wr T i)) : cG c B (pI σ 716 c (nI n)) (h_wm T n) K := ⟨(cf_sh h :), (cf_B h :), (cf_bd h :), (cf_pk h :), (cf_vk h :), (cf_ek h :), (cf_tk h :), (cf_lk h :), (cf_rk h :), (cf_sk h :), (cf_pai h :), (cf_lai h :), (cf_wai h :), (cf_np h :), (cf_nb h :), (cf_ev h :), (cf_te h :), (cf_le h :), (if_pos ⟨rfl, rfl⟩), (cf_fo h :), (cf_su h :), (cf_pa h :), (cf_pas h :), (cf_va h :), (cf_vn h :), (cf_vi h :), (cf_ve h :), (cf_vs h :), (cf_vw h :), (cf_vl h :), (cf_ro h :), (cf_be h :), (cf_ea h :), (cf_en h :), (cf_eo h :), (cf_ed h :), (cf_ep h :), (cf_ec h :), (cf_et h :), (cf_es h :), (cf_ei h :), (cf_el h :), (cf_eb h :), (cf_ez h :), (cf_pi h :), (cf_ta h :), (cf_tq h :), (cf_to h :), (cf_t1 h :), (cf_t2 h :), (cf_tn h :), (cf_tm h :), (cf_tu h :), (cf_la h :), (cf_lj h :), (cf_lf h :), (cf_lo h :), hn, (cf_fi h :), (cf_fa h :), (cf_ra h :), (cf_sa h :), (cf_rd h :), (cf_sd h :), (cf_rt h :), (cf_st h :), (cf_rr h :), (cf_sr h :)⟩
theorem U_mn {c B : Nat} {σ : ZS} {T : TS} {K : KS} (h : cG c B σ T K) {v n : Nat} (hv : v < 3 * g_np T) (hn : ∀ p, p < n → zr σ (k_va K v + 1) p = some (k_ea K (g_ro T v p))) : cG c B (pI σ 643 (k_va K v) (nI n)) (h_mn T (va_up (g_mn T) v n)) K := ⟨(cf_sh h :), (cf_B h :), (cf_bd h :), (cf_pk h :), (cf_vk h :), (cf_ek h :), (cf_tk h :), (cf_lk h :), (cf_rk h :), (cf_sk h :), (cf_pai h :), (cf_lai h :), (cf_wai h :), (cf_np h :), (cf_nb h :), (cf_ev h :), (cf_te h :), (cf_le h :), (cf_wm h :), (cf_fo h :), (cf_su h :), (cf_pa h :), (cf_pas h :), (cf_va h :), (cf_vn h :), (cf_vi h :), (cf_ve h :), (fun i hi => by
  show zI (pI σ 643 (k_va K v) (nI n)) 643 (k_va K i) = nI (va_up (g_mn T) v n i)
  by_cases q : i = v
  · subst q
    rw [up_eq]
    exact if_pos ⟨rfl, rfl⟩
  · rw [up_ne q]
    exact Eq.trans (if_neg (fun z => q (va_inj h hi hv z.2))) (cf_vs h i hi)), (cf_vw h :), (cf_vl h :), (fun i p hi hp => by
  have hp : p < va_up (g_mn T) v n i := hp
  show zr σ (k_va K i + 1) p = some (k_ea K (g_ro T i p))
  by_cases q : i = v
  · subst q
    rw [up_eq] at hp
    exact hn p hp
  · rw [up_ne q] at hp
    exact cf_ro h i p hi hp), (cf_be h :), (cf_ea h :), (cf_en h :), (cf_eo h :), (cf_ed h :), (cf_ep h :), (cf_ec h :), (cf_et h :), (cf_es h :), (cf_ei h :), (cf_el h :), (cf_eb h :), (cf_ez h :), (cf_pi h :), (cf_ta h :), (cf_tq h :), (cf_to h :), (cf_t1 h :), (cf_t2 h :), (cf_tn h :), (cf_tm h :), (cf_tu h :), (cf_la h :), (cf_lj h :), (cf_lf h :), (cf_lo h :), (cf_wr h :), (cf_fi h :), (cf_fa h :), (cf_ra h :), (cf_sa h :), (cf_rd h :), (cf_sd h :), (cf_rt h :), (cf_st h :), (cf_rr h :), (cf_sr h :)⟩
theorem U_pn {c B : Nat} {σ : ZS} {T : TS} {K : KS} (h : cG c B σ T K) {e n : Nat} (hv : e < g_ev T) (hn : ∀ j, j < n → zi σ (k_ea K e + 1) j = g_pi T e j) : cG c B (pI σ 132 (k_ea K e) (nI n)) (h_pn T (va_up (g_pn T) e n)) K := ⟨(cf_sh h :), (cf_B h :), (cf_bd h :), (cf_pk h :), (cf_vk h :), (cf_ek h :), (cf_tk h :), (cf_lk h :), (cf_rk h :), (cf_sk h :), (cf_pai h :), (cf_lai h :), (cf_wai h :), (cf_np h :), (cf_nb h :), (cf_ev h :), (cf_te h :), (cf_le h :), (cf_wm h :), (cf_fo h :), (cf_su h :), (cf_pa h :), (cf_pas h :), (cf_va h :), (cf_vn h :), (cf_vi h :), (cf_ve h :), (cf_vs h :), (cf_vw h :), (cf_vl h :), (cf_ro h :), (cf_be h :), (cf_ea h :), (cf_en h :), (cf_eo h :), (cf_ed h :), (cf_ep h :), (fun i hi => by
  show zI (pI σ 132 (k_ea K e) (nI n)) 132 (k_ea K i) = nI (va_up (g_pn T) e n i)
  by_cases q : i = e
  · subst q
    rw [up_eq]
    exact if_pos ⟨rfl, rfl⟩
  · rw [up_ne q]
    exact Eq.trans (if_neg (fun z => q (ea_inj h hi hv z.2))) (cf_ec h i hi)), (cf_et h :), (cf_es h :), (cf_ei h :), (cf_el h :), (cf_eb h :), (cf_ez h :), (fun i p hi hp => by
  have hp : p < va_up (g_pn T) e n i := hp
  show zi σ (k_ea K i + 1) p = g_pi T i p
  by_cases q : i = e
  · subst q
    rw [up_eq] at hp
    exact hn p hp
  · rw [up_ne q] at hp
    exact cf_pi h i p hi hp), (cf_ta h :), (cf_tq h :), (cf_to h :), (cf_t1 h :), (cf_t2 h :), (cf_tn h :), (cf_tm h :), (cf_tu h :), (cf_la h :), (cf_lj h :), (cf_lf h :), (cf_lo h :), (cf_wr h :), (cf_fi h :), (cf_fa h :), (cf_ra h :), (cf_sa h :), (cf_rd h :), (cf_sd h :), (cf_rt h :), (cf_st h :), (cf_rr h :), (cf_sr h :)⟩
theorem U_fa {c B : Nat} {σ : ZS} {T : TS} {K : KS} (h : cG c B σ T K) (j : Nat) (w : Int32) : cG c B (qi σ (c + 11) j w) (h_fa T (va_up (g_fa T) j w)) K := ⟨(cf_sh h :), (cf_B h :), (cf_bd h :), (cf_pk h :), (cf_vk h :), (cf_ek h :), (cf_tk h :), (cf_lk h :), (cf_rk h :), (cf_sk h :), (cf_pai h :), (cf_lai h :), (cf_wai h :), (cf_np h :), (cf_nb h :), (cf_ev h :), (cf_te h :), (cf_le h :), (cf_wm h :), (cf_fo h :), (cf_su h :), (cf_pa h :), (cf_pas h :), (cf_va h :), (cf_vn h :), (cf_vi h :), (cf_ve h :), (cf_vs h :), (cf_vw h :), (cf_vl h :), (cf_ro h :), (cf_be h :), (cf_ea h :), (cf_en h :), (cf_eo h :), (cf_ed h :), (cf_ep h :), (cf_ec h :), (cf_et h :), (cf_es h :), (cf_ei h :), (cf_el h :), (cf_eb h :), (cf_ez h :), (fun e i q0 q1 => Eq.trans (if_neg (fun z => absurd z.1 (by have := (cf_ek h e q0).2.2.1; omega))) (cf_pi h e i q0 q1)), (cf_ta h :), (cf_tq h :), (cf_to h :), (cf_t1 h :), (cf_t2 h :), (cf_tn h :), (cf_tm h :), (cf_tu h :), (cf_la h :), (cf_lj h :), (cf_lf h :), (cf_lo h :), (fun i q0 => Eq.trans (if_neg (fun z => absurd z.1 (by omega))) (cf_wr h i q0)), (fun i q0 => Eq.trans (if_neg (fun z => absurd z.1 (by omega))) (cf_fi h i q0)), (fun i hi => by
  show zi (qi σ (c + 11) j w) (c + 11) i = va_up (g_fa T) j w i
  by_cases q : i = j
  · subst q
    rw [up_eq]
    exact if_pos ⟨rfl, rfl⟩
  · rw [up_ne q]
    exact Eq.trans (if_neg (fun z => q z.2)) (cf_fa h i hi)), (cf_ra h :), (cf_sa h :), (cf_rd h :), (cf_sd h :), (cf_rt h :), (cf_st h :), (fun r i q0 q1 q2 => Eq.trans (if_neg (fun z => absurd z.1 (by have := (cf_rk h r q0 q1).2.2.1; omega))) (cf_rr h r i q0 q1 q2)), (fun r i q0 q1 q2 => Eq.trans (if_neg (fun z => absurd z.1 (by have := (cf_sk h r q0 q1).2.2.1; omega))) (cf_sr h r i q0 q1 q2))⟩
theorem U_fi {c B : Nat} {σ : ZS} {T : TS} {K : KS} (h : cG c B σ T K) (j : Nat) (w : Int32) : cG c B (qi σ (c + 8) j w) (h_fi T (va_up (g_fi T) j w)) K := ⟨(cf_sh h :), (cf_B h :), (cf_bd h :), (cf_pk h :), (cf_vk h :), (cf_ek h :), (cf_tk h :), (cf_lk h :), (cf_rk h :), (cf_sk h :), (cf_pai h :), (cf_lai h :), (cf_wai h :), (cf_np h :), (cf_nb h :), (cf_ev h :), (cf_te h :), (cf_le h :), (cf_wm h :), (cf_fo h :), (cf_su h :), (cf_pa h :), (cf_pas h :), (cf_va h :), (cf_vn h :), (cf_vi h :), (cf_ve h :), (cf_vs h :), (cf_vw h :), (cf_vl h :), (cf_ro h :), (cf_be h :), (cf_ea h :), (cf_en h :), (cf_eo h :), (cf_ed h :), (cf_ep h :), (cf_ec h :), (cf_et h :), (cf_es h :), (cf_ei h :), (cf_el h :), (cf_eb h :), (cf_ez h :), (fun e i q0 q1 => Eq.trans (if_neg (fun z => absurd z.1 (by have := (cf_ek h e q0).2.2.1; omega))) (cf_pi h e i q0 q1)), (cf_ta h :), (cf_tq h :), (cf_to h :), (cf_t1 h :), (cf_t2 h :), (cf_tn h :), (cf_tm h :), (cf_tu h :), (cf_la h :), (cf_lj h :), (cf_lf h :), (cf_lo h :), (fun i q0 => Eq.trans (if_neg (fun z => absurd z.1 (by omega))) (cf_wr h i q0)), (fun i hi => by
  show zi (qi σ (c + 8) j w) (c + 8) i = va_up (g_fi T) j w i
  by_cases q : i = j
  · subst q
    rw [up_eq]
    exact if_pos ⟨rfl, rfl⟩
  · rw [up_ne q]
    exact Eq.trans (if_neg (fun z => q z.2)) (cf_fi h i hi)), (fun i q0 => Eq.trans (if_neg (fun z => absurd z.1 (by omega))) (cf_fa h i q0)), (cf_ra h :), (cf_sa h :), (cf_rd h :), (cf_sd h :), (cf_rt h :), (cf_st h :), (fun r i q0 q1 q2 => Eq.trans (if_neg (fun z => absurd z.1 (by have := (cf_rk h r q0 q1).2.2.1; omega))) (cf_rr h r i q0 q1 q2)), (fun r i q0 q1 q2 => Eq.trans (if_neg (fun z => absurd z.1 (by have := (cf_sk h r q0 q1).2.2.1; omega))) (cf_sr h r i q0 q1 q2))⟩
theorem U_wr {c B : Nat} {σ : ZS} {T : TS} {K : KS} (h : cG c B σ T K) (j : Nat) (w : Nat) : cG c B (qi σ (c + 7) j (nI w)) (h_wr T (va_up (g_wr T) j w)) K := ⟨(cf_sh h :), (cf_B h :), (cf_bd h :), (cf_pk h :), (cf_vk h :), (cf_ek h :), (cf_tk h :), (cf_lk h :), (cf_rk h :), (cf_sk h :), (cf_pai h :), (cf_lai h :), (cf_wai h :), (cf_np h :), (cf_nb h :), (cf_ev h :), (cf_te h :), (cf_le h :), (cf_wm h :), (cf_fo h :), (cf_su h :), (cf_pa h :), (cf_pas h :), (cf_va h :), (cf_vn h :), (cf_vi h :), (cf_ve h :), (cf_vs h :), (cf_vw h :), (cf_vl h :), (cf_ro h :), (cf_be h :), (cf_ea h :), (cf_en h :), (cf_eo h :), (cf_ed h :), (cf_ep h :), (cf_ec h :), (cf_et h :), (cf_es h :), (cf_ei h :), (cf_el h :), (cf_eb h :), (cf_ez h :), (fun e i q0 q1 => Eq.trans (if_neg (fun z => absurd z.1 (by have := (cf_ek h e q0).2.2.1; omega))) (cf_pi h e i q0 q1)), (cf_ta h :), (cf_tq h :), (cf_to h :), (cf_t1 h :), (cf_t2 h :), (cf_tn h :), (cf_tm h :), (cf_tu h :), (cf_la h :), (cf_lj h :), (cf_lf h :), (cf_lo h :), (fun i hi => by
  show zi (qi σ (c + 7) j (nI w)) (c + 7) i = nI (va_up (g_wr T) j w i)
  by_cases q : i = j
  · subst q
    rw [up_eq]
    exact if_pos ⟨rfl, rfl⟩
  · rw [up_ne q]
    exact Eq.trans (if_neg (fun z => q z.2)) (cf_wr h i hi)), (fun i q0 => Eq.trans (if_neg (fun z => absurd z.1 (by omega))) (cf_fi h i q0)), (fun i q0 => Eq.trans (if_neg (fun z => absurd z.1 (by omega))) (cf_fa h i q0)), (cf_ra h :), (cf_sa h :), (cf_rd h :), (cf_sd h :), (cf_rt h :), (cf_st h :), (fun r i q0 q1 q2 => Eq.trans (if_neg (fun z => absurd z.1 (by have := (cf_rk h r q0 q1).2.2.1; omega))) (cf_rr h r i q0 q1 q2)), (fun r i q0 q1 q2 => Eq.trans (if_neg (fun z => absurd z.1 (by have := (cf_sk h r q0 q1).2.2.1; omega))) (cf_sr h r i q0 q1 q2))⟩
theorem U_th {c B : Nat} {σ : ZS} {T : TS} {K : KS} (h : cG c B σ T K) (j : Nat) : cG c B (qr σ (c + 4) j none) (h_th T (va_up (g_th T) j false)) K := ⟨(cf_sh h :), (cf_B h :), (cf_bd h :), (cf_pk h :), (cf_vk h :), (cf_ek h :), (cf_tk h :), (cf_lk h :), (cf_rk h :), (cf_sk h :), (cf_pai h :), (cf_lai h :), (cf_wai h :), (cf_np h :), (cf_nb h :), (cf_ev h :), (cf_te h :), (cf_le h :), (cf_wm h :), (cf_fo h :), (cf_su h :), (fun i q0 => Eq.trans (if_neg (fun z => absurd z.1 (by omega))) (cf_pa h i q0)), (cf_pas h :), (fun i q0 => Eq.trans (if_neg (fun z => absurd z.1 (by omega))) (cf_va h i q0)), (cf_vn h :), (cf_vi h :), (cf_ve h :), (cf_vs h :), (cf_vw h :), (cf_vl h :), (fun v i q0 q1 => Eq.trans (if_neg (fun z => absurd z.1 (by have := (cf_vk h v q0).2.2.1; omega))) (cf_ro h v i q0 q1)), (cf_be h :), (fun i hi => by
  show zr (qr σ (c + 4) j none) (c + 4) i = if va_up (g_th T) j false i = true then some (k_ea K i) else none
  by_cases q : i = j
  · subst q
    rw [up_eq, if_neg Bool.false_ne_true]
    exact if_pos ⟨rfl, rfl⟩
  · rw [up_ne q]
    exact Eq.trans (if_neg (fun z => q z.2)) (cf_ea h i hi)), (cf_en h :), (cf_eo h :), (cf_ed h :), (cf_ep h :), (cf_ec h :), (cf_et h :), (cf_es h :), (cf_ei h :), (cf_el h :), (cf_eb h :), (cf_ez h :), (cf_pi h :), (fun i q0 => Eq.trans (if_neg (fun z => absurd z.1 (by omega))) (cf_ta h i q0)), (cf_tq h :), (cf_to h :), (cf_t1 h :), (cf_t2 h :), (cf_tn h :), (cf_tm h :), (cf_tu h :), (fun i q0 => Eq.trans (if_neg (fun z => absurd z.1 (by omega))) (cf_la h i q0)), (cf_lj h :), (cf_lf h :), (cf_lo h :), (cf_wr h :), (cf_fi h :), (cf_fa h :), (fun i q0 => Eq.trans (if_neg (fun z => absurd z.1 (by omega))) (cf_ra h i q0)), (fun i q0 => Eq.trans (if_neg (fun z => absurd z.1 (by omega))) (cf_sa h i q0)), (cf_rd h :), (cf_sd h :), (cf_rt h :), (cf_st h :), (cf_rr h :), (cf_sr h :)⟩
theorem U_tt {c B : Nat} {σ : ZS} {T : TS} {K : KS} (h : cG c B σ T K) (j : Nat) : cG c B (qr σ (c + 5) j none) (h_tt T (va_up (g_tt T) j false)) K := ⟨(cf_sh h :), (cf_B h :), (cf_bd h :), (cf_pk h :), (cf_vk h :), (cf_ek h :), (cf_tk h :), (cf_lk h :), (cf_rk h :), (cf_sk h :), (cf_pai h :), (cf_lai h :), (cf_wai h :), (cf_np h :), (cf_nb h :), (cf_ev h :), (cf_te h :), (cf_le h :), (cf_wm h :), (cf_fo h :), (cf_su h :), (fun i q0 => Eq.trans (if_neg (fun z => absurd z.1 (by omega))) (cf_pa h i q0)), (cf_pas h :), (fun i q0 => Eq.trans (if_neg (fun z => absurd z.1 (by omega))) (cf_va h i q0)), (cf_vn h :), (cf_vi h :), (cf_ve h :), (cf_vs h :), (cf_vw h :), (cf_vl h :), (fun v i q0 q1 => Eq.trans (if_neg (fun z => absurd z.1 (by have := (cf_vk h v q0).2.2.1; omega))) (cf_ro h v i q0 q1)), (cf_be h :), (fun i q0 => Eq.trans (if_neg (fun z => absurd z.1 (by omega))) (cf_ea h i q0)), (cf_en h :), (cf_eo h :), (cf_ed h :), (cf_ep h :), (cf_ec h :), (cf_et h :), (cf_es h :), (cf_ei h :), (cf_el h :), (cf_eb h :), (cf_ez h :), (cf_pi h :), (fun i hi => by
  show zr (qr σ (c + 5) j none) (c + 5) i = if va_up (g_tt T) j false i = true then some (k_ta K i) else none
  by_cases q : i = j
  · subst q
    rw [up_eq, if_neg Bool.false_ne_true]
    exact if_pos ⟨rfl, rfl⟩
  · rw [up_ne q]
    exact Eq.trans (if_neg (fun z => q z.2)) (cf_ta h i hi)), (cf_tq h :), (fun i hi ht => cf_to h i hi (up_t ht).2), (cf_t1 h :), (cf_t2 h :), (cf_tn h :), (cf_tm h :), (cf_tu h :), (fun i q0 => Eq.trans (if_neg (fun z => absurd z.1 (by omega))) (cf_la h i q0)), (cf_lj h :), (cf_lf h :), (cf_lo h :), (cf_wr h :), (cf_fi h :), (cf_fa h :), (fun i q0 => Eq.trans (if_neg (fun z => absurd z.1 (by omega))) (cf_ra h i q0)), (fun i q0 => Eq.trans (if_neg (fun z => absurd z.1 (by omega))) (cf_sa h i q0)), (cf_rd h :), (cf_sd h :), (cf_rt h :), (cf_st h :), (cf_rr h :), (cf_sr h :)⟩
theorem U_lt {c B : Nat} {σ : ZS} {T : TS} {K : KS} (h : cG c B σ T K) (j : Nat) : cG c B (qr σ (c + 6) j none) (h_lt T (va_up (g_lt T) j false)) K := ⟨(cf_sh h :), (cf_B h :), (cf_bd h :), (cf_pk h :), (cf_vk h :), (cf_ek h :), (cf_tk h :), (cf_lk h :), (cf_rk h :), (cf_sk h :), (cf_pai h :), (cf_lai h :), (cf_wai h :), (cf_np h :), (cf_nb h :), (cf_ev h :), (cf_te h :), (cf_le h :), (cf_wm h :), (cf_fo h :), (cf_su h :), (fun i q0 => Eq.trans (if_neg (fun z => absurd z.1 (by omega))) (cf_pa h i q0)), (cf_pas h :), (fun i q0 => Eq.trans (if_neg (fun z => absurd z.1 (by omega))) (cf_va h i q0)), (cf_vn h :), (cf_vi h :), (cf_ve h :), (cf_vs h :), (cf_vw h :), (cf_vl h :), (fun v i q0 q1 => Eq.trans (if_neg (fun z => absurd z.1 (by have := (cf_vk h v q0).2.2.1; omega))) (cf_ro h v i q0 q1)), (cf_be h :), (fun i q0 => Eq.trans (if_neg (fun z => absurd z.1 (by omega))) (cf_ea h i q0)), (cf_en h :), (cf_eo h :), (cf_ed h :), (cf_ep h :), (cf_ec h :), (cf_et h :), (cf_es h :), (cf_ei h :), (cf_el h :), (cf_eb h :), (cf_ez h :), (cf_pi h :), (fun i q0 => Eq.trans (if_neg (fun z => absurd z.1 (by omega))) (cf_ta h i q0)), (cf_tq h :), (cf_to h :), (cf_t1 h :), (cf_t2 h :), (cf_tn h :), (cf_tm h :), (cf_tu h :), (fun i hi => by
  show zr (qr σ (c + 6) j none) (c + 6) i = if va_up (g_lt T) j false i = true then some (k_la K i) else none
  by_cases q : i = j
  · subst q
    rw [up_eq, if_neg Bool.false_ne_true]
    exact if_pos ⟨rfl, rfl⟩
  · rw [up_ne q]
    exact Eq.trans (if_neg (fun z => q z.2)) (cf_la h i hi)), (cf_lj h :), (fun i hi ht => cf_lf h i hi (up_t ht).2), (fun i hi ht => cf_lo h i hi (up_t ht).2), (cf_wr h :), (cf_fi h :), (cf_fa h :), (fun i q0 => Eq.trans (if_neg (fun z => absurd z.1 (by omega))) (cf_ra h i q0)), (fun i q0 => Eq.trans (if_neg (fun z => absurd z.1 (by omega))) (cf_sa h i q0)), (cf_rd h :), (cf_sd h :), (cf_rt h :), (cf_st h :), (cf_rr h :), (cf_sr h :)⟩
theorem U_ro {c B : Nat} {σ : ZS} {T : TS} {K : KS} (h : cG c B σ T K) {v : Nat} (hv : v < 3 * g_np T) (j e : Nat) : cG c B (qr σ (k_va K v + 1) j (some (k_ea K e))) (h_ro T (va_u2 (g_ro T) v (va_up (g_ro T v) j e))) K := ⟨(cf_sh h :), (cf_B h :), (cf_bd h :), (cf_pk h :), (cf_vk h :), (cf_ek h :), (cf_tk h :), (cf_lk h :), (cf_rk h :), (cf_sk h :), (cf_pai h :), (cf_lai h :), (cf_wai h :), (cf_np h :), (cf_nb h :), (cf_ev h :), (cf_te h :), (cf_le h :), (cf_wm h :), (cf_fo h :), (cf_su h :), (fun i q0 => Eq.trans (if_neg (fun z => absurd z.1 (by have := (cf_vk h v hv).2.2.1; omega))) (cf_pa h i q0)), (cf_pas h :), (fun i q0 => Eq.trans (if_neg (fun z => absurd z.1 (by have := (cf_vk h v hv).2.2.1; omega))) (cf_va h i q0)), (cf_vn h :), (cf_vi h :), (cf_ve h :), (cf_vs h :), (cf_vw h :), (cf_vl h :), (fun u i hi hp => by
  show zr (qr σ (k_va K v + 1) j (some (k_ea K e))) (k_va K u + 1) i = some (k_ea K (va_u2 (g_ro T) v (va_up (g_ro T v) j e) u i))
  by_cases q : u = v
  · subst q
    rw [u2_eq]
    by_cases q2 : i = j
    · subst q2
      rw [up_eq]
      exact if_pos ⟨rfl, rfl⟩
    · rw [up_ne q2]
      exact Eq.trans (if_neg (fun z => q2 z.2)) (cf_ro h u i hi hp)
  · rw [u2_ne q]
    exact Eq.trans (if_neg (fun z => q (va_inj h hi hv (Nat.succ.inj z.1)))) (cf_ro h u i hi hp)), (cf_be h :), (fun i q0 => Eq.trans (if_neg (fun z => absurd z.1 (by have := (cf_vk h v hv).2.2.1; omega))) (cf_ea h i q0)), (cf_en h :), (cf_eo h :), (cf_ed h :), (cf_ep h :), (cf_ec h :), (cf_et h :), (cf_es h :), (cf_ei h :), (cf_el h :), (cf_eb h :), (cf_ez h :), (cf_pi h :), (fun i q0 => Eq.trans (if_neg (fun z => absurd z.1 (by have := (cf_vk h v hv).2.2.1; omega))) (cf_ta h i q0)), (cf_tq h :), (cf_to h :), (cf_t1 h :), (cf_t2 h :), (cf_tn h :), (cf_tm h :), (cf_tu h :), (fun i q0 => Eq.trans (if_neg (fun z => absurd z.1 (by have := (cf_vk h v hv).2.2.1; omega))) (cf_la h i q0)), (cf_lj h :), (cf_lf h :), (cf_lo h :), (cf_wr h :), (cf_fi h :), (cf_fa h :), (fun i q0 => Eq.trans (if_neg (fun z => absurd z.1 (by have := (cf_vk h v hv).2.2.1; omega))) (cf_ra h i q0)), (fun i q0 => Eq.trans (if_neg (fun z => absurd z.1 (by have := (cf_vk h v hv).2.2.1; omega))) (cf_sa h i q0)), (cf_rd h :), (cf_sd h :), (cf_rt h :), (cf_st h :), (cf_rr h :), (cf_sr h :)⟩
theorem U_ro0 {c B : Nat} {σ : ZS} {T : TS} {K : KS} (h : cG c B σ T K) {v : Nat} (hv : v < 3 * g_np T) (j : Nat) (hj : g_mn T v ≤ j) (w : Option Nat) : cG c B (qr σ (k_va K v + 1) j w) T K := ⟨(cf_sh h :), (cf_B h :), (cf_bd h :), (cf_pk h :), (cf_vk h :), (cf_ek h :), (cf_tk h :), (cf_lk h :), (cf_rk h :), (cf_sk h :), (cf_pai h :), (cf_lai h :), (cf_wai h :), (cf_np h :), (cf_nb h :), (cf_ev h :), (cf_te h :), (cf_le h :), (cf_wm h :), (cf_fo h :), (cf_su h :), (fun i q0 => Eq.trans (if_neg (fun z => absurd z.1 (by have := (cf_vk h v hv).2.2.1; omega))) (cf_pa h i q0)), (cf_pas h :), (fun i q0 => Eq.trans (if_neg (fun z => absurd z.1 (by have := (cf_vk h v hv).2.2.1; omega))) (cf_va h i q0)), (cf_vn h :), (cf_vi h :), (cf_ve h :), (cf_vs h :), (cf_vw h :), (cf_vl h :), (fun u i hi hp => by
  refine Eq.trans (if_neg (fun z => ?_)) (cf_ro h u i hi hp)
  have q := va_inj h hi hv (Nat.succ.inj z.1)
  have q2 := z.2
  subst q
  omega), (cf_be h :), (fun i q0 => Eq.trans (if_neg (fun z => absurd z.1 (by have := (cf_vk h v hv).2.2.1; omega))) (cf_ea h i q0)), (cf_en h :), (cf_eo h :), (cf_ed h :), (cf_ep h :), (cf_ec h :), (cf_et h :), (cf_es h :), (cf_ei h :), (cf_el h :), (cf_eb h :), (cf_ez h :), (cf_pi h :), (fun i q0 => Eq.trans (if_neg (fun z => absurd z.1 (by have := (cf_vk h v hv).2.2.1; omega))) (cf_ta h i q0)), (cf_tq h :), (cf_to h :), (cf_t1 h :), (cf_t2 h :), (cf_tn h :), (cf_tm h :), (cf_tu h :), (fun i q0 => Eq.trans (if_neg (fun z => absurd z.1 (by have := (cf_vk h v hv).2.2.1; omega))) (cf_la h i q0)), (cf_lj h :), (cf_lf h :), (cf_lo h :), (cf_wr h :), (cf_fi h :), (cf_fa h :), (fun i q0 => Eq.trans (if_neg (fun z => absurd z.1 (by have := (cf_vk h v hv).2.2.1; omega))) (cf_ra h i q0)), (fun i q0 => Eq.trans (if_neg (fun z => absurd z.1 (by have := (cf_vk h v hv).2.2.1; omega))) (cf_sa h i q0)), (cf_rd h :), (cf_sd h :), (cf_rt h :), (cf_st h :), (cf_rr h :), (cf_sr h :)⟩
theorem U_pi {c B : Nat} {σ : ZS} {T : TS} {K : KS} (h : cG c B σ T K) {e : Nat} (hv : e < g_ev T) (j : Nat) (w : Int32) : cG c B (qi σ (k_ea K e + 1) j w) (h_pi T (va_u2 (g_pi T) e (va_up (g_pi T e) j w))) K := ⟨(cf_sh h :), (cf_B h :), (cf_bd h :), (cf_pk h :), (cf_vk h :), (cf_ek h :), (cf_tk h :), (cf_lk h :), (cf_rk h :), (cf_sk h :), (cf_pai h :), (cf_lai h :), (cf_wai h :), (cf_np h :), (cf_nb h :), (cf_ev h :), (cf_te h :), (cf_le h :), (cf_wm h :), (cf_fo h :), (cf_su h :), (cf_pa h :), (cf_pas h :), (cf_va h :), (cf_vn h :), (cf_vi h :), (cf_ve h :), (cf_vs h :), (cf_vw h :), (cf_vl h :), (cf_ro h :), (cf_be h :), (cf_ea h :), (cf_en h :), (cf_eo h :), (cf_ed h :), (cf_ep h :), (cf_ec h :), (cf_et h :), (cf_es h :), (cf_ei h :), (cf_el h :), (cf_eb h :), (cf_ez h :), (fun u i hi hp => by
  show zi (qi σ (k_ea K e + 1) j w) (k_ea K u + 1) i = va_u2 (g_pi T) e (va_up (g_pi T e) j w) u i
  by_cases q : u = e
  · subst q
    rw [u2_eq]
    by_cases q2 : i = j
    · subst q2
      rw [up_eq]
      exact if_pos ⟨rfl, rfl⟩
    · rw [up_ne q2]
      exact Eq.trans (if_neg (fun z => q2 z.2)) (cf_pi h u i hi hp)
  · rw [u2_ne q]
    exact Eq.trans (if_neg (fun z => q (ea_inj h hi hv (Nat.succ.inj z.1)))) (cf_pi h u i hi hp)), (cf_ta h :), (cf_tq h :), (cf_to h :), (cf_t1 h :), (cf_t2 h :), (cf_tn h :), (cf_tm h :), (cf_tu h :), (cf_la h :), (cf_lj h :), (cf_lf h :), (cf_lo h :), (fun i q0 => Eq.trans (if_neg (fun z => absurd z.1 (by have := (cf_ek h e hv).2.2.1; omega))) (cf_wr h i q0)), (fun i q0 => Eq.trans (if_neg (fun z => absurd z.1 (by have := (cf_ek h e hv).2.2.1; omega))) (cf_fi h i q0)), (fun i q0 => Eq.trans (if_neg (fun z => absurd z.1 (by have := (cf_ek h e hv).2.2.1; omega))) (cf_fa h i q0)), (cf_ra h :), (cf_sa h :), (cf_rd h :), (cf_sd h :), (cf_rt h :), (cf_st h :), (fun r i q0 q1 q2 => Eq.trans (if_neg (fun z => absurd z.1 (fun y => er_ne h hv q0 q1 (Nat.succ.inj y).symm))) (cf_rr h r i q0 q1 q2)), (fun r i q0 q1 q2 => Eq.trans (if_neg (fun z => absurd z.1 (fun y => es_ne h hv q0 q1 (Nat.succ.inj y).symm))) (cf_sr h r i q0 q1 q2))⟩
theorem U_rr {c B : Nat} {σ : ZS} {T : TS} {K : KS} (h : cG c B σ T K) {s : Nat} (hr : s < 4) (hh : g_hr T s = true) (j : Nat) (w : Option Nat) : cG c B (qi σ (k_wa K s + 1) j (oI w)) (h_rr T (va_u2 (g_rr T) s (va_up (g_rr T s) j w))) K := ⟨(cf_sh h :), (cf_B h :), (cf_bd h :), (cf_pk h :), (cf_vk h :), (cf_ek h :), (cf_tk h :), (cf_lk h :), (cf_rk h :), (cf_sk h :), (cf_pai h :), (cf_lai h :), (cf_wai h :), (cf_np h :), (cf_nb h :), (cf_ev h :), (cf_te h :), (cf_le h :), (cf_wm h :), (cf_fo h :), (cf_su h :), (cf_pa h :), (cf_pas h :), (cf_va h :), (cf_vn h :), (cf_vi h :), (cf_ve h :), (cf_vs h :), (cf_vw h :), (cf_vl h :), (cf_ro h :), (cf_be h :), (cf_ea h :), (cf_en h :), (cf_eo h :), (cf_ed h :), (cf_ep h :), (cf_ec h :), (cf_et h :), (cf_es h :), (cf_ei h :), (cf_el h :), (cf_eb h :), (cf_ez h :), (fun e i q0 q1 => Eq.trans (if_neg (fun z => absurd z.1 (fun y => er_ne h q0 hr hh (Nat.succ.inj y)))) (cf_pi h e i q0 q1)), (cf_ta h :), (cf_tq h :), (cf_to h :), (cf_t1 h :), (cf_t2 h :), (cf_tn h :), (cf_tm h :), (cf_tu h :), (cf_la h :), (cf_lj h :), (cf_lf h :), (cf_lo h :), (fun i q0 => Eq.trans (if_neg (fun z => absurd z.1 (by have := (cf_rk h s hr hh).2.2.1; omega))) (cf_wr h i q0)), (fun i q0 => Eq.trans (if_neg (fun z => absurd z.1 (by have := (cf_rk h s hr hh).2.2.1; omega))) (cf_fi h i q0)), (fun i q0 => Eq.trans (if_neg (fun z => absurd z.1 (by have := (cf_rk h s hr hh).2.2.1; omega))) (cf_fa h i q0)), (cf_ra h :), (cf_sa h :), (cf_rd h :), (cf_sd h :), (cf_rt h :), (cf_st h :), (fun u i hu hu2 hp => by
  show zi (qi σ (k_wa K s + 1) j (oI w)) (k_wa K u + 1) i = oI (va_u2 (g_rr T) s (va_up (g_rr T s) j w) u i)
  by_cases q : u = s
  · subst q
    rw [u2_eq]
    by_cases q2 : i = j
    · subst q2
      rw [up_eq]
      exact if_pos ⟨rfl, rfl⟩
    · rw [up_ne q2]
      exact Eq.trans (if_neg (fun z => q2 z.2)) (cf_rr h u i hu hu2 hp)
  · rw [u2_ne q]
    exact Eq.trans (if_neg (fun z => q (ra_inj h hu hr hu2 hh (Nat.succ.inj z.1)))) (cf_rr h u i hu hu2 hp)), (fun r i q0 q1 q2 => Eq.trans (if_neg (fun z => absurd z.1 (fun y => rs_ne h hr q0 hh q1 (Nat.succ.inj y).symm))) (cf_sr h r i q0 q1 q2))⟩
theorem U_sr {c B : Nat} {σ : ZS} {T : TS} {K : KS} (h : cG c B σ T K) {s : Nat} (hr : s < 4) (hh : g_hs T s = true) (j : Nat) (w : Int32) : cG c B (qi σ (k_wa K (s + 4) + 1) j w) (h_sr T (va_u2 (g_sr T) s (va_up (g_sr T s) j w))) K := ⟨(cf_sh h :), (cf_B h :), (cf_bd h :), (cf_pk h :), (cf_vk h :), (cf_ek h :), (cf_tk h :), (cf_lk h :), (cf_rk h :), (cf_sk h :), (cf_pai h :), (cf_lai h :), (cf_wai h :), (cf_np h :), (cf_nb h :), (cf_ev h :), (cf_te h :), (cf_le h :), (cf_wm h :), (cf_fo h :), (cf_su h :), (cf_pa h :), (cf_pas h :), (cf_va h :), (cf_vn h :), (cf_vi h :), (cf_ve h :), (cf_vs h :), (cf_vw h :), (cf_vl h :), (cf_ro h :), (cf_be h :), (cf_ea h :), (cf_en h :), (cf_eo h :), (cf_ed h :), (cf_ep h :), (cf_ec h :), (cf_et h :), (cf_es h :), (cf_ei h :), (cf_el h :), (cf_eb h :), (cf_ez h :), (fun e i q0 q1 => Eq.trans (if_neg (fun z => absurd z.1 (fun y => es_ne h q0 hr hh (Nat.succ.inj y)))) (cf_pi h e i q0 q1)), (cf_ta h :), (cf_tq h :), (cf_to h :), (cf_t1 h :), (cf_t2 h :), (cf_tn h :), (cf_tm h :), (cf_tu h :), (cf_la h :), (cf_lj h :), (cf_lf h :), (cf_lo h :), (fun i q0 => Eq.trans (if_neg (fun z => absurd z.1 (by have := (cf_sk h s hr hh).2.2.1; omega))) (cf_wr h i q0)), (fun i q0 => Eq.trans (if_neg (fun z => absurd z.1 (by have := (cf_sk h s hr hh).2.2.1; omega))) (cf_fi h i q0)), (fun i q0 => Eq.trans (if_neg (fun z => absurd z.1 (by have := (cf_sk h s hr hh).2.2.1; omega))) (cf_fa h i q0)), (cf_ra h :), (cf_sa h :), (cf_rd h :), (cf_sd h :), (cf_rt h :), (cf_st h :), (fun r i q0 q1 q2 => Eq.trans (if_neg (fun z => absurd z.1 (fun y => rs_ne h q0 hr q1 hh (Nat.succ.inj y)))) (cf_rr h r i q0 q1 q2)), (fun u i hu hu2 hp => by
  show zi (qi σ (k_wa K (s + 4) + 1) j w) (k_wa K (u + 4) + 1) i = va_u2 (g_sr T) s (va_up (g_sr T s) j w) u i
  by_cases q : u = s
  · subst q
    rw [u2_eq]
    by_cases q2 : i = j
    · subst q2
      rw [up_eq]
      exact if_pos ⟨rfl, rfl⟩
    · rw [up_ne q2]
      exact Eq.trans (if_neg (fun z => q2 z.2)) (cf_sr h u i hu hu2 hp)
  · rw [u2_ne q]
    exact Eq.trans (if_neg (fun z => q (sa_inj h hu hr hu2 hh (Nat.succ.inj z.1)))) (cf_sr h u i hu hu2 hp))⟩
