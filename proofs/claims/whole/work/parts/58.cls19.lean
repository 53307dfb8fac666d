theorem tmF_cg {T S : TS} {e : Nat} (hw : wrT S e = wrT T e) : ∀ n, (∀ t, t < n → liB S e t = liB T e t ∧ (liB T e t = true → g_tn S t = g_tn T t ∧ g_tm S t = g_tm T t)) → tmF S e n = tmF T e n
  | 0, _ => hw
  | n + 1, h => by
    have h1 := h n (Nat.lt_succ_self _)
    rw [tmF, tmF, tmF_cg hw n (fun t ht => h t (by omega)), h1.1]
    by_cases q : liB T e n = true
    · rw [if_pos q, if_pos q, (h1.2 q).1, (h1.2 q).2]
    · rw [if_neg q, if_neg q]
theorem bgF_cg {T S : TS} {w : Nat} : ∀ p, (∀ q, q < p → g_ro S w q = g_ro T w q ∧ tmT S (g_ro T w q) = tmT T (g_ro T w q)) → bgF S w p = bgF T w p
  | 0, _ => rfl
  | p + 1, h => by
    have h1 := h p (Nat.lt_succ_self _)
    rw [bgF, bgF, bgF_cg p (fun q hq => h q (by omega)), h1.1, h1.2]
/-- a voice laid out anew: the class is at rest -/
theorem kI_lo {S : TS} {K L : KS} {v : Nat} (hI : tI S) (hv : v < 3 * g_np S) (h : loI S K L v)
    (ho : ∀ e, e < g_ev S → g_th S e = true → g_vo S e ≠ v → k_pl K e = g_pl S e ∧ k_bg K e = bgF S (g_vo S e) (g_pl S e) ∧ k_ls K e = tmT S e)
    (hvl : ∀ w, w < 3 * g_np S → w ≠ v → k_vl K w = bgF S w (g_mn S w)) (hkT : kT S K) (hbe : ∀ b, b < g_nb S → k_be K b = baF S (b + 1)) (has : asF (k_as K) (g_np S) = g_tr S) : kI S L := by
  obtain ⟨h1, h2, h3, h4, h5⟩ := h
  have hnp := ti_np hI
  have hot : ∀ e, e < g_ev S → g_vo S e ≠ v → ∀ j, j < g_mn S v → e ≠ g_ro S v j := by
    intro e he hne j hj z
    have h6 := (ti_ro hI v j (by omega) hj).2.2.1
    rw [← z] at h6
    exact hne h6
  have hme : ∀ e, e < g_ev S → g_th S e = true → k_pl L e = g_pl S e ∧ k_bg L e = bgF S (g_vo S e) (g_pl S e) ∧ k_ls L e = tmT S e := by
    intro e he hte
    by_cases q : g_vo S e = v
    · have h6 := ti_pl hI e he hte
      rw [q] at h6
      have h7 := h4 (g_pl S e) h6.1
      rw [h6.2] at h7
      rw [q]
      exact ⟨h7.1, h7.2.2, h7.2.1⟩
    · have h6 := h5 e (hot e he q)
      have h7 := ho e he hte q
      rw [h6.1, h6.2.1, h6.2.2]
      exact h7
  refine ⟨fun e he hte => (hme e he hte).1, fun e he hte => (hme e he hte).2.1, fun e he hte => (hme e he hte).2.2, fun w hw => ?_, ?_, ?_, ?_⟩
  · by_cases q : w = v
    · rw [q]; exact h2
    · rw [h3 w q]; exact hvl w hw q
  · intro t ht htt
    rw [h1.2.2.2.2.2.2.1, h1.2.2.2.2.2.2.2.1]
    exact hkT t ht htt
  · intro b hb
    rw [h1.2.2.2.2.2.2.2.2.1]
    exact hbe b hb
  · rw [h1.2.2.2.2.2.2.2.2.2.2]
    exact has
theorem baF_cg {T S : TS} : ∀ b, (∀ i, i < b → g_bt S i = g_bt T i) → baF S b = baF T b
  | 0, _ => rfl
  | b + 1, h => by rw [baF, baF, baF_cg b (fun i hi => h i (by omega)), h b (Nat.lt_succ_self _)]
/-- the times of other voices, where nothing of theirs changes -/
theorem kI_ot {T S : TS} {K : KS} {v : Nat} (hI : tI T) (hIS : tI S) (hK : kI T K) (hnp : g_np S = g_np T) (hmn : ∀ w, w ≠ v → g_mn S w = g_mn T w) (hro : ∀ w, w ≠ v → g_ro S w = g_ro T w) (hev : ∀ e, e < g_ev S → g_th S e = true → g_vo S e ≠ v → e < g_ev T ∧ g_th T e = true ∧ g_vo S e = g_vo T e ∧ g_pl S e = g_pl T e)
    (hlow : ∀ e, e < g_ev T → g_th T e = true → g_vo T e ≠ v → tmT S e = tmT T e) : (∀ e, e < g_ev S → g_th S e = true → g_vo S e ≠ v → k_pl K e = g_pl S e ∧ k_bg K e = bgF S (g_vo S e) (g_pl S e) ∧ k_ls K e = tmT S e) ∧ (∀ w, w < 3 * g_np S → w ≠ v → k_vl K w = bgF S w (g_mn S w)) := by
  have hn := ti_np hI
  have hb : ∀ w p, w < 18 → w ≠ v → p ≤ g_mn T w → bgF S w p = bgF T w p := by
    intro w p hw hwv hp
    refine bgF_cg p (fun q hq => ?_)
    have h1 := ti_ro hI w q hw (by omega)
    exact ⟨by rw [hro w hwv], hlow _ h1.1 h1.2.1 (by rw [h1.2.2.1]; exact hwv)⟩
  refine ⟨fun e he hte hne => ?_, fun w hw hwv => ?_⟩
  · obtain ⟨h1, h2, h3, h4⟩ := hev e he hte hne
    have h5 := ti_vo hI e h1
    have h6 := (ti_pl hI e h1 h2).1
    rw [h3] at hne
    rw [h3, h4, ki_pl hK e h1 h2, ki_bg hK e h1 h2, ki_ls hK e h1 h2, hb _ _ (by omega) hne (by omega), hlow e h1 h2 hne]
    exact ⟨rfl, rfl, rfl⟩
  · rw [hnp] at hw
    rw [hmn w hwv, ki_vl hK w hw, hb w _ (by omega) hwv (Nat.le_refl _)]
theorem kI_value {T : TS} {K L : KS} (hI : tI T) (hK : kI T K) {e v d : Nat} (he : e < g_ev T) (hS : tI (h_dt (h_va T (va_up (g_va T) e v)) (va_up (g_dt T) e d))) (h : loI (h_dt (h_va T (va_up (g_va T) e v)) (va_up (g_dt T) e d)) K L (g_vo T e)) : kI (h_dt (h_va T (va_up (g_va T) e v)) (va_up (g_dt T) e d)) L := by
  have ht : ∀ f, f ≠ e → tmT (h_dt (h_va T (va_up (g_va T) e v)) (va_up (g_dt T) e d)) f = tmT T f := by
    intro f hf
    refine tmF_cg ?_ (g_te T) (fun t _ => ⟨rfl, fun _ => ⟨rfl, rfl⟩⟩)
    unfold wrT
    show (if g_kd T f = 2 ∨ g_kd T f = 4 then 0 else if va_up (g_dt T) e d f = 0 then 5644800 / 2 ^ va_up (g_va T) e v f else if va_up (g_dt T) e d f = 1 then 5644800 / 2 ^ va_up (g_va T) e v f / 2 * 3 else 5644800 / 2 ^ va_up (g_va T) e v f / 4 * 7) = _
    rw [up_ne hf, up_ne hf]
  have ho := kI_ot (v := g_vo T e) (S := h_dt (h_va T (va_up (g_va T) e v)) (va_up (g_dt T) e d)) hI hS hK rfl (fun _ _ => rfl) (fun _ _ => rfl) (fun f hf htf hne => ⟨hf, htf, rfl, rfl⟩) (fun f hf htf hne => ht f (fun z => hne (by rw [z])))
  exact kI_lo hS (ti_vo hI e he) h ho.1 ho.2 (ki_kT (T := T) hK) (fun b hb => (ki_be (T := T) hK b hb).trans (baF_cg (T := T) (S := h_dt (h_va T (va_up (g_va T) e v)) (va_up (g_dt T) e d)) _ (fun _ _ => rfl)).symm) (ki_as (T := T) hK)
set_option maxHeartbeats 4000000 in
set_option maxRecDepth 100000 in
theorem q_value {c : Nat} {σ : ZS} {T : TS} (hR : cR c σ T) (hI : tI T) (e v d : Int32) : ZC M_X11_value [Ar (some c), Ai e, Ai v, Ai d] σ (fun y0 τ0 => y0 = some (Ai (sp_value T e v d).1) ∧ cR c τ0 (sp_value T e v d).2) := by
  obtain ⟨B, K, hG, hK⟩ := hR
  have hbd := cf_bd hG
  refine ZC_of (ls := [some (Ar (some c)), some (Ai e), some (Ai v), some (Ai d), none]) (by decide) (Nat.le_of_ble_eq_true rfl) rfl ?_
  refine ZV_aload_n (n := 1) dX11_value_0 rfl rfl rfl ?_
  refine ZV_iload_n (n := 2) dX11_value_1 rfl rfl rfl ?_
  refine call_X11_155 (e_eventOf hG _) rfl dX11_value_2 rfl (cf_sh hG :).1 (Nat.le_of_ble_eq_true rfl) (Nat.le_of_ble_eq_true rfl) rfl (fun r9 σ9 hp9 => ?_)
  obtain ⟨hs9, hp9⟩ := hp9
  subst σ9
  rcases hp9 with ⟨hv2, hr9⟩ | ⟨e2, he2, ht2, hn2, hr9⟩
  · skip
    subst hr9
    refine ZV_astore_4 (n := 7) dX11_value_5 rfl (Nat.le_of_ble_eq_true rfl) rfl ?_
    refine ZV_aload (n := 9) dX11_value_7 rfl rfl ?_
    refine ZV_ifnull_n (tgt := 26) dX11_value_9 (by decide) ?_
    refine ZV_aload_n (n := 27) dX11_value_26 rfl rfl rfl ?_
    refine ZV_bipush (v := -2) (n := 29) dX11_value_27 rfl rfl ?_
    refine call_X11_87 (e_refuse hG _) rfl dX11_value_29 rfl (cf_sh hG :).1 (Nat.le_of_ble_eq_true rfl) (Nat.le_of_ble_eq_true rfl) rfl (fun r9 σ9 hp9 => ?_)
    obtain ⟨rfl, hG⟩ := hp9
    refine ZV_iret dX11_value_32 rfl ?_
    exact zlC (v := sNo T (-2)) (by simp [sp_value, hv2]) rfl ⟨B, K, hG, kI_e hK ⟨rfl, rfl, rfl, rfl, rfl, rfl, rfl, rfl, rfl, rfl, rfl, rfl, rfl, rfl, rfl, rfl, rfl, rfl, rfl, rfl⟩⟩
  · skip
    subst hr9
    subst hn2
    have hE2 : evB T (nI e2) = true := evB_nI hI he2 ht2
    have hev2 := ti_ev hI
    have hkd2 := ti_kd hI _ he2
    have hpn2 := ti_pn hI e2
    have hpl2 := ki_pl hK _ he2 ht2
    have hpb2 := pl_b hI hK he2 ht2
    have hvo2 := ti_vo hI _ he2
    have hc2 : (nI e2).toNatClampNeg = e2 := nI_clamp (by omega)
    refine ZV_astore_4 (n := 7) dX11_value_5 rfl (Nat.le_of_ble_eq_true rfl) rfl ?_
    refine ZV_aload (n := 9) dX11_value_7 rfl rfl ?_
    refine ZV_ifnull_s (tgt := 26) (n := 12) dX11_value_9 (by decide) rfl ?_
    refine ZV_iload_n (n := 13) dX11_value_12 rfl rfl rfl ?_
    refine call_X11_127 (e_isValue _ _) rfl dX11_value_13 (Nat.le_of_ble_eq_true rfl) (Nat.le_of_ble_eq_true rfl) rfl (fun r9 σ9 hp9 => ?_)
    obtain ⟨rfl, hs9⟩ := hp9
    subst σ9
    refine ZV_if_eqB (tgt := 26) (n := 19) dX11_value_16 (by decide) rfl (fun h16 => ?_) (fun h16 => ?_)
    · skip
      refine ZV_aload_n (n := 27) dX11_value_26 rfl rfl rfl ?_
      refine ZV_bipush (v := -2) (n := 29) dX11_value_27 rfl rfl ?_
      refine call_X11_87 (e_refuse hG _) rfl dX11_value_29 rfl (cf_sh hG :).1 (Nat.le_of_ble_eq_true rfl) (Nat.le_of_ble_eq_true rfl) rfl (fun r9 σ9 hp9 => ?_)
      obtain ⟨rfl, hG⟩ := hp9
      refine ZV_iret dX11_value_32 rfl ?_
      exact zlC (v := sNo T (-2)) (by simp [sp_value, hE2, h16]) rfl ⟨B, K, hG, kI_e hK ⟨rfl, rfl, rfl, rfl, rfl, rfl, rfl, rfl, rfl, rfl, rfl, rfl, rfl, rfl, rfl, rfl, rfl, rfl, rfl, rfl⟩⟩
    · skip
      refine ZV_iload_n (n := 20) dX11_value_19 rfl rfl rfl ?_
      refine call_X11_130 (e_isDots _ _) rfl dX11_value_20 (Nat.le_of_ble_eq_true rfl) (Nat.le_of_ble_eq_true rfl) rfl (fun r9 σ9 hp9 => ?_)
      obtain ⟨rfl, hs9⟩ := hp9
      subst σ9
      refine ZV_if_neB (tgt := 33) (n := 26) dX11_value_23 (by decide) rfl (fun h23 => ?_) (fun h23 => ?_)
      · skip
        obtain ⟨v9, hv9, hv92, rfl⟩ := inB_t h16
        have hcv9 : (nI v9).toNatClampNeg = v9 := nI_clamp hv92
        have h16 : inB (nI v9) 6 = true := h16
        obtain ⟨d9, hd9, hd92, rfl⟩ := inB_t h23
        have hcd9 : (nI d9).toNatClampNeg = d9 := nI_clamp hd92
        have h23 : inB (nI d9) 3 = true := h23
        have hIV : tI (h_dt (h_va T (va_up (g_va T) e2 v9)) (va_up (g_dt T) e2 d9)) := tI_value hI (by omega) (by omega)
        refine ZV_aload (n := 35) dX11_value_33 rfl rfl ?_
        refine ZV_iload_n (n := 36) dX11_value_35 rfl rfl rfl ?_
        refine ZV_putI (n := 39) dX11_value_36 fl_X11_229 rfl (Or.inl rfl) rfl (fun h => absurd h (by decide)) rfl (cf_ek hG e2 he2).1 ?_
        refine ZV_gen (P := fun τ => cG c B τ _ _) (U_va hG he2 _) (fun σ hG => ?_)
        refine ZV_aload (n := 41) dX11_value_39 rfl rfl ?_
        refine ZV_iload_n (n := 42) dX11_value_41 rfl rfl rfl ?_
        refine ZV_putI (n := 45) dX11_value_42 fl_X11_232 rfl (Or.inl rfl) rfl (fun h => absurd h (by decide)) rfl (cf_ek hG e2 he2).1 ?_
        refine ZV_gen (P := fun τ => cG c B τ _ _) (U_dt hG he2 _) (fun σ hG => ?_)
        refine ZV_aload_n (n := 46) dX11_value_45 rfl rfl rfl ?_
        refine ZV_aload (n := 48) dX11_value_46 rfl rfl ?_
        refine ZV_getRv (n := 51) dX11_value_48 fl_X11_162 rfl rfl rfl (cf_ek hG e2 he2).1 (show _ = some (k_va K (g_vo T e2)) from cf_eo hG e2 he2) ?_
        refine call_X11_148 (e_layOut hG hIV (v := g_vo T e2) hvo2 (ki_kT (T := T) hK)) rfl dX11_value_51 rfl (cf_sh hG :).1 (Nat.le_of_ble_eq_true rfl) (Nat.le_of_ble_eq_true rfl) rfl (fun r9 σ9 hp9 => ?_)
        obtain ⟨rfl, L, hG, hlo⟩ := hp9
        refine ZV_aload_n (n := 55) dX11_value_54 rfl rfl rfl ?_
        refine ZV_iconst (v := nI 1) (n := 56) dX11_value_55 rfl rfl ?_
        refine call_X11_98 (e_done hG _) rfl dX11_value_56 rfl (cf_sh hG :).1 (Nat.le_of_ble_eq_true rfl) (Nat.le_of_ble_eq_true rfl) rfl (fun r9 σ9 hp9 => ?_)
        obtain ⟨rfl, hG⟩ := hp9
        refine ZV_iret dX11_value_59 rfl ?_
        exact zlC (v := sOk (h_dt (h_va T (va_up (g_va T) e2 v9)) (va_up (g_dt T) e2 d9)) 1) (by simp [sp_value, hE2, hc2, h16, h23, hcv9, hcd9]) rfl ⟨B, L, hG, kI_e (kI_value hI hK he2 hIV hlo) ⟨rfl, rfl, rfl, rfl, rfl, rfl, rfl, rfl, rfl, rfl, rfl, rfl, rfl, rfl, rfl, rfl, rfl, rfl, rfl, rfl⟩⟩
      · skip
        refine ZV_aload_n (n := 27) dX11_value_26 rfl rfl rfl ?_
        refine ZV_bipush (v := -2) (n := 29) dX11_value_27 rfl rfl ?_
        refine call_X11_87 (e_refuse hG _) rfl dX11_value_29 rfl (cf_sh hG :).1 (Nat.le_of_ble_eq_true rfl) (Nat.le_of_ble_eq_true rfl) rfl (fun r9 σ9 hp9 => ?_)
        obtain ⟨rfl, hG⟩ := hp9
        refine ZV_iret dX11_value_32 rfl ?_
        exact zlC (v := sNo T (-2)) (by simp [sp_value, hE2, h16, h23]) rfl ⟨B, K, hG, kI_e hK ⟨rfl, rfl, rfl, rfl, rfl, rfl, rfl, rfl, rfl, rfl, rfl, rfl, rfl, rfl, rfl, rfl, rfl, rfl, rfl, rfl⟩⟩
theorem cG_cu {c B : Nat} {σ : ZS} {T : TS} {K : KS} (h : cG c B σ T K) (w : Nat) : cG c B σ (h_cu T w) K := ⟨(cf_sh h :), (cf_B h :), (cf_bd h :), (cf_pk h :), (cf_vk h :), (cf_ek h :), (cf_tk h :), (cf_lk h :), (cf_rk h :), (cf_sk h :), (cf_pai h :), (cf_lai h :), (cf_wai h :), (cf_np h :), (cf_nb h :), (cf_ev h :), (cf_te h :), (cf_le h :), (cf_wm h :), (cf_fo h :), (cf_su h :), (cf_pa h :), (cf_pas h :), (cf_va h :), (cf_vn h :), (cf_vi h :), (cf_ve h :), (cf_vs h :), (cf_vw h :), (cf_vl h :), (cf_ro h :), (cf_be h :), (cf_ea h :), (cf_en h :), (cf_eo h :), (cf_ed h :), (cf_ep h :), (cf_ec h :), (cf_et h :), (cf_es h :), (cf_ei h :), (cf_el h :), (cf_eb h :), (cf_ez h :), (cf_pi h :), (cf_ta h :), (cf_tq h :), (cf_to h :), (cf_t1 h :), (cf_t2 h :), (cf_tn h :), (cf_tm h :), (cf_tu h :), (cf_la h :), (cf_lj h :), (cf_lf h :), (cf_lo h :), (cf_wr h :), (cf_fi h :), (cf_fa h :), (cf_ra h :), (cf_sa h :), (cf_rd h :), (cf_sd h :), (cf_rt h :), (cf_st h :), (cf_rr h :), (cf_sr h :)⟩
theorem kI_untuplet {T : TS} {K L : KS} (hI : tI T) (hK : kI T K) {t : Nat} (ht : t < g_te T) (htt : g_tt T t = true) (hS : tI (h_cu (h_tt T (va_up (g_tt T) t false)) (g_cu T - 1))) (h : loI (h_cu (h_tt T (va_up (g_tt T) t false)) (g_cu T - 1)) K L (g_tv T t)) : kI (h_cu (h_tt T (va_up (g_tt T) t false)) (g_cu T - 1)) L := by
  have hl : ∀ f, g_vo T f ≠ g_tv T t → tmT (h_cu (h_tt T (va_up (g_tt T) t false)) (g_cu T - 1)) f = tmT T f := by
    intro f hf
    refine tmF_cg (T := T) (S := h_cu (h_tt T (va_up (g_tt T) t false)) (g_cu T - 1)) (e := f) rfl (g_te T) (fun u _ => ⟨?_, fun _ => ⟨rfl, rfl⟩⟩)
    show (va_up (g_tt T) t false u && decide (g_tv T u = g_vo T f ∧ g_pl T (g_tf T u) ≤ g_pl T f ∧ g_pl T f ≤ g_pl T (g_tl T u))) = (g_tt T u && decide (g_tv T u = g_vo T f ∧ g_pl T (g_tf T u) ≤ g_pl T f ∧ g_pl T f ≤ g_pl T (g_tl T u)))
    by_cases q : u = t
    · subst q
      rw [decide_eq_false (fun z => hf z.1.symm), Bool.and_false, Bool.and_false]
    · rw [up_ne q]
  have ho := kI_ot (v := g_tv T t) (S := h_cu (h_tt T (va_up (g_tt T) t false)) (g_cu T - 1)) hI hS hK rfl (fun _ _ => rfl) (fun _ _ => rfl) (fun f hf htf hne => ⟨hf, htf, rfl, rfl⟩) (fun f hf htf hne => hl f hne)
  exact kI_lo hS (tv_lt hI ht htt) h ho.1 ho.2 (fun u hu huu => ki_kT (T := T) hK u hu (up_t huu).2) (fun b hb => (ki_be (T := T) hK b hb).trans (baF_cg (T := T) (S := h_cu (h_tt T (va_up (g_tt T) t false)) (g_cu T - 1)) _ (fun _ _ => rfl)).symm) (ki_as (T := T) hK)
set_option maxHeartbeats 4000000 in
set_option maxRecDepth 100000 in
theorem q_untuplet {c : Nat} {σ : ZS} {T : TS} (hR : cR c σ T) (hI : tI T) (t : Int32) : ZC M_X11_untuplet [Ar (some c), Ai t] σ (fun y0 τ0 => y0 = some (Ai (sp_untuplet T t).1) ∧ cR c τ0 (sp_untuplet T t).2) := by
  obtain ⟨B, K, hG, hK⟩ := hR
  have hbd := cf_bd hG
  refine ZC_of (ls := [some (Ar (some c)), some (Ai t), none]) (by decide) (Nat.le_of_ble_eq_true rfl) rfl ?_
  refine ZV_aload_n (n := 1) dX11_untuplet_0 rfl rfl rfl ?_
  refine ZV_iload_n (n := 2) dX11_untuplet_1 rfl rfl rfl ?_
  refine call_X11_284 (e_tupletOf hG _) rfl dX11_untuplet_2 rfl (cf_sh hG :).1 (Nat.le_of_ble_eq_true rfl) (Nat.le_of_ble_eq_true rfl) rfl (fun r9 σ9 hp9 => ?_)
  obtain ⟨hs9, hp9⟩ := hp9
  subst σ9
  rcases hp9 with ⟨hv2, hr9⟩ | ⟨t2, he2, ht2, hn2, hr9⟩
  · skip
    subst hr9
    refine ZV_astore_2 (n := 6) dX11_untuplet_5 rfl (Nat.le_of_ble_eq_true rfl) rfl ?_
    refine ZV_aload_n (n := 7) dX11_untuplet_6 rfl rfl rfl ?_
    refine ZV_ifnonnull_n (tgt := 17) (n := 10) dX11_untuplet_7 (by decide) rfl ?_
    refine ZV_aload_n (n := 11) dX11_untuplet_10 rfl rfl rfl ?_
    refine ZV_bipush (v := -2) (n := 13) dX11_untuplet_11 rfl rfl ?_
    refine call_X11_87 (e_refuse hG _) rfl dX11_untuplet_13 rfl (cf_sh hG :).1 (Nat.le_of_ble_eq_true rfl) (Nat.le_of_ble_eq_true rfl) rfl (fun r9 σ9 hp9 => ?_)
    obtain ⟨rfl, hG⟩ := hp9
    refine ZV_iret dX11_untuplet_16 rfl ?_
    exact zlC (v := sNo T (-2)) (by simp [sp_untuplet, hv2]) rfl ⟨B, K, hG, kI_e hK ⟨rfl, rfl, rfl, rfl, rfl, rfl, rfl, rfl, rfl, rfl, rfl, rfl, rfl, rfl, rfl, rfl, rfl, rfl, rfl, rfl⟩⟩
  · skip
    subst hr9
    subst hn2
    have hE2 : tpB T (nI t2) = true := by unfold tpB; rw [inB_nI (by omega), nI_clamp (by omega), decide_eq_true he2, ht2]; rfl
    have hkt2 := ki_kT hK _ he2 ht2
    have htb2 := kt_b hI hK he2 ht2
    have hvt2 := tv_lt hI he2 ht2
    have hc2 : (nI t2).toNatClampNeg = t2 := nI_clamp (by omega)
    refine ZV_astore_2 (n := 6) dX11_untuplet_5 rfl (Nat.le_of_ble_eq_true rfl) rfl ?_
    refine ZV_aload_n (n := 7) dX11_untuplet_6 rfl rfl rfl ?_
    refine ZV_ifnonnull_s (tgt := 17) dX11_untuplet_7 (by decide) ?_
    have hIU : tI (h_cu (h_tt T (va_up (g_tt T) t2 false)) (g_cu T - 1)) := tI_untuplet hI he2 ht2
    refine ZV_aload_n (n := 18) dX11_untuplet_17 rfl rfl rfl ?_
    refine ZV_getRv (n := 21) dX11_untuplet_18 fl_X11_43 rfl rfl rfl (cf_sh hG :).1 (ca_tuplets (cf_sh hG :)) ?_
    refine ZV_iload_n (n := 22) dX11_untuplet_21 rfl rfl rfl ?_
    refine ZV_null (n := 23) dX11_untuplet_22 rfl ?_
    refine ZV_aast (c0 := 3) (j := t2) (n := 24) dX11_untuplet_23 rfl (by decide) (fun b q => by cases q) rfl (ck_tuplets (cf_sh hG :)) rfl (by omega) ?_
    refine ZV_aload_n (n := 25) dX11_untuplet_24 rfl rfl rfl ?_
    refine ZV_aload_n (n := 26) dX11_untuplet_25 rfl rfl rfl ?_
    refine ZV_getRv (n := 29) dX11_untuplet_26 fl_X11_140 rfl rfl rfl (cf_tk hG t2 he2).1 (cf_to hG t2 he2 ht2) ?_
    refine call_X11_148 (e_layOut (cG_cu (U_tt hG t2) (g_cu T - 1)) hIU (v := g_tv T t2) hvt2 (fun u hu huu => ki_kT (T := T) hK u hu (up_t huu).2)) rfl dX11_untuplet_29 rfl (cf_sh hG :).1 (Nat.le_of_ble_eq_true rfl) (Nat.le_of_ble_eq_true rfl) rfl (fun r9 σ9 hp9 => ?_)
    obtain ⟨rfl, L, hG, hlo⟩ := hp9
    refine ZV_aload_n (n := 33) dX11_untuplet_32 rfl rfl rfl ?_
    have ek : k_ta L t2 = k_ta K t2 := by rw [hlo.1.2.2.2.1]
    refine ZV_aload_n (n := 34) dX11_untuplet_33 rfl rfl rfl ?_
    refine ZV_getIv (n := 37) dX11_untuplet_34 fl_X11_288 rfl rfl rfl (by rw [← ek]; exact (cf_tk hG t2 he2).1) (show _ = nI (szT T t2) from by rw [← ek]; exact (cf_t2 hG t2 he2).trans (by rw [hlo.1.2.2.2.2.2.2.2.1, hkt2.2])) ?_
    refine call_X11_98 (e_done hG _) rfl dX11_untuplet_37 rfl (cf_sh hG :).1 (Nat.le_of_ble_eq_true rfl) (Nat.le_of_ble_eq_true rfl) rfl (fun r9 σ9 hp9 => ?_)
    obtain ⟨rfl, hG⟩ := hp9
    refine ZV_iret dX11_untuplet_40 rfl ?_
    exact zlC (v := sOk (h_cu (h_tt T (va_up (g_tt T) t2 false)) (g_cu T - 1)) (nI (szT T t2))) (by simp [sp_untuplet, hE2, hc2]) rfl ⟨B, L, hG, kI_e (kI_untuplet hI hK he2 ht2 hIU hlo) ⟨rfl, rfl, rfl, rfl, rfl, rfl, rfl, rfl, rfl, rfl, rfl, rfl, rfl, rfl, rfl, rfl, rfl, rfl, rfl, rfl⟩⟩
