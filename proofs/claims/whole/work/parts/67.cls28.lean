theorem rwP_e {S T : TS} (e_hr : g_hr S = g_hr T) (e_hs : g_hs S = g_hs T) : rwP S = rwP T := by
  funext i
  unfold rwP
  rw [e_hr, e_hs]
theorem cG_cm {c B : Nat} {σ : ZS} {T S : TS} {K : KS} (h : cG c B σ T K) (e_np : g_np S = g_np T) (e_pk : g_pk S = g_pk T) (e_nb : g_nb S = g_nb T) (e_ev : g_ev S = g_ev T) (e_th : g_th S = g_th T) (e_vo : g_vo S = g_vo T) (e_kd : g_kd S = g_kd T) (e_pn : g_pn S = g_pn T) (e_pi : g_pi S = g_pi T) (e_va : g_va S = g_va T) (e_dt : g_dt S = g_dt T) (e_ti : g_ti S = g_ti T) (e_mn : g_mn S = g_mn T) (e_ro : g_ro S = g_ro T) (e_te : g_te S = g_te T) (e_tt : g_tt S = g_tt T) (e_tv : g_tv S = g_tv T) (e_tn : g_tn S = g_tn T) (e_tm : g_tm S = g_tm T) (e_tu : g_tu S = g_tu T) (e_le : g_le S = g_le T) (e_lt : g_lt S = g_lt T) (e_lk : g_lk S = g_lk T) (e_lf : g_lf S = g_lf T) (e_lo : g_lo S = g_lo T) (e_wm : g_wm S = g_wm T) (e_wr : g_wr S = g_wr T) (e_fo : g_fo S = g_fo T) (e_fi : g_fi S = g_fi T) (e_hr : g_hr S = g_hr T) (e_rk : g_rk S = g_rk T) (e_rs : g_rs S = g_rs T) (e_rr : g_rr S = g_rr T) (e_hs : g_hs S = g_hs T) (e_sk : g_sk S = g_sk T) (e_ss : g_ss S = g_ss T) (e_sr : g_sr S = g_sr T) (e_fa : g_fa S = g_fa T) (e_su : g_su S = g_su T) : cG c B σ S K := ⟨(cf_sh h :), (cf_B h :), (by rw [e_np, e_ev, e_te, e_le, e_nb]; exact cf_bd h), (by rw [e_np, e_pk]; exact cf_pk h), (by rw [e_np]; exact cf_vk h), (by rw [e_ev, e_kd]; exact cf_ek h), (by rw [e_te]; exact cf_tk h), (by rw [e_le]; exact cf_lk h), (by rw [e_hr, e_rs]; exact cf_rk h), (by rw [e_hs, e_ss]; exact cf_sk h), (by rw [e_np]; exact cf_pai h), (by rw [e_le]; exact cf_lai h), (by rw [rwP_e e_hr e_hs]; exact cf_wai h), (by rw [e_np]; exact cf_np h), (by rw [e_nb]; exact cf_nb h), (by rw [e_ev]; exact cf_ev h), (by rw [e_te]; exact cf_te h), (by rw [e_le]; exact cf_le h), (by rw [e_wm]; exact cf_wm h), (by rw [e_fo]; exact cf_fo h), (by rw [e_su]; exact cf_su h), (by rw [e_np]; exact cf_pa h), (by rw [e_np]; exact cf_pas h), (by rw [e_np]; exact cf_va h), (by rw [e_np]; exact cf_vn h), (by rw [e_np]; exact cf_vi h), (by rw [e_np]; exact cf_ve h), (by rw [e_np, e_mn]; exact cf_vs h), (by rw [e_np]; exact cf_vw h), (by rw [e_np]; exact cf_vl h), (by rw [e_np, e_mn, e_ro]; exact cf_ro h), (by rw [e_nb]; exact cf_be h), (by rw [e_ev, e_th]; exact cf_ea h), (by rw [e_ev]; exact cf_en h), (by rw [e_ev, e_vo]; exact cf_eo h), (by rw [e_ev, e_kd]; exact cf_ed h), (by rw [e_ev]; exact cf_ep h), (by rw [e_ev, e_pn]; exact cf_ec h), (by rw [e_ev, e_va]; exact cf_et h), (by rw [e_ev, e_dt]; exact cf_es h), (by rw [e_ev, e_ti]; exact cf_ei h), (by rw [e_ev]; exact cf_el h), (by rw [e_ev]; exact cf_eb h), (by rw [e_ev]; exact cf_ez h), (by rw [e_ev, e_pn, e_pi]; exact cf_pi h), (by rw [e_te, e_tt]; exact cf_ta h), (by rw [e_te]; exact cf_tq h), (by rw [e_te, e_tt, e_tv]; exact cf_to h), (by rw [e_te]; exact cf_t1 h), (by rw [e_te]; exact cf_t2 h), (by rw [e_te, e_tn]; exact cf_tn h), (by rw [e_te, e_tm]; exact cf_tm h), (by rw [e_te, e_tu]; exact cf_tu h), (by rw [e_le, e_lt]; exact cf_la h), (by rw [e_le, e_lk]; exact cf_lj h), (by rw [e_le, e_lt, e_lf]; exact cf_lf h), (by rw [e_le, e_lt, e_lo]; exact cf_lo h), (by rw [e_wm, e_wr]; exact cf_wr h), (by rw [e_fi]; exact cf_fi h), (by rw [e_fa]; exact cf_fa h), (by rw [e_hr]; exact cf_ra h), (by rw [e_hs]; exact cf_sa h), (by rw [e_hr, e_rk]; exact cf_rd h), (by rw [e_hs, e_sk]; exact cf_sd h), (by rw [e_hr]; exact cf_rt h), (by rw [e_hs]; exact cf_st h), (by rw [e_hr, e_rs, e_rr]; exact cf_rr h), (by rw [e_hs, e_ss, e_sr]; exact cf_sr h)⟩
theorem ct_dt {T : TS} {K : KS} (hI : tI T) (hK : kI T K) {e : Nat} (he : e < g_ev T) (hte : g_th T e = true) : ctF T K (g_vo T e) (g_pl T e) (g_te T) = dtt T e (g_te T) := by
  funext t
  unfold ctF dtt
  by_cases ht : t < g_te T
  · cases htt : g_tt T t with
    | false => split <;> split <;> rfl
    | true =>
      have h := ti_tp hI t ht htt
      obtain ⟨k1, k2, k3, k4, k5, k6, k7⟩ := h
      have hk := ki_kT hK t ht htt
      have hE := ti_pl hI e he hte
      have hsz : 1 ≤ szT T t := (tl_lt hI ht htt).2
      have main : (g_tv T t = g_vo T e ∧ c2F T K (g_vo T e) (g_pl T e) (t + 1) t = 0) ↔ (g_tf T t = e ∧ g_tl T t = e) := by
        unfold c2F
        rw [hk.1, hk.2]
        constructor
        · rintro ⟨a1, a2⟩
          split at a2
          · next z =>
            have e1 : g_pl T (g_tf T t) = g_pl T e := by unfold szT at *; omega
            have e2 : g_pl T (g_tl T t) = g_pl T e := by unfold szT at *; omega
            have f1 := (ti_pl hI _ k1 k3).2
            have f2 := (ti_pl hI _ k2 k4).2
            rw [k5, a1, e1, hE.2] at f1
            rw [k6, a1, e2, hE.2] at f2
            exact ⟨f1.symm, f2.symm⟩
          · omega
        · rintro ⟨a1, a2⟩
          have e0 : g_tv T t = g_vo T e := by rw [← k5, a1]
          refine ⟨e0, ?_⟩
          rw [if_pos ⟨Nat.lt_succ_self _, htt, e0, by rw [a1]; exact Nat.le_refl _, by rw [a1]; omega⟩]
          unfold szT
          rw [a1, a2]
          omega
      by_cases q : g_tf T t = e ∧ g_tl T t = e
      · rw [if_pos ⟨ht, main.mpr q⟩, if_pos ⟨ht, q⟩]
      · rw [if_neg (fun z => q (main.mp z.2)), if_neg (fun z => q z.2)]
  · rw [if_neg (fun z => ht z.1), if_neg (fun z => ht z.1)]
theorem kT_drop {T : TS} {K K1 : KS} (hI : tI T) (hK : kI T K) {e : Nat} (he : e < g_ev T) (hte : g_th T e = true) (h : clR T K K1 (g_vo T e) (g_pl T e) (g_te T)) : kT (dropT T e) K1 := by
  intro t ht htt
  rw [dp_te] at ht
  rw [dp_tt] at htt
  obtain ⟨d1, d2, d3, d4⟩ := dp_tup hI he hte ht htt
  have hk := ki_kT hK t ht d1
  have h1 := h.2 t
  have g7 := (ti_tp hI t ht d1).2.2.2.2.2.2
  rw [h1.1, h1.2]
  unfold szT
  rw [dp_tf, dp_tl, d3.2.2.2, d4.2.2.2]
  unfold c1F c2F
  rw [hk.1, hk.2]
  unfold szT
  by_cases z : g_tv T t = g_vo T e
  · have d2 := d2 z
    simp only [ht, d1, z, true_and]
    clear h1 hk d3 d4
    split <;> first | omega | (split <;> first | omega | (split <;> omega))
  · simp only [z, false_and, and_false, ite_false]
    exact ⟨trivial, trivial⟩
theorem dp_tm2 {T : TS} (hI : tI T) {e f : Nat} (he : e < g_ev T) (hte : g_th T e = true) (hf : f < g_ev T) (htf : g_th T f = true) (hne : g_vo T f ≠ g_vo T e) : tmT (dropT T e) f = tmT T f := by
  have hfe : f ≠ e := fun z => hne (by rw [z])
  have ho := dp_old hI he hte hf htf hfe
  rw [if_neg (fun z => hne z.1)] at ho
  unfold tmT
  rw [dp_te]
  refine tmF_cg ?_ (g_te T) (fun t ht => ?_)
  · unfold wrT
    rw [dp_kd, dp_dt, dp_va]
  · rw [dp_tn, dp_tm]
    refine ⟨?_, fun _ => ⟨rfl, rfl⟩⟩
    unfold liB
    rw [dp_tt, dp_tv, ho.2.1, ho.2.2.1, dp_tf, dp_tl]
    cases htt : g_tt T t with
    | false =>
      have hz : dtt T e (g_te T) t = false := by
        unfold dtt
        split
        · rfl
        · exact htt
      rw [hz]
      rfl
    | true =>
      by_cases z : g_tv T t = g_vo T f
      · have hd : dtt T e (g_te T) t = true := by
          unfold dtt
          rw [if_neg]
          · exact htt
          · intro y
            have := (ti_tp hI t ht htt).2.2.2.2.1
            rw [y.2.1] at this
            exact hne (z ▸ this.symm)
        obtain ⟨d1, d2, d3, d4⟩ := dp_tup hI he hte ht hd
        rw [hd, d3.2.2.2, d4.2.2.2, if_neg (fun y => hne (z ▸ y.1)), if_neg (fun y => hne (z ▸ y.1))]
      · rw [decide_eq_false (fun y => z y.1), decide_eq_false (fun y => z y.1), Bool.and_false, Bool.and_false]
theorem kI_drop {T : TS} {K K1 L : KS} (hI : tI T) (hK : kI T K) {e : Nat} (he : e < g_ev T) (hte : g_th T e = true) (hS : tI (dropT T e)) (hR : clR T K K1 (g_vo T e) (g_pl T e) (g_te T)) (h : loI (dropT T e) K1 L (g_vo T e)) : kI (dropT T e) L := by
  have m := hR.1
  have ho := kI_ot (v := g_vo T e) (S := (dropT T e)) hI hS hK (dp_np T e) (fun w hw => by rw [dp_mn, up_ne hw]) (fun w hw => by rw [dp_ro, u2_ne hw]) (fun f hf htf hne => by
    rw [dp_ev] at hf
    rw [dp_th] at htf
    have h1 := up_t htf
    have h2 := dp_old hI he hte hf h1.2 h1.1
    rw [h2.2.1] at hne
    rw [if_neg (fun z => hne z.1)] at h2
    exact ⟨hf, h1.2, h2.2.1, h2.2.2.1⟩) (fun f hf htf hne => dp_tm2 hI he hte hf htf hne)
  refine kI_lo hS (by rw [dp_np]; exact ti_vo hI e he) h (fun f hf htf hne => ?_) (fun w hw hwv => by rw [m.2.2.2.2.2.2.2.2.2.1]; exact ho.2 w hw hwv) (kT_drop hI hK he hte hR) ?_ ?_
  · rw [m.2.2.2.2.2.2.1, m.2.2.2.2.2.2.2.1, m.2.2.2.2.2.2.2.2.1]
    exact ho.1 f hf htf hne
  · rw [dp_nb, m.2.2.2.2.2.2.2.2.2.2.1]
    intro b2 hb2
    exact (ki_be hK b2 hb2).trans (baF_cg _ (fun _ _ => by rw [dp_bt])).symm
  · rw [dp_np, dp_tr, m.2.2.2.2.2.2.2.2.2.2.2.2]
    exact ki_as hK
theorem dl_su (T : TS) (e : Nat) : dropT (h_su T 0) e = h_su (dropT T e) 0 := rfl
set_option maxHeartbeats 4000000 in
set_option maxRecDepth 100000 in
theorem q_drop {c : Nat} {σ : ZS} {T : TS} (hR : cR c σ T) (hI : tI T) (e : Int32) : ZC M_X11_drop [Ar (some c), Ai e] σ (fun y0 τ0 => y0 = some (Ai (sp_drop T e).1) ∧ cR c τ0 (sp_drop T e).2) := by
  obtain ⟨B, K, hG, hK⟩ := hR
  have hbd := cf_bd hG
  refine ZC_of (ls := [some (Ar (some c)), some (Ai e), none, none]) (by decide) (Nat.le_of_ble_eq_true rfl) rfl ?_
  refine ZV_aload_n (n := 1) dX11_drop_0 rfl rfl rfl ?_
  refine ZV_iload_n (n := 2) dX11_drop_1 rfl rfl rfl ?_
  refine call_X11_155 (e_eventOf hG _) rfl dX11_drop_2 rfl (cf_sh hG :).1 (Nat.le_of_ble_eq_true rfl) (Nat.le_of_ble_eq_true rfl) rfl (fun r9 σ9 hp9 => ?_)
  obtain ⟨hs9, hp9⟩ := hp9
  subst σ9
  rcases hp9 with ⟨hv2, hr9⟩ | ⟨e2, he2, ht2, hn2, hr9⟩
  · skip
    subst hr9
    refine ZV_astore_2 (n := 6) dX11_drop_5 rfl (Nat.le_of_ble_eq_true rfl) rfl ?_
    refine ZV_aload_n (n := 7) dX11_drop_6 rfl rfl rfl ?_
    refine ZV_ifnonnull_n (tgt := 17) (n := 10) dX11_drop_7 (by decide) rfl ?_
    refine ZV_aload_n (n := 11) dX11_drop_10 rfl rfl rfl ?_
    refine ZV_bipush (v := -2) (n := 13) dX11_drop_11 rfl rfl ?_
    refine call_X11_87 (e_refuse hG _) rfl dX11_drop_13 rfl (cf_sh hG :).1 (Nat.le_of_ble_eq_true rfl) (Nat.le_of_ble_eq_true rfl) rfl (fun r9 σ9 hp9 => ?_)
    obtain ⟨rfl, hG⟩ := hp9
    refine ZV_iret dX11_drop_16 rfl ?_
    exact zlC (v := sNo T (-2)) (by simp [sp_drop, hv2]) rfl ⟨B, K, hG, kI_e hK ⟨rfl, rfl, rfl, rfl, rfl, rfl, rfl, rfl, rfl, rfl, rfl, rfl, rfl, rfl, rfl, rfl, rfl, rfl, rfl, rfl⟩⟩
  · skip
    subst hr9
    subst hn2
    have hE2 : evB T (nI e2) = true := evB_nI hI he2 ht2
    have hev2 := ti_ev hI
    have hkd2 := ti_kd hI _ he2
    have hpn2 := ti_pn hI e2
    have hpl2 := ki_pl hK _ he2 ht2
    have hpb2 := pl_b hI hK he2 ht2
    have hvo2 := ti_vo hI _ he2
    have hc2 : (nI e2).toNatClampNeg = e2 := nI_clamp (by omega)
    refine ZV_astore_2 (n := 6) dX11_drop_5 rfl (Nat.le_of_ble_eq_true rfl) rfl ?_
    refine ZV_aload_n (n := 7) dX11_drop_6 rfl rfl rfl ?_
    refine ZV_ifnonnull_s (tgt := 17) dX11_drop_7 (by decide) ?_
    refine ZV_aload_n (n := 18) dX11_drop_17 rfl rfl rfl ?_
    refine ZV_getIv (n := 21) dX11_drop_18 fl_X11_159 rfl rfl rfl (cf_ek hG e2 he2).1 (show _ = nI (g_pl T e2) from (cf_el hG e2 he2).trans (by rw [hpl2])) ?_
    refine ZV_istore_3 (n := 22) dX11_drop_21 rfl (Nat.le_of_ble_eq_true rfl) rfl ?_
    refine ZV_aload_n (n := 23) dX11_drop_22 rfl rfl rfl ?_
    refine ZV_getRv (n := 26) dX11_drop_23 fl_X11_162 rfl rfl rfl (cf_ek hG e2 he2).1 (cf_eo hG e2 he2) ?_
    refine ZV_iload_n (n := 27) dX11_drop_26 rfl rfl rfl ?_
    refine call_X11_163 (e_remove hG (v := g_vo T e2) (p := g_pl T e2) hvo2 (by omega) (ti_mn hI _) (fun i hi => (ti_ro hI (g_vo T e2) i (by omega) hi).1)) rfl dX11_drop_27 rfl (cf_vk hG _ hvo2).1 (Nat.le_of_ble_eq_true rfl) (Nat.le_of_ble_eq_true rfl) rfl (fun r9 σ9 hp9 => ?_)
    obtain ⟨rfl, hG⟩ := hp9
    refine ZV_aload_n (n := 31) dX11_drop_30 rfl rfl rfl ?_
    refine ZV_getRv (n := 34) dX11_drop_31 fl_X11_34 rfl rfl rfl (cf_sh hG :).1 (ca_events (cf_sh hG :)) ?_
    refine ZV_iload_n (n := 35) dX11_drop_34 rfl rfl rfl ?_
    refine ZV_null (n := 36) dX11_drop_35 rfl ?_
    refine ZV_aast (c0 := 2) (j := e2) (n := 37) dX11_drop_36 rfl (by decide) (fun x9 q9 => by cases q9) rfl (ck_events (cf_sh hG :)) rfl (by omega) ?_
    refine ZV_gen (P := fun τ => cG c B τ (h_th (h_ro (h_mn T (va_up (g_mn T) (g_vo T e2) (g_mn T (g_vo T e2) - 1))) (va_u2 (g_ro T) (g_vo T e2) (upF (g_ro T (g_vo T e2)) (g_pl T e2) (g_mn T (g_vo T e2) - 1)))) (va_up (g_th T) e2 false)) K) (U_th hG e2) (fun σ hG => ?_)
    refine ZV_aload_n (n := 38) dX11_drop_37 rfl rfl rfl ?_
    refine ZV_aload_n (n := 39) dX11_drop_38 rfl rfl rfl ?_
    refine ZV_getRv (w := some (k_va K (g_vo T e2))) (n := 42) dX11_drop_39 fl_X11_162 rfl rfl rfl (cf_ek hG e2 he2).1 (cf_eo hG e2 he2) ?_
    refine ZV_iload_n (n := 43) dX11_drop_42 rfl rfl rfl ?_
    refine call_X11_166 (e_dropFromTuplets hG (v := g_vo T e2) (p := g_pl T e2) hvo2 (by omega) (fun t ht htt => tv_lt (T := T) hI ht htt) (fun t ht htt => kt_b (T := T) hI hK ht htt)) rfl dX11_drop_43 rfl (cf_sh hG :).1 (Nat.le_of_ble_eq_true rfl) (Nat.le_of_ble_eq_true rfl) rfl (fun r9 σ9 hp9 => ?_)
    obtain ⟨rfl, K1, hG, hR1⟩ := hp9
    have ek : k_ea K1 = k_ea K := hR1.1.2.2.1
    rw [← ek]
    refine ZV_aload_n (n := 47) dX11_drop_46 rfl rfl rfl ?_
    refine ZV_aload_n (n := 48) dX11_drop_47 rfl rfl rfl ?_
    refine call_X11_170 (e_dropFromLines hG (e := e2) he2 (fun l hl hlt => (ti_lf (T := T) hI l hl hlt).1) (fun l f hl hlt hq => (ti_lo (T := T) hI l f hl hlt hq).1)) rfl dX11_drop_48 rfl (cf_sh hG :).1 (Nat.le_of_ble_eq_true rfl) (Nat.le_of_ble_eq_true rfl) rfl (fun r9 σ9 hp9 => ?_)
    obtain ⟨rfl, hG⟩ := hp9
    refine ZV_aload_n (n := 52) dX11_drop_51 rfl rfl rfl ?_
    refine ZV_iload_n (n := 53) dX11_drop_52 rfl rfl rfl ?_
    refine call_X11_174 (e_dropFromRacks hG (e := e2) (by omega) (fun r hr => (ti_rk (T := T) hI r hr).2) (fun r j f hr hj hq => ti_rrb (T := T) hI r j f hr hj hq)) rfl dX11_drop_53 rfl (cf_sh hG :).1 (Nat.le_of_ble_eq_true rfl) (Nat.le_of_ble_eq_true rfl) rfl (fun r9 σ9 hp9 => ?_)
    obtain ⟨rfl, hG⟩ := hp9
    have hG := cG_rrE hG (f := rrE T e2) (fun r j hr hh hj => (drF_4 T e2 r j hr).symm)
    rw [hh_rr] at hG
    have hG := cG_cm (S := dropT T e2) hG (dp_np T e2) (dp_pk T e2) (dp_nb T e2) (dp_ev T e2) (dp_th T e2) (dp_vo T e2) (dp_kd T e2) (dp_pn T e2) (dp_pi T e2) (dp_va T e2) (dp_dt T e2) (dp_ti T e2) (dp_mn T e2) (dp_ro T e2) (dp_te T e2) ((dp_tt T e2).trans (ct_dt hI hK he2 ht2).symm) (dp_tv T e2) (dp_tn T e2) (dp_tm T e2) (dp_tu T e2) (dp_le T e2) (dp_lt T e2) (dp_lk T e2) (dp_lf T e2) (dp_lo T e2) (dp_wm T e2) (dp_wr T e2) (dp_fo T e2) (dp_fi T e2) (dp_hr T e2) (dp_rk T e2) (dp_rs T e2) (dp_rr T e2) (dp_hs T e2) (dp_sk T e2) (dp_ss T e2) (dp_sr T e2) (dp_fa T e2) (dp_su T e2)
    have hID : tI (dropT T e2) := tI_drop hI he2 ht2
    refine ZV_aload_n (n := 57) dX11_drop_56 rfl rfl rfl ?_
    refine ZV_aload_n (n := 58) dX11_drop_57 rfl rfl rfl ?_
    refine ZV_getRv (w := some (k_va K1 (g_vo T e2))) (n := 61) dX11_drop_58 fl_X11_162 rfl rfl rfl (cf_ek hG e2 (by rw [dp_ev]; exact he2)).1 ((cf_eo hG e2 (by rw [dp_ev]; exact he2)).trans (by rw [dp_vo])) ?_
    refine call_X11_148 (e_layOut hG hID (v := g_vo T e2) (by rw [dp_np]; exact hvo2) (kT_drop hI hK he2 ht2 hR1)) rfl dX11_drop_61 rfl (cf_sh hG :).1 (Nat.le_of_ble_eq_true rfl) (Nat.le_of_ble_eq_true rfl) rfl (fun r9 σ9 hp9 => ?_)
    obtain ⟨rfl, L, hG, hlo⟩ := hp9
    refine ZV_aload_n (n := 65) dX11_drop_64 rfl rfl rfl ?_
    refine ZV_iload_n (n := 66) dX11_drop_65 rfl rfl rfl ?_
    refine call_X11_98 (e_done hG _) rfl dX11_drop_66 rfl (cf_sh hG :).1 (Nat.le_of_ble_eq_true rfl) (Nat.le_of_ble_eq_true rfl) rfl (fun r9 σ9 hp9 => ?_)
    obtain ⟨rfl, hG⟩ := hp9
    refine ZV_iret dX11_drop_69 rfl ?_
    exact zlC (v := sOk (dropT T e2) (nI (g_pl T e2))) (by rw [sp_drop, if_neg (tne hE2), hc2, dl_su]; rfl) rfl ⟨_, L, hG, kI_e (T := dropT T e2) (kI_drop hI hK he2 ht2 hID hR1 hlo) ⟨rfl, rfl, rfl, rfl, rfl, rfl, rfl, rfl, rfl, rfl, rfl, rfl, rfl, rfl, rfl, rfl, rfl, rfl, rfl, rfl⟩⟩
