theorem U_rrw {c B : Nat} {σ : ZS} {T : TS} {K : KS} (h : cG c B σ T K) {s : Nat} (hr : s < 4) (hh : g_hr T s = true) {g : Nat → Int32} {f : Nat → Option Nat} (hf : ∀ j, j < g_rs T s → g j = oI (f j)) : cG c B (qw σ (k_wa K s + 1) g) (h_rr T (va_u2 (g_rr T) s f)) K := ⟨(cf_sh h :), (cf_B h :), (cf_bd h :), (cf_pk h :), (cf_vk h :), (cf_ek h :), (cf_tk h :), (cf_lk h :), (cf_rk h :), (cf_sk h :), (cf_pai h :), (cf_lai h :), (cf_wai h :), (cf_np h :), (cf_nb h :), (cf_ev h :), (cf_te h :), (cf_le h :), (cf_wm h :), (cf_fo h :), (cf_su h :), (cf_pa h :), (cf_pas h :), (cf_va h :), (cf_vn h :), (cf_vi h :), (cf_ve h :), (cf_vs h :), (cf_vw h :), (cf_vl h :), (cf_ro h :), (cf_be h :), (cf_ea h :), (cf_en h :), (cf_eo h :), (cf_ed h :), (cf_ep h :), (cf_ec h :), (cf_et h :), (cf_es h :), (cf_ei h :), (cf_el h :), (cf_eb h :), (cf_ez h :), (fun e i q0 q1 => Eq.trans (if_neg (fun z => absurd z (fun y => er_ne h q0 hr hh (Nat.succ.inj y)))) (cf_pi h e i q0 q1)), (cf_ta h :), (cf_tq h :), (cf_to h :), (cf_t1 h :), (cf_t2 h :), (cf_tn h :), (cf_tm h :), (cf_tu h :), (cf_la h :), (cf_lj h :), (cf_lf h :), (cf_lo h :), (fun i q0 => Eq.trans (if_neg (fun z => absurd z (by have := (cf_rk h s hr hh).2.2.1; omega))) (cf_wr h i q0)), (fun i q0 => Eq.trans (if_neg (fun z => absurd z (by have := (cf_rk h s hr hh).2.2.1; omega))) (cf_fi h i q0)), (fun i q0 => Eq.trans (if_neg (fun z => absurd z (by have := (cf_rk h s hr hh).2.2.1; omega))) (cf_fa h i q0)), (cf_ra h :), (cf_sa h :), (cf_rd h :), (cf_sd h :), (cf_rt h :), (cf_st h :), (fun u i hu hu2 hp => by
  show (if k_wa K u + 1 = k_wa K s + 1 then g i else zi σ (k_wa K u + 1) i) = oI (va_u2 (g_rr T) s f u i)
  by_cases q : u = s
  · subst q
    rw [u2_eq, if_pos rfl]
    exact hf i hp
  · rw [u2_ne q]
    exact Eq.trans (if_neg (fun z => q (ra_inj h hu hr hu2 hh (Nat.succ.inj z)))) (cf_rr h u i hu hu2 hp)), (fun r i q0 q1 q2 => Eq.trans (if_neg (fun z => absurd z (fun y => rs_ne h hr q0 hh q1 (Nat.succ.inj y).symm))) (cf_sr h r i q0 q1 q2))⟩
theorem U_srw {c B : Nat} {σ : ZS} {T : TS} {K : KS} (h : cG c B σ T K) {s : Nat} (hr : s < 4) (hh : g_hs T s = true) {g f : Nat → Int32} (hf : ∀ j, j < g_ss T s → g j = f j) : cG c B (qw σ (k_wa K (s + 4) + 1) g) (h_sr T (va_u2 (g_sr T) s f)) K := ⟨(cf_sh h :), (cf_B h :), (cf_bd h :), (cf_pk h :), (cf_vk h :), (cf_ek h :), (cf_tk h :), (cf_lk h :), (cf_rk h :), (cf_sk h :), (cf_pai h :), (cf_lai h :), (cf_wai h :), (cf_np h :), (cf_nb h :), (cf_ev h :), (cf_te h :), (cf_le h :), (cf_wm h :), (cf_fo h :), (cf_su h :), (cf_pa h :), (cf_pas h :), (cf_va h :), (cf_vn h :), (cf_vi h :), (cf_ve h :), (cf_vs h :), (cf_vw h :), (cf_vl h :), (cf_ro h :), (cf_be h :), (cf_ea h :), (cf_en h :), (cf_eo h :), (cf_ed h :), (cf_ep h :), (cf_ec h :), (cf_et h :), (cf_es h :), (cf_ei h :), (cf_el h :), (cf_eb h :), (cf_ez h :), (fun e i q0 q1 => Eq.trans (if_neg (fun z => absurd z (fun y => es_ne h q0 hr hh (Nat.succ.inj y)))) (cf_pi h e i q0 q1)), (cf_ta h :), (cf_tq h :), (cf_to h :), (cf_t1 h :), (cf_t2 h :), (cf_tn h :), (cf_tm h :), (cf_tu h :), (cf_la h :), (cf_lj h :), (cf_lf h :), (cf_lo h :), (fun i q0 => Eq.trans (if_neg (fun z => absurd z (by have := (cf_sk h s hr hh).2.2.1; omega))) (cf_wr h i q0)), (fun i q0 => Eq.trans (if_neg (fun z => absurd z (by have := (cf_sk h s hr hh).2.2.1; omega))) (cf_fi h i q0)), (fun i q0 => Eq.trans (if_neg (fun z => absurd z (by have := (cf_sk h s hr hh).2.2.1; omega))) (cf_fa h i q0)), (cf_ra h :), (cf_sa h :), (cf_rd h :), (cf_sd h :), (cf_rt h :), (cf_st h :), (fun r i q0 q1 q2 => Eq.trans (if_neg (fun z => absurd z (fun y => rs_ne h q0 hr q1 hh (Nat.succ.inj y)))) (cf_rr h r i q0 q1 q2)), (fun u i hu hu2 hp => by
  show (if k_wa K (u + 4) + 1 = k_wa K (s + 4) + 1 then g i else zi σ (k_wa K (u + 4) + 1) i) = va_u2 (g_sr T) s f u i
  by_cases q : u = s
  · subst q
    rw [u2_eq, if_pos rfl]
    exact hf i hp
  · rw [u2_ne q]
    exact Eq.trans (if_neg (fun z => q (sa_inj h hu hr hu2 hh (Nat.succ.inj z)))) (cf_sr h u i hu hu2 hp))⟩
set_option maxHeartbeats 4000000 in
set_option maxRecDepth 100000 in
theorem q_slide {c : Nat} {σ : ZS} {T : TS} (hR : cR c σ T) (hI : tI T) (r i j n : Int32) : ZC M_X11_slide [Ar (some c), Ai r, Ai i, Ai j, Ai n] σ (fun y0 τ0 => y0 = some (Ai (sp_slide T r i j n).1) ∧ cR c τ0 (sp_slide T r i j n).2) := by
  obtain ⟨B, K, hG, hK⟩ := hR
  have hbd := cf_bd hG
  refine ZC_of (ls := [some (Ar (some c)), some (Ai r), some (Ai i), some (Ai j), some (Ai n), none]) (by decide) (Nat.le_of_ble_eq_true rfl) rfl ?_
  refine ZV_iload_n (n := 1) dX11_slide_0 rfl rfl rfl ?_
  refine call_X11_359 (e_isRowNumber _ _) rfl dX11_slide_1 (Nat.le_of_ble_eq_true rfl) (Nat.le_of_ble_eq_true rfl) rfl (fun r9 σ9 hp9 => ?_)
  obtain ⟨rfl, hs9⟩ := hp9
  subst σ9
  refine ZV_if_neB (tgt := 14) (n := 7) dX11_slide_4 (by decide) rfl (fun h4 => ?_) (fun h4 => ?_)
  · skip
    obtain ⟨a, ha, ha2, rfl⟩ := inB_t h4
    have hca : (nI a).toNatClampNeg = a := nI_clamp ha2
    have hrk := ti_rk hI a ha
    have h4 : inB (nI a) 4 = true := h4
    refine ZV_aload_n (n := 15) dX11_slide_14 rfl rfl rfl ?_
    refine ZV_getRv (n := 18) dX11_slide_15 fl_X11_74 rfl rfl rfl (cf_sh hG :).1 (ca_racks (cf_sh hG :)) ?_
    refine ZV_iload_n (n := 19) dX11_slide_18 rfl rfl rfl ?_
    rcases hb19 : g_hr T a with _ | _
    · skip
      refine ZV_aaldv (c0 := 5) (w := none) (j := a) (n := 20) dX11_slide_19 rfl (by decide) rfl (ck_racks (cf_sh hG :)) rfl (by omega) (Eq.trans (cf_ra hG a (by omega)) (if_neg (by rw [hb19]; exact Bool.false_ne_true))) ?_
      refine ZV_astore_5 (n := 22) dX11_slide_20 rfl (Nat.le_of_ble_eq_true rfl) rfl ?_
      refine ZV_aload (n := 24) dX11_slide_22 rfl rfl ?_
      refine ZV_ifnonnull_n (tgt := 34) (n := 27) dX11_slide_24 (by decide) rfl ?_
      refine ZV_aload_n (n := 28) dX11_slide_27 rfl rfl rfl ?_
      refine ZV_bipush (v := -11) (n := 30) dX11_slide_28 rfl rfl ?_
      refine call_X11_180 (e_fail hG (-11) 0 (by decide) rfl) rfl dX11_slide_30 rfl (cf_sh hG :).1 (Nat.le_of_ble_eq_true rfl) (Nat.le_of_ble_eq_true rfl) rfl (fun r9 σ9 hp9 => ?_)
      obtain ⟨rfl, hG⟩ := hp9
      refine ZV_iret dX11_slide_33 rfl ?_
      exact zlC (v := sFl T 0 (-11) (-11)) (by simp [sp_slide, h4, hb19, hca, hb19]) rfl ⟨B, K, hG, kI_e hK ⟨rfl, rfl, rfl, rfl, rfl, rfl, rfl, rfl, rfl, rfl, rfl, rfl, rfl, rfl, rfl, rfl, rfl, rfl, rfl, rfl⟩⟩
    · skip
      refine ZV_aaldv (c0 := 5) (w := some (k_wa K a)) (j := a) (n := 20) dX11_slide_19 rfl (by decide) rfl (ck_racks (cf_sh hG :)) rfl (by omega) (Eq.trans (cf_ra hG a (by omega)) (if_pos hb19)) ?_
      refine ZV_astore_5 (n := 22) dX11_slide_20 rfl (Nat.le_of_ble_eq_true rfl) rfl ?_
      refine ZV_aload (n := 24) dX11_slide_22 rfl rfl ?_
      refine ZV_ifnonnull_s (tgt := 34) dX11_slide_24 (by decide) ?_
      refine ZV_aload (n := 36) dX11_slide_34 rfl rfl ?_
      refine ZV_iload_n (n := 37) dX11_slide_36 rfl rfl rfl ?_
      refine ZV_iload (n := 39) dX11_slide_37 rfl rfl ?_
      refine call_X11_375 (e_hasAllR hG ha hb19 (by omega) _ _) rfl dX11_slide_39 rfl (cf_rk hG a ha hb19).1 (Nat.le_of_ble_eq_true rfl) (Nat.le_of_ble_eq_true rfl) rfl (fun r9 σ9 hp9 => ?_)
      obtain ⟨rfl, hs9⟩ := hp9
      subst σ9
      refine ZV_if_eqB (tgt := 56) (n := 45) dX11_slide_42 (by decide) rfl (fun h42 => ?_) (fun h42 => ?_)
      · skip
        refine ZV_aload_n (n := 57) dX11_slide_56 rfl rfl rfl ?_
        refine ZV_bipush (v := -12) (n := 59) dX11_slide_57 rfl rfl ?_
        refine call_X11_180 (e_fail hG (-12) 1 (by decide) rfl) rfl dX11_slide_59 rfl (cf_sh hG :).1 (Nat.le_of_ble_eq_true rfl) (Nat.le_of_ble_eq_true rfl) rfl (fun r9 σ9 hp9 => ?_)
        obtain ⟨rfl, hG⟩ := hp9
        refine ZV_iret dX11_slide_62 rfl ?_
        exact zlC (v := sFl T 1 (-12) (-12)) (by simp [sp_slide, h4, hca, hb19, h42]) rfl ⟨B, K, hG, kI_e hK ⟨rfl, rfl, rfl, rfl, rfl, rfl, rfl, rfl, rfl, rfl, rfl, rfl, rfl, rfl, rfl, rfl, rfl, rfl, rfl, rfl⟩⟩
      · skip
        refine ZV_aload (n := 47) dX11_slide_45 rfl rfl ?_
        refine ZV_iload_n (n := 48) dX11_slide_47 rfl rfl rfl ?_
        refine ZV_iload (n := 50) dX11_slide_48 rfl rfl ?_
        refine call_X11_375 (e_hasAllR hG ha hb19 (by omega) _ _) rfl dX11_slide_50 rfl (cf_rk hG a ha hb19).1 (Nat.le_of_ble_eq_true rfl) (Nat.le_of_ble_eq_true rfl) rfl (fun r9 σ9 hp9 => ?_)
        obtain ⟨rfl, hs9⟩ := hp9
        subst σ9
        refine ZV_if_neB (tgt := 63) (n := 56) dX11_slide_53 (by decide) rfl (fun h53 => ?_) (fun h53 => ?_)
        · skip
          obtain ⟨i9, n9, hin, hi9, hn9, rfl, rfl⟩ := thB_t h42
          obtain ⟨j9, n8, hjn, hj9, hn8, rfl, e8⟩ := thB_t h53
          obtain rfl : n9 = n8 := (nI_eq hn9 hn8).mp e8
          have hci : (nI i9).toNatClampNeg = i9 := nI_clamp hi9
          have hcj : (nI j9).toNatClampNeg = j9 := nI_clamp hj9
          have hcn : (nI n9).toNatClampNeg = n9 := nI_clamp hn9
          have h42 : thB (nI i9) (nI n9) (g_rs T a) = true := h42
          have h53 : thB (nI j9) (nI n9) (g_rs T a) = true := h53
          refine ZV_aload (n := 65) dX11_slide_63 rfl rfl ?_
          refine ZV_getRv (n := 68) dX11_slide_65 fl_X11_372 rfl rfl rfl (cf_rk hG a ha hb19).1 (cf_rt hG a ha hb19) ?_
          refine ZV_iload_n (n := 69) dX11_slide_68 rfl rfl rfl ?_
          refine ZV_aload (n := 71) dX11_slide_69 rfl rfl ?_
          refine ZV_getRv (n := 74) dX11_slide_71 fl_X11_372 rfl rfl rfl (cf_rk hG a ha hb19).1 (cf_rt hG a ha hb19) ?_
          refine ZV_iload_n (n := 75) dX11_slide_74 rfl rfl rfl ?_
          refine ZV_iload (n := 77) dX11_slide_75 rfl rfl ?_
          refine ZV_copy (i := i9) (j := j9) (q := n9) (N0 := g_rs T a) (N := g_rs T a) (n := 80) dX11_slide_77 rfl wd_4_85 wd_4_87 wd_4_86 wd_1_17 rfl rfl (cf_rk hG a ha hb19).2.1 (cf_rk hG a ha hb19).2.1 (by omega) (by omega) (by omega) (Nat.le_of_ble_eq_true rfl) (Nat.le_of_ble_eq_true rfl) ?_
          have hcp : ∀ m, m < g_rs T a → cpF (zi σ (k_wa K a + 1)) (zi σ (k_wa K a + 1)) i9 j9 n9 m = oI (cpF (g_rr T a) (g_rr T a) i9 j9 n9 m) := by
            intro m hm
            unfold cpF
            split
            · exact cf_rr hG a _ ha hb19 (by omega)
            · exact cf_rr hG a m ha hb19 hm
          refine ZV_gen (P := fun τ => cG c B τ _ _) (U_rrw hG ha hb19 hcp) (fun σ hG => ?_)
          refine ZV_aload_n (n := 81) dX11_slide_80 rfl rfl rfl ?_
          refine ZV_iload (n := 83) dX11_slide_81 rfl rfl ?_
          refine call_X11_98 (e_done hG _) rfl dX11_slide_83 rfl (cf_sh hG :).1 (Nat.le_of_ble_eq_true rfl) (Nat.le_of_ble_eq_true rfl) rfl (fun r9 σ9 hp9 => ?_)
          obtain ⟨rfl, hG⟩ := hp9
          refine ZV_iret dX11_slide_86 rfl ?_
          exact zlC (v := sOk (h_rr T (va_u2 (g_rr T) a (cpF (g_rr T a) (g_rr T a) i9 j9 n9))) (nI n9)) (by simp [sp_slide, h4, hca, hb19, h42, h53, hci, hcj, hcn]) rfl ⟨B, K, hG, kI_e hK ⟨rfl, rfl, rfl, rfl, rfl, rfl, rfl, rfl, rfl, rfl, rfl, rfl, rfl, rfl, rfl, rfl, rfl, rfl, rfl, rfl⟩⟩
        · skip
          refine ZV_aload_n (n := 57) dX11_slide_56 rfl rfl rfl ?_
          refine ZV_bipush (v := -12) (n := 59) dX11_slide_57 rfl rfl ?_
          refine call_X11_180 (e_fail hG (-12) 1 (by decide) rfl) rfl dX11_slide_59 rfl (cf_sh hG :).1 (Nat.le_of_ble_eq_true rfl) (Nat.le_of_ble_eq_true rfl) rfl (fun r9 σ9 hp9 => ?_)
          obtain ⟨rfl, hG⟩ := hp9
          refine ZV_iret dX11_slide_62 rfl ?_
          exact zlC (v := sFl T 1 (-12) (-12)) (by simp [sp_slide, h4, hca, hb19, h53]) rfl ⟨B, K, hG, kI_e hK ⟨rfl, rfl, rfl, rfl, rfl, rfl, rfl, rfl, rfl, rfl, rfl, rfl, rfl, rfl, rfl, rfl, rfl, rfl, rfl, rfl⟩⟩
  · skip
    refine ZV_aload_n (n := 8) dX11_slide_7 rfl rfl rfl ?_
    refine ZV_bipush (v := -2) (n := 10) dX11_slide_8 rfl rfl ?_
    refine call_X11_87 (e_refuse hG _) rfl dX11_slide_10 rfl (cf_sh hG :).1 (Nat.le_of_ble_eq_true rfl) (Nat.le_of_ble_eq_true rfl) rfl (fun r9 σ9 hp9 => ?_)
    obtain ⟨rfl, hG⟩ := hp9
    refine ZV_iret dX11_slide_13 rfl ?_
    exact zlC (v := sNo T (-2)) (by simp [sp_slide, h4]) rfl ⟨B, K, hG, kI_e hK ⟨rfl, rfl, rfl, rfl, rfl, rfl, rfl, rfl, rfl, rfl, rfl, rfl, rfl, rfl, rfl, rfl, rfl, rfl, rfl, rfl⟩⟩
set_option maxHeartbeats 4000000 in
set_option maxRecDepth 100000 in
theorem q_copy {c : Nat} {σ : ZS} {T : TS} (hR : cR c σ T) (hI : tI T) (s i o j n : Int32) : ZC M_X11_copy [Ar (some c), Ai s, Ai i, Ai o, Ai j, Ai n] σ (fun y0 τ0 => y0 = some (Ai (sp_copy T s i o j n).1) ∧ cR c τ0 (sp_copy T s i o j n).2) := by
  obtain ⟨B, K, hG, hK⟩ := hR
  have hbd := cf_bd hG
  refine ZC_of (ls := [some (Ar (some c)), some (Ai s), some (Ai i), some (Ai o), some (Ai j), some (Ai n), none, none]) (by decide) (Nat.le_of_ble_eq_true rfl) rfl ?_
  refine ZV_iload_n (n := 1) dX11_copy_0 rfl rfl rfl ?_
  refine call_X11_359 (e_isRowNumber _ _) rfl dX11_copy_1 (Nat.le_of_ble_eq_true rfl) (Nat.le_of_ble_eq_true rfl) rfl (fun r9 σ9 hp9 => ?_)
  obtain ⟨rfl, hs9⟩ := hp9
  subst σ9
  refine ZV_if_eqB (tgt := 14) (n := 7) dX11_copy_4 (by decide) rfl (fun h4 => ?_) (fun h4 => ?_)
  · skip
    refine ZV_aload_n (n := 15) dX11_copy_14 rfl rfl rfl ?_
    refine ZV_bipush (v := -2) (n := 17) dX11_copy_15 rfl rfl ?_
    refine call_X11_87 (e_refuse hG _) rfl dX11_copy_17 rfl (cf_sh hG :).1 (Nat.le_of_ble_eq_true rfl) (Nat.le_of_ble_eq_true rfl) rfl (fun r9 σ9 hp9 => ?_)
    obtain ⟨rfl, hG⟩ := hp9
    refine ZV_iret dX11_copy_20 rfl ?_
    exact zlC (v := sNo T (-2)) (by simp [sp_copy, h4]) rfl ⟨B, K, hG, kI_e hK ⟨rfl, rfl, rfl, rfl, rfl, rfl, rfl, rfl, rfl, rfl, rfl, rfl, rfl, rfl, rfl, rfl, rfl, rfl, rfl, rfl⟩⟩
  · skip
    refine ZV_iload_n (n := 8) dX11_copy_7 rfl rfl rfl ?_
    refine call_X11_359 (e_isRowNumber _ _) rfl dX11_copy_8 (Nat.le_of_ble_eq_true rfl) (Nat.le_of_ble_eq_true rfl) rfl (fun r9 σ9 hp9 => ?_)
    obtain ⟨rfl, hs9⟩ := hp9
    subst σ9
    refine ZV_if_neB (tgt := 21) (n := 14) dX11_copy_11 (by decide) rfl (fun h11 => ?_) (fun h11 => ?_)
    · skip
      obtain ⟨a, ha, ha2, rfl⟩ := inB_t h4
      have hca : (nI a).toNatClampNeg = a := nI_clamp ha2
      have hsk := ti_sk hI a ha
      have h4 : inB (nI a) 4 = true := h4
      obtain ⟨b, hb, hb2, rfl⟩ := inB_t h11
      have hcb : (nI b).toNatClampNeg = b := nI_clamp hb2
      have hsk2 := ti_sk hI b hb
      have h11 : inB (nI b) 4 = true := h11
      refine ZV_aload_n (n := 22) dX11_copy_21 rfl rfl rfl ?_
      refine ZV_getRv (n := 25) dX11_copy_22 fl_X11_78 rfl rfl rfl (cf_sh hG :).1 (ca_shelves (cf_sh hG :)) ?_
      refine ZV_iload_n (n := 26) dX11_copy_25 rfl rfl rfl ?_
      rcases hb26 : g_hs T a with _ | _
      · skip
        refine ZV_aaldv (c0 := 5) (w := none) (j := a) (n := 27) dX11_copy_26 rfl (by decide) rfl (ck_shelves (cf_sh hG :)) rfl (by omega) (Eq.trans (cf_sa hG a (by omega)) (if_neg (by rw [hb26]; exact Bool.false_ne_true))) ?_
        refine ZV_astore_6 (n := 29) dX11_copy_27 rfl (Nat.le_of_ble_eq_true rfl) rfl ?_
        refine ZV_aload_n (n := 30) dX11_copy_29 rfl rfl rfl ?_
        refine ZV_getRv (n := 33) dX11_copy_30 fl_X11_78 rfl rfl rfl (cf_sh hG :).1 (ca_shelves (cf_sh hG :)) ?_
        refine ZV_iload_n (n := 34) dX11_copy_33 rfl rfl rfl ?_
        rcases hb34 : g_hs T b with _ | _
        · skip
          refine ZV_aaldv (c0 := 5) (w := none) (j := b) (n := 35) dX11_copy_34 rfl (by decide) rfl (ck_shelves (cf_sh hG :)) rfl (by omega) (Eq.trans (cf_sa hG b (by omega)) (if_neg (by rw [hb34]; exact Bool.false_ne_true))) ?_
          refine ZV_astore_7 (n := 37) dX11_copy_35 rfl (Nat.le_of_ble_eq_true rfl) rfl ?_
          refine ZV_aload (n := 39) dX11_copy_37 rfl rfl ?_
          refine ZV_ifnull_n (tgt := 47) dX11_copy_39 (by decide) ?_
          refine ZV_aload_n (n := 48) dX11_copy_47 rfl rfl rfl ?_
          refine ZV_bipush (v := -11) (n := 50) dX11_copy_48 rfl rfl ?_
          refine call_X11_180 (e_fail hG (-11) 0 (by decide) rfl) rfl dX11_copy_50 rfl (cf_sh hG :).1 (Nat.le_of_ble_eq_true rfl) (Nat.le_of_ble_eq_true rfl) rfl (fun r9 σ9 hp9 => ?_)
          obtain ⟨rfl, hG⟩ := hp9
          refine ZV_iret dX11_copy_53 rfl ?_
          exact zlC (v := sFl T 0 (-11) (-11)) (by simp [sp_copy, h4, h11, hca, hcb, hb26, hb34]) rfl ⟨B, K, hG, kI_e hK ⟨rfl, rfl, rfl, rfl, rfl, rfl, rfl, rfl, rfl, rfl, rfl, rfl, rfl, rfl, rfl, rfl, rfl, rfl, rfl, rfl⟩⟩
        · skip
          refine ZV_aaldv (c0 := 5) (w := some (k_wa K (b + 4))) (j := b) (n := 35) dX11_copy_34 rfl (by decide) rfl (ck_shelves (cf_sh hG :)) rfl (by omega) (Eq.trans (cf_sa hG b (by omega)) (if_pos hb34)) ?_
          refine ZV_astore_7 (n := 37) dX11_copy_35 rfl (Nat.le_of_ble_eq_true rfl) rfl ?_
          refine ZV_aload (n := 39) dX11_copy_37 rfl rfl ?_
          refine ZV_ifnull_n (tgt := 47) dX11_copy_39 (by decide) ?_
          refine ZV_aload_n (n := 48) dX11_copy_47 rfl rfl rfl ?_
          refine ZV_bipush (v := -11) (n := 50) dX11_copy_48 rfl rfl ?_
          refine call_X11_180 (e_fail hG (-11) 0 (by decide) rfl) rfl dX11_copy_50 rfl (cf_sh hG :).1 (Nat.le_of_ble_eq_true rfl) (Nat.le_of_ble_eq_true rfl) rfl (fun r9 σ9 hp9 => ?_)
          obtain ⟨rfl, hG⟩ := hp9
          refine ZV_iret dX11_copy_53 rfl ?_
          exact zlC (v := sFl T 0 (-11) (-11)) (by simp [sp_copy, h4, h11, hca, hcb, hb26, hb34]) rfl ⟨B, K, hG, kI_e hK ⟨rfl, rfl, rfl, rfl, rfl, rfl, rfl, rfl, rfl, rfl, rfl, rfl, rfl, rfl, rfl, rfl, rfl, rfl, rfl, rfl⟩⟩
      · skip
        refine ZV_aaldv (c0 := 5) (w := some (k_wa K (a + 4))) (j := a) (n := 27) dX11_copy_26 rfl (by decide) rfl (ck_shelves (cf_sh hG :)) rfl (by omega) (Eq.trans (cf_sa hG a (by omega)) (if_pos hb26)) ?_
        refine ZV_astore_6 (n := 29) dX11_copy_27 rfl (Nat.le_of_ble_eq_true rfl) rfl ?_
        refine ZV_aload_n (n := 30) dX11_copy_29 rfl rfl rfl ?_
        refine ZV_getRv (n := 33) dX11_copy_30 fl_X11_78 rfl rfl rfl (cf_sh hG :).1 (ca_shelves (cf_sh hG :)) ?_
        refine ZV_iload_n (n := 34) dX11_copy_33 rfl rfl rfl ?_
        rcases hb34 : g_hs T b with _ | _
        · skip
          refine ZV_aaldv (c0 := 5) (w := none) (j := b) (n := 35) dX11_copy_34 rfl (by decide) rfl (ck_shelves (cf_sh hG :)) rfl (by omega) (Eq.trans (cf_sa hG b (by omega)) (if_neg (by rw [hb34]; exact Bool.false_ne_true))) ?_
          refine ZV_astore_7 (n := 37) dX11_copy_35 rfl (Nat.le_of_ble_eq_true rfl) rfl ?_
          refine ZV_aload (n := 39) dX11_copy_37 rfl rfl ?_
          refine ZV_ifnull_s (tgt := 47) (n := 42) dX11_copy_39 (by decide) rfl ?_
          refine ZV_aload (n := 44) dX11_copy_42 rfl rfl ?_
          refine ZV_ifnonnull_n (tgt := 54) (n := 47) dX11_copy_44 (by decide) rfl ?_
          refine ZV_aload_n (n := 48) dX11_copy_47 rfl rfl rfl ?_
          refine ZV_bipush (v := -11) (n := 50) dX11_copy_48 rfl rfl ?_
          refine call_X11_180 (e_fail hG (-11) 0 (by decide) rfl) rfl dX11_copy_50 rfl (cf_sh hG :).1 (Nat.le_of_ble_eq_true rfl) (Nat.le_of_ble_eq_true rfl) rfl (fun r9 σ9 hp9 => ?_)
          obtain ⟨rfl, hG⟩ := hp9
          refine ZV_iret dX11_copy_53 rfl ?_
          exact zlC (v := sFl T 0 (-11) (-11)) (by simp [sp_copy, h4, h11, hca, hcb, hb26, hb34]) rfl ⟨B, K, hG, kI_e hK ⟨rfl, rfl, rfl, rfl, rfl, rfl, rfl, rfl, rfl, rfl, rfl, rfl, rfl, rfl, rfl, rfl, rfl, rfl, rfl, rfl⟩⟩
        · skip
          refine ZV_aaldv (c0 := 5) (w := some (k_wa K (b + 4))) (j := b) (n := 35) dX11_copy_34 rfl (by decide) rfl (ck_shelves (cf_sh hG :)) rfl (by omega) (Eq.trans (cf_sa hG b (by omega)) (if_pos hb34)) ?_
          refine ZV_astore_7 (n := 37) dX11_copy_35 rfl (Nat.le_of_ble_eq_true rfl) rfl ?_
          refine ZV_aload (n := 39) dX11_copy_37 rfl rfl ?_
          refine ZV_ifnull_s (tgt := 47) (n := 42) dX11_copy_39 (by decide) rfl ?_
          refine ZV_aload (n := 44) dX11_copy_42 rfl rfl ?_
          refine ZV_ifnonnull_s (tgt := 54) dX11_copy_44 (by decide) ?_
          refine ZV_aload (n := 56) dX11_copy_54 rfl rfl ?_
          refine ZV_getIv (n := 59) dX11_copy_56 fl_X11_367 rfl rfl rfl (cf_sk hG a ha hb26).1 (cf_sd hG a ha hb26) ?_
          refine ZV_aload (n := 61) dX11_copy_59 rfl rfl ?_
          refine ZV_getIv (n := 64) dX11_copy_61 fl_X11_367 rfl rfl rfl (cf_sk hG b hb hb34).1 (cf_sd hG b hb hb34) ?_
          refine ZV_icmp_eqN (tgt := 74) (n := 67) dX11_copy_64 (by decide) rfl (by omega) (by omega) (fun h64 => ?_) (fun h64 => ?_)
          · skip
            refine ZV_aload (n := 76) dX11_copy_74 rfl rfl ?_
            refine ZV_iload_n (n := 77) dX11_copy_76 rfl rfl rfl ?_
            refine ZV_iload (n := 79) dX11_copy_77 rfl rfl ?_
            refine call_X11_375 (e_hasAllS hG ha hb26 (by omega) _ _) rfl dX11_copy_79 rfl (cf_sk hG a ha hb26).1 (Nat.le_of_ble_eq_true rfl) (Nat.le_of_ble_eq_true rfl) rfl (fun r9 σ9 hp9 => ?_)
            obtain ⟨rfl, hs9⟩ := hp9
            subst σ9
            refine ZV_if_eqB (tgt := 97) (n := 85) dX11_copy_82 (by decide) rfl (fun h82 => ?_) (fun h82 => ?_)
            · skip
              refine ZV_aload_n (n := 98) dX11_copy_97 rfl rfl rfl ?_
              refine ZV_bipush (v := -12) (n := 100) dX11_copy_98 rfl rfl ?_
              refine call_X11_180 (e_fail hG (-12) 1 (by decide) rfl) rfl dX11_copy_100 rfl (cf_sh hG :).1 (Nat.le_of_ble_eq_true rfl) (Nat.le_of_ble_eq_true rfl) rfl (fun r9 σ9 hp9 => ?_)
              obtain ⟨rfl, hG⟩ := hp9
              refine ZV_iret dX11_copy_103 rfl ?_
              exact zlC (v := sFl T 1 (-12) (-12)) (by simp [sp_copy, h4, h11, hca, hcb, hb26, hb34, h64, h82]) rfl ⟨B, K, hG, kI_e hK ⟨rfl, rfl, rfl, rfl, rfl, rfl, rfl, rfl, rfl, rfl, rfl, rfl, rfl, rfl, rfl, rfl, rfl, rfl, rfl, rfl⟩⟩
            · skip
              refine ZV_aload (n := 87) dX11_copy_85 rfl rfl ?_
              refine ZV_iload (n := 89) dX11_copy_87 rfl rfl ?_
              refine ZV_iload (n := 91) dX11_copy_89 rfl rfl ?_
              refine call_X11_375 (e_hasAllS hG hb hb34 (by omega) _ _) rfl dX11_copy_91 rfl (cf_sk hG b hb hb34).1 (Nat.le_of_ble_eq_true rfl) (Nat.le_of_ble_eq_true rfl) rfl (fun r9 σ9 hp9 => ?_)
              obtain ⟨rfl, hs9⟩ := hp9
              subst σ9
              refine ZV_if_neB (tgt := 104) (n := 97) dX11_copy_94 (by decide) rfl (fun h94 => ?_) (fun h94 => ?_)
              · skip
                obtain ⟨i9, n9, hin, hi9, hn9, rfl, rfl⟩ := thB_t h82
                obtain ⟨j9, n8, hjn, hj9, hn8, rfl, e8⟩ := thB_t h94
                obtain rfl : n9 = n8 := (nI_eq hn9 hn8).mp e8
                have hci : (nI i9).toNatClampNeg = i9 := nI_clamp hi9
                have hcj : (nI j9).toNatClampNeg = j9 := nI_clamp hj9
                have hcn : (nI n9).toNatClampNeg = n9 := nI_clamp hn9
                have h82 : thB (nI i9) (nI n9) (g_ss T a) = true := h82
                have h94 : thB (nI j9) (nI n9) (g_ss T b) = true := h94
                refine ZV_aload (n := 106) dX11_copy_104 rfl rfl ?_
                refine ZV_getRv (n := 109) dX11_copy_106 fl_X11_372 rfl rfl rfl (cf_sk hG a ha hb26).1 (cf_st hG a ha hb26) ?_
                refine ZV_iload_n (n := 110) dX11_copy_109 rfl rfl rfl ?_
                refine ZV_aload (n := 112) dX11_copy_110 rfl rfl ?_
                refine ZV_getRv (n := 115) dX11_copy_112 fl_X11_372 rfl rfl rfl (cf_sk hG b hb hb34).1 (cf_st hG b hb hb34) ?_
                refine ZV_iload (n := 117) dX11_copy_115 rfl rfl ?_
                refine ZV_iload (n := 119) dX11_copy_117 rfl rfl ?_
                refine ZV_copy (i := i9) (j := j9) (q := n9) (N0 := g_ss T a) (N := g_ss T b) (n := 122) dX11_copy_119 rfl wd_4_85 wd_4_87 wd_4_86 wd_1_17 rfl rfl (cf_sk hG a ha hb26).2.1 (cf_sk hG b hb hb34).2.1 (by omega) (by omega) (by omega) (Nat.le_of_ble_eq_true rfl) (Nat.le_of_ble_eq_true rfl) ?_
                have hcp : ∀ m, m < g_ss T b → cpF (zi σ (k_wa K (b + 4) + 1)) (zi σ (k_wa K (a + 4) + 1)) i9 j9 n9 m = cpF (g_sr T b) (g_sr T a) i9 j9 n9 m := by
                  intro m hm
                  unfold cpF
                  split
                  · exact cf_sr hG a _ ha hb26 (by omega)
                  · exact cf_sr hG b m hb hb34 hm
                refine ZV_gen (P := fun τ => cG c B τ _ _) (U_srw hG hb hb34 hcp) (fun σ hG => ?_)
                refine ZV_aload_n (n := 123) dX11_copy_122 rfl rfl rfl ?_
                refine ZV_iload (n := 125) dX11_copy_123 rfl rfl ?_
                refine call_X11_98 (e_done hG _) rfl dX11_copy_125 rfl (cf_sh hG :).1 (Nat.le_of_ble_eq_true rfl) (Nat.le_of_ble_eq_true rfl) rfl (fun r9 σ9 hp9 => ?_)
                obtain ⟨rfl, hG⟩ := hp9
                refine ZV_iret dX11_copy_128 rfl ?_
                exact zlC (v := sOk (h_sr T (va_u2 (g_sr T) b (cpF (g_sr T b) (g_sr T a) i9 j9 n9))) (nI n9)) (by simp [sp_copy, h4, h11, hca, hcb, hb26, hb34, h64, h82, h94, hci, hcj, hcn]) rfl ⟨B, K, hG, kI_e hK ⟨rfl, rfl, rfl, rfl, rfl, rfl, rfl, rfl, rfl, rfl, rfl, rfl, rfl, rfl, rfl, rfl, rfl, rfl, rfl, rfl⟩⟩
              · skip
                refine ZV_aload_n (n := 98) dX11_copy_97 rfl rfl rfl ?_
                refine ZV_bipush (v := -12) (n := 100) dX11_copy_98 rfl rfl ?_
                refine call_X11_180 (e_fail hG (-12) 1 (by decide) rfl) rfl dX11_copy_100 rfl (cf_sh hG :).1 (Nat.le_of_ble_eq_true rfl) (Nat.le_of_ble_eq_true rfl) rfl (fun r9 σ9 hp9 => ?_)
                obtain ⟨rfl, hG⟩ := hp9
                refine ZV_iret dX11_copy_103 rfl ?_
                exact zlC (v := sFl T 1 (-12) (-12)) (by simp [sp_copy, h4, h11, hca, hcb, hb26, hb34, h64, h94]) rfl ⟨B, K, hG, kI_e hK ⟨rfl, rfl, rfl, rfl, rfl, rfl, rfl, rfl, rfl, rfl, rfl, rfl, rfl, rfl, rfl, rfl, rfl, rfl, rfl, rfl⟩⟩
          · skip
            refine ZV_aload_n (n := 68) dX11_copy_67 rfl rfl rfl ?_
            refine ZV_bipush (v := -13) (n := 70) dX11_copy_68 rfl rfl ?_
            refine call_X11_180 (e_fail hG (-13) 2 (by decide) rfl) rfl dX11_copy_70 rfl (cf_sh hG :).1 (Nat.le_of_ble_eq_true rfl) (Nat.le_of_ble_eq_true rfl) rfl (fun r9 σ9 hp9 => ?_)
            obtain ⟨rfl, hG⟩ := hp9
            refine ZV_iret dX11_copy_73 rfl ?_
            exact zlC (v := sFl T 2 (-13) (-13)) (by simp [sp_copy, h4, h11, hca, hcb, hb26, hb34, h64]) rfl ⟨B, K, hG, kI_e hK ⟨rfl, rfl, rfl, rfl, rfl, rfl, rfl, rfl, rfl, rfl, rfl, rfl, rfl, rfl, rfl, rfl, rfl, rfl, rfl, rfl⟩⟩
    · skip
      refine ZV_aload_n (n := 15) dX11_copy_14 rfl rfl rfl ?_
      refine ZV_bipush (v := -2) (n := 17) dX11_copy_15 rfl rfl ?_
      refine call_X11_87 (e_refuse hG _) rfl dX11_copy_17 rfl (cf_sh hG :).1 (Nat.le_of_ble_eq_true rfl) (Nat.le_of_ble_eq_true rfl) rfl (fun r9 σ9 hp9 => ?_)
      obtain ⟨rfl, hG⟩ := hp9
      refine ZV_iret dX11_copy_20 rfl ?_
      exact zlC (v := sNo T (-2)) (by simp [sp_copy, h11]) rfl ⟨B, K, hG, kI_e hK ⟨rfl, rfl, rfl, rfl, rfl, rfl, rfl, rfl, rfl, rfl, rfl, rfl, rfl, rfl, rfl, rfl, rfl, rfl, rfl, rfl⟩⟩
theorem trS_su (w : Int32) (v : Nat) : ∀ k p n T, trS w v k p n (h_su T 0) = ((trS w v k p n T).1, h_su (trS w v k p n T).2.1 0, (trS w v k p n T).2.2)
  | 0, _, _, _ => rfl
  | k + 1, p, n, T => by
    rw [trS, trS]
    show (if noB T (g_ro T v p) = true then (if mayB T (g_ro T v p) w.toInt = true then trS w v k (p + 1) (n + 1) (h_su (shT T (g_ro T v p) w) 0) else (n, h_su T 0, false)) else trS w v k (p + 1) n (h_su T 0)) = _
    split
    · split
      · exact trS_su w v k (p + 1) (n + 1) _
      · rfl
    · exact trS_su w v k (p + 1) n T
theorem trR_su (w : Int32) (v k p n : Nat) (T : TS) : trR 1 (-12) (trS w v k p n (h_su T 0)) = trR 1 (-12) (trS w v k p n T) := by
  rw [trS_su]
  unfold trR
  split <;> rfl
theorem w64b (w : Int32) : -8589934592 ≤ w.toInt64.toInt ∧ w.toInt64.toInt ≤ 8589934592 := by
  rw [Int32.toInt_toInt64]
  have := w.toInt_lt
  have := w.le_toInt
  omega
set_option maxHeartbeats 4000000 in
set_option maxRecDepth 100000 in
theorem q_transpose {c : Nat} {σ : ZS} {T : TS} (hR : cR c σ T) (hI : tI T) (v w : Int32) : ZC M_X11_transpose [Ar (some c), Ai v, Ai w] σ (fun y0 τ0 => y0 = some (Ai (sp_transpose T v w).1) ∧ cR c τ0 (sp_transpose T v w).2) := by
  obtain ⟨B, K, hG, hK⟩ := hR
  have hbd := cf_bd hG
  refine ZC_of (ls := [some (Ar (some c)), some (Ai v), some (Ai w), none, none, none, none]) (by decide) (Nat.le_of_ble_eq_true rfl) rfl ?_
  refine ZV_aload_n (n := 1) dX11_transpose_0 rfl rfl rfl ?_
  refine ZV_iload_n (n := 2) dX11_transpose_1 rfl rfl rfl ?_
  refine call_X11_112 (e_voiceOf hG _) rfl dX11_transpose_2 rfl (cf_sh hG :).1 (Nat.le_of_ble_eq_true rfl) (Nat.le_of_ble_eq_true rfl) rfl (fun r9 σ9 hp9 => ?_)
  obtain ⟨hs9, hp9⟩ := hp9
  subst σ9
  rcases hp9 with ⟨hv2, hr9⟩ | ⟨v2, he2, hn2, hr9⟩
  · skip
    subst hr9
    refine ZV_astore_3 (n := 6) dX11_transpose_5 rfl (Nat.le_of_ble_eq_true rfl) rfl ?_
    refine ZV_aload_n (n := 7) dX11_transpose_6 rfl rfl rfl ?_
    refine ZV_ifnonnull_n (tgt := 17) (n := 10) dX11_transpose_7 (by decide) rfl ?_
    refine ZV_aload_n (n := 11) dX11_transpose_10 rfl rfl rfl ?_
    refine ZV_bipush (v := -2) (n := 13) dX11_transpose_11 rfl rfl ?_
    refine call_X11_87 (e_refuse hG _) rfl dX11_transpose_13 rfl (cf_sh hG :).1 (Nat.le_of_ble_eq_true rfl) (Nat.le_of_ble_eq_true rfl) rfl (fun r9 σ9 hp9 => ?_)
    obtain ⟨rfl, hG⟩ := hp9
    refine ZV_iret dX11_transpose_16 rfl ?_
    exact zlC (v := sNo T (-2)) (by simp [sp_transpose, hv2]) rfl ⟨B, K, hG, kI_e hK ⟨rfl, rfl, rfl, rfl, rfl, rfl, rfl, rfl, rfl, rfl, rfl, rfl, rfl, rfl, rfl, rfl, rfl, rfl, rfl, rfl⟩⟩
  · skip
    subst hr9
    subst hn2
    have hE2 : inB (nI v2) (3 * g_np T) = true := by rw [inB_nI (by omega)]; exact decide_eq_true he2
    have hmn2 := ti_mn hI v2
    have hc2 : (nI v2).toNatClampNeg = v2 := nI_clamp (by omega)
    refine ZV_astore_3 (n := 6) dX11_transpose_5 rfl (Nat.le_of_ble_eq_true rfl) rfl ?_
    refine ZV_aload_n (n := 7) dX11_transpose_6 rfl rfl rfl ?_
    refine ZV_ifnonnull_s (tgt := 17) dX11_transpose_7 (by decide) ?_
    refine ZV_iconst (v := nI 0) (n := 18) dX11_transpose_17 rfl rfl ?_
    refine ZV_istore_4 (n := 20) dX11_transpose_18 rfl (Nat.le_of_ble_eq_true rfl) rfl ?_
    refine ZV_iconst (v := nI 0) (n := 21) dX11_transpose_20 rfl rfl ?_
    refine ZV_istore_5 (n := 23) dX11_transpose_21 rfl (Nat.le_of_ble_eq_true rfl) rfl ?_
    have hsp : sp_transpose T (nI v2) w = trR 1 (-12) (trS w v2 (g_mn T v2) 0 0 T) := by rw [sp_transpose, if_neg (tne hE2), hc2, trR_su]
    rw [hsp]
    generalize hX : trR 1 (-12) (trS w v2 (g_mn T v2) 0 0 T) = X
    have loop : ∀ (n9 : Nat) (p m : Nat) (T : TS) (τ : ZS), g_mn T v2 - p < n9 → p ≤ g_mn T v2 → cG c B τ T K → tI T → kI T K → trR 1 (-12) (trS w v2 (g_mn T v2 - p) p m T) = X → m ≤ p → v2 < 3 * g_np T → ZV M_X11_transpose (fun y0 τ0 => y0 = some (Ai X.1) ∧ cR c τ0 X.2) 23 [some (Ar (some c)), some (Ai (nI v2)), some (Ai w), some (Ar (some (k_va K v2))), some (Ai (nI m)), some (Ai (nI p)), none] [] τ (zmC M_X11_transpose) (zmS M_X11_transpose) := by
      intro n9
      induction n9 with
      | zero => intro p m T τ hme; exact absurd hme (Nat.not_lt_zero _)
      | succ n9 ih =>
        intro p m T τ hme hp hG hI hK hX hmp he2
        have hmn2 := ti_mn hI v2
        have hnp9 := ti_np hI
        have hbd := cf_bd hG
        refine ZV_iload (n := 25) dX11_transpose_23 rfl rfl ?_
        refine ZV_aload_n (n := 26) dX11_transpose_25 rfl rfl rfl ?_
        refine ZV_getIv (n := 29) dX11_transpose_26 fl_X11_116 rfl rfl rfl (cf_vk hG v2 he2).1 (cf_vs hG v2 he2) ?_
        refine ZV_icmp_geN (tgt := 77) (n := 32) dX11_transpose_29 (by decide) rfl (by omega) (by omega) (fun h29 => ?_) (fun h29 => ?_)
        · skip
          refine ZV_aload_n (n := 78) dX11_transpose_77 rfl rfl rfl ?_
          refine ZV_iload (n := 80) dX11_transpose_78 rfl rfl ?_
          refine call_X11_98 (e_done hG _) rfl dX11_transpose_80 rfl (cf_sh hG :).1 (Nat.le_of_ble_eq_true rfl) (Nat.le_of_ble_eq_true rfl) rfl (fun r9 σ9 hp9 => ?_)
          obtain ⟨rfl, hG⟩ := hp9
          refine ZV_iret dX11_transpose_83 rfl ?_
          rw [show g_mn T v2 - p = 0 by omega] at hX
          exact zlC (v := sOk T (nI m)) hX.symm rfl ⟨B, K, hG, kI_e hK ⟨rfl, rfl, rfl, rfl, rfl, rfl, rfl, rfl, rfl, rfl, rfl, rfl, rfl, rfl, rfl, rfl, rfl, rfl, rfl, rfl⟩⟩
        · skip
          have hr := ti_ro hI v2 p (by omega) (by omega)
          refine ZV_aload_n (n := 33) dX11_transpose_32 rfl rfl rfl ?_
          refine ZV_getRv (n := 36) dX11_transpose_33 fl_X11_224 rfl rfl rfl (cf_vk hG v2 he2).1 (cf_ve hG v2 he2) ?_
          refine ZV_iload (n := 38) dX11_transpose_36 rfl rfl ?_
          refine ZV_aaldv (c0 := 2) (j := p) (n := 39) dX11_transpose_38 rfl (by decide) rfl (cf_vk hG v2 he2).2.1 rfl (by omega) (cf_ro hG v2 p he2 (by omega)) ?_
          refine ZV_astore_6 (n := 41) dX11_transpose_39 rfl (Nat.le_of_ble_eq_true rfl) rfl ?_
          refine ZV_aload (n := 43) dX11_transpose_41 rfl rfl ?_
          refine call_X11_193 (e_isNote hG hr.1 (ti_kd hI _ hr.1)) rfl dX11_transpose_43 rfl (cf_ek hG (g_ro T v2 p) hr.1).1 (Nat.le_of_ble_eq_true rfl) (Nat.le_of_ble_eq_true rfl) rfl (fun r9 σ9 hp9 => ?_)
          obtain ⟨rfl, hs9⟩ := hp9
          subst σ9
          refine ZV_if_eqB (tgt := 71) (n := 49) dX11_transpose_46 (by decide) rfl (fun h46 => ?_) (fun h46 => ?_)
          · skip
            refine ZV_iincN_5 (v := 1) (n := 74) dX11_transpose_71 rfl rfl (Nat.le_of_ble_eq_true rfl) rfl ?_
            refine ZV_goto (tgt := 23) dX11_transpose_74 (by decide) ?_
            refine ZV_fg_6 ?_
            exact ih (p + 1) m T τ (by omega) (by omega) hG hI hK (by rw [← hX, show g_mn T v2 - p = (g_mn T v2 - (p + 1)) + 1 by omega, trS, if_neg (by rw [h46]; exact Bool.false_ne_true)]) (by omega) he2
          · skip
            refine ZV_aload (n := 51) dX11_transpose_49 rfl rfl ?_
            refine ZV_iload_n (n := 52) dX11_transpose_51 rfl rfl rfl ?_
            refine ZV_i2l (n := 53) dX11_transpose_52 rfl ?_
            refine call_X11_221 (e_moveBy hG hI hr.1 (of_decide_eq_true h46) w.toInt64 (w64b w)) rfl dX11_transpose_53 rfl (cf_ek hG _ hr.1).1 (Nat.le_of_ble_eq_true rfl) (Nat.le_of_ble_eq_true rfl) rfl (fun r9 σ9 hp9 => ?_)
            rcases hp9 with ⟨hm53, hr9, hs9⟩ | ⟨hm53, hr9, hG⟩
            · skip
              subst hr9
              subst σ9
              rw [Int32.toInt_toInt64] at hm53
              refine ZV_if_neB (tgt := 68) (n := 59) dX11_transpose_56 (by decide) rfl (fun h56 => ?_) (fun h56 => ?_)
              · skip
                cases h56
              · skip
                refine ZV_aload_n (n := 60) dX11_transpose_59 rfl rfl rfl ?_
                refine ZV_bipush (v := -12) (n := 62) dX11_transpose_60 rfl rfl ?_
                refine ZV_iload (n := 64) dX11_transpose_62 rfl rfl ?_
                refine call_X11_207 (e_failTelling hG (-12) _ 1 (by decide) rfl) rfl dX11_transpose_64 rfl (cf_sh hG :).1 (Nat.le_of_ble_eq_true rfl) (Nat.le_of_ble_eq_true rfl) rfl (fun r9 σ9 hp9 => ?_)
                obtain ⟨rfl, hG⟩ := hp9
                refine ZV_iret dX11_transpose_67 rfl ?_
                rw [show g_mn T v2 - p = (g_mn T v2 - (p + 1)) + 1 by omega, trS, if_pos h46, if_neg (by rw [hm53]; exact Bool.false_ne_true)] at hX
                exact zlC (v := sFl T 1 (-12) (nI m)) hX.symm rfl ⟨B, K, hG, kI_e hK ⟨rfl, rfl, rfl, rfl, rfl, rfl, rfl, rfl, rfl, rfl, rfl, rfl, rfl, rfl, rfl, rfl, rfl, rfl, rfl, rfl⟩⟩
            · skip
              subst hr9
              rw [Int32.toInt_toInt64] at hm53
              rw [Int32.toInt32_toInt64] at hG
              refine ZV_if_neB (tgt := 68) (n := 59) dX11_transpose_56 (by decide) rfl (fun h56 => ?_) (fun h56 => ?_)
              · skip
                refine ZV_iincN_4 (v := 1) (n := 71) dX11_transpose_68 rfl rfl (Nat.le_of_ble_eq_true rfl) rfl ?_
                refine ZV_iincN_5 (v := 1) (n := 74) dX11_transpose_71 rfl rfl (Nat.le_of_ble_eq_true rfl) rfl ?_
                refine ZV_goto (tgt := 23) dX11_transpose_74 (by decide) ?_
                refine ZV_fg_6 ?_
                exact ih (p + 1) (m + 1) (shT T (g_ro T v2 p) w) σ9 (by show g_mn T v2 - (p + 1) < n9; omega) (by show p + 1 ≤ g_mn T v2; omega) hG (tI_shT hI hr.1 (of_decide_eq_true h46) hm53) (kI_e hK ⟨rfl, rfl, rfl, rfl, rfl, rfl, rfl, rfl, rfl, rfl, rfl, rfl, rfl, rfl, rfl, rfl, rfl, rfl, rfl, rfl⟩) (by rw [← hX, show g_mn T v2 - p = (g_mn T v2 - (p + 1)) + 1 by omega, trS, if_pos h46, if_pos hm53]; rfl) (by omega) he2
              · skip
                cases h56
    exact loop _ 0 0 T σ (Nat.lt_succ_self _) (Nat.zero_le _) hG hI hK hX (Nat.le_refl _) he2
theorem plS_su (s v : Nat) : ∀ k p n T, plS s v k p n (h_su T 0) = ((plS s v k p n T).1, h_su (plS s v k p n T).2.1 0, (plS s v k p n T).2.2)
  | 0, _, _, _ => rfl
  | k + 1, p, n, T => by
    rw [plS, plS]
    show (if noB T (g_ro T v p) = true then (if g_hs T s = false then (n, h_su T 0, 1) else if n = g_ss T s then (n, h_su T 0, 2) else if mayB T (g_ro T v p) (plZ T s n (g_ro T v p)) = true then plS s v k (p + 1) (n + 1) (h_su (shT T (g_ro T v p) (plW T s n (g_ro T v p))) 0) else (n, h_su T 0, 2)) else plS s v k (p + 1) n (h_su T 0)) = _
    split
    · split
      · rfl
      · split
        · rfl
        · split
          · exact plS_su s v k (p + 1) (n + 1) _
          · rfl
    · exact plS_su s v k (p + 1) n T
theorem plR_su (s v k p n : Nat) (T : TS) : plR (plS s v k p n (h_su T 0)) = plR (plS s v k p n T) := by
  rw [plS_su]
  unfold plR
  split
  · rfl
  · split <;> rfl
theorem pl_bd {a : Int32} {p : Nat} (hp : p ≤ 127) : -8589934592 ≤ (a.toInt64 - lN p).toInt ∧ (a.toInt64 - lN p).toInt ≤ 8589934592 := by
  rw [pl_toInt hp]
  have := a.toInt_lt
  have := a.le_toInt
  omega
set_option maxHeartbeats 4000000 in
set_option maxRecDepth 100000 in
theorem q_play {c : Nat} {σ : ZS} {T : TS} (hR : cR c σ T) (hI : tI T) (s v : Int32) : ZC M_X11_play [Ar (some c), Ai s, Ai v] σ (fun y0 τ0 => y0 = some (Ai (sp_play T s v).1) ∧ cR c τ0 (sp_play T s v).2) := by
  obtain ⟨B, K, hG, hK⟩ := hR
  have hbd := cf_bd hG
  refine ZC_of (ls := [some (Ar (some c)), some (Ai s), some (Ai v), none, none, none, none, none]) (by decide) (Nat.le_of_ble_eq_true rfl) rfl ?_
  refine ZV_aload_n (n := 1) dX11_play_0 rfl rfl rfl ?_
  refine ZV_iload_n (n := 2) dX11_play_1 rfl rfl rfl ?_
  refine call_X11_112 (e_voiceOf hG _) rfl dX11_play_2 rfl (cf_sh hG :).1 (Nat.le_of_ble_eq_true rfl) (Nat.le_of_ble_eq_true rfl) rfl (fun r9 σ9 hp9 => ?_)
  obtain ⟨hs9, hp9⟩ := hp9
  subst σ9
  rcases hp9 with ⟨hv2, hr9⟩ | ⟨v2, he2, hn2, hr9⟩
  · skip
    subst hr9
    refine ZV_astore_3 (n := 6) dX11_play_5 rfl (Nat.le_of_ble_eq_true rfl) rfl ?_
    refine ZV_aload_n (n := 7) dX11_play_6 rfl rfl rfl ?_
    refine ZV_ifnull_n (tgt := 17) dX11_play_7 (by decide) ?_
    refine ZV_aload_n (n := 18) dX11_play_17 rfl rfl rfl ?_
    refine ZV_bipush (v := -2) (n := 20) dX11_play_18 rfl rfl ?_
    refine call_X11_87 (e_refuse hG _) rfl dX11_play_20 rfl (cf_sh hG :).1 (Nat.le_of_ble_eq_true rfl) (Nat.le_of_ble_eq_true rfl) rfl (fun r9 σ9 hp9 => ?_)
    obtain ⟨rfl, hG⟩ := hp9
    refine ZV_iret dX11_play_23 rfl ?_
    exact zlC (v := sNo T (-2)) (by simp [sp_play, hv2]) rfl ⟨B, K, hG, kI_e hK ⟨rfl, rfl, rfl, rfl, rfl, rfl, rfl, rfl, rfl, rfl, rfl, rfl, rfl, rfl, rfl, rfl, rfl, rfl, rfl, rfl⟩⟩
  · skip
    subst hr9
    subst hn2
    have hE2 : inB (nI v2) (3 * g_np T) = true := by rw [inB_nI (by omega)]; exact decide_eq_true he2
    have hmn2 := ti_mn hI v2
    have hc2 : (nI v2).toNatClampNeg = v2 := nI_clamp (by omega)
    refine ZV_astore_3 (n := 6) dX11_play_5 rfl (Nat.le_of_ble_eq_true rfl) rfl ?_
    refine ZV_aload_n (n := 7) dX11_play_6 rfl rfl rfl ?_
    refine ZV_ifnull_s (tgt := 17) (n := 10) dX11_play_7 (by decide) rfl ?_
    refine ZV_iload_n (n := 11) dX11_play_10 rfl rfl rfl ?_
    refine call_X11_359 (e_isRowNumber _ _) rfl dX11_play_11 (Nat.le_of_ble_eq_true rfl) (Nat.le_of_ble_eq_true rfl) rfl (fun r9 σ9 hp9 => ?_)
    obtain ⟨rfl, hs9⟩ := hp9
    subst σ9
    refine ZV_if_neB (tgt := 24) (n := 17) dX11_play_14 (by decide) rfl (fun h14 => ?_) (fun h14 => ?_)
    · skip
      obtain ⟨a, ha, ha2, rfl⟩ := inB_t h14
      have hca : (nI a).toNatClampNeg = a := nI_clamp ha2
      have h14 : inB (nI a) 4 = true := h14
      refine ZV_aload_n (n := 25) dX11_play_24 rfl rfl rfl ?_
      refine ZV_getRv (n := 28) dX11_play_25 fl_X11_78 rfl rfl rfl (cf_sh hG :).1 (ca_shelves (cf_sh hG :)) ?_
      refine ZV_iload_n (n := 29) dX11_play_28 rfl rfl rfl ?_
      rcases hb29 : g_hs T a with _ | _
      · skip
        refine ZV_aaldv (c0 := 5) (w := none) (j := a) (n := 30) dX11_play_29 rfl (by decide) rfl (ck_shelves (cf_sh hG :)) rfl (by omega) (Eq.trans (cf_sa hG a (by omega)) (if_neg (by rw [hb29]; exact Bool.false_ne_true))) ?_
        refine ZV_astore_4 (n := 32) dX11_play_30 rfl (Nat.le_of_ble_eq_true rfl) rfl ?_
        refine ZV_iconst (v := nI 0) (n := 33) dX11_play_32 rfl rfl ?_
        refine ZV_istore_5 (n := 35) dX11_play_33 rfl (Nat.le_of_ble_eq_true rfl) rfl ?_
        refine ZV_iconst (v := nI 0) (n := 36) dX11_play_35 rfl rfl ?_
        refine ZV_istore_6 (n := 38) dX11_play_36 rfl (Nat.le_of_ble_eq_true rfl) rfl ?_
        have hsp : sp_play T (nI a) (nI v2) = plR (plS a v2 (g_mn T v2) 0 0 T) := by rw [sp_play, if_pos ⟨h14, hE2⟩, hca, hc2, plR_su]
        rw [hsp]
        generalize hX : plR (plS a v2 (g_mn T v2) 0 0 T) = X
        have loop : ∀ (n9 : Nat) (p m : Nat) (T : TS) (τ : ZS), g_mn T v2 - p < n9 → p ≤ g_mn T v2 → cG c B τ T K → tI T → kI T K → plR (plS a v2 (g_mn T v2 - p) p m T) = X → m ≤ p → v2 < 3 * g_np T → g_hs T a = false → True → ZV M_X11_play (fun y0 τ0 => y0 = some (Ai X.1) ∧ cR c τ0 X.2) 38 [some (Ar (some c)), some (Ai (nI a)), some (Ai (nI v2)), some (Ar (some (k_va K v2))), some (Ar none), some (Ai (nI m)), some (Ai (nI p)), none] [] τ (zmC M_X11_play) (zmS M_X11_play) := by
          intro n9
          induction n9 with
          | zero => intro p m T τ hme; exact absurd hme (Nat.not_lt_zero _)
          | succ n9 ih =>
            intro p m T τ hme hp hG hI hK hX hmp he2 hs9 hma
            have hmn2 := ti_mn hI v2
            have hnp9 := ti_np hI
            have hbd := cf_bd hG
            refine ZV_iload (n := 40) dX11_play_38 rfl rfl ?_
            refine ZV_aload_n (n := 41) dX11_play_40 rfl rfl rfl ?_
            refine ZV_getIv (n := 44) dX11_play_41 fl_X11_116 rfl rfl rfl (cf_vk hG v2 he2).1 (cf_vs hG v2 he2) ?_
            refine ZV_icmp_geN (tgt := 130) (n := 47) dX11_play_44 (by decide) rfl (by omega) (by omega) (fun h44 => ?_) (fun h44 => ?_)
            · skip
              refine ZV_aload_n (n := 131) dX11_play_130 rfl rfl rfl ?_
              refine ZV_iload (n := 133) dX11_play_131 rfl rfl ?_
              refine call_X11_98 (e_done hG _) rfl dX11_play_133 rfl (cf_sh hG :).1 (Nat.le_of_ble_eq_true rfl) (Nat.le_of_ble_eq_true rfl) rfl (fun r9 σ9 hp9 => ?_)
              obtain ⟨rfl, hG⟩ := hp9
              refine ZV_iret dX11_play_136 rfl ?_
              rw [show g_mn T v2 - p = 0 by omega] at hX
              exact zlC (v := sOk T (nI m)) hX.symm rfl ⟨B, K, hG, kI_e hK ⟨rfl, rfl, rfl, rfl, rfl, rfl, rfl, rfl, rfl, rfl, rfl, rfl, rfl, rfl, rfl, rfl, rfl, rfl, rfl, rfl⟩⟩
            · skip
              have hr := ti_ro hI v2 p (by omega) (by omega)
              refine ZV_aload_n (n := 48) dX11_play_47 rfl rfl rfl ?_
              refine ZV_getRv (n := 51) dX11_play_48 fl_X11_224 rfl rfl rfl (cf_vk hG v2 he2).1 (cf_ve hG v2 he2) ?_
              refine ZV_iload (n := 53) dX11_play_51 rfl rfl ?_
              refine ZV_aaldv (c0 := 2) (j := p) (n := 54) dX11_play_53 rfl (by decide) rfl (cf_vk hG v2 he2).2.1 rfl (by omega) (cf_ro hG v2 p he2 (by omega)) ?_
              refine ZV_astore_7 (n := 56) dX11_play_54 rfl (Nat.le_of_ble_eq_true rfl) rfl ?_
              refine ZV_aload (n := 58) dX11_play_56 rfl rfl ?_
              refine call_X11_193 (e_isNote hG hr.1 (ti_kd hI _ hr.1)) rfl dX11_play_58 rfl (cf_ek hG (g_ro T v2 p) hr.1).1 (Nat.le_of_ble_eq_true rfl) (Nat.le_of_ble_eq_true rfl) rfl (fun r9 σ9 hp9 => ?_)
              obtain ⟨rfl, hs9⟩ := hp9
              subst σ9
              refine ZV_if_eqB (tgt := 124) (n := 64) dX11_play_61 (by decide) rfl (fun h61 => ?_) (fun h61 => ?_)
              · skip
                refine ZV_iincN_6 (v := 1) (n := 127) dX11_play_124 rfl rfl (Nat.le_of_ble_eq_true rfl) rfl ?_
                refine ZV_goto (tgt := 38) dX11_play_127 (by decide) ?_
                refine ZV_fg_7 ?_
                exact ih (p + 1) m T τ (by omega) (by omega) hG hI hK (by rw [← hX, show g_mn T v2 - p = (g_mn T v2 - (p + 1)) + 1 by omega, plS, if_neg (by rw [h61]; exact Bool.false_ne_true)]) (by omega) he2 hs9 hma
              · skip
                refine ZV_aload (n := 66) dX11_play_64 rfl rfl ?_
                refine ZV_ifnonnull_n (tgt := 78) (n := 69) dX11_play_66 (by decide) rfl ?_
                refine ZV_aload_n (n := 70) dX11_play_69 rfl rfl rfl ?_
                refine ZV_bipush (v := -11) (n := 72) dX11_play_70 rfl rfl ?_
                refine ZV_iload (n := 74) dX11_play_72 rfl rfl ?_
                refine call_X11_207 (e_failTelling hG (-11) _ 0 (by decide) rfl) rfl dX11_play_74 rfl (cf_sh hG :).1 (Nat.le_of_ble_eq_true rfl) (Nat.le_of_ble_eq_true rfl) rfl (fun r9 σ9 hp9 => ?_)
                obtain ⟨rfl, hG⟩ := hp9
                refine ZV_iret dX11_play_77 rfl ?_
                rw [show g_mn T v2 - p = (g_mn T v2 - (p + 1)) + 1 by omega, plS, if_pos h61, if_pos hs9] at hX
                exact zlC (v := sFl T 0 (-11) (nI m)) hX.symm rfl ⟨B, K, hG, kI_e hK ⟨rfl, rfl, rfl, rfl, rfl, rfl, rfl, rfl, rfl, rfl, rfl, rfl, rfl, rfl, rfl, rfl, rfl, rfl, rfl, rfl⟩⟩
        exact loop _ 0 0 T σ (Nat.lt_succ_self _) (Nat.zero_le _) hG hI hK hX (Nat.le_refl _) he2 hb29 trivial
      · skip
        refine ZV_aaldv (c0 := 5) (w := some (k_wa K (a + 4))) (j := a) (n := 30) dX11_play_29 rfl (by decide) rfl (ck_shelves (cf_sh hG :)) rfl (by omega) (Eq.trans (cf_sa hG a (by omega)) (if_pos hb29)) ?_
        refine ZV_astore_4 (n := 32) dX11_play_30 rfl (Nat.le_of_ble_eq_true rfl) rfl ?_
        refine ZV_iconst (v := nI 0) (n := 33) dX11_play_32 rfl rfl ?_
        refine ZV_istore_5 (n := 35) dX11_play_33 rfl (Nat.le_of_ble_eq_true rfl) rfl ?_
        refine ZV_iconst (v := nI 0) (n := 36) dX11_play_35 rfl rfl ?_
        refine ZV_istore_6 (n := 38) dX11_play_36 rfl (Nat.le_of_ble_eq_true rfl) rfl ?_
        have hsp : sp_play T (nI a) (nI v2) = plR (plS a v2 (g_mn T v2) 0 0 T) := by rw [sp_play, if_pos ⟨h14, hE2⟩, hca, hc2, plR_su]
        rw [hsp]
        generalize hX : plR (plS a v2 (g_mn T v2) 0 0 T) = X
        have loop : ∀ (n9 : Nat) (p m : Nat) (T : TS) (τ : ZS), g_mn T v2 - p < n9 → p ≤ g_mn T v2 → cG c B τ T K → tI T → kI T K → plR (plS a v2 (g_mn T v2 - p) p m T) = X → m ≤ p → v2 < 3 * g_np T → g_hs T a = true → m ≤ g_ss T a → ZV M_X11_play (fun y0 τ0 => y0 = some (Ai X.1) ∧ cR c τ0 X.2) 38 [some (Ar (some c)), some (Ai (nI a)), some (Ai (nI v2)), some (Ar (some (k_va K v2))), some (Ar (some (k_wa K (a + 4)))), some (Ai (nI m)), some (Ai (nI p)), none] [] τ (zmC M_X11_play) (zmS M_X11_play) := by
          intro n9
          induction n9 with
          | zero => intro p m T τ hme; exact absurd hme (Nat.not_lt_zero _)
          | succ n9 ih =>
            intro p m T τ hme hp hG hI hK hX hmp he2 hs9 hma
            have hmn2 := ti_mn hI v2
            have hnp9 := ti_np hI
            have hbd := cf_bd hG
            refine ZV_iload (n := 40) dX11_play_38 rfl rfl ?_
            refine ZV_aload_n (n := 41) dX11_play_40 rfl rfl rfl ?_
            refine ZV_getIv (n := 44) dX11_play_41 fl_X11_116 rfl rfl rfl (cf_vk hG v2 he2).1 (cf_vs hG v2 he2) ?_
            refine ZV_icmp_geN (tgt := 130) (n := 47) dX11_play_44 (by decide) rfl (by omega) (by omega) (fun h44 => ?_) (fun h44 => ?_)
            · skip
              refine ZV_aload_n (n := 131) dX11_play_130 rfl rfl rfl ?_
              refine ZV_iload (n := 133) dX11_play_131 rfl rfl ?_
              refine call_X11_98 (e_done hG _) rfl dX11_play_133 rfl (cf_sh hG :).1 (Nat.le_of_ble_eq_true rfl) (Nat.le_of_ble_eq_true rfl) rfl (fun r9 σ9 hp9 => ?_)
              obtain ⟨rfl, hG⟩ := hp9
              refine ZV_iret dX11_play_136 rfl ?_
              rw [show g_mn T v2 - p = 0 by omega] at hX
              exact zlC (v := sOk T (nI m)) hX.symm rfl ⟨B, K, hG, kI_e hK ⟨rfl, rfl, rfl, rfl, rfl, rfl, rfl, rfl, rfl, rfl, rfl, rfl, rfl, rfl, rfl, rfl, rfl, rfl, rfl, rfl⟩⟩
            · skip
              have hr := ti_ro hI v2 p (by omega) (by omega)
              refine ZV_aload_n (n := 48) dX11_play_47 rfl rfl rfl ?_
              refine ZV_getRv (n := 51) dX11_play_48 fl_X11_224 rfl rfl rfl (cf_vk hG v2 he2).1 (cf_ve hG v2 he2) ?_
              refine ZV_iload (n := 53) dX11_play_51 rfl rfl ?_
              refine ZV_aaldv (c0 := 2) (j := p) (n := 54) dX11_play_53 rfl (by decide) rfl (cf_vk hG v2 he2).2.1 rfl (by omega) (cf_ro hG v2 p he2 (by omega)) ?_
              refine ZV_astore_7 (n := 56) dX11_play_54 rfl (Nat.le_of_ble_eq_true rfl) rfl ?_
              refine ZV_aload (n := 58) dX11_play_56 rfl rfl ?_
              refine call_X11_193 (e_isNote hG hr.1 (ti_kd hI _ hr.1)) rfl dX11_play_58 rfl (cf_ek hG (g_ro T v2 p) hr.1).1 (Nat.le_of_ble_eq_true rfl) (Nat.le_of_ble_eq_true rfl) rfl (fun r9 σ9 hp9 => ?_)
              obtain ⟨rfl, hs9⟩ := hp9
              subst σ9
              refine ZV_if_eqB (tgt := 124) (n := 64) dX11_play_61 (by decide) rfl (fun h61 => ?_) (fun h61 => ?_)
              · skip
                refine ZV_iincN_6 (v := 1) (n := 127) dX11_play_124 rfl rfl (Nat.le_of_ble_eq_true rfl) rfl ?_
                refine ZV_goto (tgt := 38) dX11_play_127 (by decide) ?_
                refine ZV_fg_7 ?_
                exact ih (p + 1) m T τ (by omega) (by omega) hG hI hK (by rw [← hX, show g_mn T v2 - p = (g_mn T v2 - (p + 1)) + 1 by omega, plS, if_neg (by rw [h61]; exact Bool.false_ne_true)]) (by omega) he2 hs9 hma
              · skip
                refine ZV_aload (n := 66) dX11_play_64 rfl rfl ?_
                refine ZV_ifnonnull_s (tgt := 78) dX11_play_66 (by decide) ?_
                have hsk := ti_sk hI a ha
                have hp1 := ti_pn1 hI _ hr.1 (of_decide_eq_true h61)
                have hp0 := ti_pi hI _ 0 hr.1 hp1
                refine ZV_aload (n := 80) dX11_play_78 rfl rfl ?_
                refine ZV_iload (n := 82) dX11_play_80 rfl rfl ?_
                refine call_X11_364 (e_hasS hG ha hs9 (by omega) _) rfl dX11_play_82 rfl (cf_sk hG a ha hs9).1 (Nat.le_of_ble_eq_true rfl) (Nat.le_of_ble_eq_true rfl) rfl (fun r9 σ9 hp9 => ?_)
                obtain ⟨rfl, hs9⟩ := hp9
                subst σ9
                rw [inB_nI (by omega)]
                refine ZV_if_eqB (tgt := 112) (n := 88) dX11_play_85 (by decide) rfl (fun h85 => ?_) (fun h85 => ?_)
                · skip
                  have hms : m = g_ss T a := by have := of_decide_eq_false h85; omega
                  refine ZV_aload_n (n := 113) dX11_play_112 rfl rfl rfl ?_
                  refine ZV_bipush (v := -12) (n := 115) dX11_play_113 rfl rfl ?_
                  refine ZV_iload (n := 117) dX11_play_115 rfl rfl ?_
                  refine call_X11_207 (e_failTelling hG (-12) _ 1 (by decide) rfl) rfl dX11_play_117 rfl (cf_sh hG :).1 (Nat.le_of_ble_eq_true rfl) (Nat.le_of_ble_eq_true rfl) rfl (fun r9 σ9 hp9 => ?_)
                  obtain ⟨rfl, hG⟩ := hp9
                  refine ZV_iret dX11_play_120 rfl ?_
                  rw [show g_mn T v2 - p = (g_mn T v2 - (p + 1)) + 1 by omega, plS, if_pos h61, if_neg (tne hs9), if_pos hms] at hX
                  exact zlC (v := sFl T 1 (-12) (nI m)) hX.symm rfl ⟨B, K, hG, kI_e hK ⟨rfl, rfl, rfl, rfl, rfl, rfl, rfl, rfl, rfl, rfl, rfl, rfl, rfl, rfl, rfl, rfl, rfl, rfl, rfl, rfl⟩⟩
                · skip
                  have h85 := of_decide_eq_true h85
                  have hms : ¬ m = g_ss T a := by omega
                  refine ZV_aload (n := 90) dX11_play_88 rfl rfl ?_
                  refine ZV_aload (n := 92) dX11_play_90 rfl rfl ?_
                  refine ZV_getRv (n := 95) dX11_play_92 fl_X11_372 rfl rfl rfl (cf_sk hG a ha hs9).1 (cf_st hG a ha hs9) ?_
                  refine ZV_iload (n := 97) dX11_play_95 rfl rfl ?_
                  refine ZV_ialdv (j := m) (n := 98) dX11_play_97 rfl rfl (cf_sk hG a ha hs9).2.1 rfl (by omega) (cf_sr hG a m ha hs9 h85) ?_
                  refine ZV_i2l (n := 99) dX11_play_98 rfl ?_
                  refine ZV_aload (n := 101) dX11_play_99 rfl rfl ?_
                  refine call_X11_395 (e_lowest hG hr.1 (ti_pn hI _) (ti_pnc hI _ hr.1)) rfl dX11_play_101 rfl (cf_ek hG (g_ro T v2 p) hr.1).1 (Nat.le_of_ble_eq_true rfl) (Nat.le_of_ble_eq_true rfl) rfl (fun r9 σ9 hp9 => ?_)
                  obtain ⟨rfl, hs9⟩ := hp9
                  subst σ9
                  rw [if_pos (show 0 < g_pn T (g_ro T v2 p) by omega), hp0.1]
                  refine ZV_i2lN (n := 105) dX11_play_104 rfl (by omega) ?_
                  refine ZV_lsub (n := 106) dX11_play_105 rfl ?_
                  refine call_X11_221 (e_moveBy hG hI hr.1 (of_decide_eq_true h61) ((g_sr T a m).toInt64 - lN (g_pv T (g_ro T v2 p) 0)) (pl_bd hp0.2)) rfl dX11_play_106 rfl (cf_ek hG _ hr.1).1 (Nat.le_of_ble_eq_true rfl) (Nat.le_of_ble_eq_true rfl) rfl (fun r9 σ9 hp9 => ?_)
                  rcases hp9 with ⟨hm106, hr9, hs9⟩ | ⟨hm106, hr9, hG⟩
                  · skip
                    subst hr9
                    subst σ9
                    rw [pl_toInt hp0.2] at hm106
                    refine ZV_if_neB (tgt := 121) (n := 112) dX11_play_109 (by decide) rfl (fun h109 => ?_) (fun h109 => ?_)
                    · skip
                      cases h109
                    · skip
                      refine ZV_aload_n (n := 113) dX11_play_112 rfl rfl rfl ?_
                      refine ZV_bipush (v := -12) (n := 115) dX11_play_113 rfl rfl ?_
                      refine ZV_iload (n := 117) dX11_play_115 rfl rfl ?_
                      refine call_X11_207 (e_failTelling hG (-12) _ 1 (by decide) rfl) rfl dX11_play_117 rfl (cf_sh hG :).1 (Nat.le_of_ble_eq_true rfl) (Nat.le_of_ble_eq_true rfl) rfl (fun r9 σ9 hp9 => ?_)
                      obtain ⟨rfl, hG⟩ := hp9
                      refine ZV_iret dX11_play_120 rfl ?_
                      rw [show g_mn T v2 - p = (g_mn T v2 - (p + 1)) + 1 by omega, plS, if_pos h61, if_neg (tne hs9), if_neg hms, if_neg (show ¬ mayB T (g_ro T v2 p) (plZ T a m (g_ro T v2 p)) = true from by unfold plZ; rw [hm106]; exact Bool.false_ne_true)] at hX
                      exact zlC (v := sFl T 1 (-12) (nI m)) hX.symm rfl ⟨B, K, hG, kI_e hK ⟨rfl, rfl, rfl, rfl, rfl, rfl, rfl, rfl, rfl, rfl, rfl, rfl, rfl, rfl, rfl, rfl, rfl, rfl, rfl, rfl⟩⟩
                  · skip
                    subst hr9
                    rw [pl_toInt hp0.2] at hm106
                    refine ZV_if_neB (tgt := 121) (n := 112) dX11_play_109 (by decide) rfl (fun h109 => ?_) (fun h109 => ?_)
                    · skip
                      refine ZV_iincN_5 (v := 1) (n := 124) dX11_play_121 rfl rfl (Nat.le_of_ble_eq_true rfl) rfl ?_
                      refine ZV_iincN_6 (v := 1) (n := 127) dX11_play_124 rfl rfl (Nat.le_of_ble_eq_true rfl) rfl ?_
                      refine ZV_goto (tgt := 38) dX11_play_127 (by decide) ?_
                      refine ZV_fg_7 ?_
                      exact ih (p + 1) (m + 1) (shT T (g_ro T v2 p) (plW T a m (g_ro T v2 p))) σ9 (by show g_mn T v2 - (p + 1) < n9; omega) (by show p + 1 ≤ g_mn T v2; omega) hG (tI_shT hI hr.1 (of_decide_eq_true h61) (by rw [plW_i hI hr.1 (of_decide_eq_true h61) hm106]; exact hm106)) (kI_e hK ⟨rfl, rfl, rfl, rfl, rfl, rfl, rfl, rfl, rfl, rfl, rfl, rfl, rfl, rfl, rfl, rfl, rfl, rfl, rfl, rfl⟩) (by rw [← hX, show g_mn T v2 - p = (g_mn T v2 - (p + 1)) + 1 by omega, plS, if_pos h61, if_neg (tne hs9), if_neg hms, if_pos (show mayB T (g_ro T v2 p) (plZ T a m (g_ro T v2 p)) = true from hm106)]; rfl) (by omega) he2 hs9 (by show m + 1 ≤ g_ss T a; omega)
                    · skip
                      cases h109
        exact loop _ 0 0 T σ (Nat.lt_succ_self _) (Nat.zero_le _) hG hI hK hX (Nat.le_refl _) he2 hb29 (Nat.zero_le _)
    · skip
      refine ZV_aload_n (n := 18) dX11_play_17 rfl rfl rfl ?_
      refine ZV_bipush (v := -2) (n := 20) dX11_play_18 rfl rfl ?_
      refine call_X11_87 (e_refuse hG _) rfl dX11_play_20 rfl (cf_sh hG :).1 (Nat.le_of_ble_eq_true rfl) (Nat.le_of_ble_eq_true rfl) rfl (fun r9 σ9 hp9 => ?_)
      obtain ⟨rfl, hG⟩ := hp9
      refine ZV_iret dX11_play_23 rfl ?_
      exact zlC (v := sNo T (-2)) (by simp [sp_play, h14]) rfl ⟨B, K, hG, kI_e hK ⟨rfl, rfl, rfl, rfl, rfl, rfl, rfl, rfl, rfl, rfl, rfl, rfl, rfl, rfl, rfl, rfl, rfl, rfl, rfl, rfl⟩⟩
