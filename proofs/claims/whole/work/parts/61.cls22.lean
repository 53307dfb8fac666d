set_option maxHeartbeats 4000000 in
set_option maxRecDepth 100000 in
theorem q_line {c : Nat} {σ : ZS} {T : TS} (hR : cR c σ T) (hI : tI T) (k f t : Int32) : ZC M_X11_line [Ar (some c), Ai k, Ai f, Ai t] σ (fun y0 τ0 => y0 = some (Ai (sp_line T k f t).1) ∧ cR c τ0 (sp_line T k f t).2) := by
  obtain ⟨B, K, hG, hK⟩ := hR
  have hbd := cf_bd hG
  refine ZC_of (ls := [some (Ar (some c)), some (Ai k), some (Ai f), some (Ai t), none]) (by decide) (Nat.le_of_ble_eq_true rfl) rfl ?_
  refine ZV_aload_n (n := 1) dX11_line_0 rfl rfl rfl ?_
  refine ZV_iload_n (n := 2) dX11_line_1 rfl rfl rfl ?_
  refine call_X11_155 (e_eventOf hG _) rfl dX11_line_2 rfl (cf_sh hG :).1 (Nat.le_of_ble_eq_true rfl) (Nat.le_of_ble_eq_true rfl) rfl (fun r9 σ9 hp9 => ?_)
  obtain ⟨hs9, hp9⟩ := hp9
  subst σ9
  rcases hp9 with ⟨hv2, hr9⟩ | ⟨e2, he2, ht2, hn2, hr9⟩
  · skip
    subst hr9
    refine ZV_astore_4 (n := 7) dX11_line_5 rfl (Nat.le_of_ble_eq_true rfl) rfl ?_
    refine ZV_iload_n (n := 8) dX11_line_7 rfl rfl rfl ?_
    refine ZV_if_lt (tgt := 29) (n := 11) dX11_line_8 (by decide) rfl (fun h8 => ?_) (fun h8 => ?_)
    · skip
      refine ZV_aload_n (n := 30) dX11_line_29 rfl rfl rfl ?_
      refine ZV_bipush (v := -2) (n := 32) dX11_line_30 rfl rfl ?_
      refine call_X11_87 (e_refuse hG _) rfl dX11_line_32 rfl (cf_sh hG :).1 (Nat.le_of_ble_eq_true rfl) (Nat.le_of_ble_eq_true rfl) rfl (fun r9 σ9 hp9 => ?_)
      obtain ⟨rfl, hG⟩ := hp9
      refine ZV_iret dX11_line_35 rfl ?_
      exact zlC (v := sNo T (-2)) (by rw [sp_line, if_neg (fun z => by rw [hv2] at z; cases z.2.1)]) rfl ⟨B, K, hG, kI_e hK ⟨rfl, rfl, rfl, rfl, rfl, rfl, rfl, rfl, rfl, rfl, rfl, rfl, rfl, rfl, rfl, rfl, rfl, rfl, rfl, rfl⟩⟩
    · skip
      refine ZV_iload_n (n := 12) dX11_line_11 rfl rfl rfl ?_
      refine ZV_iconst (v := nI 3) (n := 13) dX11_line_12 rfl rfl ?_
      refine ZV_icmp_gt (tgt := 29) (n := 16) dX11_line_13 (by decide) rfl (fun h13 => ?_) (fun h13 => ?_)
      · skip
        refine ZV_aload_n (n := 30) dX11_line_29 rfl rfl rfl ?_
        refine ZV_bipush (v := -2) (n := 32) dX11_line_30 rfl rfl ?_
        refine call_X11_87 (e_refuse hG _) rfl dX11_line_32 rfl (cf_sh hG :).1 (Nat.le_of_ble_eq_true rfl) (Nat.le_of_ble_eq_true rfl) rfl (fun r9 σ9 hp9 => ?_)
        obtain ⟨rfl, hG⟩ := hp9
        refine ZV_iret dX11_line_35 rfl ?_
        exact zlC (v := sNo T (-2)) (by rw [sp_line, if_neg (fun z => by rw [hv2] at z; cases z.2.1)]) rfl ⟨B, K, hG, kI_e hK ⟨rfl, rfl, rfl, rfl, rfl, rfl, rfl, rfl, rfl, rfl, rfl, rfl, rfl, rfl, rfl, rfl, rfl, rfl, rfl, rfl⟩⟩
      · skip
        refine ZV_aload (n := 18) dX11_line_16 rfl rfl ?_
        refine ZV_ifnull_n (tgt := 29) dX11_line_18 (by decide) ?_
        refine ZV_aload_n (n := 30) dX11_line_29 rfl rfl rfl ?_
        refine ZV_bipush (v := -2) (n := 32) dX11_line_30 rfl rfl ?_
        refine call_X11_87 (e_refuse hG _) rfl dX11_line_32 rfl (cf_sh hG :).1 (Nat.le_of_ble_eq_true rfl) (Nat.le_of_ble_eq_true rfl) rfl (fun r9 σ9 hp9 => ?_)
        obtain ⟨rfl, hG⟩ := hp9
        refine ZV_iret dX11_line_35 rfl ?_
        exact zlC (v := sNo T (-2)) (by rw [sp_line, if_neg (fun z => by rw [hv2] at z; cases z.2.1)]) rfl ⟨B, K, hG, kI_e hK ⟨rfl, rfl, rfl, rfl, rfl, rfl, rfl, rfl, rfl, rfl, rfl, rfl, rfl, rfl, rfl, rfl, rfl, rfl, rfl, rfl⟩⟩
  · skip
    subst hr9
    subst hn2
    have hE2 : evB T (nI e2) = true := evB_nI hI he2 ht2
    have hev2 := ti_ev hI
    have hkd2 := ti_kd hI _ he2
    have hpn2 := ti_pn hI e2
    have hpl2 := ki_pl hK _ he2 ht2
    have hpb2 := pl_b hI hK he2 ht2
    have hvo2 := ti_vo hI _ he2
    have hc2 : (nI e2).toNatClampNeg = e2 := nI_clamp (by omega)
    refine ZV_astore_4 (n := 7) dX11_line_5 rfl (Nat.le_of_ble_eq_true rfl) rfl ?_
    refine ZV_iload_n (n := 8) dX11_line_7 rfl rfl rfl ?_
    refine ZV_if_lt (tgt := 29) (n := 11) dX11_line_8 (by decide) rfl (fun h8 => ?_) (fun h8 => ?_)
    · skip
      refine ZV_aload_n (n := 30) dX11_line_29 rfl rfl rfl ?_
      refine ZV_bipush (v := -2) (n := 32) dX11_line_30 rfl rfl ?_
      refine call_X11_87 (e_refuse hG _) rfl dX11_line_32 rfl (cf_sh hG :).1 (Nat.le_of_ble_eq_true rfl) (Nat.le_of_ble_eq_true rfl) rfl (fun r9 σ9 hp9 => ?_)
      obtain ⟨rfl, hG⟩ := hp9
      refine ZV_iret dX11_line_35 rfl ?_
      exact zlC (v := sNo T (-2)) (by rw [sp_line, if_neg (fun z => by rw [inB_lt0 _ h8] at z; cases z.1)]) rfl ⟨B, K, hG, kI_e hK ⟨rfl, rfl, rfl, rfl, rfl, rfl, rfl, rfl, rfl, rfl, rfl, rfl, rfl, rfl, rfl, rfl, rfl, rfl, rfl, rfl⟩⟩
    · skip
      refine ZV_iload_n (n := 12) dX11_line_11 rfl rfl rfl ?_
      refine ZV_iconst (v := nI 3) (n := 13) dX11_line_12 rfl rfl ?_
      refine ZV_icmp_gt (tgt := 29) (n := 16) dX11_line_13 (by decide) rfl (fun h13 => ?_) (fun h13 => ?_)
      · skip
        refine ZV_aload_n (n := 30) dX11_line_29 rfl rfl rfl ?_
        refine ZV_bipush (v := -2) (n := 32) dX11_line_30 rfl rfl ?_
        refine call_X11_87 (e_refuse hG _) rfl dX11_line_32 rfl (cf_sh hG :).1 (Nat.le_of_ble_eq_true rfl) (Nat.le_of_ble_eq_true rfl) rfl (fun r9 σ9 hp9 => ?_)
        obtain ⟨rfl, hG⟩ := hp9
        refine ZV_iret dX11_line_35 rfl ?_
        exact zlC (v := sNo T (-2)) (by rw [sp_line, if_neg (fun z => by rw [inB_gt (by decide) h13] at z; cases z.1)]) rfl ⟨B, K, hG, kI_e hK ⟨rfl, rfl, rfl, rfl, rfl, rfl, rfl, rfl, rfl, rfl, rfl, rfl, rfl, rfl, rfl, rfl, rfl, rfl, rfl, rfl⟩⟩
      · skip
        refine ZV_aload (n := 18) dX11_line_16 rfl rfl ?_
        refine ZV_ifnull_s (tgt := 29) (n := 21) dX11_line_18 (by decide) rfl ?_
        refine ZV_aload_n (n := 22) dX11_line_21 rfl rfl rfl ?_
        refine ZV_iload_n (n := 23) dX11_line_22 rfl rfl rfl ?_
        refine call_X11_307 (e_isLineEnd hG _) rfl dX11_line_23 rfl (cf_sh hG :).1 (Nat.le_of_ble_eq_true rfl) (Nat.le_of_ble_eq_true rfl) rfl (fun r9 σ9 hp9 => ?_)
        obtain ⟨rfl, hs9⟩ := hp9
        subst σ9
        refine ZV_if_neB (tgt := 36) (n := 29) dX11_line_26 (by decide) rfl (fun h26 => ?_) (fun h26 => ?_)
        · skip
          have hk6 := inB_okl (by decide) h8 h13
          obtain ⟨k9, hk9, hk92, rfl⟩ := inB_t hk6
          have hck9 : (nI k9).toNatClampNeg = k9 := nI_clamp hk92
          have hk6 : inB (nI k9) 4 = true := hk6
          refine ZV_aload_n (n := 37) dX11_line_36 rfl rfl rfl ?_
          refine ZV_getIv (n := 40) dX11_line_37 fl_X11_56 rfl rfl rfl (cf_sh hG :).1 (cf_le hG :) ?_
          refine ZV_bipush (v := nI 30) (n := 42) dX11_line_40 rfl rfl ?_
          refine ZV_icmp_ltN (tgt := 52) (n := 45) dX11_line_42 (by decide) rfl (by omega) (by omega) (fun h42 => ?_) (fun h42 => ?_)
          · skip
            have hn30 : g_le T ≠ 30 := by omega
            refine ZV_aload_n (n := 53) dX11_line_52 rfl rfl rfl ?_
            refine ZV_getRv (n := 56) dX11_line_53 fl_X11_52 rfl rfl rfl (cf_sh hG :).1 (ca_lines (cf_sh hG :)) ?_
            refine ZV_aload_n (n := 57) dX11_line_56 rfl rfl rfl ?_
            refine ZV_getIv (n := 60) dX11_line_57 fl_X11_56 rfl rfl rfl (cf_sh hG :).1 (cf_le hG :) ?_
            refine ZV_newC (ci := 4) (N := 3) (n := 63) dX11_line_60 rfl (by decide) rfl wd_1_34 wd_3_150 wd_1_14 ?_
            obtain ⟨b9, hb9⟩ : ∃ b, b = zn σ := ⟨_, rfl⟩
            rw [← hb9]
            have hB9 : B ≤ b9 := by rw [hb9]; exact (cf_B hG).2
            refine ZV_gen (P := fun τ => cG c B τ T K ∧ zk τ b9 = (1, 4) ∧ zn τ = b9 + 1) ⟨cG_ag (zag_new (cf_B hG).2) hG, by rw [hb9]; exact zk_new _ _, by rw [hb9]; rfl⟩ (fun σ hG9 => ?_)
            clear hb9
            obtain ⟨hG, hkb, hzb⟩ := hG9
            refine ZV_dup (n := 64) dX11_line_63 rfl rfl ?_
            refine ZV_iload_n (n := 65) dX11_line_64 rfl rfl rfl ?_
            refine ZV_aload (n := 67) dX11_line_65 rfl rfl ?_
            refine ZV_aload_n (n := 68) dX11_line_67 rfl rfl rfl ?_
            refine ZV_iload_n (n := 69) dX11_line_68 rfl rfl rfl ?_
            refine call_X11_155 (e_eventOf hG _) rfl dX11_line_69 rfl (cf_sh hG :).1 (Nat.le_of_ble_eq_true rfl) (Nat.le_of_ble_eq_true rfl) rfl (fun r9 σ9 hp9 => ?_)
            obtain ⟨hs9, hp9⟩ := hp9
            subst σ9
            rcases hp9 with ⟨hv69, hr9⟩ | ⟨e69, he69, ht69, hn69, hr9⟩
            · skip
              subst hr9
              refine call_X11_310 (e_X4_init_n hkb (by omega) k9 (k_ea K e2)) rfl dX11_line_72 (Nat.le_of_ble_eq_true rfl) (Nat.le_of_ble_eq_true rfl) rfl (fun r9 σ9 hp9 => ?_)
              obtain ⟨rfl, hN⟩ := hp9
              have hG7 := hG
              have hG := cG_ag (zag_le hB9 hN.1) hG
              refine ZV_aast (c0 := 4) (j := g_le T) (n := 76) dX11_line_75 rfl (by decide) (fun x9 q9 => by cases q9; exact ⟨4, hN.2.2.1, by decide, Or.inl rfl⟩) rfl (ck_lines (cf_sh hG :)) rfl (by omega) ?_
              refine ZV_aload_n (n := 77) dX11_line_76 rfl rfl rfl ?_
              refine ZV_dup (n := 78) dX11_line_77 rfl rfl ?_
              refine ZV_getIv (n := 81) dX11_line_78 fl_X11_56 rfl rfl rfl (cf_sh hG :).1 (cf_le hG :) ?_
              refine ZV_iconst (v := nI 1) (n := 82) dX11_line_81 rfl rfl ?_
              refine ZV_iaddN (n := 83) dX11_line_82 rfl ?_
              refine ZV_putI (n := 86) dX11_line_83 fl_X11_56 rfl (Or.inl rfl) rfl (fun h => absurd h (by decide)) rfl (cf_sh hG :).1 ?_
              refine ZV_gen (P := fun τ => cG c _ τ _ _) (U_ln (o := none) hG7 hB9 hzb hN hn30) (fun σ hG => ?_)
              refine ZV_aload_n (n := 87) dX11_line_86 rfl rfl rfl ?_
              refine ZV_aload_n (n := 88) dX11_line_87 rfl rfl rfl ?_
              refine ZV_getIv (n := 91) dX11_line_88 fl_X11_56 rfl rfl rfl (cf_sh hG :).1 (show _ = nI (g_le T + 1) from (cf_le hG).trans (congrArg nI (lw_le T _ _ _))) ?_
              refine ZV_iconst (v := nI 1) (n := 92) dX11_line_91 rfl rfl ?_
              refine ZV_isubN (n := 93) dX11_line_92 rfl (by omega) ?_
              refine call_X11_98 (e_done hG _) rfl dX11_line_93 rfl (cf_sh hG :).1 (Nat.le_of_ble_eq_true rfl) (Nat.le_of_ble_eq_true rfl) rfl (fun r9 σ9 hp9 => ?_)
              obtain ⟨rfl, hG⟩ := hp9
              refine ZV_iret dX11_line_96 rfl ?_
              exact zlC (v := sOk (lnT T k9 e2 none) (nI (g_le T))) (by rw [sp_line, if_pos ⟨hk6, hE2, of_decide_eq_true h26⟩, if_neg hn30, hck9, hc2, (enO_n h26 hv69).1]; rfl) rfl ⟨_, _, hG, kI_e (T := lnT T k9 e2 none) (kI_e (T := T) (K := j_la K (va_up (k_la K) (g_le T) b9)) hK ⟨lw_np T k9 e2 none, lw_ev T k9 e2 none, lw_th T k9 e2 none, lw_vo T k9 e2 none, lw_pl T k9 e2 none, lw_mn T k9 e2 none, lw_te T k9 e2 none, lw_tt T k9 e2 none, lw_tv T k9 e2 none, lw_tf T k9 e2 none, lw_tl T k9 e2 none, lw_tn T k9 e2 none, lw_tm T k9 e2 none, lw_nb T k9 e2 none, lw_bt T k9 e2 none, lw_kd T k9 e2 none, lw_va T k9 e2 none, lw_dt T k9 e2 none, lw_ro T k9 e2 none, lw_tr T k9 e2 none⟩) ⟨rfl, rfl, rfl, rfl, rfl, rfl, rfl, rfl, rfl, rfl, rfl, rfl, rfl, rfl, rfl, rfl, rfl, rfl, rfl, rfl⟩⟩
            · skip
              subst hr9
              subst hn69
              have hE69 : evB T (nI e69) = true := evB_nI hI he69 ht69
              have hev69 := ti_ev hI
              have hkd69 := ti_kd hI _ he69
              have hpn69 := ti_pn hI e69
              have hpl69 := ki_pl hK _ he69 ht69
              have hpb69 := pl_b hI hK he69 ht69
              have hvo69 := ti_vo hI _ he69
              have hc69 : (nI e69).toNatClampNeg = e69 := nI_clamp (by omega)
              refine call_X11_310 (e_X4_init_s hkb (by omega) k9 (k_ea K e2) (k_ea K e69)) rfl dX11_line_72 (Nat.le_of_ble_eq_true rfl) (Nat.le_of_ble_eq_true rfl) rfl (fun r9 σ9 hp9 => ?_)
              obtain ⟨rfl, hN⟩ := hp9
              have hG7 := hG
              have hG := cG_ag (zag_le hB9 hN.1) hG
              refine ZV_aast (c0 := 4) (j := g_le T) (n := 76) dX11_line_75 rfl (by decide) (fun x9 q9 => by cases q9; exact ⟨4, hN.2.2.1, by decide, Or.inl rfl⟩) rfl (ck_lines (cf_sh hG :)) rfl (by omega) ?_
              refine ZV_aload_n (n := 77) dX11_line_76 rfl rfl rfl ?_
              refine ZV_dup (n := 78) dX11_line_77 rfl rfl ?_
              refine ZV_getIv (n := 81) dX11_line_78 fl_X11_56 rfl rfl rfl (cf_sh hG :).1 (cf_le hG :) ?_
              refine ZV_iconst (v := nI 1) (n := 82) dX11_line_81 rfl rfl ?_
              refine ZV_iaddN (n := 83) dX11_line_82 rfl ?_
              refine ZV_putI (n := 86) dX11_line_83 fl_X11_56 rfl (Or.inl rfl) rfl (fun h => absurd h (by decide)) rfl (cf_sh hG :).1 ?_
              refine ZV_gen (P := fun τ => cG c _ τ _ _) (U_ln (o := (some e69)) hG7 hB9 hzb hN hn30) (fun σ hG => ?_)
              refine ZV_aload_n (n := 87) dX11_line_86 rfl rfl rfl ?_
              refine ZV_aload_n (n := 88) dX11_line_87 rfl rfl rfl ?_
              refine ZV_getIv (n := 91) dX11_line_88 fl_X11_56 rfl rfl rfl (cf_sh hG :).1 (show _ = nI (g_le T + 1) from (cf_le hG).trans (congrArg nI (lw_le T _ _ _))) ?_
              refine ZV_iconst (v := nI 1) (n := 92) dX11_line_91 rfl rfl ?_
              refine ZV_isubN (n := 93) dX11_line_92 rfl (by omega) ?_
              refine call_X11_98 (e_done hG _) rfl dX11_line_93 rfl (cf_sh hG :).1 (Nat.le_of_ble_eq_true rfl) (Nat.le_of_ble_eq_true rfl) rfl (fun r9 σ9 hp9 => ?_)
              obtain ⟨rfl, hG⟩ := hp9
              refine ZV_iret dX11_line_96 rfl ?_
              exact zlC (v := sOk (lnT T k9 e2 (some e69)) (nI (g_le T))) (by rw [sp_line, if_pos ⟨hk6, hE2, of_decide_eq_true h26⟩, if_neg hn30, hck9, hc2, (enO_s (e := e69) (by omega))]; rfl) rfl ⟨_, _, hG, kI_e (T := lnT T k9 e2 (some e69)) (kI_e (T := T) (K := j_la K (va_up (k_la K) (g_le T) b9)) hK ⟨lw_np T k9 e2 (some e69), lw_ev T k9 e2 (some e69), lw_th T k9 e2 (some e69), lw_vo T k9 e2 (some e69), lw_pl T k9 e2 (some e69), lw_mn T k9 e2 (some e69), lw_te T k9 e2 (some e69), lw_tt T k9 e2 (some e69), lw_tv T k9 e2 (some e69), lw_tf T k9 e2 (some e69), lw_tl T k9 e2 (some e69), lw_tn T k9 e2 (some e69), lw_tm T k9 e2 (some e69), lw_nb T k9 e2 (some e69), lw_bt T k9 e2 (some e69), lw_kd T k9 e2 (some e69), lw_va T k9 e2 (some e69), lw_dt T k9 e2 (some e69), lw_ro T k9 e2 (some e69), lw_tr T k9 e2 (some e69)⟩) ⟨rfl, rfl, rfl, rfl, rfl, rfl, rfl, rfl, rfl, rfl, rfl, rfl, rfl, rfl, rfl, rfl, rfl, rfl, rfl, rfl⟩⟩
          · skip
            refine ZV_aload_n (n := 46) dX11_line_45 rfl rfl rfl ?_
            refine ZV_bipush (v := -4) (n := 48) dX11_line_46 rfl rfl ?_
            refine call_X11_87 (e_refuse hG _) rfl dX11_line_48 rfl (cf_sh hG :).1 (Nat.le_of_ble_eq_true rfl) (Nat.le_of_ble_eq_true rfl) rfl (fun r9 σ9 hp9 => ?_)
            obtain ⟨rfl, hG⟩ := hp9
            refine ZV_iret dX11_line_51 rfl ?_
            exact zlC (v := sNo T (-4)) (by rw [sp_line, if_pos ⟨hk6, hE2, of_decide_eq_true h26⟩, if_pos (by omega)]) rfl ⟨B, K, hG, kI_e hK ⟨rfl, rfl, rfl, rfl, rfl, rfl, rfl, rfl, rfl, rfl, rfl, rfl, rfl, rfl, rfl, rfl, rfl, rfl, rfl, rfl⟩⟩
        · skip
          refine ZV_aload_n (n := 30) dX11_line_29 rfl rfl rfl ?_
          refine ZV_bipush (v := -2) (n := 32) dX11_line_30 rfl rfl ?_
          refine call_X11_87 (e_refuse hG _) rfl dX11_line_32 rfl (cf_sh hG :).1 (Nat.le_of_ble_eq_true rfl) (Nat.le_of_ble_eq_true rfl) rfl (fun r9 σ9 hp9 => ?_)
          obtain ⟨rfl, hG⟩ := hp9
          refine ZV_iret dX11_line_35 rfl ?_
          exact zlC (v := sNo T (-2)) (by rw [sp_line, if_neg (fun z => of_decide_eq_false h26 z.2.2)]) rfl ⟨B, K, hG, kI_e hK ⟨rfl, rfl, rfl, rfl, rfl, rfl, rfl, rfl, rfl, rfl, rfl, rfl, rfl, rfl, rfl, rfl, rfl, rfl, rfl, rfl⟩⟩
set_option maxHeartbeats 4000000 in
set_option maxRecDepth 100000 in
theorem q_rack {c : Nat} {σ : ZS} {T : TS} (hR : cR c σ T) (hI : tI T) (r k n : Int32) : ZC M_X11_rack [Ar (some c), Ai r, Ai k, Ai n] σ (fun y0 τ0 => y0 = some (Ai (sp_rack T r k n).1) ∧ cR c τ0 (sp_rack T r k n).2) := by
  obtain ⟨B, K, hG, hK⟩ := hR
  have hbd := cf_bd hG
  refine ZC_of (ls := [some (Ar (some c)), some (Ai r), some (Ai k), some (Ai n)]) (by decide) (Nat.le_of_ble_eq_true rfl) rfl ?_
  refine ZV_iload_n (n := 1) dX11_rack_0 rfl rfl rfl ?_
  refine call_X11_359 (e_isRowNumber _ _) rfl dX11_rack_1 (Nat.le_of_ble_eq_true rfl) (Nat.le_of_ble_eq_true rfl) rfl (fun r9 σ9 hp9 => ?_)
  obtain ⟨rfl, hs9⟩ := hp9
  subst σ9
  refine ZV_if_eqB (tgt := 22) (n := 7) dX11_rack_4 (by decide) rfl (fun h4 => ?_) (fun h4 => ?_)
  · skip
    refine ZV_aload_n (n := 23) dX11_rack_22 rfl rfl rfl ?_
    refine ZV_bipush (v := -2) (n := 25) dX11_rack_23 rfl rfl ?_
    refine call_X11_87 (e_refuse hG _) rfl dX11_rack_25 rfl (cf_sh hG :).1 (Nat.le_of_ble_eq_true rfl) (Nat.le_of_ble_eq_true rfl) rfl (fun r9 σ9 hp9 => ?_)
    obtain ⟨rfl, hG⟩ := hp9
    refine ZV_iret dX11_rack_28 rfl ?_
    exact zlC (v := sNo T (-2)) (by rw [sp_rack, if_neg (fun z => by rw [h4] at z; cases z.1)]) rfl ⟨B, K, hG, kI_e hK ⟨rfl, rfl, rfl, rfl, rfl, rfl, rfl, rfl, rfl, rfl, rfl, rfl, rfl, rfl, rfl, rfl, rfl, rfl, rfl, rfl⟩⟩
  · skip
    refine ZV_iload_n (n := 8) dX11_rack_7 rfl rfl rfl ?_
    refine ZV_if_lt (tgt := 22) (n := 11) dX11_rack_8 (by decide) rfl (fun h8 => ?_) (fun h8 => ?_)
    · skip
      refine ZV_aload_n (n := 23) dX11_rack_22 rfl rfl rfl ?_
      refine ZV_bipush (v := -2) (n := 25) dX11_rack_23 rfl rfl ?_
      refine call_X11_87 (e_refuse hG _) rfl dX11_rack_25 rfl (cf_sh hG :).1 (Nat.le_of_ble_eq_true rfl) (Nat.le_of_ble_eq_true rfl) rfl (fun r9 σ9 hp9 => ?_)
      obtain ⟨rfl, hG⟩ := hp9
      refine ZV_iret dX11_rack_28 rfl ?_
      exact zlC (v := sNo T (-2)) (by rw [sp_rack, if_neg (fun z => by rw [inB_lt0 _ h8] at z; cases z.2.1)]) rfl ⟨B, K, hG, kI_e hK ⟨rfl, rfl, rfl, rfl, rfl, rfl, rfl, rfl, rfl, rfl, rfl, rfl, rfl, rfl, rfl, rfl, rfl, rfl, rfl, rfl⟩⟩
    · skip
      refine ZV_iload_n (n := 12) dX11_rack_11 rfl rfl rfl ?_
      refine ZV_iconst (v := nI 5) (n := 13) dX11_rack_12 rfl rfl ?_
      refine ZV_icmp_gt (tgt := 22) (n := 16) dX11_rack_13 (by decide) rfl (fun h13 => ?_) (fun h13 => ?_)
      · skip
        refine ZV_aload_n (n := 23) dX11_rack_22 rfl rfl rfl ?_
        refine ZV_bipush (v := -2) (n := 25) dX11_rack_23 rfl rfl ?_
        refine call_X11_87 (e_refuse hG _) rfl dX11_rack_25 rfl (cf_sh hG :).1 (Nat.le_of_ble_eq_true rfl) (Nat.le_of_ble_eq_true rfl) rfl (fun r9 σ9 hp9 => ?_)
        obtain ⟨rfl, hG⟩ := hp9
        refine ZV_iret dX11_rack_28 rfl ?_
        exact zlC (v := sNo T (-2)) (by rw [sp_rack, if_neg (fun z => by rw [inB_gt (by decide) h13] at z; cases z.2.1)]) rfl ⟨B, K, hG, kI_e hK ⟨rfl, rfl, rfl, rfl, rfl, rfl, rfl, rfl, rfl, rfl, rfl, rfl, rfl, rfl, rfl, rfl, rfl, rfl, rfl, rfl⟩⟩
      · skip
        refine ZV_iload_n (n := 17) dX11_rack_16 rfl rfl rfl ?_
        refine ZV_bipush (v := nI 20) (n := 19) dX11_rack_17 rfl rfl ?_
        refine ZV_icmp_le (tgt := 29) (n := 22) dX11_rack_19 (by decide) rfl (fun h19 => ?_) (fun h19 => ?_)
        · skip
          have hk6 := inB_okl (by decide) h8 h13
          obtain ⟨k9, hk9, hk92, rfl⟩ := inB_t hk6
          have hck9 : (nI k9).toNatClampNeg = k9 := nI_clamp hk92
          have hk6 : inB (nI k9) 6 = true := hk6
          obtain ⟨a, ha, ha2, rfl⟩ := inB_t h4
          have hca : (nI a).toNatClampNeg = a := nI_clamp ha2
          have h4 : inB (nI a) 4 = true := h4
          refine ZV_iload_n (n := 30) dX11_rack_29 rfl rfl rfl ?_
          refine ZV_if_ge (tgt := 40) (n := 33) dX11_rack_30 (by decide) rfl (fun h30 => ?_) (fun h30 => ?_)
          · skip
            obtain ⟨n9, hn9, hn92, rfl⟩ := inB_t (inB_okl (m := 20) (by decide) (fun z => Int32.not_lt.mpr h30 z) (Int32.not_lt.mpr h19))
            have hcn : (nI n9).toNatClampNeg = n9 := nI_clamp hn92
            refine ZV_aload_n (n := 41) dX11_rack_40 rfl rfl rfl ?_
            refine ZV_getRv (n := 44) dX11_rack_41 fl_X11_74 rfl rfl rfl (cf_sh hG :).1 (ca_racks (cf_sh hG :)) ?_
            refine ZV_iload_n (n := 45) dX11_rack_44 rfl rfl rfl ?_
            refine ZV_newC (ci := 8) (N := 2) (n := 48) dX11_rack_45 rfl (by decide) rfl wd_1_36 wd_4_42 wd_1_15 ?_
            obtain ⟨b9, hb9⟩ : ∃ b, b = zn σ := ⟨_, rfl⟩
            rw [← hb9]
            have hB9 : B ≤ b9 := by rw [hb9]; exact (cf_B hG).2
            refine ZV_gen (P := fun τ => cG c B τ T K ∧ zk τ b9 = (1, 8) ∧ zn τ = b9 + 1) ⟨cG_ag (zag_new (cf_B hG).2) hG, by rw [hb9]; exact zk_new _ _, by rw [hb9]; rfl⟩ (fun σ hG9 => ?_)
            clear hb9
            obtain ⟨hG, hkb, hzb⟩ := hG9
            refine ZV_dup (n := 49) dX11_rack_48 rfl rfl ?_
            refine ZV_iload_n (n := 50) dX11_rack_49 rfl rfl rfl ?_
            refine ZV_iload_n (n := 51) dX11_rack_50 rfl rfl rfl ?_
            refine ZV_iconst (v := -1) (n := 52) dX11_rack_51 rfl rfl ?_
            refine call_X11_362 (e_X8_init hkb hzb k9 n9 (by omega) (-1)) rfl dX11_rack_52 (Nat.le_of_ble_eq_true rfl) (Nat.le_of_ble_eq_true rfl) rfl (fun r9 σ9 hp9 => ?_)
            obtain ⟨rfl, hN⟩ := hp9
            have hG7 := hG
            have hG := cG_ag (zag_le hB9 hN.1) hG
            refine ZV_aast (c0 := 5) (j := a) (n := 56) dX11_rack_55 rfl (by decide) (fun x9 q9 => by cases q9; exact ⟨8, hN.2.2.1, by decide, Or.inl rfl⟩) rfl (ck_racks (cf_sh hG :)) rfl (by omega) ?_
            refine ZV_gen (P := fun τ => cG c _ τ _ _) (U_rk hG7 hB9 hzb hN ha) (fun σ hG => ?_)
            refine ZV_aload_n (n := 57) dX11_rack_56 rfl rfl rfl ?_
            refine ZV_iconst (v := nI 1) (n := 58) dX11_rack_57 rfl rfl ?_
            refine call_X11_98 (e_done hG _) rfl dX11_rack_58 rfl (cf_sh hG :).1 (Nat.le_of_ble_eq_true rfl) (Nat.le_of_ble_eq_true rfl) rfl (fun r9 σ9 hp9 => ?_)
            obtain ⟨rfl, hG⟩ := hp9
            refine ZV_iret dX11_rack_61 rfl ?_
            exact zlC (v := sOk (rkT T a k9 n9) 1) (by rw [sp_rack, if_pos ⟨h4, hk6, h19⟩, if_pos h30, hca, hck9, hcn]; rfl) rfl ⟨_, _, hG, kI_e (T := rkT T a k9 n9) (kI_e (T := T) (K := j_wa K (va_up (k_wa K) a b9)) hK ⟨rw_np T a k9 n9, rw_ev T a k9 n9, rw_th T a k9 n9, rw_vo T a k9 n9, rw_pl T a k9 n9, rw_mn T a k9 n9, rw_te T a k9 n9, rw_tt T a k9 n9, rw_tv T a k9 n9, rw_tf T a k9 n9, rw_tl T a k9 n9, rw_tn T a k9 n9, rw_tm T a k9 n9, rw_nb T a k9 n9, rw_bt T a k9 n9, rw_kd T a k9 n9, rw_va T a k9 n9, rw_dt T a k9 n9, rw_ro T a k9 n9, rw_tr T a k9 n9⟩) ⟨rfl, rfl, rfl, rfl, rfl, rfl, rfl, rfl, rfl, rfl, rfl, rfl, rfl, rfl, rfl, rfl, rfl, rfl, rfl, rfl⟩⟩
          · skip
            refine ZV_aload_n (n := 34) dX11_rack_33 rfl rfl rfl ?_
            refine ZV_bipush (v := -15) (n := 36) dX11_rack_34 rfl rfl ?_
            refine call_X11_180 (e_fail hG (-15) 4 (by decide) rfl) rfl dX11_rack_36 rfl (cf_sh hG :).1 (Nat.le_of_ble_eq_true rfl) (Nat.le_of_ble_eq_true rfl) rfl (fun r9 σ9 hp9 => ?_)
            obtain ⟨rfl, hG⟩ := hp9
            refine ZV_iret dX11_rack_39 rfl ?_
            exact zlC (v := sFl T 4 (-15) (-15)) (by rw [sp_rack, if_pos ⟨h4, hk6, h19⟩, if_neg h30]) rfl ⟨B, K, hG, kI_e hK ⟨rfl, rfl, rfl, rfl, rfl, rfl, rfl, rfl, rfl, rfl, rfl, rfl, rfl, rfl, rfl, rfl, rfl, rfl, rfl, rfl⟩⟩
        · skip
          refine ZV_aload_n (n := 23) dX11_rack_22 rfl rfl rfl ?_
          refine ZV_bipush (v := -2) (n := 25) dX11_rack_23 rfl rfl ?_
          refine call_X11_87 (e_refuse hG _) rfl dX11_rack_25 rfl (cf_sh hG :).1 (Nat.le_of_ble_eq_true rfl) (Nat.le_of_ble_eq_true rfl) rfl (fun r9 σ9 hp9 => ?_)
          obtain ⟨rfl, hG⟩ := hp9
          refine ZV_iret dX11_rack_28 rfl ?_
          exact zlC (v := sNo T (-2)) (by rw [sp_rack, if_neg (fun z => absurd z.2.2 h19)]) rfl ⟨B, K, hG, kI_e hK ⟨rfl, rfl, rfl, rfl, rfl, rfl, rfl, rfl, rfl, rfl, rfl, rfl, rfl, rfl, rfl, rfl, rfl, rfl, rfl, rfl⟩⟩
set_option maxHeartbeats 4000000 in
set_option maxRecDepth 100000 in
theorem q_shelf {c : Nat} {σ : ZS} {T : TS} (hR : cR c σ T) (hI : tI T) (r k n : Int32) : ZC M_X11_shelf [Ar (some c), Ai r, Ai k, Ai n] σ (fun y0 τ0 => y0 = some (Ai (sp_shelf T r k n).1) ∧ cR c τ0 (sp_shelf T r k n).2) := by
  obtain ⟨B, K, hG, hK⟩ := hR
  have hbd := cf_bd hG
  refine ZC_of (ls := [some (Ar (some c)), some (Ai r), some (Ai k), some (Ai n)]) (by decide) (Nat.le_of_ble_eq_true rfl) rfl ?_
  refine ZV_iload_n (n := 1) dX11_shelf_0 rfl rfl rfl ?_
  refine call_X11_359 (e_isRowNumber _ _) rfl dX11_shelf_1 (Nat.le_of_ble_eq_true rfl) (Nat.le_of_ble_eq_true rfl) rfl (fun r9 σ9 hp9 => ?_)
  obtain ⟨rfl, hs9⟩ := hp9
  subst σ9
  refine ZV_if_eqB (tgt := 22) (n := 7) dX11_shelf_4 (by decide) rfl (fun h4 => ?_) (fun h4 => ?_)
  · skip
    refine ZV_aload_n (n := 23) dX11_shelf_22 rfl rfl rfl ?_
    refine ZV_bipush (v := -2) (n := 25) dX11_shelf_23 rfl rfl ?_
    refine call_X11_87 (e_refuse hG _) rfl dX11_shelf_25 rfl (cf_sh hG :).1 (Nat.le_of_ble_eq_true rfl) (Nat.le_of_ble_eq_true rfl) rfl (fun r9 σ9 hp9 => ?_)
    obtain ⟨rfl, hG⟩ := hp9
    refine ZV_iret dX11_shelf_28 rfl ?_
    exact zlC (v := sNo T (-2)) (by rw [sp_shelf, if_neg (fun z => by rw [h4] at z; cases z.1)]) rfl ⟨B, K, hG, kI_e hK ⟨rfl, rfl, rfl, rfl, rfl, rfl, rfl, rfl, rfl, rfl, rfl, rfl, rfl, rfl, rfl, rfl, rfl, rfl, rfl, rfl⟩⟩
  · skip
    refine ZV_iload_n (n := 8) dX11_shelf_7 rfl rfl rfl ?_
    refine ZV_if_lt (tgt := 22) (n := 11) dX11_shelf_8 (by decide) rfl (fun h8 => ?_) (fun h8 => ?_)
    · skip
      refine ZV_aload_n (n := 23) dX11_shelf_22 rfl rfl rfl ?_
      refine ZV_bipush (v := -2) (n := 25) dX11_shelf_23 rfl rfl ?_
      refine call_X11_87 (e_refuse hG _) rfl dX11_shelf_25 rfl (cf_sh hG :).1 (Nat.le_of_ble_eq_true rfl) (Nat.le_of_ble_eq_true rfl) rfl (fun r9 σ9 hp9 => ?_)
      obtain ⟨rfl, hG⟩ := hp9
      refine ZV_iret dX11_shelf_28 rfl ?_
      exact zlC (v := sNo T (-2)) (by rw [sp_shelf, if_neg (fun z => by rw [inB_lt0 _ h8] at z; cases z.2.1)]) rfl ⟨B, K, hG, kI_e hK ⟨rfl, rfl, rfl, rfl, rfl, rfl, rfl, rfl, rfl, rfl, rfl, rfl, rfl, rfl, rfl, rfl, rfl, rfl, rfl, rfl⟩⟩
    · skip
      refine ZV_iload_n (n := 12) dX11_shelf_11 rfl rfl rfl ?_
      refine ZV_iconst (v := nI 3) (n := 13) dX11_shelf_12 rfl rfl ?_
      refine ZV_icmp_gt (tgt := 22) (n := 16) dX11_shelf_13 (by decide) rfl (fun h13 => ?_) (fun h13 => ?_)
      · skip
        refine ZV_aload_n (n := 23) dX11_shelf_22 rfl rfl rfl ?_
        refine ZV_bipush (v := -2) (n := 25) dX11_shelf_23 rfl rfl ?_
        refine call_X11_87 (e_refuse hG _) rfl dX11_shelf_25 rfl (cf_sh hG :).1 (Nat.le_of_ble_eq_true rfl) (Nat.le_of_ble_eq_true rfl) rfl (fun r9 σ9 hp9 => ?_)
        obtain ⟨rfl, hG⟩ := hp9
        refine ZV_iret dX11_shelf_28 rfl ?_
        exact zlC (v := sNo T (-2)) (by rw [sp_shelf, if_neg (fun z => by rw [inB_gt (by decide) h13] at z; cases z.2.1)]) rfl ⟨B, K, hG, kI_e hK ⟨rfl, rfl, rfl, rfl, rfl, rfl, rfl, rfl, rfl, rfl, rfl, rfl, rfl, rfl, rfl, rfl, rfl, rfl, rfl, rfl⟩⟩
      · skip
        refine ZV_iload_n (n := 17) dX11_shelf_16 rfl rfl rfl ?_
        refine ZV_bipush (v := nI 60) (n := 19) dX11_shelf_17 rfl rfl ?_
        refine ZV_icmp_le (tgt := 29) (n := 22) dX11_shelf_19 (by decide) rfl (fun h19 => ?_) (fun h19 => ?_)
        · skip
          have hk6 := inB_okl (by decide) h8 h13
          obtain ⟨k9, hk9, hk92, rfl⟩ := inB_t hk6
          have hck9 : (nI k9).toNatClampNeg = k9 := nI_clamp hk92
          have hk6 : inB (nI k9) 4 = true := hk6
          obtain ⟨a, ha, ha2, rfl⟩ := inB_t h4
          have hca : (nI a).toNatClampNeg = a := nI_clamp ha2
          have h4 : inB (nI a) 4 = true := h4
          refine ZV_iload_n (n := 30) dX11_shelf_29 rfl rfl rfl ?_
          refine ZV_if_ge (tgt := 40) (n := 33) dX11_shelf_30 (by decide) rfl (fun h30 => ?_) (fun h30 => ?_)
          · skip
            obtain ⟨n9, hn9, hn92, rfl⟩ := inB_t (inB_okl (m := 60) (by decide) (fun z => Int32.not_lt.mpr h30 z) (Int32.not_lt.mpr h19))
            have hcn : (nI n9).toNatClampNeg = n9 := nI_clamp hn92
            refine ZV_aload_n (n := 41) dX11_shelf_40 rfl rfl rfl ?_
            refine ZV_getRv (n := 44) dX11_shelf_41 fl_X11_78 rfl rfl rfl (cf_sh hG :).1 (ca_shelves (cf_sh hG :)) ?_
            refine ZV_iload_n (n := 45) dX11_shelf_44 rfl rfl rfl ?_
            refine ZV_newC (ci := 8) (N := 2) (n := 48) dX11_shelf_45 rfl (by decide) rfl wd_1_36 wd_4_42 wd_1_15 ?_
            obtain ⟨b9, hb9⟩ : ∃ b, b = zn σ := ⟨_, rfl⟩
            rw [← hb9]
            have hB9 : B ≤ b9 := by rw [hb9]; exact (cf_B hG).2
            refine ZV_gen (P := fun τ => cG c B τ T K ∧ zk τ b9 = (1, 8) ∧ zn τ = b9 + 1) ⟨cG_ag (zag_new (cf_B hG).2) hG, by rw [hb9]; exact zk_new _ _, by rw [hb9]; rfl⟩ (fun σ hG9 => ?_)
            clear hb9
            obtain ⟨hG, hkb, hzb⟩ := hG9
            refine ZV_dup (n := 49) dX11_shelf_48 rfl rfl ?_
            refine ZV_iload_n (n := 50) dX11_shelf_49 rfl rfl rfl ?_
            refine ZV_iload_n (n := 51) dX11_shelf_50 rfl rfl rfl ?_
            refine ZV_iconst (v := nI 0) (n := 52) dX11_shelf_51 rfl rfl ?_
            refine call_X11_362 (e_X8_init hkb hzb k9 n9 (by omega) (nI 0)) rfl dX11_shelf_52 (Nat.le_of_ble_eq_true rfl) (Nat.le_of_ble_eq_true rfl) rfl (fun r9 σ9 hp9 => ?_)
            obtain ⟨rfl, hN⟩ := hp9
            have hG7 := hG
            have hG := cG_ag (zag_le hB9 hN.1) hG
            refine ZV_aast (c0 := 5) (j := a) (n := 56) dX11_shelf_55 rfl (by decide) (fun x9 q9 => by cases q9; exact ⟨8, hN.2.2.1, by decide, Or.inl rfl⟩) rfl (ck_shelves (cf_sh hG :)) rfl (by omega) ?_
            refine ZV_gen (P := fun τ => cG c _ τ _ _) (U_shl hG7 hB9 hzb hN ha) (fun σ hG => ?_)
            refine ZV_aload_n (n := 57) dX11_shelf_56 rfl rfl rfl ?_
            refine ZV_iconst (v := nI 1) (n := 58) dX11_shelf_57 rfl rfl ?_
            refine call_X11_98 (e_done hG _) rfl dX11_shelf_58 rfl (cf_sh hG :).1 (Nat.le_of_ble_eq_true rfl) (Nat.le_of_ble_eq_true rfl) rfl (fun r9 σ9 hp9 => ?_)
            obtain ⟨rfl, hG⟩ := hp9
            refine ZV_iret dX11_shelf_61 rfl ?_
            exact zlC (v := sOk (shlT T a k9 n9) 1) (by rw [sp_shelf, if_pos ⟨h4, hk6, h19⟩, if_pos h30, hca, hck9, hcn]; rfl) rfl ⟨_, _, hG, kI_e (T := shlT T a k9 n9) (kI_e (T := T) (K := j_wa K (va_up (k_wa K) (a + 4) b9)) hK ⟨sw_np T a k9 n9, sw_ev T a k9 n9, sw_th T a k9 n9, sw_vo T a k9 n9, sw_pl T a k9 n9, sw_mn T a k9 n9, sw_te T a k9 n9, sw_tt T a k9 n9, sw_tv T a k9 n9, sw_tf T a k9 n9, sw_tl T a k9 n9, sw_tn T a k9 n9, sw_tm T a k9 n9, sw_nb T a k9 n9, sw_bt T a k9 n9, sw_kd T a k9 n9, sw_va T a k9 n9, sw_dt T a k9 n9, sw_ro T a k9 n9, sw_tr T a k9 n9⟩) ⟨rfl, rfl, rfl, rfl, rfl, rfl, rfl, rfl, rfl, rfl, rfl, rfl, rfl, rfl, rfl, rfl, rfl, rfl, rfl, rfl⟩⟩
          · skip
            refine ZV_aload_n (n := 34) dX11_shelf_33 rfl rfl rfl ?_
            refine ZV_bipush (v := -15) (n := 36) dX11_shelf_34 rfl rfl ?_
            refine call_X11_180 (e_fail hG (-15) 4 (by decide) rfl) rfl dX11_shelf_36 rfl (cf_sh hG :).1 (Nat.le_of_ble_eq_true rfl) (Nat.le_of_ble_eq_true rfl) rfl (fun r9 σ9 hp9 => ?_)
            obtain ⟨rfl, hG⟩ := hp9
            refine ZV_iret dX11_shelf_39 rfl ?_
            exact zlC (v := sFl T 4 (-15) (-15)) (by rw [sp_shelf, if_pos ⟨h4, hk6, h19⟩, if_neg h30]) rfl ⟨B, K, hG, kI_e hK ⟨rfl, rfl, rfl, rfl, rfl, rfl, rfl, rfl, rfl, rfl, rfl, rfl, rfl, rfl, rfl, rfl, rfl, rfl, rfl, rfl⟩⟩
        · skip
          refine ZV_aload_n (n := 23) dX11_shelf_22 rfl rfl rfl ?_
          refine ZV_bipush (v := -2) (n := 25) dX11_shelf_23 rfl rfl ?_
          refine call_X11_87 (e_refuse hG _) rfl dX11_shelf_25 rfl (cf_sh hG :).1 (Nat.le_of_ble_eq_true rfl) (Nat.le_of_ble_eq_true rfl) rfl (fun r9 σ9 hp9 => ?_)
          obtain ⟨rfl, hG⟩ := hp9
          refine ZV_iret dX11_shelf_28 rfl ?_
          exact zlC (v := sNo T (-2)) (by rw [sp_shelf, if_neg (fun z => absurd z.2.2 h19)]) rfl ⟨B, K, hG, kI_e hK ⟨rfl, rfl, rfl, rfl, rfl, rfl, rfl, rfl, rfl, rfl, rfl, rfl, rfl, rfl, rfl, rfl, rfl, rfl, rfl, rfl⟩⟩
