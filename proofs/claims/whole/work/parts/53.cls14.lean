set_option maxHeartbeats 4000000 in
set_option maxRecDepth 100000 in
theorem q_tupletAt {c : Nat} {σ : ZS} {T : TS} (hR : cR c σ T) (hI : tI T) (t w : Int32) : ZC M_X11_tupletAt [Ar (some c), Ai t, Ai w] σ (fun y0 τ0 => y0 = some (Ai (sp_tupletAt T t w).1) ∧ cR c τ0 (sp_tupletAt T t w).2) := by
  obtain ⟨B, K, hG, hK⟩ := hR
  have hbd := cf_bd hG
  refine ZC_of (ls := [some (Ar (some c)), some (Ai t), some (Ai w), none]) (by decide) (Nat.le_of_ble_eq_true rfl) rfl ?_
  refine ZV_aload_n (n := 1) dX11_tupletAt_0 rfl rfl rfl ?_
  refine ZV_iload_n (n := 2) dX11_tupletAt_1 rfl rfl rfl ?_
  refine call_X11_284 (e_tupletOf hG _) rfl dX11_tupletAt_2 rfl (cf_sh hG :).1 (Nat.le_of_ble_eq_true rfl) (Nat.le_of_ble_eq_true rfl) rfl (fun r9 σ9 hp9 => ?_)
  obtain ⟨hs9, hp9⟩ := hp9
  subst σ9
  rcases hp9 with ⟨hv2, hr9⟩ | ⟨t2, he2, ht2, hn2, hr9⟩
  · skip
    subst hr9
    refine ZV_astore_3 (n := 6) dX11_tupletAt_5 rfl (Nat.le_of_ble_eq_true rfl) rfl ?_
    refine ZV_aload_n (n := 7) dX11_tupletAt_6 rfl rfl rfl ?_
    refine ZV_ifnonnull_n (tgt := 17) (n := 10) dX11_tupletAt_7 (by decide) rfl ?_
    refine ZV_aload_n (n := 11) dX11_tupletAt_10 rfl rfl rfl ?_
    refine ZV_bipush (v := -2) (n := 13) dX11_tupletAt_11 rfl rfl ?_
    refine call_X11_87 (e_refuse hG _) rfl dX11_tupletAt_13 rfl (cf_sh hG :).1 (Nat.le_of_ble_eq_true rfl) (Nat.le_of_ble_eq_true rfl) rfl (fun r9 σ9 hp9 => ?_)
    obtain ⟨rfl, hG⟩ := hp9
    refine ZV_iret dX11_tupletAt_16 rfl ?_
    exact zlC (v := sNo T (-2)) (by simp [sp_tupletAt, hv2]) rfl ⟨B, K, hG, kI_e hK ⟨rfl, rfl, rfl, rfl, rfl, rfl, rfl, rfl, rfl, rfl, rfl, rfl, rfl, rfl, rfl, rfl, rfl, rfl, rfl, rfl⟩⟩
  · skip
    subst hr9
    subst hn2
    have hE2 : tpB T (nI t2) = true := by unfold tpB; rw [inB_nI (by omega), nI_clamp (by omega), decide_eq_true he2, ht2]; rfl
    have hkt2 := ki_kT hK _ he2 ht2
    have htb2 := kt_b hI hK he2 ht2
    have hvt2 := tv_lt hI he2 ht2
    have hc2 : (nI t2).toNatClampNeg = t2 := nI_clamp (by omega)
    refine ZV_astore_3 (n := 6) dX11_tupletAt_5 rfl (Nat.le_of_ble_eq_true rfl) rfl ?_
    refine ZV_aload_n (n := 7) dX11_tupletAt_6 rfl rfl rfl ?_
    refine ZV_ifnonnull_s (tgt := 17) dX11_tupletAt_7 (by decide) ?_
    refine ZV_iload_n (n := 18) dX11_tupletAt_17 rfl rfl rfl ?_
    by_cases h18_0 : w = nI 0
    · subst h18_0
      refine ZV_tableIn (tgt := 60) dX11_tupletAt_18 (by decide) (by decide) rfl (by decide) ?_
      refine ZV_aload_n (n := 61) dX11_tupletAt_60 rfl rfl rfl ?_
      refine ZV_aload_n (n := 62) dX11_tupletAt_61 rfl rfl rfl ?_
      refine ZV_getRv (n := 65) dX11_tupletAt_62 fl_X11_140 rfl rfl rfl (cf_tk hG t2 he2).1 (cf_to hG t2 he2 ht2) ?_
      refine ZV_getIv (n := 68) dX11_tupletAt_65 fl_X11_235 rfl rfl rfl (cf_vk hG (g_tv T t2) hvt2).1 (cf_vn hG (g_tv T t2) hvt2) ?_
      refine call_X11_98 (e_done hG _) rfl dX11_tupletAt_68 rfl (cf_sh hG :).1 (Nat.le_of_ble_eq_true rfl) (Nat.le_of_ble_eq_true rfl) rfl (fun r9 σ9 hp9 => ?_)
      obtain ⟨rfl, hG⟩ := hp9
      refine ZV_iret dX11_tupletAt_71 rfl ?_
      exact zlC (v := sOk T (nI (g_tv T t2))) (by rw [sp_tupletAt, if_pos ⟨hE2, rfl⟩]; simp only [hc2]; rfl) (rfl) ⟨B, K, hG, kI_e hK ⟨rfl, rfl, rfl, rfl, rfl, rfl, rfl, rfl, rfl, rfl, rfl, rfl, rfl, rfl, rfl, rfl, rfl, rfl, rfl, rfl⟩⟩
    by_cases h18_1 : w = nI 1
    · subst h18_1
      refine ZV_tableIn (tgt := 72) dX11_tupletAt_18 (by decide) (by decide) rfl (by decide) ?_
      refine ZV_aload_n (n := 73) dX11_tupletAt_72 rfl rfl rfl ?_
      refine ZV_aload_n (n := 74) dX11_tupletAt_73 rfl rfl rfl ?_
      refine ZV_getIv (n := 77) dX11_tupletAt_74 fl_X11_291 rfl rfl rfl (cf_tk hG t2 he2).1 (cf_t1 hG t2 he2) ?_
      refine call_X11_98 (e_done hG _) rfl dX11_tupletAt_77 rfl (cf_sh hG :).1 (Nat.le_of_ble_eq_true rfl) (Nat.le_of_ble_eq_true rfl) rfl (fun r9 σ9 hp9 => ?_)
      obtain ⟨rfl, hG⟩ := hp9
      refine ZV_iret dX11_tupletAt_80 rfl ?_
      exact zlC (v := sOk T (nI (g_pl T (g_tf T t2)))) (by rw [sp_tupletAt, if_pos ⟨hE2, rfl⟩]; simp only [hc2]; rfl) (by rw [hkt2.1]; rfl) ⟨B, K, hG, kI_e hK ⟨rfl, rfl, rfl, rfl, rfl, rfl, rfl, rfl, rfl, rfl, rfl, rfl, rfl, rfl, rfl, rfl, rfl, rfl, rfl, rfl⟩⟩
    by_cases h18_2 : w = nI 2
    · subst h18_2
      refine ZV_tableIn (tgt := 81) dX11_tupletAt_18 (by decide) (by decide) rfl (by decide) ?_
      refine ZV_aload_n (n := 82) dX11_tupletAt_81 rfl rfl rfl ?_
      refine ZV_aload_n (n := 83) dX11_tupletAt_82 rfl rfl rfl ?_
      refine ZV_getIv (n := 86) dX11_tupletAt_83 fl_X11_288 rfl rfl rfl (cf_tk hG t2 he2).1 (cf_t2 hG t2 he2) ?_
      refine call_X11_98 (e_done hG _) rfl dX11_tupletAt_86 rfl (cf_sh hG :).1 (Nat.le_of_ble_eq_true rfl) (Nat.le_of_ble_eq_true rfl) rfl (fun r9 σ9 hp9 => ?_)
      obtain ⟨rfl, hG⟩ := hp9
      refine ZV_iret dX11_tupletAt_89 rfl ?_
      exact zlC (v := sOk T (nI (szT T t2))) (by rw [sp_tupletAt, if_pos ⟨hE2, rfl⟩]; simp only [hc2]; rfl) (by rw [hkt2.2]; rfl) ⟨B, K, hG, kI_e hK ⟨rfl, rfl, rfl, rfl, rfl, rfl, rfl, rfl, rfl, rfl, rfl, rfl, rfl, rfl, rfl, rfl, rfl, rfl, rfl, rfl⟩⟩
    by_cases h18_3 : w = nI 3
    · subst h18_3
      refine ZV_tableIn (tgt := 90) dX11_tupletAt_18 (by decide) (by decide) rfl (by decide) ?_
      refine ZV_aload_n (n := 91) dX11_tupletAt_90 rfl rfl rfl ?_
      refine ZV_aload_n (n := 92) dX11_tupletAt_91 rfl rfl rfl ?_
      refine ZV_getIv (n := 95) dX11_tupletAt_92 fl_X11_294 rfl rfl rfl (cf_tk hG t2 he2).1 (cf_tn hG t2 he2) ?_
      refine call_X11_98 (e_done hG _) rfl dX11_tupletAt_95 rfl (cf_sh hG :).1 (Nat.le_of_ble_eq_true rfl) (Nat.le_of_ble_eq_true rfl) rfl (fun r9 σ9 hp9 => ?_)
      obtain ⟨rfl, hG⟩ := hp9
      refine ZV_iret dX11_tupletAt_98 rfl ?_
      exact zlC (v := sOk T (nI (g_tn T t2))) (by rw [sp_tupletAt, if_pos ⟨hE2, rfl⟩]; simp only [hc2]; rfl) (rfl) ⟨B, K, hG, kI_e hK ⟨rfl, rfl, rfl, rfl, rfl, rfl, rfl, rfl, rfl, rfl, rfl, rfl, rfl, rfl, rfl, rfl, rfl, rfl, rfl, rfl⟩⟩
    by_cases h18_4 : w = nI 4
    · subst h18_4
      refine ZV_tableIn (tgt := 99) dX11_tupletAt_18 (by decide) (by decide) rfl (by decide) ?_
      refine ZV_aload_n (n := 100) dX11_tupletAt_99 rfl rfl rfl ?_
      refine ZV_aload_n (n := 101) dX11_tupletAt_100 rfl rfl rfl ?_
      refine ZV_getIv (n := 104) dX11_tupletAt_101 fl_X11_297 rfl rfl rfl (cf_tk hG t2 he2).1 (cf_tm hG t2 he2) ?_
      refine call_X11_98 (e_done hG _) rfl dX11_tupletAt_104 rfl (cf_sh hG :).1 (Nat.le_of_ble_eq_true rfl) (Nat.le_of_ble_eq_true rfl) rfl (fun r9 σ9 hp9 => ?_)
      obtain ⟨rfl, hG⟩ := hp9
      refine ZV_iret dX11_tupletAt_107 rfl ?_
      exact zlC (v := sOk T (nI (g_tm T t2))) (by rw [sp_tupletAt, if_pos ⟨hE2, rfl⟩]; simp only [hc2]; rfl) (rfl) ⟨B, K, hG, kI_e hK ⟨rfl, rfl, rfl, rfl, rfl, rfl, rfl, rfl, rfl, rfl, rfl, rfl, rfl, rfl, rfl, rfl, rfl, rfl, rfl, rfl⟩⟩
    by_cases h18_5 : w = nI 5
    · subst h18_5
      refine ZV_tableIn (tgt := 108) dX11_tupletAt_18 (by decide) (by decide) rfl (by decide) ?_
      refine ZV_aload_n (n := 109) dX11_tupletAt_108 rfl rfl rfl ?_
      refine ZV_aload_n (n := 110) dX11_tupletAt_109 rfl rfl rfl ?_
      refine ZV_getIv (n := 113) dX11_tupletAt_110 fl_X11_300 rfl rfl rfl (cf_tk hG t2 he2).1 (cf_tu hG t2 he2) ?_
      refine call_X11_98 (e_done hG _) rfl dX11_tupletAt_113 rfl (cf_sh hG :).1 (Nat.le_of_ble_eq_true rfl) (Nat.le_of_ble_eq_true rfl) rfl (fun r9 σ9 hp9 => ?_)
      obtain ⟨rfl, hG⟩ := hp9
      refine ZV_iret dX11_tupletAt_116 rfl ?_
      exact zlC (v := sOk T (nI (g_tu T t2))) (by rw [sp_tupletAt, if_pos ⟨hE2, rfl⟩]; simp only [hc2]; rfl) (rfl) ⟨B, K, hG, kI_e hK ⟨rfl, rfl, rfl, rfl, rfl, rfl, rfl, rfl, rfl, rfl, rfl, rfl, rfl, rfl, rfl, rfl, rfl, rfl, rfl, rfl⟩⟩
    by_cases h18_6 : w = nI 6
    · subst h18_6
      refine ZV_tableIn (tgt := 117) dX11_tupletAt_18 (by decide) (by decide) rfl (by decide) ?_
      refine ZV_aload_n (n := 118) dX11_tupletAt_117 rfl rfl rfl ?_
      refine ZV_aload_n (n := 119) dX11_tupletAt_118 rfl rfl rfl ?_
      refine ZV_aload_n (n := 120) dX11_tupletAt_119 rfl rfl rfl ?_
      refine call_X11_303 (e_tupletsAround hG hI hK he2 ht2) rfl dX11_tupletAt_120 rfl (cf_sh hG :).1 (Nat.le_of_ble_eq_true rfl) (Nat.le_of_ble_eq_true rfl) rfl (fun r9 σ9 hp9 => ?_)
      obtain ⟨rfl, hs9⟩ := hp9
      subst σ9
      refine call_X11_98 (e_done hG _) rfl dX11_tupletAt_123 rfl (cf_sh hG :).1 (Nat.le_of_ble_eq_true rfl) (Nat.le_of_ble_eq_true rfl) rfl (fun r9 σ9 hp9 => ?_)
      obtain ⟨rfl, hG⟩ := hp9
      refine ZV_iret dX11_tupletAt_126 rfl ?_
      exact zlC (v := sOk T (nI (zcnt (inI T t2) (g_te T)))) (by rw [sp_tupletAt, if_pos ⟨hE2, rfl⟩]; simp only [hc2]; rfl) (rfl) ⟨B, K, hG, kI_e hK ⟨rfl, rfl, rfl, rfl, rfl, rfl, rfl, rfl, rfl, rfl, rfl, rfl, rfl, rfl, rfl, rfl, rfl, rfl, rfl, rfl⟩⟩
    have g18_0 := zne_toInt h18_0 (by decide)
    have g18_1 := zne_toInt h18_1 (by decide)
    have g18_2 := zne_toInt h18_2 (by decide)
    have g18_3 := zne_toInt h18_3 (by decide)
    have g18_4 := zne_toInt h18_4 (by decide)
    have g18_5 := zne_toInt h18_5 (by decide)
    have g18_6 := zne_toInt h18_6 (by decide)
    refine ZV_tableOut (tgt := 127) dX11_tupletAt_18 (by omega) (by decide) ?_
    have hw9 : inB w 7 = false := decide_eq_false (by omega)
    refine ZV_aload_n (n := 128) dX11_tupletAt_127 rfl rfl rfl ?_
    refine ZV_bipush (v := -2) (n := 130) dX11_tupletAt_128 rfl rfl ?_
    refine call_X11_87 (e_refuse hG _) rfl dX11_tupletAt_130 rfl (cf_sh hG :).1 (Nat.le_of_ble_eq_true rfl) (Nat.le_of_ble_eq_true rfl) rfl (fun r9 σ9 hp9 => ?_)
    obtain ⟨rfl, hG⟩ := hp9
    refine ZV_iret dX11_tupletAt_133 rfl ?_
    exact zlC (v := sNo T (-2)) (by simp [sp_tupletAt, hE2, hc2, h18_0, h18_1, h18_2, h18_3, h18_4, h18_5, h18_6, hw9]) rfl ⟨B, K, hG, kI_e hK ⟨rfl, rfl, rfl, rfl, rfl, rfl, rfl, rfl, rfl, rfl, rfl, rfl, rfl, rfl, rfl, rfl, rfl, rfl, rfl, rfl⟩⟩
set_option maxHeartbeats 4000000 in
set_option maxRecDepth 100000 in
theorem q_lineAt {c : Nat} {σ : ZS} {T : TS} (hR : cR c σ T) (hI : tI T) (l w : Int32) : ZC M_X11_lineAt [Ar (some c), Ai l, Ai w] σ (fun y0 τ0 => y0 = some (Ai (sp_lineAt T l w).1) ∧ cR c τ0 (sp_lineAt T l w).2) := by
  obtain ⟨B, K, hG, hK⟩ := hR
  have hbd := cf_bd hG
  refine ZC_of (ls := [some (Ar (some c)), some (Ai l), some (Ai w), none]) (by decide) (Nat.le_of_ble_eq_true rfl) rfl ?_
  refine ZV_aload_n (n := 1) dX11_lineAt_0 rfl rfl rfl ?_
  refine ZV_iload_n (n := 2) dX11_lineAt_1 rfl rfl rfl ?_
  refine call_X11_313 (e_lineOf hG _) rfl dX11_lineAt_2 rfl (cf_sh hG :).1 (Nat.le_of_ble_eq_true rfl) (Nat.le_of_ble_eq_true rfl) rfl (fun r9 σ9 hp9 => ?_)
  obtain ⟨hs9, hp9⟩ := hp9
  subst σ9
  rcases hp9 with ⟨hv2, hr9⟩ | ⟨l2, he2, ht2, hn2, hr9⟩
  · skip
    subst hr9
    refine ZV_astore_3 (n := 6) dX11_lineAt_5 rfl (Nat.le_of_ble_eq_true rfl) rfl ?_
    refine ZV_aload_n (n := 7) dX11_lineAt_6 rfl rfl rfl ?_
    refine ZV_ifnonnull_n (tgt := 17) (n := 10) dX11_lineAt_7 (by decide) rfl ?_
    refine ZV_aload_n (n := 11) dX11_lineAt_10 rfl rfl rfl ?_
    refine ZV_bipush (v := -2) (n := 13) dX11_lineAt_11 rfl rfl ?_
    refine call_X11_87 (e_refuse hG _) rfl dX11_lineAt_13 rfl (cf_sh hG :).1 (Nat.le_of_ble_eq_true rfl) (Nat.le_of_ble_eq_true rfl) rfl (fun r9 σ9 hp9 => ?_)
    obtain ⟨rfl, hG⟩ := hp9
    refine ZV_iret dX11_lineAt_16 rfl ?_
    exact zlC (v := sNo T (-2)) (by simp [sp_lineAt, hv2]) rfl ⟨B, K, hG, kI_e hK ⟨rfl, rfl, rfl, rfl, rfl, rfl, rfl, rfl, rfl, rfl, rfl, rfl, rfl, rfl, rfl, rfl, rfl, rfl, rfl, rfl⟩⟩
  · skip
    subst hr9
    subst hn2
    have hE2 : lnB T (nI l2) = true := by unfold lnB; rw [inB_nI (by omega), nI_clamp (by omega), decide_eq_true he2, ht2]; rfl
    have hc2 : (nI l2).toNatClampNeg = l2 := nI_clamp (by omega)
    refine ZV_astore_3 (n := 6) dX11_lineAt_5 rfl (Nat.le_of_ble_eq_true rfl) rfl ?_
    refine ZV_aload_n (n := 7) dX11_lineAt_6 rfl rfl rfl ?_
    refine ZV_ifnonnull_s (tgt := 17) dX11_lineAt_7 (by decide) ?_
    refine ZV_iload_n (n := 18) dX11_lineAt_17 rfl rfl rfl ?_
    by_cases h18_0 : w = nI 0
    · subst h18_0
      refine ZV_tableIn (tgt := 44) dX11_lineAt_18 (by decide) (by decide) rfl (by decide) ?_
      refine ZV_aload_n (n := 45) dX11_lineAt_44 rfl rfl rfl ?_
      refine ZV_aload_n (n := 46) dX11_lineAt_45 rfl rfl rfl ?_
      refine ZV_getIv (n := 49) dX11_lineAt_46 fl_X11_321 rfl rfl rfl (cf_lk hG l2 he2).1 (cf_lj hG l2 he2) ?_
      refine call_X11_98 (e_done hG _) rfl dX11_lineAt_49 rfl (cf_sh hG :).1 (Nat.le_of_ble_eq_true rfl) (Nat.le_of_ble_eq_true rfl) rfl (fun r9 σ9 hp9 => ?_)
      obtain ⟨rfl, hG⟩ := hp9
      refine ZV_iret dX11_lineAt_52 rfl ?_
      exact zlC (v := sOk T (nI (g_lk T l2))) (by rw [sp_lineAt, if_pos ⟨hE2, rfl⟩]; simp only [hc2]; rfl) (rfl) ⟨B, K, hG, kI_e hK ⟨rfl, rfl, rfl, rfl, rfl, rfl, rfl, rfl, rfl, rfl, rfl, rfl, rfl, rfl, rfl, rfl, rfl, rfl, rfl, rfl⟩⟩
    by_cases h18_1 : w = nI 1
    · subst h18_1
      refine ZV_tableIn (tgt := 53) dX11_lineAt_18 (by decide) (by decide) rfl (by decide) ?_
      refine ZV_aload_n (n := 54) dX11_lineAt_53 rfl rfl rfl ?_
      refine ZV_aload_n (n := 55) dX11_lineAt_54 rfl rfl rfl ?_
      refine ZV_getRv (n := 58) dX11_lineAt_55 fl_X11_322 rfl rfl rfl (cf_lk hG l2 he2).1 (cf_lf hG l2 he2 ht2) ?_
      refine ZV_getIv (n := 61) dX11_lineAt_58 fl_X11_152 rfl rfl rfl (cf_ek hG (g_lf T l2) (ti_lf hI l2 he2 ht2).1).1 (cf_en hG (g_lf T l2) (ti_lf hI l2 he2 ht2).1) ?_
      refine call_X11_98 (e_done hG _) rfl dX11_lineAt_61 rfl (cf_sh hG :).1 (Nat.le_of_ble_eq_true rfl) (Nat.le_of_ble_eq_true rfl) rfl (fun r9 σ9 hp9 => ?_)
      obtain ⟨rfl, hG⟩ := hp9
      refine ZV_iret dX11_lineAt_64 rfl ?_
      exact zlC (v := sOk T (nI (g_lf T l2))) (by rw [sp_lineAt, if_pos ⟨hE2, rfl⟩]; simp only [hc2]; rfl) (rfl) ⟨B, K, hG, kI_e hK ⟨rfl, rfl, rfl, rfl, rfl, rfl, rfl, rfl, rfl, rfl, rfl, rfl, rfl, rfl, rfl, rfl, rfl, rfl, rfl, rfl⟩⟩
    by_cases h18_2 : w = nI 2
    · subst h18_2
      refine ZV_tableIn (tgt := 65) dX11_lineAt_18 (by decide) (by decide) rfl (by decide) ?_
      refine ZV_aload_n (n := 66) dX11_lineAt_65 rfl rfl rfl ?_
      refine ZV_aload_n (n := 67) dX11_lineAt_66 rfl rfl rfl ?_
      rcases h67o : g_lo T l2 with _ | o67
      · skip
        refine ZV_getRv (w := none) (n := 70) dX11_lineAt_67 fl_X11_317 rfl rfl rfl (cf_lk hG l2 he2).1 (Eq.trans (cf_lo hG l2 he2 ht2) (by rw [h67o]; rfl)) ?_
        refine ZV_ifnonnull_n (tgt := 77) (n := 73) dX11_lineAt_70 (by decide) rfl ?_
        refine ZV_iconst (v := -1) (n := 74) dX11_lineAt_73 rfl rfl ?_
        refine ZV_goto (tgt := 84) dX11_lineAt_74 (by decide) ?_
        refine call_X11_98 (e_done hG _) rfl dX11_lineAt_84 rfl (cf_sh hG :).1 (Nat.le_of_ble_eq_true rfl) (Nat.le_of_ble_eq_true rfl) rfl (fun r9 σ9 hp9 => ?_)
        obtain ⟨rfl, hG⟩ := hp9
        refine ZV_iret dX11_lineAt_87 rfl ?_
        exact zlC (v := sOk T (oI (g_lo T l2))) (by rw [sp_lineAt, if_pos ⟨hE2, rfl⟩]; simp only [hc2]; rfl) (by rw [h67o]; rfl) ⟨B, K, hG, kI_e hK ⟨rfl, rfl, rfl, rfl, rfl, rfl, rfl, rfl, rfl, rfl, rfl, rfl, rfl, rfl, rfl, rfl, rfl, rfl, rfl, rfl⟩⟩
      · skip
        have ho9 := ti_lo hI l2 o67 he2 ht2 h67o
        refine ZV_getRv (w := some (k_ea K o67)) (n := 70) dX11_lineAt_67 fl_X11_317 rfl rfl rfl (cf_lk hG l2 he2).1 (Eq.trans (cf_lo hG l2 he2 ht2) (by rw [h67o]; rfl)) ?_
        refine ZV_ifnonnull_s (tgt := 77) dX11_lineAt_70 (by decide) ?_
        refine ZV_aload_n (n := 78) dX11_lineAt_77 rfl rfl rfl ?_
        refine ZV_getRv (w := some (k_ea K o67)) (n := 81) dX11_lineAt_78 fl_X11_317 rfl rfl rfl (cf_lk hG l2 he2).1 ((cf_lo hG l2 he2 ht2).trans (by rw [h67o]; rfl)) ?_
        refine ZV_getIv (n := 84) dX11_lineAt_81 fl_X11_152 rfl rfl rfl (cf_ek hG o67 ho9.1).1 (cf_en hG o67 ho9.1) ?_
        refine call_X11_98 (e_done hG _) rfl dX11_lineAt_84 rfl (cf_sh hG :).1 (Nat.le_of_ble_eq_true rfl) (Nat.le_of_ble_eq_true rfl) rfl (fun r9 σ9 hp9 => ?_)
        obtain ⟨rfl, hG⟩ := hp9
        refine ZV_iret dX11_lineAt_87 rfl ?_
        exact zlC (v := sOk T (oI (g_lo T l2))) (by rw [sp_lineAt, if_pos ⟨hE2, rfl⟩]; simp only [hc2]; rfl) (by rw [h67o]; rfl) ⟨B, K, hG, kI_e hK ⟨rfl, rfl, rfl, rfl, rfl, rfl, rfl, rfl, rfl, rfl, rfl, rfl, rfl, rfl, rfl, rfl, rfl, rfl, rfl, rfl⟩⟩
    have g18_0 := zne_toInt h18_0 (by decide)
    have g18_1 := zne_toInt h18_1 (by decide)
    have g18_2 := zne_toInt h18_2 (by decide)
    refine ZV_tableOut (tgt := 88) dX11_lineAt_18 (by omega) (by decide) ?_
    have hw9 : inB w 3 = false := decide_eq_false (by omega)
    refine ZV_aload_n (n := 89) dX11_lineAt_88 rfl rfl rfl ?_
    refine ZV_bipush (v := -2) (n := 91) dX11_lineAt_89 rfl rfl ?_
    refine call_X11_87 (e_refuse hG _) rfl dX11_lineAt_91 rfl (cf_sh hG :).1 (Nat.le_of_ble_eq_true rfl) (Nat.le_of_ble_eq_true rfl) rfl (fun r9 σ9 hp9 => ?_)
    obtain ⟨rfl, hG⟩ := hp9
    refine ZV_iret dX11_lineAt_94 rfl ?_
    exact zlC (v := sNo T (-2)) (by simp [sp_lineAt, hE2, hc2, h18_0, h18_1, h18_2, hw9]) rfl ⟨B, K, hG, kI_e hK ⟨rfl, rfl, rfl, rfl, rfl, rfl, rfl, rfl, rfl, rfl, rfl, rfl, rfl, rfl, rfl, rfl, rfl, rfl, rfl, rfl⟩⟩
theorem tm_lt {T : TS} (hI : tI T) (e : Nat) : tmT T e < 9223372036854775808 := by
  have := tmF_big hI e (Nat.le_refl (g_te T))
  unfold tmT
  omega
theorem m2l : ((-2 : Int32)).toInt64 = -2 := by decide
theorem bg_ltv {T : TS} (hI : tI T) (v : Nat) : bgF T v (g_mn T v) < 9223372036854775808 := by
  have h1 := bgF_le hI v (g_mn T v)
  have h2 := ti_mn hI v
  have h3 : 34443860000000000 * g_mn T v ≤ 34443860000000000 * 40 := Nat.mul_le_mul_left _ (by omega)
  omega
theorem sb_e {T : TS} (e : Nat) : (match boF T (bgF T (g_vo T e) (g_pl T e)) with
  | none => 0
  | some b => bgF T (g_vo T e) (g_pl T e) - baF T b) = sbF T (bgF T (g_vo T e) (g_pl T e)) := rfl
theorem tiV_e {T : TS} (e w : Nat) : tiV (h_su T 0) e w = tiV T e w := by
  have hg := bgF_e (T := T) (S := h_su T 0) ⟨rfl, rfl, rfl, rfl, rfl, rfl, rfl, rfl, rfl, rfl, rfl, rfl, rfl, rfl, rfl, rfl, rfl, rfl, rfl, rfl⟩
  have ht := tmT_e (T := T) (S := h_su T 0) ⟨rfl, rfl, rfl, rfl, rfl, rfl, rfl, rfl, rfl, rfl, rfl, rfl, rfl, rfl, rfl, rfl, rfl, rfl, rfl, rfl⟩
  have hb := boF_e (T := T) (S := h_su T 0) ⟨rfl, rfl, rfl, rfl, rfl, rfl, rfl, rfl, rfl, rfl, rfl, rfl, rfl, rfl, rfl, rfl, rfl, rfl, rfl, rfl⟩
  have ha := baF_e (T := T) (S := h_su T 0) ⟨rfl, rfl, rfl, rfl, rfl, rfl, rfl, rfl, rfl, rfl, rfl, rfl, rfl, rfl, rfl, rfl, rfl, rfl, rfl, rfl⟩
  unfold tiV
  simp only [hg, ht, hb, ha]
  rfl
set_option maxHeartbeats 4000000 in
set_option maxRecDepth 100000 in
theorem q_time {c : Nat} {σ : ZS} {T : TS} (hR : cR c σ T) (hI : tI T) (e w : Int32) : ZC M_X11_time [Ar (some c), Ai e, Ai w] σ (fun y0 τ0 => y0 = some (Al (sp_time T e w).1) ∧ cR c τ0 (sp_time T e w).2) := by
  obtain ⟨B, K, hG, hK⟩ := hR
  have hbd := cf_bd hG
  refine ZC_of (ls := [some (Ar (some c)), some (Ai e), some (Ai w), none]) (by decide) (Nat.le_of_ble_eq_true rfl) rfl ?_
  refine ZV_aload_n (n := 1) dX11_time_0 rfl rfl rfl ?_
  refine ZV_iload_n (n := 2) dX11_time_1 rfl rfl rfl ?_
  refine call_X11_155 (e_eventOf hG _) rfl dX11_time_2 rfl (cf_sh hG :).1 (Nat.le_of_ble_eq_true rfl) (Nat.le_of_ble_eq_true rfl) rfl (fun r9 σ9 hp9 => ?_)
  obtain ⟨hs9, hp9⟩ := hp9
  subst σ9
  rcases hp9 with ⟨hv2, hr9⟩ | ⟨e2, he2, ht2, hn2, hr9⟩
  · skip
    subst hr9
    refine ZV_astore_3 (n := 6) dX11_time_5 rfl (Nat.le_of_ble_eq_true rfl) rfl ?_
    refine ZV_aload_n (n := 7) dX11_time_6 rfl rfl rfl ?_
    refine ZV_ifnonnull_n (tgt := 18) (n := 10) dX11_time_7 (by decide) rfl ?_
    refine ZV_aload_n (n := 11) dX11_time_10 rfl rfl rfl ?_
    refine ZV_bipush (v := -2) (n := 13) dX11_time_11 rfl rfl ?_
    refine call_X11_87 (e_refuse hG _) rfl dX11_time_13 rfl (cf_sh hG :).1 (Nat.le_of_ble_eq_true rfl) (Nat.le_of_ble_eq_true rfl) rfl (fun r9 σ9 hp9 => ?_)
    obtain ⟨rfl, hG⟩ := hp9
    refine ZV_i2l (n := 17) dX11_time_16 rfl ?_
    refine ZV_lret dX11_time_17 rfl ?_
    exact zlCL (v := (-2, h_su T (-2))) (by simp [sp_time, hv2]) (by rw [m2l]) ⟨B, K, hG, kI_e hK ⟨rfl, rfl, rfl, rfl, rfl, rfl, rfl, rfl, rfl, rfl, rfl, rfl, rfl, rfl, rfl, rfl, rfl, rfl, rfl, rfl⟩⟩
  · skip
    subst hr9
    subst hn2
    have hE2 : evB T (nI e2) = true := evB_nI hI he2 ht2
    have hev2 := ti_ev hI
    have hkd2 := ti_kd hI _ he2
    have hpn2 := ti_pn hI e2
    have hpl2 := ki_pl hK _ he2 ht2
    have hpb2 := pl_b hI hK he2 ht2
    have hvo2 := ti_vo hI _ he2
    have hc2 : (nI e2).toNatClampNeg = e2 := nI_clamp (by omega)
    refine ZV_astore_3 (n := 6) dX11_time_5 rfl (Nat.le_of_ble_eq_true rfl) rfl ?_
    refine ZV_aload_n (n := 7) dX11_time_6 rfl rfl rfl ?_
    refine ZV_ifnonnull_s (tgt := 18) dX11_time_7 (by decide) ?_
    refine ZV_iload_n (n := 19) dX11_time_18 rfl rfl rfl ?_
    by_cases h19_0 : w = nI 0
    · subst h19_0
      refine ZV_tableIn (tgt := 56) dX11_time_19 (by decide) (by decide) rfl (by decide) ?_
      refine ZV_aload_n (n := 57) dX11_time_56 rfl rfl rfl ?_
      refine ZV_aload_n (n := 58) dX11_time_57 rfl rfl rfl ?_
      refine ZV_getLv (n := 61) dX11_time_58 fl_X11_240 rfl rfl rfl (cf_ek hG e2 he2).1 (cf_eb hG e2 he2) ?_
      refine call_X11_248 (e_upOf (by rw [ki_bg hK _ he2 ht2]; exact bg_lt hI _ _ (ti_pl hI _ he2 ht2).1)) rfl dX11_time_61 (Nat.le_of_ble_eq_true rfl) (Nat.le_of_ble_eq_true rfl) rfl (fun r9 σ9 hp9 => ?_)
      obtain ⟨rfl, hs9⟩ := hp9
      subst σ9
      refine call_X11_252 (e_doneLong hG _) rfl dX11_time_64 rfl (cf_sh hG :).1 (Nat.le_of_ble_eq_true rfl) (Nat.le_of_ble_eq_true rfl) rfl (fun r9 σ9 hp9 => ?_)
      obtain ⟨rfl, hG⟩ := hp9
      refine ZV_lret dX11_time_67 rfl ?_
      exact zlCL (v := (lN (frT (bgF T (g_vo T e2) (g_pl T e2)) false), h_su T 0)) (by rw [sp_time, if_pos ⟨hE2, rfl⟩, tiV_e, hc2]; rfl) (by rw [ki_bg hK _ he2 ht2]) ⟨B, K, hG, kI_e hK ⟨rfl, rfl, rfl, rfl, rfl, rfl, rfl, rfl, rfl, rfl, rfl, rfl, rfl, rfl, rfl, rfl, rfl, rfl, rfl, rfl⟩⟩
    by_cases h19_1 : w = nI 1
    · subst h19_1
      refine ZV_tableIn (tgt := 68) dX11_time_19 (by decide) (by decide) rfl (by decide) ?_
      refine ZV_aload_n (n := 69) dX11_time_68 rfl rfl rfl ?_
      refine ZV_aload_n (n := 70) dX11_time_69 rfl rfl rfl ?_
      refine ZV_getLv (n := 73) dX11_time_70 fl_X11_240 rfl rfl rfl (cf_ek hG e2 he2).1 (cf_eb hG e2 he2) ?_
      refine call_X11_255 (e_downOf (by rw [ki_bg hK _ he2 ht2]; exact bg_lt hI _ _ (ti_pl hI _ he2 ht2).1)) rfl dX11_time_73 (Nat.le_of_ble_eq_true rfl) (Nat.le_of_ble_eq_true rfl) rfl (fun r9 σ9 hp9 => ?_)
      obtain ⟨rfl, hs9⟩ := hp9
      subst σ9
      refine call_X11_252 (e_doneLong hG _) rfl dX11_time_76 rfl (cf_sh hG :).1 (Nat.le_of_ble_eq_true rfl) (Nat.le_of_ble_eq_true rfl) rfl (fun r9 σ9 hp9 => ?_)
      obtain ⟨rfl, hG⟩ := hp9
      refine ZV_lret dX11_time_79 rfl ?_
      exact zlCL (v := (lN (frT (bgF T (g_vo T e2) (g_pl T e2)) true), h_su T 0)) (by rw [sp_time, if_pos ⟨hE2, rfl⟩, tiV_e, hc2]; rfl) (by rw [ki_bg hK _ he2 ht2]) ⟨B, K, hG, kI_e hK ⟨rfl, rfl, rfl, rfl, rfl, rfl, rfl, rfl, rfl, rfl, rfl, rfl, rfl, rfl, rfl, rfl, rfl, rfl, rfl, rfl⟩⟩
    by_cases h19_2 : w = nI 2
    · subst h19_2
      refine ZV_tableIn (tgt := 80) dX11_time_19 (by decide) (by decide) rfl (by decide) ?_
      refine ZV_aload_n (n := 81) dX11_time_80 rfl rfl rfl ?_
      refine ZV_aload_n (n := 82) dX11_time_81 rfl rfl rfl ?_
      refine ZV_getLv (n := 85) dX11_time_82 fl_X11_258 rfl rfl rfl (cf_ek hG e2 he2).1 (cf_ez hG e2 he2) ?_
      refine call_X11_248 (e_upOf (by rw [ki_ls hK _ he2 ht2]; exact tm_lt hI _)) rfl dX11_time_85 (Nat.le_of_ble_eq_true rfl) (Nat.le_of_ble_eq_true rfl) rfl (fun r9 σ9 hp9 => ?_)
      obtain ⟨rfl, hs9⟩ := hp9
      subst σ9
      refine call_X11_252 (e_doneLong hG _) rfl dX11_time_88 rfl (cf_sh hG :).1 (Nat.le_of_ble_eq_true rfl) (Nat.le_of_ble_eq_true rfl) rfl (fun r9 σ9 hp9 => ?_)
      obtain ⟨rfl, hG⟩ := hp9
      refine ZV_lret dX11_time_91 rfl ?_
      exact zlCL (v := (lN (frT (tmT T e2) false), h_su T 0)) (by rw [sp_time, if_pos ⟨hE2, rfl⟩, tiV_e, hc2]; rfl) (by rw [ki_ls hK _ he2 ht2]) ⟨B, K, hG, kI_e hK ⟨rfl, rfl, rfl, rfl, rfl, rfl, rfl, rfl, rfl, rfl, rfl, rfl, rfl, rfl, rfl, rfl, rfl, rfl, rfl, rfl⟩⟩
    by_cases h19_3 : w = nI 3
    · subst h19_3
      refine ZV_tableIn (tgt := 92) dX11_time_19 (by decide) (by decide) rfl (by decide) ?_
      refine ZV_aload_n (n := 93) dX11_time_92 rfl rfl rfl ?_
      refine ZV_aload_n (n := 94) dX11_time_93 rfl rfl rfl ?_
      refine ZV_getLv (n := 97) dX11_time_94 fl_X11_258 rfl rfl rfl (cf_ek hG e2 he2).1 (cf_ez hG e2 he2) ?_
      refine call_X11_255 (e_downOf (by rw [ki_ls hK _ he2 ht2]; exact tm_lt hI _)) rfl dX11_time_97 (Nat.le_of_ble_eq_true rfl) (Nat.le_of_ble_eq_true rfl) rfl (fun r9 σ9 hp9 => ?_)
      obtain ⟨rfl, hs9⟩ := hp9
      subst σ9
      refine call_X11_252 (e_doneLong hG _) rfl dX11_time_100 rfl (cf_sh hG :).1 (Nat.le_of_ble_eq_true rfl) (Nat.le_of_ble_eq_true rfl) rfl (fun r9 σ9 hp9 => ?_)
      obtain ⟨rfl, hG⟩ := hp9
      refine ZV_lret dX11_time_103 rfl ?_
      exact zlCL (v := (lN (frT (tmT T e2) true), h_su T 0)) (by rw [sp_time, if_pos ⟨hE2, rfl⟩, tiV_e, hc2]; rfl) (by rw [ki_ls hK _ he2 ht2]) ⟨B, K, hG, kI_e hK ⟨rfl, rfl, rfl, rfl, rfl, rfl, rfl, rfl, rfl, rfl, rfl, rfl, rfl, rfl, rfl, rfl, rfl, rfl, rfl, rfl⟩⟩
    by_cases h19_4 : w = nI 4
    · subst h19_4
      refine ZV_tableIn (tgt := 104) dX11_time_19 (by decide) (by decide) rfl (by decide) ?_
      refine ZV_aload_n (n := 105) dX11_time_104 rfl rfl rfl ?_
      refine ZV_aload_n (n := 106) dX11_time_105 rfl rfl rfl ?_
      refine ZV_aload_n (n := 107) dX11_time_106 rfl rfl rfl ?_
      refine ZV_getLv (n := 110) dX11_time_107 fl_X11_240 rfl rfl rfl (cf_ek hG e2 he2).1 (cf_eb hG e2 he2) ?_
      refine call_X11_261 (e_sinceBar hG hI hK (by rw [ki_bg hK _ he2 ht2]; exact bg_lt hI _ _ (ti_pl hI _ he2 ht2).1)) rfl dX11_time_110 rfl (cf_sh hG :).1 (Nat.le_of_ble_eq_true rfl) (Nat.le_of_ble_eq_true rfl) rfl (fun r9 σ9 hp9 => ?_)
      obtain ⟨rfl, hs9⟩ := hp9
      subst σ9
      refine call_X11_248 (e_upOf (Nat.lt_of_le_of_lt sb_lt (by rw [ki_bg hK _ he2 ht2]; exact bg_lt hI _ _ (ti_pl hI _ he2 ht2).1))) rfl dX11_time_113 (Nat.le_of_ble_eq_true rfl) (Nat.le_of_ble_eq_true rfl) rfl (fun r9 σ9 hp9 => ?_)
      obtain ⟨rfl, hs9⟩ := hp9
      subst σ9
      refine call_X11_252 (e_doneLong hG _) rfl dX11_time_116 rfl (cf_sh hG :).1 (Nat.le_of_ble_eq_true rfl) (Nat.le_of_ble_eq_true rfl) rfl (fun r9 σ9 hp9 => ?_)
      obtain ⟨rfl, hG⟩ := hp9
      refine ZV_lret dX11_time_119 rfl ?_
      exact zlCL (v := (lN (frT (sbF T (bgF T (g_vo T e2) (g_pl T e2))) false), h_su T 0)) (by rw [sp_time, if_pos ⟨hE2, rfl⟩, tiV_e, hc2]; rfl) (by rw [ki_bg hK _ he2 ht2]) ⟨B, K, hG, kI_e hK ⟨rfl, rfl, rfl, rfl, rfl, rfl, rfl, rfl, rfl, rfl, rfl, rfl, rfl, rfl, rfl, rfl, rfl, rfl, rfl, rfl⟩⟩
    by_cases h19_5 : w = nI 5
    · subst h19_5
      refine ZV_tableIn (tgt := 120) dX11_time_19 (by decide) (by decide) rfl (by decide) ?_
      refine ZV_aload_n (n := 121) dX11_time_120 rfl rfl rfl ?_
      refine ZV_aload_n (n := 122) dX11_time_121 rfl rfl rfl ?_
      refine ZV_aload_n (n := 123) dX11_time_122 rfl rfl rfl ?_
      refine ZV_getLv (n := 126) dX11_time_123 fl_X11_240 rfl rfl rfl (cf_ek hG e2 he2).1 (cf_eb hG e2 he2) ?_
      refine call_X11_261 (e_sinceBar hG hI hK (by rw [ki_bg hK _ he2 ht2]; exact bg_lt hI _ _ (ti_pl hI _ he2 ht2).1)) rfl dX11_time_126 rfl (cf_sh hG :).1 (Nat.le_of_ble_eq_true rfl) (Nat.le_of_ble_eq_true rfl) rfl (fun r9 σ9 hp9 => ?_)
      obtain ⟨rfl, hs9⟩ := hp9
      subst σ9
      refine call_X11_255 (e_downOf (Nat.lt_of_le_of_lt sb_lt (by rw [ki_bg hK _ he2 ht2]; exact bg_lt hI _ _ (ti_pl hI _ he2 ht2).1))) rfl dX11_time_129 (Nat.le_of_ble_eq_true rfl) (Nat.le_of_ble_eq_true rfl) rfl (fun r9 σ9 hp9 => ?_)
      obtain ⟨rfl, hs9⟩ := hp9
      subst σ9
      refine call_X11_252 (e_doneLong hG _) rfl dX11_time_132 rfl (cf_sh hG :).1 (Nat.le_of_ble_eq_true rfl) (Nat.le_of_ble_eq_true rfl) rfl (fun r9 σ9 hp9 => ?_)
      obtain ⟨rfl, hG⟩ := hp9
      refine ZV_lret dX11_time_135 rfl ?_
      exact zlCL (v := (lN (frT (sbF T (bgF T (g_vo T e2) (g_pl T e2))) true), h_su T 0)) (by rw [sp_time, if_pos ⟨hE2, rfl⟩, tiV_e, hc2]; rfl) (by rw [ki_bg hK _ he2 ht2]) ⟨B, K, hG, kI_e hK ⟨rfl, rfl, rfl, rfl, rfl, rfl, rfl, rfl, rfl, rfl, rfl, rfl, rfl, rfl, rfl, rfl, rfl, rfl, rfl, rfl⟩⟩
    have g19_0 := zne_toInt h19_0 (by decide)
    have g19_1 := zne_toInt h19_1 (by decide)
    have g19_2 := zne_toInt h19_2 (by decide)
    have g19_3 := zne_toInt h19_3 (by decide)
    have g19_4 := zne_toInt h19_4 (by decide)
    have g19_5 := zne_toInt h19_5 (by decide)
    refine ZV_tableOut (tgt := 136) dX11_time_19 (by omega) (by decide) ?_
    have hw9 : inB w 6 = false := decide_eq_false (by omega)
    refine ZV_aload_n (n := 137) dX11_time_136 rfl rfl rfl ?_
    refine ZV_bipush (v := -2) (n := 139) dX11_time_137 rfl rfl ?_
    refine call_X11_87 (e_refuse hG _) rfl dX11_time_139 rfl (cf_sh hG :).1 (Nat.le_of_ble_eq_true rfl) (Nat.le_of_ble_eq_true rfl) rfl (fun r9 σ9 hp9 => ?_)
    obtain ⟨rfl, hG⟩ := hp9
    refine ZV_i2l (n := 143) dX11_time_142 rfl ?_
    refine ZV_lret dX11_time_143 rfl ?_
    exact zlCL (v := (-2, h_su T (-2))) (by simp [sp_time, hw9]) (by rw [m2l]) ⟨B, K, hG, kI_e hK ⟨rfl, rfl, rfl, rfl, rfl, rfl, rfl, rfl, rfl, rfl, rfl, rfl, rfl, rfl, rfl, rfl, rfl, rfl, rfl, rfl⟩⟩
set_option maxHeartbeats 4000000 in
set_option maxRecDepth 100000 in
theorem q_length {c : Nat} {σ : ZS} {T : TS} (hR : cR c σ T) (hI : tI T) (v w : Int32) : ZC M_X11_length [Ar (some c), Ai v, Ai w] σ (fun y0 τ0 => y0 = some (Al (sp_length T v w).1) ∧ cR c τ0 (sp_length T v w).2) := by
  obtain ⟨B, K, hG, hK⟩ := hR
  have hbd := cf_bd hG
  have hg0 := bgF_e (T := T) (S := h_su T 0) ⟨rfl, rfl, rfl, rfl, rfl, rfl, rfl, rfl, rfl, rfl, rfl, rfl, rfl, rfl, rfl, rfl, rfl, rfl, rfl, rfl⟩
  refine ZC_of (ls := [some (Ar (some c)), some (Ai v), some (Ai w), none]) (by decide) (Nat.le_of_ble_eq_true rfl) rfl ?_
  refine ZV_aload_n (n := 1) dX11_length_0 rfl rfl rfl ?_
  refine ZV_iload_n (n := 2) dX11_length_1 rfl rfl rfl ?_
  refine call_X11_112 (e_voiceOf hG _) rfl dX11_length_2 rfl (cf_sh hG :).1 (Nat.le_of_ble_eq_true rfl) (Nat.le_of_ble_eq_true rfl) rfl (fun r9 σ9 hp9 => ?_)
  obtain ⟨hs9, hp9⟩ := hp9
  subst σ9
  rcases hp9 with ⟨hv2, hr9⟩ | ⟨v2, he2, hn2, hr9⟩
  · skip
    subst hr9
    refine ZV_astore_3 (n := 6) dX11_length_5 rfl (Nat.le_of_ble_eq_true rfl) rfl ?_
    refine ZV_aload_n (n := 7) dX11_length_6 rfl rfl rfl ?_
    refine ZV_ifnonnull_n (tgt := 18) (n := 10) dX11_length_7 (by decide) rfl ?_
    refine ZV_aload_n (n := 11) dX11_length_10 rfl rfl rfl ?_
    refine ZV_bipush (v := -2) (n := 13) dX11_length_11 rfl rfl ?_
    refine call_X11_87 (e_refuse hG _) rfl dX11_length_13 rfl (cf_sh hG :).1 (Nat.le_of_ble_eq_true rfl) (Nat.le_of_ble_eq_true rfl) rfl (fun r9 σ9 hp9 => ?_)
    obtain ⟨rfl, hG⟩ := hp9
    refine ZV_i2l (n := 17) dX11_length_16 rfl ?_
    refine ZV_lret dX11_length_17 rfl ?_
    exact zlCL (v := (-2, h_su T (-2))) (by simp [sp_length, hv2]) (by rw [m2l]) ⟨B, K, hG, kI_e hK ⟨rfl, rfl, rfl, rfl, rfl, rfl, rfl, rfl, rfl, rfl, rfl, rfl, rfl, rfl, rfl, rfl, rfl, rfl, rfl, rfl⟩⟩
  · skip
    subst hr9
    subst hn2
    have hE2 : inB (nI v2) (3 * g_np T) = true := by rw [inB_nI (by omega)]; exact decide_eq_true he2
    have hmn2 := ti_mn hI v2
    have hc2 : (nI v2).toNatClampNeg = v2 := nI_clamp (by omega)
    refine ZV_astore_3 (n := 6) dX11_length_5 rfl (Nat.le_of_ble_eq_true rfl) rfl ?_
    refine ZV_aload_n (n := 7) dX11_length_6 rfl rfl rfl ?_
    refine ZV_ifnonnull_s (tgt := 18) dX11_length_7 (by decide) ?_
    refine ZV_iload_n (n := 19) dX11_length_18 rfl rfl rfl ?_
    by_cases h19_0 : w = nI 0
    · subst h19_0
      refine ZV_lookup (tgt := 44) dX11_length_19 (by decide) (off := 25) (by decide) (by decide) ?_
      refine ZV_aload_n (n := 45) dX11_length_44 rfl rfl rfl ?_
      refine ZV_aload_n (n := 46) dX11_length_45 rfl rfl rfl ?_
      refine ZV_getLv (n := 49) dX11_length_46 fl_X11_264 rfl rfl rfl (cf_vk hG v2 he2).1 (cf_vl hG v2 he2) ?_
      refine call_X11_248 (e_upOf (by rw [ki_vl hK _ he2]; exact bg_ltv hI _)) rfl dX11_length_49 (Nat.le_of_ble_eq_true rfl) (Nat.le_of_ble_eq_true rfl) rfl (fun r9 σ9 hp9 => ?_)
      obtain ⟨rfl, hs9⟩ := hp9
      subst σ9
      refine call_X11_252 (e_doneLong hG _) rfl dX11_length_52 rfl (cf_sh hG :).1 (Nat.le_of_ble_eq_true rfl) (Nat.le_of_ble_eq_true rfl) rfl (fun r9 σ9 hp9 => ?_)
      obtain ⟨rfl, hG⟩ := hp9
      refine ZV_lret dX11_length_55 rfl ?_
      exact zlCL (v := (lN (frT (bgF T v2 (g_mn T v2)) false), h_su T 0)) (by rw [sp_length, if_pos ⟨hE2, rfl⟩, hg0, hc2]; rfl) (by rw [ki_vl hK _ he2]) ⟨B, K, hG, kI_e hK ⟨rfl, rfl, rfl, rfl, rfl, rfl, rfl, rfl, rfl, rfl, rfl, rfl, rfl, rfl, rfl, rfl, rfl, rfl, rfl, rfl⟩⟩
    by_cases h19_1 : w = nI 1
    · subst h19_1
      refine ZV_lookup (tgt := 56) dX11_length_19 (by decide) (off := 37) (by decide) (by decide) ?_
      refine ZV_aload_n (n := 57) dX11_length_56 rfl rfl rfl ?_
      refine ZV_aload_n (n := 58) dX11_length_57 rfl rfl rfl ?_
      refine ZV_getLv (n := 61) dX11_length_58 fl_X11_264 rfl rfl rfl (cf_vk hG v2 he2).1 (cf_vl hG v2 he2) ?_
      refine call_X11_255 (e_downOf (by rw [ki_vl hK _ he2]; exact bg_ltv hI _)) rfl dX11_length_61 (Nat.le_of_ble_eq_true rfl) (Nat.le_of_ble_eq_true rfl) rfl (fun r9 σ9 hp9 => ?_)
      obtain ⟨rfl, hs9⟩ := hp9
      subst σ9
      refine call_X11_252 (e_doneLong hG _) rfl dX11_length_64 rfl (cf_sh hG :).1 (Nat.le_of_ble_eq_true rfl) (Nat.le_of_ble_eq_true rfl) rfl (fun r9 σ9 hp9 => ?_)
      obtain ⟨rfl, hG⟩ := hp9
      refine ZV_lret dX11_length_67 rfl ?_
      exact zlCL (v := (lN (frT (bgF T v2 (g_mn T v2)) true), h_su T 0)) (by rw [sp_length, if_pos ⟨hE2, rfl⟩, hg0, hc2]; rfl) (by rw [ki_vl hK _ he2]) ⟨B, K, hG, kI_e hK ⟨rfl, rfl, rfl, rfl, rfl, rfl, rfl, rfl, rfl, rfl, rfl, rfl, rfl, rfl, rfl, rfl, rfl, rfl, rfl, rfl⟩⟩
    have g0 := zne_toInt h19_0 (by decide)
    have g1 := zne_toInt h19_1 (by decide)
    have hw9 : inB w 2 = false := decide_eq_false (by omega)
    refine ZV_lookup (tgt := 68) dX11_length_19 (by decide) (off := 49) (by rw [lv_osw h19_0 (by decide), lv_osw h19_1 (by decide)]; rfl) (by decide) ?_
    refine ZV_aload_n (n := 69) dX11_length_68 rfl rfl rfl ?_
    refine ZV_bipush (v := -2) (n := 71) dX11_length_69 rfl rfl ?_
    refine call_X11_87 (e_refuse hG _) rfl dX11_length_71 rfl (cf_sh hG :).1 (Nat.le_of_ble_eq_true rfl) (Nat.le_of_ble_eq_true rfl) rfl (fun r9 σ9 hp9 => ?_)
    obtain ⟨rfl, hG⟩ := hp9
    refine ZV_i2l (n := 75) dX11_length_74 rfl ?_
    refine ZV_lret dX11_length_75 rfl ?_
    exact zlCL (v := (-2, h_su T (-2))) (by simp [sp_length, hw9]) (by rw [m2l]) ⟨B, K, hG, kI_e hK ⟨rfl, rfl, rfl, rfl, rfl, rfl, rfl, rfl, rfl, rfl, rfl, rfl, rfl, rfl, rfl, rfl, rfl, rfl, rfl, rfl⟩⟩
set_option maxHeartbeats 4000000 in
set_option maxRecDepth 100000 in
theorem q_walked {c : Nat} {σ : ZS} {T : TS} (hR : cR c σ T) (hI : tI T) (i : Int32) : ZC M_X11_walked [Ar (some c), Ai i] σ (fun y0 τ0 => y0 = some (Ai (sp_walked T i).1) ∧ cR c τ0 (sp_walked T i).2) := by
  obtain ⟨B, K, hG, hK⟩ := hR
  have hbd := cf_bd hG
  have hwm := ti_wm hI
  refine ZC_of (ls := [some (Ar (some c)), some (Ai i)]) (by decide) (Nat.le_of_ble_eq_true rfl) rfl ?_
  refine ZV_aload_n (n := 1) dX11_walked_0 rfl rfl rfl ?_
  refine ZV_iload_n (n := 2) dX11_walked_1 rfl rfl rfl ?_
  refine ZV_if_lt (tgt := 13) (n := 5) dX11_walked_2 (by decide) rfl (fun h2 => ?_) (fun h2 => ?_)
  · skip
    refine ZV_iconst (v := -1) (n := 14) dX11_walked_13 rfl rfl ?_
    refine ZV_goto (tgt := 23) dX11_walked_14 (by decide) ?_
    refine call_X11_98 (e_done hG _) rfl dX11_walked_23 rfl (cf_sh hG :).1 (Nat.le_of_ble_eq_true rfl) (Nat.le_of_ble_eq_true rfl) rfl (fun r9 σ9 hp9 => ?_)
    obtain ⟨rfl, hG⟩ := hp9
    refine ZV_iret dX11_walked_26 rfl ?_
    have hi : inB i (g_wm T) = false := inB_lt0 _ h2
    exact zlC (v := sOk T (-1)) (by simp [sp_walked, hi]) rfl ⟨B, K, hG, kI_e hK ⟨rfl, rfl, rfl, rfl, rfl, rfl, rfl, rfl, rfl, rfl, rfl, rfl, rfl, rfl, rfl, rfl, rfl, rfl, rfl, rfl⟩⟩
  · skip
    refine ZV_iload_n (n := 6) dX11_walked_5 rfl rfl rfl ?_
    refine ZV_aload_n (n := 7) dX11_walked_6 rfl rfl rfl ?_
    refine ZV_getIv (n := 10) dX11_walked_7 fl_X11_63 rfl rfl rfl (cf_sh hG :).1 (cf_wm hG :) ?_
    refine ZV_icmp_lt (tgt := 17) (n := 13) dX11_walked_10 (by decide) rfl (fun h10 => ?_) (fun h10 => ?_)
    · skip
      have hi := inB_ok (by omega) h2 h10
      obtain ⟨j, hj, hj2, rfl⟩ := inB_t hi
      have hcj : (nI j).toNatClampNeg = j := nI_clamp hj2
      refine ZV_aload_n (n := 18) dX11_walked_17 rfl rfl rfl ?_
      refine ZV_getRv (n := 21) dX11_walked_18 fl_X11_59 rfl rfl rfl (cf_sh hG :).1 (ca_walkRow (cf_sh hG :)) ?_
      refine ZV_iload_n (n := 22) dX11_walked_21 rfl rfl rfl ?_
      refine ZV_ialdv (j := j) (n := 23) dX11_walked_22 rfl rfl (ck_walkRow (cf_sh hG :)) rfl (by omega) (cf_wr hG j (by omega)) ?_
      refine call_X11_98 (e_done hG _) rfl dX11_walked_23 rfl (cf_sh hG :).1 (Nat.le_of_ble_eq_true rfl) (Nat.le_of_ble_eq_true rfl) rfl (fun r9 σ9 hp9 => ?_)
      obtain ⟨rfl, hG⟩ := hp9
      refine ZV_iret dX11_walked_26 rfl ?_
      exact zlC (v := sOk (T) (nI (g_wr T j))) (by simp [sp_walked, h2, h10, hi, hcj]) rfl ⟨B, K, hG, kI_e hK ⟨rfl, rfl, rfl, rfl, rfl, rfl, rfl, rfl, rfl, rfl, rfl, rfl, rfl, rfl, rfl, rfl, rfl, rfl, rfl, rfl⟩⟩
    · skip
      refine ZV_iconst (v := -1) (n := 14) dX11_walked_13 rfl rfl ?_
      refine ZV_goto (tgt := 23) dX11_walked_14 (by decide) ?_
      refine call_X11_98 (e_done hG _) rfl dX11_walked_23 rfl (cf_sh hG :).1 (Nat.le_of_ble_eq_true rfl) (Nat.le_of_ble_eq_true rfl) rfl (fun r9 σ9 hp9 => ?_)
      obtain ⟨rfl, hG⟩ := hp9
      refine ZV_iret dX11_walked_26 rfl ?_
      have hi : inB i (g_wm T) = false := inB_ge (by omega) h10
      exact zlC (v := sOk T (-1)) (by simp [sp_walked, hi]) rfl ⟨B, K, hG, kI_e hK ⟨rfl, rfl, rfl, rfl, rfl, rfl, rfl, rfl, rfl, rfl, rfl, rfl, rfl, rfl, rfl, rfl, rfl, rfl, rfl, rfl⟩⟩
set_option maxHeartbeats 4000000 in
set_option maxRecDepth 100000 in
theorem e_eventsThere {c B : Nat} {σ : ZS} {T : TS} {K : KS} (hG : cG c B σ T K) : ZC M_X11_eventsThere [Ar (some c)] σ (fun y9 τ9 => y9 = some (Ai (nI (zcnt (g_th T) (g_ev T)))) ∧ τ9 = σ) := by
  have hbd := cf_bd hG
  refine ZC_of (ls := [some (Ar (some c)), none, none]) (by decide) (Nat.le_of_ble_eq_true rfl) rfl ?_
  have loop : ∀ (n9 : Nat) (i : Nat), g_ev T - i < n9 → i ≤ g_ev T → ZV M_X11_eventsThere (fun y9 τ9 => y9 = some (Ai (nI (zcnt (g_th T) (g_ev T)))) ∧ τ9 = σ) 4 [some (Ar (some c)), some (Ai (nI (zcnt (g_th T) i))), some (Ai (nI i))] [] σ (zmC M_X11_eventsThere) (zmS M_X11_eventsThere) := by
    intro n9
    induction n9 with
    | zero => intro i hme; exact absurd hme (Nat.not_lt_zero _)
    | succ n9 ih =>
      intro i hme hi
      refine ZV_iload_n (n := 5) dX11_eventsThere_4 rfl rfl rfl ?_
      refine ZV_aload_n (n := 6) dX11_eventsThere_5 rfl rfl rfl ?_
      refine ZV_getIv (n := 9) dX11_eventsThere_6 fl_X11_38 rfl rfl rfl (cf_sh hG :).1 (cf_ev hG :) ?_
      refine ZV_icmp_geN (tgt := 35) (n := 12) dX11_eventsThere_9 (by decide) rfl (by omega) (by omega) (fun h9 => ?_) (fun h9 => ?_)
      · skip
        refine ZV_iload_n (n := 36) dX11_eventsThere_35 rfl rfl rfl ?_
        refine ZV_iret dX11_eventsThere_36 rfl ?_
        obtain rfl : i = g_ev T := by omega
        exact ⟨rfl, rfl⟩
      · skip
        refine ZV_iload_n (n := 13) dX11_eventsThere_12 rfl rfl rfl ?_
        refine ZV_aload_n (n := 14) dX11_eventsThere_13 rfl rfl rfl ?_
        refine ZV_getRv (n := 17) dX11_eventsThere_14 fl_X11_34 rfl rfl rfl (cf_sh hG :).1 (ca_events (cf_sh hG :)) ?_
        refine ZV_iload_n (n := 18) dX11_eventsThere_17 rfl rfl rfl ?_
        rcases hb18 : g_th T i with _ | _
        · skip
          refine ZV_aaldv (c0 := 2) (w := none) (j := i) (n := 19) dX11_eventsThere_18 rfl (by decide) rfl (ck_events (cf_sh hG :)) rfl (by omega) (Eq.trans (cf_ea hG i (by omega)) (if_neg (by rw [hb18]; exact Bool.false_ne_true))) ?_
          refine ZV_ifnonnull_n (tgt := 26) (n := 22) dX11_eventsThere_19 (by decide) rfl ?_
          refine ZV_iconst (v := nI 0) (n := 23) dX11_eventsThere_22 rfl rfl ?_
          refine ZV_goto (tgt := 27) dX11_eventsThere_23 (by decide) ?_
          refine ZV_iaddN (n := 28) dX11_eventsThere_27 rfl ?_
          refine ZV_istore_1 (n := 29) dX11_eventsThere_28 rfl (Nat.le_of_ble_eq_true rfl) rfl ?_
          refine ZV_iincN_2 (v := 1) (n := 32) dX11_eventsThere_29 rfl rfl (Nat.le_of_ble_eq_true rfl) rfl ?_
          refine ZV_goto (tgt := 4) dX11_eventsThere_32 (by decide) ?_
          rw [show zcnt (g_th T) i + 0 = zcnt (g_th T) (i + 1) from by rw [zcnt, hb18]; rfl]
          exact ih (i + 1) (by omega) (by omega)
        · skip
          refine ZV_aaldv (c0 := 2) (w := some (k_ea K i)) (j := i) (n := 19) dX11_eventsThere_18 rfl (by decide) rfl (ck_events (cf_sh hG :)) rfl (by omega) (Eq.trans (cf_ea hG i (by omega)) (if_pos hb18)) ?_
          refine ZV_ifnonnull_s (tgt := 26) dX11_eventsThere_19 (by decide) ?_
          refine ZV_iconst (v := nI 1) (n := 27) dX11_eventsThere_26 rfl rfl ?_
          refine ZV_iaddN (n := 28) dX11_eventsThere_27 rfl ?_
          refine ZV_istore_1 (n := 29) dX11_eventsThere_28 rfl (Nat.le_of_ble_eq_true rfl) rfl ?_
          refine ZV_iincN_2 (v := 1) (n := 32) dX11_eventsThere_29 rfl rfl (Nat.le_of_ble_eq_true rfl) rfl ?_
          refine ZV_goto (tgt := 4) dX11_eventsThere_32 (by decide) ?_
          rw [show zcnt (g_th T) i + 1 = zcnt (g_th T) (i + 1) from by rw [zcnt, hb18]; rfl]
          exact ih (i + 1) (by omega) (by omega)
  refine ZV_iconst (v := nI 0) (n := 1) dX11_eventsThere_0 rfl rfl ?_
  refine ZV_istore_1 (n := 2) dX11_eventsThere_1 rfl (Nat.le_of_ble_eq_true rfl) rfl ?_
  refine ZV_iconst (v := nI 0) (n := 3) dX11_eventsThere_2 rfl rfl ?_
  refine ZV_istore_2 (n := 4) dX11_eventsThere_3 rfl (Nat.le_of_ble_eq_true rfl) rfl ?_
  exact loop _ 0 (Nat.lt_succ_self _) (Nat.zero_le _)
set_option maxHeartbeats 4000000 in
set_option maxRecDepth 100000 in
theorem e_tupletsThere {c B : Nat} {σ : ZS} {T : TS} {K : KS} (hG : cG c B σ T K) : ZC M_X11_tupletsThere [Ar (some c)] σ (fun y9 τ9 => y9 = some (Ai (nI (zcnt (g_tt T) (g_te T)))) ∧ τ9 = σ) := by
  have hbd := cf_bd hG
  refine ZC_of (ls := [some (Ar (some c)), none, none]) (by decide) (Nat.le_of_ble_eq_true rfl) rfl ?_
  have loop : ∀ (n9 : Nat) (i : Nat), g_te T - i < n9 → i ≤ g_te T → ZV M_X11_tupletsThere (fun y9 τ9 => y9 = some (Ai (nI (zcnt (g_tt T) (g_te T)))) ∧ τ9 = σ) 4 [some (Ar (some c)), some (Ai (nI (zcnt (g_tt T) i))), some (Ai (nI i))] [] σ (zmC M_X11_tupletsThere) (zmS M_X11_tupletsThere) := by
    intro n9
    induction n9 with
    | zero => intro i hme; exact absurd hme (Nat.not_lt_zero _)
    | succ n9 ih =>
      intro i hme hi
      refine ZV_iload_n (n := 5) dX11_tupletsThere_4 rfl rfl rfl ?_
      refine ZV_aload_n (n := 6) dX11_tupletsThere_5 rfl rfl rfl ?_
      refine ZV_getIv (n := 9) dX11_tupletsThere_6 fl_X11_47 rfl rfl rfl (cf_sh hG :).1 (cf_te hG :) ?_
      refine ZV_icmp_geN (tgt := 35) (n := 12) dX11_tupletsThere_9 (by decide) rfl (by omega) (by omega) (fun h9 => ?_) (fun h9 => ?_)
      · skip
        refine ZV_iload_n (n := 36) dX11_tupletsThere_35 rfl rfl rfl ?_
        refine ZV_iret dX11_tupletsThere_36 rfl ?_
        obtain rfl : i = g_te T := by omega
        exact ⟨rfl, rfl⟩
      · skip
        refine ZV_iload_n (n := 13) dX11_tupletsThere_12 rfl rfl rfl ?_
        refine ZV_aload_n (n := 14) dX11_tupletsThere_13 rfl rfl rfl ?_
        refine ZV_getRv (n := 17) dX11_tupletsThere_14 fl_X11_43 rfl rfl rfl (cf_sh hG :).1 (ca_tuplets (cf_sh hG :)) ?_
        refine ZV_iload_n (n := 18) dX11_tupletsThere_17 rfl rfl rfl ?_
        rcases hb18 : g_tt T i with _ | _
        · skip
          refine ZV_aaldv (c0 := 3) (w := none) (j := i) (n := 19) dX11_tupletsThere_18 rfl (by decide) rfl (ck_tuplets (cf_sh hG :)) rfl (by omega) (Eq.trans (cf_ta hG i (by omega)) (if_neg (by rw [hb18]; exact Bool.false_ne_true))) ?_
          refine ZV_ifnonnull_n (tgt := 26) (n := 22) dX11_tupletsThere_19 (by decide) rfl ?_
          refine ZV_iconst (v := nI 0) (n := 23) dX11_tupletsThere_22 rfl rfl ?_
          refine ZV_goto (tgt := 27) dX11_tupletsThere_23 (by decide) ?_
          refine ZV_iaddN (n := 28) dX11_tupletsThere_27 rfl ?_
          refine ZV_istore_1 (n := 29) dX11_tupletsThere_28 rfl (Nat.le_of_ble_eq_true rfl) rfl ?_
          refine ZV_iincN_2 (v := 1) (n := 32) dX11_tupletsThere_29 rfl rfl (Nat.le_of_ble_eq_true rfl) rfl ?_
          refine ZV_goto (tgt := 4) dX11_tupletsThere_32 (by decide) ?_
          rw [show zcnt (g_tt T) i + 0 = zcnt (g_tt T) (i + 1) from by rw [zcnt, hb18]; rfl]
          exact ih (i + 1) (by omega) (by omega)
        · skip
          refine ZV_aaldv (c0 := 3) (w := some (k_ta K i)) (j := i) (n := 19) dX11_tupletsThere_18 rfl (by decide) rfl (ck_tuplets (cf_sh hG :)) rfl (by omega) (Eq.trans (cf_ta hG i (by omega)) (if_pos hb18)) ?_
          refine ZV_ifnonnull_s (tgt := 26) dX11_tupletsThere_19 (by decide) ?_
          refine ZV_iconst (v := nI 1) (n := 27) dX11_tupletsThere_26 rfl rfl ?_
          refine ZV_iaddN (n := 28) dX11_tupletsThere_27 rfl ?_
          refine ZV_istore_1 (n := 29) dX11_tupletsThere_28 rfl (Nat.le_of_ble_eq_true rfl) rfl ?_
          refine ZV_iincN_2 (v := 1) (n := 32) dX11_tupletsThere_29 rfl rfl (Nat.le_of_ble_eq_true rfl) rfl ?_
          refine ZV_goto (tgt := 4) dX11_tupletsThere_32 (by decide) ?_
          rw [show zcnt (g_tt T) i + 1 = zcnt (g_tt T) (i + 1) from by rw [zcnt, hb18]; rfl]
          exact ih (i + 1) (by omega) (by omega)
  refine ZV_iconst (v := nI 0) (n := 1) dX11_tupletsThere_0 rfl rfl ?_
  refine ZV_istore_1 (n := 2) dX11_tupletsThere_1 rfl (Nat.le_of_ble_eq_true rfl) rfl ?_
  refine ZV_iconst (v := nI 0) (n := 3) dX11_tupletsThere_2 rfl rfl ?_
  refine ZV_istore_2 (n := 4) dX11_tupletsThere_3 rfl (Nat.le_of_ble_eq_true rfl) rfl ?_
  exact loop _ 0 (Nat.lt_succ_self _) (Nat.zero_le _)
set_option maxHeartbeats 4000000 in
set_option maxRecDepth 100000 in
theorem e_linesThere {c B : Nat} {σ : ZS} {T : TS} {K : KS} (hG : cG c B σ T K) : ZC M_X11_linesThere [Ar (some c)] σ (fun y9 τ9 => y9 = some (Ai (nI (zcnt (g_lt T) (g_le T)))) ∧ τ9 = σ) := by
  have hbd := cf_bd hG
  refine ZC_of (ls := [some (Ar (some c)), none, none]) (by decide) (Nat.le_of_ble_eq_true rfl) rfl ?_
  have loop : ∀ (n9 : Nat) (i : Nat), g_le T - i < n9 → i ≤ g_le T → ZV M_X11_linesThere (fun y9 τ9 => y9 = some (Ai (nI (zcnt (g_lt T) (g_le T)))) ∧ τ9 = σ) 4 [some (Ar (some c)), some (Ai (nI (zcnt (g_lt T) i))), some (Ai (nI i))] [] σ (zmC M_X11_linesThere) (zmS M_X11_linesThere) := by
    intro n9
    induction n9 with
    | zero => intro i hme; exact absurd hme (Nat.not_lt_zero _)
    | succ n9 ih =>
      intro i hme hi
      refine ZV_iload_n (n := 5) dX11_linesThere_4 rfl rfl rfl ?_
      refine ZV_aload_n (n := 6) dX11_linesThere_5 rfl rfl rfl ?_
      refine ZV_getIv (n := 9) dX11_linesThere_6 fl_X11_56 rfl rfl rfl (cf_sh hG :).1 (cf_le hG :) ?_
      refine ZV_icmp_geN (tgt := 35) (n := 12) dX11_linesThere_9 (by decide) rfl (by omega) (by omega) (fun h9 => ?_) (fun h9 => ?_)
      · skip
        refine ZV_iload_n (n := 36) dX11_linesThere_35 rfl rfl rfl ?_
        refine ZV_iret dX11_linesThere_36 rfl ?_
        obtain rfl : i = g_le T := by omega
        exact ⟨rfl, rfl⟩
      · skip
        refine ZV_iload_n (n := 13) dX11_linesThere_12 rfl rfl rfl ?_
        refine ZV_aload_n (n := 14) dX11_linesThere_13 rfl rfl rfl ?_
        refine ZV_getRv (n := 17) dX11_linesThere_14 fl_X11_52 rfl rfl rfl (cf_sh hG :).1 (ca_lines (cf_sh hG :)) ?_
        refine ZV_iload_n (n := 18) dX11_linesThere_17 rfl rfl rfl ?_
        rcases hb18 : g_lt T i with _ | _
        · skip
          refine ZV_aaldv (c0 := 4) (w := none) (j := i) (n := 19) dX11_linesThere_18 rfl (by decide) rfl (ck_lines (cf_sh hG :)) rfl (by omega) (Eq.trans (cf_la hG i (by omega)) (if_neg (by rw [hb18]; exact Bool.false_ne_true))) ?_
          refine ZV_ifnonnull_n (tgt := 26) (n := 22) dX11_linesThere_19 (by decide) rfl ?_
          refine ZV_iconst (v := nI 0) (n := 23) dX11_linesThere_22 rfl rfl ?_
          refine ZV_goto (tgt := 27) dX11_linesThere_23 (by decide) ?_
          refine ZV_iaddN (n := 28) dX11_linesThere_27 rfl ?_
          refine ZV_istore_1 (n := 29) dX11_linesThere_28 rfl (Nat.le_of_ble_eq_true rfl) rfl ?_
          refine ZV_iincN_2 (v := 1) (n := 32) dX11_linesThere_29 rfl rfl (Nat.le_of_ble_eq_true rfl) rfl ?_
          refine ZV_goto (tgt := 4) dX11_linesThere_32 (by decide) ?_
          rw [show zcnt (g_lt T) i + 0 = zcnt (g_lt T) (i + 1) from by rw [zcnt, hb18]; rfl]
          exact ih (i + 1) (by omega) (by omega)
        · skip
          refine ZV_aaldv (c0 := 4) (w := some (k_la K i)) (j := i) (n := 19) dX11_linesThere_18 rfl (by decide) rfl (ck_lines (cf_sh hG :)) rfl (by omega) (Eq.trans (cf_la hG i (by omega)) (if_pos hb18)) ?_
          refine ZV_ifnonnull_s (tgt := 26) dX11_linesThere_19 (by decide) ?_
          refine ZV_iconst (v := nI 1) (n := 27) dX11_linesThere_26 rfl rfl ?_
          refine ZV_iaddN (n := 28) dX11_linesThere_27 rfl ?_
          refine ZV_istore_1 (n := 29) dX11_linesThere_28 rfl (Nat.le_of_ble_eq_true rfl) rfl ?_
          refine ZV_iincN_2 (v := 1) (n := 32) dX11_linesThere_29 rfl rfl (Nat.le_of_ble_eq_true rfl) rfl ?_
          refine ZV_goto (tgt := 4) dX11_linesThere_32 (by decide) ?_
          rw [show zcnt (g_lt T) i + 1 = zcnt (g_lt T) (i + 1) from by rw [zcnt, hb18]; rfl]
          exact ih (i + 1) (by omega) (by omega)
  refine ZV_iconst (v := nI 0) (n := 1) dX11_linesThere_0 rfl rfl ?_
  refine ZV_istore_1 (n := 2) dX11_linesThere_1 rfl (Nat.le_of_ble_eq_true rfl) rfl ?_
  refine ZV_iconst (v := nI 0) (n := 3) dX11_linesThere_2 rfl rfl ?_
  refine ZV_istore_2 (n := 4) dX11_linesThere_3 rfl (Nat.le_of_ble_eq_true rfl) rfl ?_
  exact loop _ 0 (Nat.lt_succ_self _) (Nat.zero_le _)
set_option maxHeartbeats 4000000 in
set_option maxRecDepth 100000 in
theorem q_failures {c : Nat} {σ : ZS} {T : TS} (hR : cR c σ T) (hI : tI T) (k : Int32) : ZC M_X11_failures [Ar (some c), Ai k] σ (fun y0 τ0 => y0 = some (Ai (sp_failures T k)) ∧ cR c τ0 T) := by
  obtain ⟨B, K, hG, hK⟩ := hR
  have hbd := cf_bd hG
  refine ZC_of (ls := [some (Ar (some c)), some (Ai k)]) (by decide) (Nat.le_of_ble_eq_true rfl) rfl ?_
  refine ZV_iload_n (n := 1) dX11_failures_0 rfl rfl rfl ?_
  refine ZV_if_lt (tgt := 9) (n := 4) dX11_failures_1 (by decide) rfl (fun h1 => ?_) (fun h1 => ?_)
  · skip
    refine ZV_bipush (v := -2) (n := 11) dX11_failures_9 rfl rfl ?_
    refine ZV_goto (tgt := 20) dX11_failures_11 (by decide) ?_
    refine ZV_iret dX11_failures_20 rfl ?_
    have hi : inB k 5 = false := inB_lt0 _ h1
    exact ⟨by simp [sp_failures, hi], ⟨B, K, hG, hK⟩⟩
  · skip
    refine ZV_iload_n (n := 5) dX11_failures_4 rfl rfl rfl ?_
    refine ZV_iconst (v := nI 5) (n := 6) dX11_failures_5 rfl rfl ?_
    refine ZV_icmp_lt (tgt := 14) (n := 9) dX11_failures_6 (by decide) rfl (fun h6 => ?_) (fun h6 => ?_)
    · skip
      have hi := inB_ok (by decide) h1 h6
      obtain ⟨j, hj, hj2, rfl⟩ := inB_t hi
      have hcj : (nI j).toNatClampNeg = j := nI_clamp hj2
      refine ZV_aload_n (n := 15) dX11_failures_14 rfl rfl rfl ?_
      refine ZV_getRv (n := 18) dX11_failures_15 fl_X11_81 rfl rfl rfl (cf_sh hG :).1 (ca_failureCounts (cf_sh hG :)) ?_
      refine ZV_iload_n (n := 19) dX11_failures_18 rfl rfl rfl ?_
      refine ZV_ialdv (j := j) (n := 20) dX11_failures_19 rfl rfl (ck_failureCounts (cf_sh hG :)) rfl (by omega) (cf_fa hG j (by omega)) ?_
      refine ZV_iret dX11_failures_20 rfl ?_
      exact ⟨by simp [sp_failures, hi, hcj], ⟨B, K, hG, hK⟩⟩
    · skip
      refine ZV_bipush (v := -2) (n := 11) dX11_failures_9 rfl rfl ?_
      refine ZV_goto (tgt := 20) dX11_failures_11 (by decide) ?_
      refine ZV_iret dX11_failures_20 rfl ?_
      have hi : inB k 5 = false := inB_ge (by decide) h6
      exact ⟨by simp [sp_failures, hi], ⟨B, K, hG, hK⟩⟩
set_option maxHeartbeats 4000000 in
set_option maxRecDepth 100000 in
theorem q_status {c : Nat} {σ : ZS} {T : TS} (hR : cR c σ T) (hI : tI T)  : ZC M_X11_status [Ar (some c)] σ (fun y0 τ0 => y0 = some (Ai (g_su T)) ∧ cR c τ0 T) := by
  obtain ⟨B, K, hG, hK⟩ := hR
  have hbd := cf_bd hG
  refine ZC_of (ls := [some (Ar (some c))]) (by decide) (Nat.le_of_ble_eq_true rfl) rfl ?_
  refine ZV_aload_n (n := 1) dX11_status_0 rfl rfl rfl ?_
  refine ZV_getIv (n := 4) dX11_status_1 fl_X11_84 rfl rfl rfl (cf_sh hG :).1 (cf_su hG :) ?_
  refine ZV_iret dX11_status_4 rfl ?_
  exact ⟨rfl, ⟨B, K, hG, hK⟩⟩
set_option maxHeartbeats 4000000 in
set_option maxRecDepth 100000 in
theorem q_count {c : Nat} {σ : ZS} {T : TS} (hR : cR c σ T) (hI : tI T) (w : Int32) : ZC M_X11_count [Ar (some c), Ai w] σ (fun y0 τ0 => y0 = some (Ai (sp_count T w)) ∧ cR c τ0 T) := by
  obtain ⟨B, K, hG, hK⟩ := hR
  have hbd := cf_bd hG
  have hct := ti_ct hI
  have hcu := ti_cu hI
  have hcl := ti_cl hI
  refine ZC_of (ls := [some (Ar (some c)), some (Ai w)]) (by decide) (Nat.le_of_ble_eq_true rfl) rfl ?_
  refine ZV_iload_n (n := 1) dX11_count_0 rfl rfl rfl ?_
  by_cases h1_0 : w = nI 0
  · subst h1_0
    refine ZV_tableIn (tgt := 44) dX11_count_1 (by decide) (by decide) rfl (by decide) ?_
    refine ZV_aload_n (n := 45) dX11_count_44 rfl rfl rfl ?_
    refine ZV_getIv (n := 48) dX11_count_45 fl_X11_15 rfl rfl rfl (cf_sh hG :).1 (cf_np hG :) ?_
    refine ZV_iret dX11_count_48 rfl ?_
    exact ⟨rfl, ⟨B, K, hG, hK⟩⟩
  by_cases h1_1 : w = nI 1
  · subst h1_1
    refine ZV_tableIn (tgt := 49) dX11_count_1 (by decide) (by decide) rfl (by decide) ?_
    refine ZV_aload_n (n := 50) dX11_count_49 rfl rfl rfl ?_
    refine ZV_getIv (n := 53) dX11_count_50 fl_X11_29 rfl rfl rfl (cf_sh hG :).1 (cf_nb hG :) ?_
    refine ZV_iret dX11_count_53 rfl ?_
    exact ⟨rfl, ⟨B, K, hG, hK⟩⟩
  by_cases h1_2 : w = nI 2
  · subst h1_2
    refine ZV_tableIn (tgt := 54) dX11_count_1 (by decide) (by decide) rfl (by decide) ?_
    refine ZV_aload_n (n := 55) dX11_count_54 rfl rfl rfl ?_
    refine call_X11_401 (e_eventsThere hG) rfl dX11_count_55 rfl (cf_sh hG :).1 (Nat.le_of_ble_eq_true rfl) (Nat.le_of_ble_eq_true rfl) rfl (fun r9 σ9 hp9 => ?_)
    obtain ⟨rfl, hs9⟩ := hp9
    subst σ9
    refine ZV_iret dX11_count_58 rfl ?_
    exact ⟨by rw [← hct]; rfl, ⟨B, K, hG, hK⟩⟩
  by_cases h1_3 : w = nI 3
  · subst h1_3
    refine ZV_tableIn (tgt := 59) dX11_count_1 (by decide) (by decide) rfl (by decide) ?_
    refine ZV_aload_n (n := 60) dX11_count_59 rfl rfl rfl ?_
    refine ZV_getIv (n := 63) dX11_count_60 fl_X11_38 rfl rfl rfl (cf_sh hG :).1 (cf_ev hG :) ?_
    refine ZV_iret dX11_count_63 rfl ?_
    exact ⟨rfl, ⟨B, K, hG, hK⟩⟩
  by_cases h1_4 : w = nI 4
  · subst h1_4
    refine ZV_tableIn (tgt := 64) dX11_count_1 (by decide) (by decide) rfl (by decide) ?_
    refine ZV_aload_n (n := 65) dX11_count_64 rfl rfl rfl ?_
    refine call_X11_404 (e_tupletsThere hG) rfl dX11_count_65 rfl (cf_sh hG :).1 (Nat.le_of_ble_eq_true rfl) (Nat.le_of_ble_eq_true rfl) rfl (fun r9 σ9 hp9 => ?_)
    obtain ⟨rfl, hs9⟩ := hp9
    subst σ9
    refine ZV_iret dX11_count_68 rfl ?_
    exact ⟨by rw [← hcu]; rfl, ⟨B, K, hG, hK⟩⟩
  by_cases h1_5 : w = nI 5
  · subst h1_5
    refine ZV_tableIn (tgt := 69) dX11_count_1 (by decide) (by decide) rfl (by decide) ?_
    refine ZV_aload_n (n := 70) dX11_count_69 rfl rfl rfl ?_
    refine call_X11_407 (e_linesThere hG) rfl dX11_count_70 rfl (cf_sh hG :).1 (Nat.le_of_ble_eq_true rfl) (Nat.le_of_ble_eq_true rfl) rfl (fun r9 σ9 hp9 => ?_)
    obtain ⟨rfl, hs9⟩ := hp9
    subst σ9
    refine ZV_iret dX11_count_73 rfl ?_
    exact ⟨by rw [← hcl]; rfl, ⟨B, K, hG, hK⟩⟩
  by_cases h1_6 : w = nI 6
  · subst h1_6
    refine ZV_tableIn (tgt := 74) dX11_count_1 (by decide) (by decide) rfl (by decide) ?_
    refine ZV_aload_n (n := 75) dX11_count_74 rfl rfl rfl ?_
    refine ZV_getIv (n := 78) dX11_count_75 fl_X11_69 rfl rfl rfl (cf_sh hG :).1 (cf_fo hG :) ?_
    refine ZV_iret dX11_count_78 rfl ?_
    exact ⟨rfl, ⟨B, K, hG, hK⟩⟩
  have g1_0 := zne_toInt h1_0 (by decide)
  have g1_1 := zne_toInt h1_1 (by decide)
  have g1_2 := zne_toInt h1_2 (by decide)
  have g1_3 := zne_toInt h1_3 (by decide)
  have g1_4 := zne_toInt h1_4 (by decide)
  have g1_5 := zne_toInt h1_5 (by decide)
  have g1_6 := zne_toInt h1_6 (by decide)
  refine ZV_tableOut (tgt := 79) dX11_count_1 (by omega) (by decide) ?_
  refine ZV_bipush (v := -2) (n := 81) dX11_count_79 rfl rfl ?_
  refine ZV_iret dX11_count_81 rfl ?_
  exact ⟨by simp [sp_count, h1_0, h1_1, h1_2, h1_3, h1_4, h1_5, h1_6], ⟨B, K, hG, hK⟩⟩
