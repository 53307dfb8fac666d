set_option maxHeartbeats 4000000 in
set_option maxRecDepth 100000 in
theorem c_checkVoice {x : Nat} {σ : ZS} {T : TS} {F : FS} (hR : rR x σ (cT T F)) (hI : tI T) (hF : F.1 ≤ 4000) (v : Nat) (hv : v < 18) : ZC M_X12_checkVoice [Ar (some x), Ai (nI v), Al (lN (baF T (g_nb T)))] σ (fun y0 τ0 => y0 = none ∧ rR x τ0 (cT T (cvF T v F))) := by
  have hev := ti_ev hI
  have hmn := ti_mn hI v
  have hnb := ti_nb hI
  have hAb := baF_le hI (g_nb T) (Nat.le_refl _)
  refine ZC_of (ls := [some (Ar (some x)), some (Ai (nI v)), some (Al (lN (baF T (g_nb T)))), none, none, none, none, none, none]) (by decide) (Nat.le_of_ble_eq_true rfl) rfl ?_
  have loop : ∀ (n9 : Nat) (p : Nat) (G : FS) (τ : ZS), g_mn T v - p < n9 → p ≤ g_mn T v → G = cvN T v F p → rR x τ (cT T G) → ZV M_X12_checkVoice (fun y0 τ0 => y0 = none ∧ rR x τ0 (cT T (cvF T v F))) 6 [some (Ar (some x)), some (Ai (nI v)), some (Al (lN (baF T (g_nb T)))), none, some (Al (lN (bgF T v p))), none, some (Ai (nI p)), none, none] [] τ (zmC M_X12_checkVoice) (zmS M_X12_checkVoice) := by
    intro n9
    induction n9 with
    | zero => intro p G τ hm; exact absurd hm (Nat.not_lt_zero _)
    | succ n9 ih =>
      intro p G τ hm hp hG hR1
      have hF1 : G.1 ≤ 4900 := by have := cvN_le T v F p; rw [← hG] at this; omega
      have hbl := bgF_le hI v p
      have hbl2 := bgF_le hI v (p + 1)
      refine ZV_iload (n := 8) dX12_checkVoice_6 rfl rfl ?_
      refine ZV_aload_n (n := 9) dX12_checkVoice_8 rfl rfl rfl ?_
      refine ZV_getR (n := 12) dX12_checkVoice_9 fl_X12_45 rfl rfl rfl (rf_sh hR1 :).1 ?_
      refine ZV_iload_n (n := 13) dX12_checkVoice_12 rfl rfl rfl ?_
      refine ZV_ialdv (n := 14) dX12_checkVoice_13 rfl (ra_many (rf_sh hR1 :) :) (rk_many (rf_sh hR1 :) :) rfl (by omega) (Eq.trans ((rf_many hR1 v (by omega)) :) (show _ = nI (g_mn T v) by first | simp only [gh_mn_ct, gh_mn_cu, gh_mn_cl, gh_mn_np, gh_mn_pk, gh_mn_nb, gh_mn_bt, gh_mn_ev, gh_mn_th, gh_mn_vo, gh_mn_kd, gh_mn_pn, gh_mn_pi, gh_mn_va, gh_mn_dt, gh_mn_ti, gh_mn_pl, gh_mn_mn, gh_mn_ro, gh_mn_te, gh_mn_tt, gh_mn_tv, gh_mn_tf, gh_mn_tl, gh_mn_tn, gh_mn_tm, gh_mn_tu, gh_mn_le, gh_mn_lt, gh_mn_lk, gh_mn_lf, gh_mn_lo, gh_mn_wm, gh_mn_wr, gh_mn_fo, gh_mn_fi, gh_mn_hr, gh_mn_rk, gh_mn_rs, gh_mn_rr, gh_mn_hs, gh_mn_sk, gh_mn_ss, gh_mn_sr, gh_mn_fa, gh_mn_su, gh_mn_tr] | rfl)) ?_
      refine ZV_icmp_geN (tgt := 120) (n := 17) dX12_checkVoice_14 (by decide) rfl (by omega) (by omega) (fun h14 => ?_) (fun h14 => ?_)
      · skip
        obtain rfl : p = g_mn T v := by omega
        refine ZV_aload_n (n := 121) dX12_checkVoice_120 rfl rfl rfl ?_
        refine ZV_getR (n := 124) dX12_checkVoice_121 fl_X12_45 rfl rfl rfl (rf_sh hR1 :).1 ?_
        refine ZV_iload_n (n := 125) dX12_checkVoice_124 rfl rfl rfl ?_
        refine ZV_ialdv (n := 126) dX12_checkVoice_125 rfl (ra_many (rf_sh hR1 :) :) (rk_many (rf_sh hR1 :) :) rfl (by omega) (Eq.trans ((rf_many hR1 v (by omega)) :) (show _ = nI (g_mn T v) by first | simp only [gh_mn_ct, gh_mn_cu, gh_mn_cl, gh_mn_np, gh_mn_pk, gh_mn_nb, gh_mn_bt, gh_mn_ev, gh_mn_th, gh_mn_vo, gh_mn_kd, gh_mn_pn, gh_mn_pi, gh_mn_va, gh_mn_dt, gh_mn_ti, gh_mn_pl, gh_mn_mn, gh_mn_ro, gh_mn_te, gh_mn_tt, gh_mn_tv, gh_mn_tf, gh_mn_tl, gh_mn_tn, gh_mn_tm, gh_mn_tu, gh_mn_le, gh_mn_lt, gh_mn_lk, gh_mn_lf, gh_mn_lo, gh_mn_wm, gh_mn_wr, gh_mn_fo, gh_mn_fi, gh_mn_hr, gh_mn_rk, gh_mn_rs, gh_mn_rr, gh_mn_hs, gh_mn_sk, gh_mn_ss, gh_mn_sr, gh_mn_fa, gh_mn_su, gh_mn_tr] | rfl)) ?_
        refine ZV_if_leN (tgt := 154) (n := 129) dX12_checkVoice_126 (by decide) rfl (by omega) (fun h126 => ?_) (fun h126 => ?_)
        · skip
          refine ZV_vret dX12_checkVoice_154 rfl ?_
          exact ⟨rfl, by unfold cvF; rw [if_neg (fun z => by omega), ← hG]; exact hR1⟩
        · skip
          refine ZV_lload (n := 131) dX12_checkVoice_129 rfl rfl ?_
          refine ZV_lload_n (n := 132) dX12_checkVoice_131 rfl rfl rfl ?_
          refine ZV_lcmp_eqN (tgt := 154) (pc1 := 133) (n := 136) dX12_checkVoice_132 rfl dX12_checkVoice_133 (by decide) rfl (by omega) (by omega) (fun h132 => ?_) (fun h132 => ?_)
          · skip
            refine ZV_vret dX12_checkVoice_154 rfl ?_
            exact ⟨rfl, by unfold cvF; rw [if_neg (fun z => z.2 h132), ← hG]; exact hR1⟩
          · skip
            refine ZV_aload_n (n := 137) dX12_checkVoice_136 rfl rfl rfl ?_
            refine ZV_lload (n := 139) dX12_checkVoice_137 rfl rfl ?_
            refine ZV_lload_n (n := 140) dX12_checkVoice_139 rfl rfl rfl ?_
            refine ZV_lcmp_geN (tgt := 148) (pc1 := 141) (n := 144) dX12_checkVoice_140 rfl dX12_checkVoice_141 (by decide) rfl (by omega) (by omega) (fun h140 => ?_) (fun h140 => ?_)
            · skip
              refine ZV_iconst (v := nI 4) (n := 149) dX12_checkVoice_148 rfl rfl ?_
              refine ZV_iload_n (n := 150) dX12_checkVoice_149 rfl rfl rfl ?_
              refine ZV_iconst (v := -1) (n := 151) dX12_checkVoice_150 rfl rfl ?_
              refine call_X12_295 (c_findsC hR1 (by omega) _ _ _) rfl dX12_checkVoice_151 rfl (rf_sh hR1 :).1 (Nat.le_of_ble_eq_true rfl) (Nat.le_of_ble_eq_true rfl) rfl (fun r9 σ9 hp9 => ?_)
              obtain ⟨rfl, hR1⟩ := hp9
              refine ZV_vret dX12_checkVoice_154 rfl ?_
              exact ⟨rfl, by unfold cvF; rw [if_pos ⟨by omega, h132⟩, ← hG]; first | (rw [if_pos h140]; exact hR1) | (rw [if_neg (by omega)]; exact hR1)⟩
            · skip
              refine ZV_iconst (v := nI 3) (n := 145) dX12_checkVoice_144 rfl rfl ?_
              refine ZV_goto (tgt := 149) dX12_checkVoice_145 (by decide) ?_
              refine ZV_iload_n (n := 150) dX12_checkVoice_149 rfl rfl rfl ?_
              refine ZV_iconst (v := -1) (n := 151) dX12_checkVoice_150 rfl rfl ?_
              refine call_X12_295 (c_findsC hR1 (by omega) _ _ _) rfl dX12_checkVoice_151 rfl (rf_sh hR1 :).1 (Nat.le_of_ble_eq_true rfl) (Nat.le_of_ble_eq_true rfl) rfl (fun r9 σ9 hp9 => ?_)
              obtain ⟨rfl, hR1⟩ := hp9
              refine ZV_vret dX12_checkVoice_154 rfl ?_
              exact ⟨rfl, by unfold cvF; rw [if_pos ⟨by omega, h132⟩, ← hG]; first | (rw [if_pos h140]; exact hR1) | (rw [if_neg (by omega)]; exact hR1)⟩
      · skip
        have hrp := ti_ro hI v p hv (by omega)
        refine ZV_aload_n (n := 18) dX12_checkVoice_17 rfl rfl rfl ?_
        refine ZV_getR (n := 21) dX12_checkVoice_18 fl_X12_42 rfl rfl rfl (rf_sh hR1 :).1 ?_
        refine ZV_bipush (v := nI 40) (n := 23) dX12_checkVoice_21 rfl rfl ?_
        refine ZV_iload_n (n := 24) dX12_checkVoice_23 rfl rfl rfl ?_
        refine ZV_imulN (n := 25) dX12_checkVoice_24 rfl ?_
        refine ZV_iload (n := 27) dX12_checkVoice_25 rfl rfl ?_
        refine ZV_iaddN (n := 28) dX12_checkVoice_27 rfl ?_
        refine ZV_ialdv (n := 29) dX12_checkVoice_28 rfl (ra_row (rf_sh hR1 :) :) (rk_row (rf_sh hR1 :) :) rfl (by omega) (Eq.trans ((rf_row hR1 v p (by omega) (by omega)) :) (show _ = nI (g_ro T v p) by first | simp only [gh_ro_ct, gh_ro_cu, gh_ro_cl, gh_ro_np, gh_ro_pk, gh_ro_nb, gh_ro_bt, gh_ro_ev, gh_ro_th, gh_ro_vo, gh_ro_kd, gh_ro_pn, gh_ro_pi, gh_ro_va, gh_ro_dt, gh_ro_ti, gh_ro_pl, gh_ro_mn, gh_ro_ro, gh_ro_te, gh_ro_tt, gh_ro_tv, gh_ro_tf, gh_ro_tl, gh_ro_tn, gh_ro_tm, gh_ro_tu, gh_ro_le, gh_ro_lt, gh_ro_lk, gh_ro_lf, gh_ro_lo, gh_ro_wm, gh_ro_wr, gh_ro_fo, gh_ro_fi, gh_ro_hr, gh_ro_rk, gh_ro_rs, gh_ro_rr, gh_ro_hs, gh_ro_sk, gh_ro_ss, gh_ro_sr, gh_ro_fa, gh_ro_su, gh_ro_tr] | rfl)) ?_
        refine ZV_istore_7 (n := 31) dX12_checkVoice_29 rfl (Nat.le_of_ble_eq_true rfl) rfl ?_
        refine ZV_aload_n (n := 32) dX12_checkVoice_31 rfl rfl rfl ?_
        refine ZV_lload (n := 34) dX12_checkVoice_32 rfl rfl ?_
        refine call_X12_261 (c_barOfC hR1 hI (by omega) _ (by omega)) rfl dX12_checkVoice_34 rfl (rf_sh hR1 :).1 (Nat.le_of_ble_eq_true rfl) (Nat.le_of_ble_eq_true rfl) rfl (fun r9 σ9 hp9 => ?_)
        obtain ⟨rfl, rfl⟩ := hp9
        refine ZV_istore_8 (n := 39) dX12_checkVoice_37 rfl (Nat.le_of_ble_eq_true rfl) rfl ?_
        refine ZV_lload (n := 41) dX12_checkVoice_39 rfl rfl ?_
        refine ZV_aload_n (n := 42) dX12_checkVoice_41 rfl rfl rfl ?_
        refine ZV_iload (n := 44) dX12_checkVoice_42 rfl rfl ?_
        refine call_X12_243 (c_timeOfC hR1 hI (by omega) _ hrp.1 hrp.2.1) rfl dX12_checkVoice_44 rfl (rf_sh hR1 :).1 (Nat.le_of_ble_eq_true rfl) (Nat.le_of_ble_eq_true rfl) rfl (fun r9 σ9 hp9 => ?_)
        obtain ⟨rfl, rfl⟩ := hp9
        refine ZV_laddN (n := 48) dX12_checkVoice_47 rfl ?_
        rw [show bgF T v p + tmT T (g_ro T v p) = bgF T v (p + 1) from rfl]
        refine ZV_lstore_4 (n := 50) dX12_checkVoice_48 rfl (Nat.le_of_ble_eq_true rfl) rfl ?_
        refine ZV_iload (n := 52) dX12_checkVoice_50 rfl rfl ?_
        refine ZV_iconst (v := -1) (n := 53) dX12_checkVoice_52 rfl rfl ?_
        refine ZV_icmp_eq (tgt := 79) (n := 56) dX12_checkVoice_53 (by decide) rfl (fun h53 => ?_) (fun h53 => ?_)
        · skip
          have hb := (oI_m1 (fun e q => by have := boF_some q; omega)).mp h53
          have e1 : ce1 T v p G = G := by simp only [ce1, hb]
          rw [← e1] at hR1
          obtain ⟨G1, hG1⟩ : ∃ z, z = ce1 T v p G := ⟨_, rfl⟩
          rw [← hG1] at hR1
          have hF2 : G1.1 ≤ 4901 := by have := ce1_le T v p G; rw [← hG1] at this; omega
          clear e1
          refine ZV_aload_n (n := 80) dX12_checkVoice_79 rfl rfl rfl ?_
          refine ZV_iload_n (n := 81) dX12_checkVoice_80 rfl rfl rfl ?_
          refine ZV_iload (n := 83) dX12_checkVoice_81 rfl rfl ?_
          refine call_X12_299 (c_isTieWrongC hR1 hI (by omega) v p hv (by omega)) rfl dX12_checkVoice_83 rfl (rf_sh hR1 :).1 (Nat.le_of_ble_eq_true rfl) (Nat.le_of_ble_eq_true rfl) rfl (fun r9 σ9 hp9 => ?_)
          obtain ⟨rfl, rfl⟩ := hp9
          refine ZV_if_eqB (tgt := 97) (n := 89) dX12_checkVoice_86 (by decide) rfl (fun h86 => ?_) (fun h86 => ?_)
          · skip
            have e2 : ce2 T v p G1 = G1 := by simp [ce2, h86]
            rw [← e2] at hR1
            obtain ⟨G2, hG2⟩ : ∃ z, z = ce2 T v p G1 := ⟨_, rfl⟩
            rw [← hG2] at hR1
            have hF3 : G2.1 ≤ 4902 := by have := ce2_le T v p G1; rw [← hG2] at this; omega
            clear e2
            refine ZV_aload_n (n := 98) dX12_checkVoice_97 rfl rfl rfl ?_
            refine ZV_iload (n := 100) dX12_checkVoice_98 rfl rfl ?_
            refine call_X12_302 (c_isOutC hR1 hI (by omega) v p hrp.1 hrp.2.1) rfl dX12_checkVoice_100 rfl (rf_sh hR1 :).1 (Nat.le_of_ble_eq_true rfl) (Nat.le_of_ble_eq_true rfl) rfl (fun r9 σ9 hp9 => ?_)
            obtain ⟨rfl, hR1⟩ := hp9
            refine ZV_if_eqB (tgt := 114) (n := 106) dX12_checkVoice_103 (by decide) rfl (fun h103 => ?_) (fun h103 => ?_)
            · skip
              have e3 : ce3 T v p G2 = (G2.1, G2.2.1, (oR T v p G2).2) := by simp [ce3, h103]
              rw [← e3] at hR1
              refine ZV_iincN_6 (v := 1) (n := 117) dX12_checkVoice_114 rfl rfl (Nat.le_of_ble_eq_true rfl) rfl ?_
              refine ZV_goto (tgt := 6) dX12_checkVoice_117 (by decide) ?_
              refine ZV_fg_7 ?_
              refine ZV_fg_8 ?_
              exact ih (p + 1) _ _ (by omega) (by omega) (by rw [cvN, ← hG, ← hG1, ← hG2]) hR1
            · skip
              have e3 : ce3 T v p G2 = fdF (G2.1, G2.2.1, (oR T v p G2).2) (nI 2) (nI (g_ro T v p)) (-1) := by simp [ce3, h103]
              refine ZV_aload_n (n := 107) dX12_checkVoice_106 rfl rfl rfl ?_
              refine ZV_iconst (v := nI 2) (n := 108) dX12_checkVoice_107 rfl rfl ?_
              refine ZV_iload (n := 110) dX12_checkVoice_108 rfl rfl ?_
              refine ZV_iconst (v := -1) (n := 111) dX12_checkVoice_110 rfl rfl ?_
              refine call_X12_295 (c_findsC hR1 (show G2.1 ≤ 5000 by omega) _ _ _) rfl dX12_checkVoice_111 rfl (rf_sh hR1 :).1 (Nat.le_of_ble_eq_true rfl) (Nat.le_of_ble_eq_true rfl) rfl (fun r9 σ9 hp9 => ?_)
              obtain ⟨rfl, hR1⟩ := hp9
              rw [← e3] at hR1
              refine ZV_iincN_6 (v := 1) (n := 117) dX12_checkVoice_114 rfl rfl (Nat.le_of_ble_eq_true rfl) rfl ?_
              refine ZV_goto (tgt := 6) dX12_checkVoice_117 (by decide) ?_
              refine ZV_fg_7 ?_
              refine ZV_fg_8 ?_
              exact ih (p + 1) _ _ (by omega) (by omega) (by rw [cvN, ← hG, ← hG1, ← hG2]) hR1
          · skip
            have e2 : ce2 T v p G1 = fdF G1 (nI 1) (nI (g_ro T v p)) (-1) := by simp [ce2, h86]
            refine ZV_aload_n (n := 90) dX12_checkVoice_89 rfl rfl rfl ?_
            refine ZV_iconst (v := nI 1) (n := 91) dX12_checkVoice_90 rfl rfl ?_
            refine ZV_iload (n := 93) dX12_checkVoice_91 rfl rfl ?_
            refine ZV_iconst (v := -1) (n := 94) dX12_checkVoice_93 rfl rfl ?_
            refine call_X12_295 (c_findsC hR1 (by omega) _ _ _) rfl dX12_checkVoice_94 rfl (rf_sh hR1 :).1 (Nat.le_of_ble_eq_true rfl) (Nat.le_of_ble_eq_true rfl) rfl (fun r9 σ9 hp9 => ?_)
            obtain ⟨rfl, hR1⟩ := hp9
            rw [← e2] at hR1
            obtain ⟨G2, hG2⟩ : ∃ z, z = ce2 T v p G1 := ⟨_, rfl⟩
            rw [← hG2] at hR1
            have hF3 : G2.1 ≤ 4902 := by have := ce2_le T v p G1; rw [← hG2] at this; omega
            clear e2
            refine ZV_aload_n (n := 98) dX12_checkVoice_97 rfl rfl rfl ?_
            refine ZV_iload (n := 100) dX12_checkVoice_98 rfl rfl ?_
            refine call_X12_302 (c_isOutC hR1 hI (by omega) v p hrp.1 hrp.2.1) rfl dX12_checkVoice_100 rfl (rf_sh hR1 :).1 (Nat.le_of_ble_eq_true rfl) (Nat.le_of_ble_eq_true rfl) rfl (fun r9 σ9 hp9 => ?_)
            obtain ⟨rfl, hR1⟩ := hp9
            refine ZV_if_eqB (tgt := 114) (n := 106) dX12_checkVoice_103 (by decide) rfl (fun h103 => ?_) (fun h103 => ?_)
            · skip
              have e3 : ce3 T v p G2 = (G2.1, G2.2.1, (oR T v p G2).2) := by simp [ce3, h103]
              rw [← e3] at hR1
              refine ZV_iincN_6 (v := 1) (n := 117) dX12_checkVoice_114 rfl rfl (Nat.le_of_ble_eq_true rfl) rfl ?_
              refine ZV_goto (tgt := 6) dX12_checkVoice_117 (by decide) ?_
              refine ZV_fg_7 ?_
              refine ZV_fg_8 ?_
              exact ih (p + 1) _ _ (by omega) (by omega) (by rw [cvN, ← hG, ← hG1, ← hG2]) hR1
            · skip
              have e3 : ce3 T v p G2 = fdF (G2.1, G2.2.1, (oR T v p G2).2) (nI 2) (nI (g_ro T v p)) (-1) := by simp [ce3, h103]
              refine ZV_aload_n (n := 107) dX12_checkVoice_106 rfl rfl rfl ?_
              refine ZV_iconst (v := nI 2) (n := 108) dX12_checkVoice_107 rfl rfl ?_
              refine ZV_iload (n := 110) dX12_checkVoice_108 rfl rfl ?_
              refine ZV_iconst (v := -1) (n := 111) dX12_checkVoice_110 rfl rfl ?_
              refine call_X12_295 (c_findsC hR1 (show G2.1 ≤ 5000 by omega) _ _ _) rfl dX12_checkVoice_111 rfl (rf_sh hR1 :).1 (Nat.le_of_ble_eq_true rfl) (Nat.le_of_ble_eq_true rfl) rfl (fun r9 σ9 hp9 => ?_)
              obtain ⟨rfl, hR1⟩ := hp9
              rw [← e3] at hR1
              refine ZV_iincN_6 (v := 1) (n := 117) dX12_checkVoice_114 rfl rfl (Nat.le_of_ble_eq_true rfl) rfl ?_
              refine ZV_goto (tgt := 6) dX12_checkVoice_117 (by decide) ?_
              refine ZV_fg_7 ?_
              refine ZV_fg_8 ?_
              exact ih (p + 1) _ _ (by omega) (by omega) (by rw [cvN, ← hG, ← hG1, ← hG2]) hR1
        · skip
          cases hb : boF T (bgF T v p) with
          | none => exact absurd (by rw [hb]; rfl) h53
          | some b =>
            have hbs := boF_some hb
            rw [show oI (some b) = nI b from rfl]
            have hbz := baF_le hI (b + 1) (by omega)
            refine ZV_lload (n := 58) dX12_checkVoice_56 rfl rfl ?_
            refine ZV_aload_n (n := 59) dX12_checkVoice_58 rfl rfl rfl ?_
            refine ZV_iload (n := 61) dX12_checkVoice_59 rfl rfl ?_
            refine ZV_iconst (v := nI 1) (n := 62) dX12_checkVoice_61 rfl rfl ?_
            refine ZV_iaddN (n := 63) dX12_checkVoice_62 rfl ?_
            refine call_X12_246 (c_barAtC hR1 hI (by omega) _ (by omega)) rfl dX12_checkVoice_63 rfl (rf_sh hR1 :).1 (Nat.le_of_ble_eq_true rfl) (Nat.le_of_ble_eq_true rfl) rfl (fun r9 σ9 hp9 => ?_)
            obtain ⟨rfl, rfl⟩ := hp9
            refine ZV_lcmp_leN (tgt := 79) (pc1 := 67) (n := 70) dX12_checkVoice_66 rfl dX12_checkVoice_67 (by decide) rfl (by omega) (by omega) (fun h66 => ?_) (fun h66 => ?_)
            · skip
              have e1 : ce1 T v p G = G := by simp only [ce1, hb]; rw [if_neg (by omega)]
              rw [← e1] at hR1
              obtain ⟨G1, hG1⟩ : ∃ z, z = ce1 T v p G := ⟨_, rfl⟩
              rw [← hG1] at hR1
              have hF2 : G1.1 ≤ 4901 := by have := ce1_le T v p G; rw [← hG1] at this; omega
              clear e1
              refine ZV_aload_n (n := 80) dX12_checkVoice_79 rfl rfl rfl ?_
              refine ZV_iload_n (n := 81) dX12_checkVoice_80 rfl rfl rfl ?_
              refine ZV_iload (n := 83) dX12_checkVoice_81 rfl rfl ?_
              refine call_X12_299 (c_isTieWrongC hR1 hI (by omega) v p hv (by omega)) rfl dX12_checkVoice_83 rfl (rf_sh hR1 :).1 (Nat.le_of_ble_eq_true rfl) (Nat.le_of_ble_eq_true rfl) rfl (fun r9 σ9 hp9 => ?_)
              obtain ⟨rfl, rfl⟩ := hp9
              refine ZV_if_eqB (tgt := 97) (n := 89) dX12_checkVoice_86 (by decide) rfl (fun h86 => ?_) (fun h86 => ?_)
              · skip
                have e2 : ce2 T v p G1 = G1 := by simp [ce2, h86]
                rw [← e2] at hR1
                obtain ⟨G2, hG2⟩ : ∃ z, z = ce2 T v p G1 := ⟨_, rfl⟩
                rw [← hG2] at hR1
                have hF3 : G2.1 ≤ 4902 := by have := ce2_le T v p G1; rw [← hG2] at this; omega
                clear e2
                refine ZV_aload_n (n := 98) dX12_checkVoice_97 rfl rfl rfl ?_
                refine ZV_iload (n := 100) dX12_checkVoice_98 rfl rfl ?_
                refine call_X12_302 (c_isOutC hR1 hI (by omega) v p hrp.1 hrp.2.1) rfl dX12_checkVoice_100 rfl (rf_sh hR1 :).1 (Nat.le_of_ble_eq_true rfl) (Nat.le_of_ble_eq_true rfl) rfl (fun r9 σ9 hp9 => ?_)
                obtain ⟨rfl, hR1⟩ := hp9
                refine ZV_if_eqB (tgt := 114) (n := 106) dX12_checkVoice_103 (by decide) rfl (fun h103 => ?_) (fun h103 => ?_)
                · skip
                  have e3 : ce3 T v p G2 = (G2.1, G2.2.1, (oR T v p G2).2) := by simp [ce3, h103]
                  rw [← e3] at hR1
                  refine ZV_iincN_6 (v := 1) (n := 117) dX12_checkVoice_114 rfl rfl (Nat.le_of_ble_eq_true rfl) rfl ?_
                  refine ZV_goto (tgt := 6) dX12_checkVoice_117 (by decide) ?_
                  refine ZV_fg_7 ?_
                  refine ZV_fg_8 ?_
                  exact ih (p + 1) _ _ (by omega) (by omega) (by rw [cvN, ← hG, ← hG1, ← hG2]) hR1
                · skip
                  have e3 : ce3 T v p G2 = fdF (G2.1, G2.2.1, (oR T v p G2).2) (nI 2) (nI (g_ro T v p)) (-1) := by simp [ce3, h103]
                  refine ZV_aload_n (n := 107) dX12_checkVoice_106 rfl rfl rfl ?_
                  refine ZV_iconst (v := nI 2) (n := 108) dX12_checkVoice_107 rfl rfl ?_
                  refine ZV_iload (n := 110) dX12_checkVoice_108 rfl rfl ?_
                  refine ZV_iconst (v := -1) (n := 111) dX12_checkVoice_110 rfl rfl ?_
                  refine call_X12_295 (c_findsC hR1 (show G2.1 ≤ 5000 by omega) _ _ _) rfl dX12_checkVoice_111 rfl (rf_sh hR1 :).1 (Nat.le_of_ble_eq_true rfl) (Nat.le_of_ble_eq_true rfl) rfl (fun r9 σ9 hp9 => ?_)
                  obtain ⟨rfl, hR1⟩ := hp9
                  rw [← e3] at hR1
                  refine ZV_iincN_6 (v := 1) (n := 117) dX12_checkVoice_114 rfl rfl (Nat.le_of_ble_eq_true rfl) rfl ?_
                  refine ZV_goto (tgt := 6) dX12_checkVoice_117 (by decide) ?_
                  refine ZV_fg_7 ?_
                  refine ZV_fg_8 ?_
                  exact ih (p + 1) _ _ (by omega) (by omega) (by rw [cvN, ← hG, ← hG1, ← hG2]) hR1
              · skip
                have e2 : ce2 T v p G1 = fdF G1 (nI 1) (nI (g_ro T v p)) (-1) := by simp [ce2, h86]
                refine ZV_aload_n (n := 90) dX12_checkVoice_89 rfl rfl rfl ?_
                refine ZV_iconst (v := nI 1) (n := 91) dX12_checkVoice_90 rfl rfl ?_
                refine ZV_iload (n := 93) dX12_checkVoice_91 rfl rfl ?_
                refine ZV_iconst (v := -1) (n := 94) dX12_checkVoice_93 rfl rfl ?_
                refine call_X12_295 (c_findsC hR1 (by omega) _ _ _) rfl dX12_checkVoice_94 rfl (rf_sh hR1 :).1 (Nat.le_of_ble_eq_true rfl) (Nat.le_of_ble_eq_true rfl) rfl (fun r9 σ9 hp9 => ?_)
                obtain ⟨rfl, hR1⟩ := hp9
                rw [← e2] at hR1
                obtain ⟨G2, hG2⟩ : ∃ z, z = ce2 T v p G1 := ⟨_, rfl⟩
                rw [← hG2] at hR1
                have hF3 : G2.1 ≤ 4902 := by have := ce2_le T v p G1; rw [← hG2] at this; omega
                clear e2
                refine ZV_aload_n (n := 98) dX12_checkVoice_97 rfl rfl rfl ?_
                refine ZV_iload (n := 100) dX12_checkVoice_98 rfl rfl ?_
                refine call_X12_302 (c_isOutC hR1 hI (by omega) v p hrp.1 hrp.2.1) rfl dX12_checkVoice_100 rfl (rf_sh hR1 :).1 (Nat.le_of_ble_eq_true rfl) (Nat.le_of_ble_eq_true rfl) rfl (fun r9 σ9 hp9 => ?_)
                obtain ⟨rfl, hR1⟩ := hp9
                refine ZV_if_eqB (tgt := 114) (n := 106) dX12_checkVoice_103 (by decide) rfl (fun h103 => ?_) (fun h103 => ?_)
                · skip
                  have e3 : ce3 T v p G2 = (G2.1, G2.2.1, (oR T v p G2).2) := by simp [ce3, h103]
                  rw [← e3] at hR1
                  refine ZV_iincN_6 (v := 1) (n := 117) dX12_checkVoice_114 rfl rfl (Nat.le_of_ble_eq_true rfl) rfl ?_
                  refine ZV_goto (tgt := 6) dX12_checkVoice_117 (by decide) ?_
                  refine ZV_fg_7 ?_
                  refine ZV_fg_8 ?_
                  exact ih (p + 1) _ _ (by omega) (by omega) (by rw [cvN, ← hG, ← hG1, ← hG2]) hR1
                · skip
                  have e3 : ce3 T v p G2 = fdF (G2.1, G2.2.1, (oR T v p G2).2) (nI 2) (nI (g_ro T v p)) (-1) := by simp [ce3, h103]
                  refine ZV_aload_n (n := 107) dX12_checkVoice_106 rfl rfl rfl ?_
                  refine ZV_iconst (v := nI 2) (n := 108) dX12_checkVoice_107 rfl rfl ?_
                  refine ZV_iload (n := 110) dX12_checkVoice_108 rfl rfl ?_
                  refine ZV_iconst (v := -1) (n := 111) dX12_checkVoice_110 rfl rfl ?_
                  refine call_X12_295 (c_findsC hR1 (show G2.1 ≤ 5000 by omega) _ _ _) rfl dX12_checkVoice_111 rfl (rf_sh hR1 :).1 (Nat.le_of_ble_eq_true rfl) (Nat.le_of_ble_eq_true rfl) rfl (fun r9 σ9 hp9 => ?_)
                  obtain ⟨rfl, hR1⟩ := hp9
                  rw [← e3] at hR1
                  refine ZV_iincN_6 (v := 1) (n := 117) dX12_checkVoice_114 rfl rfl (Nat.le_of_ble_eq_true rfl) rfl ?_
                  refine ZV_goto (tgt := 6) dX12_checkVoice_117 (by decide) ?_
                  refine ZV_fg_7 ?_
                  refine ZV_fg_8 ?_
                  exact ih (p + 1) _ _ (by omega) (by omega) (by rw [cvN, ← hG, ← hG1, ← hG2]) hR1
            · skip
              have e1 : ce1 T v p G = fdF G (nI 0) (nI (g_ro T v p)) (nI b) := by simp only [ce1, hb]; rw [if_pos (by omega)]
              refine ZV_aload_n (n := 71) dX12_checkVoice_70 rfl rfl rfl ?_
              refine ZV_iconst (v := nI 0) (n := 72) dX12_checkVoice_71 rfl rfl ?_
              refine ZV_iload (n := 74) dX12_checkVoice_72 rfl rfl ?_
              refine ZV_iload (n := 76) dX12_checkVoice_74 rfl rfl ?_
              refine call_X12_295 (c_findsC hR1 (by omega) _ _ _) rfl dX12_checkVoice_76 rfl (rf_sh hR1 :).1 (Nat.le_of_ble_eq_true rfl) (Nat.le_of_ble_eq_true rfl) rfl (fun r9 σ9 hp9 => ?_)
              obtain ⟨rfl, hR1⟩ := hp9
              rw [← e1] at hR1
              obtain ⟨G1, hG1⟩ : ∃ z, z = ce1 T v p G := ⟨_, rfl⟩
              rw [← hG1] at hR1
              have hF2 : G1.1 ≤ 4901 := by have := ce1_le T v p G; rw [← hG1] at this; omega
              clear e1
              refine ZV_aload_n (n := 80) dX12_checkVoice_79 rfl rfl rfl ?_
              refine ZV_iload_n (n := 81) dX12_checkVoice_80 rfl rfl rfl ?_
              refine ZV_iload (n := 83) dX12_checkVoice_81 rfl rfl ?_
              refine call_X12_299 (c_isTieWrongC hR1 hI (by omega) v p hv (by omega)) rfl dX12_checkVoice_83 rfl (rf_sh hR1 :).1 (Nat.le_of_ble_eq_true rfl) (Nat.le_of_ble_eq_true rfl) rfl (fun r9 σ9 hp9 => ?_)
              obtain ⟨rfl, rfl⟩ := hp9
              refine ZV_if_eqB (tgt := 97) (n := 89) dX12_checkVoice_86 (by decide) rfl (fun h86 => ?_) (fun h86 => ?_)
              · skip
                have e2 : ce2 T v p G1 = G1 := by simp [ce2, h86]
                rw [← e2] at hR1
                obtain ⟨G2, hG2⟩ : ∃ z, z = ce2 T v p G1 := ⟨_, rfl⟩
                rw [← hG2] at hR1
                have hF3 : G2.1 ≤ 4902 := by have := ce2_le T v p G1; rw [← hG2] at this; omega
                clear e2
                refine ZV_aload_n (n := 98) dX12_checkVoice_97 rfl rfl rfl ?_
                refine ZV_iload (n := 100) dX12_checkVoice_98 rfl rfl ?_
                refine call_X12_302 (c_isOutC hR1 hI (by omega) v p hrp.1 hrp.2.1) rfl dX12_checkVoice_100 rfl (rf_sh hR1 :).1 (Nat.le_of_ble_eq_true rfl) (Nat.le_of_ble_eq_true rfl) rfl (fun r9 σ9 hp9 => ?_)
                obtain ⟨rfl, hR1⟩ := hp9
                refine ZV_if_eqB (tgt := 114) (n := 106) dX12_checkVoice_103 (by decide) rfl (fun h103 => ?_) (fun h103 => ?_)
                · skip
                  have e3 : ce3 T v p G2 = (G2.1, G2.2.1, (oR T v p G2).2) := by simp [ce3, h103]
                  rw [← e3] at hR1
                  refine ZV_iincN_6 (v := 1) (n := 117) dX12_checkVoice_114 rfl rfl (Nat.le_of_ble_eq_true rfl) rfl ?_
                  refine ZV_goto (tgt := 6) dX12_checkVoice_117 (by decide) ?_
                  refine ZV_fg_7 ?_
                  refine ZV_fg_8 ?_
                  exact ih (p + 1) _ _ (by omega) (by omega) (by rw [cvN, ← hG, ← hG1, ← hG2]) hR1
                · skip
                  have e3 : ce3 T v p G2 = fdF (G2.1, G2.2.1, (oR T v p G2).2) (nI 2) (nI (g_ro T v p)) (-1) := by simp [ce3, h103]
                  refine ZV_aload_n (n := 107) dX12_checkVoice_106 rfl rfl rfl ?_
                  refine ZV_iconst (v := nI 2) (n := 108) dX12_checkVoice_107 rfl rfl ?_
                  refine ZV_iload (n := 110) dX12_checkVoice_108 rfl rfl ?_
                  refine ZV_iconst (v := -1) (n := 111) dX12_checkVoice_110 rfl rfl ?_
                  refine call_X12_295 (c_findsC hR1 (show G2.1 ≤ 5000 by omega) _ _ _) rfl dX12_checkVoice_111 rfl (rf_sh hR1 :).1 (Nat.le_of_ble_eq_true rfl) (Nat.le_of_ble_eq_true rfl) rfl (fun r9 σ9 hp9 => ?_)
                  obtain ⟨rfl, hR1⟩ := hp9
                  rw [← e3] at hR1
                  refine ZV_iincN_6 (v := 1) (n := 117) dX12_checkVoice_114 rfl rfl (Nat.le_of_ble_eq_true rfl) rfl ?_
                  refine ZV_goto (tgt := 6) dX12_checkVoice_117 (by decide) ?_
                  refine ZV_fg_7 ?_
                  refine ZV_fg_8 ?_
                  exact ih (p + 1) _ _ (by omega) (by omega) (by rw [cvN, ← hG, ← hG1, ← hG2]) hR1
              · skip
                have e2 : ce2 T v p G1 = fdF G1 (nI 1) (nI (g_ro T v p)) (-1) := by simp [ce2, h86]
                refine ZV_aload_n (n := 90) dX12_checkVoice_89 rfl rfl rfl ?_
                refine ZV_iconst (v := nI 1) (n := 91) dX12_checkVoice_90 rfl rfl ?_
                refine ZV_iload (n := 93) dX12_checkVoice_91 rfl rfl ?_
                refine ZV_iconst (v := -1) (n := 94) dX12_checkVoice_93 rfl rfl ?_
                refine call_X12_295 (c_findsC hR1 (by omega) _ _ _) rfl dX12_checkVoice_94 rfl (rf_sh hR1 :).1 (Nat.le_of_ble_eq_true rfl) (Nat.le_of_ble_eq_true rfl) rfl (fun r9 σ9 hp9 => ?_)
                obtain ⟨rfl, hR1⟩ := hp9
                rw [← e2] at hR1
                obtain ⟨G2, hG2⟩ : ∃ z, z = ce2 T v p G1 := ⟨_, rfl⟩
                rw [← hG2] at hR1
                have hF3 : G2.1 ≤ 4902 := by have := ce2_le T v p G1; rw [← hG2] at this; omega
                clear e2
                refine ZV_aload_n (n := 98) dX12_checkVoice_97 rfl rfl rfl ?_
                refine ZV_iload (n := 100) dX12_checkVoice_98 rfl rfl ?_
                refine call_X12_302 (c_isOutC hR1 hI (by omega) v p hrp.1 hrp.2.1) rfl dX12_checkVoice_100 rfl (rf_sh hR1 :).1 (Nat.le_of_ble_eq_true rfl) (Nat.le_of_ble_eq_true rfl) rfl (fun r9 σ9 hp9 => ?_)
                obtain ⟨rfl, hR1⟩ := hp9
                refine ZV_if_eqB (tgt := 114) (n := 106) dX12_checkVoice_103 (by decide) rfl (fun h103 => ?_) (fun h103 => ?_)
                · skip
                  have e3 : ce3 T v p G2 = (G2.1, G2.2.1, (oR T v p G2).2) := by simp [ce3, h103]
                  rw [← e3] at hR1
                  refine ZV_iincN_6 (v := 1) (n := 117) dX12_checkVoice_114 rfl rfl (Nat.le_of_ble_eq_true rfl) rfl ?_
                  refine ZV_goto (tgt := 6) dX12_checkVoice_117 (by decide) ?_
                  refine ZV_fg_7 ?_
                  refine ZV_fg_8 ?_
                  exact ih (p + 1) _ _ (by omega) (by omega) (by rw [cvN, ← hG, ← hG1, ← hG2]) hR1
                · skip
                  have e3 : ce3 T v p G2 = fdF (G2.1, G2.2.1, (oR T v p G2).2) (nI 2) (nI (g_ro T v p)) (-1) := by simp [ce3, h103]
                  refine ZV_aload_n (n := 107) dX12_checkVoice_106 rfl rfl rfl ?_
                  refine ZV_iconst (v := nI 2) (n := 108) dX12_checkVoice_107 rfl rfl ?_
                  refine ZV_iload (n := 110) dX12_checkVoice_108 rfl rfl ?_
                  refine ZV_iconst (v := -1) (n := 111) dX12_checkVoice_110 rfl rfl ?_
                  refine call_X12_295 (c_findsC hR1 (show G2.1 ≤ 5000 by omega) _ _ _) rfl dX12_checkVoice_111 rfl (rf_sh hR1 :).1 (Nat.le_of_ble_eq_true rfl) (Nat.le_of_ble_eq_true rfl) rfl (fun r9 σ9 hp9 => ?_)
                  obtain ⟨rfl, hR1⟩ := hp9
                  rw [← e3] at hR1
                  refine ZV_iincN_6 (v := 1) (n := 117) dX12_checkVoice_114 rfl rfl (Nat.le_of_ble_eq_true rfl) rfl ?_
                  refine ZV_goto (tgt := 6) dX12_checkVoice_117 (by decide) ?_
                  refine ZV_fg_7 ?_
                  refine ZV_fg_8 ?_
                  exact ih (p + 1) _ _ (by omega) (by omega) (by rw [cvN, ← hG, ← hG1, ← hG2]) hR1
  refine ZV_lconst (v := lN 0) (n := 1) dX12_checkVoice_0 rfl rfl ?_
  refine ZV_lstore_4 (n := 3) dX12_checkVoice_1 rfl (Nat.le_of_ble_eq_true rfl) rfl ?_
  refine ZV_iconst (v := nI 0) (n := 4) dX12_checkVoice_3 rfl rfl ?_
  refine ZV_istore_6 (n := 6) dX12_checkVoice_4 rfl (Nat.le_of_ble_eq_true rfl) rfl ?_
  exact loop _ 0 F _ (Nat.lt_succ_self _) (Nat.zero_le _) rfl hR
set_option maxHeartbeats 4000000 in
set_option maxRecDepth 100000 in
theorem c_isSumWrong {x : Nat} {σ : ZS} {T : TS} (hR : rR x σ T) (hI : tI T) (t : Nat) (ht : t < g_te T) (htt : g_tt T t = true) : ZC M_X12_isSumWrong [Ar (some x), Ai (nI t)] σ (fun r τ => r = some (Ai (bI (swB T t))) ∧ τ = σ) := by
  have hte := ti_te hI
  have hev := ti_ev hI
  have hnp := ti_np hI
  have htp := ti_tp hI t ht htt
  have htu := ti_tu hI t ht
  have htn := ti_tn hI t ht
  have hvf := ti_vo hI _ htp.1
  have hp1 := (ti_pl hI _ htp.1 htp.2.2.1).1
  have hp2 := (ti_pl hI _ htp.2.1 htp.2.2.2.1).1
  rw [htp.2.2.2.2.1] at hp1 hvf
  rw [htp.2.2.2.2.2.1] at hp2
  have hmn := ti_mn hI (g_tv T t)
  refine ZC_of (ls := [some (Ar (some x)), some (Ai (nI t)), none, none, none, none, none, none, none, none, none]) (by decide) (Nat.le_of_ble_eq_true rfl) rfl ?_
  refine ZV_lconst (v := lN 0) (n := 1) dX12_isSumWrong_0 rfl rfl ?_
  refine ZV_lstore_2 (n := 2) dX12_isSumWrong_1 rfl (Nat.le_of_ble_eq_true rfl) rfl ?_
  refine ZV_aload_n (n := 3) dX12_isSumWrong_2 rfl rfl rfl ?_
  refine ZV_getR (n := 6) dX12_isSumWrong_3 fl_X12_51 rfl rfl rfl (rf_sh hR :).1 ?_
  refine ZV_iload_n (n := 7) dX12_isSumWrong_6 rfl rfl rfl ?_
  refine ZV_ialdv (n := 8) dX12_isSumWrong_7 rfl (ra_tupletVoice (rf_sh hR :) :) (rk_tupletVoice (rf_sh hR :) :) rfl (by omega) (rf_tupletVoice hR _ (by omega)) ?_
  refine ZV_istore_4 (n := 10) dX12_isSumWrong_8 rfl (Nat.le_of_ble_eq_true rfl) rfl ?_
  refine ZV_aload_n (n := 11) dX12_isSumWrong_10 rfl rfl rfl ?_
  refine ZV_aload_n (n := 12) dX12_isSumWrong_11 rfl rfl rfl ?_
  refine ZV_getR (n := 15) dX12_isSumWrong_12 fl_X12_57 rfl rfl rfl (rf_sh hR :).1 ?_
  refine ZV_iload_n (n := 16) dX12_isSumWrong_15 rfl rfl rfl ?_
  refine ZV_ialdv (n := 17) dX12_isSumWrong_16 rfl (ra_tupletLast (rf_sh hR :) :) (rk_tupletLast (rf_sh hR :) :) rfl (by omega) (rf_tupletLast hR _ (by omega)) ?_
  refine call_X12_196 (c_placeOf hR hI _ htp.2.1 htp.2.2.2.1) rfl dX12_isSumWrong_17 rfl (rf_sh hR :).1 (Nat.le_of_ble_eq_true rfl) (Nat.le_of_ble_eq_true rfl) rfl (fun r9 σ9 hp9 => ?_)
  obtain ⟨rfl, hs9⟩ := hp9
  subst σ9
  refine ZV_istore_5 (n := 22) dX12_isSumWrong_20 rfl (Nat.le_of_ble_eq_true rfl) rfl ?_
  refine ZV_aload_n (n := 23) dX12_isSumWrong_22 rfl rfl rfl ?_
  refine ZV_aload_n (n := 24) dX12_isSumWrong_23 rfl rfl rfl ?_
  refine ZV_getR (n := 27) dX12_isSumWrong_24 fl_X12_54 rfl rfl rfl (rf_sh hR :).1 ?_
  refine ZV_iload_n (n := 28) dX12_isSumWrong_27 rfl rfl rfl ?_
  refine ZV_ialdv (n := 29) dX12_isSumWrong_28 rfl (ra_tupletFirst (rf_sh hR :) :) (rk_tupletFirst (rf_sh hR :) :) rfl (by omega) (rf_tupletFirst hR _ (by omega)) ?_
  refine call_X12_196 (c_placeOf hR hI _ htp.1 htp.2.2.1) rfl dX12_isSumWrong_29 rfl (rf_sh hR :).1 (Nat.le_of_ble_eq_true rfl) (Nat.le_of_ble_eq_true rfl) rfl (fun r9 σ9 hp9 => ?_)
  obtain ⟨rfl, hs9⟩ := hp9
  subst σ9
  refine ZV_istore_6 (n := 34) dX12_isSumWrong_32 rfl (Nat.le_of_ble_eq_true rfl) rfl ?_
  have loop : ∀ (n9 : Nat) (k : Nat), szT T t - k < n9 → k ≤ szT T t → ZV M_X12_isSumWrong (fun r τ => r = some (Ai (bI (swB T t))) ∧ τ = σ) 34 [some (Ar (some x)), some (Ai (nI t)), some (Al (lN (ssF T t k))), none, some (Ai (nI (g_tv T t))), some (Ai (nI (g_pl T (g_tl T t)))), some (Ai (nI (g_pl T (g_tf T t) + k))), none, none, none, none] [] σ (zmC M_X12_isSumWrong) (zmS M_X12_isSumWrong) := by
    intro n9
    induction n9 with
    | zero => intro k hm; exact absurd hm (Nat.not_lt_zero _)
    | succ n9 ih =>
      intro k hm hk
      have hsl := ssF_le hI t k
      have hsl2 := ssF_le hI t (k + 1)
      have hszd : szT T t = g_pl T (g_tl T t) - g_pl T (g_tf T t) + 1 := rfl
      refine ZV_iload (n := 36) dX12_isSumWrong_34 rfl rfl ?_
      refine ZV_iload (n := 38) dX12_isSumWrong_36 rfl rfl ?_
      refine ZV_icmp_gtN (tgt := 141) (n := 41) dX12_isSumWrong_38 (by decide) rfl (by omega) (by omega) (fun h38 => ?_) (fun h38 => ?_)
      · skip
        obtain rfl : k = szT T t := by omega
        refine ZV_lload_n (n := 142) dX12_isSumWrong_141 rfl rfl rfl ?_
        refine ZV_ldc2 (v := lN 5644800) (n := 145) dX12_isSumWrong_142 wd_5_97 rfl ?_
        refine ZV_aload_n (n := 146) dX12_isSumWrong_145 rfl rfl rfl ?_
        refine ZV_getR (n := 149) dX12_isSumWrong_146 fl_X12_66 rfl rfl rfl (rf_sh hR :).1 ?_
        refine ZV_iload_n (n := 150) dX12_isSumWrong_149 rfl rfl rfl ?_
        refine ZV_ialdv (n := 151) dX12_isSumWrong_150 rfl (ra_tupletUnit (rf_sh hR :) :) (rk_tupletUnit (rf_sh hR :) :) rfl (by omega) (rf_tupletUnit hR _ (by omega)) ?_
        refine ZV_lshr (n := 152) dX12_isSumWrong_151 rfl ?_
        refine ZV_topl (lsh_lem _ htu) ?_
        refine ZV_aload_n (n := 153) dX12_isSumWrong_152 rfl rfl rfl ?_
        refine ZV_getR (n := 156) dX12_isSumWrong_153 fl_X12_60 rfl rfl rfl (rf_sh hR :).1 ?_
        refine ZV_iload_n (n := 157) dX12_isSumWrong_156 rfl rfl rfl ?_
        refine ZV_ialdv (n := 158) dX12_isSumWrong_157 rfl (ra_tupletN (rf_sh hR :) :) (rk_tupletN (rf_sh hR :) :) rfl (by omega) (rf_tupletN hR _ (by omega)) ?_
        refine ZV_i2lN (n := 159) dX12_isSumWrong_158 rfl (by omega) ?_
        refine ZV_lmulN (n := 160) dX12_isSumWrong_159 rfl ?_
        refine ZV_lcmp_eqN (tgt := 168) (pc1 := 161) (n := 164) dX12_isSumWrong_160 rfl dX12_isSumWrong_161 (by decide) rfl (by omega) (by have := Nat.div_le_self 5644800 (2 ^ g_tu T t); have : 5644800 / 2 ^ g_tu T t * g_tn T t ≤ 5644800 * 7 := Nat.mul_le_mul this (by omega); omega) (fun h160 => ?_) (fun h160 => ?_)
        · skip
          refine ZV_iconst (v := nI 0) (n := 169) dX12_isSumWrong_168 rfl rfl ?_
          refine ZV_zret dX12_isSumWrong_169 rfl (by first | exact Or.inl rfl | exact Or.inr rfl) ?_
          refine ⟨?_, rfl⟩
          unfold swB
          first | (rw [decide_eq_true h160]; rfl) | (rw [decide_eq_false (fun z => z h160)]; rfl)
        · skip
          refine ZV_iconst (v := nI 1) (n := 165) dX12_isSumWrong_164 rfl rfl ?_
          refine ZV_goto (tgt := 169) dX12_isSumWrong_165 (by decide) ?_
          refine ZV_zret dX12_isSumWrong_169 rfl (by first | exact Or.inl rfl | exact Or.inr rfl) ?_
          refine ⟨?_, rfl⟩
          unfold swB
          first | (rw [decide_eq_true h160]; rfl) | (rw [decide_eq_false (fun z => z h160)]; rfl)
      · skip
        have hro := ti_ro hI (g_tv T t) (g_pl T (g_tf T t) + k) (by omega) (by omega)
        refine ZV_aload_n (n := 42) dX12_isSumWrong_41 rfl rfl rfl ?_
        refine ZV_getR (n := 45) dX12_isSumWrong_42 fl_X12_42 rfl rfl rfl (rf_sh hR :).1 ?_
        refine ZV_bipush (v := nI 40) (n := 47) dX12_isSumWrong_45 rfl rfl ?_
        refine ZV_iload (n := 49) dX12_isSumWrong_47 rfl rfl ?_
        refine ZV_imulN (n := 50) dX12_isSumWrong_49 rfl ?_
        refine ZV_iload (n := 52) dX12_isSumWrong_50 rfl rfl ?_
        refine ZV_iaddN (n := 53) dX12_isSumWrong_52 rfl ?_
        refine ZV_ialdv (n := 54) dX12_isSumWrong_53 rfl (ra_row (rf_sh hR :) :) (rk_row (rf_sh hR :) :) rfl (by omega) (rf_row hR _ _ (by omega) (by omega)) ?_
        refine ZV_istore_7 (n := 56) dX12_isSumWrong_54 rfl (Nat.le_of_ble_eq_true rfl) rfl ?_
        refine ZV_aload_n (n := 57) dX12_isSumWrong_56 rfl rfl rfl ?_
        refine ZV_iload (n := 59) dX12_isSumWrong_57 rfl rfl ?_
        refine call_X12_235 (c_writtenOf hR hI _ hro.1) rfl dX12_isSumWrong_59 rfl (rf_sh hR :).1 (Nat.le_of_ble_eq_true rfl) (Nat.le_of_ble_eq_true rfl) rfl (fun r9 σ9 hp9 => ?_)
        obtain ⟨rfl, hs9⟩ := hp9
        subst σ9
        refine ZV_lstore_8 (n := 64) dX12_isSumWrong_62 rfl (Nat.le_of_ble_eq_true rfl) rfl ?_
        refine ZV_iconst (v := nI 0) (n := 65) dX12_isSumWrong_64 rfl rfl ?_
        refine ZV_istore_10 (n := 67) dX12_isSumWrong_65 rfl (Nat.le_of_ble_eq_true rfl) rfl ?_
        have loop2 : ∀ (n9 : Nat) (u : Nat), g_te T - u < n9 → u ≤ g_te T → ZV M_X12_isSumWrong (fun r τ => r = some (Ai (bI (swB T t))) ∧ τ = σ) 67 [some (Ar (some x)), some (Ai (nI t)), some (Al (lN (ssF T t k))), none, some (Ai (nI (g_tv T t))), some (Ai (nI (g_pl T (g_tl T t)))), some (Ai (nI (g_pl T (g_tf T t) + k))), some (Ai (nI (g_ro T (g_tv T t) (g_pl T (g_tf T t) + k)))), some (Al (lN (siF T t (g_ro T (g_tv T t) (g_pl T (g_tf T t) + k)) u))), none, some (Ai (nI u))] [] σ (zmC M_X12_isSumWrong) (zmS M_X12_isSumWrong) := by
          intro n9
          induction n9 with
          | zero => intro u hm; exact absurd hm (Nat.not_lt_zero _)
          | succ n9 ih2 =>
            intro u hm hu
            have hb := siF_le2 hI t (g_ro T (g_tv T t) (g_pl T (g_tf T t) + k)) u hu
            refine ZV_iload (n := 69) dX12_isSumWrong_67 rfl rfl ?_
            refine ZV_aload_n (n := 70) dX12_isSumWrong_69 rfl rfl rfl ?_
            refine ZV_getIv (n := 73) dX12_isSumWrong_70 fl_X12_199 rfl rfl rfl (rf_sh hR :).1 (rf_tupletsEver hR :) ?_
            refine ZV_icmp_geN (tgt := 130) (n := 76) dX12_isSumWrong_73 (by decide) rfl (by omega) (by omega) (fun h73 => ?_) (fun h73 => ?_)
            · skip
              obtain rfl : u = g_te T := by omega
              refine ZV_lload_n (n := 131) dX12_isSumWrong_130 rfl rfl rfl ?_
              refine ZV_lload (n := 133) dX12_isSumWrong_131 rfl rfl ?_
              refine ZV_laddN (n := 134) dX12_isSumWrong_133 rfl ?_
              rw [show ssF T t k + siF T t (g_ro T (g_tv T t) (g_pl T (g_tf T t) + k)) (g_te T) = ssF T t (k + 1) from rfl]
              refine ZV_lstore_2 (n := 135) dX12_isSumWrong_134 rfl (Nat.le_of_ble_eq_true rfl) rfl ?_
              refine ZV_iincN_6 (v := 1) (n := 138) dX12_isSumWrong_135 rfl rfl (Nat.le_of_ble_eq_true rfl) rfl ?_
              refine ZV_goto (tgt := 34) dX12_isSumWrong_138 (by decide) ?_
              refine ZV_fg_7 ?_
              refine ZV_fg_8 ?_
              refine ZV_fg_10 ?_
              exact ih (k + 1) (by omega) (by omega)
            · skip
              refine ZV_aload_n (n := 77) dX12_isSumWrong_76 rfl rfl rfl ?_
              refine ZV_iload (n := 79) dX12_isSumWrong_77 rfl rfl ?_
              refine ZV_iload_n (n := 80) dX12_isSumWrong_79 rfl rfl rfl ?_
              refine call_X12_280 (c_isInner hR hI _ _ (by omega) ht) rfl dX12_isSumWrong_80 rfl (rf_sh hR :).1 (Nat.le_of_ble_eq_true rfl) (Nat.le_of_ble_eq_true rfl) rfl (fun r9 σ9 hp9 => ?_)
              obtain ⟨rfl, rfl⟩ := hp9
              refine ZV_if_eqB (tgt := 120) (n := 86) dX12_isSumWrong_83 (by decide) rfl (fun h83 => ?_) (fun h83 => ?_)
              · skip
                have hq : siF T t (g_ro T (g_tv T t) (g_pl T (g_tf T t) + k)) u = siF T t (g_ro T (g_tv T t) (g_pl T (g_tf T t) + k)) (u + 1) := by rw [siF, if_neg (fun z => by rw [h83] at z; exact absurd z.1 (by decide))]
                refine ZV_lload (n := 122) dX12_isSumWrong_120 rfl rfl ?_
                rw [hq]
                refine ZV_lstore_8 (n := 124) dX12_isSumWrong_122 rfl (Nat.le_of_ble_eq_true rfl) rfl ?_
                refine ZV_iincN_10 (v := 1) (n := 127) dX12_isSumWrong_124 rfl rfl (Nat.le_of_ble_eq_true rfl) rfl ?_
                refine ZV_goto (tgt := 67) dX12_isSumWrong_127 (by decide) ?_
                exact ih2 (u + 1) (by omega) (by omega)
              · skip
                refine ZV_aload_n (n := 87) dX12_isSumWrong_86 rfl rfl rfl ?_
                refine ZV_iload (n := 89) dX12_isSumWrong_87 rfl rfl ?_
                refine ZV_iload (n := 91) dX12_isSumWrong_89 rfl rfl ?_
                refine call_X12_239 (c_liesIn hR hI _ _ hro.1 hro.2.1 (by omega)) rfl dX12_isSumWrong_91 rfl (rf_sh hR :).1 (Nat.le_of_ble_eq_true rfl) (Nat.le_of_ble_eq_true rfl) rfl (fun r9 σ9 hp9 => ?_)
                obtain ⟨rfl, rfl⟩ := hp9
                refine ZV_if_eqB (tgt := 120) (n := 97) dX12_isSumWrong_94 (by decide) rfl (fun h94 => ?_) (fun h94 => ?_)
                · skip
                  have hq : siF T t (g_ro T (g_tv T t) (g_pl T (g_tf T t) + k)) u = siF T t (g_ro T (g_tv T t) (g_pl T (g_tf T t) + k)) (u + 1) := by rw [siF, if_neg (fun z => by rw [h94] at z; exact absurd z.2 (by decide))]
                  refine ZV_lload (n := 122) dX12_isSumWrong_120 rfl rfl ?_
                  rw [hq]
                  refine ZV_lstore_8 (n := 124) dX12_isSumWrong_122 rfl (Nat.le_of_ble_eq_true rfl) rfl ?_
                  refine ZV_iincN_10 (v := 1) (n := 127) dX12_isSumWrong_124 rfl rfl (Nat.le_of_ble_eq_true rfl) rfl ?_
                  refine ZV_goto (tgt := 67) dX12_isSumWrong_127 (by decide) ?_
                  exact ih2 (u + 1) (by omega) (by omega)
                · skip
                  have hq : siF T t (g_ro T (g_tv T t) (g_pl T (g_tf T t) + k)) u / g_tn T u * g_tm T u = siF T t (g_ro T (g_tv T t) (g_pl T (g_tf T t) + k)) (u + 1) := by rw [siF, if_pos ⟨h83, h94⟩]
                  have hn := ti_tn hI u (by omega)
                  have hm := ti_tm hI u (by omega)
                  refine ZV_lload (n := 99) dX12_isSumWrong_97 rfl rfl ?_
                  refine ZV_aload_n (n := 100) dX12_isSumWrong_99 rfl rfl rfl ?_
                  refine ZV_getR (n := 103) dX12_isSumWrong_100 fl_X12_60 rfl rfl rfl (rf_sh hR :).1 ?_
                  refine ZV_iload (n := 105) dX12_isSumWrong_103 rfl rfl ?_
                  refine ZV_ialdv (n := 106) dX12_isSumWrong_105 rfl (ra_tupletN (rf_sh hR :) :) (rk_tupletN (rf_sh hR :) :) rfl (by omega) (rf_tupletN hR _ (by omega)) ?_
                  refine ZV_i2lN (n := 107) dX12_isSumWrong_106 rfl (by omega) ?_
                  refine ZV_ldivN (n := 108) dX12_isSumWrong_107 rfl (by omega) (by omega) (by omega) ?_
                  refine ZV_aload_n (n := 109) dX12_isSumWrong_108 rfl rfl rfl ?_
                  refine ZV_getR (n := 112) dX12_isSumWrong_109 fl_X12_63 rfl rfl rfl (rf_sh hR :).1 ?_
                  refine ZV_iload (n := 114) dX12_isSumWrong_112 rfl rfl ?_
                  refine ZV_ialdv (n := 115) dX12_isSumWrong_114 rfl (ra_tupletM (rf_sh hR :) :) (rk_tupletM (rf_sh hR :) :) rfl (by omega) (rf_tupletM hR _ (by omega)) ?_
                  refine ZV_i2lN (n := 116) dX12_isSumWrong_115 rfl (by omega) ?_
                  refine ZV_lmulN (n := 117) dX12_isSumWrong_116 rfl ?_
                  refine ZV_goto (tgt := 122) dX12_isSumWrong_117 (by decide) ?_
                  rw [hq]
                  refine ZV_lstore_8 (n := 124) dX12_isSumWrong_122 rfl (Nat.le_of_ble_eq_true rfl) rfl ?_
                  refine ZV_iincN_10 (v := 1) (n := 127) dX12_isSumWrong_124 rfl rfl (Nat.le_of_ble_eq_true rfl) rfl ?_
                  refine ZV_goto (tgt := 67) dX12_isSumWrong_127 (by decide) ?_
                  exact ih2 (u + 1) (by omega) (by omega)
        exact loop2 _ 0 (Nat.lt_succ_self _) (Nat.zero_le _)
  exact loop _ 0 (Nat.lt_succ_self _) (Nat.zero_le _)
theorem c_isSumWrongC {x : Nat} {σ : ZS} {T : TS} {F : FS} (hR : rR x σ (cT T F)) (hI : tI T) (hF : F.1 ≤ 5000) (t : Nat) (ht : t < g_te T) (htt : g_tt T t = true) : ZC M_X12_isSumWrong [Ar (some x), Ai (nI t)] σ (fun y0 τ0 => y0 = some (Ai (bI (swB T t))) ∧ τ0 = σ) := by
  have h := c_isSumWrong hR (tI_ct hI hF) t ht htt
  rw [swB_ct] at h
  exact h
set_option maxHeartbeats 4000000 in
set_option maxRecDepth 100000 in
theorem c_check {x : Nat} {σ : ZS} {T : TS} (hR : rR x σ T) (hI : tI T)  : ZC M_X12_check [Ar (some x)] σ (fun y0 τ0 => y0 = some (Ai (sp_check T).1) ∧ rR x τ0 (sp_check T).2) := by
  have hsp : sp_check T = sp_check (h_su T 0) := rfl
  rw [hsp]
  clear hsp
  refine ZC_of (ls := [some (Ar (some x)), none, none, none]) (by decide) (Nat.le_of_ble_eq_true rfl) rfl ?_
  refine ZV_aload_n (n := 1) dX12_check_0 rfl rfl rfl ?_
  refine call_X12_144 (c_begin hR) rfl dX12_check_1 rfl (rf_sh hR :).1 (Nat.le_of_ble_eq_true rfl) (Nat.le_of_ble_eq_true rfl) rfl (fun r9 σ9 hp9 => ?_)
  obtain ⟨rfl, hR⟩ := hp9
  have hI := tI_su hI 0
  have hsu : g_su (h_su T 0) = 0 := rfl
  generalize h_su T 0 = T at hR hI hsu ⊢
  have hnp := ti_np hI
  have hnb := ti_nb hI
  have hte := ti_te hI
  have hle := ti_le hI
  have hev := ti_ev hI
  refine ZV_aload_n (n := 5) dX12_check_4 rfl rfl rfl ?_
  refine ZV_iconst (v := nI 0) (n := 6) dX12_check_5 rfl rfl ?_
  refine ZV_putI (n := 9) dX12_check_6 fl_X12_289 rfl (Or.inl rfl) rfl (fun h => absurd h (by decide)) rfl (rf_sh hR :).1 ?_
  refine ZV_gen (P := fun τ => rR x τ _) (rR_found hR 0) (fun σ hR => ?_)
  rw [← cT_0] at hR
  refine ZV_aload_n (n := 10) dX12_check_9 rfl rfl rfl ?_
  refine ZV_aload_n (n := 11) dX12_check_10 rfl rfl rfl ?_
  refine ZV_getIv (n := 14) dX12_check_11 fl_X12_151 rfl rfl rfl (rf_sh hR :).1 (Eq.trans ((rf_bars hR :) :) (show _ = nI (g_nb T) by first | simp only [gh_nb_ct, gh_nb_cu, gh_nb_cl, gh_nb_np, gh_nb_pk, gh_nb_nb, gh_nb_bt, gh_nb_ev, gh_nb_th, gh_nb_vo, gh_nb_kd, gh_nb_pn, gh_nb_pi, gh_nb_va, gh_nb_dt, gh_nb_ti, gh_nb_pl, gh_nb_mn, gh_nb_ro, gh_nb_te, gh_nb_tt, gh_nb_tv, gh_nb_tf, gh_nb_tl, gh_nb_tn, gh_nb_tm, gh_nb_tu, gh_nb_le, gh_nb_lt, gh_nb_lk, gh_nb_lf, gh_nb_lo, gh_nb_wm, gh_nb_wr, gh_nb_fo, gh_nb_fi, gh_nb_hr, gh_nb_rk, gh_nb_rs, gh_nb_rr, gh_nb_hs, gh_nb_sk, gh_nb_ss, gh_nb_sr, gh_nb_fa, gh_nb_su, gh_nb_tr] | rfl)) ?_
  refine call_X12_246 (c_barAtC hR hI (Nat.zero_le _) _ (by omega)) rfl dX12_check_14 rfl (rf_sh hR :).1 (Nat.le_of_ble_eq_true rfl) (Nat.le_of_ble_eq_true rfl) rfl (fun r9 σ9 hp9 => ?_)
  obtain ⟨rfl, rfl⟩ := hp9
  refine ZV_lstore_1 (n := 18) dX12_check_17 rfl (Nat.le_of_ble_eq_true rfl) rfl ?_
  refine ZV_iconst (v := nI 0) (n := 19) dX12_check_18 rfl rfl ?_
  refine ZV_istore_3 (n := 20) dX12_check_19 rfl (Nat.le_of_ble_eq_true rfl) rfl ?_
  have loopL : ∀ (n9 : Nat) (l : Nat) (G : FS) (τ : ZS), g_le T - l < n9 → l ≤ g_le T → G = ckL T (ckT T (ckV T (3 * g_np T)) (g_te T)) l → rR x τ (cT T G) → ZV M_X12_check (fun y0 τ0 => y0 = some (Ai (sp_check T).1) ∧ rR x τ0 (sp_check T).2) 84 [some (Ar (some x)), some (Al (lN (baF T (g_nb T)))), none, some (Ai (nI l))] [] τ (zmC M_X12_check) (zmS M_X12_check) := by
    intro n9
    induction n9 with
    | zero => intro l G τ hm; exact absurd hm (Nat.not_lt_zero _)
    | succ n9 ih =>
      intro l G τ hm hl hG hR1
      have hF1 : G.1 ≤ 4900 := by
        have h1 := ckV_le hI (3 * g_np T)
        have h2 := ckT_le T (ckV T (3 * g_np T)) (g_te T)
        have h3 := ckL_le T (ckT T (ckV T (3 * g_np T)) (g_te T)) l
        rw [← hG] at h3
        omega
      refine ZV_iload_n (n := 85) dX12_check_84 rfl rfl rfl ?_
      refine ZV_aload_n (n := 86) dX12_check_85 rfl rfl rfl ?_
      refine ZV_getIv (n := 89) dX12_check_86 fl_X12_205 rfl rfl rfl (rf_sh hR1 :).1 (Eq.trans ((rf_linesEver hR1 :) :) (show _ = nI (g_le T) by first | simp only [gh_le_ct, gh_le_cu, gh_le_cl, gh_le_np, gh_le_pk, gh_le_nb, gh_le_bt, gh_le_ev, gh_le_th, gh_le_vo, gh_le_kd, gh_le_pn, gh_le_pi, gh_le_va, gh_le_dt, gh_le_ti, gh_le_pl, gh_le_mn, gh_le_ro, gh_le_te, gh_le_tt, gh_le_tv, gh_le_tf, gh_le_tl, gh_le_tn, gh_le_tm, gh_le_tu, gh_le_le, gh_le_lt, gh_le_lk, gh_le_lf, gh_le_lo, gh_le_wm, gh_le_wr, gh_le_fo, gh_le_fi, gh_le_hr, gh_le_rk, gh_le_rs, gh_le_rr, gh_le_hs, gh_le_sk, gh_le_ss, gh_le_sr, gh_le_fa, gh_le_su, gh_le_tr] | rfl)) ?_
      refine ZV_icmp_geN (tgt := 169) (n := 92) dX12_check_89 (by decide) rfl (by omega) (by omega) (fun h89 => ?_) (fun h89 => ?_)
      · skip
        refine ZV_aload_n (n := 170) dX12_check_169 rfl rfl rfl ?_
        refine ZV_getIv (n := 173) dX12_check_170 fl_X12_289 rfl rfl rfl (rf_sh hR1 :).1 (Eq.trans ((rf_found hR1 :) :) (show _ = nI G.1 by first | simp only [gh_fo_ct, gh_fo_cu, gh_fo_cl, gh_fo_np, gh_fo_pk, gh_fo_nb, gh_fo_bt, gh_fo_ev, gh_fo_th, gh_fo_vo, gh_fo_kd, gh_fo_pn, gh_fo_pi, gh_fo_va, gh_fo_dt, gh_fo_ti, gh_fo_pl, gh_fo_mn, gh_fo_ro, gh_fo_te, gh_fo_tt, gh_fo_tv, gh_fo_tf, gh_fo_tl, gh_fo_tn, gh_fo_tm, gh_fo_tu, gh_fo_le, gh_fo_lt, gh_fo_lk, gh_fo_lf, gh_fo_lo, gh_fo_wm, gh_fo_wr, gh_fo_fo, gh_fo_fi, gh_fo_hr, gh_fo_rk, gh_fo_rs, gh_fo_rr, gh_fo_hs, gh_fo_sk, gh_fo_ss, gh_fo_sr, gh_fo_fa, gh_fo_su, gh_fo_tr] | rfl)) ?_
        refine ZV_iret dX12_check_173 rfl ?_
        obtain rfl : l = g_le T := by omega
        have hGf : G = ckF T := hG
        subst hGf
        exact zleaf (v := sOk (cT T (ckF T)) (nI (ckF T).1)) (by rw [sp_check, su0 hsu]) rfl (rR_s0 hR1 hsu)
      · skip
        refine ZV_aload_n (n := 93) dX12_check_92 rfl rfl rfl ?_
        refine ZV_getR (n := 96) dX12_check_93 fl_X12_69 rfl rfl rfl (rf_sh hR1 :).1 ?_
        refine ZV_iload_n (n := 97) dX12_check_96 rfl rfl rfl ?_
        refine ZV_baldv (n := 98) dX12_check_97 rfl (ra_isLine (rf_sh hR1 :) :) (rk_isLine (rf_sh hR1 :) :) rfl (by omega) (Eq.trans ((rf_isLine hR1 l (by omega)) :) (show _ = bI (g_lt T l) by first | simp only [gh_lt_ct, gh_lt_cu, gh_lt_cl, gh_lt_np, gh_lt_pk, gh_lt_nb, gh_lt_bt, gh_lt_ev, gh_lt_th, gh_lt_vo, gh_lt_kd, gh_lt_pn, gh_lt_pi, gh_lt_va, gh_lt_dt, gh_lt_ti, gh_lt_pl, gh_lt_mn, gh_lt_ro, gh_lt_te, gh_lt_tt, gh_lt_tv, gh_lt_tf, gh_lt_tl, gh_lt_tn, gh_lt_tm, gh_lt_tu, gh_lt_le, gh_lt_lt, gh_lt_lk, gh_lt_lf, gh_lt_lo, gh_lt_wm, gh_lt_wr, gh_lt_fo, gh_lt_fi, gh_lt_hr, gh_lt_rk, gh_lt_rs, gh_lt_rr, gh_lt_hs, gh_lt_sk, gh_lt_ss, gh_lt_sr, gh_lt_fa, gh_lt_su, gh_lt_tr] | rfl)) ?_
        refine ZV_if_eqB (tgt := 122) (n := 101) dX12_check_98 (by decide) rfl (fun h98 => ?_) (fun h98 => ?_)
        · skip
          have e9 : ckL T (ckT T (ckV T (3 * g_np T)) (g_te T)) (l + 1) = G := by rw [ckL, if_neg (by rw [h98]; decide), ← hG]
          refine ZV_aload_n (n := 123) dX12_check_122 rfl rfl rfl ?_
          refine ZV_getR (n := 126) dX12_check_123 fl_X12_69 rfl rfl rfl (rf_sh hR1 :).1 ?_
          refine ZV_iload_n (n := 127) dX12_check_126 rfl rfl rfl ?_
          refine ZV_baldv (n := 128) dX12_check_127 rfl (ra_isLine (rf_sh hR1 :) :) (rk_isLine (rf_sh hR1 :) :) rfl (by omega) (Eq.trans ((rf_isLine hR1 l (by omega)) :) (show _ = bI (g_lt T l) by first | simp only [gh_lt_ct, gh_lt_cu, gh_lt_cl, gh_lt_np, gh_lt_pk, gh_lt_nb, gh_lt_bt, gh_lt_ev, gh_lt_th, gh_lt_vo, gh_lt_kd, gh_lt_pn, gh_lt_pi, gh_lt_va, gh_lt_dt, gh_lt_ti, gh_lt_pl, gh_lt_mn, gh_lt_ro, gh_lt_te, gh_lt_tt, gh_lt_tv, gh_lt_tf, gh_lt_tl, gh_lt_tn, gh_lt_tm, gh_lt_tu, gh_lt_le, gh_lt_lt, gh_lt_lk, gh_lt_lf, gh_lt_lo, gh_lt_wm, gh_lt_wr, gh_lt_fo, gh_lt_fi, gh_lt_hr, gh_lt_rk, gh_lt_rs, gh_lt_rr, gh_lt_hs, gh_lt_sk, gh_lt_ss, gh_lt_sr, gh_lt_fa, gh_lt_su, gh_lt_tr] | rfl)) ?_
          refine ZV_if_eqB (tgt := 163) (n := 131) dX12_check_128 (by decide) rfl (fun h128 => ?_) (fun h128 => ?_)
          · skip
            rw [← e9] at hR1
            refine ZV_iincN_3 (v := 1) (n := 166) dX12_check_163 rfl rfl (Nat.le_of_ble_eq_true rfl) rfl ?_
            refine ZV_goto (tgt := 84) dX12_check_166 (by decide) ?_
            exact ih (l + 1) _ _ (by omega) (by omega) rfl hR1
          · skip
            exact absurd (h98.symm.trans h128) (by decide)
        · skip
          refine ZV_aload_n (n := 102) dX12_check_101 rfl rfl rfl ?_
          refine ZV_getR (n := 105) dX12_check_102 fl_X12_78 rfl rfl rfl (rf_sh hR1 :).1 ?_
          refine ZV_iload_n (n := 106) dX12_check_105 rfl rfl rfl ?_
          refine ZV_ialdv (n := 107) dX12_check_106 rfl (ra_lineTo (rf_sh hR1 :) :) (rk_lineTo (rf_sh hR1 :) :) rfl (by omega) (Eq.trans ((rf_lineTo hR1 l (by omega)) :) (show _ = oI (g_lo T l) by first | simp only [gh_lo_ct, gh_lo_cu, gh_lo_cl, gh_lo_np, gh_lo_pk, gh_lo_nb, gh_lo_bt, gh_lo_ev, gh_lo_th, gh_lo_vo, gh_lo_kd, gh_lo_pn, gh_lo_pi, gh_lo_va, gh_lo_dt, gh_lo_ti, gh_lo_pl, gh_lo_mn, gh_lo_ro, gh_lo_te, gh_lo_tt, gh_lo_tv, gh_lo_tf, gh_lo_tl, gh_lo_tn, gh_lo_tm, gh_lo_tu, gh_lo_le, gh_lo_lt, gh_lo_lk, gh_lo_lf, gh_lo_lo, gh_lo_wm, gh_lo_wr, gh_lo_fo, gh_lo_fi, gh_lo_hr, gh_lo_rk, gh_lo_rs, gh_lo_rr, gh_lo_hs, gh_lo_sk, gh_lo_ss, gh_lo_sr, gh_lo_fa, gh_lo_su, gh_lo_tr] | rfl)) ?_
          refine ZV_iconst (v := -1) (n := 108) dX12_check_107 rfl rfl ?_
          refine ZV_icmp_ne (tgt := 122) (n := 111) dX12_check_108 (by decide) rfl (fun h108 => ?_) (fun h108 => ?_)
          · skip
            cases hlo : g_lo T l with
            | none => exact absurd (show oI (g_lo T l) = -1 by rw [hlo]; rfl) h108
            | some e =>
              have hl2 := ti_lo hI l e (by omega) h98 hlo
              have hl1 := ti_lf hI l (by omega) h98
              have hpe := (ti_pl hI _ hl2.1 hl2.2).1
              have hpf := (ti_pl hI _ hl1.1 hl1.2).1
              have hme := ti_mn hI (g_vo T e)
              have hmf := ti_mn hI (g_vo T (g_lf T l))
              have hb1 := bgF_le hI (g_vo T e) (g_pl T e)
              have hb2 := bgF_le hI (g_vo T (g_lf T l)) (g_pl T (g_lf T l))
              refine ZV_aload_n (n := 123) dX12_check_122 rfl rfl rfl ?_
              refine ZV_getR (n := 126) dX12_check_123 fl_X12_69 rfl rfl rfl (rf_sh hR1 :).1 ?_
              refine ZV_iload_n (n := 127) dX12_check_126 rfl rfl rfl ?_
              refine ZV_baldv (n := 128) dX12_check_127 rfl (ra_isLine (rf_sh hR1 :) :) (rk_isLine (rf_sh hR1 :) :) rfl (by omega) (Eq.trans ((rf_isLine hR1 l (by omega)) :) (show _ = bI (g_lt T l) by first | simp only [gh_lt_ct, gh_lt_cu, gh_lt_cl, gh_lt_np, gh_lt_pk, gh_lt_nb, gh_lt_bt, gh_lt_ev, gh_lt_th, gh_lt_vo, gh_lt_kd, gh_lt_pn, gh_lt_pi, gh_lt_va, gh_lt_dt, gh_lt_ti, gh_lt_pl, gh_lt_mn, gh_lt_ro, gh_lt_te, gh_lt_tt, gh_lt_tv, gh_lt_tf, gh_lt_tl, gh_lt_tn, gh_lt_tm, gh_lt_tu, gh_lt_le, gh_lt_lt, gh_lt_lk, gh_lt_lf, gh_lt_lo, gh_lt_wm, gh_lt_wr, gh_lt_fo, gh_lt_fi, gh_lt_hr, gh_lt_rk, gh_lt_rs, gh_lt_rr, gh_lt_hs, gh_lt_sk, gh_lt_ss, gh_lt_sr, gh_lt_fa, gh_lt_su, gh_lt_tr] | rfl)) ?_
              refine ZV_if_eqB (tgt := 163) (n := 131) dX12_check_128 (by decide) rfl (fun h128 => ?_) (fun h128 => ?_)
              · skip
                exact absurd (h98.symm.trans h128) (by decide)
              · skip
                refine ZV_aload_n (n := 132) dX12_check_131 rfl rfl rfl ?_
                refine ZV_aload_n (n := 133) dX12_check_132 rfl rfl rfl ?_
                refine ZV_getR (n := 136) dX12_check_133 fl_X12_78 rfl rfl rfl (rf_sh hR1 :).1 ?_
                refine ZV_iload_n (n := 137) dX12_check_136 rfl rfl rfl ?_
                refine ZV_ialdv (n := 138) dX12_check_137 rfl (ra_lineTo (rf_sh hR1 :) :) (rk_lineTo (rf_sh hR1 :) :) rfl (by omega) ((rf_lineTo hR1 l (by omega)).trans (show oI (g_lo T l) = nI e by rw [hlo]; rfl)) ?_
                refine call_X12_258 (c_beginOfC hR1 hI (by omega) _ hl2.1 hl2.2) rfl dX12_check_138 rfl (rf_sh hR1 :).1 (Nat.le_of_ble_eq_true rfl) (Nat.le_of_ble_eq_true rfl) rfl (fun r9 σ9 hp9 => ?_)
                obtain ⟨rfl, rfl⟩ := hp9
                refine ZV_aload_n (n := 142) dX12_check_141 rfl rfl rfl ?_
                refine ZV_aload_n (n := 143) dX12_check_142 rfl rfl rfl ?_
                refine ZV_getR (n := 146) dX12_check_143 fl_X12_75 rfl rfl rfl (rf_sh hR1 :).1 ?_
                refine ZV_iload_n (n := 147) dX12_check_146 rfl rfl rfl ?_
                refine ZV_ialdv (n := 148) dX12_check_147 rfl (ra_lineFrom (rf_sh hR1 :) :) (rk_lineFrom (rf_sh hR1 :) :) rfl (by omega) (Eq.trans ((rf_lineFrom hR1 l (by omega)) :) (show _ = nI (g_lf T l) by first | simp only [gh_lf_ct, gh_lf_cu, gh_lf_cl, gh_lf_np, gh_lf_pk, gh_lf_nb, gh_lf_bt, gh_lf_ev, gh_lf_th, gh_lf_vo, gh_lf_kd, gh_lf_pn, gh_lf_pi, gh_lf_va, gh_lf_dt, gh_lf_ti, gh_lf_pl, gh_lf_mn, gh_lf_ro, gh_lf_te, gh_lf_tt, gh_lf_tv, gh_lf_tf, gh_lf_tl, gh_lf_tn, gh_lf_tm, gh_lf_tu, gh_lf_le, gh_lf_lt, gh_lf_lk, gh_lf_lf, gh_lf_lo, gh_lf_wm, gh_lf_wr, gh_lf_fo, gh_lf_fi, gh_lf_hr, gh_lf_rk, gh_lf_rs, gh_lf_rr, gh_lf_hs, gh_lf_sk, gh_lf_ss, gh_lf_sr, gh_lf_fa, gh_lf_su, gh_lf_tr] | rfl)) ?_
                refine call_X12_258 (c_beginOfC hR1 hI (by omega) _ hl1.1 hl1.2) rfl dX12_check_148 rfl (rf_sh hR1 :).1 (Nat.le_of_ble_eq_true rfl) (Nat.le_of_ble_eq_true rfl) rfl (fun r9 σ9 hp9 => ?_)
                obtain ⟨rfl, rfl⟩ := hp9
                refine ZV_lcmp_geN (tgt := 163) (pc1 := 152) (n := 155) dX12_check_151 rfl dX12_check_152 (by decide) rfl (by omega) (by omega) (fun h151 => ?_) (fun h151 => ?_)
                · skip
                  have e9 : ckL T (ckT T (ckV T (3 * g_np T)) (g_te T)) (l + 1) = G := by
                    rw [ckL, if_pos h98, hlo]
                    show (if _ then _ else _) = _
                    rw [if_neg (by omega), ← hG]
                  rw [← e9] at hR1
                  refine ZV_iincN_3 (v := 1) (n := 166) dX12_check_163 rfl rfl (Nat.le_of_ble_eq_true rfl) rfl ?_
                  refine ZV_goto (tgt := 84) dX12_check_166 (by decide) ?_
                  exact ih (l + 1) _ _ (by omega) (by omega) rfl hR1
                · skip
                  have e9 : ckL T (ckT T (ckV T (3 * g_np T)) (g_te T)) (l + 1) = fdF G (nI 7) (nI l) (-1) := by
                    rw [ckL, if_pos h98, hlo]
                    show (if _ then _ else _) = _
                    rw [if_pos (by omega), ← hG]
                  refine ZV_aload_n (n := 156) dX12_check_155 rfl rfl rfl ?_
                  refine ZV_bipush (v := nI 7) (n := 158) dX12_check_156 rfl rfl ?_
                  refine ZV_iload_n (n := 159) dX12_check_158 rfl rfl rfl ?_
                  refine ZV_iconst (v := -1) (n := 160) dX12_check_159 rfl rfl ?_
                  refine call_X12_295 (c_findsC hR1 (by omega) _ _ _) rfl dX12_check_160 rfl (rf_sh hR1 :).1 (Nat.le_of_ble_eq_true rfl) (Nat.le_of_ble_eq_true rfl) rfl (fun r9 σ9 hp9 => ?_)
                  obtain ⟨rfl, hR1⟩ := hp9
                  rw [← e9] at hR1
                  refine ZV_iincN_3 (v := 1) (n := 166) dX12_check_163 rfl rfl (Nat.le_of_ble_eq_true rfl) rfl ?_
                  refine ZV_goto (tgt := 84) dX12_check_166 (by decide) ?_
                  exact ih (l + 1) _ _ (by omega) (by omega) rfl hR1
          · skip
            have hlo : g_lo T l = none := (oI_m1 (fun f q => by have := ti_lo hI l f (by omega) h98 q; omega)).mp h108
            have e9 : ckL T (ckT T (ckV T (3 * g_np T)) (g_te T)) (l + 1) = fdF G (nI 6) (nI l) (-1) := by rw [ckL, if_pos h98, hlo, hG]
            refine ZV_aload_n (n := 112) dX12_check_111 rfl rfl rfl ?_
            refine ZV_bipush (v := nI 6) (n := 114) dX12_check_112 rfl rfl ?_
            refine ZV_iload_n (n := 115) dX12_check_114 rfl rfl rfl ?_
            refine ZV_iconst (v := -1) (n := 116) dX12_check_115 rfl rfl ?_
            refine call_X12_295 (c_findsC hR1 (by omega) _ _ _) rfl dX12_check_116 rfl (rf_sh hR1 :).1 (Nat.le_of_ble_eq_true rfl) (Nat.le_of_ble_eq_true rfl) rfl (fun r9 σ9 hp9 => ?_)
            obtain ⟨rfl, hR1⟩ := hp9
            refine ZV_goto (tgt := 163) dX12_check_119 (by decide) ?_
            rw [← e9] at hR1
            refine ZV_iincN_3 (v := 1) (n := 166) dX12_check_163 rfl rfl (Nat.le_of_ble_eq_true rfl) rfl ?_
            refine ZV_goto (tgt := 84) dX12_check_166 (by decide) ?_
            exact ih (l + 1) _ _ (by omega) (by omega) rfl hR1
  have loopT : ∀ (n9 : Nat) (t : Nat) (G : FS) (τ : ZS), g_te T - t < n9 → t ≤ g_te T → G = ckT T (ckV T (3 * g_np T)) t → rR x τ (cT T G) → ZV M_X12_check (fun y0 τ0 => y0 = some (Ai (sp_check T).1) ∧ rR x τ0 (sp_check T).2) 44 [some (Ar (some x)), some (Al (lN (baF T (g_nb T)))), none, some (Ai (nI t))] [] τ (zmC M_X12_check) (zmS M_X12_check) := by
    intro n9
    induction n9 with
    | zero => intro t G τ hm; exact absurd hm (Nat.not_lt_zero _)
    | succ n9 ih =>
      intro t G τ hm htl hG hR1
      have hF1 : G.1 ≤ 4800 := by
        have h1 := ckV_le hI (3 * g_np T)
        have h2 := ckT_le T (ckV T (3 * g_np T)) t
        rw [← hG] at h2
        omega
      refine ZV_iload_n (n := 45) dX12_check_44 rfl rfl rfl ?_
      refine ZV_aload_n (n := 46) dX12_check_45 rfl rfl rfl ?_
      refine ZV_getIv (n := 49) dX12_check_46 fl_X12_199 rfl rfl rfl (rf_sh hR1 :).1 (Eq.trans ((rf_tupletsEver hR1 :) :) (show _ = nI (g_te T) by first | simp only [gh_te_ct, gh_te_cu, gh_te_cl, gh_te_np, gh_te_pk, gh_te_nb, gh_te_bt, gh_te_ev, gh_te_th, gh_te_vo, gh_te_kd, gh_te_pn, gh_te_pi, gh_te_va, gh_te_dt, gh_te_ti, gh_te_pl, gh_te_mn, gh_te_ro, gh_te_te, gh_te_tt, gh_te_tv, gh_te_tf, gh_te_tl, gh_te_tn, gh_te_tm, gh_te_tu, gh_te_le, gh_te_lt, gh_te_lk, gh_te_lf, gh_te_lo, gh_te_wm, gh_te_wr, gh_te_fo, gh_te_fi, gh_te_hr, gh_te_rk, gh_te_rs, gh_te_rr, gh_te_hs, gh_te_sk, gh_te_ss, gh_te_sr, gh_te_fa, gh_te_su, gh_te_tr] | rfl)) ?_
      refine ZV_icmp_geN (tgt := 82) (n := 52) dX12_check_49 (by decide) rfl (by omega) (by omega) (fun h49 => ?_) (fun h49 => ?_)
      · skip
        refine ZV_iconst (v := nI 0) (n := 83) dX12_check_82 rfl rfl ?_
        refine ZV_istore_3 (n := 84) dX12_check_83 rfl (Nat.le_of_ble_eq_true rfl) rfl ?_
        obtain rfl : t = g_te T := by omega
        exact loopL _ 0 G _ (Nat.lt_succ_self _) (Nat.zero_le _) hG hR1
      · skip
        refine ZV_aload_n (n := 53) dX12_check_52 rfl rfl rfl ?_
        refine ZV_getR (n := 56) dX12_check_53 fl_X12_48 rfl rfl rfl (rf_sh hR1 :).1 ?_
        refine ZV_iload_n (n := 57) dX12_check_56 rfl rfl rfl ?_
        refine ZV_baldv (n := 58) dX12_check_57 rfl (ra_isTuplet (rf_sh hR1 :) :) (rk_isTuplet (rf_sh hR1 :) :) rfl (by omega) (Eq.trans ((rf_isTuplet hR1 t (by omega)) :) (show _ = bI (g_tt T t) by first | simp only [gh_tt_ct, gh_tt_cu, gh_tt_cl, gh_tt_np, gh_tt_pk, gh_tt_nb, gh_tt_bt, gh_tt_ev, gh_tt_th, gh_tt_vo, gh_tt_kd, gh_tt_pn, gh_tt_pi, gh_tt_va, gh_tt_dt, gh_tt_ti, gh_tt_pl, gh_tt_mn, gh_tt_ro, gh_tt_te, gh_tt_tt, gh_tt_tv, gh_tt_tf, gh_tt_tl, gh_tt_tn, gh_tt_tm, gh_tt_tu, gh_tt_le, gh_tt_lt, gh_tt_lk, gh_tt_lf, gh_tt_lo, gh_tt_wm, gh_tt_wr, gh_tt_fo, gh_tt_fi, gh_tt_hr, gh_tt_rk, gh_tt_rs, gh_tt_rr, gh_tt_hs, gh_tt_sk, gh_tt_ss, gh_tt_sr, gh_tt_fa, gh_tt_su, gh_tt_tr] | rfl)) ?_
        refine ZV_if_eqB (tgt := 76) (n := 61) dX12_check_58 (by decide) rfl (fun h58 => ?_) (fun h58 => ?_)
        · skip
          have e9 : ckT T (ckV T (3 * g_np T)) (t + 1) = G := by rw [ckT, if_neg (fun z => by rw [h58] at z; exact absurd z.1 (by decide)), ← hG]
          rw [← e9] at hR1
          refine ZV_iincN_3 (v := 1) (n := 79) dX12_check_76 rfl rfl (Nat.le_of_ble_eq_true rfl) rfl ?_
          refine ZV_goto (tgt := 44) dX12_check_79 (by decide) ?_
          exact ih (t + 1) _ _ (by omega) (by omega) rfl hR1
        · skip
          refine ZV_aload_n (n := 62) dX12_check_61 rfl rfl rfl ?_
          refine ZV_iload_n (n := 63) dX12_check_62 rfl rfl rfl ?_
          refine call_X12_309 (c_isSumWrongC hR1 hI (by omega) _ (by omega) h58) rfl dX12_check_63 rfl (rf_sh hR1 :).1 (Nat.le_of_ble_eq_true rfl) (Nat.le_of_ble_eq_true rfl) rfl (fun r9 σ9 hp9 => ?_)
          obtain ⟨rfl, rfl⟩ := hp9
          refine ZV_if_eqB (tgt := 76) (n := 69) dX12_check_66 (by decide) rfl (fun h66 => ?_) (fun h66 => ?_)
          · skip
            have e9 : ckT T (ckV T (3 * g_np T)) (t + 1) = G := by rw [ckT, if_neg (fun z => by rw [h66] at z; exact absurd z.2 (by decide)), ← hG]
            rw [← e9] at hR1
            refine ZV_iincN_3 (v := 1) (n := 79) dX12_check_76 rfl rfl (Nat.le_of_ble_eq_true rfl) rfl ?_
            refine ZV_goto (tgt := 44) dX12_check_79 (by decide) ?_
            exact ih (t + 1) _ _ (by omega) (by omega) rfl hR1
          · skip
            have e9 : ckT T (ckV T (3 * g_np T)) (t + 1) = fdF G (nI 5) (nI t) (-1) := by rw [ckT, if_pos ⟨h58, h66⟩, ← hG]
            refine ZV_aload_n (n := 70) dX12_check_69 rfl rfl rfl ?_
            refine ZV_iconst (v := nI 5) (n := 71) dX12_check_70 rfl rfl ?_
            refine ZV_iload_n (n := 72) dX12_check_71 rfl rfl rfl ?_
            refine ZV_iconst (v := -1) (n := 73) dX12_check_72 rfl rfl ?_
            refine call_X12_295 (c_findsC hR1 (by omega) _ _ _) rfl dX12_check_73 rfl (rf_sh hR1 :).1 (Nat.le_of_ble_eq_true rfl) (Nat.le_of_ble_eq_true rfl) rfl (fun r9 σ9 hp9 => ?_)
            obtain ⟨rfl, hR1⟩ := hp9
            rw [← e9] at hR1
            refine ZV_iincN_3 (v := 1) (n := 79) dX12_check_76 rfl rfl (Nat.le_of_ble_eq_true rfl) rfl ?_
            refine ZV_goto (tgt := 44) dX12_check_79 (by decide) ?_
            exact ih (t + 1) _ _ (by omega) (by omega) rfl hR1
  have loopV : ∀ (n9 : Nat) (v : Nat) (G : FS) (τ : ZS), 3 * g_np T - v < n9 → v ≤ 3 * g_np T → G = ckV T v → rR x τ (cT T G) → ZV M_X12_check (fun y0 τ0 => y0 = some (Ai (sp_check T).1) ∧ rR x τ0 (sp_check T).2) 20 [some (Ar (some x)), some (Al (lN (baF T (g_nb T)))), none, some (Ai (nI v))] [] τ (zmC M_X12_check) (zmS M_X12_check) := by
    intro n9
    induction n9 with
    | zero => intro v G τ hm; exact absurd hm (Nat.not_lt_zero _)
    | succ n9 ih =>
      intro v G τ hm hvl hG hR1
      have hF1 : G.1 ≤ 3000 := by
        have h1 := ckV_le hI v
        rw [← hG] at h1
        omega
      refine ZV_iload_n (n := 21) dX12_check_20 rfl rfl rfl ?_
      refine ZV_iconst (v := nI 3) (n := 22) dX12_check_21 rfl rfl ?_
      refine ZV_aload_n (n := 23) dX12_check_22 rfl rfl rfl ?_
      refine ZV_getIv (n := 26) dX12_check_23 fl_X12_134 rfl rfl rfl (rf_sh hR1 :).1 (Eq.trans ((rf_parts hR1 :) :) (show _ = nI (g_np T) by first | simp only [gh_np_ct, gh_np_cu, gh_np_cl, gh_np_np, gh_np_pk, gh_np_nb, gh_np_bt, gh_np_ev, gh_np_th, gh_np_vo, gh_np_kd, gh_np_pn, gh_np_pi, gh_np_va, gh_np_dt, gh_np_ti, gh_np_pl, gh_np_mn, gh_np_ro, gh_np_te, gh_np_tt, gh_np_tv, gh_np_tf, gh_np_tl, gh_np_tn, gh_np_tm, gh_np_tu, gh_np_le, gh_np_lt, gh_np_lk, gh_np_lf, gh_np_lo, gh_np_wm, gh_np_wr, gh_np_fo, gh_np_fi, gh_np_hr, gh_np_rk, gh_np_rs, gh_np_rr, gh_np_hs, gh_np_sk, gh_np_ss, gh_np_sr, gh_np_fa, gh_np_su, gh_np_tr] | rfl)) ?_
      refine ZV_imulN (n := 27) dX12_check_26 rfl ?_
      refine ZV_icmp_geN (tgt := 42) (n := 30) dX12_check_27 (by decide) rfl (by omega) (by omega) (fun h27 => ?_) (fun h27 => ?_)
      · skip
        refine ZV_iconst (v := nI 0) (n := 43) dX12_check_42 rfl rfl ?_
        refine ZV_istore_3 (n := 44) dX12_check_43 rfl (Nat.le_of_ble_eq_true rfl) rfl ?_
        obtain rfl : v = 3 * g_np T := by omega
        exact loopT _ 0 G _ (Nat.lt_succ_self _) (Nat.zero_le _) hG hR1
      · skip
        refine ZV_aload_n (n := 31) dX12_check_30 rfl rfl rfl ?_
        refine ZV_iload_n (n := 32) dX12_check_31 rfl rfl rfl ?_
        refine ZV_lload_n (n := 33) dX12_check_32 rfl rfl rfl ?_
        refine call_X12_305 (c_checkVoice hR1 hI (by omega) v (by omega)) rfl dX12_check_33 rfl (rf_sh hR1 :).1 (Nat.le_of_ble_eq_true rfl) (Nat.le_of_ble_eq_true rfl) rfl (fun r9 σ9 hp9 => ?_)
        obtain ⟨rfl, hR1⟩ := hp9
        refine ZV_iincN_3 (v := 1) (n := 39) dX12_check_36 rfl rfl (Nat.le_of_ble_eq_true rfl) rfl ?_
        refine ZV_goto (tgt := 20) dX12_check_39 (by decide) ?_
        exact ih (v + 1) _ _ (by omega) (by omega) (by rw [ckV, ← hG]) hR1
  exact loopV _ 0 _ _ (Nat.lt_succ_self _) (Nat.zero_le _) rfl hR
