/-- the row of a voice when q places at its end have been moved: those above q up to m -/
def dnF {α : Type} (f : Nat → α) (q m : Nat) : Nat → α := fun i => if q < i ∧ i ≤ m then f (i - 1) else f i
theorem dnF_0 {α : Type} (f : Nat → α) (m : Nat) : dnF f m m = f := by
  funext i
  unfold dnF
  rw [if_neg (by omega)]
theorem dnF_up {α : Type} (f : Nat → α) (q m : Nat) (hq : 0 < q) (hm : q ≤ m) : va_up (dnF f q m) q (f (q - 1)) = dnF f (q - 1) m := by
  funext i
  unfold va_up dnF
  by_cases h : i = q
  · subst h
    rw [if_pos rfl, if_pos (by omega)]
  · rw [if_neg h]
    by_cases h2 : q < i ∧ i ≤ m
    · rw [if_pos h2, if_pos (by omega)]
    · rw [if_neg h2, if_neg (by omega)]
def inF {α : Type} (f : Nat → α) (p m : Nat) (e : α) : Nat → α := va_up (dnF f p m) p e
def putT (T : TS) (v p k : Nat) (q : Int32) (a d : Nat) : TS :=
  h_pl (h_mn (h_ro (h_ti (h_dt (h_va (h_pi (h_pn (h_kd (h_vo (h_th (h_ct (h_ev T (g_ev T + 1)) (g_ct T + 1)) (va_up (g_th T) (g_ev T) true)) (va_up (g_vo T) (g_ev T) v)) (va_up (g_kd T) (g_ev T) k)) (va_up (g_pn T) (g_ev T) (if k < 3 then 1 else 0))) (va_u2 (g_pi T) (g_ev T) (va_up (g_pi T (g_ev T)) 0 q))) (va_up (g_va T) (g_ev T) a)) (va_up (g_dt T) (g_ev T) d)) (va_up (g_ti T) (g_ev T) false)) (va_u2 (g_ro T) v (inF (g_ro T v) p (g_mn T v) (g_ev T)))) (va_up (g_mn T) v (g_mn T v + 1))) (fun f => if f = g_ev T then p else if g_th T f = true ∧ g_vo T f = v ∧ p ≤ g_pl T f then g_pl T f + 1 else g_pl T f)
def sp_put (T : TS) (v p k q a d : Int32) : Int32 × TS := if inB v (3 * g_np T) = true ∧ inB p (g_mn T v.toNatClampNeg + 1) = true ∧ inB k 5 = true ∧ (k.toNatClampNeg < 3 → inB q 128 = true) ∧ inB a 6 = true ∧ inB d 3 = true then (if g_ev T = 150 ∨ g_mn T v.toNatClampNeg = 40 then sNo T (-4) else sOk (putT T v.toNatClampNeg p.toNatClampNeg k.toNatClampNeg q a.toNatClampNeg d.toNatClampNeg) (nI (g_ev T))) else sNo T (-2)
theorem rR_pl {x : Nat} {σ : ZS} {T : TS} (h : rR x σ T) (f : Nat → Nat) : rR x σ (h_pl T f) := ⟨(rf_sh h :), (rf_parts h :), (rf_partKind h :), (rf_bars h :), (rf_barTime h :), (rf_ever h :), (rf_there h :), (rf_isThere h :), (rf_voiceOf h :), (rf_kindOf h :), (rf_pitches h :), (rf_pitchOf h :), (rf_valueOf h :), (rf_dotsOf h :), (rf_isTied h :), (rf_many h :), (rf_row h :), (rf_tupletsEver h :), (rf_tupletsThere h :), (rf_isTuplet h :), (rf_tupletVoice h :), (rf_tupletFirst h :), (rf_tupletLast h :), (rf_tupletN h :), (rf_tupletM h :), (rf_tupletUnit h :), (rf_linesEver h :), (rf_linesThere h :), (rf_isLine h :), (rf_lineKind h :), (rf_lineFrom h :), (rf_lineTo h :), (rf_walkMany h :), (rf_walkRow h :), (rf_found h :), (rf_findings h :), (rf_hasRack h :), (rf_rackKind h :), (rf_rackSize h :), (rf_rackRow h :), (rf_hasShelf h :), (rf_shelfKind h :), (rf_shelfSize h :), (rf_shelfRow h :), (rf_failed h :), (rf_status h :), (rf_trace h :)⟩
set_option maxHeartbeats 4000000 in
set_option maxRecDepth 100000 in
theorem c_put {x : Nat} {σ : ZS} {T : TS} (hR : rR x σ T) (hI : tI T) (v p k q a d : Int32) : ZC M_X12_put [Ar (some x), Ai v, Ai p, Ai k, Ai q, Ai a, Ai d] σ (fun y0 τ0 => y0 = some (Ai (sp_put T v p k q a d).1) ∧ rR x τ0 (sp_put T v p k q a d).2) := by
  have hsp : sp_put T v p k q a d = sp_put (h_su T 0) v p k q a d := rfl
  rw [hsp]
  clear hsp
  refine ZC_of (ls := [some (Ar (some x)), some (Ai v), some (Ai p), some (Ai k), some (Ai q), some (Ai a), some (Ai d), none, none]) (by decide) (Nat.le_of_ble_eq_true rfl) rfl ?_
  refine ZV_aload_n (n := 1) dX12_put_0 rfl rfl rfl ?_
  refine call_X12_144 (c_begin hR) rfl dX12_put_1 rfl (rf_sh hR :).1 (Nat.le_of_ble_eq_true rfl) (Nat.le_of_ble_eq_true rfl) rfl (fun r9 σ9 hp9 => ?_)
  obtain ⟨rfl, hR⟩ := hp9
  have hI := tI_su hI 0
  have hsu : g_su (h_su T 0) = 0 := rfl
  generalize h_su T 0 = T at hR hI hsu ⊢
  have hnp := ti_np hI
  have hev := ti_ev hI
  have hct := ti_ct hI
  have hcn := zcnt_le (g_th T) (g_ev T)
  refine ZV_aload_n (n := 5) dX12_put_4 rfl rfl rfl ?_
  refine ZV_iload_n (n := 6) dX12_put_5 rfl rfl rfl ?_
  refine call_X12_184 (c_isVoice hR hI _) rfl dX12_put_6 rfl (rf_sh hR :).1 (Nat.le_of_ble_eq_true rfl) (Nat.le_of_ble_eq_true rfl) rfl (fun r9 σ9 hp9 => ?_)
  obtain ⟨rfl, rfl⟩ := hp9
  refine ZV_if_eqB (tgt := 84) (n := 12) dX12_put_9 (by decide) rfl (fun h9x => ?_) (fun h9x => ?_)
  · skip
    refine ZV_aload_n (n := 85) dX12_put_84 rfl rfl rfl ?_
    refine ZV_bipush (v := -2) (n := 87) dX12_put_85 rfl rfl ?_
    refine call_X12_130 (c_no hR _) rfl dX12_put_87 rfl (rf_sh hR :).1 (Nat.le_of_ble_eq_true rfl) (Nat.le_of_ble_eq_true rfl) rfl (fun r9 σ9 hp9 => ?_)
    obtain ⟨rfl, hR⟩ := hp9
    refine ZV_iret dX12_put_90 rfl ?_
    exact zleaf (v := sNo T (-2)) (by simp [sp_put, h9x]) rfl hR
  · skip
    obtain ⟨v, hv, hvx, rfl⟩ := inB_t h9x
    have hmn := ti_mn hI v
    refine ZV_iload_n (n := 13) dX12_put_12 rfl rfl rfl ?_
    refine ZV_i2l (n := 14) dX12_put_13 rfl ?_
    refine ZV_lconst (v := lN 0) (n := 15) dX12_put_14 rfl rfl ?_
    refine ZV_aload_n (n := 16) dX12_put_15 rfl rfl rfl ?_
    refine ZV_getR (n := 19) dX12_put_16 fl_X12_45 rfl rfl rfl (rf_sh hR :).1 ?_
    refine ZV_iload_n (n := 20) dX12_put_19 rfl rfl rfl ?_
    refine ZV_ialdv (n := 21) dX12_put_20 rfl (ra_many (rf_sh hR :) :) (rk_many (rf_sh hR :) :) rfl (by omega) (rf_many hR _ (by omega)) ?_
    refine ZV_i2lN (n := 22) dX12_put_21 rfl (by omega) ?_
    refine call_X12_137 (c_inC _ p (by omega)) rfl dX12_put_22 (Nat.le_of_ble_eq_true rfl) (Nat.le_of_ble_eq_true rfl) rfl (fun r9 σ9 hp9 => ?_)
    obtain ⟨rfl, rfl⟩ := hp9
    refine ZV_if_eqB (tgt := 84) (n := 28) dX12_put_25 (by decide) rfl (fun h25 => ?_) (fun h25 => ?_)
    · skip
      refine ZV_aload_n (n := 85) dX12_put_84 rfl rfl rfl ?_
      refine ZV_bipush (v := -2) (n := 87) dX12_put_85 rfl rfl ?_
      refine call_X12_130 (c_no hR _) rfl dX12_put_87 rfl (rf_sh hR :).1 (Nat.le_of_ble_eq_true rfl) (Nat.le_of_ble_eq_true rfl) rfl (fun r9 σ9 hp9 => ?_)
      obtain ⟨rfl, hR⟩ := hp9
      refine ZV_iret dX12_put_90 rfl ?_
      exact zleaf (v := sNo T (-2)) (by simp [sp_put, h9x, h25, nI_clamp hvx]) rfl hR
    · skip
      obtain ⟨p, hp, hpx, rfl⟩ := inB_t h25
      refine ZV_iload_n (n := 29) dX12_put_28 rfl rfl rfl ?_
      refine ZV_i2l (n := 30) dX12_put_29 rfl ?_
      refine ZV_lconst (v := lN 0) (n := 31) dX12_put_30 rfl rfl ?_
      refine ZV_ldc2 (v := lN 4) (n := 34) dX12_put_31 wd_5_119 rfl ?_
      refine call_X12_137 (c_inC _ k (by decide)) rfl dX12_put_34 (Nat.le_of_ble_eq_true rfl) (Nat.le_of_ble_eq_true rfl) rfl (fun r9 σ9 hp9 => ?_)
      obtain ⟨rfl, rfl⟩ := hp9
      refine ZV_if_eqB (tgt := 84) (n := 40) dX12_put_37 (by decide) rfl (fun h37 => ?_) (fun h37 => ?_)
      · skip
        refine ZV_aload_n (n := 85) dX12_put_84 rfl rfl rfl ?_
        refine ZV_bipush (v := -2) (n := 87) dX12_put_85 rfl rfl ?_
        refine call_X12_130 (c_no hR _) rfl dX12_put_87 rfl (rf_sh hR :).1 (Nat.le_of_ble_eq_true rfl) (Nat.le_of_ble_eq_true rfl) rfl (fun r9 σ9 hp9 => ?_)
        obtain ⟨rfl, hR⟩ := hp9
        refine ZV_iret dX12_put_90 rfl ?_
        exact zleaf (v := sNo T (-2)) (by simp [sp_put, h9x, h25, h37, nI_clamp hvx, nI_clamp hpx]) rfl hR
      · skip
        obtain ⟨k, hk, hkx, rfl⟩ := inB_t h37
        refine ZV_iload_n (n := 41) dX12_put_40 rfl rfl rfl ?_
        refine ZV_iconst (v := nI 3) (n := 42) dX12_put_41 rfl rfl ?_
        refine ZV_icmp_geN (tgt := 58) (n := 45) dX12_put_42 (by decide) rfl (by omega) (by omega) (fun h42 => ?_) (fun h42 => ?_)
        · skip
          refine ZV_iload (n := 60) dX12_put_58 rfl rfl ?_
          refine ZV_i2l (n := 61) dX12_put_60 rfl ?_
          refine ZV_lconst (v := lN 0) (n := 62) dX12_put_61 rfl rfl ?_
          refine ZV_ldc2 (v := lN 5) (n := 65) dX12_put_62 wd_5_84 rfl ?_
          refine call_X12_137 (c_inC _ a (by decide)) rfl dX12_put_65 (Nat.le_of_ble_eq_true rfl) (Nat.le_of_ble_eq_true rfl) rfl (fun r9 σ9 hp9 => ?_)
          obtain ⟨rfl, rfl⟩ := hp9
          refine ZV_if_eqB (tgt := 84) (n := 71) dX12_put_68 (by decide) rfl (fun h68 => ?_) (fun h68 => ?_)
          · skip
            refine ZV_aload_n (n := 85) dX12_put_84 rfl rfl rfl ?_
            refine ZV_bipush (v := -2) (n := 87) dX12_put_85 rfl rfl ?_
            refine call_X12_130 (c_no hR _) rfl dX12_put_87 rfl (rf_sh hR :).1 (Nat.le_of_ble_eq_true rfl) (Nat.le_of_ble_eq_true rfl) rfl (fun r9 σ9 hp9 => ?_)
            obtain ⟨rfl, hR⟩ := hp9
            refine ZV_iret dX12_put_90 rfl ?_
            exact zleaf (v := sNo T (-2)) (by simp [sp_put, h9x, h25, h37, h42, h68, nI_clamp hvx, nI_clamp hpx, nI_clamp hkx, show ¬ k < 3 from by omega]) rfl hR
          · skip
            refine ZV_iload (n := 73) dX12_put_71 rfl rfl ?_
            refine ZV_i2l (n := 74) dX12_put_73 rfl ?_
            refine ZV_lconst (v := lN 0) (n := 75) dX12_put_74 rfl rfl ?_
            refine ZV_ldc2 (v := lN 2) (n := 78) dX12_put_75 wd_5_102 rfl ?_
            refine call_X12_137 (c_inC _ d (by decide)) rfl dX12_put_78 (Nat.le_of_ble_eq_true rfl) (Nat.le_of_ble_eq_true rfl) rfl (fun r9 σ9 hp9 => ?_)
            obtain ⟨rfl, rfl⟩ := hp9
            refine ZV_if_neB (tgt := 91) (n := 84) dX12_put_81 (by decide) rfl (fun h81 => ?_) (fun h81 => ?_)
            · skip
              obtain ⟨a, ha, hax, rfl⟩ := inB_t h68
              obtain ⟨d, hd, hdx, rfl⟩ := inB_t h81
              refine ZV_aload_n (n := 92) dX12_put_91 rfl rfl rfl ?_
              refine ZV_getIv (n := 95) dX12_put_92 fl_X12_141 rfl rfl rfl (rf_sh hR :).1 (rf_ever hR :) ?_
              refine ZV_sipush (v := nI 150) (n := 98) dX12_put_95 rfl rfl ?_
              refine ZV_icmp_eqN (tgt := 112) (n := 101) dX12_put_98 (by decide) rfl (by omega) (by omega) (fun h98 => ?_) (fun h98 => ?_)
              · skip
                refine ZV_aload_n (n := 113) dX12_put_112 rfl rfl rfl ?_
                refine ZV_bipush (v := -4) (n := 115) dX12_put_113 rfl rfl ?_
                refine call_X12_130 (c_no hR _) rfl dX12_put_115 rfl (rf_sh hR :).1 (Nat.le_of_ble_eq_true rfl) (Nat.le_of_ble_eq_true rfl) rfl (fun r9 σ9 hp9 => ?_)
                obtain ⟨rfl, hR⟩ := hp9
                refine ZV_iret dX12_put_118 rfl ?_
                exact zleaf (v := sNo T (-4)) (by rw [sp_put, nI_clamp hvx, nI_clamp hpx, nI_clamp hkx, nI_clamp hax, nI_clamp hdx, if_pos ⟨h9x, h25, h37, fun q9 => absurd q9 (by omega), h68, h81⟩, if_pos (Or.inl h98)]) rfl hR
              · skip
                refine ZV_aload_n (n := 102) dX12_put_101 rfl rfl rfl ?_
                refine ZV_getR (n := 105) dX12_put_102 fl_X12_45 rfl rfl rfl (rf_sh hR :).1 ?_
                refine ZV_iload_n (n := 106) dX12_put_105 rfl rfl rfl ?_
                refine ZV_ialdv (n := 107) dX12_put_106 rfl (ra_many (rf_sh hR :) :) (rk_many (rf_sh hR :) :) rfl (by omega) (rf_many hR _ (by omega)) ?_
                refine ZV_bipush (v := nI 40) (n := 109) dX12_put_107 rfl rfl ?_
                refine ZV_icmp_neN (tgt := 119) (n := 112) dX12_put_109 (by decide) rfl (by omega) (by omega) (fun h109 => ?_) (fun h109 => ?_)
                · skip
                  refine ZV_aload_n (n := 120) dX12_put_119 rfl rfl rfl ?_
                  refine ZV_getIv (n := 123) dX12_put_120 fl_X12_141 rfl rfl rfl (rf_sh hR :).1 (rf_ever hR :) ?_
                  refine ZV_istore_7 (n := 125) dX12_put_123 rfl (Nat.le_of_ble_eq_true rfl) rfl ?_
                  refine ZV_aload_n (n := 126) dX12_put_125 rfl rfl rfl ?_
                  refine ZV_dup (n := 127) dX12_put_126 rfl rfl ?_
                  refine ZV_getIv (n := 130) dX12_put_127 fl_X12_141 rfl rfl rfl (rf_sh hR :).1 (Eq.trans ((rf_ever hR :) :) (show _ = nI (g_ev T) by first | simp only [gh_ev_ct, gh_ev_cu, gh_ev_cl, gh_ev_np, gh_ev_pk, gh_ev_nb, gh_ev_bt, gh_ev_ev, gh_ev_th, gh_ev_vo, gh_ev_kd, gh_ev_pn, gh_ev_pi, gh_ev_va, gh_ev_dt, gh_ev_ti, gh_ev_pl, gh_ev_mn, gh_ev_ro, gh_ev_te, gh_ev_tt, gh_ev_tv, gh_ev_tf, gh_ev_tl, gh_ev_tn, gh_ev_tm, gh_ev_tu, gh_ev_le, gh_ev_lt, gh_ev_lk, gh_ev_lf, gh_ev_lo, gh_ev_wm, gh_ev_wr, gh_ev_fo, gh_ev_fi, gh_ev_hr, gh_ev_rk, gh_ev_rs, gh_ev_rr, gh_ev_hs, gh_ev_sk, gh_ev_ss, gh_ev_sr, gh_ev_fa, gh_ev_su, gh_ev_tr] | rfl)) ?_
                  refine ZV_iconst (v := nI 1) (n := 131) dX12_put_130 rfl rfl ?_
                  refine ZV_iaddN (n := 132) dX12_put_131 rfl ?_
                  refine ZV_putI (n := 135) dX12_put_132 fl_X12_141 rfl (Or.inl rfl) rfl (fun h => absurd h (by decide)) rfl (rf_sh hR :).1 ?_
                  refine ZV_gen (P := fun τ => rR x τ _) (rR_ever hR _) (fun σ hR => ?_)
                  refine ZV_aload_n (n := 136) dX12_put_135 rfl rfl rfl ?_
                  refine ZV_dup (n := 137) dX12_put_136 rfl rfl ?_
                  refine ZV_getIv (n := 140) dX12_put_137 fl_X12_190 rfl rfl rfl (rf_sh hR :).1 (Eq.trans ((rf_there hR :) :) (show _ = nI (g_ct T) by first | simp only [gh_ct_ct, gh_ct_cu, gh_ct_cl, gh_ct_np, gh_ct_pk, gh_ct_nb, gh_ct_bt, gh_ct_ev, gh_ct_th, gh_ct_vo, gh_ct_kd, gh_ct_pn, gh_ct_pi, gh_ct_va, gh_ct_dt, gh_ct_ti, gh_ct_pl, gh_ct_mn, gh_ct_ro, gh_ct_te, gh_ct_tt, gh_ct_tv, gh_ct_tf, gh_ct_tl, gh_ct_tn, gh_ct_tm, gh_ct_tu, gh_ct_le, gh_ct_lt, gh_ct_lk, gh_ct_lf, gh_ct_lo, gh_ct_wm, gh_ct_wr, gh_ct_fo, gh_ct_fi, gh_ct_hr, gh_ct_rk, gh_ct_rs, gh_ct_rr, gh_ct_hs, gh_ct_sk, gh_ct_ss, gh_ct_sr, gh_ct_fa, gh_ct_su, gh_ct_tr] | rfl)) ?_
                  refine ZV_iconst (v := nI 1) (n := 141) dX12_put_140 rfl rfl ?_
                  refine ZV_iaddN (n := 142) dX12_put_141 rfl ?_
                  refine ZV_putI (n := 145) dX12_put_142 fl_X12_190 rfl (Or.inl rfl) rfl (fun h => absurd h (by decide)) rfl (rf_sh hR :).1 ?_
                  refine ZV_gen (P := fun τ => rR x τ _) (rR_there hR _) (fun σ hR => ?_)
                  refine ZV_aload_n (n := 146) dX12_put_145 rfl rfl rfl ?_
                  refine ZV_getR (n := 149) dX12_put_146 fl_X12_17 rfl rfl rfl (rf_sh hR :).1 ?_
                  refine ZV_iload (n := 151) dX12_put_149 rfl rfl ?_
                  refine ZV_iconst (v := nI 1) (n := 152) dX12_put_151 rfl rfl ?_
                  refine ZV_bast (n := 153) dX12_put_152 rfl (Or.inr rfl) (ra_isThere (rf_sh hR :) :) (rk_isThere (rf_sh hR :) :) rfl (by omega) ?_
                  refine ZV_gen (P := fun τ => rR x τ _) (rR_isThere hR true) (fun σ hR => ?_)
                  try simp only [gh_th_ct, gh_th_cu, gh_th_cl, gh_th_np, gh_th_pk, gh_th_nb, gh_th_bt, gh_th_ev, gh_th_th, gh_th_vo, gh_th_kd, gh_th_pn, gh_th_pi, gh_th_va, gh_th_dt, gh_th_ti, gh_th_pl, gh_th_mn, gh_th_ro, gh_th_te, gh_th_tt, gh_th_tv, gh_th_tf, gh_th_tl, gh_th_tn, gh_th_tm, gh_th_tu, gh_th_le, gh_th_lt, gh_th_lk, gh_th_lf, gh_th_lo, gh_th_wm, gh_th_wr, gh_th_fo, gh_th_fi, gh_th_hr, gh_th_rk, gh_th_rs, gh_th_rr, gh_th_hs, gh_th_sk, gh_th_ss, gh_th_sr, gh_th_fa, gh_th_su, gh_th_tr] at hR
                  refine ZV_aload_n (n := 154) dX12_put_153 rfl rfl rfl ?_
                  refine ZV_getR (n := 157) dX12_put_154 fl_X12_21 rfl rfl rfl (rf_sh hR :).1 ?_
                  refine ZV_iload (n := 159) dX12_put_157 rfl rfl ?_
                  refine ZV_iload_n (n := 160) dX12_put_159 rfl rfl rfl ?_
                  refine ZV_iast (n := 161) dX12_put_160 rfl (ra_voiceOf (rf_sh hR :) :) (rk_voiceOf (rf_sh hR :) :) rfl (by omega) ?_
                  refine ZV_gen (P := fun τ => rR x τ _) (rR_voiceOf hR _) (fun σ hR => ?_)
                  try simp only [gh_vo_ct, gh_vo_cu, gh_vo_cl, gh_vo_np, gh_vo_pk, gh_vo_nb, gh_vo_bt, gh_vo_ev, gh_vo_th, gh_vo_vo, gh_vo_kd, gh_vo_pn, gh_vo_pi, gh_vo_va, gh_vo_dt, gh_vo_ti, gh_vo_pl, gh_vo_mn, gh_vo_ro, gh_vo_te, gh_vo_tt, gh_vo_tv, gh_vo_tf, gh_vo_tl, gh_vo_tn, gh_vo_tm, gh_vo_tu, gh_vo_le, gh_vo_lt, gh_vo_lk, gh_vo_lf, gh_vo_lo, gh_vo_wm, gh_vo_wr, gh_vo_fo, gh_vo_fi, gh_vo_hr, gh_vo_rk, gh_vo_rs, gh_vo_rr, gh_vo_hs, gh_vo_sk, gh_vo_ss, gh_vo_sr, gh_vo_fa, gh_vo_su, gh_vo_tr] at hR
                  refine ZV_aload_n (n := 162) dX12_put_161 rfl rfl rfl ?_
                  refine ZV_getR (n := 165) dX12_put_162 fl_X12_24 rfl rfl rfl (rf_sh hR :).1 ?_
                  refine ZV_iload (n := 167) dX12_put_165 rfl rfl ?_
                  refine ZV_iload_n (n := 168) dX12_put_167 rfl rfl rfl ?_
                  refine ZV_iast (n := 169) dX12_put_168 rfl (ra_kindOf (rf_sh hR :) :) (rk_kindOf (rf_sh hR :) :) rfl (by omega) ?_
                  refine ZV_gen (P := fun τ => rR x τ _) (rR_kindOf hR _) (fun σ hR => ?_)
                  try simp only [gh_kd_ct, gh_kd_cu, gh_kd_cl, gh_kd_np, gh_kd_pk, gh_kd_nb, gh_kd_bt, gh_kd_ev, gh_kd_th, gh_kd_vo, gh_kd_kd, gh_kd_pn, gh_kd_pi, gh_kd_va, gh_kd_dt, gh_kd_ti, gh_kd_pl, gh_kd_mn, gh_kd_ro, gh_kd_te, gh_kd_tt, gh_kd_tv, gh_kd_tf, gh_kd_tl, gh_kd_tn, gh_kd_tm, gh_kd_tu, gh_kd_le, gh_kd_lt, gh_kd_lk, gh_kd_lf, gh_kd_lo, gh_kd_wm, gh_kd_wr, gh_kd_fo, gh_kd_fi, gh_kd_hr, gh_kd_rk, gh_kd_rs, gh_kd_rr, gh_kd_hs, gh_kd_sk, gh_kd_ss, gh_kd_sr, gh_kd_fa, gh_kd_su, gh_kd_tr] at hR
                  refine ZV_aload_n (n := 170) dX12_put_169 rfl rfl rfl ?_
                  refine ZV_getR (n := 173) dX12_put_170 fl_X12_27 rfl rfl rfl (rf_sh hR :).1 ?_
                  refine ZV_iload (n := 175) dX12_put_173 rfl rfl ?_
                  refine ZV_iload_n (n := 176) dX12_put_175 rfl rfl rfl ?_
                  refine ZV_iconst (v := nI 3) (n := 177) dX12_put_176 rfl rfl ?_
                  refine ZV_icmp_geN (tgt := 184) (n := 180) dX12_put_177 (by decide) rfl (by omega) (by omega) (fun h177 => ?_) (fun h177 => ?_)
                  · skip
                    refine ZV_iconst (v := nI 0) (n := 185) dX12_put_184 rfl rfl ?_
                    refine ZV_iast (n := 186) dX12_put_185 rfl (ra_pitches (rf_sh hR :) :) (rk_pitches (rf_sh hR :) :) rfl (by omega) ?_
                    refine ZV_gen (P := fun τ => rR x τ _) (rR_pitches hR _) (fun σ hR => ?_)
                    try simp only [gh_pn_ct, gh_pn_cu, gh_pn_cl, gh_pn_np, gh_pn_pk, gh_pn_nb, gh_pn_bt, gh_pn_ev, gh_pn_th, gh_pn_vo, gh_pn_kd, gh_pn_pn, gh_pn_pi, gh_pn_va, gh_pn_dt, gh_pn_ti, gh_pn_pl, gh_pn_mn, gh_pn_ro, gh_pn_te, gh_pn_tt, gh_pn_tv, gh_pn_tf, gh_pn_tl, gh_pn_tn, gh_pn_tm, gh_pn_tu, gh_pn_le, gh_pn_lt, gh_pn_lk, gh_pn_lf, gh_pn_lo, gh_pn_wm, gh_pn_wr, gh_pn_fo, gh_pn_fi, gh_pn_hr, gh_pn_rk, gh_pn_rs, gh_pn_rr, gh_pn_hs, gh_pn_sk, gh_pn_ss, gh_pn_sr, gh_pn_fa, gh_pn_su, gh_pn_tr] at hR
                    refine ZV_aload_n (n := 187) dX12_put_186 rfl rfl rfl ?_
                    refine ZV_getR (n := 190) dX12_put_187 fl_X12_30 rfl rfl rfl (rf_sh hR :).1 ?_
                    refine ZV_bipush (v := nI 6) (n := 192) dX12_put_190 rfl rfl ?_
                    refine ZV_iload (n := 194) dX12_put_192 rfl rfl ?_
                    refine ZV_imulN (n := 195) dX12_put_194 rfl ?_
                    refine ZV_iload (n := 197) dX12_put_195 rfl rfl ?_
                    refine ZV_iast (n := 198) dX12_put_197 rfl (ra_pitchOf (rf_sh hR :) :) (rk_pitchOf (rf_sh hR :) :) rfl (by omega) ?_
                    refine ZV_gen (P := fun τ => rR x τ _) (rR_pitchOf (i := (g_ev T)) (j := 0) hR (by omega) (by omega) _) (fun σ hR => ?_)
                    try simp only [gh_pi_ct, gh_pi_cu, gh_pi_cl, gh_pi_np, gh_pi_pk, gh_pi_nb, gh_pi_bt, gh_pi_ev, gh_pi_th, gh_pi_vo, gh_pi_kd, gh_pi_pn, gh_pi_pi, gh_pi_va, gh_pi_dt, gh_pi_ti, gh_pi_pl, gh_pi_mn, gh_pi_ro, gh_pi_te, gh_pi_tt, gh_pi_tv, gh_pi_tf, gh_pi_tl, gh_pi_tn, gh_pi_tm, gh_pi_tu, gh_pi_le, gh_pi_lt, gh_pi_lk, gh_pi_lf, gh_pi_lo, gh_pi_wm, gh_pi_wr, gh_pi_fo, gh_pi_fi, gh_pi_hr, gh_pi_rk, gh_pi_rs, gh_pi_rr, gh_pi_hs, gh_pi_sk, gh_pi_ss, gh_pi_sr, gh_pi_fa, gh_pi_su, gh_pi_tr] at hR
                    refine ZV_aload_n (n := 199) dX12_put_198 rfl rfl rfl ?_
                    refine ZV_getR (n := 202) dX12_put_199 fl_X12_33 rfl rfl rfl (rf_sh hR :).1 ?_
                    refine ZV_iload (n := 204) dX12_put_202 rfl rfl ?_
                    refine ZV_iload (n := 206) dX12_put_204 rfl rfl ?_
                    refine ZV_iast (n := 207) dX12_put_206 rfl (ra_valueOf (rf_sh hR :) :) (rk_valueOf (rf_sh hR :) :) rfl (by omega) ?_
                    refine ZV_gen (P := fun τ => rR x τ _) (rR_valueOf hR _) (fun σ hR => ?_)
                    try simp only [gh_va_ct, gh_va_cu, gh_va_cl, gh_va_np, gh_va_pk, gh_va_nb, gh_va_bt, gh_va_ev, gh_va_th, gh_va_vo, gh_va_kd, gh_va_pn, gh_va_pi, gh_va_va, gh_va_dt, gh_va_ti, gh_va_pl, gh_va_mn, gh_va_ro, gh_va_te, gh_va_tt, gh_va_tv, gh_va_tf, gh_va_tl, gh_va_tn, gh_va_tm, gh_va_tu, gh_va_le, gh_va_lt, gh_va_lk, gh_va_lf, gh_va_lo, gh_va_wm, gh_va_wr, gh_va_fo, gh_va_fi, gh_va_hr, gh_va_rk, gh_va_rs, gh_va_rr, gh_va_hs, gh_va_sk, gh_va_ss, gh_va_sr, gh_va_fa, gh_va_su, gh_va_tr] at hR
                    refine ZV_aload_n (n := 208) dX12_put_207 rfl rfl rfl ?_
                    refine ZV_getR (n := 211) dX12_put_208 fl_X12_36 rfl rfl rfl (rf_sh hR :).1 ?_
                    refine ZV_iload (n := 213) dX12_put_211 rfl rfl ?_
                    refine ZV_iload (n := 215) dX12_put_213 rfl rfl ?_
                    refine ZV_iast (n := 216) dX12_put_215 rfl (ra_dotsOf (rf_sh hR :) :) (rk_dotsOf (rf_sh hR :) :) rfl (by omega) ?_
                    refine ZV_gen (P := fun τ => rR x τ _) (rR_dotsOf hR _) (fun σ hR => ?_)
                    try simp only [gh_dt_ct, gh_dt_cu, gh_dt_cl, gh_dt_np, gh_dt_pk, gh_dt_nb, gh_dt_bt, gh_dt_ev, gh_dt_th, gh_dt_vo, gh_dt_kd, gh_dt_pn, gh_dt_pi, gh_dt_va, gh_dt_dt, gh_dt_ti, gh_dt_pl, gh_dt_mn, gh_dt_ro, gh_dt_te, gh_dt_tt, gh_dt_tv, gh_dt_tf, gh_dt_tl, gh_dt_tn, gh_dt_tm, gh_dt_tu, gh_dt_le, gh_dt_lt, gh_dt_lk, gh_dt_lf, gh_dt_lo, gh_dt_wm, gh_dt_wr, gh_dt_fo, gh_dt_fi, gh_dt_hr, gh_dt_rk, gh_dt_rs, gh_dt_rr, gh_dt_hs, gh_dt_sk, gh_dt_ss, gh_dt_sr, gh_dt_fa, gh_dt_su, gh_dt_tr] at hR
                    refine ZV_aload_n (n := 217) dX12_put_216 rfl rfl rfl ?_
                    refine ZV_getR (n := 220) dX12_put_217 fl_X12_39 rfl rfl rfl (rf_sh hR :).1 ?_
                    refine ZV_iload (n := 222) dX12_put_220 rfl rfl ?_
                    refine ZV_iconst (v := nI 0) (n := 223) dX12_put_222 rfl rfl ?_
                    refine ZV_bast (n := 224) dX12_put_223 rfl (Or.inl rfl) (ra_isTied (rf_sh hR :) :) (rk_isTied (rf_sh hR :) :) rfl (by omega) ?_
                    refine ZV_gen (P := fun τ => rR x τ _) (rR_isTied hR false) (fun σ hR => ?_)
                    try simp only [gh_ti_ct, gh_ti_cu, gh_ti_cl, gh_ti_np, gh_ti_pk, gh_ti_nb, gh_ti_bt, gh_ti_ev, gh_ti_th, gh_ti_vo, gh_ti_kd, gh_ti_pn, gh_ti_pi, gh_ti_va, gh_ti_dt, gh_ti_ti, gh_ti_pl, gh_ti_mn, gh_ti_ro, gh_ti_te, gh_ti_tt, gh_ti_tv, gh_ti_tf, gh_ti_tl, gh_ti_tn, gh_ti_tm, gh_ti_tu, gh_ti_le, gh_ti_lt, gh_ti_lk, gh_ti_lf, gh_ti_lo, gh_ti_wm, gh_ti_wr, gh_ti_fo, gh_ti_fi, gh_ti_hr, gh_ti_rk, gh_ti_rs, gh_ti_rr, gh_ti_hs, gh_ti_sk, gh_ti_ss, gh_ti_sr, gh_ti_fa, gh_ti_su, gh_ti_tr] at hR
                    refine ZV_aload_n (n := 225) dX12_put_224 rfl rfl rfl ?_
                    refine ZV_getR (n := 228) dX12_put_225 fl_X12_45 rfl rfl rfl (rf_sh hR :).1 ?_
                    refine ZV_iload_n (n := 229) dX12_put_228 rfl rfl rfl ?_
                    refine ZV_ialdv (n := 230) dX12_put_229 rfl (ra_many (rf_sh hR :) :) (rk_many (rf_sh hR :) :) rfl (by omega) (Eq.trans ((rf_many hR v (by omega)) :) (show _ = nI (g_mn T v) by first | simp only [gh_mn_ct, gh_mn_cu, gh_mn_cl, gh_mn_np, gh_mn_pk, gh_mn_nb, gh_mn_bt, gh_mn_ev, gh_mn_th, gh_mn_vo, gh_mn_kd, gh_mn_pn, gh_mn_pi, gh_mn_va, gh_mn_dt, gh_mn_ti, gh_mn_pl, gh_mn_mn, gh_mn_ro, gh_mn_te, gh_mn_tt, gh_mn_tv, gh_mn_tf, gh_mn_tl, gh_mn_tn, gh_mn_tm, gh_mn_tu, gh_mn_le, gh_mn_lt, gh_mn_lk, gh_mn_lf, gh_mn_lo, gh_mn_wm, gh_mn_wr, gh_mn_fo, gh_mn_fi, gh_mn_hr, gh_mn_rk, gh_mn_rs, gh_mn_rr, gh_mn_hs, gh_mn_sk, gh_mn_ss, gh_mn_sr, gh_mn_fa, gh_mn_su, gh_mn_tr] | rfl)) ?_
                    refine ZV_istore_8 (n := 232) dX12_put_230 rfl (Nat.le_of_ble_eq_true rfl) rfl ?_
                    generalize hT10 : h_ti _ _ = T10 at hR
                    have e1 : g_ro T10 = g_ro T := by rw [← hT10]; simp only [gh_ro_ct, gh_ro_cu, gh_ro_cl, gh_ro_np, gh_ro_pk, gh_ro_nb, gh_ro_bt, gh_ro_ev, gh_ro_th, gh_ro_vo, gh_ro_kd, gh_ro_pn, gh_ro_pi, gh_ro_va, gh_ro_dt, gh_ro_ti, gh_ro_pl, gh_ro_mn, gh_ro_ro, gh_ro_te, gh_ro_tt, gh_ro_tv, gh_ro_tf, gh_ro_tl, gh_ro_tn, gh_ro_tm, gh_ro_tu, gh_ro_le, gh_ro_lt, gh_ro_lk, gh_ro_lf, gh_ro_lo, gh_ro_wm, gh_ro_wr, gh_ro_fo, gh_ro_fi, gh_ro_hr, gh_ro_rk, gh_ro_rs, gh_ro_rr, gh_ro_hs, gh_ro_sk, gh_ro_ss, gh_ro_sr, gh_ro_fa, gh_ro_su, gh_ro_tr]
                    have e2 : g_mn T10 = g_mn T := by rw [← hT10]; simp only [gh_mn_ct, gh_mn_cu, gh_mn_cl, gh_mn_np, gh_mn_pk, gh_mn_nb, gh_mn_bt, gh_mn_ev, gh_mn_th, gh_mn_vo, gh_mn_kd, gh_mn_pn, gh_mn_pi, gh_mn_va, gh_mn_dt, gh_mn_ti, gh_mn_pl, gh_mn_mn, gh_mn_ro, gh_mn_te, gh_mn_tt, gh_mn_tv, gh_mn_tf, gh_mn_tl, gh_mn_tn, gh_mn_tm, gh_mn_tu, gh_mn_le, gh_mn_lt, gh_mn_lk, gh_mn_lf, gh_mn_lo, gh_mn_wm, gh_mn_wr, gh_mn_fo, gh_mn_fi, gh_mn_hr, gh_mn_rk, gh_mn_rs, gh_mn_rr, gh_mn_hs, gh_mn_sk, gh_mn_ss, gh_mn_sr, gh_mn_fa, gh_mn_su, gh_mn_tr]
                    have loop : ∀ (n9 : Nat) (j : Nat) (τ : ZS), j - p < n9 → p ≤ j → j ≤ g_mn T v → rR x τ (h_ro T10 (va_u2 (g_ro T) v (dnF (g_ro T v) j (g_mn T v)))) → ZV M_X12_put (fun y0 τ0 => y0 = some (Ai (sp_put T (nI v) (nI p) (nI k) q (nI a) (nI d)).1) ∧ rR x τ0 (sp_put T (nI v) (nI p) (nI k) q (nI a) (nI d)).2) 232 [some (Ar (some x)), some (Ai (nI v)), some (Ai (nI p)), some (Ai (nI k)), some (Ai q), some (Ai (nI a)), some (Ai (nI d)), some (Ai (nI (g_ev T))), some (Ai (nI j))] [] τ (zmC M_X12_put) (zmS M_X12_put) := by
                      intro n9
                      induction n9 with
                      | zero => intro j τ hm; exact absurd hm (Nat.not_lt_zero _)
                      | succ n9 ih =>
                        intro j τ hm hj1 hj2 hR9
                        refine ZV_iload (n := 234) dX12_put_232 rfl rfl ?_
                        refine ZV_iload_n (n := 235) dX12_put_234 rfl rfl rfl ?_
                        refine ZV_icmp_leN (tgt := 270) (n := 238) dX12_put_235 (by decide) rfl (by omega) (by omega) (fun h235 => ?_) (fun h235 => ?_)
                        · skip
                          obtain rfl : p = j := by omega
                          refine ZV_aload_n (n := 271) dX12_put_270 rfl rfl rfl ?_
                          refine ZV_getR (n := 274) dX12_put_271 fl_X12_42 rfl rfl rfl (rf_sh hR9 :).1 ?_
                          refine ZV_bipush (v := nI 40) (n := 276) dX12_put_274 rfl rfl ?_
                          refine ZV_iload_n (n := 277) dX12_put_276 rfl rfl rfl ?_
                          refine ZV_imulN (n := 278) dX12_put_277 rfl ?_
                          refine ZV_iload_n (n := 279) dX12_put_278 rfl rfl rfl ?_
                          refine ZV_iaddN (n := 280) dX12_put_279 rfl ?_
                          refine ZV_iload (n := 282) dX12_put_280 rfl rfl ?_
                          refine ZV_iast (n := 283) dX12_put_282 rfl (ra_row (rf_sh hR9 :) :) (rk_row (rf_sh hR9 :) :) rfl (by omega) ?_
                          refine ZV_gen (P := fun τ => rR x τ _) (rR_row (i := v) (j := p) hR9 (by omega) (by omega) _) (fun τ2 hR9 => ?_)
                          try simp only [gh_ro_ct, gh_ro_cu, gh_ro_cl, gh_ro_np, gh_ro_pk, gh_ro_nb, gh_ro_bt, gh_ro_ev, gh_ro_th, gh_ro_vo, gh_ro_kd, gh_ro_pn, gh_ro_pi, gh_ro_va, gh_ro_dt, gh_ro_ti, gh_ro_pl, gh_ro_mn, gh_ro_ro, gh_ro_te, gh_ro_tt, gh_ro_tv, gh_ro_tf, gh_ro_tl, gh_ro_tn, gh_ro_tm, gh_ro_tu, gh_ro_le, gh_ro_lt, gh_ro_lk, gh_ro_lf, gh_ro_lo, gh_ro_wm, gh_ro_wr, gh_ro_fo, gh_ro_fi, gh_ro_hr, gh_ro_rk, gh_ro_rs, gh_ro_rr, gh_ro_hs, gh_ro_sk, gh_ro_ss, gh_ro_sr, gh_ro_fa, gh_ro_su, gh_ro_tr] at hR9
                          rw [hh_ro, u2_u2] at hR9
                          refine ZV_aload_n (n := 284) dX12_put_283 rfl rfl rfl ?_
                          refine ZV_getR (n := 287) dX12_put_284 fl_X12_45 rfl rfl rfl (rf_sh hR9 :).1 ?_
                          refine ZV_iload_n (n := 288) dX12_put_287 rfl rfl rfl ?_
                          refine ZV_dup2 (n := 289) dX12_put_288 rfl rfl rfl ?_
                          refine ZV_ialdv (n := 290) dX12_put_289 rfl (ra_many (rf_sh hR9 :) :) (rk_many (rf_sh hR9 :) :) rfl (by omega) ((rf_many hR9 v (by omega)).trans (show nI (g_mn T10 v) = nI (g_mn T v) by rw [e2])) ?_
                          refine ZV_iconst (v := nI 1) (n := 291) dX12_put_290 rfl rfl ?_
                          refine ZV_iaddN (n := 292) dX12_put_291 rfl ?_
                          refine ZV_iast (n := 293) dX12_put_292 rfl (ra_many (rf_sh hR9 :) :) (rk_many (rf_sh hR9 :) :) rfl (by omega) ?_
                          refine ZV_gen (P := fun τ => rR x τ _) (rR_many (j := v) hR9 _) (fun τ3 hR9 => ?_)
                          try simp only [gh_mn_ct, gh_mn_cu, gh_mn_cl, gh_mn_np, gh_mn_pk, gh_mn_nb, gh_mn_bt, gh_mn_ev, gh_mn_th, gh_mn_vo, gh_mn_kd, gh_mn_pn, gh_mn_pi, gh_mn_va, gh_mn_dt, gh_mn_ti, gh_mn_pl, gh_mn_mn, gh_mn_ro, gh_mn_te, gh_mn_tt, gh_mn_tv, gh_mn_tf, gh_mn_tl, gh_mn_tn, gh_mn_tm, gh_mn_tu, gh_mn_le, gh_mn_lt, gh_mn_lk, gh_mn_lf, gh_mn_lo, gh_mn_wm, gh_mn_wr, gh_mn_fo, gh_mn_fi, gh_mn_hr, gh_mn_rk, gh_mn_rs, gh_mn_rr, gh_mn_hs, gh_mn_sk, gh_mn_ss, gh_mn_sr, gh_mn_fa, gh_mn_su, gh_mn_tr] at hR9
                          rw [e2] at hR9
                          refine ZV_iload (n := 295) dX12_put_293 rfl rfl ?_
                          refine ZV_iret dX12_put_295 rfl ?_
                          subst hT10
                          have h9 := rR_pl hR9 (fun f => if f = g_ev T then p else if g_th T f = true ∧ g_vo T f = v ∧ p ≤ g_pl T f then g_pl T f + 1 else g_pl T f)
                          exact zleaf (v := sOk (putT T v p k q a d) (nI (g_ev T))) (by rw [sp_put, nI_clamp hvx, nI_clamp hpx, nI_clamp hkx, nI_clamp hax, nI_clamp hdx, if_pos ⟨h9x, h25, h37, fun q9 => absurd q9 (by omega), h68, h81⟩, if_neg (by rintro (q9 | q9) <;> omega)]) rfl (rR_s0 (by unfold putT inF; rw [if_neg (by omega : ¬ k < 3)]; exact h9) hsu)
                        · skip
                          refine ZV_aload_n (n := 239) dX12_put_238 rfl rfl rfl ?_
                          refine ZV_getR (n := 242) dX12_put_239 fl_X12_42 rfl rfl rfl (rf_sh hR9 :).1 ?_
                          refine ZV_bipush (v := nI 40) (n := 244) dX12_put_242 rfl rfl ?_
                          refine ZV_iload_n (n := 245) dX12_put_244 rfl rfl rfl ?_
                          refine ZV_imulN (n := 246) dX12_put_245 rfl ?_
                          refine ZV_iload (n := 248) dX12_put_246 rfl rfl ?_
                          refine ZV_iaddN (n := 249) dX12_put_248 rfl ?_
                          refine ZV_aload_n (n := 250) dX12_put_249 rfl rfl rfl ?_
                          refine ZV_getR (n := 253) dX12_put_250 fl_X12_42 rfl rfl rfl (rf_sh hR9 :).1 ?_
                          refine ZV_bipush (v := nI 40) (n := 255) dX12_put_253 rfl rfl ?_
                          refine ZV_iload_n (n := 256) dX12_put_255 rfl rfl rfl ?_
                          refine ZV_imulN (n := 257) dX12_put_256 rfl ?_
                          refine ZV_iload (n := 259) dX12_put_257 rfl rfl ?_
                          refine ZV_iaddN (n := 260) dX12_put_259 rfl ?_
                          refine ZV_iconst (v := nI 1) (n := 261) dX12_put_260 rfl rfl ?_
                          refine ZV_isubN (n := 262) dX12_put_261 rfl (by omega) ?_
                          refine ZV_ialdv (n := 263) dX12_put_262 rfl (ra_row (rf_sh hR9 :) :) (rk_row (rf_sh hR9 :) :) rfl (by omega) (Eq.trans (congrArg _ (show 40 * v + j - 1 = 40 * v + (j - 1) by omega)) ((rf_row hR9 v (j - 1) (by omega) (by omega)).trans (show nI (va_u2 _ v _ v (j - 1)) = nI (g_ro T v (j - 1)) by rw [u2_at]; unfold dnF; rw [if_neg (by omega)]))) ?_
                          refine ZV_iast (n := 264) dX12_put_263 rfl (ra_row (rf_sh hR9 :) :) (rk_row (rf_sh hR9 :) :) rfl (by omega) ?_
                          refine ZV_gen (P := fun τ => rR x τ _) (rR_row (i := v) (j := j) hR9 (by omega) (by omega) _) (fun τ2 hR9 => ?_)
                          try simp only [gh_ro_ct, gh_ro_cu, gh_ro_cl, gh_ro_np, gh_ro_pk, gh_ro_nb, gh_ro_bt, gh_ro_ev, gh_ro_th, gh_ro_vo, gh_ro_kd, gh_ro_pn, gh_ro_pi, gh_ro_va, gh_ro_dt, gh_ro_ti, gh_ro_pl, gh_ro_mn, gh_ro_ro, gh_ro_te, gh_ro_tt, gh_ro_tv, gh_ro_tf, gh_ro_tl, gh_ro_tn, gh_ro_tm, gh_ro_tu, gh_ro_le, gh_ro_lt, gh_ro_lk, gh_ro_lf, gh_ro_lo, gh_ro_wm, gh_ro_wr, gh_ro_fo, gh_ro_fi, gh_ro_hr, gh_ro_rk, gh_ro_rs, gh_ro_rr, gh_ro_hs, gh_ro_sk, gh_ro_ss, gh_ro_sr, gh_ro_fa, gh_ro_su, gh_ro_tr] at hR9
                          rw [hh_ro, u2_u2, dnF_up _ _ _ (by omega) (by omega)] at hR9
                          refine ZV_iincM_8 (n := 267) dX12_put_264 rfl rfl (Nat.le_of_ble_eq_true rfl) rfl (by omega) ?_
                          refine ZV_goto (tgt := 232) dX12_put_267 (by decide) ?_
                          exact ih (j - 1) _ (by omega) (by omega) (by omega) hR9
                    exact loop _ (g_mn T v) _ (Nat.lt_succ_self _) (by omega) (by omega) (by rw [dnF_0, u2_self, ← e1, hs_ro]; exact hR)
                  · skip
                    exfalso; omega
                · skip
                  refine ZV_aload_n (n := 113) dX12_put_112 rfl rfl rfl ?_
                  refine ZV_bipush (v := -4) (n := 115) dX12_put_113 rfl rfl ?_
                  refine call_X12_130 (c_no hR _) rfl dX12_put_115 rfl (rf_sh hR :).1 (Nat.le_of_ble_eq_true rfl) (Nat.le_of_ble_eq_true rfl) rfl (fun r9 σ9 hp9 => ?_)
                  obtain ⟨rfl, hR⟩ := hp9
                  refine ZV_iret dX12_put_118 rfl ?_
                  exact zleaf (v := sNo T (-4)) (by rw [sp_put, nI_clamp hvx, nI_clamp hpx, nI_clamp hkx, nI_clamp hax, nI_clamp hdx, if_pos ⟨h9x, h25, h37, fun q9 => absurd q9 (by omega), h68, h81⟩, if_pos (Or.inr h109)]) rfl hR
            · skip
              refine ZV_aload_n (n := 85) dX12_put_84 rfl rfl rfl ?_
              refine ZV_bipush (v := -2) (n := 87) dX12_put_85 rfl rfl ?_
              refine call_X12_130 (c_no hR _) rfl dX12_put_87 rfl (rf_sh hR :).1 (Nat.le_of_ble_eq_true rfl) (Nat.le_of_ble_eq_true rfl) rfl (fun r9 σ9 hp9 => ?_)
              obtain ⟨rfl, hR⟩ := hp9
              refine ZV_iret dX12_put_90 rfl ?_
              exact zleaf (v := sNo T (-2)) (by simp [sp_put, h9x, h25, h37, h42, h68, h81, nI_clamp hvx, nI_clamp hpx, nI_clamp hkx, show ¬ k < 3 from by omega]) rfl hR
        · skip
          refine ZV_iload (n := 47) dX12_put_45 rfl rfl ?_
          refine ZV_i2l (n := 48) dX12_put_47 rfl ?_
          refine ZV_lconst (v := lN 0) (n := 49) dX12_put_48 rfl rfl ?_
          refine ZV_ldc2 (v := lN 127) (n := 52) dX12_put_49 wd_5_128 rfl ?_
          refine call_X12_137 (c_inC _ q (by decide)) rfl dX12_put_52 (Nat.le_of_ble_eq_true rfl) (Nat.le_of_ble_eq_true rfl) rfl (fun r9 σ9 hp9 => ?_)
          obtain ⟨rfl, rfl⟩ := hp9
          refine ZV_if_eqB (tgt := 84) (n := 58) dX12_put_55 (by decide) rfl (fun h55 => ?_) (fun h55 => ?_)
          · skip
            refine ZV_aload_n (n := 85) dX12_put_84 rfl rfl rfl ?_
            refine ZV_bipush (v := -2) (n := 87) dX12_put_85 rfl rfl ?_
            refine call_X12_130 (c_no hR _) rfl dX12_put_87 rfl (rf_sh hR :).1 (Nat.le_of_ble_eq_true rfl) (Nat.le_of_ble_eq_true rfl) rfl (fun r9 σ9 hp9 => ?_)
            obtain ⟨rfl, hR⟩ := hp9
            refine ZV_iret dX12_put_90 rfl ?_
            exact zleaf (v := sNo T (-2)) (by simp [sp_put, h9x, h25, h37, h42, h55, nI_clamp hvx, nI_clamp hpx, nI_clamp hkx]) rfl hR
          · skip
            refine ZV_iload (n := 60) dX12_put_58 rfl rfl ?_
            refine ZV_i2l (n := 61) dX12_put_60 rfl ?_
            refine ZV_lconst (v := lN 0) (n := 62) dX12_put_61 rfl rfl ?_
            refine ZV_ldc2 (v := lN 5) (n := 65) dX12_put_62 wd_5_84 rfl ?_
            refine call_X12_137 (c_inC _ a (by decide)) rfl dX12_put_65 (Nat.le_of_ble_eq_true rfl) (Nat.le_of_ble_eq_true rfl) rfl (fun r9 σ9 hp9 => ?_)
            obtain ⟨rfl, rfl⟩ := hp9
            refine ZV_if_eqB (tgt := 84) (n := 71) dX12_put_68 (by decide) rfl (fun h68 => ?_) (fun h68 => ?_)
            · skip
              refine ZV_aload_n (n := 85) dX12_put_84 rfl rfl rfl ?_
              refine ZV_bipush (v := -2) (n := 87) dX12_put_85 rfl rfl ?_
              refine call_X12_130 (c_no hR _) rfl dX12_put_87 rfl (rf_sh hR :).1 (Nat.le_of_ble_eq_true rfl) (Nat.le_of_ble_eq_true rfl) rfl (fun r9 σ9 hp9 => ?_)
              obtain ⟨rfl, hR⟩ := hp9
              refine ZV_iret dX12_put_90 rfl ?_
              exact zleaf (v := sNo T (-2)) (by simp [sp_put, h9x, h25, h37, h42, h55, h68, nI_clamp hvx, nI_clamp hpx, nI_clamp hkx]) rfl hR
            · skip
              refine ZV_iload (n := 73) dX12_put_71 rfl rfl ?_
              refine ZV_i2l (n := 74) dX12_put_73 rfl ?_
              refine ZV_lconst (v := lN 0) (n := 75) dX12_put_74 rfl rfl ?_
              refine ZV_ldc2 (v := lN 2) (n := 78) dX12_put_75 wd_5_102 rfl ?_
              refine call_X12_137 (c_inC _ d (by decide)) rfl dX12_put_78 (Nat.le_of_ble_eq_true rfl) (Nat.le_of_ble_eq_true rfl) rfl (fun r9 σ9 hp9 => ?_)
              obtain ⟨rfl, rfl⟩ := hp9
              refine ZV_if_neB (tgt := 91) (n := 84) dX12_put_81 (by decide) rfl (fun h81 => ?_) (fun h81 => ?_)
              · skip
                obtain ⟨a, ha, hax, rfl⟩ := inB_t h68
                obtain ⟨d, hd, hdx, rfl⟩ := inB_t h81
                refine ZV_aload_n (n := 92) dX12_put_91 rfl rfl rfl ?_
                refine ZV_getIv (n := 95) dX12_put_92 fl_X12_141 rfl rfl rfl (rf_sh hR :).1 (rf_ever hR :) ?_
                refine ZV_sipush (v := nI 150) (n := 98) dX12_put_95 rfl rfl ?_
                refine ZV_icmp_eqN (tgt := 112) (n := 101) dX12_put_98 (by decide) rfl (by omega) (by omega) (fun h98 => ?_) (fun h98 => ?_)
                · skip
                  refine ZV_aload_n (n := 113) dX12_put_112 rfl rfl rfl ?_
                  refine ZV_bipush (v := -4) (n := 115) dX12_put_113 rfl rfl ?_
                  refine call_X12_130 (c_no hR _) rfl dX12_put_115 rfl (rf_sh hR :).1 (Nat.le_of_ble_eq_true rfl) (Nat.le_of_ble_eq_true rfl) rfl (fun r9 σ9 hp9 => ?_)
                  obtain ⟨rfl, hR⟩ := hp9
                  refine ZV_iret dX12_put_118 rfl ?_
                  exact zleaf (v := sNo T (-4)) (by rw [sp_put, nI_clamp hvx, nI_clamp hpx, nI_clamp hkx, nI_clamp hax, nI_clamp hdx, if_pos ⟨h9x, h25, h37, fun _ => h55, h68, h81⟩, if_pos (Or.inl h98)]) rfl hR
                · skip
                  refine ZV_aload_n (n := 102) dX12_put_101 rfl rfl rfl ?_
                  refine ZV_getR (n := 105) dX12_put_102 fl_X12_45 rfl rfl rfl (rf_sh hR :).1 ?_
                  refine ZV_iload_n (n := 106) dX12_put_105 rfl rfl rfl ?_
                  refine ZV_ialdv (n := 107) dX12_put_106 rfl (ra_many (rf_sh hR :) :) (rk_many (rf_sh hR :) :) rfl (by omega) (rf_many hR _ (by omega)) ?_
                  refine ZV_bipush (v := nI 40) (n := 109) dX12_put_107 rfl rfl ?_
                  refine ZV_icmp_neN (tgt := 119) (n := 112) dX12_put_109 (by decide) rfl (by omega) (by omega) (fun h109 => ?_) (fun h109 => ?_)
                  · skip
                    refine ZV_aload_n (n := 120) dX12_put_119 rfl rfl rfl ?_
                    refine ZV_getIv (n := 123) dX12_put_120 fl_X12_141 rfl rfl rfl (rf_sh hR :).1 (rf_ever hR :) ?_
                    refine ZV_istore_7 (n := 125) dX12_put_123 rfl (Nat.le_of_ble_eq_true rfl) rfl ?_
                    refine ZV_aload_n (n := 126) dX12_put_125 rfl rfl rfl ?_
                    refine ZV_dup (n := 127) dX12_put_126 rfl rfl ?_
                    refine ZV_getIv (n := 130) dX12_put_127 fl_X12_141 rfl rfl rfl (rf_sh hR :).1 (Eq.trans ((rf_ever hR :) :) (show _ = nI (g_ev T) by first | simp only [gh_ev_ct, gh_ev_cu, gh_ev_cl, gh_ev_np, gh_ev_pk, gh_ev_nb, gh_ev_bt, gh_ev_ev, gh_ev_th, gh_ev_vo, gh_ev_kd, gh_ev_pn, gh_ev_pi, gh_ev_va, gh_ev_dt, gh_ev_ti, gh_ev_pl, gh_ev_mn, gh_ev_ro, gh_ev_te, gh_ev_tt, gh_ev_tv, gh_ev_tf, gh_ev_tl, gh_ev_tn, gh_ev_tm, gh_ev_tu, gh_ev_le, gh_ev_lt, gh_ev_lk, gh_ev_lf, gh_ev_lo, gh_ev_wm, gh_ev_wr, gh_ev_fo, gh_ev_fi, gh_ev_hr, gh_ev_rk, gh_ev_rs, gh_ev_rr, gh_ev_hs, gh_ev_sk, gh_ev_ss, gh_ev_sr, gh_ev_fa, gh_ev_su, gh_ev_tr] | rfl)) ?_
                    refine ZV_iconst (v := nI 1) (n := 131) dX12_put_130 rfl rfl ?_
                    refine ZV_iaddN (n := 132) dX12_put_131 rfl ?_
                    refine ZV_putI (n := 135) dX12_put_132 fl_X12_141 rfl (Or.inl rfl) rfl (fun h => absurd h (by decide)) rfl (rf_sh hR :).1 ?_
                    refine ZV_gen (P := fun τ => rR x τ _) (rR_ever hR _) (fun σ hR => ?_)
                    refine ZV_aload_n (n := 136) dX12_put_135 rfl rfl rfl ?_
                    refine ZV_dup (n := 137) dX12_put_136 rfl rfl ?_
                    refine ZV_getIv (n := 140) dX12_put_137 fl_X12_190 rfl rfl rfl (rf_sh hR :).1 (Eq.trans ((rf_there hR :) :) (show _ = nI (g_ct T) by first | simp only [gh_ct_ct, gh_ct_cu, gh_ct_cl, gh_ct_np, gh_ct_pk, gh_ct_nb, gh_ct_bt, gh_ct_ev, gh_ct_th, gh_ct_vo, gh_ct_kd, gh_ct_pn, gh_ct_pi, gh_ct_va, gh_ct_dt, gh_ct_ti, gh_ct_pl, gh_ct_mn, gh_ct_ro, gh_ct_te, gh_ct_tt, gh_ct_tv, gh_ct_tf, gh_ct_tl, gh_ct_tn, gh_ct_tm, gh_ct_tu, gh_ct_le, gh_ct_lt, gh_ct_lk, gh_ct_lf, gh_ct_lo, gh_ct_wm, gh_ct_wr, gh_ct_fo, gh_ct_fi, gh_ct_hr, gh_ct_rk, gh_ct_rs, gh_ct_rr, gh_ct_hs, gh_ct_sk, gh_ct_ss, gh_ct_sr, gh_ct_fa, gh_ct_su, gh_ct_tr] | rfl)) ?_
                    refine ZV_iconst (v := nI 1) (n := 141) dX12_put_140 rfl rfl ?_
                    refine ZV_iaddN (n := 142) dX12_put_141 rfl ?_
                    refine ZV_putI (n := 145) dX12_put_142 fl_X12_190 rfl (Or.inl rfl) rfl (fun h => absurd h (by decide)) rfl (rf_sh hR :).1 ?_
                    refine ZV_gen (P := fun τ => rR x τ _) (rR_there hR _) (fun σ hR => ?_)
                    refine ZV_aload_n (n := 146) dX12_put_145 rfl rfl rfl ?_
                    refine ZV_getR (n := 149) dX12_put_146 fl_X12_17 rfl rfl rfl (rf_sh hR :).1 ?_
                    refine ZV_iload (n := 151) dX12_put_149 rfl rfl ?_
                    refine ZV_iconst (v := nI 1) (n := 152) dX12_put_151 rfl rfl ?_
                    refine ZV_bast (n := 153) dX12_put_152 rfl (Or.inr rfl) (ra_isThere (rf_sh hR :) :) (rk_isThere (rf_sh hR :) :) rfl (by omega) ?_
                    refine ZV_gen (P := fun τ => rR x τ _) (rR_isThere hR true) (fun σ hR => ?_)
                    try simp only [gh_th_ct, gh_th_cu, gh_th_cl, gh_th_np, gh_th_pk, gh_th_nb, gh_th_bt, gh_th_ev, gh_th_th, gh_th_vo, gh_th_kd, gh_th_pn, gh_th_pi, gh_th_va, gh_th_dt, gh_th_ti, gh_th_pl, gh_th_mn, gh_th_ro, gh_th_te, gh_th_tt, gh_th_tv, gh_th_tf, gh_th_tl, gh_th_tn, gh_th_tm, gh_th_tu, gh_th_le, gh_th_lt, gh_th_lk, gh_th_lf, gh_th_lo, gh_th_wm, gh_th_wr, gh_th_fo, gh_th_fi, gh_th_hr, gh_th_rk, gh_th_rs, gh_th_rr, gh_th_hs, gh_th_sk, gh_th_ss, gh_th_sr, gh_th_fa, gh_th_su, gh_th_tr] at hR
                    refine ZV_aload_n (n := 154) dX12_put_153 rfl rfl rfl ?_
                    refine ZV_getR (n := 157) dX12_put_154 fl_X12_21 rfl rfl rfl (rf_sh hR :).1 ?_
                    refine ZV_iload (n := 159) dX12_put_157 rfl rfl ?_
                    refine ZV_iload_n (n := 160) dX12_put_159 rfl rfl rfl ?_
                    refine ZV_iast (n := 161) dX12_put_160 rfl (ra_voiceOf (rf_sh hR :) :) (rk_voiceOf (rf_sh hR :) :) rfl (by omega) ?_
                    refine ZV_gen (P := fun τ => rR x τ _) (rR_voiceOf hR _) (fun σ hR => ?_)
                    try simp only [gh_vo_ct, gh_vo_cu, gh_vo_cl, gh_vo_np, gh_vo_pk, gh_vo_nb, gh_vo_bt, gh_vo_ev, gh_vo_th, gh_vo_vo, gh_vo_kd, gh_vo_pn, gh_vo_pi, gh_vo_va, gh_vo_dt, gh_vo_ti, gh_vo_pl, gh_vo_mn, gh_vo_ro, gh_vo_te, gh_vo_tt, gh_vo_tv, gh_vo_tf, gh_vo_tl, gh_vo_tn, gh_vo_tm, gh_vo_tu, gh_vo_le, gh_vo_lt, gh_vo_lk, gh_vo_lf, gh_vo_lo, gh_vo_wm, gh_vo_wr, gh_vo_fo, gh_vo_fi, gh_vo_hr, gh_vo_rk, gh_vo_rs, gh_vo_rr, gh_vo_hs, gh_vo_sk, gh_vo_ss, gh_vo_sr, gh_vo_fa, gh_vo_su, gh_vo_tr] at hR
                    refine ZV_aload_n (n := 162) dX12_put_161 rfl rfl rfl ?_
                    refine ZV_getR (n := 165) dX12_put_162 fl_X12_24 rfl rfl rfl (rf_sh hR :).1 ?_
                    refine ZV_iload (n := 167) dX12_put_165 rfl rfl ?_
                    refine ZV_iload_n (n := 168) dX12_put_167 rfl rfl rfl ?_
                    refine ZV_iast (n := 169) dX12_put_168 rfl (ra_kindOf (rf_sh hR :) :) (rk_kindOf (rf_sh hR :) :) rfl (by omega) ?_
                    refine ZV_gen (P := fun τ => rR x τ _) (rR_kindOf hR _) (fun σ hR => ?_)
                    try simp only [gh_kd_ct, gh_kd_cu, gh_kd_cl, gh_kd_np, gh_kd_pk, gh_kd_nb, gh_kd_bt, gh_kd_ev, gh_kd_th, gh_kd_vo, gh_kd_kd, gh_kd_pn, gh_kd_pi, gh_kd_va, gh_kd_dt, gh_kd_ti, gh_kd_pl, gh_kd_mn, gh_kd_ro, gh_kd_te, gh_kd_tt, gh_kd_tv, gh_kd_tf, gh_kd_tl, gh_kd_tn, gh_kd_tm, gh_kd_tu, gh_kd_le, gh_kd_lt, gh_kd_lk, gh_kd_lf, gh_kd_lo, gh_kd_wm, gh_kd_wr, gh_kd_fo, gh_kd_fi, gh_kd_hr, gh_kd_rk, gh_kd_rs, gh_kd_rr, gh_kd_hs, gh_kd_sk, gh_kd_ss, gh_kd_sr, gh_kd_fa, gh_kd_su, gh_kd_tr] at hR
                    refine ZV_aload_n (n := 170) dX12_put_169 rfl rfl rfl ?_
                    refine ZV_getR (n := 173) dX12_put_170 fl_X12_27 rfl rfl rfl (rf_sh hR :).1 ?_
                    refine ZV_iload (n := 175) dX12_put_173 rfl rfl ?_
                    refine ZV_iload_n (n := 176) dX12_put_175 rfl rfl rfl ?_
                    refine ZV_iconst (v := nI 3) (n := 177) dX12_put_176 rfl rfl ?_
                    refine ZV_icmp_geN (tgt := 184) (n := 180) dX12_put_177 (by decide) rfl (by omega) (by omega) (fun h177 => ?_) (fun h177 => ?_)
                    · skip
                      exfalso; omega
                    · skip
                      refine ZV_iconst (v := nI 1) (n := 181) dX12_put_180 rfl rfl ?_
                      refine ZV_goto (tgt := 185) dX12_put_181 (by decide) ?_
                      refine ZV_iast (n := 186) dX12_put_185 rfl (ra_pitches (rf_sh hR :) :) (rk_pitches (rf_sh hR :) :) rfl (by omega) ?_
                      refine ZV_gen (P := fun τ => rR x τ _) (rR_pitches hR _) (fun σ hR => ?_)
                      try simp only [gh_pn_ct, gh_pn_cu, gh_pn_cl, gh_pn_np, gh_pn_pk, gh_pn_nb, gh_pn_bt, gh_pn_ev, gh_pn_th, gh_pn_vo, gh_pn_kd, gh_pn_pn, gh_pn_pi, gh_pn_va, gh_pn_dt, gh_pn_ti, gh_pn_pl, gh_pn_mn, gh_pn_ro, gh_pn_te, gh_pn_tt, gh_pn_tv, gh_pn_tf, gh_pn_tl, gh_pn_tn, gh_pn_tm, gh_pn_tu, gh_pn_le, gh_pn_lt, gh_pn_lk, gh_pn_lf, gh_pn_lo, gh_pn_wm, gh_pn_wr, gh_pn_fo, gh_pn_fi, gh_pn_hr, gh_pn_rk, gh_pn_rs, gh_pn_rr, gh_pn_hs, gh_pn_sk, gh_pn_ss, gh_pn_sr, gh_pn_fa, gh_pn_su, gh_pn_tr] at hR
                      refine ZV_aload_n (n := 187) dX12_put_186 rfl rfl rfl ?_
                      refine ZV_getR (n := 190) dX12_put_187 fl_X12_30 rfl rfl rfl (rf_sh hR :).1 ?_
                      refine ZV_bipush (v := nI 6) (n := 192) dX12_put_190 rfl rfl ?_
                      refine ZV_iload (n := 194) dX12_put_192 rfl rfl ?_
                      refine ZV_imulN (n := 195) dX12_put_194 rfl ?_
                      refine ZV_iload (n := 197) dX12_put_195 rfl rfl ?_
                      refine ZV_iast (n := 198) dX12_put_197 rfl (ra_pitchOf (rf_sh hR :) :) (rk_pitchOf (rf_sh hR :) :) rfl (by omega) ?_
                      refine ZV_gen (P := fun τ => rR x τ _) (rR_pitchOf (i := (g_ev T)) (j := 0) hR (by omega) (by omega) _) (fun σ hR => ?_)
                      try simp only [gh_pi_ct, gh_pi_cu, gh_pi_cl, gh_pi_np, gh_pi_pk, gh_pi_nb, gh_pi_bt, gh_pi_ev, gh_pi_th, gh_pi_vo, gh_pi_kd, gh_pi_pn, gh_pi_pi, gh_pi_va, gh_pi_dt, gh_pi_ti, gh_pi_pl, gh_pi_mn, gh_pi_ro, gh_pi_te, gh_pi_tt, gh_pi_tv, gh_pi_tf, gh_pi_tl, gh_pi_tn, gh_pi_tm, gh_pi_tu, gh_pi_le, gh_pi_lt, gh_pi_lk, gh_pi_lf, gh_pi_lo, gh_pi_wm, gh_pi_wr, gh_pi_fo, gh_pi_fi, gh_pi_hr, gh_pi_rk, gh_pi_rs, gh_pi_rr, gh_pi_hs, gh_pi_sk, gh_pi_ss, gh_pi_sr, gh_pi_fa, gh_pi_su, gh_pi_tr] at hR
                      refine ZV_aload_n (n := 199) dX12_put_198 rfl rfl rfl ?_
                      refine ZV_getR (n := 202) dX12_put_199 fl_X12_33 rfl rfl rfl (rf_sh hR :).1 ?_
                      refine ZV_iload (n := 204) dX12_put_202 rfl rfl ?_
                      refine ZV_iload (n := 206) dX12_put_204 rfl rfl ?_
                      refine ZV_iast (n := 207) dX12_put_206 rfl (ra_valueOf (rf_sh hR :) :) (rk_valueOf (rf_sh hR :) :) rfl (by omega) ?_
                      refine ZV_gen (P := fun τ => rR x τ _) (rR_valueOf hR _) (fun σ hR => ?_)
                      try simp only [gh_va_ct, gh_va_cu, gh_va_cl, gh_va_np, gh_va_pk, gh_va_nb, gh_va_bt, gh_va_ev, gh_va_th, gh_va_vo, gh_va_kd, gh_va_pn, gh_va_pi, gh_va_va, gh_va_dt, gh_va_ti, gh_va_pl, gh_va_mn, gh_va_ro, gh_va_te, gh_va_tt, gh_va_tv, gh_va_tf, gh_va_tl, gh_va_tn, gh_va_tm, gh_va_tu, gh_va_le, gh_va_lt, gh_va_lk, gh_va_lf, gh_va_lo, gh_va_wm, gh_va_wr, gh_va_fo, gh_va_fi, gh_va_hr, gh_va_rk, gh_va_rs, gh_va_rr, gh_va_hs, gh_va_sk, gh_va_ss, gh_va_sr, gh_va_fa, gh_va_su, gh_va_tr] at hR
                      refine ZV_aload_n (n := 208) dX12_put_207 rfl rfl rfl ?_
                      refine ZV_getR (n := 211) dX12_put_208 fl_X12_36 rfl rfl rfl (rf_sh hR :).1 ?_
                      refine ZV_iload (n := 213) dX12_put_211 rfl rfl ?_
                      refine ZV_iload (n := 215) dX12_put_213 rfl rfl ?_
                      refine ZV_iast (n := 216) dX12_put_215 rfl (ra_dotsOf (rf_sh hR :) :) (rk_dotsOf (rf_sh hR :) :) rfl (by omega) ?_
                      refine ZV_gen (P := fun τ => rR x τ _) (rR_dotsOf hR _) (fun σ hR => ?_)
                      try simp only [gh_dt_ct, gh_dt_cu, gh_dt_cl, gh_dt_np, gh_dt_pk, gh_dt_nb, gh_dt_bt, gh_dt_ev, gh_dt_th, gh_dt_vo, gh_dt_kd, gh_dt_pn, gh_dt_pi, gh_dt_va, gh_dt_dt, gh_dt_ti, gh_dt_pl, gh_dt_mn, gh_dt_ro, gh_dt_te, gh_dt_tt, gh_dt_tv, gh_dt_tf, gh_dt_tl, gh_dt_tn, gh_dt_tm, gh_dt_tu, gh_dt_le, gh_dt_lt, gh_dt_lk, gh_dt_lf, gh_dt_lo, gh_dt_wm, gh_dt_wr, gh_dt_fo, gh_dt_fi, gh_dt_hr, gh_dt_rk, gh_dt_rs, gh_dt_rr, gh_dt_hs, gh_dt_sk, gh_dt_ss, gh_dt_sr, gh_dt_fa, gh_dt_su, gh_dt_tr] at hR
                      refine ZV_aload_n (n := 217) dX12_put_216 rfl rfl rfl ?_
                      refine ZV_getR (n := 220) dX12_put_217 fl_X12_39 rfl rfl rfl (rf_sh hR :).1 ?_
                      refine ZV_iload (n := 222) dX12_put_220 rfl rfl ?_
                      refine ZV_iconst (v := nI 0) (n := 223) dX12_put_222 rfl rfl ?_
                      refine ZV_bast (n := 224) dX12_put_223 rfl (Or.inl rfl) (ra_isTied (rf_sh hR :) :) (rk_isTied (rf_sh hR :) :) rfl (by omega) ?_
                      refine ZV_gen (P := fun τ => rR x τ _) (rR_isTied hR false) (fun σ hR => ?_)
                      try simp only [gh_ti_ct, gh_ti_cu, gh_ti_cl, gh_ti_np, gh_ti_pk, gh_ti_nb, gh_ti_bt, gh_ti_ev, gh_ti_th, gh_ti_vo, gh_ti_kd, gh_ti_pn, gh_ti_pi, gh_ti_va, gh_ti_dt, gh_ti_ti, gh_ti_pl, gh_ti_mn, gh_ti_ro, gh_ti_te, gh_ti_tt, gh_ti_tv, gh_ti_tf, gh_ti_tl, gh_ti_tn, gh_ti_tm, gh_ti_tu, gh_ti_le, gh_ti_lt, gh_ti_lk, gh_ti_lf, gh_ti_lo, gh_ti_wm, gh_ti_wr, gh_ti_fo, gh_ti_fi, gh_ti_hr, gh_ti_rk, gh_ti_rs, gh_ti_rr, gh_ti_hs, gh_ti_sk, gh_ti_ss, gh_ti_sr, gh_ti_fa, gh_ti_su, gh_ti_tr] at hR
                      refine ZV_aload_n (n := 225) dX12_put_224 rfl rfl rfl ?_
                      refine ZV_getR (n := 228) dX12_put_225 fl_X12_45 rfl rfl rfl (rf_sh hR :).1 ?_
                      refine ZV_iload_n (n := 229) dX12_put_228 rfl rfl rfl ?_
                      refine ZV_ialdv (n := 230) dX12_put_229 rfl (ra_many (rf_sh hR :) :) (rk_many (rf_sh hR :) :) rfl (by omega) (Eq.trans ((rf_many hR v (by omega)) :) (show _ = nI (g_mn T v) by first | simp only [gh_mn_ct, gh_mn_cu, gh_mn_cl, gh_mn_np, gh_mn_pk, gh_mn_nb, gh_mn_bt, gh_mn_ev, gh_mn_th, gh_mn_vo, gh_mn_kd, gh_mn_pn, gh_mn_pi, gh_mn_va, gh_mn_dt, gh_mn_ti, gh_mn_pl, gh_mn_mn, gh_mn_ro, gh_mn_te, gh_mn_tt, gh_mn_tv, gh_mn_tf, gh_mn_tl, gh_mn_tn, gh_mn_tm, gh_mn_tu, gh_mn_le, gh_mn_lt, gh_mn_lk, gh_mn_lf, gh_mn_lo, gh_mn_wm, gh_mn_wr, gh_mn_fo, gh_mn_fi, gh_mn_hr, gh_mn_rk, gh_mn_rs, gh_mn_rr, gh_mn_hs, gh_mn_sk, gh_mn_ss, gh_mn_sr, gh_mn_fa, gh_mn_su, gh_mn_tr] | rfl)) ?_
                      refine ZV_istore_8 (n := 232) dX12_put_230 rfl (Nat.le_of_ble_eq_true rfl) rfl ?_
                      generalize hT10 : h_ti _ _ = T10 at hR
                      have e1 : g_ro T10 = g_ro T := by rw [← hT10]; simp only [gh_ro_ct, gh_ro_cu, gh_ro_cl, gh_ro_np, gh_ro_pk, gh_ro_nb, gh_ro_bt, gh_ro_ev, gh_ro_th, gh_ro_vo, gh_ro_kd, gh_ro_pn, gh_ro_pi, gh_ro_va, gh_ro_dt, gh_ro_ti, gh_ro_pl, gh_ro_mn, gh_ro_ro, gh_ro_te, gh_ro_tt, gh_ro_tv, gh_ro_tf, gh_ro_tl, gh_ro_tn, gh_ro_tm, gh_ro_tu, gh_ro_le, gh_ro_lt, gh_ro_lk, gh_ro_lf, gh_ro_lo, gh_ro_wm, gh_ro_wr, gh_ro_fo, gh_ro_fi, gh_ro_hr, gh_ro_rk, gh_ro_rs, gh_ro_rr, gh_ro_hs, gh_ro_sk, gh_ro_ss, gh_ro_sr, gh_ro_fa, gh_ro_su, gh_ro_tr]
                      have e2 : g_mn T10 = g_mn T := by rw [← hT10]; simp only [gh_mn_ct, gh_mn_cu, gh_mn_cl, gh_mn_np, gh_mn_pk, gh_mn_nb, gh_mn_bt, gh_mn_ev, gh_mn_th, gh_mn_vo, gh_mn_kd, gh_mn_pn, gh_mn_pi, gh_mn_va, gh_mn_dt, gh_mn_ti, gh_mn_pl, gh_mn_mn, gh_mn_ro, gh_mn_te, gh_mn_tt, gh_mn_tv, gh_mn_tf, gh_mn_tl, gh_mn_tn, gh_mn_tm, gh_mn_tu, gh_mn_le, gh_mn_lt, gh_mn_lk, gh_mn_lf, gh_mn_lo, gh_mn_wm, gh_mn_wr, gh_mn_fo, gh_mn_fi, gh_mn_hr, gh_mn_rk, gh_mn_rs, gh_mn_rr, gh_mn_hs, gh_mn_sk, gh_mn_ss, gh_mn_sr, gh_mn_fa, gh_mn_su, gh_mn_tr]
                      have loop : ∀ (n9 : Nat) (j : Nat) (τ : ZS), j - p < n9 → p ≤ j → j ≤ g_mn T v → rR x τ (h_ro T10 (va_u2 (g_ro T) v (dnF (g_ro T v) j (g_mn T v)))) → ZV M_X12_put (fun y0 τ0 => y0 = some (Ai (sp_put T (nI v) (nI p) (nI k) q (nI a) (nI d)).1) ∧ rR x τ0 (sp_put T (nI v) (nI p) (nI k) q (nI a) (nI d)).2) 232 [some (Ar (some x)), some (Ai (nI v)), some (Ai (nI p)), some (Ai (nI k)), some (Ai q), some (Ai (nI a)), some (Ai (nI d)), some (Ai (nI (g_ev T))), some (Ai (nI j))] [] τ (zmC M_X12_put) (zmS M_X12_put) := by
                        intro n9
                        induction n9 with
                        | zero => intro j τ hm; exact absurd hm (Nat.not_lt_zero _)
                        | succ n9 ih =>
                          intro j τ hm hj1 hj2 hR9
                          refine ZV_iload (n := 234) dX12_put_232 rfl rfl ?_
                          refine ZV_iload_n (n := 235) dX12_put_234 rfl rfl rfl ?_
                          refine ZV_icmp_leN (tgt := 270) (n := 238) dX12_put_235 (by decide) rfl (by omega) (by omega) (fun h235 => ?_) (fun h235 => ?_)
                          · skip
                            obtain rfl : p = j := by omega
                            refine ZV_aload_n (n := 271) dX12_put_270 rfl rfl rfl ?_
                            refine ZV_getR (n := 274) dX12_put_271 fl_X12_42 rfl rfl rfl (rf_sh hR9 :).1 ?_
                            refine ZV_bipush (v := nI 40) (n := 276) dX12_put_274 rfl rfl ?_
                            refine ZV_iload_n (n := 277) dX12_put_276 rfl rfl rfl ?_
                            refine ZV_imulN (n := 278) dX12_put_277 rfl ?_
                            refine ZV_iload_n (n := 279) dX12_put_278 rfl rfl rfl ?_
                            refine ZV_iaddN (n := 280) dX12_put_279 rfl ?_
                            refine ZV_iload (n := 282) dX12_put_280 rfl rfl ?_
                            refine ZV_iast (n := 283) dX12_put_282 rfl (ra_row (rf_sh hR9 :) :) (rk_row (rf_sh hR9 :) :) rfl (by omega) ?_
                            refine ZV_gen (P := fun τ => rR x τ _) (rR_row (i := v) (j := p) hR9 (by omega) (by omega) _) (fun τ2 hR9 => ?_)
                            try simp only [gh_ro_ct, gh_ro_cu, gh_ro_cl, gh_ro_np, gh_ro_pk, gh_ro_nb, gh_ro_bt, gh_ro_ev, gh_ro_th, gh_ro_vo, gh_ro_kd, gh_ro_pn, gh_ro_pi, gh_ro_va, gh_ro_dt, gh_ro_ti, gh_ro_pl, gh_ro_mn, gh_ro_ro, gh_ro_te, gh_ro_tt, gh_ro_tv, gh_ro_tf, gh_ro_tl, gh_ro_tn, gh_ro_tm, gh_ro_tu, gh_ro_le, gh_ro_lt, gh_ro_lk, gh_ro_lf, gh_ro_lo, gh_ro_wm, gh_ro_wr, gh_ro_fo, gh_ro_fi, gh_ro_hr, gh_ro_rk, gh_ro_rs, gh_ro_rr, gh_ro_hs, gh_ro_sk, gh_ro_ss, gh_ro_sr, gh_ro_fa, gh_ro_su, gh_ro_tr] at hR9
                            rw [hh_ro, u2_u2] at hR9
                            refine ZV_aload_n (n := 284) dX12_put_283 rfl rfl rfl ?_
                            refine ZV_getR (n := 287) dX12_put_284 fl_X12_45 rfl rfl rfl (rf_sh hR9 :).1 ?_
                            refine ZV_iload_n (n := 288) dX12_put_287 rfl rfl rfl ?_
                            refine ZV_dup2 (n := 289) dX12_put_288 rfl rfl rfl ?_
                            refine ZV_ialdv (n := 290) dX12_put_289 rfl (ra_many (rf_sh hR9 :) :) (rk_many (rf_sh hR9 :) :) rfl (by omega) ((rf_many hR9 v (by omega)).trans (show nI (g_mn T10 v) = nI (g_mn T v) by rw [e2])) ?_
                            refine ZV_iconst (v := nI 1) (n := 291) dX12_put_290 rfl rfl ?_
                            refine ZV_iaddN (n := 292) dX12_put_291 rfl ?_
                            refine ZV_iast (n := 293) dX12_put_292 rfl (ra_many (rf_sh hR9 :) :) (rk_many (rf_sh hR9 :) :) rfl (by omega) ?_
                            refine ZV_gen (P := fun τ => rR x τ _) (rR_many (j := v) hR9 _) (fun τ3 hR9 => ?_)
                            try simp only [gh_mn_ct, gh_mn_cu, gh_mn_cl, gh_mn_np, gh_mn_pk, gh_mn_nb, gh_mn_bt, gh_mn_ev, gh_mn_th, gh_mn_vo, gh_mn_kd, gh_mn_pn, gh_mn_pi, gh_mn_va, gh_mn_dt, gh_mn_ti, gh_mn_pl, gh_mn_mn, gh_mn_ro, gh_mn_te, gh_mn_tt, gh_mn_tv, gh_mn_tf, gh_mn_tl, gh_mn_tn, gh_mn_tm, gh_mn_tu, gh_mn_le, gh_mn_lt, gh_mn_lk, gh_mn_lf, gh_mn_lo, gh_mn_wm, gh_mn_wr, gh_mn_fo, gh_mn_fi, gh_mn_hr, gh_mn_rk, gh_mn_rs, gh_mn_rr, gh_mn_hs, gh_mn_sk, gh_mn_ss, gh_mn_sr, gh_mn_fa, gh_mn_su, gh_mn_tr] at hR9
                            rw [e2] at hR9
                            refine ZV_iload (n := 295) dX12_put_293 rfl rfl ?_
                            refine ZV_iret dX12_put_295 rfl ?_
                            subst hT10
                            have h9 := rR_pl hR9 (fun f => if f = g_ev T then p else if g_th T f = true ∧ g_vo T f = v ∧ p ≤ g_pl T f then g_pl T f + 1 else g_pl T f)
                            exact zleaf (v := sOk (putT T v p k q a d) (nI (g_ev T))) (by rw [sp_put, nI_clamp hvx, nI_clamp hpx, nI_clamp hkx, nI_clamp hax, nI_clamp hdx, if_pos ⟨h9x, h25, h37, fun _ => h55, h68, h81⟩, if_neg (by rintro (q9 | q9) <;> omega)]) rfl (rR_s0 (by unfold putT inF; rw [if_pos h42]; exact h9) hsu)
                          · skip
                            refine ZV_aload_n (n := 239) dX12_put_238 rfl rfl rfl ?_
                            refine ZV_getR (n := 242) dX12_put_239 fl_X12_42 rfl rfl rfl (rf_sh hR9 :).1 ?_
                            refine ZV_bipush (v := nI 40) (n := 244) dX12_put_242 rfl rfl ?_
                            refine ZV_iload_n (n := 245) dX12_put_244 rfl rfl rfl ?_
                            refine ZV_imulN (n := 246) dX12_put_245 rfl ?_
                            refine ZV_iload (n := 248) dX12_put_246 rfl rfl ?_
                            refine ZV_iaddN (n := 249) dX12_put_248 rfl ?_
                            refine ZV_aload_n (n := 250) dX12_put_249 rfl rfl rfl ?_
                            refine ZV_getR (n := 253) dX12_put_250 fl_X12_42 rfl rfl rfl (rf_sh hR9 :).1 ?_
                            refine ZV_bipush (v := nI 40) (n := 255) dX12_put_253 rfl rfl ?_
                            refine ZV_iload_n (n := 256) dX12_put_255 rfl rfl rfl ?_
                            refine ZV_imulN (n := 257) dX12_put_256 rfl ?_
                            refine ZV_iload (n := 259) dX12_put_257 rfl rfl ?_
                            refine ZV_iaddN (n := 260) dX12_put_259 rfl ?_
                            refine ZV_iconst (v := nI 1) (n := 261) dX12_put_260 rfl rfl ?_
                            refine ZV_isubN (n := 262) dX12_put_261 rfl (by omega) ?_
                            refine ZV_ialdv (n := 263) dX12_put_262 rfl (ra_row (rf_sh hR9 :) :) (rk_row (rf_sh hR9 :) :) rfl (by omega) (Eq.trans (congrArg _ (show 40 * v + j - 1 = 40 * v + (j - 1) by omega)) ((rf_row hR9 v (j - 1) (by omega) (by omega)).trans (show nI (va_u2 _ v _ v (j - 1)) = nI (g_ro T v (j - 1)) by rw [u2_at]; unfold dnF; rw [if_neg (by omega)]))) ?_
                            refine ZV_iast (n := 264) dX12_put_263 rfl (ra_row (rf_sh hR9 :) :) (rk_row (rf_sh hR9 :) :) rfl (by omega) ?_
                            refine ZV_gen (P := fun τ => rR x τ _) (rR_row (i := v) (j := j) hR9 (by omega) (by omega) _) (fun τ2 hR9 => ?_)
                            try simp only [gh_ro_ct, gh_ro_cu, gh_ro_cl, gh_ro_np, gh_ro_pk, gh_ro_nb, gh_ro_bt, gh_ro_ev, gh_ro_th, gh_ro_vo, gh_ro_kd, gh_ro_pn, gh_ro_pi, gh_ro_va, gh_ro_dt, gh_ro_ti, gh_ro_pl, gh_ro_mn, gh_ro_ro, gh_ro_te, gh_ro_tt, gh_ro_tv, gh_ro_tf, gh_ro_tl, gh_ro_tn, gh_ro_tm, gh_ro_tu, gh_ro_le, gh_ro_lt, gh_ro_lk, gh_ro_lf, gh_ro_lo, gh_ro_wm, gh_ro_wr, gh_ro_fo, gh_ro_fi, gh_ro_hr, gh_ro_rk, gh_ro_rs, gh_ro_rr, gh_ro_hs, gh_ro_sk, gh_ro_ss, gh_ro_sr, gh_ro_fa, gh_ro_su, gh_ro_tr] at hR9
                            rw [hh_ro, u2_u2, dnF_up _ _ _ (by omega) (by omega)] at hR9
                            refine ZV_iincM_8 (n := 267) dX12_put_264 rfl rfl (Nat.le_of_ble_eq_true rfl) rfl (by omega) ?_
                            refine ZV_goto (tgt := 232) dX12_put_267 (by decide) ?_
                            exact ih (j - 1) _ (by omega) (by omega) (by omega) hR9
                      exact loop _ (g_mn T v) _ (Nat.lt_succ_self _) (by omega) (by omega) (by rw [dnF_0, u2_self, ← e1, hs_ro]; exact hR)
                  · skip
                    refine ZV_aload_n (n := 113) dX12_put_112 rfl rfl rfl ?_
                    refine ZV_bipush (v := -4) (n := 115) dX12_put_113 rfl rfl ?_
                    refine call_X12_130 (c_no hR _) rfl dX12_put_115 rfl (rf_sh hR :).1 (Nat.le_of_ble_eq_true rfl) (Nat.le_of_ble_eq_true rfl) rfl (fun r9 σ9 hp9 => ?_)
                    obtain ⟨rfl, hR⟩ := hp9
                    refine ZV_iret dX12_put_118 rfl ?_
                    exact zleaf (v := sNo T (-4)) (by rw [sp_put, nI_clamp hvx, nI_clamp hpx, nI_clamp hkx, nI_clamp hax, nI_clamp hdx, if_pos ⟨h9x, h25, h37, fun _ => h55, h68, h81⟩, if_pos (Or.inr h109)]) rfl hR
              · skip
                refine ZV_aload_n (n := 85) dX12_put_84 rfl rfl rfl ?_
                refine ZV_bipush (v := -2) (n := 87) dX12_put_85 rfl rfl ?_
                refine call_X12_130 (c_no hR _) rfl dX12_put_87 rfl (rf_sh hR :).1 (Nat.le_of_ble_eq_true rfl) (Nat.le_of_ble_eq_true rfl) rfl (fun r9 σ9 hp9 => ?_)
                obtain ⟨rfl, hR⟩ := hp9
                refine ZV_iret dX12_put_90 rfl ?_
                exact zleaf (v := sNo T (-2)) (by simp [sp_put, h9x, h25, h37, h42, h55, h68, h81, nI_clamp hvx, nI_clamp hpx, nI_clamp hkx]) rfl hR
