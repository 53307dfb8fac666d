def sNo (T : TS) (c : Int32) : Int32 × TS := (c, h_su T c)
def sFl (T : TS) (i : Nat) (c r : Int32) : Int32 × TS := (r, h_su (h_fa T (va_up (g_fa T) i (g_fa T i + 1))) c)
def sOk (T : TS) (r : Int32) : Int32 × TS := (r, h_su T 0)
def sp_part (T : TS) (k : Int32) : Int32 × TS := if inB k 6 = false then sNo T (-2) else if g_np T = 6 then sNo T (-4) else sOk (h_np (h_pk T (va_up (g_pk T) (g_np T) k.toNatClampNeg)) (g_np T + 1)) (nI (g_np T))
theorem zleaf {x : Nat} {τ : ZS} {s v : Int32 × TS} {r : Int32} (e : s = v) (h1 : r = v.1) (h2 : rR x τ v.2) : some (Ai r) = some (Ai s.1) ∧ rR x τ s.2 := by
  subst e
  exact ⟨by rw [h1], h2⟩
theorem zleafL {x : Nat} {τ : ZS} {s v : Int64 × TS} {r : Int64} (e : s = v) (h1 : r = v.1) (h2 : rR x τ v.2) : some (Al r) = some (Al s.1) ∧ rR x τ s.2 := by
  subst e
  exact ⟨by rw [h1], h2⟩
set_option maxHeartbeats 4000000 in
set_option maxRecDepth 100000 in
theorem c_part {x : Nat} {σ : ZS} {T : TS} (hR : rR x σ T) (hI : tI T) (k : Int32) : ZC M_X12_part [Ar (some x), Ai k] σ (fun y0 τ0 => y0 = some (Ai (sp_part T k).1) ∧ rR x τ0 (sp_part T k).2) := by
  have hsp : sp_part T k = sp_part (h_su T 0) k := rfl
  rw [hsp]
  clear hsp
  refine ZC_of (ls := [some (Ar (some x)), some (Ai k)]) (by decide) (Nat.le_of_ble_eq_true rfl) rfl ?_
  refine ZV_aload_n (n := 1) dX12_part_0 rfl rfl rfl ?_
  refine call_X12_144 (c_begin hR) rfl dX12_part_1 rfl (rf_sh hR :).1 (Nat.le_of_ble_eq_true rfl) (Nat.le_of_ble_eq_true rfl) rfl (fun r9 σ9 hp9 => ?_)
  obtain ⟨rfl, hR⟩ := hp9
  have hI := tI_su hI 0
  have hsu : g_su (h_su T 0) = 0 := rfl
  generalize h_su T 0 = T at hR hI hsu ⊢
  have hnp := ti_np hI
  refine ZV_iload_n (n := 5) dX12_part_4 rfl rfl rfl ?_
  refine ZV_i2l (n := 6) dX12_part_5 rfl ?_
  refine ZV_lconst (v := lN 0) (n := 7) dX12_part_6 rfl rfl ?_
  refine ZV_ldc2 (v := lN 5) (n := 10) dX12_part_7 wd_5_84 rfl ?_
  refine call_X12_137 (c_inC _ k (by decide)) rfl dX12_part_10 (Nat.le_of_ble_eq_true rfl) (Nat.le_of_ble_eq_true rfl) rfl (fun r9 σ9 hp9 => ?_)
  obtain ⟨rfl, rfl⟩ := hp9
  refine ZV_if_neB (tgt := 23) (n := 16) dX12_part_13 (by decide) rfl (fun h13 => ?_) (fun h13 => ?_)
  · skip
    refine ZV_aload_n (n := 24) dX12_part_23 rfl rfl rfl ?_
    refine ZV_getIv (n := 27) dX12_part_24 fl_X12_134 rfl rfl rfl (rf_sh hR :).1 (rf_parts hR :) ?_
    refine ZV_bipush (v := nI 6) (n := 29) dX12_part_27 rfl rfl ?_
    refine ZV_icmp_neN (tgt := 39) (n := 32) dX12_part_29 (by decide) rfl (by omega) (by omega) (fun h29 => ?_) (fun h29 => ?_)
    · skip
      obtain ⟨j, hj, hj2, rfl⟩ := inB_t h13
      refine ZV_aload_n (n := 40) dX12_part_39 rfl rfl rfl ?_
      refine ZV_getR (n := 43) dX12_part_40 fl_X12_7 rfl rfl rfl (rf_sh hR :).1 ?_
      refine ZV_aload_n (n := 44) dX12_part_43 rfl rfl rfl ?_
      refine ZV_getIv (n := 47) dX12_part_44 fl_X12_134 rfl rfl rfl (rf_sh hR :).1 (rf_parts hR :) ?_
      refine ZV_iload_n (n := 48) dX12_part_47 rfl rfl rfl ?_
      refine ZV_iast (n := 49) dX12_part_48 rfl (ra_partKind (rf_sh hR :) :) (rk_partKind (rf_sh hR :) :) rfl (by omega) ?_
      refine ZV_gen (P := fun τ => rR x τ _) (rR_partKind hR _) (fun σ hR => ?_)
      refine ZV_aload_n (n := 50) dX12_part_49 rfl rfl rfl ?_
      refine ZV_dup (n := 51) dX12_part_50 rfl rfl ?_
      refine ZV_getIv (n := 54) dX12_part_51 fl_X12_134 rfl rfl rfl (rf_sh hR :).1 (Eq.trans ((rf_parts hR :) :) (show _ = nI (g_np T) by first | simp only [gh_np_ct, gh_np_cu, gh_np_cl, gh_np_np, gh_np_pk, gh_np_nb, gh_np_bt, gh_np_ev, gh_np_th, gh_np_vo, gh_np_kd, gh_np_pn, gh_np_pi, gh_np_va, gh_np_dt, gh_np_ti, gh_np_pl, gh_np_mn, gh_np_ro, gh_np_te, gh_np_tt, gh_np_tv, gh_np_tf, gh_np_tl, gh_np_tn, gh_np_tm, gh_np_tu, gh_np_le, gh_np_lt, gh_np_lk, gh_np_lf, gh_np_lo, gh_np_wm, gh_np_wr, gh_np_fo, gh_np_fi, gh_np_hr, gh_np_rk, gh_np_rs, gh_np_rr, gh_np_hs, gh_np_sk, gh_np_ss, gh_np_sr, gh_np_fa, gh_np_su, gh_np_tr] | rfl)) ?_
      refine ZV_iconst (v := nI 1) (n := 55) dX12_part_54 rfl rfl ?_
      refine ZV_iaddN (n := 56) dX12_part_55 rfl ?_
      refine ZV_putI (n := 59) dX12_part_56 fl_X12_134 rfl (Or.inl rfl) rfl (fun h => absurd h (by decide)) rfl (rf_sh hR :).1 ?_
      refine ZV_gen (P := fun τ => rR x τ _) (rR_parts hR _) (fun σ hR => ?_)
      refine ZV_aload_n (n := 60) dX12_part_59 rfl rfl rfl ?_
      refine ZV_getIv (n := 63) dX12_part_60 fl_X12_134 rfl rfl rfl (rf_sh hR :).1 (Eq.trans ((rf_parts hR :) :) (show _ = nI (g_np T + 1) by first | simp only [gh_np_ct, gh_np_cu, gh_np_cl, gh_np_np, gh_np_pk, gh_np_nb, gh_np_bt, gh_np_ev, gh_np_th, gh_np_vo, gh_np_kd, gh_np_pn, gh_np_pi, gh_np_va, gh_np_dt, gh_np_ti, gh_np_pl, gh_np_mn, gh_np_ro, gh_np_te, gh_np_tt, gh_np_tv, gh_np_tf, gh_np_tl, gh_np_tn, gh_np_tm, gh_np_tu, gh_np_le, gh_np_lt, gh_np_lk, gh_np_lf, gh_np_lo, gh_np_wm, gh_np_wr, gh_np_fo, gh_np_fi, gh_np_hr, gh_np_rk, gh_np_rs, gh_np_rr, gh_np_hs, gh_np_sk, gh_np_ss, gh_np_sr, gh_np_fa, gh_np_su, gh_np_tr] | rfl)) ?_
      refine ZV_iconst (v := nI 1) (n := 64) dX12_part_63 rfl rfl ?_
      refine ZV_isubN (n := 65) dX12_part_64 rfl (by omega) ?_
      refine ZV_iret dX12_part_65 rfl ?_
      exact zleaf (v := sOk (h_np (h_pk T (va_up (g_pk T) (g_np T) j)) (g_np T + 1)) (nI (g_np T))) (by simp [sp_part, h13, h29, nI_clamp hj2]) (by simp [sOk]) (rR_s0 hR hsu)
    · skip
      refine ZV_aload_n (n := 33) dX12_part_32 rfl rfl rfl ?_
      refine ZV_bipush (v := -4) (n := 35) dX12_part_33 rfl rfl ?_
      refine call_X12_130 (c_no hR _) rfl dX12_part_35 rfl (rf_sh hR :).1 (Nat.le_of_ble_eq_true rfl) (Nat.le_of_ble_eq_true rfl) rfl (fun r9 σ9 hp9 => ?_)
      obtain ⟨rfl, hR⟩ := hp9
      refine ZV_iret dX12_part_38 rfl ?_
      exact zleaf (v := sNo T (-4)) (by simp [sp_part, h13, h29]) rfl hR
  · skip
    refine ZV_aload_n (n := 17) dX12_part_16 rfl rfl rfl ?_
    refine ZV_bipush (v := -2) (n := 19) dX12_part_17 rfl rfl ?_
    refine call_X12_130 (c_no hR _) rfl dX12_part_19 rfl (rf_sh hR :).1 (Nat.le_of_ble_eq_true rfl) (Nat.le_of_ble_eq_true rfl) rfl (fun r9 σ9 hp9 => ?_)
    obtain ⟨rfl, hR⟩ := hp9
    refine ZV_iret dX12_part_22 rfl ?_
    exact zleaf (v := sNo T (-2)) (by simp [sp_part, h13]) rfl hR
def sp_pitch (T : TS) (e i : Int32) : Int32 × TS := if evB T e = false then sNo T (-2) else if noB T e.toNatClampNeg = false then sFl T 2 (-13) (-13) else sOk T (if inB i (g_pn T e.toNatClampNeg) = true then g_pi T e.toNatClampNeg i.toNatClampNeg else -1)
def sp_event (T : TS) (v p : Int32) : Int32 × TS := if inB v (3 * g_np T) = false then sNo T (-2) else sOk T (if inB p (g_mn T v.toNatClampNeg) = true then nI (g_ro T v.toNatClampNeg p.toNatClampNeg) else -1)
set_option maxHeartbeats 4000000 in
set_option maxRecDepth 100000 in
theorem c_pitch {x : Nat} {σ : ZS} {T : TS} (hR : rR x σ T) (hI : tI T) (e i : Int32) : ZC M_X12_pitch [Ar (some x), Ai e, Ai i] σ (fun y0 τ0 => y0 = some (Ai (sp_pitch T e i).1) ∧ rR x τ0 (sp_pitch T e i).2) := by
  have hsp : sp_pitch T e i = sp_pitch (h_su T 0) e i := rfl
  rw [hsp]
  clear hsp
  refine ZC_of (ls := [some (Ar (some x)), some (Ai e), some (Ai i)]) (by decide) (Nat.le_of_ble_eq_true rfl) rfl ?_
  refine ZV_aload_n (n := 1) dX12_pitch_0 rfl rfl rfl ?_
  refine call_X12_144 (c_begin hR) rfl dX12_pitch_1 rfl (rf_sh hR :).1 (Nat.le_of_ble_eq_true rfl) (Nat.le_of_ble_eq_true rfl) rfl (fun r9 σ9 hp9 => ?_)
  obtain ⟨rfl, hR⟩ := hp9
  have hI := tI_su hI 0
  have hsu : g_su (h_su T 0) = 0 := rfl
  generalize h_su T 0 = T at hR hI hsu ⊢
  have hev := ti_ev hI
  refine ZV_aload_n (n := 5) dX12_pitch_4 rfl rfl rfl ?_
  refine ZV_iload_n (n := 6) dX12_pitch_5 rfl rfl rfl ?_
  refine call_X12_193 (c_isEvent hR hI _) rfl dX12_pitch_6 rfl (rf_sh hR :).1 (Nat.le_of_ble_eq_true rfl) (Nat.le_of_ble_eq_true rfl) rfl (fun r9 σ9 hp9 => ?_)
  obtain ⟨rfl, rfl⟩ := hp9
  refine ZV_if_neB (tgt := 19) (n := 12) dX12_pitch_9 (by decide) rfl (fun h9 => ?_) (fun h9 => ?_)
  · skip
    obtain ⟨j, hj, hjt, rfl⟩ := evB_t hI h9
    have hjx : j < 2147483648 := by omega
    have hpn := ti_pn hI j
    refine ZV_aload_n (n := 20) dX12_pitch_19 rfl rfl rfl ?_
    refine ZV_iload_n (n := 21) dX12_pitch_20 rfl rfl rfl ?_
    refine call_X12_214 (c_isNote hR hI _ (by omega)) rfl dX12_pitch_21 rfl (rf_sh hR :).1 (Nat.le_of_ble_eq_true rfl) (Nat.le_of_ble_eq_true rfl) rfl (fun r9 σ9 hp9 => ?_)
    obtain ⟨rfl, rfl⟩ := hp9
    refine ZV_if_neB (tgt := 34) (n := 27) dX12_pitch_24 (by decide) rfl (fun h24 => ?_) (fun h24 => ?_)
    · skip
      refine ZV_iload_n (n := 35) dX12_pitch_34 rfl rfl rfl ?_
      refine ZV_i2l (n := 36) dX12_pitch_35 rfl ?_
      refine ZV_lconst (v := lN 0) (n := 37) dX12_pitch_36 rfl rfl ?_
      refine ZV_aload_n (n := 38) dX12_pitch_37 rfl rfl rfl ?_
      refine ZV_getR (n := 41) dX12_pitch_38 fl_X12_27 rfl rfl rfl (rf_sh hR :).1 ?_
      refine ZV_iload_n (n := 42) dX12_pitch_41 rfl rfl rfl ?_
      refine ZV_ialdv (n := 43) dX12_pitch_42 rfl (ra_pitches (rf_sh hR :) :) (rk_pitches (rf_sh hR :) :) rfl (by omega) (rf_pitches hR _ (by omega)) ?_
      refine ZV_iconst (v := nI 1) (n := 44) dX12_pitch_43 rfl rfl ?_
      refine ZV_isub (n := 45) dX12_pitch_44 rfl ?_
      refine ZV_i2l (n := 46) dX12_pitch_45 rfl ?_
      refine call_X12_137 (c_inS _ i (by omega)) rfl dX12_pitch_46 (Nat.le_of_ble_eq_true rfl) (Nat.le_of_ble_eq_true rfl) rfl (fun r9 σ9 hp9 => ?_)
      obtain ⟨rfl, rfl⟩ := hp9
      refine ZV_if_eqB (tgt := 66) (n := 52) dX12_pitch_49 (by decide) rfl (fun h49 => ?_) (fun h49 => ?_)
      · skip
        refine ZV_iconst (v := -1) (n := 67) dX12_pitch_66 rfl rfl ?_
        refine ZV_iret dX12_pitch_67 rfl ?_
        exact zleaf (v := sOk T (-1)) (by simp [sp_pitch, h9, h24, h49, nI_clamp hjx]) rfl (rR_s0 hR hsu)
      · skip
        obtain ⟨q, hq, hq2, rfl⟩ := inB_t h49
        refine ZV_aload_n (n := 53) dX12_pitch_52 rfl rfl rfl ?_
        refine ZV_getR (n := 56) dX12_pitch_53 fl_X12_30 rfl rfl rfl (rf_sh hR :).1 ?_
        refine ZV_bipush (v := nI 6) (n := 58) dX12_pitch_56 rfl rfl ?_
        refine ZV_iload_n (n := 59) dX12_pitch_58 rfl rfl rfl ?_
        refine ZV_imulN (n := 60) dX12_pitch_59 rfl ?_
        refine ZV_iload_n (n := 61) dX12_pitch_60 rfl rfl rfl ?_
        refine ZV_iaddN (n := 62) dX12_pitch_61 rfl ?_
        refine ZV_ialdv (n := 63) dX12_pitch_62 rfl (ra_pitchOf (rf_sh hR :) :) (rk_pitchOf (rf_sh hR :) :) rfl (by omega) (rf_pitchOf hR _ _ (by omega) (by omega)) ?_
        refine ZV_goto (tgt := 67) dX12_pitch_63 (by decide) ?_
        refine ZV_iret dX12_pitch_67 rfl ?_
        exact zleaf (v := sOk T (g_pi T j q)) (by simp [sp_pitch, h9, h24, h49, nI_clamp hjx, nI_clamp hq2]) rfl (rR_s0 hR hsu)
    · skip
      refine ZV_aload_n (n := 28) dX12_pitch_27 rfl rfl rfl ?_
      refine ZV_bipush (v := -13) (n := 30) dX12_pitch_28 rfl rfl ?_
      refine call_X12_211 (c_fails hR (-13) 2 (by decide) rfl) rfl dX12_pitch_30 rfl (rf_sh hR :).1 (Nat.le_of_ble_eq_true rfl) (Nat.le_of_ble_eq_true rfl) rfl (fun r9 σ9 hp9 => ?_)
      obtain ⟨rfl, hR⟩ := hp9
      refine ZV_iret dX12_pitch_33 rfl ?_
      exact zleaf (v := sFl T 2 (-13) (-13)) (by simp [sp_pitch, h9, h24, nI_clamp hjx]) rfl hR
  · skip
    refine ZV_aload_n (n := 13) dX12_pitch_12 rfl rfl rfl ?_
    refine ZV_bipush (v := -2) (n := 15) dX12_pitch_13 rfl rfl ?_
    refine call_X12_130 (c_no hR _) rfl dX12_pitch_15 rfl (rf_sh hR :).1 (Nat.le_of_ble_eq_true rfl) (Nat.le_of_ble_eq_true rfl) rfl (fun r9 σ9 hp9 => ?_)
    obtain ⟨rfl, hR⟩ := hp9
    refine ZV_iret dX12_pitch_18 rfl ?_
    exact zleaf (v := sNo T (-2)) (by simp [sp_pitch, h9]) rfl hR
set_option maxHeartbeats 4000000 in
set_option maxRecDepth 100000 in
theorem c_event {x : Nat} {σ : ZS} {T : TS} (hR : rR x σ T) (hI : tI T) (v p : Int32) : ZC M_X12_event [Ar (some x), Ai v, Ai p] σ (fun y0 τ0 => y0 = some (Ai (sp_event T v p).1) ∧ rR x τ0 (sp_event T v p).2) := by
  have hsp : sp_event T v p = sp_event (h_su T 0) v p := rfl
  rw [hsp]
  clear hsp
  refine ZC_of (ls := [some (Ar (some x)), some (Ai v), some (Ai p)]) (by decide) (Nat.le_of_ble_eq_true rfl) rfl ?_
  refine ZV_aload_n (n := 1) dX12_event_0 rfl rfl rfl ?_
  refine call_X12_144 (c_begin hR) rfl dX12_event_1 rfl (rf_sh hR :).1 (Nat.le_of_ble_eq_true rfl) (Nat.le_of_ble_eq_true rfl) rfl (fun r9 σ9 hp9 => ?_)
  obtain ⟨rfl, hR⟩ := hp9
  have hI := tI_su hI 0
  have hsu : g_su (h_su T 0) = 0 := rfl
  generalize h_su T 0 = T at hR hI hsu ⊢
  have hnp := ti_np hI
  refine ZV_aload_n (n := 5) dX12_event_4 rfl rfl rfl ?_
  refine ZV_iload_n (n := 6) dX12_event_5 rfl rfl rfl ?_
  refine call_X12_184 (c_isVoice hR hI _) rfl dX12_event_6 rfl (rf_sh hR :).1 (Nat.le_of_ble_eq_true rfl) (Nat.le_of_ble_eq_true rfl) rfl (fun r9 σ9 hp9 => ?_)
  obtain ⟨rfl, rfl⟩ := hp9
  refine ZV_if_neB (tgt := 19) (n := 12) dX12_event_9 (by decide) rfl (fun h9 => ?_) (fun h9 => ?_)
  · skip
    obtain ⟨j, hj, hjx, rfl⟩ := inB_t h9
    have hmn := ti_mn hI j
    refine ZV_iload_n (n := 20) dX12_event_19 rfl rfl rfl ?_
    refine ZV_i2l (n := 21) dX12_event_20 rfl ?_
    refine ZV_lconst (v := lN 0) (n := 22) dX12_event_21 rfl rfl ?_
    refine ZV_aload_n (n := 23) dX12_event_22 rfl rfl rfl ?_
    refine ZV_getR (n := 26) dX12_event_23 fl_X12_45 rfl rfl rfl (rf_sh hR :).1 ?_
    refine ZV_iload_n (n := 27) dX12_event_26 rfl rfl rfl ?_
    refine ZV_ialdv (n := 28) dX12_event_27 rfl (ra_many (rf_sh hR :) :) (rk_many (rf_sh hR :) :) rfl (by omega) (rf_many hR _ (by omega)) ?_
    refine ZV_iconst (v := nI 1) (n := 29) dX12_event_28 rfl rfl ?_
    refine ZV_isub (n := 30) dX12_event_29 rfl ?_
    refine ZV_i2l (n := 31) dX12_event_30 rfl ?_
    refine call_X12_137 (c_inS _ p (by omega)) rfl dX12_event_31 (Nat.le_of_ble_eq_true rfl) (Nat.le_of_ble_eq_true rfl) rfl (fun r9 σ9 hp9 => ?_)
    obtain ⟨rfl, rfl⟩ := hp9
    refine ZV_if_eqB (tgt := 51) (n := 37) dX12_event_34 (by decide) rfl (fun h34 => ?_) (fun h34 => ?_)
    · skip
      refine ZV_iconst (v := -1) (n := 52) dX12_event_51 rfl rfl ?_
      refine ZV_iret dX12_event_52 rfl ?_
      exact zleaf (v := sOk T (-1)) (by simp [sp_event, h9, h34, nI_clamp hjx]) rfl (rR_s0 hR hsu)
    · skip
      obtain ⟨q, hq, hq2, rfl⟩ := inB_t h34
      refine ZV_aload_n (n := 38) dX12_event_37 rfl rfl rfl ?_
      refine ZV_getR (n := 41) dX12_event_38 fl_X12_42 rfl rfl rfl (rf_sh hR :).1 ?_
      refine ZV_bipush (v := nI 40) (n := 43) dX12_event_41 rfl rfl ?_
      refine ZV_iload_n (n := 44) dX12_event_43 rfl rfl rfl ?_
      refine ZV_imulN (n := 45) dX12_event_44 rfl ?_
      refine ZV_iload_n (n := 46) dX12_event_45 rfl rfl rfl ?_
      refine ZV_iaddN (n := 47) dX12_event_46 rfl ?_
      refine ZV_ialdv (n := 48) dX12_event_47 rfl (ra_row (rf_sh hR :) :) (rk_row (rf_sh hR :) :) rfl (by omega) (rf_row hR _ _ (by omega) (by omega)) ?_
      refine ZV_goto (tgt := 52) dX12_event_48 (by decide) ?_
      refine ZV_iret dX12_event_52 rfl ?_
      exact zleaf (v := sOk T (nI (g_ro T j q))) (by simp [sp_event, h9, h34, nI_clamp hjx, nI_clamp hq2]) rfl (rR_s0 hR hsu)
  · skip
    refine ZV_aload_n (n := 13) dX12_event_12 rfl rfl rfl ?_
    refine ZV_bipush (v := -2) (n := 15) dX12_event_13 rfl rfl ?_
    refine call_X12_130 (c_no hR _) rfl dX12_event_15 rfl (rf_sh hR :).1 (Nat.le_of_ble_eq_true rfl) (Nat.le_of_ble_eq_true rfl) rfl (fun r9 σ9 hp9 => ?_)
    obtain ⟨rfl, hR⟩ := hp9
    refine ZV_iret dX12_event_18 rfl ?_
    exact zleaf (v := sNo T (-2)) (by simp [sp_event, h9]) rfl hR
theorem zne_toInt {x : Int32} {v : Nat} (h : ¬ x = nI v) (hv : v < 2147483648) : x.toInt ≠ (v : Int) := by
  intro z
  apply h
  apply Int32.toInt_inj.mp
  rw [z, nI_toInt hv]
def sp_tie (T : TS) (e : Int32) (b : Bool) : Int32 × TS := if evB T e = false then sNo T (-2) else if noB T e.toNatClampNeg = false then sFl T 2 (-13) (-13) else sOk (h_ti T (va_up (g_ti T) e.toNatClampNeg b)) (bI (g_ti T e.toNatClampNeg))
def sp_value (T : TS) (e v d : Int32) : Int32 × TS := if (evB T e && inB v 6 && inB d 3) = false then sNo T (-2) else sOk (h_dt (h_va T (va_up (g_va T) e.toNatClampNeg v.toNatClampNeg)) (va_up (g_dt T) e.toNatClampNeg d.toNatClampNeg)) 1
def sp_failures (T : TS) (k : Int32) : Int32 := if inB k 5 = true then g_fa T k.toNatClampNeg else -2
def sp_count (T : TS) (w : Int32) : Int32 := if w = nI 0 then nI (g_np T) else if w = nI 1 then nI (g_nb T) else if w = nI 2 then nI (g_ct T) else if w = nI 3 then nI (g_ev T) else if w = nI 4 then nI (g_cu T) else if w = nI 5 then nI (g_cl T) else if w = nI 6 then nI (g_fo T) else -2
def sp_walked (T : TS) (i : Int32) : Int32 × TS := sOk T (if inB i (g_wm T) = true then nI (g_wr T i.toNatClampNeg) else -1)
def sp_finding (T : TS) (i w : Int32) : Int32 × TS := if inB w 3 = false then sNo T (-2) else sOk T (if inB i (if g_fo T < 100 then g_fo T else 100) = true then g_fi T (3 * i.toNatClampNeg + w.toNatClampNeg) else -1)
set_option maxHeartbeats 4000000 in
set_option maxRecDepth 100000 in
theorem c_tie {x : Nat} {σ : ZS} {T : TS} (hR : rR x σ T) (hI : tI T) (e : Int32) (b : Bool) : ZC M_X12_tie [Ar (some x), Ai e, Ai (bI b)] σ (fun y0 τ0 => y0 = some (Ai (sp_tie T e b).1) ∧ rR x τ0 (sp_tie T e b).2) := by
  have hsp : sp_tie T e b = sp_tie (h_su T 0) e b := rfl
  rw [hsp]
  clear hsp
  refine ZC_of (ls := [some (Ar (some x)), some (Ai e), some (Ai (bI b)), none]) (by decide) (Nat.le_of_ble_eq_true rfl) rfl ?_
  refine ZV_aload_n (n := 1) dX12_tie_0 rfl rfl rfl ?_
  refine call_X12_144 (c_begin hR) rfl dX12_tie_1 rfl (rf_sh hR :).1 (Nat.le_of_ble_eq_true rfl) (Nat.le_of_ble_eq_true rfl) rfl (fun r9 σ9 hp9 => ?_)
  obtain ⟨rfl, hR⟩ := hp9
  have hI := tI_su hI 0
  have hsu : g_su (h_su T 0) = 0 := rfl
  generalize h_su T 0 = T at hR hI hsu ⊢
  have hev := ti_ev hI
  refine ZV_aload_n (n := 5) dX12_tie_4 rfl rfl rfl ?_
  refine ZV_iload_n (n := 6) dX12_tie_5 rfl rfl rfl ?_
  refine call_X12_193 (c_isEvent hR hI _) rfl dX12_tie_6 rfl (rf_sh hR :).1 (Nat.le_of_ble_eq_true rfl) (Nat.le_of_ble_eq_true rfl) rfl (fun r9 σ9 hp9 => ?_)
  obtain ⟨rfl, rfl⟩ := hp9
  refine ZV_if_neB (tgt := 19) (n := 12) dX12_tie_9 (by decide) rfl (fun h9 => ?_) (fun h9 => ?_)
  · skip
    obtain ⟨j, hj, hjt, rfl⟩ := evB_t hI h9
    have hjx : j < 2147483648 := by omega
    refine ZV_aload_n (n := 20) dX12_tie_19 rfl rfl rfl ?_
    refine ZV_iload_n (n := 21) dX12_tie_20 rfl rfl rfl ?_
    refine call_X12_214 (c_isNote hR hI _ (by omega)) rfl dX12_tie_21 rfl (rf_sh hR :).1 (Nat.le_of_ble_eq_true rfl) (Nat.le_of_ble_eq_true rfl) rfl (fun r9 σ9 hp9 => ?_)
    obtain ⟨rfl, rfl⟩ := hp9
    refine ZV_if_neB (tgt := 34) (n := 27) dX12_tie_24 (by decide) rfl (fun h24 => ?_) (fun h24 => ?_)
    · skip
      refine ZV_aload_n (n := 35) dX12_tie_34 rfl rfl rfl ?_
      refine ZV_getR (n := 38) dX12_tie_35 fl_X12_39 rfl rfl rfl (rf_sh hR :).1 ?_
      refine ZV_iload_n (n := 39) dX12_tie_38 rfl rfl rfl ?_
      refine ZV_baldv (n := 40) dX12_tie_39 rfl (ra_isTied (rf_sh hR :) :) (rk_isTied (rf_sh hR :) :) rfl (by omega) (rf_isTied hR _ (by omega)) ?_
      refine ZV_if_eqB (tgt := 47) (n := 43) dX12_tie_40 (by decide) rfl (fun h40 => ?_) (fun h40 => ?_)
      · skip
        refine ZV_iconst (v := nI 0) (n := 48) dX12_tie_47 rfl rfl ?_
        refine ZV_istore_3 (n := 49) dX12_tie_48 rfl (Nat.le_of_ble_eq_true rfl) rfl ?_
        refine ZV_aload_n (n := 50) dX12_tie_49 rfl rfl rfl ?_
        refine ZV_getR (n := 53) dX12_tie_50 fl_X12_39 rfl rfl rfl (rf_sh hR :).1 ?_
        refine ZV_iload_n (n := 54) dX12_tie_53 rfl rfl rfl ?_
        refine ZV_iload_n (n := 55) dX12_tie_54 rfl rfl rfl ?_
        refine ZV_bast (n := 56) dX12_tie_55 rfl (bI_01 _) (ra_isTied (rf_sh hR :) :) (rk_isTied (rf_sh hR :) :) rfl (by omega) ?_
        refine ZV_gen (P := fun τ => rR x τ _) (rR_isTied hR _) (fun σ hR => ?_)
        refine ZV_iload_n (n := 57) dX12_tie_56 rfl rfl rfl ?_
        refine ZV_iret dX12_tie_57 rfl ?_
        exact zleaf (v := sOk (h_ti T (va_up (g_ti T) j b)) (bI (g_ti T j))) (by simp [sp_tie, h9, h24, h40, nI_clamp hjx]) (by simp [sOk, h40, bI]; rfl) (rR_s0 hR hsu)
      · skip
        refine ZV_iconst (v := nI 1) (n := 44) dX12_tie_43 rfl rfl ?_
        refine ZV_goto (tgt := 48) dX12_tie_44 (by decide) ?_
        refine ZV_istore_3 (n := 49) dX12_tie_48 rfl (Nat.le_of_ble_eq_true rfl) rfl ?_
        refine ZV_aload_n (n := 50) dX12_tie_49 rfl rfl rfl ?_
        refine ZV_getR (n := 53) dX12_tie_50 fl_X12_39 rfl rfl rfl (rf_sh hR :).1 ?_
        refine ZV_iload_n (n := 54) dX12_tie_53 rfl rfl rfl ?_
        refine ZV_iload_n (n := 55) dX12_tie_54 rfl rfl rfl ?_
        refine ZV_bast (n := 56) dX12_tie_55 rfl (bI_01 _) (ra_isTied (rf_sh hR :) :) (rk_isTied (rf_sh hR :) :) rfl (by omega) ?_
        refine ZV_gen (P := fun τ => rR x τ _) (rR_isTied hR _) (fun σ hR => ?_)
        refine ZV_iload_n (n := 57) dX12_tie_56 rfl rfl rfl ?_
        refine ZV_iret dX12_tie_57 rfl ?_
        exact zleaf (v := sOk (h_ti T (va_up (g_ti T) j b)) (bI (g_ti T j))) (by simp [sp_tie, h9, h24, h40, nI_clamp hjx]) (by simp [sOk, h40, bI]; rfl) (rR_s0 hR hsu)
    · skip
      refine ZV_aload_n (n := 28) dX12_tie_27 rfl rfl rfl ?_
      refine ZV_bipush (v := -13) (n := 30) dX12_tie_28 rfl rfl ?_
      refine call_X12_211 (c_fails hR (-13) 2 (by decide) rfl) rfl dX12_tie_30 rfl (rf_sh hR :).1 (Nat.le_of_ble_eq_true rfl) (Nat.le_of_ble_eq_true rfl) rfl (fun r9 σ9 hp9 => ?_)
      obtain ⟨rfl, hR⟩ := hp9
      refine ZV_iret dX12_tie_33 rfl ?_
      exact zleaf (v := sFl T 2 (-13) (-13)) (by simp [sp_tie, h9, h24, nI_clamp hjx]) rfl hR
  · skip
    refine ZV_aload_n (n := 13) dX12_tie_12 rfl rfl rfl ?_
    refine ZV_bipush (v := -2) (n := 15) dX12_tie_13 rfl rfl ?_
    refine call_X12_130 (c_no hR _) rfl dX12_tie_15 rfl (rf_sh hR :).1 (Nat.le_of_ble_eq_true rfl) (Nat.le_of_ble_eq_true rfl) rfl (fun r9 σ9 hp9 => ?_)
    obtain ⟨rfl, hR⟩ := hp9
    refine ZV_iret dX12_tie_18 rfl ?_
    exact zleaf (v := sNo T (-2)) (by simp [sp_tie, h9]) rfl hR
set_option maxHeartbeats 4000000 in
set_option maxRecDepth 100000 in
theorem c_value {x : Nat} {σ : ZS} {T : TS} (hR : rR x σ T) (hI : tI T) (e v d : Int32) : ZC M_X12_value [Ar (some x), Ai e, Ai v, Ai d] σ (fun y0 τ0 => y0 = some (Ai (sp_value T e v d).1) ∧ rR x τ0 (sp_value T e v d).2) := by
  have hsp : sp_value T e v d = sp_value (h_su T 0) e v d := rfl
  rw [hsp]
  clear hsp
  refine ZC_of (ls := [some (Ar (some x)), some (Ai e), some (Ai v), some (Ai d)]) (by decide) (Nat.le_of_ble_eq_true rfl) rfl ?_
  refine ZV_aload_n (n := 1) dX12_value_0 rfl rfl rfl ?_
  refine call_X12_144 (c_begin hR) rfl dX12_value_1 rfl (rf_sh hR :).1 (Nat.le_of_ble_eq_true rfl) (Nat.le_of_ble_eq_true rfl) rfl (fun r9 σ9 hp9 => ?_)
  obtain ⟨rfl, hR⟩ := hp9
  have hI := tI_su hI 0
  have hsu : g_su (h_su T 0) = 0 := rfl
  generalize h_su T 0 = T at hR hI hsu ⊢
  have hev := ti_ev hI
  refine ZV_aload_n (n := 5) dX12_value_4 rfl rfl rfl ?_
  refine ZV_iload_n (n := 6) dX12_value_5 rfl rfl rfl ?_
  refine call_X12_193 (c_isEvent hR hI _) rfl dX12_value_6 rfl (rf_sh hR :).1 (Nat.le_of_ble_eq_true rfl) (Nat.le_of_ble_eq_true rfl) rfl (fun r9 σ9 hp9 => ?_)
  obtain ⟨rfl, rfl⟩ := hp9
  refine ZV_if_eqB (tgt := 36) (n := 12) dX12_value_9 (by decide) rfl (fun h9 => ?_) (fun h9 => ?_)
  · skip
    refine ZV_aload_n (n := 37) dX12_value_36 rfl rfl rfl ?_
    refine ZV_bipush (v := -2) (n := 39) dX12_value_37 rfl rfl ?_
    refine call_X12_130 (c_no hR _) rfl dX12_value_39 rfl (rf_sh hR :).1 (Nat.le_of_ble_eq_true rfl) (Nat.le_of_ble_eq_true rfl) rfl (fun r9 σ9 hp9 => ?_)
    obtain ⟨rfl, hR⟩ := hp9
    refine ZV_iret dX12_value_42 rfl ?_
    exact zleaf (v := sNo T (-2)) (by simp [sp_value, h9]) rfl hR
  · skip
    refine ZV_iload_n (n := 13) dX12_value_12 rfl rfl rfl ?_
    refine ZV_i2l (n := 14) dX12_value_13 rfl ?_
    refine ZV_lconst (v := lN 0) (n := 15) dX12_value_14 rfl rfl ?_
    refine ZV_ldc2 (v := lN 5) (n := 18) dX12_value_15 wd_5_84 rfl ?_
    refine call_X12_137 (c_inC _ v (by decide)) rfl dX12_value_18 (Nat.le_of_ble_eq_true rfl) (Nat.le_of_ble_eq_true rfl) rfl (fun r9 σ9 hp9 => ?_)
    obtain ⟨rfl, rfl⟩ := hp9
    refine ZV_if_eqB (tgt := 36) (n := 24) dX12_value_21 (by decide) rfl (fun h21 => ?_) (fun h21 => ?_)
    · skip
      refine ZV_aload_n (n := 37) dX12_value_36 rfl rfl rfl ?_
      refine ZV_bipush (v := -2) (n := 39) dX12_value_37 rfl rfl ?_
      refine call_X12_130 (c_no hR _) rfl dX12_value_39 rfl (rf_sh hR :).1 (Nat.le_of_ble_eq_true rfl) (Nat.le_of_ble_eq_true rfl) rfl (fun r9 σ9 hp9 => ?_)
      obtain ⟨rfl, hR⟩ := hp9
      refine ZV_iret dX12_value_42 rfl ?_
      exact zleaf (v := sNo T (-2)) (by simp [sp_value, h9, h21]) rfl hR
    · skip
      refine ZV_iload_n (n := 25) dX12_value_24 rfl rfl rfl ?_
      refine ZV_i2l (n := 26) dX12_value_25 rfl ?_
      refine ZV_lconst (v := lN 0) (n := 27) dX12_value_26 rfl rfl ?_
      refine ZV_ldc2 (v := lN 2) (n := 30) dX12_value_27 wd_5_102 rfl ?_
      refine call_X12_137 (c_inC _ d (by decide)) rfl dX12_value_30 (Nat.le_of_ble_eq_true rfl) (Nat.le_of_ble_eq_true rfl) rfl (fun r9 σ9 hp9 => ?_)
      obtain ⟨rfl, rfl⟩ := hp9
      refine ZV_if_neB (tgt := 43) (n := 36) dX12_value_33 (by decide) rfl (fun h33 => ?_) (fun h33 => ?_)
      · skip
        obtain ⟨j, hj, hjt, rfl⟩ := evB_t hI h9
        have hjx : j < 2147483648 := by omega
        obtain ⟨v, hv, hv2, rfl⟩ := inB_t h21
        obtain ⟨d, hd, hd2, rfl⟩ := inB_t h33
        refine ZV_aload_n (n := 44) dX12_value_43 rfl rfl rfl ?_
        refine ZV_getR (n := 47) dX12_value_44 fl_X12_33 rfl rfl rfl (rf_sh hR :).1 ?_
        refine ZV_iload_n (n := 48) dX12_value_47 rfl rfl rfl ?_
        refine ZV_iload_n (n := 49) dX12_value_48 rfl rfl rfl ?_
        refine ZV_iast (n := 50) dX12_value_49 rfl (ra_valueOf (rf_sh hR :) :) (rk_valueOf (rf_sh hR :) :) rfl (by omega) ?_
        refine ZV_gen (P := fun τ => rR x τ _) (rR_valueOf hR _) (fun σ hR => ?_)
        refine ZV_aload_n (n := 51) dX12_value_50 rfl rfl rfl ?_
        refine ZV_getR (n := 54) dX12_value_51 fl_X12_36 rfl rfl rfl (rf_sh hR :).1 ?_
        refine ZV_iload_n (n := 55) dX12_value_54 rfl rfl rfl ?_
        refine ZV_iload_n (n := 56) dX12_value_55 rfl rfl rfl ?_
        refine ZV_iast (n := 57) dX12_value_56 rfl (ra_dotsOf (rf_sh hR :) :) (rk_dotsOf (rf_sh hR :) :) rfl (by omega) ?_
        refine ZV_gen (P := fun τ => rR x τ _) (rR_dotsOf hR _) (fun σ hR => ?_)
        refine ZV_iconst (v := nI 1) (n := 58) dX12_value_57 rfl rfl ?_
        refine ZV_iret dX12_value_58 rfl ?_
        exact zleaf (v := sOk (h_dt (h_va T (va_up (g_va T) j v)) (va_up (g_dt T) j d)) 1) (by simp [sp_value, h9, h21, h33, nI_clamp hjx, nI_clamp hv2, nI_clamp hd2]) rfl (rR_s0 hR hsu)
      · skip
        refine ZV_aload_n (n := 37) dX12_value_36 rfl rfl rfl ?_
        refine ZV_bipush (v := -2) (n := 39) dX12_value_37 rfl rfl ?_
        refine call_X12_130 (c_no hR _) rfl dX12_value_39 rfl (rf_sh hR :).1 (Nat.le_of_ble_eq_true rfl) (Nat.le_of_ble_eq_true rfl) rfl (fun r9 σ9 hp9 => ?_)
        obtain ⟨rfl, hR⟩ := hp9
        refine ZV_iret dX12_value_42 rfl ?_
        exact zleaf (v := sNo T (-2)) (by simp [sp_value, h9, h21, h33]) rfl hR
set_option maxHeartbeats 4000000 in
set_option maxRecDepth 100000 in
theorem c_failures {x : Nat} {σ : ZS} {T : TS} (hR : rR x σ T) (hI : tI T) (k : Int32) : ZC M_X12_failures [Ar (some x), Ai k] σ (fun r τ => r = some (Ai (sp_failures T k)) ∧ rR x τ T) := by
  refine ZC_of (ls := [some (Ar (some x)), some (Ai k)]) (by decide) (Nat.le_of_ble_eq_true rfl) rfl ?_
  refine ZV_aload_n (n := 1) dX12_failures_0 rfl rfl rfl ?_
  refine ZV_iconst (v := nI 0) (n := 2) dX12_failures_1 rfl rfl ?_
  refine ZV_putI (n := 5) dX12_failures_2 fl_X12_123 rfl (Or.inl rfl) rfl (fun h => absurd h (by decide)) rfl (rf_sh hR :).1 ?_
  refine ZV_gen (P := fun τ => rR x τ _) (rR_thrown hR _) (fun σ hR => ?_)
  refine ZV_iload_n (n := 6) dX12_failures_5 rfl rfl rfl ?_
  refine ZV_i2l (n := 7) dX12_failures_6 rfl ?_
  refine ZV_lconst (v := lN 0) (n := 8) dX12_failures_7 rfl rfl ?_
  refine ZV_ldc2 (v := lN 4) (n := 11) dX12_failures_8 wd_5_119 rfl ?_
  refine call_X12_137 (c_inC _ k (by decide)) rfl dX12_failures_11 (Nat.le_of_ble_eq_true rfl) (Nat.le_of_ble_eq_true rfl) rfl (fun r9 σ9 hp9 => ?_)
  obtain ⟨rfl, rfl⟩ := hp9
  refine ZV_if_eqB (tgt := 26) (n := 17) dX12_failures_14 (by decide) rfl (fun h14 => ?_) (fun h14 => ?_)
  · skip
    refine ZV_bipush (v := -2) (n := 28) dX12_failures_26 rfl rfl ?_
    refine ZV_iret dX12_failures_28 rfl ?_
    exact ⟨by simp [sp_failures, h14], hR⟩
  · skip
    obtain ⟨j, hj, hj2, rfl⟩ := inB_t h14
    refine ZV_aload_n (n := 18) dX12_failures_17 rfl rfl rfl ?_
    refine ZV_getR (n := 21) dX12_failures_18 fl_X12_117 rfl rfl rfl (rf_sh hR :).1 ?_
    refine ZV_iload_n (n := 22) dX12_failures_21 rfl rfl rfl ?_
    refine ZV_ialdv (n := 23) dX12_failures_22 rfl (ra_failed (rf_sh hR :) :) (rk_failed (rf_sh hR :) :) rfl (by omega) (rf_failed hR _ (by omega)) ?_
    refine ZV_goto (tgt := 28) dX12_failures_23 (by decide) ?_
    refine ZV_iret dX12_failures_28 rfl ?_
    exact ⟨by simp [sp_failures, h14, nI_clamp hj2], hR⟩
set_option maxHeartbeats 4000000 in
set_option maxRecDepth 100000 in
theorem c_status {x : Nat} {σ : ZS} {T : TS} (hR : rR x σ T) (hI : tI T) : ZC M_X12_status [Ar (some x)] σ (fun r τ => r = some (Ai (g_su T)) ∧ rR x τ T) := by
  refine ZC_of (ls := [some (Ar (some x))]) (by decide) (Nat.le_of_ble_eq_true rfl) rfl ?_
  refine ZV_aload_n (n := 1) dX12_status_0 rfl rfl rfl ?_
  refine ZV_iconst (v := nI 0) (n := 2) dX12_status_1 rfl rfl ?_
  refine ZV_putI (n := 5) dX12_status_2 fl_X12_123 rfl (Or.inl rfl) rfl (fun h => absurd h (by decide)) rfl (rf_sh hR :).1 ?_
  refine ZV_gen (P := fun τ => rR x τ _) (rR_thrown hR _) (fun σ hR => ?_)
  refine ZV_aload_n (n := 6) dX12_status_5 rfl rfl rfl ?_
  refine ZV_getIv (n := 9) dX12_status_6 fl_X12_127 rfl rfl rfl (rf_sh hR :).1 (rf_status hR :) ?_
  refine ZV_iret dX12_status_9 rfl ?_
  exact ⟨rfl, hR⟩
set_option maxHeartbeats 4000000 in
set_option maxRecDepth 100000 in
theorem c_trace {x : Nat} {σ : ZS} {T : TS} (hR : rR x σ T) (hI : tI T) : ZC M_X12_trace [Ar (some x)] σ (fun r τ => r = some (Al (g_tr T)) ∧ rR x τ T) := by
  refine ZC_of (ls := [some (Ar (some x))]) (by decide) (Nat.le_of_ble_eq_true rfl) rfl ?_
  refine ZV_aload_n (n := 1) dX12_trace_0 rfl rfl rfl ?_
  refine ZV_iconst (v := nI 0) (n := 2) dX12_trace_1 rfl rfl ?_
  refine ZV_putI (n := 5) dX12_trace_2 fl_X12_123 rfl (Or.inl rfl) rfl (fun h => absurd h (by decide)) rfl (rf_sh hR :).1 ?_
  refine ZV_gen (P := fun τ => rR x τ _) (rR_thrown hR _) (fun σ hR => ?_)
  refine ZV_aload_n (n := 6) dX12_trace_5 rfl rfl rfl ?_
  refine ZV_getLv (n := 9) dX12_trace_6 fl_X12_156 rfl rfl rfl (rf_sh hR :).1 (rf_trace hR :) ?_
  refine ZV_lret dX12_trace_9 rfl ?_
  exact ⟨rfl, hR⟩
set_option maxHeartbeats 4000000 in
set_option maxRecDepth 100000 in
theorem c_count {x : Nat} {σ : ZS} {T : TS} (hR : rR x σ T) (hI : tI T) (w : Int32) : ZC M_X12_count [Ar (some x), Ai w] σ (fun r τ => r = some (Ai (sp_count T w)) ∧ rR x τ T) := by
  refine ZC_of (ls := [some (Ar (some x)), some (Ai w)]) (by decide) (Nat.le_of_ble_eq_true rfl) rfl ?_
  refine ZV_aload_n (n := 1) dX12_count_0 rfl rfl rfl ?_
  refine ZV_iconst (v := nI 0) (n := 2) dX12_count_1 rfl rfl ?_
  refine ZV_putI (n := 5) dX12_count_2 fl_X12_123 rfl (Or.inl rfl) rfl (fun h => absurd h (by decide)) rfl (rf_sh hR :).1 ?_
  refine ZV_gen (P := fun τ => rR x τ _) (rR_thrown hR _) (fun σ hR => ?_)
  refine ZV_iload_n (n := 6) dX12_count_5 rfl rfl rfl ?_
  by_cases h6_0 : w = nI 0
  · subst h6_0
    refine ZV_tableIn (tgt := 48) dX12_count_6 (by decide) (by decide) rfl (by decide) ?_
    refine ZV_aload_n (n := 49) dX12_count_48 rfl rfl rfl ?_
    refine ZV_getIv (n := 52) dX12_count_49 fl_X12_134 rfl rfl rfl (rf_sh hR :).1 (rf_parts hR :) ?_
    refine ZV_iret dX12_count_52 rfl ?_
    exact ⟨rfl, hR⟩
  by_cases h6_1 : w = nI 1
  · subst h6_1
    refine ZV_tableIn (tgt := 53) dX12_count_6 (by decide) (by decide) rfl (by decide) ?_
    refine ZV_aload_n (n := 54) dX12_count_53 rfl rfl rfl ?_
    refine ZV_getIv (n := 57) dX12_count_54 fl_X12_151 rfl rfl rfl (rf_sh hR :).1 (rf_bars hR :) ?_
    refine ZV_iret dX12_count_57 rfl ?_
    exact ⟨rfl, hR⟩
  by_cases h6_2 : w = nI 2
  · subst h6_2
    refine ZV_tableIn (tgt := 58) dX12_count_6 (by decide) (by decide) rfl (by decide) ?_
    refine ZV_aload_n (n := 59) dX12_count_58 rfl rfl rfl ?_
    refine ZV_getIv (n := 62) dX12_count_59 fl_X12_190 rfl rfl rfl (rf_sh hR :).1 (rf_there hR :) ?_
    refine ZV_iret dX12_count_62 rfl ?_
    exact ⟨rfl, hR⟩
  by_cases h6_3 : w = nI 3
  · subst h6_3
    refine ZV_tableIn (tgt := 63) dX12_count_6 (by decide) (by decide) rfl (by decide) ?_
    refine ZV_aload_n (n := 64) dX12_count_63 rfl rfl rfl ?_
    refine ZV_getIv (n := 67) dX12_count_64 fl_X12_141 rfl rfl rfl (rf_sh hR :).1 (rf_ever hR :) ?_
    refine ZV_iret dX12_count_67 rfl ?_
    exact ⟨rfl, hR⟩
  by_cases h6_4 : w = nI 4
  · subst h6_4
    refine ZV_tableIn (tgt := 68) dX12_count_6 (by decide) (by decide) rfl (by decide) ?_
    refine ZV_aload_n (n := 69) dX12_count_68 rfl rfl rfl ?_
    refine ZV_getIv (n := 72) dX12_count_69 fl_X12_202 rfl rfl rfl (rf_sh hR :).1 (rf_tupletsThere hR :) ?_
    refine ZV_iret dX12_count_72 rfl ?_
    exact ⟨rfl, hR⟩
  by_cases h6_5 : w = nI 5
  · subst h6_5
    refine ZV_tableIn (tgt := 73) dX12_count_6 (by decide) (by decide) rfl (by decide) ?_
    refine ZV_aload_n (n := 74) dX12_count_73 rfl rfl rfl ?_
    refine ZV_getIv (n := 77) dX12_count_74 fl_X12_208 rfl rfl rfl (rf_sh hR :).1 (rf_linesThere hR :) ?_
    refine ZV_iret dX12_count_77 rfl ?_
    exact ⟨rfl, hR⟩
  by_cases h6_6 : w = nI 6
  · subst h6_6
    refine ZV_tableIn (tgt := 78) dX12_count_6 (by decide) (by decide) rfl (by decide) ?_
    refine ZV_aload_n (n := 79) dX12_count_78 rfl rfl rfl ?_
    refine ZV_getIv (n := 82) dX12_count_79 fl_X12_289 rfl rfl rfl (rf_sh hR :).1 (rf_found hR :) ?_
    refine ZV_iret dX12_count_82 rfl ?_
    exact ⟨rfl, hR⟩
  have g6_0 := zne_toInt h6_0 (by decide)
  have g6_1 := zne_toInt h6_1 (by decide)
  have g6_2 := zne_toInt h6_2 (by decide)
  have g6_3 := zne_toInt h6_3 (by decide)
  have g6_4 := zne_toInt h6_4 (by decide)
  have g6_5 := zne_toInt h6_5 (by decide)
  have g6_6 := zne_toInt h6_6 (by decide)
  refine ZV_tableOut (tgt := 83) dX12_count_6 (by omega) (by decide) ?_
  refine ZV_bipush (v := -2) (n := 85) dX12_count_83 rfl rfl ?_
  refine ZV_iret dX12_count_85 rfl ?_
  exact ⟨by simp [sp_count, h6_0, h6_1, h6_2, h6_3, h6_4, h6_5, h6_6], hR⟩
set_option maxHeartbeats 4000000 in
set_option maxRecDepth 100000 in
theorem c_walked {x : Nat} {σ : ZS} {T : TS} (hR : rR x σ T) (hI : tI T) (i : Int32) : ZC M_X12_walked [Ar (some x), Ai i] σ (fun y0 τ0 => y0 = some (Ai (sp_walked T i).1) ∧ rR x τ0 (sp_walked T i).2) := by
  have hsp : sp_walked T i = sp_walked (h_su T 0) i := rfl
  rw [hsp]
  clear hsp
  refine ZC_of (ls := [some (Ar (some x)), some (Ai i)]) (by decide) (Nat.le_of_ble_eq_true rfl) rfl ?_
  refine ZV_aload_n (n := 1) dX12_walked_0 rfl rfl rfl ?_
  refine call_X12_144 (c_begin hR) rfl dX12_walked_1 rfl (rf_sh hR :).1 (Nat.le_of_ble_eq_true rfl) (Nat.le_of_ble_eq_true rfl) rfl (fun r9 σ9 hp9 => ?_)
  obtain ⟨rfl, hR⟩ := hp9
  have hI := tI_su hI 0
  have hsu : g_su (h_su T 0) = 0 := rfl
  generalize h_su T 0 = T at hR hI hsu ⊢
  have hwm := ti_wm hI
  refine ZV_iload_n (n := 5) dX12_walked_4 rfl rfl rfl ?_
  refine ZV_i2l (n := 6) dX12_walked_5 rfl ?_
  refine ZV_lconst (v := lN 0) (n := 7) dX12_walked_6 rfl rfl ?_
  refine ZV_aload_n (n := 8) dX12_walked_7 rfl rfl rfl ?_
  refine ZV_getIv (n := 11) dX12_walked_8 fl_X12_286 rfl rfl rfl (rf_sh hR :).1 (rf_walkMany hR :) ?_
  refine ZV_iconst (v := nI 1) (n := 12) dX12_walked_11 rfl rfl ?_
  refine ZV_isub (n := 13) dX12_walked_12 rfl ?_
  refine ZV_i2l (n := 14) dX12_walked_13 rfl ?_
  refine call_X12_137 (c_inS _ i (by omega)) rfl dX12_walked_14 (Nat.le_of_ble_eq_true rfl) (Nat.le_of_ble_eq_true rfl) rfl (fun r9 σ9 hp9 => ?_)
  obtain ⟨rfl, rfl⟩ := hp9
  refine ZV_if_eqB (tgt := 29) (n := 20) dX12_walked_17 (by decide) rfl (fun h17 => ?_) (fun h17 => ?_)
  · skip
    refine ZV_iconst (v := -1) (n := 30) dX12_walked_29 rfl rfl ?_
    refine ZV_iret dX12_walked_30 rfl ?_
    exact zleaf (v := sOk T (-1)) (by simp [sp_walked, h17]) rfl (rR_s0 hR hsu)
  · skip
    obtain ⟨j, hj, hjx, rfl⟩ := inB_t h17
    refine ZV_aload_n (n := 21) dX12_walked_20 rfl rfl rfl ?_
    refine ZV_getR (n := 24) dX12_walked_21 fl_X12_81 rfl rfl rfl (rf_sh hR :).1 ?_
    refine ZV_iload_n (n := 25) dX12_walked_24 rfl rfl rfl ?_
    refine ZV_ialdv (n := 26) dX12_walked_25 rfl (ra_walkRow (rf_sh hR :) :) (rk_walkRow (rf_sh hR :) :) rfl (by omega) (rf_walkRow hR _ (by omega)) ?_
    refine ZV_goto (tgt := 30) dX12_walked_26 (by decide) ?_
    refine ZV_iret dX12_walked_30 rfl ?_
    exact zleaf (v := sOk T (nI (g_wr T j))) (by simp [sp_walked, h17, nI_clamp hjx]) rfl (rR_s0 hR hsu)
set_option maxHeartbeats 4000000 in
set_option maxRecDepth 100000 in
theorem c_finding {x : Nat} {σ : ZS} {T : TS} (hR : rR x σ T) (hI : tI T) (i w : Int32) : ZC M_X12_finding [Ar (some x), Ai i, Ai w] σ (fun y0 τ0 => y0 = some (Ai (sp_finding T i w).1) ∧ rR x τ0 (sp_finding T i w).2) := by
  have hsp : sp_finding T i w = sp_finding (h_su T 0) i w := rfl
  rw [hsp]
  clear hsp
  refine ZC_of (ls := [some (Ar (some x)), some (Ai i), some (Ai w)]) (by decide) (Nat.le_of_ble_eq_true rfl) rfl ?_
  refine ZV_aload_n (n := 1) dX12_finding_0 rfl rfl rfl ?_
  refine call_X12_144 (c_begin hR) rfl dX12_finding_1 rfl (rf_sh hR :).1 (Nat.le_of_ble_eq_true rfl) (Nat.le_of_ble_eq_true rfl) rfl (fun r9 σ9 hp9 => ?_)
  obtain ⟨rfl, hR⟩ := hp9
  have hI := tI_su hI 0
  have hsu : g_su (h_su T 0) = 0 := rfl
  generalize h_su T 0 = T at hR hI hsu ⊢
  have hfo := ti_fo hI
  refine ZV_iload_n (n := 5) dX12_finding_4 rfl rfl rfl ?_
  refine ZV_i2l (n := 6) dX12_finding_5 rfl ?_
  refine ZV_lconst (v := lN 0) (n := 7) dX12_finding_6 rfl rfl ?_
  refine ZV_ldc2 (v := lN 2) (n := 10) dX12_finding_7 wd_5_102 rfl ?_
  refine call_X12_137 (c_inC _ w (by decide)) rfl dX12_finding_10 (Nat.le_of_ble_eq_true rfl) (Nat.le_of_ble_eq_true rfl) rfl (fun r9 σ9 hp9 => ?_)
  obtain ⟨rfl, rfl⟩ := hp9
  refine ZV_if_neB (tgt := 23) (n := 16) dX12_finding_13 (by decide) rfl (fun h13 => ?_) (fun h13 => ?_)
  · skip
    obtain ⟨w, hw, hw2, rfl⟩ := inB_t h13
    refine ZV_iload_n (n := 24) dX12_finding_23 rfl rfl rfl ?_
    refine ZV_i2l (n := 25) dX12_finding_24 rfl ?_
    refine ZV_lconst (v := lN 0) (n := 26) dX12_finding_25 rfl rfl ?_
    refine ZV_aload_n (n := 27) dX12_finding_26 rfl rfl rfl ?_
    refine ZV_getIv (n := 30) dX12_finding_27 fl_X12_289 rfl rfl rfl (rf_sh hR :).1 (rf_found hR :) ?_
    refine ZV_bipush (v := nI 100) (n := 32) dX12_finding_30 rfl rfl ?_
    refine ZV_icmp_geN (tgt := 42) (n := 35) dX12_finding_32 (by decide) rfl (by omega) (by omega) (fun h32 => ?_) (fun h32 => ?_)
    · skip
      have hm : (if g_fo T < 100 then g_fo T else 100) = 100 := if_neg (by omega)
      refine ZV_bipush (v := nI 100) (n := 44) dX12_finding_42 rfl rfl ?_
      refine ZV_iconst (v := nI 1) (n := 45) dX12_finding_44 rfl rfl ?_
      refine ZV_isub (n := 46) dX12_finding_45 rfl ?_
      refine ZV_i2l (n := 47) dX12_finding_46 rfl ?_
      refine call_X12_137 (c_inS _ i (by omega)) rfl dX12_finding_47 (Nat.le_of_ble_eq_true rfl) (Nat.le_of_ble_eq_true rfl) rfl (fun r9 σ9 hp9 => ?_)
      obtain ⟨rfl, rfl⟩ := hp9
      refine ZV_if_eqB (tgt := 66) (n := 53) dX12_finding_50 (by decide) rfl (fun h50 => ?_) (fun h50 => ?_)
      · skip
        refine ZV_iconst (v := -1) (n := 67) dX12_finding_66 rfl rfl ?_
        refine ZV_iret dX12_finding_67 rfl ?_
        exact zleaf (v := sOk T (-1)) (by simp [sp_finding, h13, h32, h50, hm, nI_clamp hw2]) rfl (rR_s0 hR hsu)
      · skip
        obtain ⟨j, hj, hjx, rfl⟩ := inB_t h50
        refine ZV_aload_n (n := 54) dX12_finding_53 rfl rfl rfl ?_
        refine ZV_getR (n := 57) dX12_finding_54 fl_X12_84 rfl rfl rfl (rf_sh hR :).1 ?_
        refine ZV_iconst (v := nI 3) (n := 58) dX12_finding_57 rfl rfl ?_
        refine ZV_iload_n (n := 59) dX12_finding_58 rfl rfl rfl ?_
        refine ZV_imulN (n := 60) dX12_finding_59 rfl ?_
        refine ZV_iload_n (n := 61) dX12_finding_60 rfl rfl rfl ?_
        refine ZV_iaddN (n := 62) dX12_finding_61 rfl ?_
        refine ZV_ialdv (n := 63) dX12_finding_62 rfl (ra_findings (rf_sh hR :) :) (rk_findings (rf_sh hR :) :) rfl (by omega) (rf_findings hR _ (by omega)) ?_
        refine ZV_goto (tgt := 67) dX12_finding_63 (by decide) ?_
        refine ZV_iret dX12_finding_67 rfl ?_
        exact zleaf (v := sOk T (g_fi T (3 * j + w))) (by simp [sp_finding, h13, h32, h50, hm, nI_clamp hw2, nI_clamp hjx]) rfl (rR_s0 hR hsu)
    · skip
      have hm : (if g_fo T < 100 then g_fo T else 100) = g_fo T := if_pos h32
      refine ZV_aload_n (n := 36) dX12_finding_35 rfl rfl rfl ?_
      refine ZV_getIv (n := 39) dX12_finding_36 fl_X12_289 rfl rfl rfl (rf_sh hR :).1 (rf_found hR :) ?_
      refine ZV_goto (tgt := 44) dX12_finding_39 (by decide) ?_
      refine ZV_iconst (v := nI 1) (n := 45) dX12_finding_44 rfl rfl ?_
      refine ZV_isub (n := 46) dX12_finding_45 rfl ?_
      refine ZV_i2l (n := 47) dX12_finding_46 rfl ?_
      refine call_X12_137 (c_inS _ i (by omega)) rfl dX12_finding_47 (Nat.le_of_ble_eq_true rfl) (Nat.le_of_ble_eq_true rfl) rfl (fun r9 σ9 hp9 => ?_)
      obtain ⟨rfl, rfl⟩ := hp9
      refine ZV_if_eqB (tgt := 66) (n := 53) dX12_finding_50 (by decide) rfl (fun h50 => ?_) (fun h50 => ?_)
      · skip
        refine ZV_iconst (v := -1) (n := 67) dX12_finding_66 rfl rfl ?_
        refine ZV_iret dX12_finding_67 rfl ?_
        exact zleaf (v := sOk T (-1)) (by simp [sp_finding, h13, h32, h50, hm, nI_clamp hw2]) rfl (rR_s0 hR hsu)
      · skip
        obtain ⟨j, hj, hjx, rfl⟩ := inB_t h50
        refine ZV_aload_n (n := 54) dX12_finding_53 rfl rfl rfl ?_
        refine ZV_getR (n := 57) dX12_finding_54 fl_X12_84 rfl rfl rfl (rf_sh hR :).1 ?_
        refine ZV_iconst (v := nI 3) (n := 58) dX12_finding_57 rfl rfl ?_
        refine ZV_iload_n (n := 59) dX12_finding_58 rfl rfl rfl ?_
        refine ZV_imulN (n := 60) dX12_finding_59 rfl ?_
        refine ZV_iload_n (n := 61) dX12_finding_60 rfl rfl rfl ?_
        refine ZV_iaddN (n := 62) dX12_finding_61 rfl ?_
        refine ZV_ialdv (n := 63) dX12_finding_62 rfl (ra_findings (rf_sh hR :) :) (rk_findings (rf_sh hR :) :) rfl (by omega) (rf_findings hR _ (by omega)) ?_
        refine ZV_goto (tgt := 67) dX12_finding_63 (by decide) ?_
        refine ZV_iret dX12_finding_67 rfl ?_
        exact zleaf (v := sOk T (g_fi T (3 * j + w))) (by simp [sp_finding, h13, h32, h50, hm, nI_clamp hw2, nI_clamp hjx]) rfl (rR_s0 hR hsu)
  · skip
    refine ZV_aload_n (n := 17) dX12_finding_16 rfl rfl rfl ?_
    refine ZV_bipush (v := -2) (n := 19) dX12_finding_17 rfl rfl ?_
    refine call_X12_130 (c_no hR _) rfl dX12_finding_19 rfl (rf_sh hR :).1 (Nat.le_of_ble_eq_true rfl) (Nat.le_of_ble_eq_true rfl) rfl (fun r9 σ9 hp9 => ?_)
    obtain ⟨rfl, hR⟩ := hp9
    refine ZV_iret dX12_finding_22 rfl ?_
    exact zleaf (v := sNo T (-2)) (by simp [sp_finding, h13]) rfl hR
def sp_chord (T : TS) (e p : Int32) : Int32 × TS := if (evB T e && inB p 128) = false then sNo T (-2) else if g_kd T e.toNatClampNeg ≠ 1 then sFl T 2 (-13) (-13) else if p.toNatClampNeg ≤ g_pv T e.toNatClampNeg (g_pn T e.toNatClampNeg - 1) then sNo T (-3) else if g_pn T e.toNatClampNeg = 6 then sNo T (-4) else sOk (h_pn (h_pi T (va_u2 (g_pi T) e.toNatClampNeg (va_up (g_pi T e.toNatClampNeg) (g_pn T e.toNatClampNeg) p))) (va_up (g_pn T) e.toNatClampNeg (g_pn T e.toNatClampNeg + 1))) (nI (g_pn T e.toNatClampNeg + 1))
set_option maxHeartbeats 4000000 in
set_option maxRecDepth 100000 in
theorem c_chord {x : Nat} {σ : ZS} {T : TS} (hR : rR x σ T) (hI : tI T) (e p : Int32) : ZC M_X12_chord [Ar (some x), Ai e, Ai p] σ (fun y0 τ0 => y0 = some (Ai (sp_chord T e p).1) ∧ rR x τ0 (sp_chord T e p).2) := by
  have hsp : sp_chord T e p = sp_chord (h_su T 0) e p := rfl
  rw [hsp]
  clear hsp
  refine ZC_of (ls := [some (Ar (some x)), some (Ai e), some (Ai p), none]) (by decide) (Nat.le_of_ble_eq_true rfl) rfl ?_
  refine ZV_aload_n (n := 1) dX12_chord_0 rfl rfl rfl ?_
  refine call_X12_144 (c_begin hR) rfl dX12_chord_1 rfl (rf_sh hR :).1 (Nat.le_of_ble_eq_true rfl) (Nat.le_of_ble_eq_true rfl) rfl (fun r9 σ9 hp9 => ?_)
  obtain ⟨rfl, hR⟩ := hp9
  have hI := tI_su hI 0
  have hsu : g_su (h_su T 0) = 0 := rfl
  generalize h_su T 0 = T at hR hI hsu ⊢
  have hev := ti_ev hI
  refine ZV_aload_n (n := 5) dX12_chord_4 rfl rfl rfl ?_
  refine ZV_iload_n (n := 6) dX12_chord_5 rfl rfl rfl ?_
  refine call_X12_193 (c_isEvent hR hI _) rfl dX12_chord_6 rfl (rf_sh hR :).1 (Nat.le_of_ble_eq_true rfl) (Nat.le_of_ble_eq_true rfl) rfl (fun r9 σ9 hp9 => ?_)
  obtain ⟨rfl, rfl⟩ := hp9
  refine ZV_if_eqB (tgt := 24) (n := 12) dX12_chord_9 (by decide) rfl (fun h9 => ?_) (fun h9 => ?_)
  · skip
    refine ZV_aload_n (n := 25) dX12_chord_24 rfl rfl rfl ?_
    refine ZV_bipush (v := -2) (n := 27) dX12_chord_25 rfl rfl ?_
    refine call_X12_130 (c_no hR _) rfl dX12_chord_27 rfl (rf_sh hR :).1 (Nat.le_of_ble_eq_true rfl) (Nat.le_of_ble_eq_true rfl) rfl (fun r9 σ9 hp9 => ?_)
    obtain ⟨rfl, hR⟩ := hp9
    refine ZV_iret dX12_chord_30 rfl ?_
    exact zleaf (v := sNo T (-2)) (by simp [sp_chord, h9]) rfl hR
  · skip
    refine ZV_iload_n (n := 13) dX12_chord_12 rfl rfl rfl ?_
    refine ZV_i2l (n := 14) dX12_chord_13 rfl ?_
    refine ZV_lconst (v := lN 0) (n := 15) dX12_chord_14 rfl rfl ?_
    refine ZV_ldc2 (v := lN 127) (n := 18) dX12_chord_15 wd_5_128 rfl ?_
    refine call_X12_137 (c_inC _ p (by decide)) rfl dX12_chord_18 (Nat.le_of_ble_eq_true rfl) (Nat.le_of_ble_eq_true rfl) rfl (fun r9 σ9 hp9 => ?_)
    obtain ⟨rfl, rfl⟩ := hp9
    refine ZV_if_neB (tgt := 31) (n := 24) dX12_chord_21 (by decide) rfl (fun h21 => ?_) (fun h21 => ?_)
    · skip
      obtain ⟨j, hj, hjt, rfl⟩ := evB_t hI h9
      have hjx : j < 2147483648 := by omega
      obtain ⟨p, hp, hp2, rfl⟩ := inB_t h21
      have hpn := ti_pn hI j
      have hkd := ti_kd hI j hj
      refine ZV_aload_n (n := 32) dX12_chord_31 rfl rfl rfl ?_
      refine ZV_getR (n := 35) dX12_chord_32 fl_X12_24 rfl rfl rfl (rf_sh hR :).1 ?_
      refine ZV_iload_n (n := 36) dX12_chord_35 rfl rfl rfl ?_
      refine ZV_ialdv (n := 37) dX12_chord_36 rfl (ra_kindOf (rf_sh hR :) :) (rk_kindOf (rf_sh hR :) :) rfl (by omega) (rf_kindOf hR _ (by omega)) ?_
      refine ZV_iconst (v := nI 1) (n := 38) dX12_chord_37 rfl rfl ?_
      refine ZV_icmp_eqN (tgt := 48) (n := 41) dX12_chord_38 (by decide) rfl (by omega) (by omega) (fun h38 => ?_) (fun h38 => ?_)
      · skip
        have hpn1 := ti_pn1 hI j hj (by omega)
        refine ZV_aload_n (n := 49) dX12_chord_48 rfl rfl rfl ?_
        refine ZV_getR (n := 52) dX12_chord_49 fl_X12_27 rfl rfl rfl (rf_sh hR :).1 ?_
        refine ZV_iload_n (n := 53) dX12_chord_52 rfl rfl rfl ?_
        refine ZV_ialdv (n := 54) dX12_chord_53 rfl (ra_pitches (rf_sh hR :) :) (rk_pitches (rf_sh hR :) :) rfl (by omega) (rf_pitches hR _ (by omega)) ?_
        refine ZV_istore_3 (n := 55) dX12_chord_54 rfl (Nat.le_of_ble_eq_true rfl) rfl ?_
        refine ZV_iload_n (n := 56) dX12_chord_55 rfl rfl rfl ?_
        refine ZV_aload_n (n := 57) dX12_chord_56 rfl rfl rfl ?_
        refine ZV_getR (n := 60) dX12_chord_57 fl_X12_30 rfl rfl rfl (rf_sh hR :).1 ?_
        refine ZV_bipush (v := nI 6) (n := 62) dX12_chord_60 rfl rfl ?_
        refine ZV_iload_n (n := 63) dX12_chord_62 rfl rfl rfl ?_
        refine ZV_imulN (n := 64) dX12_chord_63 rfl ?_
        refine ZV_iload_n (n := 65) dX12_chord_64 rfl rfl rfl ?_
        refine ZV_iaddN (n := 66) dX12_chord_65 rfl ?_
        refine ZV_iconst (v := nI 1) (n := 67) dX12_chord_66 rfl rfl ?_
        refine ZV_isubN (n := 68) dX12_chord_67 rfl (by omega) ?_
        have hpi := ti_pi hI j (g_pn T j - 1) hj (by omega)
        refine ZV_ialdv (n := 69) dX12_chord_68 rfl (ra_pitchOf (rf_sh hR :) :) (rk_pitchOf (rf_sh hR :) :) rfl (by omega) (Eq.trans (congrArg _ (show 6 * j + g_pn T j - 1 = 6 * j + (g_pn T j - 1) by omega)) ((rf_pitchOf hR j (g_pn T j - 1) (by omega) (by omega)).trans hpi.1)) ?_
        refine ZV_icmp_gtN (tgt := 79) (n := 72) dX12_chord_69 (by decide) rfl (by omega) (by omega) (fun h69 => ?_) (fun h69 => ?_)
        · skip
          refine ZV_iload_n (n := 80) dX12_chord_79 rfl rfl rfl ?_
          refine ZV_bipush (v := nI 6) (n := 82) dX12_chord_80 rfl rfl ?_
          refine ZV_icmp_neN (tgt := 92) (n := 85) dX12_chord_82 (by decide) rfl (by omega) (by omega) (fun h82 => ?_) (fun h82 => ?_)
          · skip
            refine ZV_aload_n (n := 93) dX12_chord_92 rfl rfl rfl ?_
            refine ZV_getR (n := 96) dX12_chord_93 fl_X12_30 rfl rfl rfl (rf_sh hR :).1 ?_
            refine ZV_bipush (v := nI 6) (n := 98) dX12_chord_96 rfl rfl ?_
            refine ZV_iload_n (n := 99) dX12_chord_98 rfl rfl rfl ?_
            refine ZV_imulN (n := 100) dX12_chord_99 rfl ?_
            refine ZV_iload_n (n := 101) dX12_chord_100 rfl rfl rfl ?_
            refine ZV_iaddN (n := 102) dX12_chord_101 rfl ?_
            refine ZV_iload_n (n := 103) dX12_chord_102 rfl rfl rfl ?_
            refine ZV_iast (n := 104) dX12_chord_103 rfl (ra_pitchOf (rf_sh hR :) :) (rk_pitchOf (rf_sh hR :) :) rfl (by omega) ?_
            refine ZV_gen (P := fun τ => rR x τ _) (rR_pitchOf (i := j) (j := g_pn T j) hR (by omega) (by omega) _) (fun σ hR => ?_)
            refine ZV_aload_n (n := 105) dX12_chord_104 rfl rfl rfl ?_
            refine ZV_getR (n := 108) dX12_chord_105 fl_X12_27 rfl rfl rfl (rf_sh hR :).1 ?_
            refine ZV_iload_n (n := 109) dX12_chord_108 rfl rfl rfl ?_
            refine ZV_dup2 (n := 110) dX12_chord_109 rfl rfl rfl ?_
            refine ZV_ialdv (n := 111) dX12_chord_110 rfl (ra_pitches (rf_sh hR :) :) (rk_pitches (rf_sh hR :) :) rfl (by omega) (rf_pitches hR _ (by omega)) ?_
            refine ZV_iconst (v := nI 1) (n := 112) dX12_chord_111 rfl rfl ?_
            refine ZV_iaddN (n := 113) dX12_chord_112 rfl ?_
            refine ZV_iast (n := 114) dX12_chord_113 rfl (ra_pitches (rf_sh hR :) :) (rk_pitches (rf_sh hR :) :) rfl (by omega) ?_
            refine ZV_gen (P := fun τ => rR x τ _) (rR_pitches (j := j) hR _) (fun σ hR => ?_)
            refine ZV_iload_n (n := 115) dX12_chord_114 rfl rfl rfl ?_
            refine ZV_iconst (v := nI 1) (n := 116) dX12_chord_115 rfl rfl ?_
            refine ZV_iaddN (n := 117) dX12_chord_116 rfl ?_
            refine ZV_iret dX12_chord_117 rfl ?_
            exact zleaf (v := sOk (h_pn (h_pi T (va_u2 (g_pi T) j (va_up (g_pi T j) (g_pn T j) (nI p)))) (va_up (g_pn T) j (g_pn T j + 1))) (nI (g_pn T j + 1))) (by simp [sp_chord, h9, h21, h38, h69, h82, nI_clamp hjx, nI_clamp hp2, show ¬ (p ≤ g_pv T j (g_pn T j - 1)) from by omega]) rfl (rR_s0 hR hsu)
          · skip
            refine ZV_aload_n (n := 86) dX12_chord_85 rfl rfl rfl ?_
            refine ZV_bipush (v := -4) (n := 88) dX12_chord_86 rfl rfl ?_
            refine call_X12_130 (c_no hR _) rfl dX12_chord_88 rfl (rf_sh hR :).1 (Nat.le_of_ble_eq_true rfl) (Nat.le_of_ble_eq_true rfl) rfl (fun r9 σ9 hp9 => ?_)
            obtain ⟨rfl, hR⟩ := hp9
            refine ZV_iret dX12_chord_91 rfl ?_
            exact zleaf (v := sNo T (-4)) (by simp [sp_chord, h9, h21, h38, h69, h82, nI_clamp hjx, nI_clamp hp2, show ¬ (p ≤ g_pv T j 5) from by have h90 := h69; rw [h82] at h90; simp only [Nat.add_one_sub_one, Nat.reduceSub] at h90; omega]) rfl hR
        · skip
          refine ZV_aload_n (n := 73) dX12_chord_72 rfl rfl rfl ?_
          refine ZV_bipush (v := -3) (n := 75) dX12_chord_73 rfl rfl ?_
          refine call_X12_130 (c_no hR _) rfl dX12_chord_75 rfl (rf_sh hR :).1 (Nat.le_of_ble_eq_true rfl) (Nat.le_of_ble_eq_true rfl) rfl (fun r9 σ9 hp9 => ?_)
          obtain ⟨rfl, hR⟩ := hp9
          refine ZV_iret dX12_chord_78 rfl ?_
          exact zleaf (v := sNo T (-3)) (by simp [sp_chord, h9, h21, h38, h69, nI_clamp hjx, nI_clamp hp2]) rfl hR
      · skip
        refine ZV_aload_n (n := 42) dX12_chord_41 rfl rfl rfl ?_
        refine ZV_bipush (v := -13) (n := 44) dX12_chord_42 rfl rfl ?_
        refine call_X12_211 (c_fails hR (-13) 2 (by decide) rfl) rfl dX12_chord_44 rfl (rf_sh hR :).1 (Nat.le_of_ble_eq_true rfl) (Nat.le_of_ble_eq_true rfl) rfl (fun r9 σ9 hp9 => ?_)
        obtain ⟨rfl, hR⟩ := hp9
        refine ZV_iret dX12_chord_47 rfl ?_
        exact zleaf (v := sFl T 2 (-13) (-13)) (by simp [sp_chord, h9, h21, h38, nI_clamp hjx]) rfl hR
    · skip
      refine ZV_aload_n (n := 25) dX12_chord_24 rfl rfl rfl ?_
      refine ZV_bipush (v := -2) (n := 27) dX12_chord_25 rfl rfl ?_
      refine call_X12_130 (c_no hR _) rfl dX12_chord_27 rfl (rf_sh hR :).1 (Nat.le_of_ble_eq_true rfl) (Nat.le_of_ble_eq_true rfl) rfl (fun r9 σ9 hp9 => ?_)
      obtain ⟨rfl, hR⟩ := hp9
      refine ZV_iret dX12_chord_30 rfl ?_
      exact zleaf (v := sNo T (-2)) (by simp [sp_chord, h9, h21]) rfl hR
