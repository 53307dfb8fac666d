def sNo (T : TS) (c : Int32) : Int32 × TS := (c, h_su T c)
def sFl (T : TS) (i : Nat) (c r : Int32) : Int32 × TS := (r, h_su (h_fa T (va_up (g_fa T) i (g_fa T i + 1))) c)
def sOk (T : TS) (r : Int32) : Int32 × TS := (r, h_su T 0)
def sp_part (T : TS) (k : Int32) : Int32 × TS := if inB k 6 = false then sNo T (-2) else if g_np T = 6 then sNo T (-4) else sOk (h_np (h_pk T (va_up (g_pk T) (g_np T) k.toNatClampNeg)) (g_np T + 1)) (nI (g_np T))
theorem rR_part {x : Nat} {σ : ZS} {T : TS} (h : rR x σ T) (k : Nat) : rR x (pI (qi σ (x + 1) (g_np T) (nI k)) 768 x (nI (g_np T + 1))) (h_np (h_pk T (va_up (g_pk T) (g_np T) k)) (g_np T + 1)) := by
  have hsh : rA x (pI (qi σ (x + 1) (g_np T) (nI k)) 768 x (nI (g_np T + 1))) := (rf_sh h :)
  exact ⟨hsh, (by simp [zI_pI, g_np, h_np, h_pk, va_up]), (fun i hi => by
      have hi : i < g_np T + 1 := hi
      show zi (qi σ (x + 1) (g_np T) (nI k)) (x + 1) i = nI (va_up (g_pk T) (g_np T) k i)
      rw [zi_qi]
      unfold va_up
      by_cases hq : i = g_np T
      · simp [hq]
      · simp only [hq, and_false, ite_false]
        exact rf_partKind h i (by omega)), (rf_bars h :), (fun i0 q0 => Eq.trans (by simp only [zi_qi, zl_ql, zi_pI, zi_pL, zl_pI, zl_pL, zi_ql, zl_qi, Nat.add_left_cancel_iff, Nat.reduceEqDiff, false_and, ite_false]; try rfl) (rf_barTime h i0 q0)), (rf_ever h :), (rf_there h :), (fun i0 q0 => Eq.trans (by simp only [zi_qi, zl_ql, zi_pI, zi_pL, zl_pI, zl_pL, zi_ql, zl_qi, Nat.add_left_cancel_iff, Nat.reduceEqDiff, false_and, ite_false]; try rfl) (rf_isThere h i0 q0)), (fun i0 q0 => Eq.trans (by simp only [zi_qi, zl_ql, zi_pI, zi_pL, zl_pI, zl_pL, zi_ql, zl_qi, Nat.add_left_cancel_iff, Nat.reduceEqDiff, false_and, ite_false]; try rfl) (rf_voiceOf h i0 q0)), (fun i0 q0 => Eq.trans (by simp only [zi_qi, zl_ql, zi_pI, zi_pL, zl_pI, zl_pL, zi_ql, zl_qi, Nat.add_left_cancel_iff, Nat.reduceEqDiff, false_and, ite_false]; try rfl) (rf_kindOf h i0 q0)), (fun i0 q0 => Eq.trans (by simp only [zi_qi, zl_ql, zi_pI, zi_pL, zl_pI, zl_pL, zi_ql, zl_qi, Nat.add_left_cancel_iff, Nat.reduceEqDiff, false_and, ite_false]; try rfl) (rf_pitches h i0 q0)), (fun i0 i1 q0 q1 => Eq.trans (by simp only [zi_qi, zl_ql, zi_pI, zi_pL, zl_pI, zl_pL, zi_ql, zl_qi, Nat.add_left_cancel_iff, Nat.reduceEqDiff, false_and, ite_false]; try rfl) (rf_pitchOf h i0 i1 q0 q1)), (fun i0 q0 => Eq.trans (by simp only [zi_qi, zl_ql, zi_pI, zi_pL, zl_pI, zl_pL, zi_ql, zl_qi, Nat.add_left_cancel_iff, Nat.reduceEqDiff, false_and, ite_false]; try rfl) (rf_valueOf h i0 q0)), (fun i0 q0 => Eq.trans (by simp only [zi_qi, zl_ql, zi_pI, zi_pL, zl_pI, zl_pL, zi_ql, zl_qi, Nat.add_left_cancel_iff, Nat.reduceEqDiff, false_and, ite_false]; try rfl) (rf_dotsOf h i0 q0)), (fun i0 q0 => Eq.trans (by simp only [zi_qi, zl_ql, zi_pI, zi_pL, zl_pI, zl_pL, zi_ql, zl_qi, Nat.add_left_cancel_iff, Nat.reduceEqDiff, false_and, ite_false]; try rfl) (rf_isTied h i0 q0)), (fun i0 q0 => Eq.trans (by simp only [zi_qi, zl_ql, zi_pI, zi_pL, zl_pI, zl_pL, zi_ql, zl_qi, Nat.add_left_cancel_iff, Nat.reduceEqDiff, false_and, ite_false]; try rfl) (rf_many h i0 q0)), (fun i0 i1 q0 q1 => Eq.trans (by simp only [zi_qi, zl_ql, zi_pI, zi_pL, zl_pI, zl_pL, zi_ql, zl_qi, Nat.add_left_cancel_iff, Nat.reduceEqDiff, false_and, ite_false]; try rfl) (rf_row h i0 i1 q0 q1)), (rf_tupletsEver h :), (rf_tupletsThere h :), (fun i0 q0 => Eq.trans (by simp only [zi_qi, zl_ql, zi_pI, zi_pL, zl_pI, zl_pL, zi_ql, zl_qi, Nat.add_left_cancel_iff, Nat.reduceEqDiff, false_and, ite_false]; try rfl) (rf_isTuplet h i0 q0)), (fun i0 q0 => Eq.trans (by simp only [zi_qi, zl_ql, zi_pI, zi_pL, zl_pI, zl_pL, zi_ql, zl_qi, Nat.add_left_cancel_iff, Nat.reduceEqDiff, false_and, ite_false]; try rfl) (rf_tupletVoice h i0 q0)), (fun i0 q0 => Eq.trans (by simp only [zi_qi, zl_ql, zi_pI, zi_pL, zl_pI, zl_pL, zi_ql, zl_qi, Nat.add_left_cancel_iff, Nat.reduceEqDiff, false_and, ite_false]; try rfl) (rf_tupletFirst h i0 q0)), (fun i0 q0 => Eq.trans (by simp only [zi_qi, zl_ql, zi_pI, zi_pL, zl_pI, zl_pL, zi_ql, zl_qi, Nat.add_left_cancel_iff, Nat.reduceEqDiff, false_and, ite_false]; try rfl) (rf_tupletLast h i0 q0)), (fun i0 q0 => Eq.trans (by simp only [zi_qi, zl_ql, zi_pI, zi_pL, zl_pI, zl_pL, zi_ql, zl_qi, Nat.add_left_cancel_iff, Nat.reduceEqDiff, false_and, ite_false]; try rfl) (rf_tupletN h i0 q0)), (fun i0 q0 => Eq.trans (by simp only [zi_qi, zl_ql, zi_pI, zi_pL, zl_pI, zl_pL, zi_ql, zl_qi, Nat.add_left_cancel_iff, Nat.reduceEqDiff, false_and, ite_false]; try rfl) (rf_tupletM h i0 q0)), (fun i0 q0 => Eq.trans (by simp only [zi_qi, zl_ql, zi_pI, zi_pL, zl_pI, zl_pL, zi_ql, zl_qi, Nat.add_left_cancel_iff, Nat.reduceEqDiff, false_and, ite_false]; try rfl) (rf_tupletUnit h i0 q0)), (rf_linesEver h :), (rf_linesThere h :), (fun i0 q0 => Eq.trans (by simp only [zi_qi, zl_ql, zi_pI, zi_pL, zl_pI, zl_pL, zi_ql, zl_qi, Nat.add_left_cancel_iff, Nat.reduceEqDiff, false_and, ite_false]; try rfl) (rf_isLine h i0 q0)), (fun i0 q0 => Eq.trans (by simp only [zi_qi, zl_ql, zi_pI, zi_pL, zl_pI, zl_pL, zi_ql, zl_qi, Nat.add_left_cancel_iff, Nat.reduceEqDiff, false_and, ite_false]; try rfl) (rf_lineKind h i0 q0)), (fun i0 q0 => Eq.trans (by simp only [zi_qi, zl_ql, zi_pI, zi_pL, zl_pI, zl_pL, zi_ql, zl_qi, Nat.add_left_cancel_iff, Nat.reduceEqDiff, false_and, ite_false]; try rfl) (rf_lineFrom h i0 q0)), (fun i0 q0 => Eq.trans (by simp only [zi_qi, zl_ql, zi_pI, zi_pL, zl_pI, zl_pL, zi_ql, zl_qi, Nat.add_left_cancel_iff, Nat.reduceEqDiff, false_and, ite_false]; try rfl) (rf_lineTo h i0 q0)), (rf_walkMany h :), (fun i0 q0 => Eq.trans (by simp only [zi_qi, zl_ql, zi_pI, zi_pL, zl_pI, zl_pL, zi_ql, zl_qi, Nat.add_left_cancel_iff, Nat.reduceEqDiff, false_and, ite_false]; try rfl) (rf_walkRow h i0 q0)), (rf_found h :), (fun i0 q0 q1 => Eq.trans (by simp only [zi_qi, zl_ql, zi_pI, zi_pL, zl_pI, zl_pL, zi_ql, zl_qi, Nat.add_left_cancel_iff, Nat.reduceEqDiff, false_and, ite_false]; try rfl) (rf_findings h i0 q0 q1)), (fun i0 q0 => Eq.trans (by simp only [zi_qi, zl_ql, zi_pI, zi_pL, zl_pI, zl_pL, zi_ql, zl_qi, Nat.add_left_cancel_iff, Nat.reduceEqDiff, false_and, ite_false]; try rfl) (rf_hasRack h i0 q0)), (fun i0 q0 q1 => Eq.trans (by simp only [zi_qi, zl_ql, zi_pI, zi_pL, zl_pI, zl_pL, zi_ql, zl_qi, Nat.add_left_cancel_iff, Nat.reduceEqDiff, false_and, ite_false]; try rfl) (rf_rackKind h i0 q0 q1)), (fun i0 q0 q1 => Eq.trans (by simp only [zi_qi, zl_ql, zi_pI, zi_pL, zl_pI, zl_pL, zi_ql, zl_qi, Nat.add_left_cancel_iff, Nat.reduceEqDiff, false_and, ite_false]; try rfl) (rf_rackSize h i0 q0 q1)), (fun i0 i1 q0 q1 q2 => Eq.trans (by simp only [zi_qi, zl_ql, zi_pI, zi_pL, zl_pI, zl_pL, zi_ql, zl_qi, Nat.add_left_cancel_iff, Nat.reduceEqDiff, false_and, ite_false]; try rfl) (rf_rackRow h i0 i1 q0 q1 q2)), (fun i0 q0 => Eq.trans (by simp only [zi_qi, zl_ql, zi_pI, zi_pL, zl_pI, zl_pL, zi_ql, zl_qi, Nat.add_left_cancel_iff, Nat.reduceEqDiff, false_and, ite_false]; try rfl) (rf_hasShelf h i0 q0)), (fun i0 q0 q1 => Eq.trans (by simp only [zi_qi, zl_ql, zi_pI, zi_pL, zl_pI, zl_pL, zi_ql, zl_qi, Nat.add_left_cancel_iff, Nat.reduceEqDiff, false_and, ite_false]; try rfl) (rf_shelfKind h i0 q0 q1)), (fun i0 q0 q1 => Eq.trans (by simp only [zi_qi, zl_ql, zi_pI, zi_pL, zl_pI, zl_pL, zi_ql, zl_qi, Nat.add_left_cancel_iff, Nat.reduceEqDiff, false_and, ite_false]; try rfl) (rf_shelfSize h i0 q0 q1)), (fun i0 i1 q0 q1 q2 => Eq.trans (by simp only [zi_qi, zl_ql, zi_pI, zi_pL, zl_pI, zl_pL, zi_ql, zl_qi, Nat.add_left_cancel_iff, Nat.reduceEqDiff, false_and, ite_false]; try rfl) (rf_shelfRow h i0 i1 q0 q1 q2)), (fun i0 q0 => Eq.trans (by simp only [zi_qi, zl_ql, zi_pI, zi_pL, zl_pI, zl_pL, zi_ql, zl_qi, Nat.add_left_cancel_iff, Nat.reduceEqDiff, false_and, ite_false]; try rfl) (rf_failed h i0 q0)), (rf_status h :), (rf_trace h :)⟩
theorem zleaf {x : Nat} {τ : ZS} {s v : Int32 × TS} {r : Int32} (e : s = v) (h1 : r = v.1) (h2 : rR x τ v.2) : some (Ai r) = some (Ai s.1) ∧ rR x τ s.2 := by
  subst e
  exact ⟨by rw [h1], h2⟩
theorem zleafL {x : Nat} {τ : ZS} {s v : Int64 × TS} {r : Int64} (e : s = v) (h1 : r = v.1) (h2 : rR x τ v.2) : some (Al r) = some (Al s.1) ∧ rR x τ s.2 := by
  subst e
  exact ⟨by rw [h1], h2⟩
set_option maxHeartbeats 4000000 in
set_option maxRecDepth 100000 in
theorem c_part {x : Nat} {σ : ZS} {T : TS} (hR : rR x σ T) (hI : tI T) (k : Int32) : ZC M_X12_part [Ar (some x), Ai k] σ (fun r τ => r = some (Ai (sp_part T k).1) ∧ rR x τ (sp_part T k).2) := by
  have hsp : sp_part T k = sp_part (h_su T 0) k := rfl
  rw [hsp]
  clear hsp
  refine ZC_of (ls := [some (Ar (some x)), some (Ai k)]) (by decide) (Nat.le_of_ble_eq_true rfl) rfl ?_
  refine ZV_aload_n (n := 1) dX12_part_0 rfl rfl rfl ?_
  refine call_X12_144 (c_begin hR) rfl dX12_part_1 rfl (rf_sh hR :).1 (Nat.le_of_ble_eq_true rfl) (Nat.le_of_ble_eq_true rfl) rfl (fun r9 σ9 hp9 => ?_)
  obtain ⟨rfl, hR⟩ := hp9
  have hI := tI_su hI 0
  have hsu : g_su (h_su T 0) = 0 := rfl
  generalize h_su T 0 = T at hR hI hsu ⊢
  have hnp := ti_np hI
  refine ZV_iload_n (n := 5) dX12_part_4 rfl rfl rfl ?_
  refine ZV_i2l (n := 6) dX12_part_5 rfl ?_
  refine ZV_lconst (v := lN 0) (n := 7) dX12_part_6 rfl rfl ?_
  refine ZV_ldc2 (v := lN 5) (n := 10) dX12_part_7 wd_5_84 rfl ?_
  refine call_X12_137 (c_inC _ k (by decide)) rfl dX12_part_10 (Nat.le_of_ble_eq_true rfl) (Nat.le_of_ble_eq_true rfl) rfl (fun r9 σ9 hp9 => ?_)
  obtain ⟨rfl, rfl⟩ := hp9
  refine ZV_if_neB (tgt := 23) (n := 16) dX12_part_13 (by decide) rfl (fun h13 => ?_) (fun h13 => ?_)
  · skip
    refine ZV_aload_n (n := 24) dX12_part_23 rfl rfl rfl ?_
    refine ZV_getIv (n := 27) dX12_part_24 fl_X12_134 rfl rfl rfl (rf_sh hR :).1 (rf_parts hR :) ?_
    refine ZV_bipush (v := nI 6) (n := 29) dX12_part_27 rfl rfl ?_
    refine ZV_icmp_neN (tgt := 39) (n := 32) dX12_part_29 (by decide) rfl (by omega) (by omega) (fun h29 => ?_) (fun h29 => ?_)
    · skip
      obtain ⟨j, hj, hj2, rfl⟩ := inB_t h13
      refine ZV_aload_n (n := 40) dX12_part_39 rfl rfl rfl ?_
      refine ZV_getR (n := 43) dX12_part_40 fl_X12_7 rfl rfl rfl (rf_sh hR :).1 ?_
      refine ZV_aload_n (n := 44) dX12_part_43 rfl rfl rfl ?_
      refine ZV_getIv (n := 47) dX12_part_44 fl_X12_134 rfl rfl rfl (rf_sh hR :).1 (rf_parts hR :) ?_
      refine ZV_iload_n (n := 48) dX12_part_47 rfl rfl rfl ?_
      refine ZV_iast (n := 49) dX12_part_48 rfl (ra_partKind (rf_sh hR :) :) (rk_partKind (rf_sh hR :) :) rfl (by omega) ?_
      refine ZV_aload_n (n := 50) dX12_part_49 rfl rfl rfl ?_
      refine ZV_dup (n := 51) dX12_part_50 rfl rfl ?_
      refine ZV_getIv (n := 54) dX12_part_51 fl_X12_134 rfl rfl rfl (rf_sh hR :).1 (rf_parts hR :) ?_
      refine ZV_iconst (v := nI 1) (n := 55) dX12_part_54 rfl rfl ?_
      refine ZV_iaddN (n := 56) dX12_part_55 rfl ?_
      refine ZV_putI (n := 59) dX12_part_56 fl_X12_134 rfl (Or.inl rfl) rfl (fun h => absurd h (by decide)) rfl (rf_sh hR :).1 ?_
      refine ZV_aload_n (n := 60) dX12_part_59 rfl rfl rfl ?_
      refine ZV_getIv (n := 63) dX12_part_60 fl_X12_134 rfl rfl rfl (rf_sh hR :).1 ((zI_pI _ _ _ _ _ _).trans (if_pos ⟨rfl, rfl⟩)) ?_
      refine ZV_iconst (v := nI 1) (n := 64) dX12_part_63 rfl rfl ?_
      refine ZV_isubN (n := 65) dX12_part_64 rfl (by omega) ?_
      refine ZV_iret dX12_part_65 rfl ?_
      exact zleaf (v := sOk (h_np (h_pk T (va_up (g_pk T) (g_np T) j)) (g_np T + 1)) (nI (g_np T))) (by simp [sp_part, h13, h29, nI_clamp hj2]) (by simp [sOk]) (rR_s0 (rR_part hR j) hsu)
    · skip
      refine ZV_aload_n (n := 33) dX12_part_32 rfl rfl rfl ?_
      refine ZV_bipush (v := -4) (n := 35) dX12_part_33 rfl rfl ?_
      refine call_X12_130 (c_no hR _) rfl dX12_part_35 rfl (rf_sh hR :).1 (Nat.le_of_ble_eq_true rfl) (Nat.le_of_ble_eq_true rfl) rfl (fun r9 σ9 hp9 => ?_)
      obtain ⟨rfl, hR⟩ := hp9
      refine ZV_iret dX12_part_38 rfl ?_
      exact zleaf (v := sNo T (-4)) (by simp [sp_part, h13, h29]) rfl hR
  · skip
    refine ZV_aload_n (n := 17) dX12_part_16 rfl rfl rfl ?_
    refine ZV_bipush (v := -2) (n := 19) dX12_part_17 rfl rfl ?_
    refine call_X12_130 (c_no hR _) rfl dX12_part_19 rfl (rf_sh hR :).1 (Nat.le_of_ble_eq_true rfl) (Nat.le_of_ble_eq_true rfl) rfl (fun r9 σ9 hp9 => ?_)
    obtain ⟨rfl, hR⟩ := hp9
    refine ZV_iret dX12_part_22 rfl ?_
    exact zleaf (v := sNo T (-2)) (by simp [sp_part, h13]) rfl hR
def sp_pitch (T : TS) (e i : Int32) : Int32 × TS := if evB T e = false then sNo T (-2) else if noB T e.toNatClampNeg = false then sFl T 2 (-13) (-13) else sOk T (if inB i (g_pn T e.toNatClampNeg) = true then nI (g_pi T e.toNatClampNeg i.toNatClampNeg) else -1)
def sp_event (T : TS) (v p : Int32) : Int32 × TS := if inB v (3 * g_np T) = false then sNo T (-2) else sOk T (if inB p (g_mn T v.toNatClampNeg) = true then nI (g_ro T v.toNatClampNeg p.toNatClampNeg) else -1)
set_option maxHeartbeats 4000000 in
set_option maxRecDepth 100000 in
theorem c_pitch {x : Nat} {σ : ZS} {T : TS} (hR : rR x σ T) (hI : tI T) (e i : Int32) : ZC M_X12_pitch [Ar (some x), Ai e, Ai i] σ (fun r τ => r = some (Ai (sp_pitch T e i).1) ∧ rR x τ (sp_pitch T e i).2) := by
  have hsp : sp_pitch T e i = sp_pitch (h_su T 0) e i := rfl
  rw [hsp]
  clear hsp
  refine ZC_of (ls := [some (Ar (some x)), some (Ai e), some (Ai i)]) (by decide) (Nat.le_of_ble_eq_true rfl) rfl ?_
  refine ZV_aload_n (n := 1) dX12_pitch_0 rfl rfl rfl ?_
  refine call_X12_144 (c_begin hR) rfl dX12_pitch_1 rfl (rf_sh hR :).1 (Nat.le_of_ble_eq_true rfl) (Nat.le_of_ble_eq_true rfl) rfl (fun r9 σ9 hp9 => ?_)
  obtain ⟨rfl, hR⟩ := hp9
  have hI := tI_su hI 0
  have hsu : g_su (h_su T 0) = 0 := rfl
  generalize h_su T 0 = T at hR hI hsu ⊢
  have hev := ti_ev hI
  refine ZV_aload_n (n := 5) dX12_pitch_4 rfl rfl rfl ?_
  refine ZV_iload_n (n := 6) dX12_pitch_5 rfl rfl rfl ?_
  refine call_X12_193 (c_isEvent hR hI _) rfl dX12_pitch_6 rfl (rf_sh hR :).1 (Nat.le_of_ble_eq_true rfl) (Nat.le_of_ble_eq_true rfl) rfl (fun r9 σ9 hp9 => ?_)
  obtain ⟨rfl, rfl⟩ := hp9
  refine ZV_if_neB (tgt := 19) (n := 12) dX12_pitch_9 (by decide) rfl (fun h9 => ?_) (fun h9 => ?_)
  · skip
    obtain ⟨j, hj, hjt, rfl⟩ := evB_t hI h9
    have hjx : j < 2147483648 := by omega
    have hpn := ti_pn hI j hj
    refine ZV_aload_n (n := 20) dX12_pitch_19 rfl rfl rfl ?_
    refine ZV_iload_n (n := 21) dX12_pitch_20 rfl rfl rfl ?_
    refine call_X12_214 (c_isNote hR hI _ (by omega)) rfl dX12_pitch_21 rfl (rf_sh hR :).1 (Nat.le_of_ble_eq_true rfl) (Nat.le_of_ble_eq_true rfl) rfl (fun r9 σ9 hp9 => ?_)
    obtain ⟨rfl, rfl⟩ := hp9
    refine ZV_if_neB (tgt := 34) (n := 27) dX12_pitch_24 (by decide) rfl (fun h24 => ?_) (fun h24 => ?_)
    · skip
      refine ZV_iload_n (n := 35) dX12_pitch_34 rfl rfl rfl ?_
      refine ZV_i2l (n := 36) dX12_pitch_35 rfl ?_
      refine ZV_lconst (v := lN 0) (n := 37) dX12_pitch_36 rfl rfl ?_
      refine ZV_aload_n (n := 38) dX12_pitch_37 rfl rfl rfl ?_
      refine ZV_getR (n := 41) dX12_pitch_38 fl_X12_27 rfl rfl rfl (rf_sh hR :).1 ?_
      refine ZV_iload_n (n := 42) dX12_pitch_41 rfl rfl rfl ?_
      refine ZV_ialdv (n := 43) dX12_pitch_42 rfl (ra_pitches (rf_sh hR :) :) (rk_pitches (rf_sh hR :) :) rfl (by omega) (rf_pitches hR _ (by omega)) ?_
      refine ZV_iconst (v := nI 1) (n := 44) dX12_pitch_43 rfl rfl ?_
      refine ZV_isub (n := 45) dX12_pitch_44 rfl ?_
      refine ZV_i2l (n := 46) dX12_pitch_45 rfl ?_
      refine call_X12_137 (c_inS _ i (by omega)) rfl dX12_pitch_46 (Nat.le_of_ble_eq_true rfl) (Nat.le_of_ble_eq_true rfl) rfl (fun r9 σ9 hp9 => ?_)
      obtain ⟨rfl, rfl⟩ := hp9
      refine ZV_if_eqB (tgt := 66) (n := 52) dX12_pitch_49 (by decide) rfl (fun h49 => ?_) (fun h49 => ?_)
      · skip
        refine ZV_iconst (v := -1) (n := 67) dX12_pitch_66 rfl rfl ?_
        refine ZV_iret dX12_pitch_67 rfl ?_
        exact zleaf (v := sOk T (-1)) (by simp [sp_pitch, h9, h24, h49, nI_clamp hjx]) rfl (rR_s0 hR hsu)
      · skip
        obtain ⟨q, hq, hq2, rfl⟩ := inB_t h49
        refine ZV_aload_n (n := 53) dX12_pitch_52 rfl rfl rfl ?_
        refine ZV_getR (n := 56) dX12_pitch_53 fl_X12_30 rfl rfl rfl (rf_sh hR :).1 ?_
        refine ZV_bipush (v := nI 6) (n := 58) dX12_pitch_56 rfl rfl ?_
        refine ZV_iload_n (n := 59) dX12_pitch_58 rfl rfl rfl ?_
        refine ZV_imulN (n := 60) dX12_pitch_59 rfl ?_
        refine ZV_iload_n (n := 61) dX12_pitch_60 rfl rfl rfl ?_
        refine ZV_iaddN (n := 62) dX12_pitch_61 rfl ?_
        refine ZV_ialdv (n := 63) dX12_pitch_62 rfl (ra_pitchOf (rf_sh hR :) :) (rk_pitchOf (rf_sh hR :) :) rfl (by omega) (rf_pitchOf hR _ _ (by omega) (by omega)) ?_
        refine ZV_goto (tgt := 67) dX12_pitch_63 (by decide) ?_
        refine ZV_iret dX12_pitch_67 rfl ?_
        exact zleaf (v := sOk T (nI (g_pi T j q))) (by simp [sp_pitch, h9, h24, h49, nI_clamp hjx, nI_clamp hq2]) rfl (rR_s0 hR hsu)
    · skip
      refine ZV_aload_n (n := 28) dX12_pitch_27 rfl rfl rfl ?_
      refine ZV_bipush (v := -13) (n := 30) dX12_pitch_28 rfl rfl ?_
      refine call_X12_211 (c_fails hR (-13) 2 (by decide) rfl) rfl dX12_pitch_30 rfl (rf_sh hR :).1 (Nat.le_of_ble_eq_true rfl) (Nat.le_of_ble_eq_true rfl) rfl (fun r9 σ9 hp9 => ?_)
      obtain ⟨rfl, hR⟩ := hp9
      refine ZV_iret dX12_pitch_33 rfl ?_
      exact zleaf (v := sFl T 2 (-13) (-13)) (by simp [sp_pitch, h9, h24, nI_clamp hjx]) rfl hR
  · skip
    refine ZV_aload_n (n := 13) dX12_pitch_12 rfl rfl rfl ?_
    refine ZV_bipush (v := -2) (n := 15) dX12_pitch_13 rfl rfl ?_
    refine call_X12_130 (c_no hR _) rfl dX12_pitch_15 rfl (rf_sh hR :).1 (Nat.le_of_ble_eq_true rfl) (Nat.le_of_ble_eq_true rfl) rfl (fun r9 σ9 hp9 => ?_)
    obtain ⟨rfl, hR⟩ := hp9
    refine ZV_iret dX12_pitch_18 rfl ?_
    exact zleaf (v := sNo T (-2)) (by simp [sp_pitch, h9]) rfl hR
set_option maxHeartbeats 4000000 in
set_option maxRecDepth 100000 in
theorem c_event {x : Nat} {σ : ZS} {T : TS} (hR : rR x σ T) (hI : tI T) (v p : Int32) : ZC M_X12_event [Ar (some x), Ai v, Ai p] σ (fun r τ => r = some (Ai (sp_event T v p).1) ∧ rR x τ (sp_event T v p).2) := by
  have hsp : sp_event T v p = sp_event (h_su T 0) v p := rfl
  rw [hsp]
  clear hsp
  refine ZC_of (ls := [some (Ar (some x)), some (Ai v), some (Ai p)]) (by decide) (Nat.le_of_ble_eq_true rfl) rfl ?_
  refine ZV_aload_n (n := 1) dX12_event_0 rfl rfl rfl ?_
  refine call_X12_144 (c_begin hR) rfl dX12_event_1 rfl (rf_sh hR :).1 (Nat.le_of_ble_eq_true rfl) (Nat.le_of_ble_eq_true rfl) rfl (fun r9 σ9 hp9 => ?_)
  obtain ⟨rfl, hR⟩ := hp9
  have hI := tI_su hI 0
  have hsu : g_su (h_su T 0) = 0 := rfl
  generalize h_su T 0 = T at hR hI hsu ⊢
  have hnp := ti_np hI
  refine ZV_aload_n (n := 5) dX12_event_4 rfl rfl rfl ?_
  refine ZV_iload_n (n := 6) dX12_event_5 rfl rfl rfl ?_
  refine call_X12_184 (c_isVoice hR hI _) rfl dX12_event_6 rfl (rf_sh hR :).1 (Nat.le_of_ble_eq_true rfl) (Nat.le_of_ble_eq_true rfl) rfl (fun r9 σ9 hp9 => ?_)
  obtain ⟨rfl, rfl⟩ := hp9
  refine ZV_if_neB (tgt := 19) (n := 12) dX12_event_9 (by decide) rfl (fun h9 => ?_) (fun h9 => ?_)
  · skip
    obtain ⟨j, hj, hjx, rfl⟩ := inB_t h9
    have hmn := ti_mn hI j
    refine ZV_iload_n (n := 20) dX12_event_19 rfl rfl rfl ?_
    refine ZV_i2l (n := 21) dX12_event_20 rfl ?_
    refine ZV_lconst (v := lN 0) (n := 22) dX12_event_21 rfl rfl ?_
    refine ZV_aload_n (n := 23) dX12_event_22 rfl rfl rfl ?_
    refine ZV_getR (n := 26) dX12_event_23 fl_X12_45 rfl rfl rfl (rf_sh hR :).1 ?_
    refine ZV_iload_n (n := 27) dX12_event_26 rfl rfl rfl ?_
    refine ZV_ialdv (n := 28) dX12_event_27 rfl (ra_many (rf_sh hR :) :) (rk_many (rf_sh hR :) :) rfl (by omega) (rf_many hR _ (by omega)) ?_
    refine ZV_iconst (v := nI 1) (n := 29) dX12_event_28 rfl rfl ?_
    refine ZV_isub (n := 30) dX12_event_29 rfl ?_
    refine ZV_i2l (n := 31) dX12_event_30 rfl ?_
    refine call_X12_137 (c_inS _ p (by omega)) rfl dX12_event_31 (Nat.le_of_ble_eq_true rfl) (Nat.le_of_ble_eq_true rfl) rfl (fun r9 σ9 hp9 => ?_)
    obtain ⟨rfl, rfl⟩ := hp9
    refine ZV_if_eqB (tgt := 51) (n := 37) dX12_event_34 (by decide) rfl (fun h34 => ?_) (fun h34 => ?_)
    · skip
      refine ZV_iconst (v := -1) (n := 52) dX12_event_51 rfl rfl ?_
      refine ZV_iret dX12_event_52 rfl ?_
      exact zleaf (v := sOk T (-1)) (by simp [sp_event, h9, h34, nI_clamp hjx]) rfl (rR_s0 hR hsu)
    · skip
      obtain ⟨q, hq, hq2, rfl⟩ := inB_t h34
      refine ZV_aload_n (n := 38) dX12_event_37 rfl rfl rfl ?_
      refine ZV_getR (n := 41) dX12_event_38 fl_X12_42 rfl rfl rfl (rf_sh hR :).1 ?_
      refine ZV_bipush (v := nI 40) (n := 43) dX12_event_41 rfl rfl ?_
      refine ZV_iload_n (n := 44) dX12_event_43 rfl rfl rfl ?_
      refine ZV_imulN (n := 45) dX12_event_44 rfl ?_
      refine ZV_iload_n (n := 46) dX12_event_45 rfl rfl rfl ?_
      refine ZV_iaddN (n := 47) dX12_event_46 rfl ?_
      refine ZV_ialdv (n := 48) dX12_event_47 rfl (ra_row (rf_sh hR :) :) (rk_row (rf_sh hR :) :) rfl (by omega) (rf_row hR _ _ (by omega) (by omega)) ?_
      refine ZV_goto (tgt := 52) dX12_event_48 (by decide) ?_
      refine ZV_iret dX12_event_52 rfl ?_
      exact zleaf (v := sOk T (nI (g_ro T j q))) (by simp [sp_event, h9, h34, nI_clamp hjx, nI_clamp hq2]) rfl (rR_s0 hR hsu)
  · skip
    refine ZV_aload_n (n := 13) dX12_event_12 rfl rfl rfl ?_
    refine ZV_bipush (v := -2) (n := 15) dX12_event_13 rfl rfl ?_
    refine call_X12_130 (c_no hR _) rfl dX12_event_15 rfl (rf_sh hR :).1 (Nat.le_of_ble_eq_true rfl) (Nat.le_of_ble_eq_true rfl) rfl (fun r9 σ9 hp9 => ?_)
    obtain ⟨rfl, hR⟩ := hp9
    refine ZV_iret dX12_event_18 rfl ?_
    exact zleaf (v := sNo T (-2)) (by simp [sp_event, h9]) rfl hR
