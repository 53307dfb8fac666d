def sNo (T : TS) (c : Int32) : Int32 × TS := (c, h_su T c)
def sFl (T : TS) (i : Nat) (c r : Int32) : Int32 × TS := (r, h_su (h_fa T (va_up (g_fa T) i (g_fa T i + 1))) c)
def sOk (T : TS) (r : Int32) : Int32 × TS := (r, h_su T 0)
def sp_part (T : TS) (k : Int32) : Int32 × TS := if inB k 6 = false then sNo T (-2) else if g_np T = 6 then sNo T (-4) else sOk (h_np (h_pk T (va_up (g_pk T) (g_np T) k.toNatClampNeg)) (g_np T + 1)) (nI (g_np T))
theorem rR_part {x : Nat} {σ : ZS} {T : TS} (h : rR x σ T) (k : Nat) : rR x (pI (qi σ (x + 1) (g_np T) (nI k)) 768 x (nI (g_np T + 1))) (h_np (h_pk T (va_up (g_pk T) (g_np T) k)) (g_np T + 1)) := by
  have hsh : rA x (pI (qi σ (x + 1) (g_np T) (nI k)) 768 x (nI (g_np T + 1))) := (rf_sh h :)
  exact ⟨hsh, (by simp [zI_pI, g_np, h_np, h_pk, va_up]), (fun i hi => by
      have hi : i < g_np T + 1 := hi
      show zi (qi σ (x + 1) (g_np T) (nI k)) (x + 1) i = nI (va_up (g_pk T) (g_np T) k i)
      rw [zi_qi]
      unfold va_up
      by_cases hq : i = g_np T
      · simp [hq]
      · simp only [hq, and_false, ite_false]
        exact rf_partKind h i (by omega)), (rf_bars h :), (fun i0 q0 => Eq.trans (by simp only [zi_qi, zl_ql, zi_pI, zi_pL, zl_pI, zl_pL, zi_ql, zl_qi, Nat.add_left_cancel_iff, Nat.reduceEqDiff, false_and, ite_false]; try rfl) (rf_barTime h i0 q0)), (rf_ever h :), (rf_there h :), (fun i0 q0 => Eq.trans (by simp only [zi_qi, zl_ql, zi_pI, zi_pL, zl_pI, zl_pL, zi_ql, zl_qi, Nat.add_left_cancel_iff, Nat.reduceEqDiff, false_and, ite_false]; try rfl) (rf_isThere h i0 q0)), (fun i0 q0 => Eq.trans (by simp only [zi_qi, zl_ql, zi_pI, zi_pL, zl_pI, zl_pL, zi_ql, zl_qi, Nat.add_left_cancel_iff, Nat.reduceEqDiff, false_and, ite_false]; try rfl) (rf_voiceOf h i0 q0)), (fun i0 q0 => Eq.trans (by simp only [zi_qi, zl_ql, zi_pI, zi_pL, zl_pI, zl_pL, zi_ql, zl_qi, Nat.add_left_cancel_iff, Nat.reduceEqDiff, false_and, ite_false]; try rfl) (rf_kindOf h i0 q0)), (fun i0 q0 => Eq.trans (by simp only [zi_qi, zl_ql, zi_pI, zi_pL, zl_pI, zl_pL, zi_ql, zl_qi, Nat.add_left_cancel_iff, Nat.reduceEqDiff, false_and, ite_false]; try rfl) (rf_pitches h i0 q0)), (fun i0 i1 q0 q1 => Eq.trans (by simp only [zi_qi, zl_ql, zi_pI, zi_pL, zl_pI, zl_pL, zi_ql, zl_qi, Nat.add_left_cancel_iff, Nat.reduceEqDiff, false_and, ite_false]; try rfl) (rf_pitchOf h i0 i1 q0 q1)), (fun i0 q0 => Eq.trans (by simp only [zi_qi, zl_ql, zi_pI, zi_pL, zl_pI, zl_pL, zi_ql, zl_qi, Nat.add_left_cancel_iff, Nat.reduceEqDiff, false_and, ite_false]; try rfl) (rf_valueOf h i0 q0)), (fun i0 q0 => Eq.trans (by simp only [zi_qi, zl_ql, zi_pI, zi_pL, zl_pI, zl_pL, zi_ql, zl_qi, Nat.add_left_cancel_iff, Nat.reduceEqDiff, false_and, ite_false]; try rfl) (rf_dotsOf h i0 q0)), (fun i0 q0 => Eq.trans (by simp only [zi_qi, zl_ql, zi_pI, zi_pL, zl_pI, zl_pL, zi_ql, zl_qi, Nat.add_left_cancel_iff, Nat.reduceEqDiff, false_and, ite_false]; try rfl) (rf_isTied h i0 q0)), (fun i0 q0 => Eq.trans (by simp only [zi_qi, zl_ql, zi_pI, zi_pL, zl_pI, zl_pL, zi_ql, zl_qi, Nat.add_left_cancel_iff, Nat.reduceEqDiff, false_and, ite_false]; try rfl) (rf_many h i0 q0)), (fun i0 i1 q0 q1 => Eq.trans (by simp only [zi_qi, zl_ql, zi_pI, zi_pL, zl_pI, zl_pL, zi_ql, zl_qi, Nat.add_left_cancel_iff, Nat.reduceEqDiff, false_and, ite_false]; try rfl) (rf_row h i0 i1 q0 q1)), (rf_tupletsEver h :), (rf_tupletsThere h :), (fun i0 q0 => Eq.trans (by simp only [zi_qi, zl_ql, zi_pI, zi_pL, zl_pI, zl_pL, zi_ql, zl_qi, Nat.add_left_cancel_iff, Nat.reduceEqDiff, false_and, ite_false]; try rfl) (rf_isTuplet h i0 q0)), (fun i0 q0 => Eq.trans (by simp only [zi_qi, zl_ql, zi_pI, zi_pL, zl_pI, zl_pL, zi_ql, zl_qi, Nat.add_left_cancel_iff, Nat.reduceEqDiff, false_and, ite_false]; try rfl) (rf_tupletVoice h i0 q0)), (fun i0 q0 => Eq.trans (by simp only [zi_qi, zl_ql, zi_pI, zi_pL, zl_pI, zl_pL, zi_ql, zl_qi, Nat.add_left_cancel_iff, Nat.reduceEqDiff, false_and, ite_false]; try rfl) (rf_tupletFirst h i0 q0)), (fun i0 q0 => Eq.trans (by simp only [zi_qi, zl_ql, zi_pI, zi_pL, zl_pI, zl_pL, zi_ql, zl_qi, Nat.add_left_cancel_iff, Nat.reduceEqDiff, false_and, ite_false]; try rfl) (rf_tupletLast h i0 q0)), (fun i0 q0 => Eq.trans (by simp only [zi_qi, zl_ql, zi_pI, zi_pL, zl_pI, zl_pL, zi_ql, zl_qi, Nat.add_left_cancel_iff, Nat.reduceEqDiff, false_and, ite_false]; try rfl) (rf_tupletN h i0 q0)), (fun i0 q0 => Eq.trans (by simp only [zi_qi, zl_ql, zi_pI, zi_pL, zl_pI, zl_pL, zi_ql, zl_qi, Nat.add_left_cancel_iff, Nat.reduceEqDiff, false_and, ite_false]; try rfl) (rf_tupletM h i0 q0)), (fun i0 q0 => Eq.trans (by simp only [zi_qi, zl_ql, zi_pI, zi_pL, zl_pI, zl_pL, zi_ql, zl_qi, Nat.add_left_cancel_iff, Nat.reduceEqDiff, false_and, ite_false]; try rfl) (rf_tupletUnit h i0 q0)), (rf_linesEver h :), (rf_linesThere h :), (fun i0 q0 => Eq.trans (by simp only [zi_qi, zl_ql, zi_pI, zi_pL, zl_pI, zl_pL, zi_ql, zl_qi, Nat.add_left_cancel_iff, Nat.reduceEqDiff, false_and, ite_false]; try rfl) (rf_isLine h i0 q0)), (fun i0 q0 => Eq.trans (by simp only [zi_qi, zl_ql, zi_pI, zi_pL, zl_pI, zl_pL, zi_ql, zl_qi, Nat.add_left_cancel_iff, Nat.reduceEqDiff, false_and, ite_false]; try rfl) (rf_lineKind h i0 q0)), (fun i0 q0 => Eq.trans (by simp only [zi_qi, zl_ql, zi_pI, zi_pL, zl_pI, zl_pL, zi_ql, zl_qi, Nat.add_left_cancel_iff, Nat.reduceEqDiff, false_and, ite_false]; try rfl) (rf_lineFrom h i0 q0)), (fun i0 q0 => Eq.trans (by simp only [zi_qi, zl_ql, zi_pI, zi_pL, zl_pI, zl_pL, zi_ql, zl_qi, Nat.add_left_cancel_iff, Nat.reduceEqDiff, false_and, ite_false]; try rfl) (rf_lineTo h i0 q0)), (rf_walkMany h :), (fun i0 q0 => Eq.trans (by simp only [zi_qi, zl_ql, zi_pI, zi_pL, zl_pI, zl_pL, zi_ql, zl_qi, Nat.add_left_cancel_iff, Nat.reduceEqDiff, false_and, ite_false]; try rfl) (rf_walkRow h i0 q0)), (rf_found h :), (fun i0 q0 q1 => Eq.trans (by simp only [zi_qi, zl_ql, zi_pI, zi_pL, zl_pI, zl_pL, zi_ql, zl_qi, Nat.add_left_cancel_iff, Nat.reduceEqDiff, false_and, ite_false]; try rfl) (rf_findings h i0 q0 q1)), (fun i0 q0 => Eq.trans (by simp only [zi_qi, zl_ql, zi_pI, zi_pL, zl_pI, zl_pL, zi_ql, zl_qi, Nat.add_left_cancel_iff, Nat.reduceEqDiff, false_and, ite_false]; try rfl) (rf_hasRack h i0 q0)), (fun i0 q0 q1 => Eq.trans (by simp only [zi_qi, zl_ql, zi_pI, zi_pL, zl_pI, zl_pL, zi_ql, zl_qi, Nat.add_left_cancel_iff, Nat.reduceEqDiff, false_and, ite_false]; try rfl) (rf_rackKind h i0 q0 q1)), (fun i0 q0 q1 => Eq.trans (by simp only [zi_qi, zl_ql, zi_pI, zi_pL, zl_pI, zl_pL, zi_ql, zl_qi, Nat.add_left_cancel_iff, Nat.reduceEqDiff, false_and, ite_false]; try rfl) (rf_rackSize h i0 q0 q1)), (fun i0 i1 q0 q1 q2 => Eq.trans (by simp only [zi_qi, zl_ql, zi_pI, zi_pL, zl_pI, zl_pL, zi_ql, zl_qi, Nat.add_left_cancel_iff, Nat.reduceEqDiff, false_and, ite_false]; try rfl) (rf_rackRow h i0 i1 q0 q1 q2)), (fun i0 q0 => Eq.trans (by simp only [zi_qi, zl_ql, zi_pI, zi_pL, zl_pI, zl_pL, zi_ql, zl_qi, Nat.add_left_cancel_iff, Nat.reduceEqDiff, false_and, ite_false]; try rfl) (rf_hasShelf h i0 q0)), (fun i0 q0 q1 => Eq.trans (by simp only [zi_qi, zl_ql, zi_pI, zi_pL, zl_pI, zl_pL, zi_ql, zl_qi, Nat.add_left_cancel_iff, Nat.reduceEqDiff, false_and, ite_false]; try rfl) (rf_shelfKind h i0 q0 q1)), (fun i0 q0 q1 => Eq.trans (by simp only [zi_qi, zl_ql, zi_pI, zi_pL, zl_pI, zl_pL, zi_ql, zl_qi, Nat.add_left_cancel_iff, Nat.reduceEqDiff, false_and, ite_false]; try rfl) (rf_shelfSize h i0 q0 q1)), (fun i0 i1 q0 q1 q2 => Eq.trans (by simp only [zi_qi, zl_ql, zi_pI, zi_pL, zl_pI, zl_pL, zi_ql, zl_qi, Nat.add_left_cancel_iff, Nat.reduceEqDiff, false_and, ite_false]; try rfl) (rf_shelfRow h i0 i1 q0 q1 q2)), (fun i0 q0 => Eq.trans (by simp only [zi_qi, zl_ql, zi_pI, zi_pL, zl_pI, zl_pL, zi_ql, zl_qi, Nat.add_left_cancel_iff, Nat.reduceEqDiff, false_and, ite_false]; try rfl) (rf_failed h i0 q0)), (rf_status h :), (rf_trace h :)⟩
set_option maxHeartbeats 4000000 in
set_option maxRecDepth 100000 in
theorem c_part {x : Nat} {σ : ZS} {T : TS} (hR : rR x σ T) (hI : tI T) (k : Int32) : ZC M_X12_part [Ar (some x), Ai k] σ (fun r τ => r = some (Ai (sp_part T k).1) ∧ rR x τ (sp_part T k).2) := by
  have hsp : sp_part T k = sp_part (h_su T 0) k := rfl
  rw [hsp]
  clear hsp
  refine ZC_of (ls := [some (Ar (some x)), some (Ai k)]) (by decide) (Nat.le_of_ble_eq_true rfl) rfl ?_
  refine ZV_aload_n (n := 1) dX12_part_0 rfl rfl rfl ?_
  refine call_X12_144 (c_begin hR) rfl dX12_part_1 rfl (rf_sh hR :).1 (Nat.le_of_ble_eq_true rfl) (Nat.le_of_ble_eq_true rfl) rfl (fun r9 σ9 hp9 => ?_)
  obtain ⟨rfl, hR⟩ := hp9
  have hI := tI_su hI 0
  have hsu : g_su (h_su T 0) = 0 := rfl
  generalize h_su T 0 = T at hR hI hsu ⊢
  have hnp := ti_np hI
  refine ZV_iload_n (n := 5) dX12_part_4 rfl rfl rfl ?_
  refine ZV_i2l (n := 6) dX12_part_5 rfl ?_
  refine ZV_lconst (v := lN 0) (n := 7) dX12_part_6 rfl rfl ?_
  refine ZV_ldc2 (v := lN 5) (n := 10) dX12_part_7 wd_5_84 rfl ?_
  refine call_X12_137 (c_inC _ k (by decide)) rfl dX12_part_10 (Nat.le_of_ble_eq_true rfl) (Nat.le_of_ble_eq_true rfl) rfl (fun r9 σ9 hp9 => ?_)
  obtain ⟨rfl, rfl⟩ := hp9
  refine ZV_if_neB (tgt := 23) (n := 16) dX12_part_13 (by decide) rfl (fun h13 => ?_) (fun h13 => ?_)
  · skip
    refine ZV_aload_n (n := 24) dX12_part_23 rfl rfl rfl ?_
    refine ZV_getIv (n := 27) dX12_part_24 fl_X12_134 rfl rfl rfl (rf_sh hR :).1 (rf_parts hR :) ?_
    refine ZV_bipush (v := nI 6) (n := 29) dX12_part_27 rfl rfl ?_
    refine ZV_icmp_neN (tgt := 39) (n := 32) dX12_part_29 (by decide) rfl (by omega) (by omega) (fun h29 => ?_) (fun h29 => ?_)
    · skip
      obtain ⟨j, hj, hj2, rfl⟩ := inB_t h13
      refine ZV_aload_n (n := 40) dX12_part_39 rfl rfl rfl ?_
      refine ZV_getR (n := 43) dX12_part_40 fl_X12_7 rfl rfl rfl (rf_sh hR :).1 ?_
      refine ZV_aload_n (n := 44) dX12_part_43 rfl rfl rfl ?_
      refine ZV_getIv (n := 47) dX12_part_44 fl_X12_134 rfl rfl rfl (rf_sh hR :).1 (rf_parts hR :) ?_
      refine ZV_iload_n (n := 48) dX12_part_47 rfl rfl rfl ?_
      refine ZV_iast (n := 49) dX12_part_48 rfl (ra_partKind (rf_sh hR :) :) (rk_partKind (rf_sh hR :) :) rfl (by omega) ?_
      refine ZV_aload_n (n := 50) dX12_part_49 rfl rfl rfl ?_
      refine ZV_dup (n := 51) dX12_part_50 rfl rfl ?_
      refine ZV_getIv (n := 54) dX12_part_51 fl_X12_134 rfl rfl rfl (rf_sh hR :).1 (rf_parts hR :) ?_
      refine ZV_iconst (v := nI 1) (n := 55) dX12_part_54 rfl rfl ?_
      refine ZV_iaddN (n := 56) dX12_part_55 rfl ?_
      refine ZV_putI (n := 59) dX12_part_56 fl_X12_134 rfl (Or.inl rfl) rfl (fun h => absurd h (by decide)) rfl (rf_sh hR :).1 ?_
      refine ZV_aload_n (n := 60) dX12_part_59 rfl rfl rfl ?_
      refine ZV_getIv (n := 63) dX12_part_60 fl_X12_134 rfl rfl rfl (rf_sh hR :).1 ((zI_pI _ _ _ _ _ _).trans (if_pos ⟨rfl, rfl⟩)) ?_
      refine ZV_iconst (v := nI 1) (n := 64) dX12_part_63 rfl rfl ?_
      refine ZV_isubN (n := 65) dX12_part_64 rfl (by omega) ?_
      refine ZV_iret dX12_part_65 rfl ?_
      have e1 : sp_part T (nI j) = sOk (h_np (h_pk T (va_up (g_pk T) (g_np T) j)) (g_np T + 1)) (nI (g_np T)) := by simp [sp_part, h13, h29, nI_clamp hj2]
      rw [e1]
      exact ⟨by simp [sOk], rR_s0 (rR_part hR j) hsu⟩
    · skip
      refine ZV_aload_n (n := 33) dX12_part_32 rfl rfl rfl ?_
      refine ZV_bipush (v := -4) (n := 35) dX12_part_33 rfl rfl ?_
      refine call_X12_130 (c_no hR _) rfl dX12_part_35 rfl (rf_sh hR :).1 (Nat.le_of_ble_eq_true rfl) (Nat.le_of_ble_eq_true rfl) rfl (fun r9 σ9 hp9 => ?_)
      obtain ⟨rfl, hR⟩ := hp9
      refine ZV_iret dX12_part_38 rfl ?_
      exact ⟨by simp [sp_part, h13, h29, sNo], by simp [sp_part, h13, h29, sNo]; exact hR⟩
  · skip
    refine ZV_aload_n (n := 17) dX12_part_16 rfl rfl rfl ?_
    refine ZV_bipush (v := -2) (n := 19) dX12_part_17 rfl rfl ?_
    refine call_X12_130 (c_no hR _) rfl dX12_part_19 rfl (rf_sh hR :).1 (Nat.le_of_ble_eq_true rfl) (Nat.le_of_ble_eq_true rfl) rfl (fun r9 σ9 hp9 => ?_)
    obtain ⟨rfl, hR⟩ := hp9
    refine ZV_iret dX12_part_22 rfl ?_
    exact ⟨by simp [sp_part, h13, sNo], by simp only [sp_part, h13, sNo]; exact hR⟩
