theorem rR_su {x : Nat} {σ : ZS} {T : TS} (h : rR x σ T) (v : Int32) : rR x (pI σ 814 x v) (h_su T v) := ⟨(rf_sh h :), (rf_parts h :), (rf_partKind h :), (rf_bars h :), (rf_barTime h :), (rf_ever h :), (rf_there h :), (rf_isThere h :), (rf_voiceOf h :), (rf_kindOf h :), (rf_pitches h :), (rf_pitchOf h :), (rf_valueOf h :), (rf_dotsOf h :), (rf_isTied h :), (rf_many h :), (rf_row h :), (rf_tupletsEver h :), (rf_tupletsThere h :), (rf_isTuplet h :), (rf_tupletVoice h :), (rf_tupletFirst h :), (rf_tupletLast h :), (rf_tupletN h :), (rf_tupletM h :), (rf_tupletUnit h :), (rf_linesEver h :), (rf_linesThere h :), (rf_isLine h :), (rf_lineKind h :), (rf_lineFrom h :), (rf_lineTo h :), (rf_walkMany h :), (rf_walkRow h :), (rf_found h :), (rf_findings h :), (rf_hasRack h :), (rf_rackKind h :), (rf_rackSize h :), (rf_rackRow h :), (rf_hasShelf h :), (rf_shelfKind h :), (rf_shelfSize h :), (rf_shelfRow h :), (rf_failed h :), by simp [zI_pI, g_su, h_su], (rf_trace h :)⟩
theorem rR_thrown {x : Nat} {σ : ZS} {T : TS} (h : rR x σ T) (v : Int32) : rR x (pI σ 816 x v) T := ⟨(rf_sh h :), (rf_parts h :), (rf_partKind h :), (rf_bars h :), (rf_barTime h :), (rf_ever h :), (rf_there h :), (rf_isThere h :), (rf_voiceOf h :), (rf_kindOf h :), (rf_pitches h :), (rf_pitchOf h :), (rf_valueOf h :), (rf_dotsOf h :), (rf_isTied h :), (rf_many h :), (rf_row h :), (rf_tupletsEver h :), (rf_tupletsThere h :), (rf_isTuplet h :), (rf_tupletVoice h :), (rf_tupletFirst h :), (rf_tupletLast h :), (rf_tupletN h :), (rf_tupletM h :), (rf_tupletUnit h :), (rf_linesEver h :), (rf_linesThere h :), (rf_isLine h :), (rf_lineKind h :), (rf_lineFrom h :), (rf_lineTo h :), (rf_walkMany h :), (rf_walkRow h :), (rf_found h :), (rf_findings h :), (rf_hasRack h :), (rf_rackKind h :), (rf_rackSize h :), (rf_rackRow h :), (rf_hasShelf h :), (rf_shelfKind h :), (rf_shelfSize h :), (rf_shelfRow h :), (rf_failed h :), (rf_status h :), (rf_trace h :)⟩
theorem rR_laid {x : Nat} {σ : ZS} {T : TS} (h : rR x σ T) (v : Int32) : rR x (pI σ 818 x v) T := ⟨(rf_sh h :), (rf_parts h :), (rf_partKind h :), (rf_bars h :), (rf_barTime h :), (rf_ever h :), (rf_there h :), (rf_isThere h :), (rf_voiceOf h :), (rf_kindOf h :), (rf_pitches h :), (rf_pitchOf h :), (rf_valueOf h :), (rf_dotsOf h :), (rf_isTied h :), (rf_many h :), (rf_row h :), (rf_tupletsEver h :), (rf_tupletsThere h :), (rf_isTuplet h :), (rf_tupletVoice h :), (rf_tupletFirst h :), (rf_tupletLast h :), (rf_tupletN h :), (rf_tupletM h :), (rf_tupletUnit h :), (rf_linesEver h :), (rf_linesThere h :), (rf_isLine h :), (rf_lineKind h :), (rf_lineFrom h :), (rf_lineTo h :), (rf_walkMany h :), (rf_walkRow h :), (rf_found h :), (rf_findings h :), (rf_hasRack h :), (rf_rackKind h :), (rf_rackSize h :), (rf_rackRow h :), (rf_hasShelf h :), (rf_shelfKind h :), (rf_shelfSize h :), (rf_shelfRow h :), (rf_failed h :), (rf_status h :), (rf_trace h :)⟩
theorem rR_tr {x : Nat} {σ : ZS} {T : TS} (h : rR x σ T) (v : Int64) : rR x (pL σ 815 x v) (h_tr T v) := ⟨(rf_sh h :), (rf_parts h :), (rf_partKind h :), (rf_bars h :), (rf_barTime h :), (rf_ever h :), (rf_there h :), (rf_isThere h :), (rf_voiceOf h :), (rf_kindOf h :), (rf_pitches h :), (rf_pitchOf h :), (rf_valueOf h :), (rf_dotsOf h :), (rf_isTied h :), (rf_many h :), (rf_row h :), (rf_tupletsEver h :), (rf_tupletsThere h :), (rf_isTuplet h :), (rf_tupletVoice h :), (rf_tupletFirst h :), (rf_tupletLast h :), (rf_tupletN h :), (rf_tupletM h :), (rf_tupletUnit h :), (rf_linesEver h :), (rf_linesThere h :), (rf_isLine h :), (rf_lineKind h :), (rf_lineFrom h :), (rf_lineTo h :), (rf_walkMany h :), (rf_walkRow h :), (rf_found h :), (rf_findings h :), (rf_hasRack h :), (rf_rackKind h :), (rf_rackSize h :), (rf_rackRow h :), (rf_hasShelf h :), (rf_shelfKind h :), (rf_shelfSize h :), (rf_shelfRow h :), (rf_failed h :), (rf_status h :), by simp [zL_pL, g_tr, h_tr]⟩
set_option maxHeartbeats 4000000 in
set_option maxRecDepth 100000 in
theorem c_in (σ : ZS) (v l h : Int64) : ZC M_X12_in [Al v, Al l, Al h] σ (fun r τ => r = some (Ai (bI (decide (l ≤ v ∧ v ≤ h)))) ∧ τ = σ) := by
  refine ZC_of (ls := [some (Al v), none, some (Al l), none, some (Al h), none]) (by decide) (Nat.le_of_ble_eq_true rfl) rfl ?_
  refine ZV_lload_n (n := 1) dX12_in_0 rfl rfl rfl ?_
  refine ZV_lload_n (n := 2) dX12_in_1 rfl rfl rfl ?_
  refine ZV_lcmp_lt (tgt := 17) (pc1 := 3) (n := 6) dX12_in_2 rfl dX12_in_3 (by decide) rfl (fun h2 => ?_) (fun h2 => ?_)
  · skip
    refine ZV_iconst (v := nI 0) (n := 18) dX12_in_17 rfl rfl ?_
    refine ZV_zret dX12_in_18 rfl (by first | exact Or.inl rfl | exact Or.inr rfl) ?_
    refine ⟨?_, rfl⟩
    simp only [Int64.lt_iff_toInt_lt, Int64.le_iff_toInt_le] at *
    first | (rw [show decide (l.toInt ≤ v.toInt ∧ v.toInt ≤ h.toInt) = true from decide_eq_true (by omega)]; rfl) | (rw [show decide (l.toInt ≤ v.toInt ∧ v.toInt ≤ h.toInt) = false from decide_eq_false (by omega)]; rfl)
  · skip
    refine ZV_lload_n (n := 7) dX12_in_6 rfl rfl rfl ?_
    refine ZV_lload (n := 9) dX12_in_7 rfl rfl ?_
    refine ZV_lcmp_gt (tgt := 17) (pc1 := 10) (n := 13) dX12_in_9 rfl dX12_in_10 (by decide) rfl (fun h9 => ?_) (fun h9 => ?_)
    · skip
      refine ZV_iconst (v := nI 0) (n := 18) dX12_in_17 rfl rfl ?_
      refine ZV_zret dX12_in_18 rfl (by first | exact Or.inl rfl | exact Or.inr rfl) ?_
      refine ⟨?_, rfl⟩
      simp only [Int64.lt_iff_toInt_lt, Int64.le_iff_toInt_le] at *
      first | (rw [show decide (l.toInt ≤ v.toInt ∧ v.toInt ≤ h.toInt) = true from decide_eq_true (by omega)]; rfl) | (rw [show decide (l.toInt ≤ v.toInt ∧ v.toInt ≤ h.toInt) = false from decide_eq_false (by omega)]; rfl)
    · skip
      refine ZV_iconst (v := nI 1) (n := 14) dX12_in_13 rfl rfl ?_
      refine ZV_goto (tgt := 18) dX12_in_14 (by decide) ?_
      refine ZV_zret dX12_in_18 rfl (by first | exact Or.inl rfl | exact Or.inr rfl) ?_
      refine ⟨?_, rfl⟩
      simp only [Int64.lt_iff_toInt_lt, Int64.le_iff_toInt_le] at *
      first | (rw [show decide (l.toInt ≤ v.toInt ∧ v.toInt ≤ h.toInt) = true from decide_eq_true (by omega)]; rfl) | (rw [show decide (l.toInt ≤ v.toInt ∧ v.toInt ≤ h.toInt) = false from decide_eq_false (by omega)]; rfl)
set_option maxHeartbeats 4000000 in
set_option maxRecDepth 100000 in
theorem c_begin {x : Nat} {σ : ZS} {T : TS} (hR : rR x σ T) : ZC M_X12_begin [Ar (some x)] σ (fun r τ => r = none ∧ rR x τ (h_su T 0)) := by
  refine ZC_of (ls := [some (Ar (some x))]) (by decide) (Nat.le_of_ble_eq_true rfl) rfl ?_
  refine ZV_aload_n (n := 1) dX12_begin_0 rfl rfl rfl ?_
  refine ZV_iconst (v := nI 0) (n := 2) dX12_begin_1 rfl rfl ?_
  refine ZV_putI (n := 5) dX12_begin_2 fl_X12_123 rfl (Or.inl rfl) rfl (fun h => absurd h (by decide)) rfl (rf_sh hR :).1 ?_
  refine ZV_aload_n (n := 6) dX12_begin_5 rfl rfl rfl ?_
  refine ZV_iconst (v := nI 0) (n := 7) dX12_begin_6 rfl rfl ?_
  refine ZV_putI (n := 10) dX12_begin_7 fl_X12_127 rfl (Or.inl rfl) rfl (fun h => absurd h (by decide)) rfl (rf_sh hR :).1 ?_
  refine ZV_vret dX12_begin_10 rfl ?_
  exact ⟨rfl, rR_su (rR_thrown hR 0) 0⟩
set_option maxHeartbeats 4000000 in
set_option maxRecDepth 100000 in
theorem c_no {x : Nat} {σ : ZS} {T : TS} (hR : rR x σ T) (w : Int32) : ZC M_X12_no [Ar (some x), Ai w] σ (fun r τ => r = some (Ai w) ∧ rR x τ (h_su T w)) := by
  refine ZC_of (ls := [some (Ar (some x)), some (Ai w)]) (by decide) (Nat.le_of_ble_eq_true rfl) rfl ?_
  refine ZV_aload_n (n := 1) dX12_no_0 rfl rfl rfl ?_
  refine ZV_iload_n (n := 2) dX12_no_1 rfl rfl rfl ?_
  refine ZV_putI (n := 5) dX12_no_2 fl_X12_127 rfl (Or.inl rfl) rfl (fun h => absurd h (by decide)) rfl (rf_sh hR :).1 ?_
  refine ZV_iload_n (n := 6) dX12_no_5 rfl rfl rfl ?_
  refine ZV_iret dX12_no_6 rfl ?_
  exact ⟨rfl, rR_su hR w⟩
theorem rR_fa {x : Nat} {σ : ZS} {T : TS} (h : rR x σ T) {i : Nat} (v : Int32) : rR x (qi σ (x + 36) i v) (h_fa T (va_up (g_fa T) i v)) := by
  have hne : ∀ o j, o ≠ 36 → zi (qi σ (x + 36) i v) (x + o) j = zi σ (x + o) j := fun o j ho => by
    rw [zi_qi, if_neg]
    omega
  refine ⟨(rf_sh h :), (rf_parts h :), ?_, (rf_bars h :), (rf_barTime h :), (rf_ever h :), (rf_there h :), ?_, ?_, ?_, ?_, ?_, ?_, ?_, ?_, ?_, ?_, (rf_tupletsEver h :), (rf_tupletsThere h :), ?_, ?_, ?_, ?_, ?_, ?_, ?_, (rf_linesEver h :), (rf_linesThere h :), ?_, ?_, ?_, ?_, (rf_walkMany h :), ?_, (rf_found h :), ?_, ?_, ?_, ?_, ?_, ?_, ?_, ?_, ?_, ?_, (rf_status h :), (rf_trace h :)⟩
  all_goals first | (intro k hk; rw [zi_qi]; simp only [true_and]; show _ = va_up (g_fa T) i v k; unfold va_up; split <;> first | rfl | exact rf_failed h k hk) | skip
  all_goals intros
  all_goals rw [hne _ _ (by decide)]
  · exact rf_partKind h _ (by assumption)
  · exact rf_isThere h _ (by assumption)
  · exact rf_voiceOf h _ (by assumption)
  · exact rf_kindOf h _ (by assumption)
  · exact rf_pitches h _ (by assumption)
  · exact rf_pitchOf h _ _ (by assumption) (by assumption)
  · exact rf_valueOf h _ (by assumption)
  · exact rf_dotsOf h _ (by assumption)
  · exact rf_isTied h _ (by assumption)
  · exact rf_many h _ (by assumption)
  · exact rf_row h _ _ (by assumption) (by assumption)
  · exact rf_isTuplet h _ (by assumption)
  · exact rf_tupletVoice h _ (by assumption)
  · exact rf_tupletFirst h _ (by assumption)
  · exact rf_tupletLast h _ (by assumption)
  · exact rf_tupletN h _ (by assumption)
  · exact rf_tupletM h _ (by assumption)
  · exact rf_tupletUnit h _ (by assumption)
  · exact rf_isLine h _ (by assumption)
  · exact rf_lineKind h _ (by assumption)
  · exact rf_lineFrom h _ (by assumption)
  · exact rf_lineTo h _ (by assumption)
  · exact rf_walkRow h _ (by assumption)
  · exact rf_findings h _ (by assumption) (by assumption)
  · exact rf_hasRack h _ (by assumption)
  · exact rf_rackKind h _ (by assumption)
  · exact rf_rackSize h _ (by assumption)
  · exact rf_rackRow h _ _ (by assumption) (by assumption)
  · exact rf_hasShelf h _ (by assumption)
  · exact rf_shelfKind h _ (by assumption)
  · exact rf_shelfSize h _ (by assumption)
  · exact rf_shelfRow h _ _ (by assumption) (by assumption)
set_option maxHeartbeats 4000000 in
set_option maxRecDepth 100000 in
theorem c_fails {x : Nat} {σ : ZS} {T : TS} (hR : rR x σ T) (w : Int32) (i : Nat) (hi : i < 5) (hw : (-11 : Int32) - w = nI i) : ZC M_X12_fails [Ar (some x), Ai w] σ (fun r τ => r = some (Ai w) ∧ rR x τ (h_su (h_fa T (va_up (g_fa T) i (g_fa T i + 1))) w)) := by
  refine ZC_of (ls := [some (Ar (some x)), some (Ai w)]) (by decide) (Nat.le_of_ble_eq_true rfl) rfl ?_
  refine ZV_aload_n (n := 1) dX12_fails_0 rfl rfl rfl ?_
  refine ZV_getR (n := 4) dX12_fails_1 fl_X12_117 rfl rfl rfl (rf_sh hR :).1 ?_
  refine ZV_bipush (v := -11) (n := 6) dX12_fails_4 rfl rfl ?_
  refine ZV_iload_n (n := 7) dX12_fails_6 rfl rfl rfl ?_
  refine ZV_isub (n := 8) dX12_fails_7 rfl ?_
  refine ZV_topi hw ?_
  refine ZV_dup2 (n := 9) dX12_fails_8 rfl rfl rfl ?_
  refine ZV_ialdv (n := 10) dX12_fails_9 rfl (ra_failed (rf_sh hR :) :) (rk_failed (rf_sh hR :) :) rfl (by omega) (rf_failed hR _ (by omega)) ?_
  refine ZV_iconst (v := nI 1) (n := 11) dX12_fails_10 rfl rfl ?_
  refine ZV_iadd (n := 12) dX12_fails_11 rfl ?_
  refine ZV_iast (n := 13) dX12_fails_12 rfl (ra_failed (rf_sh hR :) :) (rk_failed (rf_sh hR :) :) rfl (by omega) ?_
  have hR := rR_fa (i := i) hR (g_fa T i + nI 1)
  generalize qi σ _ _ _ = σ2 at hR ⊢
  refine ZV_aload_n (n := 14) dX12_fails_13 rfl rfl rfl ?_
  refine ZV_iload_n (n := 15) dX12_fails_14 rfl rfl rfl ?_
  refine call_X12_130 (c_no hR _) rfl dX12_fails_15 rfl (rf_sh hR :).1 (Nat.le_of_ble_eq_true rfl) (Nat.le_of_ble_eq_true rfl) rfl (fun r9 σ9 hp9 => ?_)
  obtain ⟨rfl, hR⟩ := hp9
  refine ZV_iret dX12_fails_18 rfl ?_
  exact ⟨rfl, hR⟩
