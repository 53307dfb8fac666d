theorem zcnt_ext {b b' : Nat → Bool} : ∀ n, (∀ i, i < n → b i = b' i) → zcnt b n = zcnt b' n
  | 0, _ => rfl
  | n + 1, h => by rw [zcnt, zcnt, zcnt_ext n (fun i hi => h i (by omega)), h n (by omega)]
theorem zcnt_up {b : Nat → Bool} {n : Nat} : zcnt (va_up b n true) (n + 1) = zcnt b n + 1 := by
  rw [zcnt, zcnt_ext (b' := b) n (fun i hi => by simp [va_up, Nat.ne_of_lt hi])]
  simp [va_up]
theorem zcnt_off {b : Nat → Bool} {j : Nat} : ∀ n, j < n → b j = true → zcnt (va_up b j false) n + 1 = zcnt b n
  | 0, h, _ => absurd h (by omega)
  | n + 1, h, hb => by
    rw [zcnt, zcnt]
    by_cases hj : j = n
    · subst hj
      rw [zcnt_ext (b' := b) j (fun i hi => by simp [va_up, Nat.ne_of_lt hi])]
      simp [va_up, hb]
    · have := zcnt_off n (by omega) hb
      have h2 : va_up b j false n = b n := by simp [va_up, Ne.symm hj]
      rw [h2]
      omega
theorem zcnt_le (b : Nat → Bool) : ∀ n, zcnt b n ≤ n
  | 0 => Nat.le_refl _
  | n + 1 => by
    have := zcnt_le b n
    rw [zcnt]
    split <;> omega
def lnB (T : TS) (l : Int32) : Bool := inB l (g_le T) && g_lt T l.toNatClampNeg
theorem lnB_t {T : TS} {e : Int32} (hI : tI T) (h : lnB T e = true) : ∃ j : Nat, j < g_le T ∧ g_lt T j = true ∧ e = nI j := by
  unfold lnB at h
  rw [Bool.and_eq_true] at h
  obtain ⟨j, h1, h2, rfl⟩ := inB_t h.1
  exact ⟨j, h1, by rw [← nI_clamp h2]; exact h.2, rfl⟩
def tpB (T : TS) (l : Int32) : Bool := inB l (g_te T) && g_tt T l.toNatClampNeg
theorem tpB_t {T : TS} {e : Int32} (hI : tI T) (h : tpB T e = true) : ∃ j : Nat, j < g_te T ∧ g_tt T j = true ∧ e = nI j := by
  unfold tpB at h
  rw [Bool.and_eq_true] at h
  obtain ⟨j, h1, h2, rfl⟩ := inB_t h.1
  exact ⟨j, h1, by rw [← nI_clamp h2]; exact h.2, rfl⟩
def enO (e : Int32) : Option Nat := if e = -1 then none else some e.toNatClampNeg
def sp_line (T : TS) (k f t : Int32) : Int32 × TS := if inB k 4 = true ∧ evB T f = true ∧ (t = -1 ∨ evB T t = true) then (if g_le T = 30 then sNo T (-4) else sOk (h_cl (h_le (h_lo (h_lf (h_lk (h_lt T (va_up (g_lt T) (g_le T) true)) (va_up (g_lk T) (g_le T) k.toNatClampNeg)) (va_up (g_lf T) (g_le T) f.toNatClampNeg)) (va_up (g_lo T) (g_le T) (enO t))) (g_le T + 1)) (g_cl T + 1)) (nI (g_le T))) else sNo T (-2)
def sp_end (T : TS) (l t : Int32) : Int32 × TS := if lnB T l = true ∧ (t = -1 ∨ evB T t = true) then sOk (h_lo T (va_up (g_lo T) l.toNatClampNeg (enO t))) 1 else sNo T (-2)
def sp_lineAt (T : TS) (l w : Int32) : Int32 × TS := if lnB T l = true ∧ inB w 3 = true then sOk T (if w = nI 0 then nI (g_lk T l.toNatClampNeg) else if w = nI 1 then nI (g_lf T l.toNatClampNeg) else oI (g_lo T l.toNatClampNeg)) else sNo T (-2)
def isD (d : Int32) : Bool := decide (d = nI 1 ∨ d = nI 2 ∨ d = nI 4 ∨ d = nI 8 ∨ d = nI 16 ∨ d = nI 32)
def sp_bar (T : TS) (u d : Int32) : Int32 × TS := if isD d = true ∧ inR u 1 64 = true then (if g_nb T = 24 then sNo T (-4) else sOk (h_nb (h_bt T (va_up (g_bt T) (g_nb T) (5644800 / d.toNatClampNeg * u.toNatClampNeg))) (g_nb T + 1)) (nI (g_nb T))) else sNo T (-2)
set_option maxHeartbeats 4000000 in
set_option maxRecDepth 100000 in
theorem c_hasLine {x : Nat} {σ : ZS} {T : TS} (hR : rR x σ T) (hI : tI T) (e : Int32) : ZC M_X12_hasLine [Ar (some x), Ai e] σ (fun r τ => r = some (Ai (bI (lnB T e))) ∧ τ = σ) := by
  have hev := ti_le hI
  refine ZC_of (ls := [some (Ar (some x)), some (Ai e)]) (by decide) (Nat.le_of_ble_eq_true rfl) rfl ?_
  refine ZV_iload_n (n := 1) dX12_hasLine_0 rfl rfl rfl ?_
  refine ZV_i2l (n := 2) dX12_hasLine_1 rfl ?_
  refine ZV_lconst (v := lN 0) (n := 3) dX12_hasLine_2 rfl rfl ?_
  refine ZV_aload_n (n := 4) dX12_hasLine_3 rfl rfl rfl ?_
  refine ZV_getIv (n := 7) dX12_hasLine_4 fl_X12_205 rfl rfl rfl (rf_sh hR :).1 (rf_linesEver hR :) ?_
  refine ZV_iconst (v := nI 1) (n := 8) dX12_hasLine_7 rfl rfl ?_
  refine ZV_isub (n := 9) dX12_hasLine_8 rfl ?_
  refine ZV_i2l (n := 10) dX12_hasLine_9 rfl ?_
  refine call_X12_137 (c_inS _ e (by omega)) rfl dX12_hasLine_10 (Nat.le_of_ble_eq_true rfl) (Nat.le_of_ble_eq_true rfl) rfl (fun r9 σ9 hp9 => ?_)
  obtain ⟨rfl, rfl⟩ := hp9
  refine ZV_if_eqB (tgt := 29) (n := 16) dX12_hasLine_13 (by decide) rfl (fun h13 => ?_) (fun h13 => ?_)
  · skip
    refine ZV_iconst (v := nI 0) (n := 30) dX12_hasLine_29 rfl rfl ?_
    refine ZV_zret dX12_hasLine_30 rfl (by first | exact Or.inl rfl | exact Or.inr rfl) ?_
    refine ⟨?_, rfl⟩
    unfold lnB
    first | (rw [h13]; rfl) | (rw [h13, nI_clamp hj2, h22]; rfl)
  · skip
    refine ZV_aload_n (n := 17) dX12_hasLine_16 rfl rfl rfl ?_
    refine ZV_getR (n := 20) dX12_hasLine_17 fl_X12_69 rfl rfl rfl (rf_sh hR :).1 ?_
    refine ZV_iload_n (n := 21) dX12_hasLine_20 rfl rfl rfl ?_
    obtain ⟨j, hj, hj2, rfl⟩ := inB_t h13
    refine ZV_baldv (n := 22) dX12_hasLine_21 rfl (ra_isLine (rf_sh hR :) :) (rk_isLine (rf_sh hR :) :) rfl (by omega) (rf_isLine hR _ (by omega)) ?_
    refine ZV_if_eqB (tgt := 29) (n := 25) dX12_hasLine_22 (by decide) rfl (fun h22 => ?_) (fun h22 => ?_)
    · skip
      refine ZV_iconst (v := nI 0) (n := 30) dX12_hasLine_29 rfl rfl ?_
      refine ZV_zret dX12_hasLine_30 rfl (by first | exact Or.inl rfl | exact Or.inr rfl) ?_
      refine ⟨?_, rfl⟩
      unfold lnB
      first | (rw [h13]; rfl) | (rw [h13, nI_clamp hj2, h22]; rfl)
    · skip
      refine ZV_iconst (v := nI 1) (n := 26) dX12_hasLine_25 rfl rfl ?_
      refine ZV_goto (tgt := 30) dX12_hasLine_26 (by decide) ?_
      refine ZV_zret dX12_hasLine_30 rfl (by first | exact Or.inl rfl | exact Or.inr rfl) ?_
      refine ⟨?_, rfl⟩
      unfold lnB
      first | (rw [h13]; rfl) | (rw [h13, nI_clamp hj2, h22]; rfl)
set_option maxHeartbeats 4000000 in
set_option maxRecDepth 100000 in
theorem c_hasTuplet {x : Nat} {σ : ZS} {T : TS} (hR : rR x σ T) (hI : tI T) (e : Int32) : ZC M_X12_hasTuplet [Ar (some x), Ai e] σ (fun r τ => r = some (Ai (bI (tpB T e))) ∧ τ = σ) := by
  have hev := ti_te hI
  refine ZC_of (ls := [some (Ar (some x)), some (Ai e)]) (by decide) (Nat.le_of_ble_eq_true rfl) rfl ?_
  refine ZV_iload_n (n := 1) dX12_hasTuplet_0 rfl rfl rfl ?_
  refine ZV_i2l (n := 2) dX12_hasTuplet_1 rfl ?_
  refine ZV_lconst (v := lN 0) (n := 3) dX12_hasTuplet_2 rfl rfl ?_
  refine ZV_aload_n (n := 4) dX12_hasTuplet_3 rfl rfl rfl ?_
  refine ZV_getIv (n := 7) dX12_hasTuplet_4 fl_X12_199 rfl rfl rfl (rf_sh hR :).1 (rf_tupletsEver hR :) ?_
  refine ZV_iconst (v := nI 1) (n := 8) dX12_hasTuplet_7 rfl rfl ?_
  refine ZV_isub (n := 9) dX12_hasTuplet_8 rfl ?_
  refine ZV_i2l (n := 10) dX12_hasTuplet_9 rfl ?_
  refine call_X12_137 (c_inS _ e (by omega)) rfl dX12_hasTuplet_10 (Nat.le_of_ble_eq_true rfl) (Nat.le_of_ble_eq_true rfl) rfl (fun r9 σ9 hp9 => ?_)
  obtain ⟨rfl, rfl⟩ := hp9
  refine ZV_if_eqB (tgt := 29) (n := 16) dX12_hasTuplet_13 (by decide) rfl (fun h13 => ?_) (fun h13 => ?_)
  · skip
    refine ZV_iconst (v := nI 0) (n := 30) dX12_hasTuplet_29 rfl rfl ?_
    refine ZV_zret dX12_hasTuplet_30 rfl (by first | exact Or.inl rfl | exact Or.inr rfl) ?_
    refine ⟨?_, rfl⟩
    unfold tpB
    first | (rw [h13]; rfl) | (rw [h13, nI_clamp hj2, h22]; rfl)
  · skip
    refine ZV_aload_n (n := 17) dX12_hasTuplet_16 rfl rfl rfl ?_
    refine ZV_getR (n := 20) dX12_hasTuplet_17 fl_X12_48 rfl rfl rfl (rf_sh hR :).1 ?_
    refine ZV_iload_n (n := 21) dX12_hasTuplet_20 rfl rfl rfl ?_
    obtain ⟨j, hj, hj2, rfl⟩ := inB_t h13
    refine ZV_baldv (n := 22) dX12_hasTuplet_21 rfl (ra_isTuplet (rf_sh hR :) :) (rk_isTuplet (rf_sh hR :) :) rfl (by omega) (rf_isTuplet hR _ (by omega)) ?_
    refine ZV_if_eqB (tgt := 29) (n := 25) dX12_hasTuplet_22 (by decide) rfl (fun h22 => ?_) (fun h22 => ?_)
    · skip
      refine ZV_iconst (v := nI 0) (n := 30) dX12_hasTuplet_29 rfl rfl ?_
      refine ZV_zret dX12_hasTuplet_30 rfl (by first | exact Or.inl rfl | exact Or.inr rfl) ?_
      refine ⟨?_, rfl⟩
      unfold tpB
      first | (rw [h13]; rfl) | (rw [h13, nI_clamp hj2, h22]; rfl)
    · skip
      refine ZV_iconst (v := nI 1) (n := 26) dX12_hasTuplet_25 rfl rfl ?_
      refine ZV_goto (tgt := 30) dX12_hasTuplet_26 (by decide) ?_
      refine ZV_zret dX12_hasTuplet_30 rfl (by first | exact Or.inl rfl | exact Or.inr rfl) ?_
      refine ⟨?_, rfl⟩
      unfold tpB
      first | (rw [h13]; rfl) | (rw [h13, nI_clamp hj2, h22]; rfl)
set_option maxHeartbeats 4000000 in
set_option maxRecDepth 100000 in
theorem c_end {x : Nat} {σ : ZS} {T : TS} (hR : rR x σ T) (hI : tI T) (l t : Int32) : ZC M_X12_end [Ar (some x), Ai l, Ai t] σ (fun y0 τ0 => y0 = some (Ai (sp_end T l t).1) ∧ rR x τ0 (sp_end T l t).2) := by
  have hsp : sp_end T l t = sp_end (h_su T 0) l t := rfl
  rw [hsp]
  clear hsp
  refine ZC_of (ls := [some (Ar (some x)), some (Ai l), some (Ai t)]) (by decide) (Nat.le_of_ble_eq_true rfl) rfl ?_
  refine ZV_aload_n (n := 1) dX12_end_0 rfl rfl rfl ?_
  refine call_X12_144 (c_begin hR) rfl dX12_end_1 rfl (rf_sh hR :).1 (Nat.le_of_ble_eq_true rfl) (Nat.le_of_ble_eq_true rfl) rfl (fun r9 σ9 hp9 => ?_)
  obtain ⟨rfl, hR⟩ := hp9
  have hI := tI_su hI 0
  have hsu : g_su (h_su T 0) = 0 := rfl
  generalize h_su T 0 = T at hR hI hsu ⊢
  have hev := ti_ev hI
  have hle := ti_le hI
  refine ZV_aload_n (n := 5) dX12_end_4 rfl rfl rfl ?_
  refine ZV_iload_n (n := 6) dX12_end_5 rfl rfl rfl ?_
  refine call_X12_283 (c_hasLine hR hI _) rfl dX12_end_6 rfl (rf_sh hR :).1 (Nat.le_of_ble_eq_true rfl) (Nat.le_of_ble_eq_true rfl) rfl (fun r9 σ9 hp9 => ?_)
  obtain ⟨rfl, rfl⟩ := hp9
  refine ZV_if_eqB (tgt := 25) (n := 12) dX12_end_9 (by decide) rfl (fun h9 => ?_) (fun h9 => ?_)
  · skip
    refine ZV_aload_n (n := 26) dX12_end_25 rfl rfl rfl ?_
    refine ZV_bipush (v := -2) (n := 28) dX12_end_26 rfl rfl ?_
    refine call_X12_130 (c_no hR _) rfl dX12_end_28 rfl (rf_sh hR :).1 (Nat.le_of_ble_eq_true rfl) (Nat.le_of_ble_eq_true rfl) rfl (fun r9 σ9 hp9 => ?_)
    obtain ⟨rfl, hR⟩ := hp9
    refine ZV_iret dX12_end_31 rfl ?_
    exact zleaf (v := sNo T (-2)) (by simp [sp_end, h9]) rfl hR
  · skip
    refine ZV_iload_n (n := 13) dX12_end_12 rfl rfl rfl ?_
    refine ZV_iconst (v := -1) (n := 14) dX12_end_13 rfl rfl ?_
    refine ZV_icmp_eq (tgt := 32) (n := 17) dX12_end_14 (by decide) rfl (fun h14 => ?_) (fun h14 => ?_)
    · skip
      subst h14
      refine ZV_aload_n (n := 33) dX12_end_32 rfl rfl rfl ?_
      obtain ⟨l, hl, hlt, rfl⟩ := lnB_t hI h9
      have hlx : l < 2147483648 := by omega
      refine ZV_getR (n := 36) dX12_end_33 fl_X12_78 rfl rfl rfl (rf_sh hR :).1 ?_
      refine ZV_iload_n (n := 37) dX12_end_36 rfl rfl rfl ?_
      refine ZV_iload_n (n := 38) dX12_end_37 rfl rfl rfl ?_
      refine ZV_iast (n := 39) dX12_end_38 rfl (ra_lineTo (rf_sh hR :) :) (rk_lineTo (rf_sh hR :) :) rfl (by omega) ?_
      refine ZV_iconst (v := nI 1) (n := 40) dX12_end_39 rfl rfl ?_
      refine ZV_iret dX12_end_40 rfl ?_
      first | exact zleaf (v := sOk (h_lo T (va_up (g_lo T) l none)) 1) (by simp [sp_end, h9, enO, nI_clamp hlx]) rfl (rR_s0 (rR_lineTo (j := l) hR none) hsu) | exact zleaf (v := sOk (h_lo T (va_up (g_lo T) l (some j))) 1) (by simp [sp_end, h9, h22, enO, nI_clamp hlx, nI_clamp hjx, nI_ne_m1 hjx]) rfl (rR_s0 (rR_lineTo (j := l) hR (some j)) hsu)
    · skip
      refine ZV_aload_n (n := 18) dX12_end_17 rfl rfl rfl ?_
      refine ZV_iload_n (n := 19) dX12_end_18 rfl rfl rfl ?_
      refine call_X12_193 (c_isEvent hR hI _) rfl dX12_end_19 rfl (rf_sh hR :).1 (Nat.le_of_ble_eq_true rfl) (Nat.le_of_ble_eq_true rfl) rfl (fun r9 σ9 hp9 => ?_)
      obtain ⟨rfl, rfl⟩ := hp9
      refine ZV_if_neB (tgt := 32) (n := 25) dX12_end_22 (by decide) rfl (fun h22 => ?_) (fun h22 => ?_)
      · skip
        obtain ⟨j, hj, hjt, rfl⟩ := evB_t hI h22
        have hjx : j < 2147483648 := by omega
        refine ZV_aload_n (n := 33) dX12_end_32 rfl rfl rfl ?_
        obtain ⟨l, hl, hlt, rfl⟩ := lnB_t hI h9
        have hlx : l < 2147483648 := by omega
        refine ZV_getR (n := 36) dX12_end_33 fl_X12_78 rfl rfl rfl (rf_sh hR :).1 ?_
        refine ZV_iload_n (n := 37) dX12_end_36 rfl rfl rfl ?_
        refine ZV_iload_n (n := 38) dX12_end_37 rfl rfl rfl ?_
        refine ZV_iast (n := 39) dX12_end_38 rfl (ra_lineTo (rf_sh hR :) :) (rk_lineTo (rf_sh hR :) :) rfl (by omega) ?_
        refine ZV_iconst (v := nI 1) (n := 40) dX12_end_39 rfl rfl ?_
        refine ZV_iret dX12_end_40 rfl ?_
        first | exact zleaf (v := sOk (h_lo T (va_up (g_lo T) l none)) 1) (by simp [sp_end, h9, enO, nI_clamp hlx]) rfl (rR_s0 (rR_lineTo (j := l) hR none) hsu) | exact zleaf (v := sOk (h_lo T (va_up (g_lo T) l (some j))) 1) (by simp [sp_end, h9, h22, enO, nI_clamp hlx, nI_clamp hjx, nI_ne_m1 hjx]) rfl (rR_s0 (rR_lineTo (j := l) hR (some j)) hsu)
      · skip
        refine ZV_aload_n (n := 26) dX12_end_25 rfl rfl rfl ?_
        refine ZV_bipush (v := -2) (n := 28) dX12_end_26 rfl rfl ?_
        refine call_X12_130 (c_no hR _) rfl dX12_end_28 rfl (rf_sh hR :).1 (Nat.le_of_ble_eq_true rfl) (Nat.le_of_ble_eq_true rfl) rfl (fun r9 σ9 hp9 => ?_)
        obtain ⟨rfl, hR⟩ := hp9
        refine ZV_iret dX12_end_31 rfl ?_
        exact zleaf (v := sNo T (-2)) (by simp [sp_end, h9, h14, h22]) rfl hR
set_option maxHeartbeats 4000000 in
set_option maxRecDepth 100000 in
theorem c_lineAt {x : Nat} {σ : ZS} {T : TS} (hR : rR x σ T) (hI : tI T) (l w : Int32) : ZC M_X12_lineAt [Ar (some x), Ai l, Ai w] σ (fun y0 τ0 => y0 = some (Ai (sp_lineAt T l w).1) ∧ rR x τ0 (sp_lineAt T l w).2) := by
  have hsp : sp_lineAt T l w = sp_lineAt (h_su T 0) l w := rfl
  rw [hsp]
  clear hsp
  refine ZC_of (ls := [some (Ar (some x)), some (Ai l), some (Ai w)]) (by decide) (Nat.le_of_ble_eq_true rfl) rfl ?_
  refine ZV_aload_n (n := 1) dX12_lineAt_0 rfl rfl rfl ?_
  refine call_X12_144 (c_begin hR) rfl dX12_lineAt_1 rfl (rf_sh hR :).1 (Nat.le_of_ble_eq_true rfl) (Nat.le_of_ble_eq_true rfl) rfl (fun r9 σ9 hp9 => ?_)
  obtain ⟨rfl, hR⟩ := hp9
  have hI := tI_su hI 0
  have hsu : g_su (h_su T 0) = 0 := rfl
  generalize h_su T 0 = T at hR hI hsu ⊢
  have hle := ti_le hI
  refine ZV_aload_n (n := 5) dX12_lineAt_4 rfl rfl rfl ?_
  refine ZV_iload_n (n := 6) dX12_lineAt_5 rfl rfl rfl ?_
  refine call_X12_283 (c_hasLine hR hI _) rfl dX12_lineAt_6 rfl (rf_sh hR :).1 (Nat.le_of_ble_eq_true rfl) (Nat.le_of_ble_eq_true rfl) rfl (fun r9 σ9 hp9 => ?_)
  obtain ⟨rfl, rfl⟩ := hp9
  refine ZV_if_eqB (tgt := 24) (n := 12) dX12_lineAt_9 (by decide) rfl (fun h9 => ?_) (fun h9 => ?_)
  · skip
    refine ZV_aload_n (n := 25) dX12_lineAt_24 rfl rfl rfl ?_
    refine ZV_bipush (v := -2) (n := 27) dX12_lineAt_25 rfl rfl ?_
    refine call_X12_130 (c_no hR _) rfl dX12_lineAt_27 rfl (rf_sh hR :).1 (Nat.le_of_ble_eq_true rfl) (Nat.le_of_ble_eq_true rfl) rfl (fun r9 σ9 hp9 => ?_)
    obtain ⟨rfl, hR⟩ := hp9
    refine ZV_iret dX12_lineAt_30 rfl ?_
    exact zleaf (v := sNo T (-2)) (by simp [sp_lineAt, h9]) rfl hR
  · skip
    refine ZV_iload_n (n := 13) dX12_lineAt_12 rfl rfl rfl ?_
    refine ZV_i2l (n := 14) dX12_lineAt_13 rfl ?_
    refine ZV_lconst (v := lN 0) (n := 15) dX12_lineAt_14 rfl rfl ?_
    refine ZV_ldc2 (v := lN 2) (n := 18) dX12_lineAt_15 wd_5_102 rfl ?_
    refine call_X12_137 (c_inC _ w (by decide)) rfl dX12_lineAt_18 (Nat.le_of_ble_eq_true rfl) (Nat.le_of_ble_eq_true rfl) rfl (fun r9 σ9 hp9 => ?_)
    obtain ⟨rfl, rfl⟩ := hp9
    refine ZV_if_neB (tgt := 31) (n := 24) dX12_lineAt_21 (by decide) rfl (fun h21 => ?_) (fun h21 => ?_)
    · skip
      obtain ⟨l, hl, hlt, rfl⟩ := lnB_t hI h9
      have hlx : l < 2147483648 := by omega
      refine ZV_iload_n (n := 32) dX12_lineAt_31 rfl rfl rfl ?_
      refine ZV_if_ne (tgt := 44) (n := 35) dX12_lineAt_32 (by decide) rfl (fun h32 => ?_) (fun h32 => ?_)
      · skip
        refine ZV_iload_n (n := 45) dX12_lineAt_44 rfl rfl rfl ?_
        refine ZV_iconst (v := nI 1) (n := 46) dX12_lineAt_45 rfl rfl ?_
        refine ZV_icmp_ne (tgt := 58) (n := 49) dX12_lineAt_46 (by decide) rfl (fun h46 => ?_) (fun h46 => ?_)
        · skip
          refine ZV_aload_n (n := 59) dX12_lineAt_58 rfl rfl rfl ?_
          refine ZV_getR (n := 62) dX12_lineAt_59 fl_X12_78 rfl rfl rfl (rf_sh hR :).1 ?_
          refine ZV_iload_n (n := 63) dX12_lineAt_62 rfl rfl rfl ?_
          refine ZV_ialdv (n := 64) dX12_lineAt_63 rfl (ra_lineTo (rf_sh hR :) :) (rk_lineTo (rf_sh hR :) :) rfl (by omega) (rf_lineTo hR _ (by omega)) ?_
          refine ZV_iret dX12_lineAt_64 rfl ?_
          first | exact zleaf (v := sOk T (nI (g_lk T l))) (by simp [sp_lineAt, h9, h21, h32, nI_clamp hlx]; rfl) rfl (rR_s0 hR hsu) | exact zleaf (v := sOk T (nI (g_lf T l))) (by simp [sp_lineAt, h9, h21, h32, h46, nI_clamp hlx]; try rfl) rfl (rR_s0 hR hsu) | exact zleaf (v := sOk T (oI (g_lo T l))) (by simp [sp_lineAt, h9, h21, show ¬ w = nI 0 from h32, h46, nI_clamp hlx]) rfl (rR_s0 hR hsu)
        · skip
          refine ZV_aload_n (n := 50) dX12_lineAt_49 rfl rfl rfl ?_
          refine ZV_getR (n := 53) dX12_lineAt_50 fl_X12_75 rfl rfl rfl (rf_sh hR :).1 ?_
          refine ZV_iload_n (n := 54) dX12_lineAt_53 rfl rfl rfl ?_
          refine ZV_ialdv (n := 55) dX12_lineAt_54 rfl (ra_lineFrom (rf_sh hR :) :) (rk_lineFrom (rf_sh hR :) :) rfl (by omega) (rf_lineFrom hR _ (by omega)) ?_
          refine ZV_goto (tgt := 64) dX12_lineAt_55 (by decide) ?_
          refine ZV_iret dX12_lineAt_64 rfl ?_
          first | exact zleaf (v := sOk T (nI (g_lk T l))) (by simp [sp_lineAt, h9, h21, h32, nI_clamp hlx]; rfl) rfl (rR_s0 hR hsu) | exact zleaf (v := sOk T (nI (g_lf T l))) (by simp [sp_lineAt, h9, h21, h32, h46, nI_clamp hlx]; try rfl) rfl (rR_s0 hR hsu) | exact zleaf (v := sOk T (oI (g_lo T l))) (by simp [sp_lineAt, h9, h21, show ¬ w = nI 0 from h32, h46, nI_clamp hlx]) rfl (rR_s0 hR hsu)
      · skip
        refine ZV_aload_n (n := 36) dX12_lineAt_35 rfl rfl rfl ?_
        refine ZV_getR (n := 39) dX12_lineAt_36 fl_X12_72 rfl rfl rfl (rf_sh hR :).1 ?_
        refine ZV_iload_n (n := 40) dX12_lineAt_39 rfl rfl rfl ?_
        refine ZV_ialdv (n := 41) dX12_lineAt_40 rfl (ra_lineKind (rf_sh hR :) :) (rk_lineKind (rf_sh hR :) :) rfl (by omega) (rf_lineKind hR _ (by omega)) ?_
        refine ZV_goto (tgt := 64) dX12_lineAt_41 (by decide) ?_
        refine ZV_iret dX12_lineAt_64 rfl ?_
        first | exact zleaf (v := sOk T (nI (g_lk T l))) (by simp [sp_lineAt, h9, h21, h32, nI_clamp hlx]; rfl) rfl (rR_s0 hR hsu) | exact zleaf (v := sOk T (nI (g_lf T l))) (by simp [sp_lineAt, h9, h21, h32, h46, nI_clamp hlx]; try rfl) rfl (rR_s0 hR hsu) | exact zleaf (v := sOk T (oI (g_lo T l))) (by simp [sp_lineAt, h9, h21, show ¬ w = nI 0 from h32, h46, nI_clamp hlx]) rfl (rR_s0 hR hsu)
    · skip
      refine ZV_aload_n (n := 25) dX12_lineAt_24 rfl rfl rfl ?_
      refine ZV_bipush (v := -2) (n := 27) dX12_lineAt_25 rfl rfl ?_
      refine call_X12_130 (c_no hR _) rfl dX12_lineAt_27 rfl (rf_sh hR :).1 (Nat.le_of_ble_eq_true rfl) (Nat.le_of_ble_eq_true rfl) rfl (fun r9 σ9 hp9 => ?_)
      obtain ⟨rfl, hR⟩ := hp9
      refine ZV_iret dX12_lineAt_30 rfl ?_
      exact zleaf (v := sNo T (-2)) (by simp [sp_lineAt, h9, h21]) rfl hR
