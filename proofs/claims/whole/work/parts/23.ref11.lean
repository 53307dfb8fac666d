def szT (T : TS) (t : Nat) : Nat := g_pl T (g_tl T t) - g_pl T (g_tf T t) + 1
def inI (T : TS) (t u : Nat) : Bool := decide (t ≠ u) && g_tt T t && g_tt T u && decide (g_tv T t = g_tv T u ∧ (g_pl T (g_tf T u) ≤ g_pl T (g_tf T t) ∧ g_pl T (g_tl T t) ≤ g_pl T (g_tl T u)) ∧ (szT T t < szT T u ∨ u < t))
def lfB (T : TS) (e l : Nat) : Bool := g_lt T l && decide (g_lk T l = 2) && match g_lo T l with
  | none => false
  | some f => decide (g_vo T (g_lf T l) = g_vo T e ∧ g_vo T f = g_vo T e ∧ g_pl T (g_lf T l) ≤ g_pl T e ∧ g_pl T e ≤ g_pl T f)
def hdP (T : TS) (e i : Nat) : Int32 := sdP (g_pk T (g_vo T e / 3)) (g_pi T e i) + nI (12 * zcnt (lfB T e) (g_le T))
def sp_length (T : TS) (v w : Int32) : Int64 × TS := if inB v (3 * g_np T) = true ∧ inB w 2 = true then (lN (frT (bgF (h_su T 0) v.toNatClampNeg (g_mn T v.toNatClampNeg)) (decide (w = nI 1))), h_su T 0) else (-2, h_su T (-2))
def tiV (T : TS) (e w : Nat) : Nat := if w < 2 then bgF T (g_vo T e) (g_pl T e) else if w < 4 then tmT T e else match boF T (bgF T (g_vo T e) (g_pl T e)) with
  | none => 0
  | some b => bgF T (g_vo T e) (g_pl T e) - baF T b
def sp_time (T : TS) (e w : Int32) : Int64 × TS := if evB T e = true ∧ inB w 6 = true then (lN (frT (tiV (h_su T 0) e.toNatClampNeg w.toNatClampNeg) (decide (w.toNatClampNeg % 2 = 1))), h_su T 0) else (-2, h_su T (-2))
def sp_at (T : TS) (e w : Int32) : Int32 × TS := if evB T e = true ∧ inB w 9 = true then sOk T (if w = nI 0 then nI (g_vo T e.toNatClampNeg) else if w = nI 1 then nI (g_pl T e.toNatClampNeg) else if w = nI 2 then nI (g_kd T e.toNatClampNeg) else if w = nI 3 then nI (g_pn T e.toNatClampNeg) else if w = nI 4 then bI (g_ti T e.toNatClampNeg) else if w = nI 5 then nI (zcnt (liB T e.toNatClampNeg) (g_te T)) else if w = nI 6 then oI (boF (h_su T 0) (bgF (h_su T 0) (g_vo T e.toNatClampNeg) (g_pl T e.toNatClampNeg))) else if w = nI 7 then nI (g_va T e.toNatClampNeg) else nI (g_dt T e.toNatClampNeg)) else sNo T (-2)
def sp_untuplet (T : TS) (t : Int32) : Int32 × TS := if tpB T t = false then sNo T (-2) else sOk (h_cu (h_tt T (va_up (g_tt T) t.toNatClampNeg false)) (g_cu T - 1)) (nI (szT T t.toNatClampNeg))
def sp_tupletAt (T : TS) (t w : Int32) : Int32 × TS := if tpB T t = true ∧ inB w 7 = true then sOk T (if w = nI 0 then nI (g_tv T t.toNatClampNeg) else if w = nI 1 then nI (g_pl T (g_tf T t.toNatClampNeg)) else if w = nI 2 then nI (szT T t.toNatClampNeg) else if w = nI 3 then nI (g_tn T t.toNatClampNeg) else if w = nI 4 then nI (g_tm T t.toNatClampNeg) else if w = nI 5 then nI (g_tu T t.toNatClampNeg) else nI (zcnt (inI T t.toNatClampNeg) (g_te T))) else sNo T (-2)
def sp_heard (T : TS) (e i : Int32) : Int32 × TS := if evB T e = false then (-2000, h_su T (-2)) else if noB T e.toNatClampNeg = false then sFl T 2 (-13) (-2001) else if inB i (g_pn T e.toNatClampNeg) = true then sOk (h_tr T (g_tr T + trP (g_pk T (g_vo T e.toNatClampNeg / 3)))) (hdP T e.toNatClampNeg i.toNatClampNeg) else sOk T (-1000)
theorem tI_tr {T : TS} (h : tI T) (v : Int64) : tI (h_tr T v) := h
theorem boS_some {T : TS} {t b : Nat} : ∀ k b0, boS T t k b0 = some b → baF T b0 ≤ t → baF T b ≤ t ∧ b < b0 + k
  | 0, b0, h, _ => by simp [boS] at h
  | k + 1, b0, h, h0 => by
    rw [boS] at h
    split at h
    · cases h
      exact ⟨h0, by omega⟩
    · have := boS_some k (b0 + 1) h (by omega)
      exact ⟨this.1, by omega⟩
theorem boF_some {T : TS} {t b : Nat} (h : boF T t = some b) : baF T b ≤ t ∧ b < g_nb T := by
  have := boS_some _ _ h (by simp [baF])
  exact ⟨this.1, by omega⟩
set_option maxHeartbeats 4000000 in
set_option maxRecDepth 100000 in
theorem c_tupletsOf {x : Nat} {σ : ZS} {T : TS} (hR : rR x σ T) (hI : tI T) (e : Nat) (he : e < g_ev T) (hth : g_th T e = true) : ZC M_X12_tupletsOf [Ar (some x), Ai (nI e)] σ (fun r τ => r = some (Ai (nI (zcnt (liB T e) (g_te T)))) ∧ τ = σ) := by
  have hev := ti_ev hI
  have hte := ti_te hI
  refine ZC_of (ls := [some (Ar (some x)), some (Ai (nI e)), none, none]) (by decide) (Nat.le_of_ble_eq_true rfl) rfl ?_
  have loop : ∀ (n9 : Nat) (t : Nat), g_te T - t < n9 → t ≤ g_te T → ZV M_X12_tupletsOf (fun r τ => r = some (Ai (nI (zcnt (liB T e) (g_te T)))) ∧ τ = σ) 4 [some (Ar (some x)), some (Ai (nI e)), some (Ai (nI (zcnt (liB T e) t))), some (Ai (nI t))] [] σ (zmC M_X12_tupletsOf) (zmS M_X12_tupletsOf) := by
    intro n9
    induction n9 with
    | zero => intro t hm; exact absurd hm (Nat.not_lt_zero _)
    | succ n9 ih =>
      intro t hm ht
      refine ZV_iload_n (n := 5) dX12_tupletsOf_4 rfl rfl rfl ?_
      refine ZV_aload_n (n := 6) dX12_tupletsOf_5 rfl rfl rfl ?_
      refine ZV_getIv (n := 9) dX12_tupletsOf_6 fl_X12_199 rfl rfl rfl (rf_sh hR :).1 (rf_tupletsEver hR :) ?_
      refine ZV_icmp_geN (tgt := 35) (n := 12) dX12_tupletsOf_9 (by decide) rfl (by omega) (by omega) (fun h9 => ?_) (fun h9 => ?_)
      · skip
        refine ZV_iload_n (n := 36) dX12_tupletsOf_35 rfl rfl rfl ?_
        refine ZV_iret dX12_tupletsOf_36 rfl ?_
        obtain rfl : t = g_te T := by omega
        exact ⟨rfl, rfl⟩
      · skip
        refine ZV_iload_n (n := 13) dX12_tupletsOf_12 rfl rfl rfl ?_
        refine ZV_aload_n (n := 14) dX12_tupletsOf_13 rfl rfl rfl ?_
        refine ZV_iload_n (n := 15) dX12_tupletsOf_14 rfl rfl rfl ?_
        refine ZV_iload_n (n := 16) dX12_tupletsOf_15 rfl rfl rfl ?_
        refine call_X12_239 (c_liesIn hR hI _ _ he hth (by omega)) rfl dX12_tupletsOf_16 rfl (rf_sh hR :).1 (Nat.le_of_ble_eq_true rfl) (Nat.le_of_ble_eq_true rfl) rfl (fun r9 σ9 hp9 => ?_)
        obtain ⟨rfl, rfl⟩ := hp9
        refine ZV_if_eqB (tgt := 26) (n := 22) dX12_tupletsOf_19 (by decide) rfl (fun h19 => ?_) (fun h19 => ?_)
        · skip
          have hq : zcnt (liB T e) t + 0 = zcnt (liB T e) (t + 1) := by simp [zcnt, h19]
          refine ZV_iconst (v := nI 0) (n := 27) dX12_tupletsOf_26 rfl rfl ?_
          refine ZV_iaddN (n := 28) dX12_tupletsOf_27 rfl ?_
          rw [hq]
          refine ZV_istore_2 (n := 29) dX12_tupletsOf_28 rfl (Nat.le_of_ble_eq_true rfl) rfl ?_
          refine ZV_iincN_3 (v := 1) (n := 32) dX12_tupletsOf_29 rfl rfl (Nat.le_of_ble_eq_true rfl) rfl ?_
          refine ZV_goto (tgt := 4) dX12_tupletsOf_32 (by decide) ?_
          exact ih (t + 1) (by omega) (by omega)
        · skip
          have hq : zcnt (liB T e) t + 1 = zcnt (liB T e) (t + 1) := by simp [zcnt, h19]
          refine ZV_iconst (v := nI 1) (n := 23) dX12_tupletsOf_22 rfl rfl ?_
          refine ZV_goto (tgt := 27) dX12_tupletsOf_23 (by decide) ?_
          refine ZV_iaddN (n := 28) dX12_tupletsOf_27 rfl ?_
          rw [hq]
          refine ZV_istore_2 (n := 29) dX12_tupletsOf_28 rfl (Nat.le_of_ble_eq_true rfl) rfl ?_
          refine ZV_iincN_3 (v := 1) (n := 32) dX12_tupletsOf_29 rfl rfl (Nat.le_of_ble_eq_true rfl) rfl ?_
          refine ZV_goto (tgt := 4) dX12_tupletsOf_32 (by decide) ?_
          exact ih (t + 1) (by omega) (by omega)
  refine ZV_iconst (v := nI 0) (n := 1) dX12_tupletsOf_0 rfl rfl ?_
  refine ZV_istore_2 (n := 2) dX12_tupletsOf_1 rfl (Nat.le_of_ble_eq_true rfl) rfl ?_
  refine ZV_iconst (v := nI 0) (n := 3) dX12_tupletsOf_2 rfl rfl ?_
  refine ZV_istore_3 (n := 4) dX12_tupletsOf_3 rfl (Nat.le_of_ble_eq_true rfl) rfl ?_
  exact loop _ 0 (Nat.lt_succ_self _) (Nat.zero_le _)
set_option maxHeartbeats 4000000 in
set_option maxRecDepth 100000 in
theorem c_length {x : Nat} {σ : ZS} {T : TS} (hR : rR x σ T) (hI : tI T) (v w : Int32) : ZC M_X12_length [Ar (some x), Ai v, Ai w] σ (fun y0 τ0 => y0 = some (Al (sp_length T v w).1) ∧ rR x τ0 (sp_length T v w).2) := by
  have hsp : sp_length T v w = sp_length (h_su T 0) v w := rfl
  rw [hsp]
  clear hsp
  refine ZC_of (ls := [some (Ar (some x)), some (Ai v), some (Ai w)]) (by decide) (Nat.le_of_ble_eq_true rfl) rfl ?_
  refine ZV_aload_n (n := 1) dX12_length_0 rfl rfl rfl ?_
  refine call_X12_144 (c_begin hR) rfl dX12_length_1 rfl (rf_sh hR :).1 (Nat.le_of_ble_eq_true rfl) (Nat.le_of_ble_eq_true rfl) rfl (fun r9 σ9 hp9 => ?_)
  obtain ⟨rfl, hR⟩ := hp9
  have hI := tI_su hI 0
  have hsu : g_su (h_su T 0) = 0 := rfl
  generalize h_su T 0 = T at hR hI hsu ⊢
  have hnp := ti_np hI
  refine ZV_aload_n (n := 5) dX12_length_4 rfl rfl rfl ?_
  refine ZV_iload_n (n := 6) dX12_length_5 rfl rfl rfl ?_
  refine call_X12_184 (c_isVoice hR hI _) rfl dX12_length_6 rfl (rf_sh hR :).1 (Nat.le_of_ble_eq_true rfl) (Nat.le_of_ble_eq_true rfl) rfl (fun r9 σ9 hp9 => ?_)
  obtain ⟨rfl, rfl⟩ := hp9
  refine ZV_if_eqB (tgt := 22) (n := 12) dX12_length_9 (by decide) rfl (fun h9 => ?_) (fun h9 => ?_)
  · skip
    refine ZV_aload_n (n := 23) dX12_length_22 rfl rfl rfl ?_
    refine ZV_bipush (v := -2) (n := 25) dX12_length_23 rfl rfl ?_
    refine call_X12_130 (c_no hR _) rfl dX12_length_25 rfl (rf_sh hR :).1 (Nat.le_of_ble_eq_true rfl) (Nat.le_of_ble_eq_true rfl) rfl (fun r9 σ9 hp9 => ?_)
    obtain ⟨rfl, hR⟩ := hp9
    refine ZV_i2l (n := 29) dX12_length_28 rfl ?_
    refine ZV_lret dX12_length_29 rfl ?_
    exact zleafL (v := (-2, h_su T (-2))) (by simp [sp_length, h9]) rfl hR
  · skip
    refine ZV_iload_n (n := 13) dX12_length_12 rfl rfl rfl ?_
    refine ZV_i2l (n := 14) dX12_length_13 rfl ?_
    refine ZV_lconst (v := lN 0) (n := 15) dX12_length_14 rfl rfl ?_
    refine ZV_lconst (v := lN 1) (n := 16) dX12_length_15 rfl rfl ?_
    refine call_X12_137 (c_inC _ w (by decide)) rfl dX12_length_16 (Nat.le_of_ble_eq_true rfl) (Nat.le_of_ble_eq_true rfl) rfl (fun r9 σ9 hp9 => ?_)
    obtain ⟨rfl, rfl⟩ := hp9
    refine ZV_if_neB (tgt := 30) (n := 22) dX12_length_19 (by decide) rfl (fun h19 => ?_) (fun h19 => ?_)
    · skip
      obtain ⟨v, hv, hvx, rfl⟩ := inB_t h9
      have hbl := bgF_le hI v (g_mn T v)
      have hmn := ti_mn hI v
      refine ZV_aload_n (n := 31) dX12_length_30 rfl rfl rfl ?_
      refine ZV_iload_n (n := 32) dX12_length_31 rfl rfl rfl ?_
      refine call_X12_269 (c_lengthOf hR hI _ (by omega)) rfl dX12_length_32 rfl (rf_sh hR :).1 (Nat.le_of_ble_eq_true rfl) (Nat.le_of_ble_eq_true rfl) rfl (fun r9 σ9 hp9 => ?_)
      obtain ⟨rfl, rfl⟩ := hp9
      refine ZV_iload_n (n := 36) dX12_length_35 rfl rfl rfl ?_
      refine ZV_iconst (v := nI 1) (n := 37) dX12_length_36 rfl rfl ?_
      refine ZV_icmp_ne (tgt := 44) (n := 40) dX12_length_37 (by decide) rfl (fun h37 => ?_) (fun h37 => ?_)
      · skip
        refine ZV_iconst (v := nI 0) (n := 45) dX12_length_44 rfl rfl ?_
        refine call_X12_265 (c_fraction _ false (by omega)) rfl dX12_length_45 (Nat.le_of_ble_eq_true rfl) (Nat.le_of_ble_eq_true rfl) rfl (fun r9 σ9 hp9 => ?_)
        obtain ⟨rfl, rfl⟩ := hp9
        refine ZV_lret dX12_length_48 rfl ?_
        exact zleafL (v := (lN (frT (bgF T v (g_mn T v)) (decide (w = nI 1))), h_su T 0)) (by rw [sp_length, if_pos ⟨h9, h19⟩, nI_clamp hvx, su0 hsu]) (by simp [h37]) (rR_s0 hR hsu)
      · skip
        refine ZV_iconst (v := nI 1) (n := 41) dX12_length_40 rfl rfl ?_
        refine ZV_goto (tgt := 45) dX12_length_41 (by decide) ?_
        refine call_X12_265 (c_fraction _ true (by omega)) rfl dX12_length_45 (Nat.le_of_ble_eq_true rfl) (Nat.le_of_ble_eq_true rfl) rfl (fun r9 σ9 hp9 => ?_)
        obtain ⟨rfl, rfl⟩ := hp9
        refine ZV_lret dX12_length_48 rfl ?_
        exact zleafL (v := (lN (frT (bgF T v (g_mn T v)) (decide (w = nI 1))), h_su T 0)) (by rw [sp_length, if_pos ⟨h9, h19⟩, nI_clamp hvx, su0 hsu]) (by simp [h37]) (rR_s0 hR hsu)
    · skip
      refine ZV_aload_n (n := 23) dX12_length_22 rfl rfl rfl ?_
      refine ZV_bipush (v := -2) (n := 25) dX12_length_23 rfl rfl ?_
      refine call_X12_130 (c_no hR _) rfl dX12_length_25 rfl (rf_sh hR :).1 (Nat.le_of_ble_eq_true rfl) (Nat.le_of_ble_eq_true rfl) rfl (fun r9 σ9 hp9 => ?_)
      obtain ⟨rfl, hR⟩ := hp9
      refine ZV_i2l (n := 29) dX12_length_28 rfl ?_
      refine ZV_lret dX12_length_29 rfl ?_
      exact zleafL (v := (-2, h_su T (-2))) (by simp [sp_length, h9, h19]) rfl hR
set_option maxHeartbeats 4000000 in
set_option maxRecDepth 100000 in
theorem c_time {x : Nat} {σ : ZS} {T : TS} (hR : rR x σ T) (hI : tI T) (e w : Int32) : ZC M_X12_time [Ar (some x), Ai e, Ai w] σ (fun y0 τ0 => y0 = some (Al (sp_time T e w).1) ∧ rR x τ0 (sp_time T e w).2) := by
  have hsp : sp_time T e w = sp_time (h_su T 0) e w := rfl
  rw [hsp]
  clear hsp
  refine ZC_of (ls := [some (Ar (some x)), some (Ai e), some (Ai w), none, none, none, none, none]) (by decide) (Nat.le_of_ble_eq_true rfl) rfl ?_
  refine ZV_aload_n (n := 1) dX12_time_0 rfl rfl rfl ?_
  refine call_X12_144 (c_begin hR) rfl dX12_time_1 rfl (rf_sh hR :).1 (Nat.le_of_ble_eq_true rfl) (Nat.le_of_ble_eq_true rfl) rfl (fun r9 σ9 hp9 => ?_)
  obtain ⟨rfl, hR⟩ := hp9
  have hI := tI_su hI 0
  have hsu : g_su (h_su T 0) = 0 := rfl
  generalize h_su T 0 = T at hR hI hsu ⊢
  have hev := ti_ev hI
  have hnb := ti_nb hI
  refine ZV_aload_n (n := 5) dX12_time_4 rfl rfl rfl ?_
  refine ZV_iload_n (n := 6) dX12_time_5 rfl rfl rfl ?_
  refine call_X12_193 (c_isEvent hR hI _) rfl dX12_time_6 rfl (rf_sh hR :).1 (Nat.le_of_ble_eq_true rfl) (Nat.le_of_ble_eq_true rfl) rfl (fun r9 σ9 hp9 => ?_)
  obtain ⟨rfl, rfl⟩ := hp9
  refine ZV_if_eqB (tgt := 24) (n := 12) dX12_time_9 (by decide) rfl (fun h9 => ?_) (fun h9 => ?_)
  · skip
    refine ZV_aload_n (n := 25) dX12_time_24 rfl rfl rfl ?_
    refine ZV_bipush (v := -2) (n := 27) dX12_time_25 rfl rfl ?_
    refine call_X12_130 (c_no hR _) rfl dX12_time_27 rfl (rf_sh hR :).1 (Nat.le_of_ble_eq_true rfl) (Nat.le_of_ble_eq_true rfl) rfl (fun r9 σ9 hp9 => ?_)
    obtain ⟨rfl, hR⟩ := hp9
    refine ZV_i2l (n := 31) dX12_time_30 rfl ?_
    refine ZV_lret dX12_time_31 rfl ?_
    exact zleafL (v := (-2, h_su T (-2))) (by simp [sp_time, h9]) rfl hR
  · skip
    refine ZV_iload_n (n := 13) dX12_time_12 rfl rfl rfl ?_
    refine ZV_i2l (n := 14) dX12_time_13 rfl ?_
    refine ZV_lconst (v := lN 0) (n := 15) dX12_time_14 rfl rfl ?_
    refine ZV_ldc2 (v := lN 5) (n := 18) dX12_time_15 wd_5_84 rfl ?_
    refine call_X12_137 (c_inC _ w (by decide)) rfl dX12_time_18 (Nat.le_of_ble_eq_true rfl) (Nat.le_of_ble_eq_true rfl) rfl (fun r9 σ9 hp9 => ?_)
    obtain ⟨rfl, rfl⟩ := hp9
    refine ZV_if_neB (tgt := 32) (n := 24) dX12_time_21 (by decide) rfl (fun h21 => ?_) (fun h21 => ?_)
    · skip
      obtain ⟨j, hj, hjt, rfl⟩ := evB_t hI h9
      have hjx : j < 2147483648 := by omega
      obtain ⟨w, hw, hwx, rfl⟩ := inB_t h21
      have hpl := (ti_pl hI j hj hjt).1
      have hmn := ti_mn hI (g_vo T j)
      have hbl := bgF_le hI (g_vo T j) (g_pl T j)
      have htl := tmT_le hI j
      obtain ⟨A0, hA0⟩ : ∃ q, q = bgF T (g_vo T j) (g_pl T j) := ⟨_, rfl⟩
      refine ZV_aload_n (n := 33) dX12_time_32 rfl rfl rfl ?_
      refine ZV_iload_n (n := 34) dX12_time_33 rfl rfl rfl ?_
      refine call_X12_258 (c_beginOf hR hI _ hj hjt) rfl dX12_time_34 rfl (rf_sh hR :).1 (Nat.le_of_ble_eq_true rfl) (Nat.le_of_ble_eq_true rfl) rfl (fun r9 σ9 hp9 => ?_)
      obtain ⟨rfl, rfl⟩ := hp9
      rw [← hA0] at hbl ⊢
      refine ZV_lstore_3 (n := 38) dX12_time_37 rfl (Nat.le_of_ble_eq_true rfl) rfl ?_
      refine ZV_aload_n (n := 39) dX12_time_38 rfl rfl rfl ?_
      refine ZV_lload_n (n := 40) dX12_time_39 rfl rfl rfl ?_
      refine call_X12_261 (c_barOf hR hI _ (by omega)) rfl dX12_time_40 rfl (rf_sh hR :).1 (Nat.le_of_ble_eq_true rfl) (Nat.le_of_ble_eq_true rfl) rfl (fun r9 σ9 hp9 => ?_)
      obtain ⟨rfl, rfl⟩ := hp9
      refine ZV_istore_5 (n := 45) dX12_time_43 rfl (Nat.le_of_ble_eq_true rfl) rfl ?_
      refine ZV_iload_n (n := 46) dX12_time_45 rfl rfl rfl ?_
      refine ZV_iconst (v := nI 2) (n := 47) dX12_time_46 rfl rfl ?_
      refine ZV_icmp_geN (tgt := 54) (n := 50) dX12_time_47 (by decide) rfl (by omega) (by omega) (fun h47 => ?_) (fun h47 => ?_)
      · skip
        refine ZV_iload_n (n := 55) dX12_time_54 rfl rfl rfl ?_
        refine ZV_iconst (v := nI 4) (n := 56) dX12_time_55 rfl rfl ?_
        refine ZV_icmp_geN (tgt := 67) (n := 59) dX12_time_56 (by decide) rfl (by omega) (by omega) (fun h56 => ?_) (fun h56 => ?_)
        · skip
          refine ZV_iload (n := 69) dX12_time_67 rfl rfl ?_
          refine ZV_iconst (v := -1) (n := 70) dX12_time_69 rfl rfl ?_
          refine ZV_icmp_ne (tgt := 77) (n := 73) dX12_time_70 (by decide) rfl (fun h70 => ?_) (fun h70 => ?_)
          · skip
            cases hbo : boF T A0 with
            | none => exact absurd (by rw [hbo]; rfl) h70
            | some b =>
              have hbs := boF_some hbo
              have hV : tiV T j w = A0 - baF T b := by rw [tiV, if_neg (by omega), if_neg (by omega), ← hA0, hbo]
              have hbz := baF_le hI b (by omega)
              refine ZV_lload_n (n := 78) dX12_time_77 rfl rfl rfl ?_
              refine ZV_aload_n (n := 79) dX12_time_78 rfl rfl rfl ?_
              refine ZV_iload (n := 81) dX12_time_79 rfl rfl ?_
              refine call_X12_246 (c_barAt hR hI b (by omega)) rfl dX12_time_81 rfl (rf_sh hR :).1 (Nat.le_of_ble_eq_true rfl) (Nat.le_of_ble_eq_true rfl) rfl (fun r9 σ9 hp9 => ?_)
              obtain ⟨rfl, rfl⟩ := hp9
              refine ZV_lsubN (n := 85) dX12_time_84 rfl hbs.1 ?_
              rw [← hV]
              refine ZV_lstore_6 (n := 87) dX12_time_85 rfl (Nat.le_of_ble_eq_true rfl) rfl ?_
              refine ZV_lload (n := 89) dX12_time_87 rfl rfl ?_
              refine ZV_iload_n (n := 90) dX12_time_89 rfl rfl rfl ?_
              refine ZV_iconst (v := nI 2) (n := 91) dX12_time_90 rfl rfl ?_
              refine ZV_iremN (n := 92) dX12_time_91 rfl (by omega) (by omega) (by omega) ?_
              refine ZV_iconst (v := nI 1) (n := 93) dX12_time_92 rfl rfl ?_
              refine ZV_icmp_neN (tgt := 100) (n := 96) dX12_time_93 (by decide) rfl (by omega) (by omega) (fun h93 => ?_) (fun h93 => ?_)
              · skip
                refine ZV_iconst (v := nI 0) (n := 101) dX12_time_100 rfl rfl ?_
                refine call_X12_265 (c_fraction _ false (by omega)) rfl dX12_time_101 (Nat.le_of_ble_eq_true rfl) (Nat.le_of_ble_eq_true rfl) rfl (fun r9 σ9 hp9 => ?_)
                obtain ⟨rfl, rfl⟩ := hp9
                refine ZV_lret dX12_time_104 rfl ?_
                exact zleafL (v := (lN (frT (tiV T j w) (decide (w % 2 = 1))), h_su T 0)) (by rw [sp_time, if_pos ⟨h9, h21⟩, nI_clamp hjx, nI_clamp hwx, su0 hsu]) (by simp [h93]) (rR_s0 hR hsu)
              · skip
                refine ZV_iconst (v := nI 1) (n := 97) dX12_time_96 rfl rfl ?_
                refine ZV_goto (tgt := 101) dX12_time_97 (by decide) ?_
                refine call_X12_265 (c_fraction _ true (by omega)) rfl dX12_time_101 (Nat.le_of_ble_eq_true rfl) (Nat.le_of_ble_eq_true rfl) rfl (fun r9 σ9 hp9 => ?_)
                obtain ⟨rfl, rfl⟩ := hp9
                refine ZV_lret dX12_time_104 rfl ?_
                exact zleafL (v := (lN (frT (tiV T j w) (decide (w % 2 = 1))), h_su T 0)) (by rw [sp_time, if_pos ⟨h9, h21⟩, nI_clamp hjx, nI_clamp hwx, su0 hsu]) (by simp [h93]) (rR_s0 hR hsu)
          · skip
            have hbo : boF T A0 = none := (oI_m1 (fun e q => by have := boF_some q; omega)).mp h70
            have hV : tiV T j w = 0 := by rw [tiV, if_neg (by omega), if_neg (by omega), ← hA0, hbo]
            refine ZV_lconst (v := lN 0) (n := 74) dX12_time_73 rfl rfl ?_
            refine ZV_goto (tgt := 85) dX12_time_74 (by decide) ?_
            rw [← hV]
            refine ZV_lstore_6 (n := 87) dX12_time_85 rfl (Nat.le_of_ble_eq_true rfl) rfl ?_
            refine ZV_lload (n := 89) dX12_time_87 rfl rfl ?_
            refine ZV_iload_n (n := 90) dX12_time_89 rfl rfl rfl ?_
            refine ZV_iconst (v := nI 2) (n := 91) dX12_time_90 rfl rfl ?_
            refine ZV_iremN (n := 92) dX12_time_91 rfl (by omega) (by omega) (by omega) ?_
            refine ZV_iconst (v := nI 1) (n := 93) dX12_time_92 rfl rfl ?_
            refine ZV_icmp_neN (tgt := 100) (n := 96) dX12_time_93 (by decide) rfl (by omega) (by omega) (fun h93 => ?_) (fun h93 => ?_)
            · skip
              refine ZV_iconst (v := nI 0) (n := 101) dX12_time_100 rfl rfl ?_
              refine call_X12_265 (c_fraction _ false (by omega)) rfl dX12_time_101 (Nat.le_of_ble_eq_true rfl) (Nat.le_of_ble_eq_true rfl) rfl (fun r9 σ9 hp9 => ?_)
              obtain ⟨rfl, rfl⟩ := hp9
              refine ZV_lret dX12_time_104 rfl ?_
              exact zleafL (v := (lN (frT (tiV T j w) (decide (w % 2 = 1))), h_su T 0)) (by rw [sp_time, if_pos ⟨h9, h21⟩, nI_clamp hjx, nI_clamp hwx, su0 hsu]) (by simp [h93]) (rR_s0 hR hsu)
            · skip
              refine ZV_iconst (v := nI 1) (n := 97) dX12_time_96 rfl rfl ?_
              refine ZV_goto (tgt := 101) dX12_time_97 (by decide) ?_
              refine call_X12_265 (c_fraction _ true (by omega)) rfl dX12_time_101 (Nat.le_of_ble_eq_true rfl) (Nat.le_of_ble_eq_true rfl) rfl (fun r9 σ9 hp9 => ?_)
              obtain ⟨rfl, rfl⟩ := hp9
              refine ZV_lret dX12_time_104 rfl ?_
              exact zleafL (v := (lN (frT (tiV T j w) (decide (w % 2 = 1))), h_su T 0)) (by rw [sp_time, if_pos ⟨h9, h21⟩, nI_clamp hjx, nI_clamp hwx, su0 hsu]) (by simp [h93]) (rR_s0 hR hsu)
        · skip
          have hV : tiV T j w = tmT T j := by rw [tiV, if_neg (by omega), if_pos h56]
          refine ZV_aload_n (n := 60) dX12_time_59 rfl rfl rfl ?_
          refine ZV_iload_n (n := 61) dX12_time_60 rfl rfl rfl ?_
          refine call_X12_243 (c_timeOf hR hI _ hj hjt) rfl dX12_time_61 rfl (rf_sh hR :).1 (Nat.le_of_ble_eq_true rfl) (Nat.le_of_ble_eq_true rfl) rfl (fun r9 σ9 hp9 => ?_)
          obtain ⟨rfl, rfl⟩ := hp9
          refine ZV_goto (tgt := 85) dX12_time_64 (by decide) ?_
          rw [← hV]
          refine ZV_lstore_6 (n := 87) dX12_time_85 rfl (Nat.le_of_ble_eq_true rfl) rfl ?_
          refine ZV_lload (n := 89) dX12_time_87 rfl rfl ?_
          refine ZV_iload_n (n := 90) dX12_time_89 rfl rfl rfl ?_
          refine ZV_iconst (v := nI 2) (n := 91) dX12_time_90 rfl rfl ?_
          refine ZV_iremN (n := 92) dX12_time_91 rfl (by omega) (by omega) (by omega) ?_
          refine ZV_iconst (v := nI 1) (n := 93) dX12_time_92 rfl rfl ?_
          refine ZV_icmp_neN (tgt := 100) (n := 96) dX12_time_93 (by decide) rfl (by omega) (by omega) (fun h93 => ?_) (fun h93 => ?_)
          · skip
            refine ZV_iconst (v := nI 0) (n := 101) dX12_time_100 rfl rfl ?_
            refine call_X12_265 (c_fraction _ false (by omega)) rfl dX12_time_101 (Nat.le_of_ble_eq_true rfl) (Nat.le_of_ble_eq_true rfl) rfl (fun r9 σ9 hp9 => ?_)
            obtain ⟨rfl, rfl⟩ := hp9
            refine ZV_lret dX12_time_104 rfl ?_
            exact zleafL (v := (lN (frT (tiV T j w) (decide (w % 2 = 1))), h_su T 0)) (by rw [sp_time, if_pos ⟨h9, h21⟩, nI_clamp hjx, nI_clamp hwx, su0 hsu]) (by simp [h93]) (rR_s0 hR hsu)
          · skip
            refine ZV_iconst (v := nI 1) (n := 97) dX12_time_96 rfl rfl ?_
            refine ZV_goto (tgt := 101) dX12_time_97 (by decide) ?_
            refine call_X12_265 (c_fraction _ true (by omega)) rfl dX12_time_101 (Nat.le_of_ble_eq_true rfl) (Nat.le_of_ble_eq_true rfl) rfl (fun r9 σ9 hp9 => ?_)
            obtain ⟨rfl, rfl⟩ := hp9
            refine ZV_lret dX12_time_104 rfl ?_
            exact zleafL (v := (lN (frT (tiV T j w) (decide (w % 2 = 1))), h_su T 0)) (by rw [sp_time, if_pos ⟨h9, h21⟩, nI_clamp hjx, nI_clamp hwx, su0 hsu]) (by simp [h93]) (rR_s0 hR hsu)
      · skip
        have hV : tiV T j w = A0 := by rw [tiV, if_pos h47, hA0]
        refine ZV_lload_n (n := 51) dX12_time_50 rfl rfl rfl ?_
        refine ZV_goto (tgt := 85) dX12_time_51 (by decide) ?_
        rw [← hV]
        refine ZV_lstore_6 (n := 87) dX12_time_85 rfl (Nat.le_of_ble_eq_true rfl) rfl ?_
        refine ZV_lload (n := 89) dX12_time_87 rfl rfl ?_
        refine ZV_iload_n (n := 90) dX12_time_89 rfl rfl rfl ?_
        refine ZV_iconst (v := nI 2) (n := 91) dX12_time_90 rfl rfl ?_
        refine ZV_iremN (n := 92) dX12_time_91 rfl (by omega) (by omega) (by omega) ?_
        refine ZV_iconst (v := nI 1) (n := 93) dX12_time_92 rfl rfl ?_
        refine ZV_icmp_neN (tgt := 100) (n := 96) dX12_time_93 (by decide) rfl (by omega) (by omega) (fun h93 => ?_) (fun h93 => ?_)
        · skip
          refine ZV_iconst (v := nI 0) (n := 101) dX12_time_100 rfl rfl ?_
          refine call_X12_265 (c_fraction _ false (by omega)) rfl dX12_time_101 (Nat.le_of_ble_eq_true rfl) (Nat.le_of_ble_eq_true rfl) rfl (fun r9 σ9 hp9 => ?_)
          obtain ⟨rfl, rfl⟩ := hp9
          refine ZV_lret dX12_time_104 rfl ?_
          exact zleafL (v := (lN (frT (tiV T j w) (decide (w % 2 = 1))), h_su T 0)) (by rw [sp_time, if_pos ⟨h9, h21⟩, nI_clamp hjx, nI_clamp hwx, su0 hsu]) (by simp [h93]) (rR_s0 hR hsu)
        · skip
          refine ZV_iconst (v := nI 1) (n := 97) dX12_time_96 rfl rfl ?_
          refine ZV_goto (tgt := 101) dX12_time_97 (by decide) ?_
          refine call_X12_265 (c_fraction _ true (by omega)) rfl dX12_time_101 (Nat.le_of_ble_eq_true rfl) (Nat.le_of_ble_eq_true rfl) rfl (fun r9 σ9 hp9 => ?_)
          obtain ⟨rfl, rfl⟩ := hp9
          refine ZV_lret dX12_time_104 rfl ?_
          exact zleafL (v := (lN (frT (tiV T j w) (decide (w % 2 = 1))), h_su T 0)) (by rw [sp_time, if_pos ⟨h9, h21⟩, nI_clamp hjx, nI_clamp hwx, su0 hsu]) (by simp [h93]) (rR_s0 hR hsu)
    · skip
      refine ZV_aload_n (n := 25) dX12_time_24 rfl rfl rfl ?_
      refine ZV_bipush (v := -2) (n := 27) dX12_time_25 rfl rfl ?_
      refine call_X12_130 (c_no hR _) rfl dX12_time_27 rfl (rf_sh hR :).1 (Nat.le_of_ble_eq_true rfl) (Nat.le_of_ble_eq_true rfl) rfl (fun r9 σ9 hp9 => ?_)
      obtain ⟨rfl, hR⟩ := hp9
      refine ZV_i2l (n := 31) dX12_time_30 rfl ?_
      refine ZV_lret dX12_time_31 rfl ?_
      exact zleafL (v := (-2, h_su T (-2))) (by simp [sp_time, h9, h21]) rfl hR
set_option maxHeartbeats 4000000 in
set_option maxRecDepth 100000 in
theorem c_at {x : Nat} {σ : ZS} {T : TS} (hR : rR x σ T) (hI : tI T) (e w : Int32) : ZC M_X12_at [Ar (some x), Ai e, Ai w] σ (fun y0 τ0 => y0 = some (Ai (sp_at T e w).1) ∧ rR x τ0 (sp_at T e w).2) := by
  have hsp : sp_at T e w = sp_at (h_su T 0) e w := rfl
  rw [hsp]
  clear hsp
  refine ZC_of (ls := [some (Ar (some x)), some (Ai e), some (Ai w)]) (by decide) (Nat.le_of_ble_eq_true rfl) rfl ?_
  refine ZV_aload_n (n := 1) dX12_at_0 rfl rfl rfl ?_
  refine call_X12_144 (c_begin hR) rfl dX12_at_1 rfl (rf_sh hR :).1 (Nat.le_of_ble_eq_true rfl) (Nat.le_of_ble_eq_true rfl) rfl (fun r9 σ9 hp9 => ?_)
  obtain ⟨rfl, hR⟩ := hp9
  have hI := tI_su hI 0
  have hsu : g_su (h_su T 0) = 0 := rfl
  generalize h_su T 0 = T at hR hI hsu ⊢
  have hev := ti_ev hI
  refine ZV_aload_n (n := 5) dX12_at_4 rfl rfl rfl ?_
  refine ZV_iload_n (n := 6) dX12_at_5 rfl rfl rfl ?_
  refine call_X12_193 (c_isEvent hR hI _) rfl dX12_at_6 rfl (rf_sh hR :).1 (Nat.le_of_ble_eq_true rfl) (Nat.le_of_ble_eq_true rfl) rfl (fun r9 σ9 hp9 => ?_)
  obtain ⟨rfl, rfl⟩ := hp9
  refine ZV_if_eqB (tgt := 24) (n := 12) dX12_at_9 (by decide) rfl (fun h9 => ?_) (fun h9 => ?_)
  · skip
    refine ZV_aload_n (n := 25) dX12_at_24 rfl rfl rfl ?_
    refine ZV_bipush (v := -2) (n := 27) dX12_at_25 rfl rfl ?_
    refine call_X12_130 (c_no hR _) rfl dX12_at_27 rfl (rf_sh hR :).1 (Nat.le_of_ble_eq_true rfl) (Nat.le_of_ble_eq_true rfl) rfl (fun r9 σ9 hp9 => ?_)
    obtain ⟨rfl, hR⟩ := hp9
    refine ZV_iret dX12_at_30 rfl ?_
    exact zleaf (v := sNo T (-2)) (by simp [sp_at, h9]) rfl hR
  · skip
    refine ZV_iload_n (n := 13) dX12_at_12 rfl rfl rfl ?_
    refine ZV_i2l (n := 14) dX12_at_13 rfl ?_
    refine ZV_lconst (v := lN 0) (n := 15) dX12_at_14 rfl rfl ?_
    refine ZV_ldc2 (v := lN 8) (n := 18) dX12_at_15 wd_5_197 rfl ?_
    refine call_X12_137 (c_inC _ w (by decide)) rfl dX12_at_18 (Nat.le_of_ble_eq_true rfl) (Nat.le_of_ble_eq_true rfl) rfl (fun r9 σ9 hp9 => ?_)
    obtain ⟨rfl, rfl⟩ := hp9
    refine ZV_if_neB (tgt := 31) (n := 24) dX12_at_21 (by decide) rfl (fun h21 => ?_) (fun h21 => ?_)
    · skip
      obtain ⟨j, hj, hjt, rfl⟩ := evB_t hI h9
      have hjx : j < 2147483648 := by omega
      have hpl := (ti_pl hI j hj hjt).1
      have hmn := ti_mn hI (g_vo T j)
      have hbl := bgF_le hI (g_vo T j) (g_pl T j)
      refine ZV_iload_n (n := 32) dX12_at_31 rfl rfl rfl ?_
      by_cases h32_0 : w = nI 0
      · subst h32_0
        refine ZV_tableIn (tgt := 80) dX12_at_32 (by decide) (by decide) rfl (by decide) ?_
        refine ZV_aload_n (n := 81) dX12_at_80 rfl rfl rfl ?_
        refine ZV_getR (n := 84) dX12_at_81 fl_X12_21 rfl rfl rfl (rf_sh hR :).1 ?_
        refine ZV_iload_n (n := 85) dX12_at_84 rfl rfl rfl ?_
        refine ZV_ialdv (n := 86) dX12_at_85 rfl (ra_voiceOf (rf_sh hR :) :) (rk_voiceOf (rf_sh hR :) :) rfl (by omega) (rf_voiceOf hR _ (by omega)) ?_
        refine ZV_iret dX12_at_86 rfl ?_
        exact zleaf (v := sOk T (nI (g_vo T j))) (by rw [sp_at, if_pos ⟨h9, h21⟩, nI_clamp hjx, su0 hsu]; rfl) rfl (rR_s0 hR hsu)
      by_cases h32_1 : w = nI 1
      · subst h32_1
        refine ZV_tableIn (tgt := 87) dX12_at_32 (by decide) (by decide) rfl (by decide) ?_
        refine ZV_aload_n (n := 88) dX12_at_87 rfl rfl rfl ?_
        refine ZV_iload_n (n := 89) dX12_at_88 rfl rfl rfl ?_
        refine call_X12_196 (c_placeOf hR hI _ hj hjt) rfl dX12_at_89 rfl (rf_sh hR :).1 (Nat.le_of_ble_eq_true rfl) (Nat.le_of_ble_eq_true rfl) rfl (fun r9 σ9 hp9 => ?_)
        obtain ⟨rfl, rfl⟩ := hp9
        refine ZV_iret dX12_at_92 rfl ?_
        exact zleaf (v := sOk T (nI (g_pl T j))) (by rw [sp_at, if_pos ⟨h9, h21⟩, nI_clamp hjx, su0 hsu]; rfl) rfl (rR_s0 hR hsu)
      by_cases h32_2 : w = nI 2
      · subst h32_2
        refine ZV_tableIn (tgt := 93) dX12_at_32 (by decide) (by decide) rfl (by decide) ?_
        refine ZV_aload_n (n := 94) dX12_at_93 rfl rfl rfl ?_
        refine ZV_getR (n := 97) dX12_at_94 fl_X12_24 rfl rfl rfl (rf_sh hR :).1 ?_
        refine ZV_iload_n (n := 98) dX12_at_97 rfl rfl rfl ?_
        refine ZV_ialdv (n := 99) dX12_at_98 rfl (ra_kindOf (rf_sh hR :) :) (rk_kindOf (rf_sh hR :) :) rfl (by omega) (rf_kindOf hR _ (by omega)) ?_
        refine ZV_iret dX12_at_99 rfl ?_
        exact zleaf (v := sOk T (nI (g_kd T j))) (by rw [sp_at, if_pos ⟨h9, h21⟩, nI_clamp hjx, su0 hsu]; rfl) rfl (rR_s0 hR hsu)
      by_cases h32_3 : w = nI 3
      · subst h32_3
        refine ZV_tableIn (tgt := 100) dX12_at_32 (by decide) (by decide) rfl (by decide) ?_
        refine ZV_aload_n (n := 101) dX12_at_100 rfl rfl rfl ?_
        refine ZV_getR (n := 104) dX12_at_101 fl_X12_27 rfl rfl rfl (rf_sh hR :).1 ?_
        refine ZV_iload_n (n := 105) dX12_at_104 rfl rfl rfl ?_
        refine ZV_ialdv (n := 106) dX12_at_105 rfl (ra_pitches (rf_sh hR :) :) (rk_pitches (rf_sh hR :) :) rfl (by omega) (rf_pitches hR _ (by omega)) ?_
        refine ZV_iret dX12_at_106 rfl ?_
        exact zleaf (v := sOk T (nI (g_pn T j))) (by rw [sp_at, if_pos ⟨h9, h21⟩, nI_clamp hjx, su0 hsu]; rfl) rfl (rR_s0 hR hsu)
      by_cases h32_4 : w = nI 4
      · subst h32_4
        refine ZV_tableIn (tgt := 107) dX12_at_32 (by decide) (by decide) rfl (by decide) ?_
        refine ZV_aload_n (n := 108) dX12_at_107 rfl rfl rfl ?_
        refine ZV_getR (n := 111) dX12_at_108 fl_X12_39 rfl rfl rfl (rf_sh hR :).1 ?_
        refine ZV_iload_n (n := 112) dX12_at_111 rfl rfl rfl ?_
        refine ZV_baldv (n := 113) dX12_at_112 rfl (ra_isTied (rf_sh hR :) :) (rk_isTied (rf_sh hR :) :) rfl (by omega) (rf_isTied hR _ (by omega)) ?_
        refine ZV_if_eqB (tgt := 120) (n := 116) dX12_at_113 (by decide) rfl (fun h113 => ?_) (fun h113 => ?_)
        · skip
          refine ZV_iconst (v := nI 0) (n := 121) dX12_at_120 rfl rfl ?_
          refine ZV_iret dX12_at_121 rfl ?_
          exact zleaf (v := sOk T (bI (g_ti T j))) (by rw [sp_at, if_pos ⟨h9, h21⟩, nI_clamp hjx, su0 hsu]; rfl) (by simp [sOk, h113, bI]; rfl) (rR_s0 hR hsu)
        · skip
          refine ZV_iconst (v := nI 1) (n := 117) dX12_at_116 rfl rfl ?_
          refine ZV_goto (tgt := 121) dX12_at_117 (by decide) ?_
          refine ZV_iret dX12_at_121 rfl ?_
          exact zleaf (v := sOk T (bI (g_ti T j))) (by rw [sp_at, if_pos ⟨h9, h21⟩, nI_clamp hjx, su0 hsu]; rfl) (by simp [sOk, h113, bI]; rfl) (rR_s0 hR hsu)
      by_cases h32_5 : w = nI 5
      · subst h32_5
        refine ZV_tableIn (tgt := 122) dX12_at_32 (by decide) (by decide) rfl (by decide) ?_
        refine ZV_aload_n (n := 123) dX12_at_122 rfl rfl rfl ?_
        refine ZV_iload_n (n := 124) dX12_at_123 rfl rfl rfl ?_
        refine call_X12_255 (c_tupletsOf hR hI _ hj hjt) rfl dX12_at_124 rfl (rf_sh hR :).1 (Nat.le_of_ble_eq_true rfl) (Nat.le_of_ble_eq_true rfl) rfl (fun r9 σ9 hp9 => ?_)
        obtain ⟨rfl, rfl⟩ := hp9
        refine ZV_iret dX12_at_127 rfl ?_
        exact zleaf (v := sOk T (nI (zcnt (liB T j) (g_te T)))) (by rw [sp_at, if_pos ⟨h9, h21⟩, nI_clamp hjx, su0 hsu]; rfl) rfl (rR_s0 hR hsu)
      by_cases h32_6 : w = nI 6
      · subst h32_6
        refine ZV_tableIn (tgt := 128) dX12_at_32 (by decide) (by decide) rfl (by decide) ?_
        refine ZV_aload_n (n := 129) dX12_at_128 rfl rfl rfl ?_
        refine ZV_aload_n (n := 130) dX12_at_129 rfl rfl rfl ?_
        refine ZV_iload_n (n := 131) dX12_at_130 rfl rfl rfl ?_
        refine call_X12_258 (c_beginOf hR hI _ hj hjt) rfl dX12_at_131 rfl (rf_sh hR :).1 (Nat.le_of_ble_eq_true rfl) (Nat.le_of_ble_eq_true rfl) rfl (fun r9 σ9 hp9 => ?_)
        obtain ⟨rfl, rfl⟩ := hp9
        refine call_X12_261 (c_barOf hR hI _ (by omega)) rfl dX12_at_134 rfl (rf_sh hR :).1 (Nat.le_of_ble_eq_true rfl) (Nat.le_of_ble_eq_true rfl) rfl (fun r9 σ9 hp9 => ?_)
        obtain ⟨rfl, rfl⟩ := hp9
        refine ZV_iret dX12_at_137 rfl ?_
        exact zleaf (v := sOk T (oI (boF T (bgF T (g_vo T j) (g_pl T j))))) (by rw [sp_at, if_pos ⟨h9, h21⟩, nI_clamp hjx, su0 hsu]; rfl) rfl (rR_s0 hR hsu)
      by_cases h32_7 : w = nI 7
      · subst h32_7
        refine ZV_tableIn (tgt := 138) dX12_at_32 (by decide) (by decide) rfl (by decide) ?_
        refine ZV_aload_n (n := 139) dX12_at_138 rfl rfl rfl ?_
        refine ZV_getR (n := 142) dX12_at_139 fl_X12_33 rfl rfl rfl (rf_sh hR :).1 ?_
        refine ZV_iload_n (n := 143) dX12_at_142 rfl rfl rfl ?_
        refine ZV_ialdv (n := 144) dX12_at_143 rfl (ra_valueOf (rf_sh hR :) :) (rk_valueOf (rf_sh hR :) :) rfl (by omega) (rf_valueOf hR _ (by omega)) ?_
        refine ZV_iret dX12_at_144 rfl ?_
        exact zleaf (v := sOk T (nI (g_va T j))) (by rw [sp_at, if_pos ⟨h9, h21⟩, nI_clamp hjx, su0 hsu]; rfl) rfl (rR_s0 hR hsu)
      have g32_0 := zne_toInt h32_0 (by decide)
      have g32_1 := zne_toInt h32_1 (by decide)
      have g32_2 := zne_toInt h32_2 (by decide)
      have g32_3 := zne_toInt h32_3 (by decide)
      have g32_4 := zne_toInt h32_4 (by decide)
      have g32_5 := zne_toInt h32_5 (by decide)
      have g32_6 := zne_toInt h32_6 (by decide)
      have g32_7 := zne_toInt h32_7 (by decide)
      refine ZV_tableOut (tgt := 145) dX12_at_32 (by omega) (by decide) ?_
      refine ZV_aload_n (n := 146) dX12_at_145 rfl rfl rfl ?_
      refine ZV_getR (n := 149) dX12_at_146 fl_X12_36 rfl rfl rfl (rf_sh hR :).1 ?_
      refine ZV_iload_n (n := 150) dX12_at_149 rfl rfl rfl ?_
      refine ZV_ialdv (n := 151) dX12_at_150 rfl (ra_dotsOf (rf_sh hR :) :) (rk_dotsOf (rf_sh hR :) :) rfl (by omega) (rf_dotsOf hR _ (by omega)) ?_
      refine ZV_iret dX12_at_151 rfl ?_
      exact zleaf (v := sOk T (nI (g_dt T j))) (by rw [sp_at, if_pos ⟨h9, h21⟩, nI_clamp hjx, if_neg h32_0, if_neg h32_1, if_neg h32_2, if_neg h32_3, if_neg h32_4, if_neg h32_5, if_neg h32_6, if_neg h32_7]) rfl (rR_s0 hR hsu)
    · skip
      refine ZV_aload_n (n := 25) dX12_at_24 rfl rfl rfl ?_
      refine ZV_bipush (v := -2) (n := 27) dX12_at_25 rfl rfl ?_
      refine call_X12_130 (c_no hR _) rfl dX12_at_27 rfl (rf_sh hR :).1 (Nat.le_of_ble_eq_true rfl) (Nat.le_of_ble_eq_true rfl) rfl (fun r9 σ9 hp9 => ?_)
      obtain ⟨rfl, hR⟩ := hp9
      refine ZV_iret dX12_at_30 rfl ?_
      exact zleaf (v := sNo T (-2)) (by simp [sp_at, h9, h21]) rfl hR
set_option maxHeartbeats 4000000 in
set_option maxRecDepth 100000 in
theorem c_sizeOf {x : Nat} {σ : ZS} {T : TS} (hR : rR x σ T) (hI : tI T) (t : Nat) (ht : t < g_te T) (htt : g_tt T t = true) : ZC M_X12_sizeOf [Ar (some x), Ai (nI t)] σ (fun r τ => r = some (Ai (nI (szT T t))) ∧ τ = σ) := by
  have hte := ti_te hI
  have htp := ti_tp hI t ht htt
  have hp1 := (ti_pl hI _ htp.1 htp.2.2.1).1
  have hp2 := (ti_pl hI _ htp.2.1 htp.2.2.2.1).1
  refine ZC_of (ls := [some (Ar (some x)), some (Ai (nI t))]) (by decide) (Nat.le_of_ble_eq_true rfl) rfl ?_
  refine ZV_aload_n (n := 1) dX12_sizeOf_0 rfl rfl rfl ?_
  refine ZV_aload_n (n := 2) dX12_sizeOf_1 rfl rfl rfl ?_
  refine ZV_getR (n := 5) dX12_sizeOf_2 fl_X12_57 rfl rfl rfl (rf_sh hR :).1 ?_
  refine ZV_iload_n (n := 6) dX12_sizeOf_5 rfl rfl rfl ?_
  refine ZV_ialdv (n := 7) dX12_sizeOf_6 rfl (ra_tupletLast (rf_sh hR :) :) (rk_tupletLast (rf_sh hR :) :) rfl (by omega) (rf_tupletLast hR _ (by omega)) ?_
  refine call_X12_196 (c_placeOf hR hI _ htp.2.1 htp.2.2.2.1) rfl dX12_sizeOf_7 rfl (rf_sh hR :).1 (Nat.le_of_ble_eq_true rfl) (Nat.le_of_ble_eq_true rfl) rfl (fun r9 σ9 hp9 => ?_)
  obtain ⟨rfl, rfl⟩ := hp9
  refine ZV_aload_n (n := 11) dX12_sizeOf_10 rfl rfl rfl ?_
  refine ZV_aload_n (n := 12) dX12_sizeOf_11 rfl rfl rfl ?_
  refine ZV_getR (n := 15) dX12_sizeOf_12 fl_X12_54 rfl rfl rfl (rf_sh hR :).1 ?_
  refine ZV_iload_n (n := 16) dX12_sizeOf_15 rfl rfl rfl ?_
  refine ZV_ialdv (n := 17) dX12_sizeOf_16 rfl (ra_tupletFirst (rf_sh hR :) :) (rk_tupletFirst (rf_sh hR :) :) rfl (by omega) (rf_tupletFirst hR _ (by omega)) ?_
  refine call_X12_196 (c_placeOf hR hI _ htp.1 htp.2.2.1) rfl dX12_sizeOf_17 rfl (rf_sh hR :).1 (Nat.le_of_ble_eq_true rfl) (Nat.le_of_ble_eq_true rfl) rfl (fun r9 σ9 hp9 => ?_)
  obtain ⟨rfl, rfl⟩ := hp9
  refine ZV_isubN (n := 21) dX12_sizeOf_20 rfl htp.2.2.2.2.2.2 ?_
  refine ZV_iconst (v := nI 1) (n := 22) dX12_sizeOf_21 rfl rfl ?_
  refine ZV_iaddN (n := 23) dX12_sizeOf_22 rfl ?_
  refine ZV_iret dX12_sizeOf_23 rfl ?_
  exact ⟨rfl, rfl⟩
set_option maxHeartbeats 4000000 in
set_option maxRecDepth 100000 in
theorem c_untuplet {x : Nat} {σ : ZS} {T : TS} (hR : rR x σ T) (hI : tI T) (t : Int32) : ZC M_X12_untuplet [Ar (some x), Ai t] σ (fun y0 τ0 => y0 = some (Ai (sp_untuplet T t).1) ∧ rR x τ0 (sp_untuplet T t).2) := by
  have hsp : sp_untuplet T t = sp_untuplet (h_su T 0) t := rfl
  rw [hsp]
  clear hsp
  refine ZC_of (ls := [some (Ar (some x)), some (Ai t), none]) (by decide) (Nat.le_of_ble_eq_true rfl) rfl ?_
  refine ZV_aload_n (n := 1) dX12_untuplet_0 rfl rfl rfl ?_
  refine call_X12_144 (c_begin hR) rfl dX12_untuplet_1 rfl (rf_sh hR :).1 (Nat.le_of_ble_eq_true rfl) (Nat.le_of_ble_eq_true rfl) rfl (fun r9 σ9 hp9 => ?_)
  obtain ⟨rfl, hR⟩ := hp9
  have hI := tI_su hI 0
  have hsu : g_su (h_su T 0) = 0 := rfl
  generalize h_su T 0 = T at hR hI hsu ⊢
  have hte := ti_te hI
  have hcu := ti_cu hI
  refine ZV_aload_n (n := 5) dX12_untuplet_4 rfl rfl rfl ?_
  refine ZV_iload_n (n := 6) dX12_untuplet_5 rfl rfl rfl ?_
  refine call_X12_272 (c_hasTuplet hR hI _) rfl dX12_untuplet_6 rfl (rf_sh hR :).1 (Nat.le_of_ble_eq_true rfl) (Nat.le_of_ble_eq_true rfl) rfl (fun r9 σ9 hp9 => ?_)
  obtain ⟨rfl, rfl⟩ := hp9
  refine ZV_if_neB (tgt := 19) (n := 12) dX12_untuplet_9 (by decide) rfl (fun h9 => ?_) (fun h9 => ?_)
  · skip
    obtain ⟨j, hj, hjt, rfl⟩ := tpB_t hI h9
    have hjx : j < 2147483648 := by omega
    have hzc := zcnt_off (g_te T) hj hjt
    refine ZV_aload_n (n := 20) dX12_untuplet_19 rfl rfl rfl ?_
    refine ZV_iload_n (n := 21) dX12_untuplet_20 rfl rfl rfl ?_
    refine call_X12_275 (c_sizeOf hR hI _ hj hjt) rfl dX12_untuplet_21 rfl (rf_sh hR :).1 (Nat.le_of_ble_eq_true rfl) (Nat.le_of_ble_eq_true rfl) rfl (fun r9 σ9 hp9 => ?_)
    obtain ⟨rfl, rfl⟩ := hp9
    refine ZV_istore_2 (n := 25) dX12_untuplet_24 rfl (Nat.le_of_ble_eq_true rfl) rfl ?_
    refine ZV_aload_n (n := 26) dX12_untuplet_25 rfl rfl rfl ?_
    refine ZV_getR (n := 29) dX12_untuplet_26 fl_X12_48 rfl rfl rfl (rf_sh hR :).1 ?_
    refine ZV_iload_n (n := 30) dX12_untuplet_29 rfl rfl rfl ?_
    refine ZV_iconst (v := nI 0) (n := 31) dX12_untuplet_30 rfl rfl ?_
    refine ZV_bast (n := 32) dX12_untuplet_31 rfl (Or.inl rfl) (ra_isTuplet (rf_sh hR :) :) (rk_isTuplet (rf_sh hR :) :) rfl (by omega) ?_
    refine ZV_gen (P := fun τ => rR x τ _) (rR_isTuplet hR false) (fun σ hR => ?_)
    refine ZV_aload_n (n := 33) dX12_untuplet_32 rfl rfl rfl ?_
    refine ZV_dup (n := 34) dX12_untuplet_33 rfl rfl ?_
    refine ZV_getIv (n := 37) dX12_untuplet_34 fl_X12_202 rfl rfl rfl (rf_sh hR :).1 (Eq.trans ((rf_tupletsThere hR :) :) (show _ = nI (g_cu T) by first | simp only [gh_cu_ct, gh_cu_cu, gh_cu_cl, gh_cu_np, gh_cu_pk, gh_cu_nb, gh_cu_bt, gh_cu_ev, gh_cu_th, gh_cu_vo, gh_cu_kd, gh_cu_pn, gh_cu_pi, gh_cu_va, gh_cu_dt, gh_cu_ti, gh_cu_pl, gh_cu_mn, gh_cu_ro, gh_cu_te, gh_cu_tt, gh_cu_tv, gh_cu_tf, gh_cu_tl, gh_cu_tn, gh_cu_tm, gh_cu_tu, gh_cu_le, gh_cu_lt, gh_cu_lk, gh_cu_lf, gh_cu_lo, gh_cu_wm, gh_cu_wr, gh_cu_fo, gh_cu_fi, gh_cu_hr, gh_cu_rk, gh_cu_rs, gh_cu_rr, gh_cu_hs, gh_cu_sk, gh_cu_ss, gh_cu_sr, gh_cu_fa, gh_cu_su, gh_cu_tr] | rfl)) ?_
    refine ZV_iconst (v := nI 1) (n := 38) dX12_untuplet_37 rfl rfl ?_
    refine ZV_isubN (n := 39) dX12_untuplet_38 rfl (by omega) ?_
    refine ZV_putI (n := 42) dX12_untuplet_39 fl_X12_202 rfl (Or.inl rfl) rfl (fun h => absurd h (by decide)) rfl (rf_sh hR :).1 ?_
    refine ZV_gen (P := fun τ => rR x τ _) (rR_tupletsThere hR _) (fun σ hR => ?_)
    refine ZV_iload_n (n := 43) dX12_untuplet_42 rfl rfl rfl ?_
    refine ZV_iret dX12_untuplet_43 rfl ?_
    exact zleaf (v := sOk (h_cu (h_tt T (va_up (g_tt T) j false)) (g_cu T - 1)) (nI (szT T j))) (by simp [sp_untuplet, h9, nI_clamp hjx]) rfl (rR_s0 hR hsu)
  · skip
    refine ZV_aload_n (n := 13) dX12_untuplet_12 rfl rfl rfl ?_
    refine ZV_bipush (v := -2) (n := 15) dX12_untuplet_13 rfl rfl ?_
    refine call_X12_130 (c_no hR _) rfl dX12_untuplet_15 rfl (rf_sh hR :).1 (Nat.le_of_ble_eq_true rfl) (Nat.le_of_ble_eq_true rfl) rfl (fun r9 σ9 hp9 => ?_)
    obtain ⟨rfl, hR⟩ := hp9
    refine ZV_iret dX12_untuplet_18 rfl ?_
    exact zleaf (v := sNo T (-2)) (by simp [sp_untuplet, h9]) rfl hR
set_option maxHeartbeats 4000000 in
set_option maxRecDepth 100000 in
theorem c_isInner {x : Nat} {σ : ZS} {T : TS} (hR : rR x σ T) (hI : tI T) (t u : Nat) (ht : t < g_te T) (hu : u < g_te T) : ZC M_X12_isInner [Ar (some x), Ai (nI t), Ai (nI u)] σ (fun r τ => r = some (Ai (bI (inI T t u))) ∧ τ = σ) := by
  have hte := ti_te hI
  have hnp := ti_np hI
  have hev := ti_ev hI
  refine ZC_of (ls := [some (Ar (some x)), some (Ai (nI t)), some (Ai (nI u)), none]) (by decide) (Nat.le_of_ble_eq_true rfl) rfl ?_
  refine ZV_iload_n (n := 1) dX12_isInner_0 rfl rfl rfl ?_
  refine ZV_iload_n (n := 2) dX12_isInner_1 rfl rfl rfl ?_
  refine ZV_icmp_eqN (tgt := 38) (n := 5) dX12_isInner_2 (by decide) rfl (by omega) (by omega) (fun h2 => ?_) (fun h2 => ?_)
  · skip
    refine ZV_iconst (v := nI 0) (n := 39) dX12_isInner_38 rfl rfl ?_
    refine ZV_zret dX12_isInner_39 rfl (by first | exact Or.inl rfl | exact Or.inr rfl) ?_
    first | (exfalso; omega) | (refine ⟨?_, rfl⟩; unfold inI; first | (rw [decide_eq_false (by omega)]; rfl) | (rw [decide_eq_true (by omega), h11]; rfl) | (rw [decide_eq_true (by omega), h11, h20, decide_eq_false (by omega)]; rfl) | (rw [decide_eq_true (by omega), h11, h20, decide_eq_true (by omega)]; rfl) | (rw [decide_eq_true (by omega), h11, h20]; rfl))
  · skip
    refine ZV_aload_n (n := 6) dX12_isInner_5 rfl rfl rfl ?_
    refine ZV_getR (n := 9) dX12_isInner_6 fl_X12_48 rfl rfl rfl (rf_sh hR :).1 ?_
    refine ZV_iload_n (n := 10) dX12_isInner_9 rfl rfl rfl ?_
    refine ZV_baldv (n := 11) dX12_isInner_10 rfl (ra_isTuplet (rf_sh hR :) :) (rk_isTuplet (rf_sh hR :) :) rfl (by omega) (rf_isTuplet hR _ (by omega)) ?_
    refine ZV_if_eqB (tgt := 38) (n := 14) dX12_isInner_11 (by decide) rfl (fun h11 => ?_) (fun h11 => ?_)
    · skip
      refine ZV_iconst (v := nI 0) (n := 39) dX12_isInner_38 rfl rfl ?_
      refine ZV_zret dX12_isInner_39 rfl (by first | exact Or.inl rfl | exact Or.inr rfl) ?_
      first | (exfalso; omega) | (refine ⟨?_, rfl⟩; unfold inI; first | (rw [decide_eq_false (by omega)]; rfl) | (rw [decide_eq_true (by omega), h11]; rfl) | (rw [decide_eq_true (by omega), h11, h20, decide_eq_false (by omega)]; rfl) | (rw [decide_eq_true (by omega), h11, h20, decide_eq_true (by omega)]; rfl) | (rw [decide_eq_true (by omega), h11, h20]; rfl))
    · skip
      refine ZV_aload_n (n := 15) dX12_isInner_14 rfl rfl rfl ?_
      refine ZV_getR (n := 18) dX12_isInner_15 fl_X12_48 rfl rfl rfl (rf_sh hR :).1 ?_
      refine ZV_iload_n (n := 19) dX12_isInner_18 rfl rfl rfl ?_
      refine ZV_baldv (n := 20) dX12_isInner_19 rfl (ra_isTuplet (rf_sh hR :) :) (rk_isTuplet (rf_sh hR :) :) rfl (by omega) (rf_isTuplet hR _ (by omega)) ?_
      refine ZV_if_eqB (tgt := 38) (n := 23) dX12_isInner_20 (by decide) rfl (fun h20 => ?_) (fun h20 => ?_)
      · skip
        refine ZV_iconst (v := nI 0) (n := 39) dX12_isInner_38 rfl rfl ?_
        refine ZV_zret dX12_isInner_39 rfl (by first | exact Or.inl rfl | exact Or.inr rfl) ?_
        first | (exfalso; omega) | (refine ⟨?_, rfl⟩; unfold inI; first | (rw [decide_eq_false (by omega)]; rfl) | (rw [decide_eq_true (by omega), h11]; rfl) | (rw [decide_eq_true (by omega), h11, h20, decide_eq_false (by omega)]; rfl) | (rw [decide_eq_true (by omega), h11, h20, decide_eq_true (by omega)]; rfl) | (rw [decide_eq_true (by omega), h11, h20]; rfl))
      · skip
        have htp := ti_tp hI t ht h11
        have hup := ti_tp hI u hu h20
        have hv1 := ti_vo hI _ htp.1
        have hv2 := ti_vo hI _ hup.1
        refine ZV_aload_n (n := 24) dX12_isInner_23 rfl rfl rfl ?_
        refine ZV_getR (n := 27) dX12_isInner_24 fl_X12_51 rfl rfl rfl (rf_sh hR :).1 ?_
        refine ZV_iload_n (n := 28) dX12_isInner_27 rfl rfl rfl ?_
        refine ZV_ialdv (n := 29) dX12_isInner_28 rfl (ra_tupletVoice (rf_sh hR :) :) (rk_tupletVoice (rf_sh hR :) :) rfl (by omega) (rf_tupletVoice hR _ (by omega)) ?_
        refine ZV_aload_n (n := 30) dX12_isInner_29 rfl rfl rfl ?_
        refine ZV_getR (n := 33) dX12_isInner_30 fl_X12_51 rfl rfl rfl (rf_sh hR :).1 ?_
        refine ZV_iload_n (n := 34) dX12_isInner_33 rfl rfl rfl ?_
        refine ZV_ialdv (n := 35) dX12_isInner_34 rfl (ra_tupletVoice (rf_sh hR :) :) (rk_tupletVoice (rf_sh hR :) :) rfl (by omega) (rf_tupletVoice hR _ (by omega)) ?_
        refine ZV_icmp_eqN (tgt := 40) (n := 38) dX12_isInner_35 (by decide) rfl (by omega) (by omega) (fun h35 => ?_) (fun h35 => ?_)
        · skip
          have hp1 := (ti_pl hI _ htp.1 htp.2.2.1).1
          have hp2 := (ti_pl hI _ htp.2.1 htp.2.2.2.1).1
          have hp3 := (ti_pl hI _ hup.1 hup.2.2.1).1
          have hp4 := (ti_pl hI _ hup.2.1 hup.2.2.2.1).1
          have hm1 := ti_mn hI (g_vo T (g_tf T t))
          have hm2 := ti_mn hI (g_vo T (g_tl T t))
          have hm3 := ti_mn hI (g_vo T (g_tf T u))
          have hm4 := ti_mn hI (g_vo T (g_tl T u))
          have hz1 : szT T t = g_pl T (g_tl T t) - g_pl T (g_tf T t) + 1 := rfl
          have hz2 : szT T u = g_pl T (g_tl T u) - g_pl T (g_tf T u) + 1 := rfl
          refine ZV_aload_n (n := 41) dX12_isInner_40 rfl rfl rfl ?_
          refine ZV_aload_n (n := 42) dX12_isInner_41 rfl rfl rfl ?_
          refine ZV_getR (n := 45) dX12_isInner_42 fl_X12_54 rfl rfl rfl (rf_sh hR :).1 ?_
          refine ZV_iload_n (n := 46) dX12_isInner_45 rfl rfl rfl ?_
          refine ZV_ialdv (n := 47) dX12_isInner_46 rfl (ra_tupletFirst (rf_sh hR :) :) (rk_tupletFirst (rf_sh hR :) :) rfl (by omega) (rf_tupletFirst hR _ (by omega)) ?_
          refine call_X12_196 (c_placeOf hR hI _ hup.1 hup.2.2.1) rfl dX12_isInner_47 rfl (rf_sh hR :).1 (Nat.le_of_ble_eq_true rfl) (Nat.le_of_ble_eq_true rfl) rfl (fun r9 σ9 hp9 => ?_)
          obtain ⟨rfl, rfl⟩ := hp9
          refine ZV_aload_n (n := 51) dX12_isInner_50 rfl rfl rfl ?_
          refine ZV_aload_n (n := 52) dX12_isInner_51 rfl rfl rfl ?_
          refine ZV_getR (n := 55) dX12_isInner_52 fl_X12_54 rfl rfl rfl (rf_sh hR :).1 ?_
          refine ZV_iload_n (n := 56) dX12_isInner_55 rfl rfl rfl ?_
          refine ZV_ialdv (n := 57) dX12_isInner_56 rfl (ra_tupletFirst (rf_sh hR :) :) (rk_tupletFirst (rf_sh hR :) :) rfl (by omega) (rf_tupletFirst hR _ (by omega)) ?_
          refine call_X12_196 (c_placeOf hR hI _ htp.1 htp.2.2.1) rfl dX12_isInner_57 rfl (rf_sh hR :).1 (Nat.le_of_ble_eq_true rfl) (Nat.le_of_ble_eq_true rfl) rfl (fun r9 σ9 hp9 => ?_)
          obtain ⟨rfl, rfl⟩ := hp9
          refine ZV_icmp_gtN (tgt := 90) (n := 63) dX12_isInner_60 (by decide) rfl (by omega) (by omega) (fun h60 => ?_) (fun h60 => ?_)
          · skip
            refine ZV_iconst (v := nI 0) (n := 91) dX12_isInner_90 rfl rfl ?_
            refine ZV_istore_3 (n := 92) dX12_isInner_91 rfl (Nat.le_of_ble_eq_true rfl) rfl ?_
            refine ZV_iload_n (n := 93) dX12_isInner_92 rfl rfl rfl ?_
            refine ZV_if_eqN (tgt := 118) (n := 96) dX12_isInner_93 (by decide) rfl (by omega) (fun h93 => ?_) (fun h93 => ?_)
            · skip
              refine ZV_iconst (v := nI 0) (n := 119) dX12_isInner_118 rfl rfl ?_
              refine ZV_zret dX12_isInner_119 rfl (by first | exact Or.inl rfl | exact Or.inr rfl) ?_
              first | (exfalso; omega) | (refine ⟨?_, rfl⟩; unfold inI; first | (rw [decide_eq_false (by omega)]; rfl) | (rw [decide_eq_true (by omega), h11]; rfl) | (rw [decide_eq_true (by omega), h11, h20, decide_eq_false (by omega)]; rfl) | (rw [decide_eq_true (by omega), h11, h20, decide_eq_true (by omega)]; rfl) | (rw [decide_eq_true (by omega), h11, h20]; rfl))
            · skip
              refine ZV_aload_n (n := 97) dX12_isInner_96 rfl rfl rfl ?_
              refine ZV_iload_n (n := 98) dX12_isInner_97 rfl rfl rfl ?_
              refine call_X12_275 (c_sizeOf hR hI _ ht h11) rfl dX12_isInner_98 rfl (rf_sh hR :).1 (Nat.le_of_ble_eq_true rfl) (Nat.le_of_ble_eq_true rfl) rfl (fun r9 σ9 hp9 => ?_)
              obtain ⟨rfl, rfl⟩ := hp9
              refine ZV_aload_n (n := 102) dX12_isInner_101 rfl rfl rfl ?_
              refine ZV_iload_n (n := 103) dX12_isInner_102 rfl rfl rfl ?_
              refine call_X12_275 (c_sizeOf hR hI _ hu h20) rfl dX12_isInner_103 rfl (rf_sh hR :).1 (Nat.le_of_ble_eq_true rfl) (Nat.le_of_ble_eq_true rfl) rfl (fun r9 σ9 hp9 => ?_)
              obtain ⟨rfl, rfl⟩ := hp9
              refine ZV_icmp_ltN (tgt := 114) (n := 109) dX12_isInner_106 (by decide) rfl (by omega) (by omega) (fun h106 => ?_) (fun h106 => ?_)
              · skip
                refine ZV_iconst (v := nI 1) (n := 115) dX12_isInner_114 rfl rfl ?_
                refine ZV_goto (tgt := 119) dX12_isInner_115 (by decide) ?_
                refine ZV_zret dX12_isInner_119 rfl (by first | exact Or.inl rfl | exact Or.inr rfl) ?_
                first | (exfalso; omega) | (refine ⟨?_, rfl⟩; unfold inI; first | (rw [decide_eq_false (by omega)]; rfl) | (rw [decide_eq_true (by omega), h11]; rfl) | (rw [decide_eq_true (by omega), h11, h20, decide_eq_false (by omega)]; rfl) | (rw [decide_eq_true (by omega), h11, h20, decide_eq_true (by omega)]; rfl) | (rw [decide_eq_true (by omega), h11, h20]; rfl))
              · skip
                refine ZV_iload_n (n := 110) dX12_isInner_109 rfl rfl rfl ?_
                refine ZV_iload_n (n := 111) dX12_isInner_110 rfl rfl rfl ?_
                refine ZV_icmp_leN (tgt := 118) (n := 114) dX12_isInner_111 (by decide) rfl (by omega) (by omega) (fun h111 => ?_) (fun h111 => ?_)
                · skip
                  refine ZV_iconst (v := nI 0) (n := 119) dX12_isInner_118 rfl rfl ?_
                  refine ZV_zret dX12_isInner_119 rfl (by first | exact Or.inl rfl | exact Or.inr rfl) ?_
                  first | (exfalso; omega) | (refine ⟨?_, rfl⟩; unfold inI; first | (rw [decide_eq_false (by omega)]; rfl) | (rw [decide_eq_true (by omega), h11]; rfl) | (rw [decide_eq_true (by omega), h11, h20, decide_eq_false (by omega)]; rfl) | (rw [decide_eq_true (by omega), h11, h20, decide_eq_true (by omega)]; rfl) | (rw [decide_eq_true (by omega), h11, h20]; rfl))
                · skip
                  refine ZV_iconst (v := nI 1) (n := 115) dX12_isInner_114 rfl rfl ?_
                  refine ZV_goto (tgt := 119) dX12_isInner_115 (by decide) ?_
                  refine ZV_zret dX12_isInner_119 rfl (by first | exact Or.inl rfl | exact Or.inr rfl) ?_
                  first | (exfalso; omega) | (refine ⟨?_, rfl⟩; unfold inI; first | (rw [decide_eq_false (by omega)]; rfl) | (rw [decide_eq_true (by omega), h11]; rfl) | (rw [decide_eq_true (by omega), h11, h20, decide_eq_false (by omega)]; rfl) | (rw [decide_eq_true (by omega), h11, h20, decide_eq_true (by omega)]; rfl) | (rw [decide_eq_true (by omega), h11, h20]; rfl))
          · skip
            refine ZV_aload_n (n := 64) dX12_isInner_63 rfl rfl rfl ?_
            refine ZV_aload_n (n := 65) dX12_isInner_64 rfl rfl rfl ?_
            refine ZV_getR (n := 68) dX12_isInner_65 fl_X12_57 rfl rfl rfl (rf_sh hR :).1 ?_
            refine ZV_iload_n (n := 69) dX12_isInner_68 rfl rfl rfl ?_
            refine ZV_ialdv (n := 70) dX12_isInner_69 rfl (ra_tupletLast (rf_sh hR :) :) (rk_tupletLast (rf_sh hR :) :) rfl (by omega) (rf_tupletLast hR _ (by omega)) ?_
            refine call_X12_196 (c_placeOf hR hI _ htp.2.1 htp.2.2.2.1) rfl dX12_isInner_70 rfl (rf_sh hR :).1 (Nat.le_of_ble_eq_true rfl) (Nat.le_of_ble_eq_true rfl) rfl (fun r9 σ9 hp9 => ?_)
            obtain ⟨rfl, rfl⟩ := hp9
            refine ZV_aload_n (n := 74) dX12_isInner_73 rfl rfl rfl ?_
            refine ZV_aload_n (n := 75) dX12_isInner_74 rfl rfl rfl ?_
            refine ZV_getR (n := 78) dX12_isInner_75 fl_X12_57 rfl rfl rfl (rf_sh hR :).1 ?_
            refine ZV_iload_n (n := 79) dX12_isInner_78 rfl rfl rfl ?_
            refine ZV_ialdv (n := 80) dX12_isInner_79 rfl (ra_tupletLast (rf_sh hR :) :) (rk_tupletLast (rf_sh hR :) :) rfl (by omega) (rf_tupletLast hR _ (by omega)) ?_
            refine call_X12_196 (c_placeOf hR hI _ hup.2.1 hup.2.2.2.1) rfl dX12_isInner_80 rfl (rf_sh hR :).1 (Nat.le_of_ble_eq_true rfl) (Nat.le_of_ble_eq_true rfl) rfl (fun r9 σ9 hp9 => ?_)
            obtain ⟨rfl, rfl⟩ := hp9
            refine ZV_icmp_gtN (tgt := 90) (n := 86) dX12_isInner_83 (by decide) rfl (by omega) (by omega) (fun h83 => ?_) (fun h83 => ?_)
            · skip
              refine ZV_iconst (v := nI 0) (n := 91) dX12_isInner_90 rfl rfl ?_
              refine ZV_istore_3 (n := 92) dX12_isInner_91 rfl (Nat.le_of_ble_eq_true rfl) rfl ?_
              refine ZV_iload_n (n := 93) dX12_isInner_92 rfl rfl rfl ?_
              refine ZV_if_eqN (tgt := 118) (n := 96) dX12_isInner_93 (by decide) rfl (by omega) (fun h93 => ?_) (fun h93 => ?_)
              · skip
                refine ZV_iconst (v := nI 0) (n := 119) dX12_isInner_118 rfl rfl ?_
                refine ZV_zret dX12_isInner_119 rfl (by first | exact Or.inl rfl | exact Or.inr rfl) ?_
                first | (exfalso; omega) | (refine ⟨?_, rfl⟩; unfold inI; first | (rw [decide_eq_false (by omega)]; rfl) | (rw [decide_eq_true (by omega), h11]; rfl) | (rw [decide_eq_true (by omega), h11, h20, decide_eq_false (by omega)]; rfl) | (rw [decide_eq_true (by omega), h11, h20, decide_eq_true (by omega)]; rfl) | (rw [decide_eq_true (by omega), h11, h20]; rfl))
              · skip
                refine ZV_aload_n (n := 97) dX12_isInner_96 rfl rfl rfl ?_
                refine ZV_iload_n (n := 98) dX12_isInner_97 rfl rfl rfl ?_
                refine call_X12_275 (c_sizeOf hR hI _ ht h11) rfl dX12_isInner_98 rfl (rf_sh hR :).1 (Nat.le_of_ble_eq_true rfl) (Nat.le_of_ble_eq_true rfl) rfl (fun r9 σ9 hp9 => ?_)
                obtain ⟨rfl, rfl⟩ := hp9
                refine ZV_aload_n (n := 102) dX12_isInner_101 rfl rfl rfl ?_
                refine ZV_iload_n (n := 103) dX12_isInner_102 rfl rfl rfl ?_
                refine call_X12_275 (c_sizeOf hR hI _ hu h20) rfl dX12_isInner_103 rfl (rf_sh hR :).1 (Nat.le_of_ble_eq_true rfl) (Nat.le_of_ble_eq_true rfl) rfl (fun r9 σ9 hp9 => ?_)
                obtain ⟨rfl, rfl⟩ := hp9
                refine ZV_icmp_ltN (tgt := 114) (n := 109) dX12_isInner_106 (by decide) rfl (by omega) (by omega) (fun h106 => ?_) (fun h106 => ?_)
                · skip
                  refine ZV_iconst (v := nI 1) (n := 115) dX12_isInner_114 rfl rfl ?_
                  refine ZV_goto (tgt := 119) dX12_isInner_115 (by decide) ?_
                  refine ZV_zret dX12_isInner_119 rfl (by first | exact Or.inl rfl | exact Or.inr rfl) ?_
                  first | (exfalso; omega) | (refine ⟨?_, rfl⟩; unfold inI; first | (rw [decide_eq_false (by omega)]; rfl) | (rw [decide_eq_true (by omega), h11]; rfl) | (rw [decide_eq_true (by omega), h11, h20, decide_eq_false (by omega)]; rfl) | (rw [decide_eq_true (by omega), h11, h20, decide_eq_true (by omega)]; rfl) | (rw [decide_eq_true (by omega), h11, h20]; rfl))
                · skip
                  refine ZV_iload_n (n := 110) dX12_isInner_109 rfl rfl rfl ?_
                  refine ZV_iload_n (n := 111) dX12_isInner_110 rfl rfl rfl ?_
                  refine ZV_icmp_leN (tgt := 118) (n := 114) dX12_isInner_111 (by decide) rfl (by omega) (by omega) (fun h111 => ?_) (fun h111 => ?_)
                  · skip
                    refine ZV_iconst (v := nI 0) (n := 119) dX12_isInner_118 rfl rfl ?_
                    refine ZV_zret dX12_isInner_119 rfl (by first | exact Or.inl rfl | exact Or.inr rfl) ?_
                    first | (exfalso; omega) | (refine ⟨?_, rfl⟩; unfold inI; first | (rw [decide_eq_false (by omega)]; rfl) | (rw [decide_eq_true (by omega), h11]; rfl) | (rw [decide_eq_true (by omega), h11, h20, decide_eq_false (by omega)]; rfl) | (rw [decide_eq_true (by omega), h11, h20, decide_eq_true (by omega)]; rfl) | (rw [decide_eq_true (by omega), h11, h20]; rfl))
                  · skip
                    refine ZV_iconst (v := nI 1) (n := 115) dX12_isInner_114 rfl rfl ?_
                    refine ZV_goto (tgt := 119) dX12_isInner_115 (by decide) ?_
                    refine ZV_zret dX12_isInner_119 rfl (by first | exact Or.inl rfl | exact Or.inr rfl) ?_
                    first | (exfalso; omega) | (refine ⟨?_, rfl⟩; unfold inI; first | (rw [decide_eq_false (by omega)]; rfl) | (rw [decide_eq_true (by omega), h11]; rfl) | (rw [decide_eq_true (by omega), h11, h20, decide_eq_false (by omega)]; rfl) | (rw [decide_eq_true (by omega), h11, h20, decide_eq_true (by omega)]; rfl) | (rw [decide_eq_true (by omega), h11, h20]; rfl))
            · skip
              refine ZV_iconst (v := nI 1) (n := 87) dX12_isInner_86 rfl rfl ?_
              refine ZV_goto (tgt := 91) dX12_isInner_87 (by decide) ?_
              refine ZV_istore_3 (n := 92) dX12_isInner_91 rfl (Nat.le_of_ble_eq_true rfl) rfl ?_
              refine ZV_iload_n (n := 93) dX12_isInner_92 rfl rfl rfl ?_
              refine ZV_if_eqN (tgt := 118) (n := 96) dX12_isInner_93 (by decide) rfl (by omega) (fun h93 => ?_) (fun h93 => ?_)
              · skip
                refine ZV_iconst (v := nI 0) (n := 119) dX12_isInner_118 rfl rfl ?_
                refine ZV_zret dX12_isInner_119 rfl (by first | exact Or.inl rfl | exact Or.inr rfl) ?_
                first | (exfalso; omega) | (refine ⟨?_, rfl⟩; unfold inI; first | (rw [decide_eq_false (by omega)]; rfl) | (rw [decide_eq_true (by omega), h11]; rfl) | (rw [decide_eq_true (by omega), h11, h20, decide_eq_false (by omega)]; rfl) | (rw [decide_eq_true (by omega), h11, h20, decide_eq_true (by omega)]; rfl) | (rw [decide_eq_true (by omega), h11, h20]; rfl))
              · skip
                refine ZV_aload_n (n := 97) dX12_isInner_96 rfl rfl rfl ?_
                refine ZV_iload_n (n := 98) dX12_isInner_97 rfl rfl rfl ?_
                refine call_X12_275 (c_sizeOf hR hI _ ht h11) rfl dX12_isInner_98 rfl (rf_sh hR :).1 (Nat.le_of_ble_eq_true rfl) (Nat.le_of_ble_eq_true rfl) rfl (fun r9 σ9 hp9 => ?_)
                obtain ⟨rfl, rfl⟩ := hp9
                refine ZV_aload_n (n := 102) dX12_isInner_101 rfl rfl rfl ?_
                refine ZV_iload_n (n := 103) dX12_isInner_102 rfl rfl rfl ?_
                refine call_X12_275 (c_sizeOf hR hI _ hu h20) rfl dX12_isInner_103 rfl (rf_sh hR :).1 (Nat.le_of_ble_eq_true rfl) (Nat.le_of_ble_eq_true rfl) rfl (fun r9 σ9 hp9 => ?_)
                obtain ⟨rfl, rfl⟩ := hp9
                refine ZV_icmp_ltN (tgt := 114) (n := 109) dX12_isInner_106 (by decide) rfl (by omega) (by omega) (fun h106 => ?_) (fun h106 => ?_)
                · skip
                  refine ZV_iconst (v := nI 1) (n := 115) dX12_isInner_114 rfl rfl ?_
                  refine ZV_goto (tgt := 119) dX12_isInner_115 (by decide) ?_
                  refine ZV_zret dX12_isInner_119 rfl (by first | exact Or.inl rfl | exact Or.inr rfl) ?_
                  first | (exfalso; omega) | (refine ⟨?_, rfl⟩; unfold inI; first | (rw [decide_eq_false (by omega)]; rfl) | (rw [decide_eq_true (by omega), h11]; rfl) | (rw [decide_eq_true (by omega), h11, h20, decide_eq_false (by omega)]; rfl) | (rw [decide_eq_true (by omega), h11, h20, decide_eq_true (by omega)]; rfl) | (rw [decide_eq_true (by omega), h11, h20]; rfl))
                · skip
                  refine ZV_iload_n (n := 110) dX12_isInner_109 rfl rfl rfl ?_
                  refine ZV_iload_n (n := 111) dX12_isInner_110 rfl rfl rfl ?_
                  refine ZV_icmp_leN (tgt := 118) (n := 114) dX12_isInner_111 (by decide) rfl (by omega) (by omega) (fun h111 => ?_) (fun h111 => ?_)
                  · skip
                    refine ZV_iconst (v := nI 0) (n := 119) dX12_isInner_118 rfl rfl ?_
                    refine ZV_zret dX12_isInner_119 rfl (by first | exact Or.inl rfl | exact Or.inr rfl) ?_
                    first | (exfalso; omega) | (refine ⟨?_, rfl⟩; unfold inI; first | (rw [decide_eq_false (by omega)]; rfl) | (rw [decide_eq_true (by omega), h11]; rfl) | (rw [decide_eq_true (by omega), h11, h20, decide_eq_false (by omega)]; rfl) | (rw [decide_eq_true (by omega), h11, h20, decide_eq_true (by omega)]; rfl) | (rw [decide_eq_true (by omega), h11, h20]; rfl))
                  · skip
                    refine ZV_iconst (v := nI 1) (n := 115) dX12_isInner_114 rfl rfl ?_
                    refine ZV_goto (tgt := 119) dX12_isInner_115 (by decide) ?_
                    refine ZV_zret dX12_isInner_119 rfl (by first | exact Or.inl rfl | exact Or.inr rfl) ?_
                    first | (exfalso; omega) | (refine ⟨?_, rfl⟩; unfold inI; first | (rw [decide_eq_false (by omega)]; rfl) | (rw [decide_eq_true (by omega), h11]; rfl) | (rw [decide_eq_true (by omega), h11, h20, decide_eq_false (by omega)]; rfl) | (rw [decide_eq_true (by omega), h11, h20, decide_eq_true (by omega)]; rfl) | (rw [decide_eq_true (by omega), h11, h20]; rfl))
        · skip
          refine ZV_iconst (v := nI 0) (n := 39) dX12_isInner_38 rfl rfl ?_
          refine ZV_zret dX12_isInner_39 rfl (by first | exact Or.inl rfl | exact Or.inr rfl) ?_
          first | (exfalso; omega) | (refine ⟨?_, rfl⟩; unfold inI; first | (rw [decide_eq_false (by omega)]; rfl) | (rw [decide_eq_true (by omega), h11]; rfl) | (rw [decide_eq_true (by omega), h11, h20, decide_eq_false (by omega)]; rfl) | (rw [decide_eq_true (by omega), h11, h20, decide_eq_true (by omega)]; rfl) | (rw [decide_eq_true (by omega), h11, h20]; rfl))
set_option maxHeartbeats 4000000 in
set_option maxRecDepth 100000 in
theorem c_tupletAt {x : Nat} {σ : ZS} {T : TS} (hR : rR x σ T) (hI : tI T) (t w : Int32) : ZC M_X12_tupletAt [Ar (some x), Ai t, Ai w] σ (fun y0 τ0 => y0 = some (Ai (sp_tupletAt T t w).1) ∧ rR x τ0 (sp_tupletAt T t w).2) := by
  have hsp : sp_tupletAt T t w = sp_tupletAt (h_su T 0) t w := rfl
  rw [hsp]
  clear hsp
  refine ZC_of (ls := [some (Ar (some x)), some (Ai t), some (Ai w), none, none]) (by decide) (Nat.le_of_ble_eq_true rfl) rfl ?_
  refine ZV_aload_n (n := 1) dX12_tupletAt_0 rfl rfl rfl ?_
  refine call_X12_144 (c_begin hR) rfl dX12_tupletAt_1 rfl (rf_sh hR :).1 (Nat.le_of_ble_eq_true rfl) (Nat.le_of_ble_eq_true rfl) rfl (fun r9 σ9 hp9 => ?_)
  obtain ⟨rfl, hR⟩ := hp9
  have hI := tI_su hI 0
  have hsu : g_su (h_su T 0) = 0 := rfl
  generalize h_su T 0 = T at hR hI hsu ⊢
  have hte := ti_te hI
  have hev := ti_ev hI
  refine ZV_aload_n (n := 5) dX12_tupletAt_4 rfl rfl rfl ?_
  refine ZV_iload_n (n := 6) dX12_tupletAt_5 rfl rfl rfl ?_
  refine call_X12_272 (c_hasTuplet hR hI _) rfl dX12_tupletAt_6 rfl (rf_sh hR :).1 (Nat.le_of_ble_eq_true rfl) (Nat.le_of_ble_eq_true rfl) rfl (fun r9 σ9 hp9 => ?_)
  obtain ⟨rfl, rfl⟩ := hp9
  refine ZV_if_eqB (tgt := 24) (n := 12) dX12_tupletAt_9 (by decide) rfl (fun h9 => ?_) (fun h9 => ?_)
  · skip
    refine ZV_aload_n (n := 25) dX12_tupletAt_24 rfl rfl rfl ?_
    refine ZV_bipush (v := -2) (n := 27) dX12_tupletAt_25 rfl rfl ?_
    refine call_X12_130 (c_no hR _) rfl dX12_tupletAt_27 rfl (rf_sh hR :).1 (Nat.le_of_ble_eq_true rfl) (Nat.le_of_ble_eq_true rfl) rfl (fun r9 σ9 hp9 => ?_)
    obtain ⟨rfl, hR⟩ := hp9
    refine ZV_iret dX12_tupletAt_30 rfl ?_
    exact zleaf (v := sNo T (-2)) (by simp [sp_tupletAt, h9]) rfl hR
  · skip
    refine ZV_iload_n (n := 13) dX12_tupletAt_12 rfl rfl rfl ?_
    refine ZV_i2l (n := 14) dX12_tupletAt_13 rfl ?_
    refine ZV_lconst (v := lN 0) (n := 15) dX12_tupletAt_14 rfl rfl ?_
    refine ZV_ldc2 (v := lN 6) (n := 18) dX12_tupletAt_15 wd_6_30 rfl ?_
    refine call_X12_137 (c_inC _ w (by decide)) rfl dX12_tupletAt_18 (Nat.le_of_ble_eq_true rfl) (Nat.le_of_ble_eq_true rfl) rfl (fun r9 σ9 hp9 => ?_)
    obtain ⟨rfl, rfl⟩ := hp9
    refine ZV_if_neB (tgt := 31) (n := 24) dX12_tupletAt_21 (by decide) rfl (fun h21 => ?_) (fun h21 => ?_)
    · skip
      obtain ⟨j, hj, hjt, rfl⟩ := tpB_t hI h9
      have hjx : j < 2147483648 := by omega
      have htp := ti_tp hI j hj hjt
      refine ZV_iload_n (n := 32) dX12_tupletAt_31 rfl rfl rfl ?_
      by_cases h32_0 : w = nI 0
      · subst h32_0
        refine ZV_tableIn (tgt := 72) dX12_tupletAt_32 (by decide) (by decide) rfl (by decide) ?_
        refine ZV_aload_n (n := 73) dX12_tupletAt_72 rfl rfl rfl ?_
        refine ZV_getR (n := 76) dX12_tupletAt_73 fl_X12_51 rfl rfl rfl (rf_sh hR :).1 ?_
        refine ZV_iload_n (n := 77) dX12_tupletAt_76 rfl rfl rfl ?_
        refine ZV_ialdv (n := 78) dX12_tupletAt_77 rfl (ra_tupletVoice (rf_sh hR :) :) (rk_tupletVoice (rf_sh hR :) :) rfl (by omega) (rf_tupletVoice hR _ (by omega)) ?_
        refine ZV_iret dX12_tupletAt_78 rfl ?_
        exact zleaf (v := sOk T (nI (g_tv T j))) (by rw [sp_tupletAt, if_pos ⟨h9, h21⟩, nI_clamp hjx]; rfl) rfl (rR_s0 hR hsu)
      by_cases h32_1 : w = nI 1
      · subst h32_1
        refine ZV_tableIn (tgt := 79) dX12_tupletAt_32 (by decide) (by decide) rfl (by decide) ?_
        refine ZV_aload_n (n := 80) dX12_tupletAt_79 rfl rfl rfl ?_
        refine ZV_aload_n (n := 81) dX12_tupletAt_80 rfl rfl rfl ?_
        refine ZV_getR (n := 84) dX12_tupletAt_81 fl_X12_54 rfl rfl rfl (rf_sh hR :).1 ?_
        refine ZV_iload_n (n := 85) dX12_tupletAt_84 rfl rfl rfl ?_
        refine ZV_ialdv (n := 86) dX12_tupletAt_85 rfl (ra_tupletFirst (rf_sh hR :) :) (rk_tupletFirst (rf_sh hR :) :) rfl (by omega) (rf_tupletFirst hR _ (by omega)) ?_
        refine call_X12_196 (c_placeOf hR hI _ htp.1 htp.2.2.1) rfl dX12_tupletAt_86 rfl (rf_sh hR :).1 (Nat.le_of_ble_eq_true rfl) (Nat.le_of_ble_eq_true rfl) rfl (fun r9 σ9 hp9 => ?_)
        obtain ⟨rfl, rfl⟩ := hp9
        refine ZV_iret dX12_tupletAt_89 rfl ?_
        exact zleaf (v := sOk T (nI (g_pl T (g_tf T j)))) (by rw [sp_tupletAt, if_pos ⟨h9, h21⟩, nI_clamp hjx]; rfl) rfl (rR_s0 hR hsu)
      by_cases h32_2 : w = nI 2
      · subst h32_2
        refine ZV_tableIn (tgt := 90) dX12_tupletAt_32 (by decide) (by decide) rfl (by decide) ?_
        refine ZV_aload_n (n := 91) dX12_tupletAt_90 rfl rfl rfl ?_
        refine ZV_iload_n (n := 92) dX12_tupletAt_91 rfl rfl rfl ?_
        refine call_X12_275 (c_sizeOf hR hI _ hj hjt) rfl dX12_tupletAt_92 rfl (rf_sh hR :).1 (Nat.le_of_ble_eq_true rfl) (Nat.le_of_ble_eq_true rfl) rfl (fun r9 σ9 hp9 => ?_)
        obtain ⟨rfl, rfl⟩ := hp9
        refine ZV_iret dX12_tupletAt_95 rfl ?_
        exact zleaf (v := sOk T (nI (szT T j))) (by rw [sp_tupletAt, if_pos ⟨h9, h21⟩, nI_clamp hjx]; rfl) rfl (rR_s0 hR hsu)
      by_cases h32_3 : w = nI 3
      · subst h32_3
        refine ZV_tableIn (tgt := 96) dX12_tupletAt_32 (by decide) (by decide) rfl (by decide) ?_
        refine ZV_aload_n (n := 97) dX12_tupletAt_96 rfl rfl rfl ?_
        refine ZV_getR (n := 100) dX12_tupletAt_97 fl_X12_60 rfl rfl rfl (rf_sh hR :).1 ?_
        refine ZV_iload_n (n := 101) dX12_tupletAt_100 rfl rfl rfl ?_
        refine ZV_ialdv (n := 102) dX12_tupletAt_101 rfl (ra_tupletN (rf_sh hR :) :) (rk_tupletN (rf_sh hR :) :) rfl (by omega) (rf_tupletN hR _ (by omega)) ?_
        refine ZV_iret dX12_tupletAt_102 rfl ?_
        exact zleaf (v := sOk T (nI (g_tn T j))) (by rw [sp_tupletAt, if_pos ⟨h9, h21⟩, nI_clamp hjx]; rfl) rfl (rR_s0 hR hsu)
      by_cases h32_4 : w = nI 4
      · subst h32_4
        refine ZV_tableIn (tgt := 103) dX12_tupletAt_32 (by decide) (by decide) rfl (by decide) ?_
        refine ZV_aload_n (n := 104) dX12_tupletAt_103 rfl rfl rfl ?_
        refine ZV_getR (n := 107) dX12_tupletAt_104 fl_X12_63 rfl rfl rfl (rf_sh hR :).1 ?_
        refine ZV_iload_n (n := 108) dX12_tupletAt_107 rfl rfl rfl ?_
        refine ZV_ialdv (n := 109) dX12_tupletAt_108 rfl (ra_tupletM (rf_sh hR :) :) (rk_tupletM (rf_sh hR :) :) rfl (by omega) (rf_tupletM hR _ (by omega)) ?_
        refine ZV_iret dX12_tupletAt_109 rfl ?_
        exact zleaf (v := sOk T (nI (g_tm T j))) (by rw [sp_tupletAt, if_pos ⟨h9, h21⟩, nI_clamp hjx]; rfl) rfl (rR_s0 hR hsu)
      by_cases h32_5 : w = nI 5
      · subst h32_5
        refine ZV_tableIn (tgt := 110) dX12_tupletAt_32 (by decide) (by decide) rfl (by decide) ?_
        refine ZV_aload_n (n := 111) dX12_tupletAt_110 rfl rfl rfl ?_
        refine ZV_getR (n := 114) dX12_tupletAt_111 fl_X12_66 rfl rfl rfl (rf_sh hR :).1 ?_
        refine ZV_iload_n (n := 115) dX12_tupletAt_114 rfl rfl rfl ?_
        refine ZV_ialdv (n := 116) dX12_tupletAt_115 rfl (ra_tupletUnit (rf_sh hR :) :) (rk_tupletUnit (rf_sh hR :) :) rfl (by omega) (rf_tupletUnit hR _ (by omega)) ?_
        refine ZV_iret dX12_tupletAt_116 rfl ?_
        exact zleaf (v := sOk T (nI (g_tu T j))) (by rw [sp_tupletAt, if_pos ⟨h9, h21⟩, nI_clamp hjx]; rfl) rfl (rR_s0 hR hsu)
      have g32_0 := zne_toInt h32_0 (by decide)
      have g32_1 := zne_toInt h32_1 (by decide)
      have g32_2 := zne_toInt h32_2 (by decide)
      have g32_3 := zne_toInt h32_3 (by decide)
      have g32_4 := zne_toInt h32_4 (by decide)
      have g32_5 := zne_toInt h32_5 (by decide)
      refine ZV_tableOut (tgt := 117) dX12_tupletAt_32 (by omega) (by decide) ?_
      refine ZV_iconst (v := nI 0) (n := 118) dX12_tupletAt_117 rfl rfl ?_
      refine ZV_istore_3 (n := 119) dX12_tupletAt_118 rfl (Nat.le_of_ble_eq_true rfl) rfl ?_
      refine ZV_iconst (v := nI 0) (n := 120) dX12_tupletAt_119 rfl rfl ?_
      refine ZV_istore_4 (n := 122) dX12_tupletAt_120 rfl (Nat.le_of_ble_eq_true rfl) rfl ?_
      have hz9 : sp_tupletAt T (nI j) w = sOk T (nI (zcnt (inI T j) (g_te T))) := by rw [sp_tupletAt, if_pos ⟨h9, h21⟩, nI_clamp hjx, if_neg h32_0, if_neg h32_1, if_neg h32_2, if_neg h32_3, if_neg h32_4, if_neg h32_5]
      rw [hz9]
      have loop : ∀ (n9 : Nat) (u : Nat), g_te T - u < n9 → u ≤ g_te T → ZV M_X12_tupletAt (fun y0 τ0 => y0 = some (Ai (sOk T (nI (zcnt (inI T j) (g_te T)))).1) ∧ rR x τ0 (sOk T (nI (zcnt (inI T j) (g_te T)))).2) 122 [some (Ar (some x)), some (Ai (nI j)), some (Ai w), some (Ai (nI (zcnt (inI T j) u))), some (Ai (nI u))] [] σ9 (zmC M_X12_tupletAt) (zmS M_X12_tupletAt) := by
        intro n9
        induction n9 with
        | zero => intro u hm; exact absurd hm (Nat.not_lt_zero _)
        | succ n9 ih =>
          intro u hm hu
          refine ZV_iload (n := 124) dX12_tupletAt_122 rfl rfl ?_
          refine ZV_aload_n (n := 125) dX12_tupletAt_124 rfl rfl rfl ?_
          refine ZV_getIv (n := 128) dX12_tupletAt_125 fl_X12_199 rfl rfl rfl (rf_sh hR :).1 (rf_tupletsEver hR :) ?_
          refine ZV_icmp_geN (tgt := 155) (n := 131) dX12_tupletAt_128 (by decide) rfl (by omega) (by omega) (fun h128 => ?_) (fun h128 => ?_)
          · skip
            refine ZV_iload_n (n := 156) dX12_tupletAt_155 rfl rfl rfl ?_
            refine ZV_iret dX12_tupletAt_156 rfl ?_
            obtain rfl : u = g_te T := by omega
            exact ⟨rfl, rR_s0 hR hsu⟩
          · skip
            refine ZV_iload_n (n := 132) dX12_tupletAt_131 rfl rfl rfl ?_
            refine ZV_aload_n (n := 133) dX12_tupletAt_132 rfl rfl rfl ?_
            refine ZV_iload_n (n := 134) dX12_tupletAt_133 rfl rfl rfl ?_
            refine ZV_iload (n := 136) dX12_tupletAt_134 rfl rfl ?_
            refine call_X12_280 (c_isInner hR hI _ _ hj (by omega)) rfl dX12_tupletAt_136 rfl (rf_sh hR :).1 (Nat.le_of_ble_eq_true rfl) (Nat.le_of_ble_eq_true rfl) rfl (fun r9 σ9 hp9 => ?_)
            obtain ⟨rfl, rfl⟩ := hp9
            refine ZV_if_eqB (tgt := 146) (n := 142) dX12_tupletAt_139 (by decide) rfl (fun h139 => ?_) (fun h139 => ?_)
            · skip
              have hq : zcnt (inI T j) u + 0 = zcnt (inI T j) (u + 1) := by simp [zcnt, h139]
              refine ZV_iconst (v := nI 0) (n := 147) dX12_tupletAt_146 rfl rfl ?_
              refine ZV_iaddN (n := 148) dX12_tupletAt_147 rfl ?_
              rw [hq]
              refine ZV_istore_3 (n := 149) dX12_tupletAt_148 rfl (Nat.le_of_ble_eq_true rfl) rfl ?_
              refine ZV_iincN_4 (v := 1) (n := 152) dX12_tupletAt_149 rfl rfl (Nat.le_of_ble_eq_true rfl) rfl ?_
              refine ZV_goto (tgt := 122) dX12_tupletAt_152 (by decide) ?_
              exact ih (u + 1) (by omega) (by omega)
            · skip
              have hq : zcnt (inI T j) u + 1 = zcnt (inI T j) (u + 1) := by simp [zcnt, h139]
              refine ZV_iconst (v := nI 1) (n := 143) dX12_tupletAt_142 rfl rfl ?_
              refine ZV_goto (tgt := 147) dX12_tupletAt_143 (by decide) ?_
              refine ZV_iaddN (n := 148) dX12_tupletAt_147 rfl ?_
              rw [hq]
              refine ZV_istore_3 (n := 149) dX12_tupletAt_148 rfl (Nat.le_of_ble_eq_true rfl) rfl ?_
              refine ZV_iincN_4 (v := 1) (n := 152) dX12_tupletAt_149 rfl rfl (Nat.le_of_ble_eq_true rfl) rfl ?_
              refine ZV_goto (tgt := 122) dX12_tupletAt_152 (by decide) ?_
              exact ih (u + 1) (by omega) (by omega)
      exact loop _ 0 (Nat.lt_succ_self _) (Nat.zero_le _)
    · skip
      refine ZV_aload_n (n := 25) dX12_tupletAt_24 rfl rfl rfl ?_
      refine ZV_bipush (v := -2) (n := 27) dX12_tupletAt_25 rfl rfl ?_
      refine call_X12_130 (c_no hR _) rfl dX12_tupletAt_27 rfl (rf_sh hR :).1 (Nat.le_of_ble_eq_true rfl) (Nat.le_of_ble_eq_true rfl) rfl (fun r9 σ9 hp9 => ?_)
      obtain ⟨rfl, hR⟩ := hp9
      refine ZV_iret dX12_tupletAt_30 rfl ?_
      exact zleaf (v := sNo T (-2)) (by simp [sp_tupletAt, h9, h21]) rfl hR
set_option maxHeartbeats 4000000 in
set_option maxRecDepth 100000 in
theorem c_liftOf {x : Nat} {σ : ZS} {T : TS} (hR : rR x σ T) (hI : tI T) (e : Nat) (he : e < g_ev T) (hth : g_th T e = true) : ZC M_X12_liftOf [Ar (some x), Ai (nI e)] σ (fun r τ => r = some (Ai (nI (12 * zcnt (lfB T e) (g_le T)))) ∧ τ = σ) := by
  have hev := ti_ev hI
  have hle := ti_le hI
  have hnp := ti_np hI
  have hvo := ti_vo hI e he
  have hpl := (ti_pl hI e he hth).1
  have hmn := ti_mn hI (g_vo T e)
  refine ZC_of (ls := [some (Ar (some x)), some (Ai (nI e)), none, none, none]) (by decide) (Nat.le_of_ble_eq_true rfl) rfl ?_
  have loop : ∀ (n9 : Nat) (l : Nat), g_le T - l < n9 → l ≤ g_le T → ZV M_X12_liftOf (fun y0 τ0 => y0 = some (Ai (nI (12 * zcnt (lfB T e) (g_le T)))) ∧ τ0 = σ) 11 [some (Ar (some x)), some (Ai (nI e)), some (Ai (nI (12 * zcnt (lfB T e) l))), some (Ai (nI (g_pl T e))), some (Ai (nI l))] [] σ (zmC M_X12_liftOf) (zmS M_X12_liftOf) := by
    intro n9
    induction n9 with
    | zero => intro l hm; exact absurd hm (Nat.not_lt_zero _)
    | succ n9 ih =>
      intro l hm hl
      refine ZV_iload (n := 13) dX12_liftOf_11 rfl rfl ?_
      refine ZV_aload_n (n := 14) dX12_liftOf_13 rfl rfl rfl ?_
      refine ZV_getIv (n := 17) dX12_liftOf_14 fl_X12_205 rfl rfl rfl (rf_sh hR :).1 (rf_linesEver hR :) ?_
      refine ZV_icmp_geN (tgt := 139) (n := 20) dX12_liftOf_17 (by decide) rfl (by omega) (by omega) (fun h17 => ?_) (fun h17 => ?_)
      · skip
        refine ZV_iload_n (n := 140) dX12_liftOf_139 rfl rfl rfl ?_
        refine ZV_iret dX12_liftOf_140 rfl ?_
        obtain rfl : l = g_le T := by omega
        exact ⟨rfl, rfl⟩
      · skip
        refine ZV_aload_n (n := 21) dX12_liftOf_20 rfl rfl rfl ?_
        refine ZV_getR (n := 24) dX12_liftOf_21 fl_X12_69 rfl rfl rfl (rf_sh hR :).1 ?_
        refine ZV_iload (n := 26) dX12_liftOf_24 rfl rfl ?_
        refine ZV_baldv (n := 27) dX12_liftOf_26 rfl (ra_isLine (rf_sh hR :) :) (rk_isLine (rf_sh hR :) :) rfl (by omega) (rf_isLine hR _ (by omega)) ?_
        refine ZV_if_eqB (tgt := 133) (n := 30) dX12_liftOf_27 (by decide) rfl (fun h27 => ?_) (fun h27 => ?_)
        · skip
          have hq : lfB T e l = false := by unfold lfB; rw [h27]; rfl
          have hq2 : zcnt (lfB T e) l = zcnt (lfB T e) (l + 1) := by simp [zcnt, hq]
          rw [hq2]
          refine ZV_iincN_4 (v := 1) (n := 136) dX12_liftOf_133 rfl rfl (Nat.le_of_ble_eq_true rfl) rfl ?_
          refine ZV_goto (tgt := 11) dX12_liftOf_136 (by decide) ?_
          exact ih (l + 1) (by omega) (by omega)
        · skip
          have hlf := ti_lf hI l (by omega) h27
          have hlk := ti_lk hI l (by omega)
          have hvf := ti_vo hI _ hlf.1
          refine ZV_aload_n (n := 31) dX12_liftOf_30 rfl rfl rfl ?_
          refine ZV_getR (n := 34) dX12_liftOf_31 fl_X12_72 rfl rfl rfl (rf_sh hR :).1 ?_
          refine ZV_iload (n := 36) dX12_liftOf_34 rfl rfl ?_
          refine ZV_ialdv (n := 37) dX12_liftOf_36 rfl (ra_lineKind (rf_sh hR :) :) (rk_lineKind (rf_sh hR :) :) rfl (by omega) (rf_lineKind hR _ (by omega)) ?_
          refine ZV_iconst (v := nI 2) (n := 38) dX12_liftOf_37 rfl rfl ?_
          refine ZV_icmp_neN (tgt := 133) (n := 41) dX12_liftOf_38 (by decide) rfl (by omega) (by omega) (fun h38 => ?_) (fun h38 => ?_)
          · skip
            have hq : lfB T e l = false := by unfold lfB; rw [h27, decide_eq_false h38]; rfl
            have hq2 : zcnt (lfB T e) l = zcnt (lfB T e) (l + 1) := by simp [zcnt, hq]
            rw [hq2]
            refine ZV_iincN_4 (v := 1) (n := 136) dX12_liftOf_133 rfl rfl (Nat.le_of_ble_eq_true rfl) rfl ?_
            refine ZV_goto (tgt := 11) dX12_liftOf_136 (by decide) ?_
            exact ih (l + 1) (by omega) (by omega)
          · skip
            refine ZV_aload_n (n := 42) dX12_liftOf_41 rfl rfl rfl ?_
            refine ZV_getR (n := 45) dX12_liftOf_42 fl_X12_78 rfl rfl rfl (rf_sh hR :).1 ?_
            refine ZV_iload (n := 47) dX12_liftOf_45 rfl rfl ?_
            refine ZV_ialdv (n := 48) dX12_liftOf_47 rfl (ra_lineTo (rf_sh hR :) :) (rk_lineTo (rf_sh hR :) :) rfl (by omega) (rf_lineTo hR _ (by omega)) ?_
            refine ZV_iconst (v := -1) (n := 49) dX12_liftOf_48 rfl rfl ?_
            refine ZV_icmp_eq (tgt := 133) (n := 52) dX12_liftOf_49 (by decide) rfl (fun h49 => ?_) (fun h49 => ?_)
            · skip
              have hlo : g_lo T l = none := (oI_m1 (fun f q => by have := ti_lo hI l f (by omega) h27 q; omega)).mp h49
              have hq : lfB T e l = false := by unfold lfB; rw [h27, decide_eq_true h38, hlo]; rfl
              have hq2 : zcnt (lfB T e) l = zcnt (lfB T e) (l + 1) := by simp [zcnt, hq]
              rw [hq2]
              refine ZV_iincN_4 (v := 1) (n := 136) dX12_liftOf_133 rfl rfl (Nat.le_of_ble_eq_true rfl) rfl ?_
              refine ZV_goto (tgt := 11) dX12_liftOf_136 (by decide) ?_
              exact ih (l + 1) (by omega) (by omega)
            · skip
              cases hlo : g_lo T l with
              | none => exact absurd (by rw [hlo]; rfl) h49
              | some f =>
                have hlf2 := ti_lo hI l f (by omega) h27 hlo
                have hvf2 := ti_vo hI f hlf2.1
                have hp1 := (ti_pl hI _ hlf.1 hlf.2).1
                have hp2 := (ti_pl hI f hlf2.1 hlf2.2).1
                have hm1 := ti_mn hI (g_vo T (g_lf T l))
                have hm2 := ti_mn hI (g_vo T f)
                refine ZV_aload_n (n := 53) dX12_liftOf_52 rfl rfl rfl ?_
                refine ZV_getR (n := 56) dX12_liftOf_53 fl_X12_21 rfl rfl rfl (rf_sh hR :).1 ?_
                refine ZV_aload_n (n := 57) dX12_liftOf_56 rfl rfl rfl ?_
                refine ZV_getR (n := 60) dX12_liftOf_57 fl_X12_75 rfl rfl rfl (rf_sh hR :).1 ?_
                refine ZV_iload (n := 62) dX12_liftOf_60 rfl rfl ?_
                refine ZV_ialdv (n := 63) dX12_liftOf_62 rfl (ra_lineFrom (rf_sh hR :) :) (rk_lineFrom (rf_sh hR :) :) rfl (by omega) (rf_lineFrom hR _ (by omega)) ?_
                refine ZV_ialdv (n := 64) dX12_liftOf_63 rfl (ra_voiceOf (rf_sh hR :) :) (rk_voiceOf (rf_sh hR :) :) rfl (by omega) (rf_voiceOf hR _ (by omega)) ?_
                refine ZV_aload_n (n := 65) dX12_liftOf_64 rfl rfl rfl ?_
                refine ZV_getR (n := 68) dX12_liftOf_65 fl_X12_21 rfl rfl rfl (rf_sh hR :).1 ?_
                refine ZV_iload_n (n := 69) dX12_liftOf_68 rfl rfl rfl ?_
                refine ZV_ialdv (n := 70) dX12_liftOf_69 rfl (ra_voiceOf (rf_sh hR :) :) (rk_voiceOf (rf_sh hR :) :) rfl (by omega) (rf_voiceOf hR _ (by omega)) ?_
                refine ZV_icmp_neN (tgt := 133) (n := 73) dX12_liftOf_70 (by decide) rfl (by omega) (by omega) (fun h70 => ?_) (fun h70 => ?_)
                · skip
                  have hq : lfB T e l = false := by unfold lfB; rw [h27, decide_eq_true h38, hlo]; simp only [Bool.true_and]; exact decide_eq_false (fun q => h70 q.1)
                  have hq2 : zcnt (lfB T e) l = zcnt (lfB T e) (l + 1) := by simp [zcnt, hq]
                  rw [hq2]
                  refine ZV_iincN_4 (v := 1) (n := 136) dX12_liftOf_133 rfl rfl (Nat.le_of_ble_eq_true rfl) rfl ?_
                  refine ZV_goto (tgt := 11) dX12_liftOf_136 (by decide) ?_
                  exact ih (l + 1) (by omega) (by omega)
                · skip
                  refine ZV_aload_n (n := 74) dX12_liftOf_73 rfl rfl rfl ?_
                  refine ZV_getR (n := 77) dX12_liftOf_74 fl_X12_21 rfl rfl rfl (rf_sh hR :).1 ?_
                  refine ZV_aload_n (n := 78) dX12_liftOf_77 rfl rfl rfl ?_
                  refine ZV_getR (n := 81) dX12_liftOf_78 fl_X12_78 rfl rfl rfl (rf_sh hR :).1 ?_
                  refine ZV_iload (n := 83) dX12_liftOf_81 rfl rfl ?_
                  refine ZV_ialdv (n := 84) dX12_liftOf_83 rfl (ra_lineTo (rf_sh hR :) :) (rk_lineTo (rf_sh hR :) :) rfl (by omega) ((rf_lineTo hR l (by omega)).trans (show oI (g_lo T l) = nI f by rw [hlo]; rfl)) ?_
                  refine ZV_ialdv (n := 85) dX12_liftOf_84 rfl (ra_voiceOf (rf_sh hR :) :) (rk_voiceOf (rf_sh hR :) :) rfl (by omega) (rf_voiceOf hR _ (by omega)) ?_
                  refine ZV_aload_n (n := 86) dX12_liftOf_85 rfl rfl rfl ?_
                  refine ZV_getR (n := 89) dX12_liftOf_86 fl_X12_21 rfl rfl rfl (rf_sh hR :).1 ?_
                  refine ZV_iload_n (n := 90) dX12_liftOf_89 rfl rfl rfl ?_
                  refine ZV_ialdv (n := 91) dX12_liftOf_90 rfl (ra_voiceOf (rf_sh hR :) :) (rk_voiceOf (rf_sh hR :) :) rfl (by omega) (rf_voiceOf hR _ (by omega)) ?_
                  refine ZV_icmp_neN (tgt := 133) (n := 94) dX12_liftOf_91 (by decide) rfl (by omega) (by omega) (fun h91 => ?_) (fun h91 => ?_)
                  · skip
                    have hq : lfB T e l = false := by unfold lfB; rw [h27, decide_eq_true h38, hlo]; simp only [Bool.true_and]; exact decide_eq_false (fun q => h91 q.2.1)
                    have hq2 : zcnt (lfB T e) l = zcnt (lfB T e) (l + 1) := by simp [zcnt, hq]
                    rw [hq2]
                    refine ZV_iincN_4 (v := 1) (n := 136) dX12_liftOf_133 rfl rfl (Nat.le_of_ble_eq_true rfl) rfl ?_
                    refine ZV_goto (tgt := 11) dX12_liftOf_136 (by decide) ?_
                    exact ih (l + 1) (by omega) (by omega)
                  · skip
                    refine ZV_iload_n (n := 95) dX12_liftOf_94 rfl rfl rfl ?_
                    refine ZV_aload_n (n := 96) dX12_liftOf_95 rfl rfl rfl ?_
                    refine ZV_aload_n (n := 97) dX12_liftOf_96 rfl rfl rfl ?_
                    refine ZV_getR (n := 100) dX12_liftOf_97 fl_X12_75 rfl rfl rfl (rf_sh hR :).1 ?_
                    refine ZV_iload (n := 102) dX12_liftOf_100 rfl rfl ?_
                    refine ZV_ialdv (n := 103) dX12_liftOf_102 rfl (ra_lineFrom (rf_sh hR :) :) (rk_lineFrom (rf_sh hR :) :) rfl (by omega) (rf_lineFrom hR _ (by omega)) ?_
                    refine call_X12_196 (c_placeOf hR hI _ hlf.1 hlf.2) rfl dX12_liftOf_103 rfl (rf_sh hR :).1 (Nat.le_of_ble_eq_true rfl) (Nat.le_of_ble_eq_true rfl) rfl (fun r9 σ9 hp9 => ?_)
                    obtain ⟨rfl, rfl⟩ := hp9
                    refine ZV_iload_n (n := 107) dX12_liftOf_106 rfl rfl rfl ?_
                    refine ZV_icmp_gtN (tgt := 130) (n := 110) dX12_liftOf_107 (by decide) rfl (by omega) (by omega) (fun h107 => ?_) (fun h107 => ?_)
                    · skip
                      have hq : lfB T e l = false := by unfold lfB; rw [h27, decide_eq_true h38, hlo]; simp only [Bool.true_and]; exact decide_eq_false (fun q => by omega)
                      have hq2 : 12 * zcnt (lfB T e) l + 0 = 12 * zcnt (lfB T e) (l + 1) := by simp [zcnt, hq]
                      refine ZV_iconst (v := nI 0) (n := 131) dX12_liftOf_130 rfl rfl ?_
                      refine ZV_iaddN (n := 132) dX12_liftOf_131 rfl ?_
                      rw [hq2]
                      refine ZV_istore_2 (n := 133) dX12_liftOf_132 rfl (Nat.le_of_ble_eq_true rfl) rfl ?_
                      refine ZV_iincN_4 (v := 1) (n := 136) dX12_liftOf_133 rfl rfl (Nat.le_of_ble_eq_true rfl) rfl ?_
                      refine ZV_goto (tgt := 11) dX12_liftOf_136 (by decide) ?_
                      exact ih (l + 1) (by omega) (by omega)
                    · skip
                      refine ZV_iload_n (n := 111) dX12_liftOf_110 rfl rfl rfl ?_
                      refine ZV_aload_n (n := 112) dX12_liftOf_111 rfl rfl rfl ?_
                      refine ZV_aload_n (n := 113) dX12_liftOf_112 rfl rfl rfl ?_
                      refine ZV_getR (n := 116) dX12_liftOf_113 fl_X12_78 rfl rfl rfl (rf_sh hR :).1 ?_
                      refine ZV_iload (n := 118) dX12_liftOf_116 rfl rfl ?_
                      refine ZV_ialdv (n := 119) dX12_liftOf_118 rfl (ra_lineTo (rf_sh hR :) :) (rk_lineTo (rf_sh hR :) :) rfl (by omega) ((rf_lineTo hR l (by omega)).trans (show oI (g_lo T l) = nI f by rw [hlo]; rfl)) ?_
                      refine call_X12_196 (c_placeOf hR hI _ hlf2.1 hlf2.2) rfl dX12_liftOf_119 rfl (rf_sh hR :).1 (Nat.le_of_ble_eq_true rfl) (Nat.le_of_ble_eq_true rfl) rfl (fun r9 σ9 hp9 => ?_)
                      obtain ⟨rfl, rfl⟩ := hp9
                      refine ZV_icmp_gtN (tgt := 130) (n := 125) dX12_liftOf_122 (by decide) rfl (by omega) (by omega) (fun h122 => ?_) (fun h122 => ?_)
                      · skip
                        have hq : lfB T e l = false := by unfold lfB; rw [h27, decide_eq_true h38, hlo]; simp only [Bool.true_and]; exact decide_eq_false (fun q => by omega)
                        have hq2 : 12 * zcnt (lfB T e) l + 0 = 12 * zcnt (lfB T e) (l + 1) := by simp [zcnt, hq]
                        refine ZV_iconst (v := nI 0) (n := 131) dX12_liftOf_130 rfl rfl ?_
                        refine ZV_iaddN (n := 132) dX12_liftOf_131 rfl ?_
                        rw [hq2]
                        refine ZV_istore_2 (n := 133) dX12_liftOf_132 rfl (Nat.le_of_ble_eq_true rfl) rfl ?_
                        refine ZV_iincN_4 (v := 1) (n := 136) dX12_liftOf_133 rfl rfl (Nat.le_of_ble_eq_true rfl) rfl ?_
                        refine ZV_goto (tgt := 11) dX12_liftOf_136 (by decide) ?_
                        exact ih (l + 1) (by omega) (by omega)
                      · skip
                        have hq : lfB T e l = true := by unfold lfB; rw [h27, decide_eq_true h38, hlo]; simp only [Bool.true_and]; exact decide_eq_true ⟨h70, h91, by omega, by omega⟩
                        have hq2 : 12 * zcnt (lfB T e) l + 12 = 12 * zcnt (lfB T e) (l + 1) := by simp [zcnt, hq]; omega
                        refine ZV_bipush (v := nI 12) (n := 127) dX12_liftOf_125 rfl rfl ?_
                        refine ZV_goto (tgt := 131) dX12_liftOf_127 (by decide) ?_
                        refine ZV_iaddN (n := 132) dX12_liftOf_131 rfl ?_
                        rw [hq2]
                        refine ZV_istore_2 (n := 133) dX12_liftOf_132 rfl (Nat.le_of_ble_eq_true rfl) rfl ?_
                        refine ZV_iincN_4 (v := 1) (n := 136) dX12_liftOf_133 rfl rfl (Nat.le_of_ble_eq_true rfl) rfl ?_
                        refine ZV_goto (tgt := 11) dX12_liftOf_136 (by decide) ?_
                        exact ih (l + 1) (by omega) (by omega)
  refine ZV_iconst (v := nI 0) (n := 1) dX12_liftOf_0 rfl rfl ?_
  refine ZV_istore_2 (n := 2) dX12_liftOf_1 rfl (Nat.le_of_ble_eq_true rfl) rfl ?_
  refine ZV_aload_n (n := 3) dX12_liftOf_2 rfl rfl rfl ?_
  refine ZV_iload_n (n := 4) dX12_liftOf_3 rfl rfl rfl ?_
  refine call_X12_196 (c_placeOf hR hI _ he hth) rfl dX12_liftOf_4 rfl (rf_sh hR :).1 (Nat.le_of_ble_eq_true rfl) (Nat.le_of_ble_eq_true rfl) rfl (fun r9 σ9 hp9 => ?_)
  obtain ⟨rfl, rfl⟩ := hp9
  refine ZV_istore_3 (n := 8) dX12_liftOf_7 rfl (Nat.le_of_ble_eq_true rfl) rfl ?_
  refine ZV_iconst (v := nI 0) (n := 9) dX12_liftOf_8 rfl rfl ?_
  refine ZV_istore_4 (n := 11) dX12_liftOf_9 rfl (Nat.le_of_ble_eq_true rfl) rfl ?_
  exact loop _ 0 (Nat.lt_succ_self _) (Nat.zero_le _)
set_option maxHeartbeats 4000000 in
set_option maxRecDepth 100000 in
theorem c_heardOf {x : Nat} {σ : ZS} {T : TS} (hR : rR x σ T) (hI : tI T) (e i : Nat) (he : e < g_ev T) (hth : g_th T e = true) (hi : i < g_pn T e) : ZC M_X12_heardOf [Ar (some x), Ai (nI e), Ai (nI i)] σ (fun y0 τ0 => y0 = some (Ai (hdP T e i)) ∧ rR x τ0 (h_tr T (g_tr T + trP (g_pk T (g_vo T e / 3))))) := by
  have hev := ti_ev hI
  have hnp := ti_np hI
  have hvo := ti_vo hI e he
  have hpn := ti_pn hI e
  have hpk := ti_pk hI (g_vo T e / 3) (by omega)
  refine ZC_of (ls := [some (Ar (some x)), some (Ai (nI e)), some (Ai (nI i))]) (by decide) (Nat.le_of_ble_eq_true rfl) rfl ?_
  refine ZV_aload_n (n := 1) dX12_heardOf_0 rfl rfl rfl ?_
  refine ZV_aload_n (n := 2) dX12_heardOf_1 rfl rfl rfl ?_
  refine ZV_getR (n := 5) dX12_heardOf_2 fl_X12_7 rfl rfl rfl (rf_sh hR :).1 ?_
  refine ZV_aload_n (n := 6) dX12_heardOf_5 rfl rfl rfl ?_
  refine ZV_getR (n := 9) dX12_heardOf_6 fl_X12_21 rfl rfl rfl (rf_sh hR :).1 ?_
  refine ZV_iload_n (n := 10) dX12_heardOf_9 rfl rfl rfl ?_
  refine ZV_ialdv (n := 11) dX12_heardOf_10 rfl (ra_voiceOf (rf_sh hR :) :) (rk_voiceOf (rf_sh hR :) :) rfl (by omega) (rf_voiceOf hR _ (by omega)) ?_
  refine ZV_iconst (v := nI 3) (n := 12) dX12_heardOf_11 rfl rfl ?_
  refine ZV_idivN (n := 13) dX12_heardOf_12 rfl (by omega) (by omega) (by omega) ?_
  refine ZV_ialdv (n := 14) dX12_heardOf_13 rfl (ra_partKind (rf_sh hR :) :) (rk_partKind (rf_sh hR :) :) rfl (by omega) (rf_partKind hR _ (by omega)) ?_
  refine ZV_aload_n (n := 15) dX12_heardOf_14 rfl rfl rfl ?_
  refine ZV_getR (n := 18) dX12_heardOf_15 fl_X12_30 rfl rfl rfl (rf_sh hR :).1 ?_
  refine ZV_bipush (v := nI 6) (n := 20) dX12_heardOf_18 rfl rfl ?_
  refine ZV_iload_n (n := 21) dX12_heardOf_20 rfl rfl rfl ?_
  refine ZV_imulN (n := 22) dX12_heardOf_21 rfl ?_
  refine ZV_iload_n (n := 23) dX12_heardOf_22 rfl rfl rfl ?_
  refine ZV_iaddN (n := 24) dX12_heardOf_23 rfl ?_
  refine ZV_ialdv (n := 25) dX12_heardOf_24 rfl (ra_pitchOf (rf_sh hR :) :) (rk_pitchOf (rf_sh hR :) :) rfl (by omega) (rf_pitchOf hR _ _ (by omega) (by omega)) ?_
  refine call_X12_174 (c_sounds hR hI _ hpk _) rfl dX12_heardOf_25 rfl (rf_sh hR :).1 (Nat.le_of_ble_eq_true rfl) (Nat.le_of_ble_eq_true rfl) rfl (fun r9 σ9 hp9 => ?_)
  obtain ⟨rfl, hR⟩ := hp9
  refine ZV_aload_n (n := 29) dX12_heardOf_28 rfl rfl rfl ?_
  refine ZV_iload_n (n := 30) dX12_heardOf_29 rfl rfl rfl ?_
  refine call_X12_217 (c_liftOf hR (tI_tr hI _) _ he hth) rfl dX12_heardOf_30 rfl (rf_sh hR :).1 (Nat.le_of_ble_eq_true rfl) (Nat.le_of_ble_eq_true rfl) rfl (fun r9 σ9 hp9 => ?_)
  obtain ⟨rfl, rfl⟩ := hp9
  refine ZV_iadd (n := 34) dX12_heardOf_33 rfl ?_
  refine ZV_iret dX12_heardOf_34 rfl ?_
  exact ⟨rfl, hR⟩
set_option maxHeartbeats 4000000 in
set_option maxRecDepth 100000 in
theorem c_heard {x : Nat} {σ : ZS} {T : TS} (hR : rR x σ T) (hI : tI T) (e i : Int32) : ZC M_X12_heard [Ar (some x), Ai e, Ai i] σ (fun y0 τ0 => y0 = some (Ai (sp_heard T e i).1) ∧ rR x τ0 (sp_heard T e i).2) := by
  have hsp : sp_heard T e i = sp_heard (h_su T 0) e i := rfl
  rw [hsp]
  clear hsp
  refine ZC_of (ls := [some (Ar (some x)), some (Ai e), some (Ai i), none]) (by decide) (Nat.le_of_ble_eq_true rfl) rfl ?_
  refine ZV_aload_n (n := 1) dX12_heard_0 rfl rfl rfl ?_
  refine call_X12_144 (c_begin hR) rfl dX12_heard_1 rfl (rf_sh hR :).1 (Nat.le_of_ble_eq_true rfl) (Nat.le_of_ble_eq_true rfl) rfl (fun r9 σ9 hp9 => ?_)
  obtain ⟨rfl, hR⟩ := hp9
  have hI := tI_su hI 0
  have hsu : g_su (h_su T 0) = 0 := rfl
  generalize h_su T 0 = T at hR hI hsu ⊢
  have hev := ti_ev hI
  refine ZV_aload_n (n := 5) dX12_heard_4 rfl rfl rfl ?_
  refine ZV_iload_n (n := 6) dX12_heard_5 rfl rfl rfl ?_
  refine call_X12_193 (c_isEvent hR hI _) rfl dX12_heard_6 rfl (rf_sh hR :).1 (Nat.le_of_ble_eq_true rfl) (Nat.le_of_ble_eq_true rfl) rfl (fun r9 σ9 hp9 => ?_)
  obtain ⟨rfl, rfl⟩ := hp9
  refine ZV_if_neB (tgt := 22) (n := 12) dX12_heard_9 (by decide) rfl (fun h9 => ?_) (fun h9 => ?_)
  · skip
    obtain ⟨j, hj, hjt, rfl⟩ := evB_t hI h9
    have hjx : j < 2147483648 := by omega
    have hpn := ti_pn hI j
    refine ZV_aload_n (n := 23) dX12_heard_22 rfl rfl rfl ?_
    refine ZV_iload_n (n := 24) dX12_heard_23 rfl rfl rfl ?_
    refine call_X12_214 (c_isNote hR hI _ (by omega)) rfl dX12_heard_24 rfl (rf_sh hR :).1 (Nat.le_of_ble_eq_true rfl) (Nat.le_of_ble_eq_true rfl) rfl (fun r9 σ9 hp9 => ?_)
    obtain ⟨rfl, rfl⟩ := hp9
    refine ZV_if_neB (tgt := 41) (n := 30) dX12_heard_27 (by decide) rfl (fun h27 => ?_) (fun h27 => ?_)
    · skip
      refine ZV_iload_n (n := 42) dX12_heard_41 rfl rfl rfl ?_
      refine ZV_i2l (n := 43) dX12_heard_42 rfl ?_
      refine ZV_lconst (v := lN 0) (n := 44) dX12_heard_43 rfl rfl ?_
      refine ZV_aload_n (n := 45) dX12_heard_44 rfl rfl rfl ?_
      refine ZV_getR (n := 48) dX12_heard_45 fl_X12_27 rfl rfl rfl (rf_sh hR :).1 ?_
      refine ZV_iload_n (n := 49) dX12_heard_48 rfl rfl rfl ?_
      refine ZV_ialdv (n := 50) dX12_heard_49 rfl (ra_pitches (rf_sh hR :) :) (rk_pitches (rf_sh hR :) :) rfl (by omega) (rf_pitches hR _ (by omega)) ?_
      refine ZV_iconst (v := nI 1) (n := 51) dX12_heard_50 rfl rfl ?_
      refine ZV_isub (n := 52) dX12_heard_51 rfl ?_
      refine ZV_i2l (n := 53) dX12_heard_52 rfl ?_
      refine call_X12_137 (c_inS _ i (by omega)) rfl dX12_heard_53 (Nat.le_of_ble_eq_true rfl) (Nat.le_of_ble_eq_true rfl) rfl (fun r9 σ9 hp9 => ?_)
      obtain ⟨rfl, rfl⟩ := hp9
      refine ZV_if_eqB (tgt := 68) (n := 59) dX12_heard_56 (by decide) rfl (fun h56 => ?_) (fun h56 => ?_)
      · skip
        refine ZV_sipush (v := -1000) (n := 71) dX12_heard_68 rfl rfl ?_
        refine ZV_iret dX12_heard_71 rfl ?_
        exact zleaf (v := sOk T (-1000)) (by simp [sp_heard, h9, h27, h56, nI_clamp hjx]) rfl (rR_s0 hR hsu)
      · skip
        obtain ⟨q, hq, hqx, rfl⟩ := inB_t h56
        refine ZV_aload_n (n := 60) dX12_heard_59 rfl rfl rfl ?_
        refine ZV_iload_n (n := 61) dX12_heard_60 rfl rfl rfl ?_
        refine ZV_iload_n (n := 62) dX12_heard_61 rfl rfl rfl ?_
        refine call_X12_220 (c_heardOf hR hI _ _ hj hjt hq) rfl dX12_heard_62 rfl (rf_sh hR :).1 (Nat.le_of_ble_eq_true rfl) (Nat.le_of_ble_eq_true rfl) rfl (fun r9 σ9 hp9 => ?_)
        obtain ⟨rfl, hR⟩ := hp9
        refine ZV_goto (tgt := 71) dX12_heard_65 (by decide) ?_
        refine ZV_iret dX12_heard_71 rfl ?_
        exact zleaf (v := sOk (h_tr T (g_tr T + trP (g_pk T (g_vo T j / 3)))) (hdP T j q)) (by simp [sp_heard, h9, h27, h56, nI_clamp hjx, nI_clamp hqx]) rfl (rR_s0 hR hsu)
    · skip
      refine ZV_aload_n (n := 31) dX12_heard_30 rfl rfl rfl ?_
      refine ZV_bipush (v := -13) (n := 33) dX12_heard_31 rfl rfl ?_
      refine call_X12_211 (c_fails hR (-13) 2 (by decide) rfl) rfl dX12_heard_33 rfl (rf_sh hR :).1 (Nat.le_of_ble_eq_true rfl) (Nat.le_of_ble_eq_true rfl) rfl (fun r9 σ9 hp9 => ?_)
      obtain ⟨rfl, hR⟩ := hp9
      refine ZV_istore_3 (n := 37) dX12_heard_36 rfl (Nat.le_of_ble_eq_true rfl) rfl ?_
      refine ZV_sipush (v := -2001) (n := 40) dX12_heard_37 rfl rfl ?_
      refine ZV_iret dX12_heard_40 rfl ?_
      exact zleaf (v := sFl T 2 (-13) (-2001)) (by simp [sp_heard, h9, h27, nI_clamp hjx]) rfl hR
  · skip
    refine ZV_aload_n (n := 13) dX12_heard_12 rfl rfl rfl ?_
    refine ZV_bipush (v := -2) (n := 15) dX12_heard_13 rfl rfl ?_
    refine ZV_putI (n := 18) dX12_heard_15 fl_X12_127 rfl (Or.inl rfl) rfl (fun h => absurd h (by decide)) rfl (rf_sh hR :).1 ?_
    refine ZV_gen (P := fun τ => rR x τ _) (rR_status hR _) (fun σ hR => ?_)
    refine ZV_sipush (v := -2000) (n := 21) dX12_heard_18 rfl rfl ?_
    refine ZV_iret dX12_heard_21 rfl ?_
    exact zleaf (v := (-2000, h_su T (-2))) (by simp [sp_heard, h9]) rfl hR
