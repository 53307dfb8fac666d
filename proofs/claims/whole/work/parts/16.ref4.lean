theorem i32_nn {n : Int32} {m : Nat} (h1 : n ≤ nI m) (hm : m < 2147483648) (h2 : 0 ≤ n) : ∃ j : Nat, j ≤ m ∧ j < 2147483648 ∧ n = nI j := by
  rw [Int32.le_iff_toInt_le] at h1 h2
  rw [nI_toInt hm] at h1
  have h0 : (0 : Int32).toInt = 0 := rfl
  rw [h0] at h2
  refine ⟨n.toInt.toNat, by omega, by omega, ?_⟩
  apply Int32.toInt_inj.mp
  rw [nI_toInt (by omega)]
  omega
def sp_rack (T : TS) (r k n : Int32) : Int32 × TS := if inB r 4 = true ∧ inB k 6 = true ∧ n ≤ nI 20 then (if 0 ≤ n then sOk (h_rr (h_rs (h_rk (h_hr T (va_up (g_hr T) r.toNatClampNeg true)) (va_up (g_rk T) r.toNatClampNeg k.toNatClampNeg)) (va_up (g_rs T) r.toNatClampNeg n.toNatClampNeg)) (va_u2 (g_rr T) r.toNatClampNeg (fun _ => none))) 1 else sFl T 4 (-15) (-15)) else sNo T (-2)
def sp_shelf (T : TS) (r k n : Int32) : Int32 × TS := if inB r 4 = true ∧ inB k 4 = true ∧ n ≤ nI 60 then (if 0 ≤ n then sOk (h_sr (h_ss (h_sk (h_hs T (va_up (g_hs T) r.toNatClampNeg true)) (va_up (g_sk T) r.toNatClampNeg k.toNatClampNeg)) (va_up (g_ss T) r.toNatClampNeg n.toNatClampNeg)) (va_u2 (g_sr T) r.toNatClampNeg (fun _ => 0))) 1 else sFl T 4 (-15) (-15)) else sNo T (-2)
set_option maxHeartbeats 4000000 in
set_option maxRecDepth 100000 in
theorem c_rack {x : Nat} {σ : ZS} {T : TS} (hR : rR x σ T) (hI : tI T) (r k n : Int32) : ZC M_X12_rack [Ar (some x), Ai r, Ai k, Ai n] σ (fun y0 τ0 => y0 = some (Ai (sp_rack T r k n).1) ∧ rR x τ0 (sp_rack T r k n).2) := by
  have hsp : sp_rack T r k n = sp_rack (h_su T 0) r k n := rfl
  rw [hsp]
  clear hsp
  refine ZC_of (ls := [some (Ar (some x)), some (Ai r), some (Ai k), some (Ai n), none]) (by decide) (Nat.le_of_ble_eq_true rfl) rfl ?_
  refine ZV_aload_n (n := 1) dX12_rack_0 rfl rfl rfl ?_
  refine call_X12_144 (c_begin hR) rfl dX12_rack_1 rfl (rf_sh hR :).1 (Nat.le_of_ble_eq_true rfl) (Nat.le_of_ble_eq_true rfl) rfl (fun r9 σ9 hp9 => ?_)
  obtain ⟨rfl, hR⟩ := hp9
  have hI := tI_su hI 0
  have hsu : g_su (h_su T 0) = 0 := rfl
  generalize h_su T 0 = T at hR hI hsu ⊢
  refine ZV_iload_n (n := 5) dX12_rack_4 rfl rfl rfl ?_
  refine ZV_i2l (n := 6) dX12_rack_5 rfl ?_
  refine ZV_lconst (v := lN 0) (n := 7) dX12_rack_6 rfl rfl ?_
  refine ZV_ldc2 (v := lN 3) (n := 10) dX12_rack_7 wd_5_218 rfl ?_
  refine call_X12_137 (c_inC _ r (by decide)) rfl dX12_rack_10 (Nat.le_of_ble_eq_true rfl) (Nat.le_of_ble_eq_true rfl) rfl (fun r9 σ9 hp9 => ?_)
  obtain ⟨rfl, rfl⟩ := hp9
  refine ZV_if_eqB (tgt := 34) (n := 16) dX12_rack_13 (by decide) rfl (fun h13 => ?_) (fun h13 => ?_)
  · skip
    refine ZV_aload_n (n := 35) dX12_rack_34 rfl rfl rfl ?_
    refine ZV_bipush (v := -2) (n := 37) dX12_rack_35 rfl rfl ?_
    refine call_X12_130 (c_no hR _) rfl dX12_rack_37 rfl (rf_sh hR :).1 (Nat.le_of_ble_eq_true rfl) (Nat.le_of_ble_eq_true rfl) rfl (fun r9 σ9 hp9 => ?_)
    obtain ⟨rfl, hR⟩ := hp9
    refine ZV_iret dX12_rack_40 rfl ?_
    exact zleaf (v := sNo T (-2)) (by simp [sp_rack, h13]) rfl hR
  · skip
    refine ZV_iload_n (n := 17) dX12_rack_16 rfl rfl rfl ?_
    refine ZV_i2l (n := 18) dX12_rack_17 rfl ?_
    refine ZV_lconst (v := lN 0) (n := 19) dX12_rack_18 rfl rfl ?_
    refine ZV_ldc2 (v := lN 5) (n := 22) dX12_rack_19 wd_5_84 rfl ?_
    refine call_X12_137 (c_inC _ k (by decide)) rfl dX12_rack_22 (Nat.le_of_ble_eq_true rfl) (Nat.le_of_ble_eq_true rfl) rfl (fun r9 σ9 hp9 => ?_)
    obtain ⟨rfl, rfl⟩ := hp9
    refine ZV_if_eqB (tgt := 34) (n := 28) dX12_rack_25 (by decide) rfl (fun h25 => ?_) (fun h25 => ?_)
    · skip
      refine ZV_aload_n (n := 35) dX12_rack_34 rfl rfl rfl ?_
      refine ZV_bipush (v := -2) (n := 37) dX12_rack_35 rfl rfl ?_
      refine call_X12_130 (c_no hR _) rfl dX12_rack_37 rfl (rf_sh hR :).1 (Nat.le_of_ble_eq_true rfl) (Nat.le_of_ble_eq_true rfl) rfl (fun r9 σ9 hp9 => ?_)
      obtain ⟨rfl, hR⟩ := hp9
      refine ZV_iret dX12_rack_40 rfl ?_
      exact zleaf (v := sNo T (-2)) (by simp [sp_rack, h13, h25]) rfl hR
    · skip
      refine ZV_iload_n (n := 29) dX12_rack_28 rfl rfl rfl ?_
      refine ZV_bipush (v := nI 20) (n := 31) dX12_rack_29 rfl rfl ?_
      refine ZV_icmp_le (tgt := 41) (n := 34) dX12_rack_31 (by decide) rfl (fun h31 => ?_) (fun h31 => ?_)
      · skip
        refine ZV_iload_n (n := 42) dX12_rack_41 rfl rfl rfl ?_
        refine ZV_if_ge (tgt := 52) (n := 45) dX12_rack_42 (by decide) rfl (fun h42 => ?_) (fun h42 => ?_)
        · skip
          obtain ⟨r, hr, hr2, rfl⟩ := inB_t h13
          obtain ⟨k, hk, hk2, rfl⟩ := inB_t h25
          obtain ⟨n, hn, hn2, rfl⟩ := i32_nn h31 (by decide) h42
          have hrk := ti_rk hI r (by omega)
          refine ZV_aload_n (n := 53) dX12_rack_52 rfl rfl rfl ?_
          refine ZV_getR (n := 56) dX12_rack_53 fl_X12_87 rfl rfl rfl (rf_sh hR :).1 ?_
          refine ZV_iload_n (n := 57) dX12_rack_56 rfl rfl rfl ?_
          refine ZV_iconst (v := nI 1) (n := 58) dX12_rack_57 rfl rfl ?_
          refine ZV_bast (n := 59) dX12_rack_58 rfl (Or.inr rfl) (ra_hasRack (rf_sh hR :) :) (rk_hasRack (rf_sh hR :) :) rfl (by omega) ?_
          refine ZV_gen (P := fun τ => rR x τ _) (rR_hasRack hR true) (fun σ hR => ?_)
          refine ZV_aload_n (n := 60) dX12_rack_59 rfl rfl rfl ?_
          refine ZV_getR (n := 63) dX12_rack_60 fl_X12_90 rfl rfl rfl (rf_sh hR :).1 ?_
          refine ZV_iload_n (n := 64) dX12_rack_63 rfl rfl rfl ?_
          refine ZV_iload_n (n := 65) dX12_rack_64 rfl rfl rfl ?_
          refine ZV_iast (n := 66) dX12_rack_65 rfl (ra_rackKind (rf_sh hR :) :) (rk_rackKind (rf_sh hR :) :) rfl (by omega) ?_
          refine ZV_gen (P := fun τ => rR x τ _) (rR_rackKind hR _) (fun σ hR => ?_)
          refine ZV_aload_n (n := 67) dX12_rack_66 rfl rfl rfl ?_
          refine ZV_getR (n := 70) dX12_rack_67 fl_X12_93 rfl rfl rfl (rf_sh hR :).1 ?_
          refine ZV_iload_n (n := 71) dX12_rack_70 rfl rfl rfl ?_
          refine ZV_iload_n (n := 72) dX12_rack_71 rfl rfl rfl ?_
          refine ZV_iast (n := 73) dX12_rack_72 rfl (ra_rackSize (rf_sh hR :) :) (rk_rackSize (rf_sh hR :) :) rfl (by omega) ?_
          refine ZV_gen (P := fun τ => rR x τ _) (rR_rackSize hR _) (fun σ hR => ?_)
          refine ZV_iconst (v := nI 0) (n := 74) dX12_rack_73 rfl rfl ?_
          refine ZV_istore_4 (n := 76) dX12_rack_74 rfl (Nat.le_of_ble_eq_true rfl) rfl ?_
          have loop : ∀ (n9 : Nat) (q : Nat) (τ : ZS), 20 - q < n9 → q ≤ 20 → rR x τ (h_rr (h_rs (h_rk (h_hr T (va_up (g_hr T) r true)) (va_up (g_rk T) r k)) (va_up (g_rs T) r n)) (va_u2 (g_rr T) r (fun j => if j < q then none else g_rr T r j))) → ZV M_X12_rack (fun y0 τ0 => y0 = some (Ai (sp_rack T (nI r) (nI k) (nI n)).1) ∧ rR x τ0 (sp_rack T (nI r) (nI k) (nI n)).2) 76 [some (Ar (some x)), some (Ai (nI r)), some (Ai (nI k)), some (Ai (nI n)), some (Ai (nI q))] [] τ (zmC M_X12_rack) (zmS M_X12_rack) := by
            intro n9
            induction n9 with
            | zero => intro q τ hm; exact absurd hm (Nat.not_lt_zero _)
            | succ n9 ih =>
              intro q τ hm hq hR9
              refine ZV_iload (n := 78) dX12_rack_76 rfl rfl ?_
              refine ZV_bipush (v := nI 20) (n := 80) dX12_rack_78 rfl rfl ?_
              refine ZV_icmp_geN (tgt := 102) (n := 83) dX12_rack_80 (by decide) rfl (by omega) (by omega) (fun h80 => ?_) (fun h80 => ?_)
              · skip
                refine ZV_iconst (v := nI 1) (n := 103) dX12_rack_102 rfl rfl ?_
                refine ZV_iret dX12_rack_103 rfl ?_
                have hR9 := rR_rackRowE hR9 (f := va_u2 (g_rr T) r (fun _ => none)) (fun i j hi hj => by
                  show va_u2 (g_rr T) r (fun _ => none) i j = va_u2 (g_rr T) r (fun j => if j < q then none else g_rr T r j) i j
                  unfold va_u2
                  by_cases h1 : i = r
                  · simp only [h1, if_true]
                    rw [if_pos (by omega)]
                  · simp only [if_neg h1])
                rw [hh_rr] at hR9
                exact zleaf (v := sOk (h_rr (h_rs (h_rk (h_hr T (va_up (g_hr T) r true)) (va_up (g_rk T) r k)) (va_up (g_rs T) r n)) (va_u2 (g_rr T) r (fun _ => none))) 1) (by simp [sp_rack, h13, h25, h31, h42, nI_clamp hr2, nI_clamp hk2, nI_clamp hn2]) rfl (rR_s0 hR9 hsu)
              · skip
                refine ZV_aload_n (n := 84) dX12_rack_83 rfl rfl rfl ?_
                refine ZV_getR (n := 87) dX12_rack_84 fl_X12_96 rfl rfl rfl (rf_sh hR9 :).1 ?_
                refine ZV_bipush (v := nI 20) (n := 89) dX12_rack_87 rfl rfl ?_
                refine ZV_iload_n (n := 90) dX12_rack_89 rfl rfl rfl ?_
                refine ZV_imulN (n := 91) dX12_rack_90 rfl ?_
                refine ZV_iload (n := 93) dX12_rack_91 rfl rfl ?_
                refine ZV_iaddN (n := 94) dX12_rack_93 rfl ?_
                refine ZV_iconst (v := -1) (n := 95) dX12_rack_94 rfl rfl ?_
                refine ZV_iast (n := 96) dX12_rack_95 rfl (ra_rackRow (rf_sh hR9 :) :) (rk_rackRow (rf_sh hR9 :) :) rfl (by omega) ?_
                refine ZV_gen (P := fun τ => rR x τ _) (rR_rackRow (i := r) (j := q) hR9 (by omega) (by omega) (none)) (fun τ2 hR9 => ?_)
                rw [hh_rr] at hR9
                have hR9 := rR_rackRowE hR9 (f := va_u2 (g_rr T) r (fun j => if j < q + 1 then none else g_rr T r j)) (fun i j hi hj => by
                  show va_u2 (g_rr T) r (fun j => if j < q + 1 then none else g_rr T r j) i j = va_u2 (va_u2 (g_rr T) r (fun j => if j < q then none else g_rr T r j)) r (va_up (va_u2 (g_rr T) r (fun j => if j < q then none else g_rr T r j) r) q (none)) i j
                  unfold va_u2 va_up
                  by_cases h1 : i = r
                  · simp only [h1, if_true]
                    by_cases h2 : j = q
                    · simp [h2]
                    · simp only [if_neg h2]
                      by_cases h3 : j < q
                      · rw [if_pos h3, if_pos (by omega)]
                      · rw [if_neg h3, if_neg (by omega)]
                  · simp only [if_neg h1])
                rw [hh_rr] at hR9
                refine ZV_iincN_4 (v := 1) (n := 99) dX12_rack_96 rfl rfl (Nat.le_of_ble_eq_true rfl) rfl ?_
                refine ZV_goto (tgt := 76) dX12_rack_99 (by decide) ?_
                exact ih (q + 1) _ (by omega) (by omega) hR9
          refine loop _ 0 _ (Nat.lt_succ_self _) (by omega) (rR_rackRowE hR (f := va_u2 (g_rr T) r (fun j => if j < 0 then none else g_rr T r j)) (fun i j hi hj => ?_))
          show va_u2 (g_rr T) r (fun j => if j < 0 then none else g_rr T r j) i j = g_rr T i j
          unfold va_u2
          by_cases h1 : i = r
          · simp [h1]
          · simp [h1]
        · skip
          refine ZV_aload_n (n := 46) dX12_rack_45 rfl rfl rfl ?_
          refine ZV_bipush (v := -15) (n := 48) dX12_rack_46 rfl rfl ?_
          refine call_X12_211 (c_fails hR (-15) 4 (by decide) rfl) rfl dX12_rack_48 rfl (rf_sh hR :).1 (Nat.le_of_ble_eq_true rfl) (Nat.le_of_ble_eq_true rfl) rfl (fun r9 σ9 hp9 => ?_)
          obtain ⟨rfl, hR⟩ := hp9
          refine ZV_iret dX12_rack_51 rfl ?_
          exact zleaf (v := sFl T 4 (-15) (-15)) (by simp [sp_rack, h13, h25, h31, h42]) rfl hR
      · skip
        refine ZV_aload_n (n := 35) dX12_rack_34 rfl rfl rfl ?_
        refine ZV_bipush (v := -2) (n := 37) dX12_rack_35 rfl rfl ?_
        refine call_X12_130 (c_no hR _) rfl dX12_rack_37 rfl (rf_sh hR :).1 (Nat.le_of_ble_eq_true rfl) (Nat.le_of_ble_eq_true rfl) rfl (fun r9 σ9 hp9 => ?_)
        obtain ⟨rfl, hR⟩ := hp9
        refine ZV_iret dX12_rack_40 rfl ?_
        exact zleaf (v := sNo T (-2)) (by simp [sp_rack, h13, h25, h31]) rfl hR
set_option maxHeartbeats 4000000 in
set_option maxRecDepth 100000 in
theorem c_shelf {x : Nat} {σ : ZS} {T : TS} (hR : rR x σ T) (hI : tI T) (r k n : Int32) : ZC M_X12_shelf [Ar (some x), Ai r, Ai k, Ai n] σ (fun y0 τ0 => y0 = some (Ai (sp_shelf T r k n).1) ∧ rR x τ0 (sp_shelf T r k n).2) := by
  have hsp : sp_shelf T r k n = sp_shelf (h_su T 0) r k n := rfl
  rw [hsp]
  clear hsp
  refine ZC_of (ls := [some (Ar (some x)), some (Ai r), some (Ai k), some (Ai n), none]) (by decide) (Nat.le_of_ble_eq_true rfl) rfl ?_
  refine ZV_aload_n (n := 1) dX12_shelf_0 rfl rfl rfl ?_
  refine call_X12_144 (c_begin hR) rfl dX12_shelf_1 rfl (rf_sh hR :).1 (Nat.le_of_ble_eq_true rfl) (Nat.le_of_ble_eq_true rfl) rfl (fun r9 σ9 hp9 => ?_)
  obtain ⟨rfl, hR⟩ := hp9
  have hI := tI_su hI 0
  have hsu : g_su (h_su T 0) = 0 := rfl
  generalize h_su T 0 = T at hR hI hsu ⊢
  refine ZV_iload_n (n := 5) dX12_shelf_4 rfl rfl rfl ?_
  refine ZV_i2l (n := 6) dX12_shelf_5 rfl ?_
  refine ZV_lconst (v := lN 0) (n := 7) dX12_shelf_6 rfl rfl ?_
  refine ZV_ldc2 (v := lN 3) (n := 10) dX12_shelf_7 wd_5_218 rfl ?_
  refine call_X12_137 (c_inC _ r (by decide)) rfl dX12_shelf_10 (Nat.le_of_ble_eq_true rfl) (Nat.le_of_ble_eq_true rfl) rfl (fun r9 σ9 hp9 => ?_)
  obtain ⟨rfl, rfl⟩ := hp9
  refine ZV_if_eqB (tgt := 34) (n := 16) dX12_shelf_13 (by decide) rfl (fun h13 => ?_) (fun h13 => ?_)
  · skip
    refine ZV_aload_n (n := 35) dX12_shelf_34 rfl rfl rfl ?_
    refine ZV_bipush (v := -2) (n := 37) dX12_shelf_35 rfl rfl ?_
    refine call_X12_130 (c_no hR _) rfl dX12_shelf_37 rfl (rf_sh hR :).1 (Nat.le_of_ble_eq_true rfl) (Nat.le_of_ble_eq_true rfl) rfl (fun r9 σ9 hp9 => ?_)
    obtain ⟨rfl, hR⟩ := hp9
    refine ZV_iret dX12_shelf_40 rfl ?_
    exact zleaf (v := sNo T (-2)) (by simp [sp_shelf, h13]) rfl hR
  · skip
    refine ZV_iload_n (n := 17) dX12_shelf_16 rfl rfl rfl ?_
    refine ZV_i2l (n := 18) dX12_shelf_17 rfl ?_
    refine ZV_lconst (v := lN 0) (n := 19) dX12_shelf_18 rfl rfl ?_
    refine ZV_ldc2 (v := lN 3) (n := 22) dX12_shelf_19 wd_5_218 rfl ?_
    refine call_X12_137 (c_inC _ k (by decide)) rfl dX12_shelf_22 (Nat.le_of_ble_eq_true rfl) (Nat.le_of_ble_eq_true rfl) rfl (fun r9 σ9 hp9 => ?_)
    obtain ⟨rfl, rfl⟩ := hp9
    refine ZV_if_eqB (tgt := 34) (n := 28) dX12_shelf_25 (by decide) rfl (fun h25 => ?_) (fun h25 => ?_)
    · skip
      refine ZV_aload_n (n := 35) dX12_shelf_34 rfl rfl rfl ?_
      refine ZV_bipush (v := -2) (n := 37) dX12_shelf_35 rfl rfl ?_
      refine call_X12_130 (c_no hR _) rfl dX12_shelf_37 rfl (rf_sh hR :).1 (Nat.le_of_ble_eq_true rfl) (Nat.le_of_ble_eq_true rfl) rfl (fun r9 σ9 hp9 => ?_)
      obtain ⟨rfl, hR⟩ := hp9
      refine ZV_iret dX12_shelf_40 rfl ?_
      exact zleaf (v := sNo T (-2)) (by simp [sp_shelf, h13, h25]) rfl hR
    · skip
      refine ZV_iload_n (n := 29) dX12_shelf_28 rfl rfl rfl ?_
      refine ZV_bipush (v := nI 60) (n := 31) dX12_shelf_29 rfl rfl ?_
      refine ZV_icmp_le (tgt := 41) (n := 34) dX12_shelf_31 (by decide) rfl (fun h31 => ?_) (fun h31 => ?_)
      · skip
        refine ZV_iload_n (n := 42) dX12_shelf_41 rfl rfl rfl ?_
        refine ZV_if_ge (tgt := 52) (n := 45) dX12_shelf_42 (by decide) rfl (fun h42 => ?_) (fun h42 => ?_)
        · skip
          obtain ⟨r, hr, hr2, rfl⟩ := inB_t h13
          obtain ⟨k, hk, hk2, rfl⟩ := inB_t h25
          obtain ⟨n, hn, hn2, rfl⟩ := i32_nn h31 (by decide) h42
          have hrk := ti_sk hI r (by omega)
          refine ZV_aload_n (n := 53) dX12_shelf_52 rfl rfl rfl ?_
          refine ZV_getR (n := 56) dX12_shelf_53 fl_X12_102 rfl rfl rfl (rf_sh hR :).1 ?_
          refine ZV_iload_n (n := 57) dX12_shelf_56 rfl rfl rfl ?_
          refine ZV_iconst (v := nI 1) (n := 58) dX12_shelf_57 rfl rfl ?_
          refine ZV_bast (n := 59) dX12_shelf_58 rfl (Or.inr rfl) (ra_hasShelf (rf_sh hR :) :) (rk_hasShelf (rf_sh hR :) :) rfl (by omega) ?_
          refine ZV_gen (P := fun τ => rR x τ _) (rR_hasShelf hR true) (fun σ hR => ?_)
          refine ZV_aload_n (n := 60) dX12_shelf_59 rfl rfl rfl ?_
          refine ZV_getR (n := 63) dX12_shelf_60 fl_X12_105 rfl rfl rfl (rf_sh hR :).1 ?_
          refine ZV_iload_n (n := 64) dX12_shelf_63 rfl rfl rfl ?_
          refine ZV_iload_n (n := 65) dX12_shelf_64 rfl rfl rfl ?_
          refine ZV_iast (n := 66) dX12_shelf_65 rfl (ra_shelfKind (rf_sh hR :) :) (rk_shelfKind (rf_sh hR :) :) rfl (by omega) ?_
          refine ZV_gen (P := fun τ => rR x τ _) (rR_shelfKind hR _) (fun σ hR => ?_)
          refine ZV_aload_n (n := 67) dX12_shelf_66 rfl rfl rfl ?_
          refine ZV_getR (n := 70) dX12_shelf_67 fl_X12_108 rfl rfl rfl (rf_sh hR :).1 ?_
          refine ZV_iload_n (n := 71) dX12_shelf_70 rfl rfl rfl ?_
          refine ZV_iload_n (n := 72) dX12_shelf_71 rfl rfl rfl ?_
          refine ZV_iast (n := 73) dX12_shelf_72 rfl (ra_shelfSize (rf_sh hR :) :) (rk_shelfSize (rf_sh hR :) :) rfl (by omega) ?_
          refine ZV_gen (P := fun τ => rR x τ _) (rR_shelfSize hR _) (fun σ hR => ?_)
          refine ZV_iconst (v := nI 0) (n := 74) dX12_shelf_73 rfl rfl ?_
          refine ZV_istore_4 (n := 76) dX12_shelf_74 rfl (Nat.le_of_ble_eq_true rfl) rfl ?_
          have loop : ∀ (n9 : Nat) (q : Nat) (τ : ZS), 60 - q < n9 → q ≤ 60 → rR x τ (h_sr (h_ss (h_sk (h_hs T (va_up (g_hs T) r true)) (va_up (g_sk T) r k)) (va_up (g_ss T) r n)) (va_u2 (g_sr T) r (fun j => if j < q then 0 else g_sr T r j))) → ZV M_X12_shelf (fun y0 τ0 => y0 = some (Ai (sp_shelf T (nI r) (nI k) (nI n)).1) ∧ rR x τ0 (sp_shelf T (nI r) (nI k) (nI n)).2) 76 [some (Ar (some x)), some (Ai (nI r)), some (Ai (nI k)), some (Ai (nI n)), some (Ai (nI q))] [] τ (zmC M_X12_shelf) (zmS M_X12_shelf) := by
            intro n9
            induction n9 with
            | zero => intro q τ hm; exact absurd hm (Nat.not_lt_zero _)
            | succ n9 ih =>
              intro q τ hm hq hR9
              refine ZV_iload (n := 78) dX12_shelf_76 rfl rfl ?_
              refine ZV_bipush (v := nI 60) (n := 80) dX12_shelf_78 rfl rfl ?_
              refine ZV_icmp_geN (tgt := 102) (n := 83) dX12_shelf_80 (by decide) rfl (by omega) (by omega) (fun h80 => ?_) (fun h80 => ?_)
              · skip
                refine ZV_iconst (v := nI 1) (n := 103) dX12_shelf_102 rfl rfl ?_
                refine ZV_iret dX12_shelf_103 rfl ?_
                have hR9 := rR_shelfRowE hR9 (f := va_u2 (g_sr T) r (fun _ => 0)) (fun i j hi hj => by
                  show va_u2 (g_sr T) r (fun _ => 0) i j = va_u2 (g_sr T) r (fun j => if j < q then 0 else g_sr T r j) i j
                  unfold va_u2
                  by_cases h1 : i = r
                  · simp only [h1, if_true]
                    rw [if_pos (by omega)]
                  · simp only [if_neg h1])
                rw [hh_sr] at hR9
                exact zleaf (v := sOk (h_sr (h_ss (h_sk (h_hs T (va_up (g_hs T) r true)) (va_up (g_sk T) r k)) (va_up (g_ss T) r n)) (va_u2 (g_sr T) r (fun _ => 0))) 1) (by simp [sp_shelf, h13, h25, h31, h42, nI_clamp hr2, nI_clamp hk2, nI_clamp hn2]) rfl (rR_s0 hR9 hsu)
              · skip
                refine ZV_aload_n (n := 84) dX12_shelf_83 rfl rfl rfl ?_
                refine ZV_getR (n := 87) dX12_shelf_84 fl_X12_111 rfl rfl rfl (rf_sh hR9 :).1 ?_
                refine ZV_bipush (v := nI 60) (n := 89) dX12_shelf_87 rfl rfl ?_
                refine ZV_iload_n (n := 90) dX12_shelf_89 rfl rfl rfl ?_
                refine ZV_imulN (n := 91) dX12_shelf_90 rfl ?_
                refine ZV_iload (n := 93) dX12_shelf_91 rfl rfl ?_
                refine ZV_iaddN (n := 94) dX12_shelf_93 rfl ?_
                refine ZV_iconst (v := nI 0) (n := 95) dX12_shelf_94 rfl rfl ?_
                refine ZV_iast (n := 96) dX12_shelf_95 rfl (ra_shelfRow (rf_sh hR9 :) :) (rk_shelfRow (rf_sh hR9 :) :) rfl (by omega) ?_
                refine ZV_gen (P := fun τ => rR x τ _) (rR_shelfRow (i := r) (j := q) hR9 (by omega) (by omega) (0)) (fun τ2 hR9 => ?_)
                rw [hh_sr] at hR9
                have hR9 := rR_shelfRowE hR9 (f := va_u2 (g_sr T) r (fun j => if j < q + 1 then 0 else g_sr T r j)) (fun i j hi hj => by
                  show va_u2 (g_sr T) r (fun j => if j < q + 1 then 0 else g_sr T r j) i j = va_u2 (va_u2 (g_sr T) r (fun j => if j < q then 0 else g_sr T r j)) r (va_up (va_u2 (g_sr T) r (fun j => if j < q then 0 else g_sr T r j) r) q (0)) i j
                  unfold va_u2 va_up
                  by_cases h1 : i = r
                  · simp only [h1, if_true]
                    by_cases h2 : j = q
                    · simp [h2]
                    · simp only [if_neg h2]
                      by_cases h3 : j < q
                      · rw [if_pos h3, if_pos (by omega)]
                      · rw [if_neg h3, if_neg (by omega)]
                  · simp only [if_neg h1])
                rw [hh_sr] at hR9
                refine ZV_iincN_4 (v := 1) (n := 99) dX12_shelf_96 rfl rfl (Nat.le_of_ble_eq_true rfl) rfl ?_
                refine ZV_goto (tgt := 76) dX12_shelf_99 (by decide) ?_
                exact ih (q + 1) _ (by omega) (by omega) hR9
          refine loop _ 0 _ (Nat.lt_succ_self _) (by omega) (rR_shelfRowE hR (f := va_u2 (g_sr T) r (fun j => if j < 0 then 0 else g_sr T r j)) (fun i j hi hj => ?_))
          show va_u2 (g_sr T) r (fun j => if j < 0 then 0 else g_sr T r j) i j = g_sr T i j
          unfold va_u2
          by_cases h1 : i = r
          · simp [h1]
          · simp [h1]
        · skip
          refine ZV_aload_n (n := 46) dX12_shelf_45 rfl rfl rfl ?_
          refine ZV_bipush (v := -15) (n := 48) dX12_shelf_46 rfl rfl ?_
          refine call_X12_211 (c_fails hR (-15) 4 (by decide) rfl) rfl dX12_shelf_48 rfl (rf_sh hR :).1 (Nat.le_of_ble_eq_true rfl) (Nat.le_of_ble_eq_true rfl) rfl (fun r9 σ9 hp9 => ?_)
          obtain ⟨rfl, hR⟩ := hp9
          refine ZV_iret dX12_shelf_51 rfl ?_
          exact zleaf (v := sFl T 4 (-15) (-15)) (by simp [sp_shelf, h13, h25, h31, h42]) rfl hR
      · skip
        refine ZV_aload_n (n := 35) dX12_shelf_34 rfl rfl rfl ?_
        refine ZV_bipush (v := -2) (n := 37) dX12_shelf_35 rfl rfl ?_
        refine call_X12_130 (c_no hR _) rfl dX12_shelf_37 rfl (rf_sh hR :).1 (Nat.le_of_ble_eq_true rfl) (Nat.le_of_ble_eq_true rfl) rfl (fun r9 σ9 hp9 => ?_)
        obtain ⟨rfl, hR⟩ := hp9
        refine ZV_iret dX12_shelf_40 rfl ?_
        exact zleaf (v := sNo T (-2)) (by simp [sp_shelf, h13, h25, h31]) rfl hR
theorem nI_ne_m1 {j : Nat} (h : j < 2147483648) : ¬ nI j = -1 := by
  intro z
  have := congrArg Int32.toInt z
  rw [nI_toInt h] at this
  have h0 : (-1 : Int32).toInt = -1 := rfl
  omega
theorem oI_m1 {o : Option Nat} (h : ∀ e, o = some e → e < 2147483648) : oI o = -1 ↔ o = none := by
  cases o with
  | none => simp [oI]
  | some e => simp only [oI, reduceCtorEq, iff_false]; exact nI_ne_m1 (h e rfl)
def ofB (T : TS) (e k : Nat) : Bool := decide (k = 5 ∨ k = g_kd T e ∨ (k = 0 ∧ g_kd T e < 3) ∨ (k = 3 ∧ ¬ g_kd T e < 3))
def sp_hold (T : TS) (r i e : Int32) : Int32 × TS := if inB r 4 = true ∧ (e = -1 ∨ evB T e = true) then (if g_hr T r.toNatClampNeg = false then sFl T 0 (-11) (-11) else if inB i (g_rs T r.toNatClampNeg) = false then sFl T 1 (-12) (-12) else if e = -1 ∨ ofB T e.toNatClampNeg (g_rk T r.toNatClampNeg) = true then sOk (h_rr T (va_u2 (g_rr T) r.toNatClampNeg (va_up (g_rr T r.toNatClampNeg) i.toNatClampNeg (if e = -1 then none else some e.toNatClampNeg)))) 1 else sFl T 3 (-14) (-14)) else sNo T (-2)
def sp_held (T : TS) (r i : Int32) : Int32 × TS := if inB r 4 = false then sNo T (-2) else if g_hr T r.toNatClampNeg = false then sFl T 0 (-11) (-11) else if inB i (g_rs T r.toNatClampNeg) = false then sFl T 1 (-12) (-12) else match g_rr T r.toNatClampNeg i.toNatClampNeg with
  | none => sFl T 0 (-11) (-11)
  | some e => sOk T (nI e)
def sp_item (T : TS) (r i : Int32) : Int32 × TS := if inB r 4 = false then (-2000, h_su T (-2)) else if g_hs T r.toNatClampNeg = false then sFl T 0 (-11) (-2001) else if inB i (g_ss T r.toNatClampNeg) = false then sFl T 1 (-12) (-2002) else sOk T (g_sr T r.toNatClampNeg i.toNatClampNeg)
def lowB (k : Nat) (v : Int32) : Int32 := if k = 0 then v.toInt8.toInt32 else if k = 1 then v.toInt16.toInt32 else if k = 2 then v &&& nI 65535 else v
def sp_lift (T : TS) (r i v : Int32) : Int32 × TS := if inB r 4 = false then sNo T (-2) else if g_hs T r.toNatClampNeg = false then sFl T 0 (-11) (-11) else if inB i (g_ss T r.toNatClampNeg) = false then sFl T 1 (-12) (-12) else sOk (h_sr T (va_u2 (g_sr T) r.toNatClampNeg (va_up (g_sr T r.toNatClampNeg) i.toNatClampNeg (lowB (g_sk T r.toNatClampNeg) v)))) 1
set_option maxHeartbeats 4000000 in
set_option maxRecDepth 100000 in
theorem c_isOf {x : Nat} {σ : ZS} {T : TS} (hR : rR x σ T) (hI : tI T) (e : Nat) (he : e < g_ev T) (k : Nat) (hk : k ≤ 5) : ZC M_X12_isOf [Ar (some x), Ai (nI e), Ai (nI k)] σ (fun r τ => r = some (Ai (bI (ofB T e k))) ∧ τ = σ) := by
  have hev := ti_ev hI
  have hkd := ti_kd hI e he
  refine ZC_of (ls := [some (Ar (some x)), some (Ai (nI e)), some (Ai (nI k))]) (by decide) (Nat.le_of_ble_eq_true rfl) rfl ?_
  refine ZV_iload_n (n := 1) dX12_isOf_0 rfl rfl rfl ?_
  refine ZV_iconst (v := nI 5) (n := 2) dX12_isOf_1 rfl rfl ?_
  refine ZV_icmp_eqN (tgt := 40) (n := 5) dX12_isOf_2 (by decide) rfl (by omega) (by omega) (fun h2 => ?_) (fun h2 => ?_)
  · skip
    refine ZV_iconst (v := nI 1) (n := 41) dX12_isOf_40 rfl rfl ?_
    refine ZV_goto (tgt := 45) dX12_isOf_41 (by decide) ?_
    refine ZV_zret dX12_isOf_45 rfl (by first | exact Or.inl rfl | exact Or.inr rfl) ?_
    refine ⟨?_, rfl⟩
    unfold ofB
    try simp only [noB, decide_eq_true_eq, decide_eq_false_iff_not] at *
    first | (rw [decide_eq_true (by omega)]; rfl) | (rw [decide_eq_false (by omega)]; rfl)
  · skip
    refine ZV_iload_n (n := 6) dX12_isOf_5 rfl rfl rfl ?_
    refine ZV_aload_n (n := 7) dX12_isOf_6 rfl rfl rfl ?_
    refine ZV_getR (n := 10) dX12_isOf_7 fl_X12_24 rfl rfl rfl (rf_sh hR :).1 ?_
    refine ZV_iload_n (n := 11) dX12_isOf_10 rfl rfl rfl ?_
    refine ZV_ialdv (n := 12) dX12_isOf_11 rfl (ra_kindOf (rf_sh hR :) :) (rk_kindOf (rf_sh hR :) :) rfl (by omega) (rf_kindOf hR _ (by omega)) ?_
    refine ZV_icmp_eqN (tgt := 40) (n := 15) dX12_isOf_12 (by decide) rfl (by omega) (by omega) (fun h12 => ?_) (fun h12 => ?_)
    · skip
      refine ZV_iconst (v := nI 1) (n := 41) dX12_isOf_40 rfl rfl ?_
      refine ZV_goto (tgt := 45) dX12_isOf_41 (by decide) ?_
      refine ZV_zret dX12_isOf_45 rfl (by first | exact Or.inl rfl | exact Or.inr rfl) ?_
      refine ⟨?_, rfl⟩
      unfold ofB
      try simp only [noB, decide_eq_true_eq, decide_eq_false_iff_not] at *
      first | (rw [decide_eq_true (by omega)]; rfl) | (rw [decide_eq_false (by omega)]; rfl)
    · skip
      refine ZV_iload_n (n := 16) dX12_isOf_15 rfl rfl rfl ?_
      refine ZV_if_neN (tgt := 27) (n := 19) dX12_isOf_16 (by decide) rfl (by omega) (fun h16 => ?_) (fun h16 => ?_)
      · skip
        refine ZV_iload_n (n := 28) dX12_isOf_27 rfl rfl rfl ?_
        refine ZV_iconst (v := nI 3) (n := 29) dX12_isOf_28 rfl rfl ?_
        refine ZV_icmp_neN (tgt := 44) (n := 32) dX12_isOf_29 (by decide) rfl (by omega) (by omega) (fun h29 => ?_) (fun h29 => ?_)
        · skip
          refine ZV_iconst (v := nI 0) (n := 45) dX12_isOf_44 rfl rfl ?_
          refine ZV_zret dX12_isOf_45 rfl (by first | exact Or.inl rfl | exact Or.inr rfl) ?_
          refine ⟨?_, rfl⟩
          unfold ofB
          try simp only [noB, decide_eq_true_eq, decide_eq_false_iff_not] at *
          first | (rw [decide_eq_true (by omega)]; rfl) | (rw [decide_eq_false (by omega)]; rfl)
        · skip
          refine ZV_aload_n (n := 33) dX12_isOf_32 rfl rfl rfl ?_
          refine ZV_iload_n (n := 34) dX12_isOf_33 rfl rfl rfl ?_
          refine call_X12_214 (c_isNote hR hI _ (by omega)) rfl dX12_isOf_34 rfl (rf_sh hR :).1 (Nat.le_of_ble_eq_true rfl) (Nat.le_of_ble_eq_true rfl) rfl (fun r9 σ9 hp9 => ?_)
          obtain ⟨rfl, rfl⟩ := hp9
          refine ZV_if_neB (tgt := 44) (n := 40) dX12_isOf_37 (by decide) rfl (fun h37 => ?_) (fun h37 => ?_)
          · skip
            refine ZV_iconst (v := nI 0) (n := 45) dX12_isOf_44 rfl rfl ?_
            refine ZV_zret dX12_isOf_45 rfl (by first | exact Or.inl rfl | exact Or.inr rfl) ?_
            refine ⟨?_, rfl⟩
            unfold ofB
            try simp only [noB, decide_eq_true_eq, decide_eq_false_iff_not] at *
            first | (rw [decide_eq_true (by omega)]; rfl) | (rw [decide_eq_false (by omega)]; rfl)
          · skip
            refine ZV_iconst (v := nI 1) (n := 41) dX12_isOf_40 rfl rfl ?_
            refine ZV_goto (tgt := 45) dX12_isOf_41 (by decide) ?_
            refine ZV_zret dX12_isOf_45 rfl (by first | exact Or.inl rfl | exact Or.inr rfl) ?_
            refine ⟨?_, rfl⟩
            unfold ofB
            try simp only [noB, decide_eq_true_eq, decide_eq_false_iff_not] at *
            first | (rw [decide_eq_true (by omega)]; rfl) | (rw [decide_eq_false (by omega)]; rfl)
      · skip
        refine ZV_aload_n (n := 20) dX12_isOf_19 rfl rfl rfl ?_
        refine ZV_iload_n (n := 21) dX12_isOf_20 rfl rfl rfl ?_
        refine call_X12_214 (c_isNote hR hI _ (by omega)) rfl dX12_isOf_21 rfl (rf_sh hR :).1 (Nat.le_of_ble_eq_true rfl) (Nat.le_of_ble_eq_true rfl) rfl (fun r9 σ9 hp9 => ?_)
        obtain ⟨rfl, rfl⟩ := hp9
        refine ZV_if_neB (tgt := 40) (n := 27) dX12_isOf_24 (by decide) rfl (fun h24 => ?_) (fun h24 => ?_)
        · skip
          refine ZV_iconst (v := nI 1) (n := 41) dX12_isOf_40 rfl rfl ?_
          refine ZV_goto (tgt := 45) dX12_isOf_41 (by decide) ?_
          refine ZV_zret dX12_isOf_45 rfl (by first | exact Or.inl rfl | exact Or.inr rfl) ?_
          refine ⟨?_, rfl⟩
          unfold ofB
          try simp only [noB, decide_eq_true_eq, decide_eq_false_iff_not] at *
          first | (rw [decide_eq_true (by omega)]; rfl) | (rw [decide_eq_false (by omega)]; rfl)
        · skip
          refine ZV_iload_n (n := 28) dX12_isOf_27 rfl rfl rfl ?_
          refine ZV_iconst (v := nI 3) (n := 29) dX12_isOf_28 rfl rfl ?_
          refine ZV_icmp_neN (tgt := 44) (n := 32) dX12_isOf_29 (by decide) rfl (by omega) (by omega) (fun h29 => ?_) (fun h29 => ?_)
          · skip
            refine ZV_iconst (v := nI 0) (n := 45) dX12_isOf_44 rfl rfl ?_
            refine ZV_zret dX12_isOf_45 rfl (by first | exact Or.inl rfl | exact Or.inr rfl) ?_
            refine ⟨?_, rfl⟩
            unfold ofB
            try simp only [noB, decide_eq_true_eq, decide_eq_false_iff_not] at *
            first | (rw [decide_eq_true (by omega)]; rfl) | (rw [decide_eq_false (by omega)]; rfl)
          · skip
            refine ZV_aload_n (n := 33) dX12_isOf_32 rfl rfl rfl ?_
            refine ZV_iload_n (n := 34) dX12_isOf_33 rfl rfl rfl ?_
            refine call_X12_214 (c_isNote hR hI _ (by omega)) rfl dX12_isOf_34 rfl (rf_sh hR :).1 (Nat.le_of_ble_eq_true rfl) (Nat.le_of_ble_eq_true rfl) rfl (fun r9 σ9 hp9 => ?_)
            obtain ⟨rfl, rfl⟩ := hp9
            refine ZV_if_neB (tgt := 44) (n := 40) dX12_isOf_37 (by decide) rfl (fun h37 => ?_) (fun h37 => ?_)
            · skip
              refine ZV_iconst (v := nI 0) (n := 45) dX12_isOf_44 rfl rfl ?_
              refine ZV_zret dX12_isOf_45 rfl (by first | exact Or.inl rfl | exact Or.inr rfl) ?_
              refine ⟨?_, rfl⟩
              unfold ofB
              try simp only [noB, decide_eq_true_eq, decide_eq_false_iff_not] at *
              first | (rw [decide_eq_true (by omega)]; rfl) | (rw [decide_eq_false (by omega)]; rfl)
            · skip
              refine ZV_iconst (v := nI 1) (n := 41) dX12_isOf_40 rfl rfl ?_
              refine ZV_goto (tgt := 45) dX12_isOf_41 (by decide) ?_
              refine ZV_zret dX12_isOf_45 rfl (by first | exact Or.inl rfl | exact Or.inr rfl) ?_
              refine ⟨?_, rfl⟩
              unfold ofB
              try simp only [noB, decide_eq_true_eq, decide_eq_false_iff_not] at *
              first | (rw [decide_eq_true (by omega)]; rfl) | (rw [decide_eq_false (by omega)]; rfl)
set_option maxHeartbeats 4000000 in
set_option maxRecDepth 100000 in
theorem c_hold {x : Nat} {σ : ZS} {T : TS} (hR : rR x σ T) (hI : tI T) (r i e : Int32) : ZC M_X12_hold [Ar (some x), Ai r, Ai i, Ai e] σ (fun y0 τ0 => y0 = some (Ai (sp_hold T r i e).1) ∧ rR x τ0 (sp_hold T r i e).2) := by
  have hsp : sp_hold T r i e = sp_hold (h_su T 0) r i e := rfl
  rw [hsp]
  clear hsp
  refine ZC_of (ls := [some (Ar (some x)), some (Ai r), some (Ai i), some (Ai e)]) (by decide) (Nat.le_of_ble_eq_true rfl) rfl ?_
  refine ZV_aload_n (n := 1) dX12_hold_0 rfl rfl rfl ?_
  refine call_X12_144 (c_begin hR) rfl dX12_hold_1 rfl (rf_sh hR :).1 (Nat.le_of_ble_eq_true rfl) (Nat.le_of_ble_eq_true rfl) rfl (fun r9 σ9 hp9 => ?_)
  obtain ⟨rfl, hR⟩ := hp9
  have hI := tI_su hI 0
  have hsu : g_su (h_su T 0) = 0 := rfl
  generalize h_su T 0 = T at hR hI hsu ⊢
  have hev := ti_ev hI
  refine ZV_iload_n (n := 5) dX12_hold_4 rfl rfl rfl ?_
  refine ZV_i2l (n := 6) dX12_hold_5 rfl ?_
  refine ZV_lconst (v := lN 0) (n := 7) dX12_hold_6 rfl rfl ?_
  refine ZV_ldc2 (v := lN 3) (n := 10) dX12_hold_7 wd_5_218 rfl ?_
  refine call_X12_137 (c_inC _ r (by decide)) rfl dX12_hold_10 (Nat.le_of_ble_eq_true rfl) (Nat.le_of_ble_eq_true rfl) rfl (fun r9 σ9 hp9 => ?_)
  obtain ⟨rfl, rfl⟩ := hp9
  refine ZV_if_eqB (tgt := 29) (n := 16) dX12_hold_13 (by decide) rfl (fun h13 => ?_) (fun h13 => ?_)
  · skip
    refine ZV_aload_n (n := 30) dX12_hold_29 rfl rfl rfl ?_
    refine ZV_bipush (v := -2) (n := 32) dX12_hold_30 rfl rfl ?_
    refine call_X12_130 (c_no hR _) rfl dX12_hold_32 rfl (rf_sh hR :).1 (Nat.le_of_ble_eq_true rfl) (Nat.le_of_ble_eq_true rfl) rfl (fun r9 σ9 hp9 => ?_)
    obtain ⟨rfl, hR⟩ := hp9
    refine ZV_iret dX12_hold_35 rfl ?_
    exact zleaf (v := sNo T (-2)) (by simp [sp_hold, h13]) rfl hR
  · skip
    refine ZV_iload_n (n := 17) dX12_hold_16 rfl rfl rfl ?_
    refine ZV_iconst (v := -1) (n := 18) dX12_hold_17 rfl rfl ?_
    refine ZV_icmp_eq (tgt := 36) (n := 21) dX12_hold_18 (by decide) rfl (fun h18 => ?_) (fun h18 => ?_)
    · skip
      subst h18
      refine ZV_aload_n (n := 37) dX12_hold_36 rfl rfl rfl ?_
      obtain ⟨r, hr, hr2, rfl⟩ := inB_t h13
      have hrk := ti_rk hI r (by omega)
      refine ZV_getR (n := 40) dX12_hold_37 fl_X12_87 rfl rfl rfl (rf_sh hR :).1 ?_
      refine ZV_iload_n (n := 41) dX12_hold_40 rfl rfl rfl ?_
      refine ZV_baldv (n := 42) dX12_hold_41 rfl (ra_hasRack (rf_sh hR :) :) (rk_hasRack (rf_sh hR :) :) rfl (by omega) (rf_hasRack hR _ (by omega)) ?_
      refine ZV_if_neB (tgt := 52) (n := 45) dX12_hold_42 (by decide) rfl (fun h42 => ?_) (fun h42 => ?_)
      · skip
        refine ZV_iload_n (n := 53) dX12_hold_52 rfl rfl rfl ?_
        refine ZV_i2l (n := 54) dX12_hold_53 rfl ?_
        refine ZV_lconst (v := lN 0) (n := 55) dX12_hold_54 rfl rfl ?_
        refine ZV_aload_n (n := 56) dX12_hold_55 rfl rfl rfl ?_
        refine ZV_getR (n := 59) dX12_hold_56 fl_X12_93 rfl rfl rfl (rf_sh hR :).1 ?_
        refine ZV_iload_n (n := 60) dX12_hold_59 rfl rfl rfl ?_
        refine ZV_ialdv (n := 61) dX12_hold_60 rfl (ra_rackSize (rf_sh hR :) :) (rk_rackSize (rf_sh hR :) :) rfl (by omega) (rf_rackSize hR _ (by omega)) ?_
        refine ZV_iconst (v := nI 1) (n := 62) dX12_hold_61 rfl rfl ?_
        refine ZV_isub (n := 63) dX12_hold_62 rfl ?_
        refine ZV_i2l (n := 64) dX12_hold_63 rfl ?_
        refine call_X12_137 (c_inS _ i (by omega)) rfl dX12_hold_64 (Nat.le_of_ble_eq_true rfl) (Nat.le_of_ble_eq_true rfl) rfl (fun r9 σ9 hp9 => ?_)
        obtain ⟨rfl, rfl⟩ := hp9
        refine ZV_if_neB (tgt := 77) (n := 70) dX12_hold_67 (by decide) rfl (fun h67 => ?_) (fun h67 => ?_)
        · skip
          obtain ⟨i, hi, hi2, rfl⟩ := inB_t h67
          refine ZV_iload_n (n := 78) dX12_hold_77 rfl rfl rfl ?_
          refine ZV_iconst (v := -1) (n := 79) dX12_hold_78 rfl rfl ?_
          refine ZV_icmp_eq (tgt := 103) (n := 82) dX12_hold_79 (by decide) rfl (fun h79 => ?_) (fun h79 => ?_)
          · skip
            refine ZV_aload_n (n := 104) dX12_hold_103 rfl rfl rfl ?_
            refine ZV_getR (n := 107) dX12_hold_104 fl_X12_96 rfl rfl rfl (rf_sh hR :).1 ?_
            refine ZV_bipush (v := nI 20) (n := 109) dX12_hold_107 rfl rfl ?_
            refine ZV_iload_n (n := 110) dX12_hold_109 rfl rfl rfl ?_
            refine ZV_imulN (n := 111) dX12_hold_110 rfl ?_
            refine ZV_iload_n (n := 112) dX12_hold_111 rfl rfl rfl ?_
            refine ZV_iaddN (n := 113) dX12_hold_112 rfl ?_
            refine ZV_iload_n (n := 114) dX12_hold_113 rfl rfl rfl ?_
            refine ZV_iast (n := 115) dX12_hold_114 rfl (ra_rackRow (rf_sh hR :) :) (rk_rackRow (rf_sh hR :) :) rfl (by omega) ?_
            refine ZV_iconst (v := nI 1) (n := 116) dX12_hold_115 rfl rfl ?_
            refine ZV_iret dX12_hold_116 rfl ?_
            first | exact zleaf (v := sOk (h_rr T (va_u2 (g_rr T) r (va_up (g_rr T r) i none))) 1) (by simp [sp_hold, h13, h42, h67, nI_clamp hr2, nI_clamp hi2]) rfl (rR_s0 (rR_rackRow (i := r) (j := i) hR (by omega) (by omega) none) hsu) | exact zleaf (v := sOk (h_rr T (va_u2 (g_rr T) r (va_up (g_rr T r) i (some j)))) 1) (by simp [sp_hold, h13, h26, h42, h67, h93, nI_clamp hr2, nI_clamp hi2, nI_clamp hjx, nI_ne_m1 hjx]) rfl (rR_s0 (rR_rackRow (i := r) (j := i) hR (by omega) (by omega) (some j)) hsu)
          · skip
            exact absurd rfl h79
        · skip
          refine ZV_aload_n (n := 71) dX12_hold_70 rfl rfl rfl ?_
          refine ZV_bipush (v := -12) (n := 73) dX12_hold_71 rfl rfl ?_
          refine call_X12_211 (c_fails hR (-12) 1 (by decide) rfl) rfl dX12_hold_73 rfl (rf_sh hR :).1 (Nat.le_of_ble_eq_true rfl) (Nat.le_of_ble_eq_true rfl) rfl (fun r9 σ9 hp9 => ?_)
          obtain ⟨rfl, hR⟩ := hp9
          refine ZV_iret dX12_hold_76 rfl ?_
          exact zleaf (v := sFl T 1 (-12) (-12)) (by simp [sp_hold, h13, h42, h67, nI_clamp hr2]) rfl hR
      · skip
        refine ZV_aload_n (n := 46) dX12_hold_45 rfl rfl rfl ?_
        refine ZV_bipush (v := -11) (n := 48) dX12_hold_46 rfl rfl ?_
        refine call_X12_211 (c_fails hR (-11) 0 (by decide) rfl) rfl dX12_hold_48 rfl (rf_sh hR :).1 (Nat.le_of_ble_eq_true rfl) (Nat.le_of_ble_eq_true rfl) rfl (fun r9 σ9 hp9 => ?_)
        obtain ⟨rfl, hR⟩ := hp9
        refine ZV_iret dX12_hold_51 rfl ?_
        exact zleaf (v := sFl T 0 (-11) (-11)) (by simp [sp_hold, h13, h42, nI_clamp hr2]) rfl hR
    · skip
      refine ZV_aload_n (n := 22) dX12_hold_21 rfl rfl rfl ?_
      refine ZV_iload_n (n := 23) dX12_hold_22 rfl rfl rfl ?_
      refine call_X12_193 (c_isEvent hR hI _) rfl dX12_hold_23 rfl (rf_sh hR :).1 (Nat.le_of_ble_eq_true rfl) (Nat.le_of_ble_eq_true rfl) rfl (fun r9 σ9 hp9 => ?_)
      obtain ⟨rfl, rfl⟩ := hp9
      refine ZV_if_neB (tgt := 36) (n := 29) dX12_hold_26 (by decide) rfl (fun h26 => ?_) (fun h26 => ?_)
      · skip
        obtain ⟨j, hj, hjt, rfl⟩ := evB_t hI h26
        have hjx : j < 2147483648 := by omega
        refine ZV_aload_n (n := 37) dX12_hold_36 rfl rfl rfl ?_
        obtain ⟨r, hr, hr2, rfl⟩ := inB_t h13
        have hrk := ti_rk hI r (by omega)
        refine ZV_getR (n := 40) dX12_hold_37 fl_X12_87 rfl rfl rfl (rf_sh hR :).1 ?_
        refine ZV_iload_n (n := 41) dX12_hold_40 rfl rfl rfl ?_
        refine ZV_baldv (n := 42) dX12_hold_41 rfl (ra_hasRack (rf_sh hR :) :) (rk_hasRack (rf_sh hR :) :) rfl (by omega) (rf_hasRack hR _ (by omega)) ?_
        refine ZV_if_neB (tgt := 52) (n := 45) dX12_hold_42 (by decide) rfl (fun h42 => ?_) (fun h42 => ?_)
        · skip
          refine ZV_iload_n (n := 53) dX12_hold_52 rfl rfl rfl ?_
          refine ZV_i2l (n := 54) dX12_hold_53 rfl ?_
          refine ZV_lconst (v := lN 0) (n := 55) dX12_hold_54 rfl rfl ?_
          refine ZV_aload_n (n := 56) dX12_hold_55 rfl rfl rfl ?_
          refine ZV_getR (n := 59) dX12_hold_56 fl_X12_93 rfl rfl rfl (rf_sh hR :).1 ?_
          refine ZV_iload_n (n := 60) dX12_hold_59 rfl rfl rfl ?_
          refine ZV_ialdv (n := 61) dX12_hold_60 rfl (ra_rackSize (rf_sh hR :) :) (rk_rackSize (rf_sh hR :) :) rfl (by omega) (rf_rackSize hR _ (by omega)) ?_
          refine ZV_iconst (v := nI 1) (n := 62) dX12_hold_61 rfl rfl ?_
          refine ZV_isub (n := 63) dX12_hold_62 rfl ?_
          refine ZV_i2l (n := 64) dX12_hold_63 rfl ?_
          refine call_X12_137 (c_inS _ i (by omega)) rfl dX12_hold_64 (Nat.le_of_ble_eq_true rfl) (Nat.le_of_ble_eq_true rfl) rfl (fun r9 σ9 hp9 => ?_)
          obtain ⟨rfl, rfl⟩ := hp9
          refine ZV_if_neB (tgt := 77) (n := 70) dX12_hold_67 (by decide) rfl (fun h67 => ?_) (fun h67 => ?_)
          · skip
            obtain ⟨i, hi, hi2, rfl⟩ := inB_t h67
            refine ZV_iload_n (n := 78) dX12_hold_77 rfl rfl rfl ?_
            refine ZV_iconst (v := -1) (n := 79) dX12_hold_78 rfl rfl ?_
            refine ZV_icmp_eq (tgt := 103) (n := 82) dX12_hold_79 (by decide) rfl (fun h79 => ?_) (fun h79 => ?_)
            · skip
              exact absurd h79 (nI_ne_m1 hjx)
            · skip
              refine ZV_aload_n (n := 83) dX12_hold_82 rfl rfl rfl ?_
              refine ZV_iload_n (n := 84) dX12_hold_83 rfl rfl rfl ?_
              refine ZV_aload_n (n := 85) dX12_hold_84 rfl rfl rfl ?_
              refine ZV_getR (n := 88) dX12_hold_85 fl_X12_90 rfl rfl rfl (rf_sh hR :).1 ?_
              refine ZV_iload_n (n := 89) dX12_hold_88 rfl rfl rfl ?_
              refine ZV_ialdv (n := 90) dX12_hold_89 rfl (ra_rackKind (rf_sh hR :) :) (rk_rackKind (rf_sh hR :) :) rfl (by omega) (rf_rackKind hR _ (by omega)) ?_
              refine call_X12_318 (c_isOf hR hI _ (by omega) _ (by omega)) rfl dX12_hold_90 rfl (rf_sh hR :).1 (Nat.le_of_ble_eq_true rfl) (Nat.le_of_ble_eq_true rfl) rfl (fun r9 σ9 hp9 => ?_)
              obtain ⟨rfl, rfl⟩ := hp9
              refine ZV_if_neB (tgt := 103) (n := 96) dX12_hold_93 (by decide) rfl (fun h93 => ?_) (fun h93 => ?_)
              · skip
                refine ZV_aload_n (n := 104) dX12_hold_103 rfl rfl rfl ?_
                refine ZV_getR (n := 107) dX12_hold_104 fl_X12_96 rfl rfl rfl (rf_sh hR :).1 ?_
                refine ZV_bipush (v := nI 20) (n := 109) dX12_hold_107 rfl rfl ?_
                refine ZV_iload_n (n := 110) dX12_hold_109 rfl rfl rfl ?_
                refine ZV_imulN (n := 111) dX12_hold_110 rfl ?_
                refine ZV_iload_n (n := 112) dX12_hold_111 rfl rfl rfl ?_
                refine ZV_iaddN (n := 113) dX12_hold_112 rfl ?_
                refine ZV_iload_n (n := 114) dX12_hold_113 rfl rfl rfl ?_
                refine ZV_iast (n := 115) dX12_hold_114 rfl (ra_rackRow (rf_sh hR :) :) (rk_rackRow (rf_sh hR :) :) rfl (by omega) ?_
                refine ZV_iconst (v := nI 1) (n := 116) dX12_hold_115 rfl rfl ?_
                refine ZV_iret dX12_hold_116 rfl ?_
                first | exact zleaf (v := sOk (h_rr T (va_u2 (g_rr T) r (va_up (g_rr T r) i none))) 1) (by simp [sp_hold, h13, h42, h67, nI_clamp hr2, nI_clamp hi2]) rfl (rR_s0 (rR_rackRow (i := r) (j := i) hR (by omega) (by omega) none) hsu) | exact zleaf (v := sOk (h_rr T (va_u2 (g_rr T) r (va_up (g_rr T r) i (some j)))) 1) (by simp [sp_hold, h13, h26, h42, h67, h93, nI_clamp hr2, nI_clamp hi2, nI_clamp hjx, nI_ne_m1 hjx]) rfl (rR_s0 (rR_rackRow (i := r) (j := i) hR (by omega) (by omega) (some j)) hsu)
              · skip
                refine ZV_aload_n (n := 97) dX12_hold_96 rfl rfl rfl ?_
                refine ZV_bipush (v := -14) (n := 99) dX12_hold_97 rfl rfl ?_
                refine call_X12_211 (c_fails hR (-14) 3 (by decide) rfl) rfl dX12_hold_99 rfl (rf_sh hR :).1 (Nat.le_of_ble_eq_true rfl) (Nat.le_of_ble_eq_true rfl) rfl (fun r9 σ9 hp9 => ?_)
                obtain ⟨rfl, hR⟩ := hp9
                refine ZV_iret dX12_hold_102 rfl ?_
                exact zleaf (v := sFl T 3 (-14) (-14)) (by simp [sp_hold, h13, h18, h26, h42, h67, h79, h93, nI_clamp hr2, nI_clamp hi2, nI_clamp hjx, nI_ne_m1 hjx]) rfl hR
          · skip
            refine ZV_aload_n (n := 71) dX12_hold_70 rfl rfl rfl ?_
            refine ZV_bipush (v := -12) (n := 73) dX12_hold_71 rfl rfl ?_
            refine call_X12_211 (c_fails hR (-12) 1 (by decide) rfl) rfl dX12_hold_73 rfl (rf_sh hR :).1 (Nat.le_of_ble_eq_true rfl) (Nat.le_of_ble_eq_true rfl) rfl (fun r9 σ9 hp9 => ?_)
            obtain ⟨rfl, hR⟩ := hp9
            refine ZV_iret dX12_hold_76 rfl ?_
            exact zleaf (v := sFl T 1 (-12) (-12)) (by simp [sp_hold, h13, h18, h26, h42, h67, nI_clamp hr2]) rfl hR
        · skip
          refine ZV_aload_n (n := 46) dX12_hold_45 rfl rfl rfl ?_
          refine ZV_bipush (v := -11) (n := 48) dX12_hold_46 rfl rfl ?_
          refine call_X12_211 (c_fails hR (-11) 0 (by decide) rfl) rfl dX12_hold_48 rfl (rf_sh hR :).1 (Nat.le_of_ble_eq_true rfl) (Nat.le_of_ble_eq_true rfl) rfl (fun r9 σ9 hp9 => ?_)
          obtain ⟨rfl, hR⟩ := hp9
          refine ZV_iret dX12_hold_51 rfl ?_
          exact zleaf (v := sFl T 0 (-11) (-11)) (by simp [sp_hold, h13, h18, h26, h42, nI_clamp hr2]) rfl hR
      · skip
        refine ZV_aload_n (n := 30) dX12_hold_29 rfl rfl rfl ?_
        refine ZV_bipush (v := -2) (n := 32) dX12_hold_30 rfl rfl ?_
        refine call_X12_130 (c_no hR _) rfl dX12_hold_32 rfl (rf_sh hR :).1 (Nat.le_of_ble_eq_true rfl) (Nat.le_of_ble_eq_true rfl) rfl (fun r9 σ9 hp9 => ?_)
        obtain ⟨rfl, hR⟩ := hp9
        refine ZV_iret dX12_hold_35 rfl ?_
        exact zleaf (v := sNo T (-2)) (by simp [sp_hold, h13, h18, h26]) rfl hR
set_option maxHeartbeats 4000000 in
set_option maxRecDepth 100000 in
theorem c_held {x : Nat} {σ : ZS} {T : TS} (hR : rR x σ T) (hI : tI T) (r i : Int32) : ZC M_X12_held [Ar (some x), Ai r, Ai i] σ (fun y0 τ0 => y0 = some (Ai (sp_held T r i).1) ∧ rR x τ0 (sp_held T r i).2) := by
  have hsp : sp_held T r i = sp_held (h_su T 0) r i := rfl
  rw [hsp]
  clear hsp
  refine ZC_of (ls := [some (Ar (some x)), some (Ai r), some (Ai i), none]) (by decide) (Nat.le_of_ble_eq_true rfl) rfl ?_
  refine ZV_aload_n (n := 1) dX12_held_0 rfl rfl rfl ?_
  refine call_X12_144 (c_begin hR) rfl dX12_held_1 rfl (rf_sh hR :).1 (Nat.le_of_ble_eq_true rfl) (Nat.le_of_ble_eq_true rfl) rfl (fun r9 σ9 hp9 => ?_)
  obtain ⟨rfl, hR⟩ := hp9
  have hI := tI_su hI 0
  have hsu : g_su (h_su T 0) = 0 := rfl
  generalize h_su T 0 = T at hR hI hsu ⊢
  have hev := ti_ev hI
  refine ZV_iload_n (n := 5) dX12_held_4 rfl rfl rfl ?_
  refine ZV_i2l (n := 6) dX12_held_5 rfl ?_
  refine ZV_lconst (v := lN 0) (n := 7) dX12_held_6 rfl rfl ?_
  refine ZV_ldc2 (v := lN 3) (n := 10) dX12_held_7 wd_5_218 rfl ?_
  refine call_X12_137 (c_inC _ r (by decide)) rfl dX12_held_10 (Nat.le_of_ble_eq_true rfl) (Nat.le_of_ble_eq_true rfl) rfl (fun r9 σ9 hp9 => ?_)
  obtain ⟨rfl, rfl⟩ := hp9
  refine ZV_if_neB (tgt := 23) (n := 16) dX12_held_13 (by decide) rfl (fun h13 => ?_) (fun h13 => ?_)
  · skip
    obtain ⟨r, hr, hr2, rfl⟩ := inB_t h13
    have hrk := ti_rk hI r (by omega)
    refine ZV_aload_n (n := 24) dX12_held_23 rfl rfl rfl ?_
    refine ZV_getR (n := 27) dX12_held_24 fl_X12_87 rfl rfl rfl (rf_sh hR :).1 ?_
    refine ZV_iload_n (n := 28) dX12_held_27 rfl rfl rfl ?_
    refine ZV_baldv (n := 29) dX12_held_28 rfl (ra_hasRack (rf_sh hR :) :) (rk_hasRack (rf_sh hR :) :) rfl (by omega) (rf_hasRack hR _ (by omega)) ?_
    refine ZV_if_neB (tgt := 39) (n := 32) dX12_held_29 (by decide) rfl (fun h29 => ?_) (fun h29 => ?_)
    · skip
      refine ZV_iload_n (n := 40) dX12_held_39 rfl rfl rfl ?_
      refine ZV_i2l (n := 41) dX12_held_40 rfl ?_
      refine ZV_lconst (v := lN 0) (n := 42) dX12_held_41 rfl rfl ?_
      refine ZV_aload_n (n := 43) dX12_held_42 rfl rfl rfl ?_
      refine ZV_getR (n := 46) dX12_held_43 fl_X12_93 rfl rfl rfl (rf_sh hR :).1 ?_
      refine ZV_iload_n (n := 47) dX12_held_46 rfl rfl rfl ?_
      refine ZV_ialdv (n := 48) dX12_held_47 rfl (ra_rackSize (rf_sh hR :) :) (rk_rackSize (rf_sh hR :) :) rfl (by omega) (rf_rackSize hR _ (by omega)) ?_
      refine ZV_iconst (v := nI 1) (n := 49) dX12_held_48 rfl rfl ?_
      refine ZV_isub (n := 50) dX12_held_49 rfl ?_
      refine ZV_i2l (n := 51) dX12_held_50 rfl ?_
      refine call_X12_137 (c_inS _ i (by omega)) rfl dX12_held_51 (Nat.le_of_ble_eq_true rfl) (Nat.le_of_ble_eq_true rfl) rfl (fun r9 σ9 hp9 => ?_)
      obtain ⟨rfl, rfl⟩ := hp9
      refine ZV_if_neB (tgt := 64) (n := 57) dX12_held_54 (by decide) rfl (fun h54 => ?_) (fun h54 => ?_)
      · skip
        obtain ⟨i, hi, hi2, rfl⟩ := inB_t h54
        have hom : oI (g_rr T r i) = -1 ↔ g_rr T r i = none := oI_m1 (fun e q => by have := ti_rr hI r i e (by omega) h29 (by omega) q; omega)
        refine ZV_aload_n (n := 65) dX12_held_64 rfl rfl rfl ?_
        refine ZV_getR (n := 68) dX12_held_65 fl_X12_96 rfl rfl rfl (rf_sh hR :).1 ?_
        refine ZV_bipush (v := nI 20) (n := 70) dX12_held_68 rfl rfl ?_
        refine ZV_iload_n (n := 71) dX12_held_70 rfl rfl rfl ?_
        refine ZV_imulN (n := 72) dX12_held_71 rfl ?_
        refine ZV_iload_n (n := 73) dX12_held_72 rfl rfl rfl ?_
        refine ZV_iaddN (n := 74) dX12_held_73 rfl ?_
        refine ZV_ialdv (n := 75) dX12_held_74 rfl (ra_rackRow (rf_sh hR :) :) (rk_rackRow (rf_sh hR :) :) rfl (by omega) (rf_rackRow hR _ _ (by omega) (by omega)) ?_
        refine ZV_istore_3 (n := 76) dX12_held_75 rfl (Nat.le_of_ble_eq_true rfl) rfl ?_
        refine ZV_iload_n (n := 77) dX12_held_76 rfl rfl rfl ?_
        refine ZV_iconst (v := -1) (n := 78) dX12_held_77 rfl rfl ?_
        refine ZV_icmp_ne (tgt := 90) (n := 81) dX12_held_78 (by decide) rfl (fun h78 => ?_) (fun h78 => ?_)
        · skip
          refine ZV_iload_n (n := 91) dX12_held_90 rfl rfl rfl ?_
          refine ZV_iret dX12_held_91 rfl ?_
          cases ho : g_rr T r i with
          | none => exact absurd (hom.mpr ho) h78
          | some e => exact zleaf (v := sOk T (nI e)) (by simp [sp_held, h13, h29, h54, nI_clamp hr2, nI_clamp hi2, ho]) rfl (rR_s0 hR hsu)
        · skip
          refine ZV_aload_n (n := 82) dX12_held_81 rfl rfl rfl ?_
          refine ZV_bipush (v := -11) (n := 84) dX12_held_82 rfl rfl ?_
          refine call_X12_211 (c_fails hR (-11) 0 (by decide) rfl) rfl dX12_held_84 rfl (rf_sh hR :).1 (Nat.le_of_ble_eq_true rfl) (Nat.le_of_ble_eq_true rfl) rfl (fun r9 σ9 hp9 => ?_)
          obtain ⟨rfl, hR⟩ := hp9
          refine ZV_goto (tgt := 91) dX12_held_87 (by decide) ?_
          refine ZV_iret dX12_held_91 rfl ?_
          exact zleaf (v := sFl T 0 (-11) (-11)) (by simp [sp_held, h13, h29, h54, nI_clamp hr2, nI_clamp hi2, hom.mp h78]) rfl hR
      · skip
        refine ZV_aload_n (n := 58) dX12_held_57 rfl rfl rfl ?_
        refine ZV_bipush (v := -12) (n := 60) dX12_held_58 rfl rfl ?_
        refine call_X12_211 (c_fails hR (-12) 1 (by decide) rfl) rfl dX12_held_60 rfl (rf_sh hR :).1 (Nat.le_of_ble_eq_true rfl) (Nat.le_of_ble_eq_true rfl) rfl (fun r9 σ9 hp9 => ?_)
        obtain ⟨rfl, hR⟩ := hp9
        refine ZV_iret dX12_held_63 rfl ?_
        exact zleaf (v := sFl T 1 (-12) (-12)) (by simp [sp_held, h13, h29, h54, nI_clamp hr2]) rfl hR
    · skip
      refine ZV_aload_n (n := 33) dX12_held_32 rfl rfl rfl ?_
      refine ZV_bipush (v := -11) (n := 35) dX12_held_33 rfl rfl ?_
      refine call_X12_211 (c_fails hR (-11) 0 (by decide) rfl) rfl dX12_held_35 rfl (rf_sh hR :).1 (Nat.le_of_ble_eq_true rfl) (Nat.le_of_ble_eq_true rfl) rfl (fun r9 σ9 hp9 => ?_)
      obtain ⟨rfl, hR⟩ := hp9
      refine ZV_iret dX12_held_38 rfl ?_
      exact zleaf (v := sFl T 0 (-11) (-11)) (by simp [sp_held, h13, h29, nI_clamp hr2]) rfl hR
  · skip
    refine ZV_aload_n (n := 17) dX12_held_16 rfl rfl rfl ?_
    refine ZV_bipush (v := -2) (n := 19) dX12_held_17 rfl rfl ?_
    refine call_X12_130 (c_no hR _) rfl dX12_held_19 rfl (rf_sh hR :).1 (Nat.le_of_ble_eq_true rfl) (Nat.le_of_ble_eq_true rfl) rfl (fun r9 σ9 hp9 => ?_)
    obtain ⟨rfl, hR⟩ := hp9
    refine ZV_iret dX12_held_22 rfl ?_
    exact zleaf (v := sNo T (-2)) (by simp [sp_held, h13]) rfl hR
set_option maxHeartbeats 4000000 in
set_option maxRecDepth 100000 in
theorem c_item {x : Nat} {σ : ZS} {T : TS} (hR : rR x σ T) (hI : tI T) (r i : Int32) : ZC M_X12_item [Ar (some x), Ai r, Ai i] σ (fun y0 τ0 => y0 = some (Ai (sp_item T r i).1) ∧ rR x τ0 (sp_item T r i).2) := by
  have hsp : sp_item T r i = sp_item (h_su T 0) r i := rfl
  rw [hsp]
  clear hsp
  refine ZC_of (ls := [some (Ar (some x)), some (Ai r), some (Ai i)]) (by decide) (Nat.le_of_ble_eq_true rfl) rfl ?_
  refine ZV_aload_n (n := 1) dX12_item_0 rfl rfl rfl ?_
  refine call_X12_144 (c_begin hR) rfl dX12_item_1 rfl (rf_sh hR :).1 (Nat.le_of_ble_eq_true rfl) (Nat.le_of_ble_eq_true rfl) rfl (fun r9 σ9 hp9 => ?_)
  obtain ⟨rfl, hR⟩ := hp9
  have hI := tI_su hI 0
  have hsu : g_su (h_su T 0) = 0 := rfl
  generalize h_su T 0 = T at hR hI hsu ⊢
  refine ZV_iload_n (n := 5) dX12_item_4 rfl rfl rfl ?_
  refine ZV_i2l (n := 6) dX12_item_5 rfl ?_
  refine ZV_lconst (v := lN 0) (n := 7) dX12_item_6 rfl rfl ?_
  refine ZV_ldc2 (v := lN 3) (n := 10) dX12_item_7 wd_5_218 rfl ?_
  refine call_X12_137 (c_inC _ r (by decide)) rfl dX12_item_10 (Nat.le_of_ble_eq_true rfl) (Nat.le_of_ble_eq_true rfl) rfl (fun r9 σ9 hp9 => ?_)
  obtain ⟨rfl, rfl⟩ := hp9
  refine ZV_if_neB (tgt := 26) (n := 16) dX12_item_13 (by decide) rfl (fun h13 => ?_) (fun h13 => ?_)
  · skip
    obtain ⟨r, hr, hr2, rfl⟩ := inB_t h13
    have hrk := ti_sk hI r (by omega)
    refine ZV_aload_n (n := 27) dX12_item_26 rfl rfl rfl ?_
    refine ZV_getR (n := 30) dX12_item_27 fl_X12_102 rfl rfl rfl (rf_sh hR :).1 ?_
    refine ZV_iload_n (n := 31) dX12_item_30 rfl rfl rfl ?_
    refine ZV_baldv (n := 32) dX12_item_31 rfl (ra_hasShelf (rf_sh hR :) :) (rk_hasShelf (rf_sh hR :) :) rfl (by omega) (rf_hasShelf hR _ (by omega)) ?_
    refine ZV_if_neB (tgt := 49) (n := 35) dX12_item_32 (by decide) rfl (fun h32 => ?_) (fun h32 => ?_)
    · skip
      refine ZV_iload_n (n := 50) dX12_item_49 rfl rfl rfl ?_
      refine ZV_i2l (n := 51) dX12_item_50 rfl ?_
      refine ZV_lconst (v := lN 0) (n := 52) dX12_item_51 rfl rfl ?_
      refine ZV_aload_n (n := 53) dX12_item_52 rfl rfl rfl ?_
      refine ZV_getR (n := 56) dX12_item_53 fl_X12_108 rfl rfl rfl (rf_sh hR :).1 ?_
      refine ZV_iload_n (n := 57) dX12_item_56 rfl rfl rfl ?_
      refine ZV_ialdv (n := 58) dX12_item_57 rfl (ra_shelfSize (rf_sh hR :) :) (rk_shelfSize (rf_sh hR :) :) rfl (by omega) (rf_shelfSize hR _ (by omega)) ?_
      refine ZV_iconst (v := nI 1) (n := 59) dX12_item_58 rfl rfl ?_
      refine ZV_isub (n := 60) dX12_item_59 rfl ?_
      refine ZV_i2l (n := 61) dX12_item_60 rfl ?_
      refine call_X12_137 (c_inS _ i (by omega)) rfl dX12_item_61 (Nat.le_of_ble_eq_true rfl) (Nat.le_of_ble_eq_true rfl) rfl (fun r9 σ9 hp9 => ?_)
      obtain ⟨rfl, rfl⟩ := hp9
      refine ZV_if_neB (tgt := 81) (n := 67) dX12_item_64 (by decide) rfl (fun h64 => ?_) (fun h64 => ?_)
      · skip
        obtain ⟨i, hi, hi2, rfl⟩ := inB_t h64
        refine ZV_aload_n (n := 82) dX12_item_81 rfl rfl rfl ?_
        refine ZV_getR (n := 85) dX12_item_82 fl_X12_111 rfl rfl rfl (rf_sh hR :).1 ?_
        refine ZV_bipush (v := nI 60) (n := 87) dX12_item_85 rfl rfl ?_
        refine ZV_iload_n (n := 88) dX12_item_87 rfl rfl rfl ?_
        refine ZV_imulN (n := 89) dX12_item_88 rfl ?_
        refine ZV_iload_n (n := 90) dX12_item_89 rfl rfl rfl ?_
        refine ZV_iaddN (n := 91) dX12_item_90 rfl ?_
        refine ZV_ialdv (n := 92) dX12_item_91 rfl (ra_shelfRow (rf_sh hR :) :) (rk_shelfRow (rf_sh hR :) :) rfl (by omega) (rf_shelfRow hR _ _ (by omega) (by omega)) ?_
        refine ZV_iret dX12_item_92 rfl ?_
        exact zleaf (v := sOk T (g_sr T r i)) (by simp [sp_item, h13, h32, h64, nI_clamp hr2, nI_clamp hi2]) rfl (rR_s0 hR hsu)
      · skip
        refine ZV_aload_n (n := 68) dX12_item_67 rfl rfl rfl ?_
        refine ZV_aload_n (n := 69) dX12_item_68 rfl rfl rfl ?_
        refine ZV_bipush (v := -12) (n := 71) dX12_item_69 rfl rfl ?_
        refine call_X12_211 (c_fails hR (-12) 1 (by decide) rfl) rfl dX12_item_71 rfl (rf_sh hR :).1 (Nat.le_of_ble_eq_true rfl) (Nat.le_of_ble_eq_true rfl) rfl (fun r9 σ9 hp9 => ?_)
        obtain ⟨rfl, hR⟩ := hp9
        refine ZV_putI (n := 77) dX12_item_74 fl_X12_325 rfl (Or.inl rfl) rfl (fun h => absurd h (by decide)) rfl (rf_sh hR :).1 ?_
        refine ZV_gen (P := fun τ => rR x τ _) (rR_laid hR _) (fun σ hR => ?_)
        refine ZV_sipush (v := -2002) (n := 80) dX12_item_77 rfl rfl ?_
        refine ZV_iret dX12_item_80 rfl ?_
        exact zleaf (v := sFl T 1 (-12) (-2002)) (by simp [sp_item, h13, h32, h64, nI_clamp hr2]) rfl hR
    · skip
      refine ZV_aload_n (n := 36) dX12_item_35 rfl rfl rfl ?_
      refine ZV_aload_n (n := 37) dX12_item_36 rfl rfl rfl ?_
      refine ZV_bipush (v := -11) (n := 39) dX12_item_37 rfl rfl ?_
      refine call_X12_211 (c_fails hR (-11) 0 (by decide) rfl) rfl dX12_item_39 rfl (rf_sh hR :).1 (Nat.le_of_ble_eq_true rfl) (Nat.le_of_ble_eq_true rfl) rfl (fun r9 σ9 hp9 => ?_)
      obtain ⟨rfl, hR⟩ := hp9
      refine ZV_putI (n := 45) dX12_item_42 fl_X12_325 rfl (Or.inl rfl) rfl (fun h => absurd h (by decide)) rfl (rf_sh hR :).1 ?_
      refine ZV_gen (P := fun τ => rR x τ _) (rR_laid hR _) (fun σ hR => ?_)
      refine ZV_sipush (v := -2001) (n := 48) dX12_item_45 rfl rfl ?_
      refine ZV_iret dX12_item_48 rfl ?_
      exact zleaf (v := sFl T 0 (-11) (-2001)) (by simp [sp_item, h13, h32, nI_clamp hr2]) rfl hR
  · skip
    refine ZV_aload_n (n := 17) dX12_item_16 rfl rfl rfl ?_
    refine ZV_bipush (v := -2) (n := 19) dX12_item_17 rfl rfl ?_
    refine ZV_putI (n := 22) dX12_item_19 fl_X12_127 rfl (Or.inl rfl) rfl (fun h => absurd h (by decide)) rfl (rf_sh hR :).1 ?_
    refine ZV_gen (P := fun τ => rR x τ _) (rR_status hR _) (fun σ hR => ?_)
    refine ZV_sipush (v := -2000) (n := 25) dX12_item_22 rfl rfl ?_
    refine ZV_iret dX12_item_25 rfl ?_
    exact zleaf (v := (-2000, h_su T (-2))) (by simp [sp_item, h13]) rfl hR
set_option maxHeartbeats 4000000 in
set_option maxRecDepth 100000 in
theorem c_lift {x : Nat} {σ : ZS} {T : TS} (hR : rR x σ T) (hI : tI T) (r i v : Int32) : ZC M_X12_lift [Ar (some x), Ai r, Ai i, Ai v] σ (fun y0 τ0 => y0 = some (Ai (sp_lift T r i v).1) ∧ rR x τ0 (sp_lift T r i v).2) := by
  have hsp : sp_lift T r i v = sp_lift (h_su T 0) r i v := rfl
  rw [hsp]
  clear hsp
  refine ZC_of (ls := [some (Ar (some x)), some (Ai r), some (Ai i), some (Ai v), none]) (by decide) (Nat.le_of_ble_eq_true rfl) rfl ?_
  refine ZV_aload_n (n := 1) dX12_lift_0 rfl rfl rfl ?_
  refine call_X12_144 (c_begin hR) rfl dX12_lift_1 rfl (rf_sh hR :).1 (Nat.le_of_ble_eq_true rfl) (Nat.le_of_ble_eq_true rfl) rfl (fun r9 σ9 hp9 => ?_)
  obtain ⟨rfl, hR⟩ := hp9
  have hI := tI_su hI 0
  have hsu : g_su (h_su T 0) = 0 := rfl
  generalize h_su T 0 = T at hR hI hsu ⊢
  refine ZV_iload_n (n := 5) dX12_lift_4 rfl rfl rfl ?_
  refine ZV_i2l (n := 6) dX12_lift_5 rfl ?_
  refine ZV_lconst (v := lN 0) (n := 7) dX12_lift_6 rfl rfl ?_
  refine ZV_ldc2 (v := lN 3) (n := 10) dX12_lift_7 wd_5_218 rfl ?_
  refine call_X12_137 (c_inC _ r (by decide)) rfl dX12_lift_10 (Nat.le_of_ble_eq_true rfl) (Nat.le_of_ble_eq_true rfl) rfl (fun r9 σ9 hp9 => ?_)
  obtain ⟨rfl, rfl⟩ := hp9
  refine ZV_if_neB (tgt := 23) (n := 16) dX12_lift_13 (by decide) rfl (fun h13 => ?_) (fun h13 => ?_)
  · skip
    obtain ⟨r, hr, hr2, rfl⟩ := inB_t h13
    have hrk := ti_sk hI r (by omega)
    refine ZV_aload_n (n := 24) dX12_lift_23 rfl rfl rfl ?_
    refine ZV_getR (n := 27) dX12_lift_24 fl_X12_102 rfl rfl rfl (rf_sh hR :).1 ?_
    refine ZV_iload_n (n := 28) dX12_lift_27 rfl rfl rfl ?_
    refine ZV_baldv (n := 29) dX12_lift_28 rfl (ra_hasShelf (rf_sh hR :) :) (rk_hasShelf (rf_sh hR :) :) rfl (by omega) (rf_hasShelf hR _ (by omega)) ?_
    refine ZV_if_neB (tgt := 39) (n := 32) dX12_lift_29 (by decide) rfl (fun h29 => ?_) (fun h29 => ?_)
    · skip
      refine ZV_iload_n (n := 40) dX12_lift_39 rfl rfl rfl ?_
      refine ZV_i2l (n := 41) dX12_lift_40 rfl ?_
      refine ZV_lconst (v := lN 0) (n := 42) dX12_lift_41 rfl rfl ?_
      refine ZV_aload_n (n := 43) dX12_lift_42 rfl rfl rfl ?_
      refine ZV_getR (n := 46) dX12_lift_43 fl_X12_108 rfl rfl rfl (rf_sh hR :).1 ?_
      refine ZV_iload_n (n := 47) dX12_lift_46 rfl rfl rfl ?_
      refine ZV_ialdv (n := 48) dX12_lift_47 rfl (ra_shelfSize (rf_sh hR :) :) (rk_shelfSize (rf_sh hR :) :) rfl (by omega) (rf_shelfSize hR _ (by omega)) ?_
      refine ZV_iconst (v := nI 1) (n := 49) dX12_lift_48 rfl rfl ?_
      refine ZV_isub (n := 50) dX12_lift_49 rfl ?_
      refine ZV_i2l (n := 51) dX12_lift_50 rfl ?_
      refine call_X12_137 (c_inS _ i (by omega)) rfl dX12_lift_51 (Nat.le_of_ble_eq_true rfl) (Nat.le_of_ble_eq_true rfl) rfl (fun r9 σ9 hp9 => ?_)
      obtain ⟨rfl, rfl⟩ := hp9
      refine ZV_if_neB (tgt := 64) (n := 57) dX12_lift_54 (by decide) rfl (fun h54 => ?_) (fun h54 => ?_)
      · skip
        obtain ⟨i, hi, hi2, rfl⟩ := inB_t h54
        refine ZV_aload_n (n := 65) dX12_lift_64 rfl rfl rfl ?_
        refine ZV_getR (n := 68) dX12_lift_65 fl_X12_105 rfl rfl rfl (rf_sh hR :).1 ?_
        refine ZV_iload_n (n := 69) dX12_lift_68 rfl rfl rfl ?_
        refine ZV_ialdv (n := 70) dX12_lift_69 rfl (ra_shelfKind (rf_sh hR :) :) (rk_shelfKind (rf_sh hR :) :) rfl (by omega) (rf_shelfKind hR _ (by omega)) ?_
        refine ZV_istore_4 (n := 72) dX12_lift_70 rfl (Nat.le_of_ble_eq_true rfl) rfl ?_
        refine ZV_aload_n (n := 73) dX12_lift_72 rfl rfl rfl ?_
        refine ZV_getR (n := 76) dX12_lift_73 fl_X12_111 rfl rfl rfl (rf_sh hR :).1 ?_
        refine ZV_bipush (v := nI 60) (n := 78) dX12_lift_76 rfl rfl ?_
        refine ZV_iload_n (n := 79) dX12_lift_78 rfl rfl rfl ?_
        refine ZV_imulN (n := 80) dX12_lift_79 rfl ?_
        refine ZV_iload_n (n := 81) dX12_lift_80 rfl rfl rfl ?_
        refine ZV_iaddN (n := 82) dX12_lift_81 rfl ?_
        refine ZV_iload (n := 84) dX12_lift_82 rfl rfl ?_
        refine ZV_if_neN (tgt := 92) (n := 87) dX12_lift_84 (by decide) rfl (by omega) (fun h84 => ?_) (fun h84 => ?_)
        · skip
          refine ZV_iload (n := 94) dX12_lift_92 rfl rfl ?_
          refine ZV_iconst (v := nI 1) (n := 95) dX12_lift_94 rfl rfl ?_
          refine ZV_icmp_neN (tgt := 103) (n := 98) dX12_lift_95 (by decide) rfl (by omega) (by omega) (fun h95 => ?_) (fun h95 => ?_)
          · skip
            refine ZV_iload (n := 105) dX12_lift_103 rfl rfl ?_
            refine ZV_iconst (v := nI 2) (n := 106) dX12_lift_105 rfl rfl ?_
            refine ZV_icmp_neN (tgt := 117) (n := 109) dX12_lift_106 (by decide) rfl (by omega) (by omega) (fun h106 => ?_) (fun h106 => ?_)
            · skip
              refine ZV_iload_n (n := 118) dX12_lift_117 rfl rfl rfl ?_
              refine ZV_iast (n := 119) dX12_lift_118 rfl (ra_shelfRow (rf_sh hR :) :) (rk_shelfRow (rf_sh hR :) :) rfl (by omega) ?_
              refine ZV_iconst (v := nI 1) (n := 120) dX12_lift_119 rfl rfl ?_
              refine ZV_iret dX12_lift_120 rfl ?_
              refine zleaf (v := sOk (h_sr T (va_u2 (g_sr T) r (va_up (g_sr T r) i (lowB (g_sk T r) v)))) 1) (by simp [sp_lift, h13, h29, h54, nI_clamp hr2, nI_clamp hi2]) rfl (rR_s0 ?_ hsu)
              have hR2 := rR_shelfRow (i := r) (j := i) hR (by omega) (by omega) (lowB (g_sk T r) v)
              simp only [lowB, h13, h29, h54, h84, h95, h106] at hR2 ⊢
              exact hR2
            · skip
              refine ZV_iload_n (n := 110) dX12_lift_109 rfl rfl rfl ?_
              refine ZV_ldcw (v := nI 65535) (n := 113) dX12_lift_110 wd_6_146 rfl ?_
              refine ZV_iand (n := 114) dX12_lift_113 rfl ?_
              refine ZV_goto (tgt := 118) dX12_lift_114 (by decide) ?_
              refine ZV_iast (n := 119) dX12_lift_118 rfl (ra_shelfRow (rf_sh hR :) :) (rk_shelfRow (rf_sh hR :) :) rfl (by omega) ?_
              refine ZV_iconst (v := nI 1) (n := 120) dX12_lift_119 rfl rfl ?_
              refine ZV_iret dX12_lift_120 rfl ?_
              refine zleaf (v := sOk (h_sr T (va_u2 (g_sr T) r (va_up (g_sr T r) i (lowB (g_sk T r) v)))) 1) (by simp [sp_lift, h13, h29, h54, nI_clamp hr2, nI_clamp hi2]) rfl (rR_s0 ?_ hsu)
              have hR2 := rR_shelfRow (i := r) (j := i) hR (by omega) (by omega) (lowB (g_sk T r) v)
              simp only [lowB, h13, h29, h54, h84, h95, h106] at hR2 ⊢
              exact hR2
          · skip
            refine ZV_iload_n (n := 99) dX12_lift_98 rfl rfl rfl ?_
            refine ZV_i2s (n := 100) dX12_lift_99 rfl ?_
            refine ZV_goto (tgt := 118) dX12_lift_100 (by decide) ?_
            refine ZV_iast (n := 119) dX12_lift_118 rfl (ra_shelfRow (rf_sh hR :) :) (rk_shelfRow (rf_sh hR :) :) rfl (by omega) ?_
            refine ZV_iconst (v := nI 1) (n := 120) dX12_lift_119 rfl rfl ?_
            refine ZV_iret dX12_lift_120 rfl ?_
            refine zleaf (v := sOk (h_sr T (va_u2 (g_sr T) r (va_up (g_sr T r) i (lowB (g_sk T r) v)))) 1) (by simp [sp_lift, h13, h29, h54, nI_clamp hr2, nI_clamp hi2]) rfl (rR_s0 ?_ hsu)
            have hR2 := rR_shelfRow (i := r) (j := i) hR (by omega) (by omega) (lowB (g_sk T r) v)
            simp only [lowB, h13, h29, h54, h84, h95] at hR2 ⊢
            exact hR2
        · skip
          refine ZV_iload_n (n := 88) dX12_lift_87 rfl rfl rfl ?_
          refine ZV_i2b (n := 89) dX12_lift_88 rfl ?_
          refine ZV_goto (tgt := 118) dX12_lift_89 (by decide) ?_
          refine ZV_iast (n := 119) dX12_lift_118 rfl (ra_shelfRow (rf_sh hR :) :) (rk_shelfRow (rf_sh hR :) :) rfl (by omega) ?_
          refine ZV_iconst (v := nI 1) (n := 120) dX12_lift_119 rfl rfl ?_
          refine ZV_iret dX12_lift_120 rfl ?_
          refine zleaf (v := sOk (h_sr T (va_u2 (g_sr T) r (va_up (g_sr T r) i (lowB (g_sk T r) v)))) 1) (by simp [sp_lift, h13, h29, h54, nI_clamp hr2, nI_clamp hi2]) rfl (rR_s0 ?_ hsu)
          have hR2 := rR_shelfRow (i := r) (j := i) hR (by omega) (by omega) (lowB (g_sk T r) v)
          simp only [lowB, h13, h29, h54, h84] at hR2 ⊢
          exact hR2
      · skip
        refine ZV_aload_n (n := 58) dX12_lift_57 rfl rfl rfl ?_
        refine ZV_bipush (v := -12) (n := 60) dX12_lift_58 rfl rfl ?_
        refine call_X12_211 (c_fails hR (-12) 1 (by decide) rfl) rfl dX12_lift_60 rfl (rf_sh hR :).1 (Nat.le_of_ble_eq_true rfl) (Nat.le_of_ble_eq_true rfl) rfl (fun r9 σ9 hp9 => ?_)
        obtain ⟨rfl, hR⟩ := hp9
        refine ZV_iret dX12_lift_63 rfl ?_
        exact zleaf (v := sFl T 1 (-12) (-12)) (by simp [sp_lift, h13, h29, h54, nI_clamp hr2]) rfl hR
    · skip
      refine ZV_aload_n (n := 33) dX12_lift_32 rfl rfl rfl ?_
      refine ZV_bipush (v := -11) (n := 35) dX12_lift_33 rfl rfl ?_
      refine call_X12_211 (c_fails hR (-11) 0 (by decide) rfl) rfl dX12_lift_35 rfl (rf_sh hR :).1 (Nat.le_of_ble_eq_true rfl) (Nat.le_of_ble_eq_true rfl) rfl (fun r9 σ9 hp9 => ?_)
      obtain ⟨rfl, hR⟩ := hp9
      refine ZV_iret dX12_lift_38 rfl ?_
      exact zleaf (v := sFl T 0 (-11) (-11)) (by simp [sp_lift, h13, h29, nI_clamp hr2]) rfl hR
  · skip
    refine ZV_aload_n (n := 17) dX12_lift_16 rfl rfl rfl ?_
    refine ZV_bipush (v := -2) (n := 19) dX12_lift_17 rfl rfl ?_
    refine call_X12_130 (c_no hR _) rfl dX12_lift_19 rfl (rf_sh hR :).1 (Nat.le_of_ble_eq_true rfl) (Nat.le_of_ble_eq_true rfl) rfl (fun r9 σ9 hp9 => ?_)
    obtain ⟨rfl, hR⟩ := hp9
    refine ZV_iret dX12_lift_22 rfl ?_
    exact zleaf (v := sNo T (-2)) (by simp [sp_lift, h13]) rfl hR
