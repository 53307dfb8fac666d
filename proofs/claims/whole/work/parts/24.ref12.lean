theorem i64_sum (a b : Int32) : (a.toInt64 + b.toInt64).toInt = a.toInt + b.toInt := by
  have h1 := a.toInt_lt
  have h2 := a.le_toInt
  have h3 := b.toInt_lt
  have h4 := b.le_toInt
  rw [Int64.toInt_add, Int32.toInt_toInt64, Int32.toInt_toInt64, Int.bmod_eq_of_le (by omega) (by omega)]
theorem i32_0 : (0 : Int32).toInt = 0 := rfl
def thB (i n : Int32) (s : Nat) : Bool := decide (0 ≤ i.toInt ∧ 0 ≤ n.toInt ∧ i.toInt + n.toInt ≤ s)
theorem thB_t {i n : Int32} {s : Nat} (h : thB i n s = true) : ∃ a b : Nat, a + b ≤ s ∧ a < 2147483648 ∧ b < 2147483648 ∧ i = nI a ∧ n = nI b := by
  have h1 := of_decide_eq_true h
  have hi := i.toInt_lt
  have hn := n.toInt_lt
  refine ⟨i.toInt.toNat, n.toInt.toNat, by omega, by omega, by omega, ?_, ?_⟩
  · apply Int32.toInt_inj.mp
    rw [nI_toInt (by omega)]
    omega
  · apply Int32.toInt_inj.mp
    rw [nI_toInt (by omega)]
    omega
/-- n of f from i on come into g from j on, k of them so far -/
def cpF {α : Type} (g f : Nat → α) (i j k : Nat) : Nat → α := fun m => if j ≤ m ∧ m < j + k then f (i + (m - j)) else g m
theorem cpF_0 {α : Type} (g f : Nat → α) (i j : Nat) : cpF g f i j 0 = g := by
  funext m
  unfold cpF
  rw [if_neg (by omega)]
theorem cpF_up {α : Type} (g f : Nat → α) (i j k : Nat) : va_up (cpF g f i j k) (j + k) (f (i + k)) = cpF g f i j (k + 1) := by
  funext m
  unfold va_up cpF
  by_cases h : m = j + k
  · rw [if_pos h, if_pos (by omega), h, show j + k - j = k by omega]
  · rw [if_neg h]
    by_cases h2 : j ≤ m ∧ m < j + k
    · rw [if_pos h2, if_pos (by omega)]
    · rw [if_neg h2, if_neg (by omega)]
theorem hs_rr (T : TS) : h_rr T (g_rr T) = T := by unfold h_rr g_rr; simp only [up_self]
theorem hs_sr (T : TS) : h_sr T (g_sr T) = T := by unfold h_sr g_sr; simp only [up_self]
def sp_slide (T : TS) (r i j n : Int32) : Int32 × TS := if inB r 4 = false then sNo T (-2) else if g_hr T r.toNatClampNeg = false then sFl T 0 (-11) (-11) else if thB i n (g_rs T r.toNatClampNeg) = true ∧ thB j n (g_rs T r.toNatClampNeg) = true then sOk (h_rr T (va_u2 (g_rr T) r.toNatClampNeg (cpF (g_rr T r.toNatClampNeg) (g_rr T r.toNatClampNeg) i.toNatClampNeg j.toNatClampNeg n.toNatClampNeg))) n else sFl T 1 (-12) (-12)
def sp_copy (T : TS) (s i o j n : Int32) : Int32 × TS := if inB s 4 = true ∧ inB o 4 = true then (if g_hs T s.toNatClampNeg = true ∧ g_hs T o.toNatClampNeg = true then (if g_sk T s.toNatClampNeg = g_sk T o.toNatClampNeg then (if thB i n (g_ss T s.toNatClampNeg) = true ∧ thB j n (g_ss T o.toNatClampNeg) = true then sOk (h_sr T (va_u2 (g_sr T) o.toNatClampNeg (cpF (g_sr T o.toNatClampNeg) (g_sr T s.toNatClampNeg) i.toNatClampNeg j.toNatClampNeg n.toNatClampNeg))) n else sFl T 1 (-12) (-12)) else sFl T 2 (-13) (-13)) else sFl T 0 (-11) (-11)) else sNo T (-2)
set_option maxHeartbeats 4000000 in
set_option maxRecDepth 100000 in
theorem c_areThere {σ : ZS} (i n : Int32) (s : Nat) (hs : s < 2147483648) : ZC M_X12_areThere [Ai i, Ai n, Ai (nI s)] σ (fun r τ => r = some (Ai (bI (thB i n s))) ∧ τ = σ) := by
  refine ZC_of (ls := [some (Ai i), some (Ai n), some (Ai (nI s))]) (by decide) (Nat.le_of_ble_eq_true rfl) rfl ?_
  refine ZV_iload_n (n := 1) dX12_areThere_0 rfl rfl rfl ?_
  refine ZV_if_lt (tgt := 23) (n := 4) dX12_areThere_1 (by decide) rfl (fun h1 => ?_) (fun h1 => ?_)
  · skip
    refine ZV_iconst (v := nI 0) (n := 24) dX12_areThere_23 rfl rfl ?_
    refine ZV_zret dX12_areThere_24 rfl (by first | exact Or.inl rfl | exact Or.inr rfl) ?_
    refine ⟨?_, rfl⟩
    simp only [Int32.lt_iff_toInt_lt, Int64.lt_iff_toInt_lt, i64_sum, i32_0, pk_lT (n := s) (by omega)] at *
    unfold thB
    first | (rw [decide_eq_true (by omega)]; rfl) | (rw [decide_eq_false (by omega)]; rfl)
  · skip
    refine ZV_iload_n (n := 5) dX12_areThere_4 rfl rfl rfl ?_
    refine ZV_if_lt (tgt := 23) (n := 8) dX12_areThere_5 (by decide) rfl (fun h5 => ?_) (fun h5 => ?_)
    · skip
      refine ZV_iconst (v := nI 0) (n := 24) dX12_areThere_23 rfl rfl ?_
      refine ZV_zret dX12_areThere_24 rfl (by first | exact Or.inl rfl | exact Or.inr rfl) ?_
      refine ⟨?_, rfl⟩
      simp only [Int32.lt_iff_toInt_lt, Int64.lt_iff_toInt_lt, i64_sum, i32_0, pk_lT (n := s) (by omega)] at *
      unfold thB
      first | (rw [decide_eq_true (by omega)]; rfl) | (rw [decide_eq_false (by omega)]; rfl)
    · skip
      refine ZV_iload_n (n := 9) dX12_areThere_8 rfl rfl rfl ?_
      refine ZV_i2l (n := 10) dX12_areThere_9 rfl ?_
      refine ZV_iload_n (n := 11) dX12_areThere_10 rfl rfl rfl ?_
      refine ZV_i2l (n := 12) dX12_areThere_11 rfl ?_
      refine ZV_ladd (n := 13) dX12_areThere_12 rfl ?_
      refine ZV_iload_n (n := 14) dX12_areThere_13 rfl rfl rfl ?_
      refine ZV_i2lN (n := 15) dX12_areThere_14 rfl (by omega) ?_
      refine ZV_lcmp_gt (tgt := 23) (pc1 := 16) (n := 19) dX12_areThere_15 rfl dX12_areThere_16 (by decide) rfl (fun h15 => ?_) (fun h15 => ?_)
      · skip
        refine ZV_iconst (v := nI 0) (n := 24) dX12_areThere_23 rfl rfl ?_
        refine ZV_zret dX12_areThere_24 rfl (by first | exact Or.inl rfl | exact Or.inr rfl) ?_
        refine ⟨?_, rfl⟩
        simp only [Int32.lt_iff_toInt_lt, Int64.lt_iff_toInt_lt, i64_sum, i32_0, pk_lT (n := s) (by omega)] at *
        unfold thB
        first | (rw [decide_eq_true (by omega)]; rfl) | (rw [decide_eq_false (by omega)]; rfl)
      · skip
        refine ZV_iconst (v := nI 1) (n := 20) dX12_areThere_19 rfl rfl ?_
        refine ZV_goto (tgt := 24) dX12_areThere_20 (by decide) ?_
        refine ZV_zret dX12_areThere_24 rfl (by first | exact Or.inl rfl | exact Or.inr rfl) ?_
        refine ⟨?_, rfl⟩
        simp only [Int32.lt_iff_toInt_lt, Int64.lt_iff_toInt_lt, i64_sum, i32_0, pk_lT (n := s) (by omega)] at *
        unfold thB
        first | (rw [decide_eq_true (by omega)]; rfl) | (rw [decide_eq_false (by omega)]; rfl)
set_option maxHeartbeats 4000000 in
set_option maxRecDepth 100000 in
theorem c_slide {x : Nat} {σ : ZS} {T : TS} (hR : rR x σ T) (hI : tI T) (r i j n : Int32) : ZC M_X12_slide [Ar (some x), Ai r, Ai i, Ai j, Ai n] σ (fun y0 τ0 => y0 = some (Ai (sp_slide T r i j n).1) ∧ rR x τ0 (sp_slide T r i j n).2) := by
  have hsp : sp_slide T r i j n = sp_slide (h_su T 0) r i j n := rfl
  rw [hsp]
  clear hsp
  refine ZC_of (ls := [some (Ar (some x)), some (Ai r), some (Ai i), some (Ai j), some (Ai n), none]) (by decide) (Nat.le_of_ble_eq_true rfl) rfl ?_
  refine ZV_aload_n (n := 1) dX12_slide_0 rfl rfl rfl ?_
  refine call_X12_144 (c_begin hR) rfl dX12_slide_1 rfl (rf_sh hR :).1 (Nat.le_of_ble_eq_true rfl) (Nat.le_of_ble_eq_true rfl) rfl (fun r9 σ9 hp9 => ?_)
  obtain ⟨rfl, hR⟩ := hp9
  have hI := tI_su hI 0
  have hsu : g_su (h_su T 0) = 0 := rfl
  generalize h_su T 0 = T at hR hI hsu ⊢
  refine ZV_iload_n (n := 5) dX12_slide_4 rfl rfl rfl ?_
  refine ZV_i2l (n := 6) dX12_slide_5 rfl ?_
  refine ZV_lconst (v := lN 0) (n := 7) dX12_slide_6 rfl rfl ?_
  refine ZV_ldc2 (v := lN 3) (n := 10) dX12_slide_7 wd_5_218 rfl ?_
  refine call_X12_137 (c_inC _ r (by decide)) rfl dX12_slide_10 (Nat.le_of_ble_eq_true rfl) (Nat.le_of_ble_eq_true rfl) rfl (fun r9 σ9 hp9 => ?_)
  obtain ⟨rfl, rfl⟩ := hp9
  refine ZV_if_neB (tgt := 23) (n := 16) dX12_slide_13 (by decide) rfl (fun h13 => ?_) (fun h13 => ?_)
  · skip
    obtain ⟨r, hr, hr2, rfl⟩ := inB_t h13
    have hrk := ti_rk hI r (by omega)
    refine ZV_aload_n (n := 24) dX12_slide_23 rfl rfl rfl ?_
    refine ZV_getR (n := 27) dX12_slide_24 fl_X12_87 rfl rfl rfl (rf_sh hR :).1 ?_
    refine ZV_iload_n (n := 28) dX12_slide_27 rfl rfl rfl ?_
    refine ZV_baldv (n := 29) dX12_slide_28 rfl (ra_hasRack (rf_sh hR :) :) (rk_hasRack (rf_sh hR :) :) rfl (by omega) (rf_hasRack hR _ (by omega)) ?_
    refine ZV_if_neB (tgt := 39) (n := 32) dX12_slide_29 (by decide) rfl (fun h29 => ?_) (fun h29 => ?_)
    · skip
      refine ZV_iload_n (n := 40) dX12_slide_39 rfl rfl rfl ?_
      refine ZV_iload (n := 42) dX12_slide_40 rfl rfl ?_
      refine ZV_aload_n (n := 43) dX12_slide_42 rfl rfl rfl ?_
      refine ZV_getR (n := 46) dX12_slide_43 fl_X12_93 rfl rfl rfl (rf_sh hR :).1 ?_
      refine ZV_iload_n (n := 47) dX12_slide_46 rfl rfl rfl ?_
      refine ZV_ialdv (n := 48) dX12_slide_47 rfl (ra_rackSize (rf_sh hR :) :) (rk_rackSize (rf_sh hR :) :) rfl (by omega) (rf_rackSize hR _ (by omega)) ?_
      refine call_X12_321 (c_areThere _ _ _ (by omega)) rfl dX12_slide_48 (Nat.le_of_ble_eq_true rfl) (Nat.le_of_ble_eq_true rfl) rfl (fun r9 σ9 hp9 => ?_)
      obtain ⟨rfl, rfl⟩ := hp9
      refine ZV_if_eqB (tgt := 69) (n := 54) dX12_slide_51 (by decide) rfl (fun h51 => ?_) (fun h51 => ?_)
      · skip
        refine ZV_aload_n (n := 70) dX12_slide_69 rfl rfl rfl ?_
        refine ZV_bipush (v := -12) (n := 72) dX12_slide_70 rfl rfl ?_
        refine call_X12_211 (c_fails hR (-12) 1 (by decide) rfl) rfl dX12_slide_72 rfl (rf_sh hR :).1 (Nat.le_of_ble_eq_true rfl) (Nat.le_of_ble_eq_true rfl) rfl (fun r9 σ9 hp9 => ?_)
        obtain ⟨rfl, hR⟩ := hp9
        refine ZV_iret dX12_slide_75 rfl ?_
        exact zleaf (v := sFl T 1 (-12) (-12)) (by simp [sp_slide, h13, h29, h51, nI_clamp hr2]) rfl hR
      · skip
        refine ZV_iload_n (n := 55) dX12_slide_54 rfl rfl rfl ?_
        refine ZV_iload (n := 57) dX12_slide_55 rfl rfl ?_
        refine ZV_aload_n (n := 58) dX12_slide_57 rfl rfl rfl ?_
        refine ZV_getR (n := 61) dX12_slide_58 fl_X12_93 rfl rfl rfl (rf_sh hR :).1 ?_
        refine ZV_iload_n (n := 62) dX12_slide_61 rfl rfl rfl ?_
        refine ZV_ialdv (n := 63) dX12_slide_62 rfl (ra_rackSize (rf_sh hR :) :) (rk_rackSize (rf_sh hR :) :) rfl (by omega) (rf_rackSize hR _ (by omega)) ?_
        refine call_X12_321 (c_areThere _ _ _ (by omega)) rfl dX12_slide_63 (Nat.le_of_ble_eq_true rfl) (Nat.le_of_ble_eq_true rfl) rfl (fun r9 σ9 hp9 => ?_)
        obtain ⟨rfl, rfl⟩ := hp9
        refine ZV_if_neB (tgt := 76) (n := 69) dX12_slide_66 (by decide) rfl (fun h66 => ?_) (fun h66 => ?_)
        · skip
          obtain ⟨i, n, hin, hix, hnx, rfl, rfl⟩ := thB_t h51
          obtain ⟨j, n2, hjn, hjx, hnx2, rfl, hnn⟩ := thB_t h66
          obtain rfl : n = n2 := (nI_eq hnx hnx2).mp hnn
          rw [show sp_slide T (nI r) (nI i) (nI j) (nI n) = sOk (h_rr T (va_u2 (g_rr T) r (cpF (g_rr T r) (g_rr T r) i j n))) (nI n) from by rw [sp_slide, nI_clamp hr2, if_neg (by rw [h13]; decide), if_neg (by rw [h29]; decide), if_pos ⟨h51, h66⟩, nI_clamp hix, nI_clamp hjx, nI_clamp hnx]]
          refine ZV_iconst (v := nI 0) (n := 77) dX12_slide_76 rfl rfl ?_
          refine ZV_istore_5 (n := 79) dX12_slide_77 rfl (Nat.le_of_ble_eq_true rfl) rfl ?_
          have loop2 : ∀ (n9 : Nat) (q : Nat) (τ : ZS), n - q < n9 → q ≤ n → rR x τ (h_rr T (va_u2 (g_rr T) r (cpF (g_rr T r) (g_rr T r) i j q))) → (∀ m, m < n → zi τ (x + 30) m = oI (g_rr T r (i + m))) → ZV M_X12_slide (fun y0 τ0 => y0 = some (Ai (sOk (h_rr T (va_u2 (g_rr T) r (cpF (g_rr T r) (g_rr T r) i j n))) (nI n)).1) ∧ rR x τ0 (sOk (h_rr T (va_u2 (g_rr T) r (cpF (g_rr T r) (g_rr T r) i j n))) (nI n)).2) 116 [some (Ar (some x)), some (Ai (nI r)), some (Ai (nI i)), some (Ai (nI j)), some (Ai (nI n)), some (Ai (nI q))] [] τ (zmC M_X12_slide) (zmS M_X12_slide) := by
            intro n9
            induction n9 with
            | zero => intro q τ hm; exact absurd hm (Nat.not_lt_zero _)
            | succ n9 ih =>
              intro q τ hm hq hR8 hsl
              refine ZV_iload (n := 118) dX12_slide_116 rfl rfl ?_
              refine ZV_iload (n := 120) dX12_slide_118 rfl rfl ?_
              refine ZV_icmp_geN (tgt := 150) (n := 123) dX12_slide_120 (by decide) rfl (by omega) (by omega) (fun h120 => ?_) (fun h120 => ?_)
              · skip
                refine ZV_iload (n := 152) dX12_slide_150 rfl rfl ?_
                refine ZV_iret dX12_slide_152 rfl ?_
                obtain rfl : q = n := by omega
                exact ⟨rfl, rR_s0 hR8 hsu⟩
              · skip
                refine ZV_aload_n (n := 124) dX12_slide_123 rfl rfl rfl ?_
                refine ZV_getR (n := 127) dX12_slide_124 fl_X12_96 rfl rfl rfl (rf_sh hR8 :).1 ?_
                refine ZV_bipush (v := nI 20) (n := 129) dX12_slide_127 rfl rfl ?_
                refine ZV_iload_n (n := 130) dX12_slide_129 rfl rfl rfl ?_
                refine ZV_imulN (n := 131) dX12_slide_130 rfl ?_
                refine ZV_iload_n (n := 132) dX12_slide_131 rfl rfl rfl ?_
                refine ZV_iaddN (n := 133) dX12_slide_132 rfl ?_
                refine ZV_iload (n := 135) dX12_slide_133 rfl rfl ?_
                refine ZV_iaddN (n := 136) dX12_slide_135 rfl ?_
                refine ZV_aload_n (n := 137) dX12_slide_136 rfl rfl rfl ?_
                refine ZV_getR (n := 140) dX12_slide_137 fl_X12_99 rfl rfl rfl (rf_sh hR8 :).1 ?_
                refine ZV_iload (n := 142) dX12_slide_140 rfl rfl ?_
                refine ZV_ialdv (n := 143) dX12_slide_142 rfl (ra_slid (rf_sh hR8 :) :) (rk_slid (rf_sh hR8 :) :) rfl (by omega) (hsl q (by omega)) ?_
                refine ZV_iast (n := 144) dX12_slide_143 rfl (ra_rackRow (rf_sh hR8 :) :) (rk_rackRow (rf_sh hR8 :) :) (congrArg nI (Nat.add_assoc (20 * r) j q)) (by omega) ?_
                have hsl2 : ∀ m, m < n → zi (qi τ (x + 29) (20 * r + (j + q)) (oI (g_rr T r (i + q)))) (x + 30) m = oI (g_rr T r (i + m)) := fun m hm9 => by rw [zi_qi, if_neg (by omega)]; exact hsl m hm9
                have hR9 := rR_rackRow (i := r) (j := j + q) hR8 (by omega) (by omega) (g_rr T r (i + q))
                rw [hh_rr, show g_rr (h_rr T (va_u2 (g_rr T) r (cpF (g_rr T r) (g_rr T r) i j q))) = va_u2 (g_rr T) r (cpF (g_rr T r) (g_rr T r) i j q) from rfl, u2_u2, cpF_up] at hR9
                clear hsl hR8
                have hR8 := hR9
                have hsl := hsl2
                clear hR9 hsl2
                generalize qi τ _ _ _ = τ2 at hR8 hsl ⊢
                refine ZV_iincN_5 (v := 1) (n := 147) dX12_slide_144 rfl rfl (Nat.le_of_ble_eq_true rfl) rfl ?_
                refine ZV_goto (tgt := 116) dX12_slide_147 (by decide) ?_
                exact ih (q + 1) _ (by omega) (by omega) hR8 hsl
          have loop1 : ∀ (n9 : Nat) (q : Nat) (τ : ZS), n - q < n9 → q ≤ n → rR x τ T → (∀ m, m < q → zi τ (x + 30) m = oI (g_rr T r (i + m))) → ZV M_X12_slide (fun y0 τ0 => y0 = some (Ai (sOk (h_rr T (va_u2 (g_rr T) r (cpF (g_rr T r) (g_rr T r) i j n))) (nI n)).1) ∧ rR x τ0 (sOk (h_rr T (va_u2 (g_rr T) r (cpF (g_rr T r) (g_rr T r) i j n))) (nI n)).2) 79 [some (Ar (some x)), some (Ai (nI r)), some (Ai (nI i)), some (Ai (nI j)), some (Ai (nI n)), some (Ai (nI q))] [] τ (zmC M_X12_slide) (zmS M_X12_slide) := by
            intro n9
            induction n9 with
            | zero => intro q τ hm; exact absurd hm (Nat.not_lt_zero _)
            | succ n9 ih =>
              intro q τ hm hq hR9 hsl
              refine ZV_iload (n := 81) dX12_slide_79 rfl rfl ?_
              refine ZV_iload (n := 83) dX12_slide_81 rfl rfl ?_
              refine ZV_icmp_geN (tgt := 113) (n := 86) dX12_slide_83 (by decide) rfl (by omega) (by omega) (fun h83 => ?_) (fun h83 => ?_)
              · skip
                refine ZV_iconst (v := nI 0) (n := 114) dX12_slide_113 rfl rfl ?_
                refine ZV_istore_5 (n := 116) dX12_slide_114 rfl (Nat.le_of_ble_eq_true rfl) rfl ?_
                obtain rfl : q = n := by omega
                exact loop2 _ 0 _ (Nat.lt_succ_self _) (by omega) (by rw [cpF_0, u2_self, hs_rr]; exact hR9) hsl
              · skip
                refine ZV_aload_n (n := 87) dX12_slide_86 rfl rfl rfl ?_
                refine ZV_getR (n := 90) dX12_slide_87 fl_X12_99 rfl rfl rfl (rf_sh hR9 :).1 ?_
                refine ZV_iload (n := 92) dX12_slide_90 rfl rfl ?_
                refine ZV_aload_n (n := 93) dX12_slide_92 rfl rfl rfl ?_
                refine ZV_getR (n := 96) dX12_slide_93 fl_X12_96 rfl rfl rfl (rf_sh hR9 :).1 ?_
                refine ZV_bipush (v := nI 20) (n := 98) dX12_slide_96 rfl rfl ?_
                refine ZV_iload_n (n := 99) dX12_slide_98 rfl rfl rfl ?_
                refine ZV_imulN (n := 100) dX12_slide_99 rfl ?_
                refine ZV_iload_n (n := 101) dX12_slide_100 rfl rfl rfl ?_
                refine ZV_iaddN (n := 102) dX12_slide_101 rfl ?_
                refine ZV_iload (n := 104) dX12_slide_102 rfl rfl ?_
                refine ZV_iaddN (n := 105) dX12_slide_104 rfl ?_
                refine ZV_ialdv (n := 106) dX12_slide_105 rfl (ra_rackRow (rf_sh hR9 :) :) (rk_rackRow (rf_sh hR9 :) :) (congrArg nI (Nat.add_assoc (20 * r) i q)) (by omega) (rf_rackRow hR9 r (i + q) (by omega) (by omega)) ?_
                refine ZV_iast (n := 107) dX12_slide_106 rfl (ra_slid (rf_sh hR9 :) :) (rk_slid (rf_sh hR9 :) :) rfl (by omega) ?_
                have hsl2 : ∀ m, m < q + 1 → zi (qi τ (x + 30) q (oI (g_rr T r (i + q)))) (x + 30) m = oI (g_rr T r (i + m)) := fun m hm9 => by
                  rw [zi_qi]
                  by_cases hmq : m = q
                  · rw [if_pos ⟨rfl, hmq⟩, hmq]
                  · rw [if_neg (fun z => hmq z.2)]; exact hsl m (by omega)
                have hR8 := rR_slid (j := q) hR9 (oI (g_rr T r (i + q)))
                clear hsl hR9
                have hR9 := hR8
                have hsl := hsl2
                clear hR8 hsl2
                generalize qi τ _ _ _ = τ2 at hR9 hsl ⊢
                refine ZV_iincN_5 (v := 1) (n := 110) dX12_slide_107 rfl rfl (Nat.le_of_ble_eq_true rfl) rfl ?_
                refine ZV_goto (tgt := 79) dX12_slide_110 (by decide) ?_
                exact ih (q + 1) _ (by omega) (by omega) hR9 hsl
          exact loop1 _ 0 _ (Nat.lt_succ_self _) (by omega) hR (fun m hm9 => absurd hm9 (by omega))
        · skip
          refine ZV_aload_n (n := 70) dX12_slide_69 rfl rfl rfl ?_
          refine ZV_bipush (v := -12) (n := 72) dX12_slide_70 rfl rfl ?_
          refine call_X12_211 (c_fails hR (-12) 1 (by decide) rfl) rfl dX12_slide_72 rfl (rf_sh hR :).1 (Nat.le_of_ble_eq_true rfl) (Nat.le_of_ble_eq_true rfl) rfl (fun r9 σ9 hp9 => ?_)
          obtain ⟨rfl, hR⟩ := hp9
          refine ZV_iret dX12_slide_75 rfl ?_
          exact zleaf (v := sFl T 1 (-12) (-12)) (by simp [sp_slide, h13, h29, h51, h66, nI_clamp hr2]) rfl hR
    · skip
      refine ZV_aload_n (n := 33) dX12_slide_32 rfl rfl rfl ?_
      refine ZV_bipush (v := -11) (n := 35) dX12_slide_33 rfl rfl ?_
      refine call_X12_211 (c_fails hR (-11) 0 (by decide) rfl) rfl dX12_slide_35 rfl (rf_sh hR :).1 (Nat.le_of_ble_eq_true rfl) (Nat.le_of_ble_eq_true rfl) rfl (fun r9 σ9 hp9 => ?_)
      obtain ⟨rfl, hR⟩ := hp9
      refine ZV_iret dX12_slide_38 rfl ?_
      exact zleaf (v := sFl T 0 (-11) (-11)) (by simp [sp_slide, h13, h29, nI_clamp hr2]) rfl hR
  · skip
    refine ZV_aload_n (n := 17) dX12_slide_16 rfl rfl rfl ?_
    refine ZV_bipush (v := -2) (n := 19) dX12_slide_17 rfl rfl ?_
    refine call_X12_130 (c_no hR _) rfl dX12_slide_19 rfl (rf_sh hR :).1 (Nat.le_of_ble_eq_true rfl) (Nat.le_of_ble_eq_true rfl) rfl (fun r9 σ9 hp9 => ?_)
    obtain ⟨rfl, hR⟩ := hp9
    refine ZV_iret dX12_slide_22 rfl ?_
    exact zleaf (v := sNo T (-2)) (by simp [sp_slide, h13]) rfl hR
