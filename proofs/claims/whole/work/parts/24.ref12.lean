theorem i64_sum (a b : Int32) : (a.toInt64 + b.toInt64).toInt = a.toInt + b.toInt := by
  have h1 := a.toInt_lt
  have h2 := a.le_toInt
  have h3 := b.toInt_lt
  have h4 := b.le_toInt
  rw [Int64.toInt_add, Int32.toInt_toInt64, Int32.toInt_toInt64, Int.bmod_eq_of_le (by omega) (by omega)]
theorem i32_0 : (0 : Int32).toInt = 0 := rfl
def thB (i n : Int32) (s : Nat) : Bool := decide (0 ≤ i.toInt ∧ 0 ≤ n.toInt ∧ i.toInt + n.toInt ≤ s)
theorem thB_t {i n : Int32} {s : Nat} (h : thB i n s = true) : ∃ a b : Nat, a + b ≤ s ∧ a < 2147483648 ∧ b < 2147483648 ∧ i = nI a ∧ n = nI b := by
  have h1 := of_decide_eq_true h
  have hi := i.toInt_lt
  have hn := n.toInt_lt
  refine ⟨i.toInt.toNat, n.toInt.toNat, by omega, by omega, by omega, ?_, ?_⟩
  · apply Int32.toInt_inj.mp
    rw [nI_toInt (by omega)]
    omega
  · apply Int32.toInt_inj.mp
    rw [nI_toInt (by omega)]
    omega
/-- n of f from i on come into g from j on, k of them so far -/
def cpF {α : Type} (g f : Nat → α) (i j k : Nat) : Nat → α := fun m => if j ≤ m ∧ m < j + k then f (i + (m - j)) else g m
theorem cpF_0 {α : Type} (g f : Nat → α) (i j : Nat) : cpF g f i j 0 = g := by
  funext m
  unfold cpF
  rw [if_neg (by omega)]
theorem cpF_up {α : Type} (g f : Nat → α) (i j k : Nat) : va_up (cpF g f i j k) (j + k) (f (i + k)) = cpF g f i j (k + 1) := by
  funext m
  unfold va_up cpF
  by_cases h : m = j + k
  · rw [if_pos h, if_pos (by omega), h, show j + k - j = k by omega]
  · rw [if_neg h]
    by_cases h2 : j ≤ m ∧ m < j + k
    · rw [if_pos h2, if_pos (by omega)]
    · rw [if_neg h2, if_neg (by omega)]
theorem hs_rr (T : TS) : h_rr T (g_rr T) = T := by unfold h_rr g_rr; simp only [up_self]
theorem hs_sr (T : TS) : h_sr T (g_sr T) = T := by unfold h_sr g_sr; simp only [up_self]
def sp_slide (T : TS) (r i j n : Int32) : Int32 × TS := if inB r 4 = false then sNo T (-2) else if g_hr T r.toNatClampNeg = false then sFl T 0 (-11) (-11) else if thB i n (g_rs T r.toNatClampNeg) = true ∧ thB j n (g_rs T r.toNatClampNeg) = true then sOk (h_rr T (va_u2 (g_rr T) r.toNatClampNeg (cpF (g_rr T r.toNatClampNeg) (g_rr T r.toNatClampNeg) i.toNatClampNeg j.toNatClampNeg n.toNatClampNeg))) n else sFl T 1 (-12) (-12)
def sp_copy (T : TS) (s i o j n : Int32) : Int32 × TS := if inB s 4 = true ∧ inB o 4 = true then (if g_hs T s.toNatClampNeg = true ∧ g_hs T o.toNatClampNeg = true then (if g_sk T s.toNatClampNeg = g_sk T o.toNatClampNeg then (if thB i n (g_ss T s.toNatClampNeg) = true ∧ thB j n (g_ss T o.toNatClampNeg) = true then sOk (h_sr T (va_u2 (g_sr T) o.toNatClampNeg (cpF (g_sr T o.toNatClampNeg) (g_sr T s.toNatClampNeg) i.toNatClampNeg j.toNatClampNeg n.toNatClampNeg))) n else sFl T 1 (-12) (-12)) else sFl T 2 (-13) (-13)) else sFl T 0 (-11) (-11)) else sNo T (-2)
set_option maxHeartbeats 4000000 in
set_option maxRecDepth 100000 in
theorem c_areThere {σ : ZS} (i n : Int32) (s : Nat) (hs : s < 2147483648) : ZC M_X12_areThere [Ai i, Ai n, Ai (nI s)] σ (fun r τ => r = some (Ai (bI (thB i n s))) ∧ τ = σ) := by
  refine ZC_of (ls := [some (Ai i), some (Ai n), some (Ai (nI s))]) (by decide) (Nat.le_of_ble_eq_true rfl) rfl ?_
  refine ZV_iload_n (n := 1) dX12_areThere_0 rfl rfl rfl ?_
  refine ZV_if_lt (tgt := 23) (n := 4) dX12_areThere_1 (by decide) rfl (fun h1 => ?_) (fun h1 => ?_)
  · skip
    refine ZV_iconst (v := nI 0) (n := 24) dX12_areThere_23 rfl rfl ?_
    refine ZV_zret dX12_areThere_24 rfl (by first | exact Or.inl rfl | exact Or.inr rfl) ?_
    refine ⟨?_, rfl⟩
    simp only [Int32.lt_iff_toInt_lt, Int64.lt_iff_toInt_lt, i64_sum, i32_0, pk_lT (n := s) (by omega)] at *
    unfold thB
    first | (rw [decide_eq_true (by omega)]; rfl) | (rw [decide_eq_false (by omega)]; rfl)
  · skip
    refine ZV_iload_n (n := 5) dX12_areThere_4 rfl rfl rfl ?_
    refine ZV_if_lt (tgt := 23) (n := 8) dX12_areThere_5 (by decide) rfl (fun h5 => ?_) (fun h5 => ?_)
    · skip
      refine ZV_iconst (v := nI 0) (n := 24) dX12_areThere_23 rfl rfl ?_
      refine ZV_zret dX12_areThere_24 rfl (by first | exact Or.inl rfl | exact Or.inr rfl) ?_
      refine ⟨?_, rfl⟩
      simp only [Int32.lt_iff_toInt_lt, Int64.lt_iff_toInt_lt, i64_sum, i32_0, pk_lT (n := s) (by omega)] at *
      unfold thB
      first | (rw [decide_eq_true (by omega)]; rfl) | (rw [decide_eq_false (by omega)]; rfl)
    · skip
      refine ZV_iload_n (n := 9) dX12_areThere_8 rfl rfl rfl ?_
      refine ZV_i2l (n := 10) dX12_areThere_9 rfl ?_
      refine ZV_iload_n (n := 11) dX12_areThere_10 rfl rfl rfl ?_
      refine ZV_i2l (n := 12) dX12_areThere_11 rfl ?_
      refine ZV_ladd (n := 13) dX12_areThere_12 rfl ?_
      refine ZV_iload_n (n := 14) dX12_areThere_13 rfl rfl rfl ?_
      refine ZV_i2lN (n := 15) dX12_areThere_14 rfl (by omega) ?_
      refine ZV_lcmp_gt (tgt := 23) (pc1 := 16) (n := 19) dX12_areThere_15 rfl dX12_areThere_16 (by decide) rfl (fun h15 => ?_) (fun h15 => ?_)
      · skip
        refine ZV_iconst (v := nI 0) (n := 24) dX12_areThere_23 rfl rfl ?_
        refine ZV_zret dX12_areThere_24 rfl (by first | exact Or.inl rfl | exact Or.inr rfl) ?_
        refine ⟨?_, rfl⟩
        simp only [Int32.lt_iff_toInt_lt, Int64.lt_iff_toInt_lt, i64_sum, i32_0, pk_lT (n := s) (by omega)] at *
        unfold thB
        first | (rw [decide_eq_true (by omega)]; rfl) | (rw [decide_eq_false (by omega)]; rfl)
      · skip
        refine ZV_iconst (v := nI 1) (n := 20) dX12_areThere_19 rfl rfl ?_
        refine ZV_goto (tgt := 24) dX12_areThere_20 (by decide) ?_
        refine ZV_zret dX12_areThere_24 rfl (by first | exact Or.inl rfl | exact Or.inr rfl) ?_
        refine ⟨?_, rfl⟩
        simp only [Int32.lt_iff_toInt_lt, Int64.lt_iff_toInt_lt, i64_sum, i32_0, pk_lT (n := s) (by omega)] at *
        unfold thB
        first | (rw [decide_eq_true (by omega)]; rfl) | (rw [decide_eq_false (by omega)]; rfl)
set_option maxHeartbeats 4000000 in
set_option maxRecDepth 100000 in
theorem c_slide {x : Nat} {σ : ZS} {T : TS} (hR : rR x σ T) (hI : tI T) (r i j n : Int32) : ZC M_X12_slide [Ar (some x), Ai r, Ai i, Ai j, Ai n] σ (fun y0 τ0 => y0 = some (Ai (sp_slide T r i j n).1) ∧ rR x τ0 (sp_slide T r i j n).2) := by
  have hsp : sp_slide T r i j n = sp_slide (h_su T 0) r i j n := rfl
  rw [hsp]
  clear hsp
  refine ZC_of (ls := [some (Ar (some x)), some (Ai r), some (Ai i), some (Ai j), some (Ai n), none]) (by decide) (Nat.le_of_ble_eq_true rfl) rfl ?_
  refine ZV_aload_n (n := 1) dX12_slide_0 rfl rfl rfl ?_
  refine call_X12_144 (c_begin hR) rfl dX12_slide_1 rfl (rf_sh hR :).1 (Nat.le_of_ble_eq_true rfl) (Nat.le_of_ble_eq_true rfl) rfl (fun r9 σ9 hp9 => ?_)
  obtain ⟨rfl, hR⟩ := hp9
  have hI := tI_su hI 0
  have hsu : g_su (h_su T 0) = 0 := rfl
  generalize h_su T 0 = T at hR hI hsu ⊢
  refine ZV_iload_n (n := 5) dX12_slide_4 rfl rfl rfl ?_
  refine ZV_i2l (n := 6) dX12_slide_5 rfl ?_
  refine ZV_lconst (v := lN 0) (n := 7) dX12_slide_6 rfl rfl ?_
  refine ZV_ldc2 (v := lN 3) (n := 10) dX12_slide_7 wd_5_218 rfl ?_
  refine call_X12_137 (c_inC _ r (by decide)) rfl dX12_slide_10 (Nat.le_of_ble_eq_true rfl) (Nat.le_of_ble_eq_true rfl) rfl (fun r9 σ9 hp9 => ?_)
  obtain ⟨rfl, rfl⟩ := hp9
  refine ZV_if_neB (tgt := 23) (n := 16) dX12_slide_13 (by decide) rfl (fun h13 => ?_) (fun h13 => ?_)
  · skip
    obtain ⟨r, hr, hr2, rfl⟩ := inB_t h13
    have hrk := ti_rk hI r (by omega)
    refine ZV_aload_n (n := 24) dX12_slide_23 rfl rfl rfl ?_
    refine ZV_getR (n := 27) dX12_slide_24 fl_X12_87 rfl rfl rfl (rf_sh hR :).1 ?_
    refine ZV_iload_n (n := 28) dX12_slide_27 rfl rfl rfl ?_
    refine ZV_baldv (n := 29) dX12_slide_28 rfl (ra_hasRack (rf_sh hR :) :) (rk_hasRack (rf_sh hR :) :) rfl (by omega) (rf_hasRack hR _ (by omega)) ?_
    refine ZV_if_neB (tgt := 39) (n := 32) dX12_slide_29 (by decide) rfl (fun h29 => ?_) (fun h29 => ?_)
    · skip
      refine ZV_iload_n (n := 40) dX12_slide_39 rfl rfl rfl ?_
      refine ZV_iload (n := 42) dX12_slide_40 rfl rfl ?_
      refine ZV_aload_n (n := 43) dX12_slide_42 rfl rfl rfl ?_
      refine ZV_getR (n := 46) dX12_slide_43 fl_X12_93 rfl rfl rfl (rf_sh hR :).1 ?_
      refine ZV_iload_n (n := 47) dX12_slide_46 rfl rfl rfl ?_
      refine ZV_ialdv (n := 48) dX12_slide_47 rfl (ra_rackSize (rf_sh hR :) :) (rk_rackSize (rf_sh hR :) :) rfl (by omega) (rf_rackSize hR _ (by omega)) ?_
      refine call_X12_321 (c_areThere _ _ _ (by omega)) rfl dX12_slide_48 (Nat.le_of_ble_eq_true rfl) (Nat.le_of_ble_eq_true rfl) rfl (fun r9 σ9 hp9 => ?_)
      obtain ⟨rfl, rfl⟩ := hp9
      refine ZV_if_eqB (tgt := 69) (n := 54) dX12_slide_51 (by decide) rfl (fun h51 => ?_) (fun h51 => ?_)
      · skip
        refine ZV_aload_n (n := 70) dX12_slide_69 rfl rfl rfl ?_
        refine ZV_bipush (v := -12) (n := 72) dX12_slide_70 rfl rfl ?_
        refine call_X12_211 (c_fails hR (-12) 1 (by decide) rfl) rfl dX12_slide_72 rfl (rf_sh hR :).1 (Nat.le_of_ble_eq_true rfl) (Nat.le_of_ble_eq_true rfl) rfl (fun r9 σ9 hp9 => ?_)
        obtain ⟨rfl, hR⟩ := hp9
        refine ZV_iret dX12_slide_75 rfl ?_
        exact zleaf (v := sFl T 1 (-12) (-12)) (by simp [sp_slide, h13, h29, h51, nI_clamp hr2]) rfl hR
      · skip
        refine ZV_iload_n (n := 55) dX12_slide_54 rfl rfl rfl ?_
        refine ZV_iload (n := 57) dX12_slide_55 rfl rfl ?_
        refine ZV_aload_n (n := 58) dX12_slide_57 rfl rfl rfl ?_
        refine ZV_getR (n := 61) dX12_slide_58 fl_X12_93 rfl rfl rfl (rf_sh hR :).1 ?_
        refine ZV_iload_n (n := 62) dX12_slide_61 rfl rfl rfl ?_
        refine ZV_ialdv (n := 63) dX12_slide_62 rfl (ra_rackSize (rf_sh hR :) :) (rk_rackSize (rf_sh hR :) :) rfl (by omega) (rf_rackSize hR _ (by omega)) ?_
        refine call_X12_321 (c_areThere _ _ _ (by omega)) rfl dX12_slide_63 (Nat.le_of_ble_eq_true rfl) (Nat.le_of_ble_eq_true rfl) rfl (fun r9 σ9 hp9 => ?_)
        obtain ⟨rfl, rfl⟩ := hp9
        refine ZV_if_neB (tgt := 76) (n := 69) dX12_slide_66 (by decide) rfl (fun h66 => ?_) (fun h66 => ?_)
        · skip
          obtain ⟨i, n, hin, hix, hnx, rfl, rfl⟩ := thB_t h51
          obtain ⟨j, n2, hjn, hjx, hnx2, rfl, hnn⟩ := thB_t h66
          obtain rfl : n = n2 := (nI_eq hnx hnx2).mp hnn
          rw [show sp_slide T (nI r) (nI i) (nI j) (nI n) = sOk (h_rr T (va_u2 (g_rr T) r (cpF (g_rr T r) (g_rr T r) i j n))) (nI n) from by rw [sp_slide, nI_clamp hr2, if_neg (by rw [h13]; decide), if_neg (by rw [h29]; decide), if_pos ⟨h51, h66⟩, nI_clamp hix, nI_clamp hjx, nI_clamp hnx]]
          refine ZV_iconst (v := nI 0) (n := 77) dX12_slide_76 rfl rfl ?_
          refine ZV_istore_5 (n := 79) dX12_slide_77 rfl (Nat.le_of_ble_eq_true rfl) rfl ?_
          have loop2 : ∀ (n9 : Nat) (q : Nat) (τ : ZS), n - q < n9 → q ≤ n → rR x τ (h_rr T (va_u2 (g_rr T) r (cpF (g_rr T r) (g_rr T r) i j q))) → (∀ m, m < n → zi τ (x + 30) m = oI (g_rr T r (i + m))) → ZV M_X12_slide (fun y0 τ0 => y0 = some (Ai (sOk (h_rr T (va_u2 (g_rr T) r (cpF (g_rr T r) (g_rr T r) i j n))) (nI n)).1) ∧ rR x τ0 (sOk (h_rr T (va_u2 (g_rr T) r (cpF (g_rr T r) (g_rr T r) i j n))) (nI n)).2) 116 [some (Ar (some x)), some (Ai (nI r)), some (Ai (nI i)), some (Ai (nI j)), some (Ai (nI n)), some (Ai (nI q))] [] τ (zmC M_X12_slide) (zmS M_X12_slide) := by
            intro n9
            induction n9 with
            | zero => intro q τ hm; exact absurd hm (Nat.not_lt_zero _)
            | succ n9 ih =>
              intro q τ hm hq hR8 hsl
              refine ZV_iload (n := 118) dX12_slide_116 rfl rfl ?_
              refine ZV_iload (n := 120) dX12_slide_118 rfl rfl ?_
              refine ZV_icmp_geN (tgt := 150) (n := 123) dX12_slide_120 (by decide) rfl (by omega) (by omega) (fun h120 => ?_) (fun h120 => ?_)
              · skip
                refine ZV_iload (n := 152) dX12_slide_150 rfl rfl ?_
                refine ZV_iret dX12_slide_152 rfl ?_
                obtain rfl : q = n := by omega
                exact ⟨rfl, rR_s0 hR8 hsu⟩
              · skip
                refine ZV_aload_n (n := 124) dX12_slide_123 rfl rfl rfl ?_
                refine ZV_getR (n := 127) dX12_slide_124 fl_X12_96 rfl rfl rfl (rf_sh hR8 :).1 ?_
                refine ZV_bipush (v := nI 20) (n := 129) dX12_slide_127 rfl rfl ?_
                refine ZV_iload_n (n := 130) dX12_slide_129 rfl rfl rfl ?_
                refine ZV_imulN (n := 131) dX12_slide_130 rfl ?_
                refine ZV_iload_n (n := 132) dX12_slide_131 rfl rfl rfl ?_
                refine ZV_iaddN (n := 133) dX12_slide_132 rfl ?_
                refine ZV_iload (n := 135) dX12_slide_133 rfl rfl ?_
                refine ZV_iaddN (n := 136) dX12_slide_135 rfl ?_
                refine ZV_aload_n (n := 137) dX12_slide_136 rfl rfl rfl ?_
                refine ZV_getR (n := 140) dX12_slide_137 fl_X12_99 rfl rfl rfl (rf_sh hR8 :).1 ?_
                refine ZV_iload (n := 142) dX12_slide_140 rfl rfl ?_
                refine ZV_ialdv (n := 143) dX12_slide_142 rfl (ra_slid (rf_sh hR8 :) :) (rk_slid (rf_sh hR8 :) :) rfl (by omega) (hsl q (by omega)) ?_
                refine ZV_iast (n := 144) dX12_slide_143 rfl (ra_rackRow (rf_sh hR8 :) :) (rk_rackRow (rf_sh hR8 :) :) (congrArg nI (Nat.add_assoc (20 * r) j q)) (by omega) ?_
                have hsl2 : ∀ m, m < n → zi (qi τ (x + 29) (20 * r + (j + q)) (oI (g_rr T r (i + q)))) (x + 30) m = oI (g_rr T r (i + m)) := fun m hm9 => by rw [zi_qi, if_neg (by omega)]; exact hsl m hm9
                have hR9 := rR_rackRow (i := r) (j := j + q) hR8 (by omega) (by omega) (g_rr T r (i + q))
                rw [hh_rr, show g_rr (h_rr T (va_u2 (g_rr T) r (cpF (g_rr T r) (g_rr T r) i j q))) = va_u2 (g_rr T) r (cpF (g_rr T r) (g_rr T r) i j q) from rfl, u2_u2, cpF_up] at hR9
                clear hsl hR8
                have hR8 := hR9
                have hsl := hsl2
                clear hR9 hsl2
                generalize qi τ _ _ _ = τ2 at hR8 hsl ⊢
                refine ZV_iincN_5 (v := 1) (n := 147) dX12_slide_144 rfl rfl (Nat.le_of_ble_eq_true rfl) rfl ?_
                refine ZV_goto (tgt := 116) dX12_slide_147 (by decide) ?_
                exact ih (q + 1) _ (by omega) (by omega) hR8 hsl
          have loop1 : ∀ (n9 : Nat) (q : Nat) (τ : ZS), n - q < n9 → q ≤ n → rR x τ T → (∀ m, m < q → zi τ (x + 30) m = oI (g_rr T r (i + m))) → ZV M_X12_slide (fun y0 τ0 => y0 = some (Ai (sOk (h_rr T (va_u2 (g_rr T) r (cpF (g_rr T r) (g_rr T r) i j n))) (nI n)).1) ∧ rR x τ0 (sOk (h_rr T (va_u2 (g_rr T) r (cpF (g_rr T r) (g_rr T r) i j n))) (nI n)).2) 79 [some (Ar (some x)), some (Ai (nI r)), some (Ai (nI i)), some (Ai (nI j)), some (Ai (nI n)), some (Ai (nI q))] [] τ (zmC M_X12_slide) (zmS M_X12_slide) := by
            intro n9
            induction n9 with
            | zero => intro q τ hm; exact absurd hm (Nat.not_lt_zero _)
            | succ n9 ih =>
              intro q τ hm hq hR9 hsl
              refine ZV_iload (n := 81) dX12_slide_79 rfl rfl ?_
              refine ZV_iload (n := 83) dX12_slide_81 rfl rfl ?_
              refine ZV_icmp_geN (tgt := 113) (n := 86) dX12_slide_83 (by decide) rfl (by omega) (by omega) (fun h83 => ?_) (fun h83 => ?_)
              · skip
                refine ZV_iconst (v := nI 0) (n := 114) dX12_slide_113 rfl rfl ?_
                refine ZV_istore_5 (n := 116) dX12_slide_114 rfl (Nat.le_of_ble_eq_true rfl) rfl ?_
                obtain rfl : q = n := by omega
                exact loop2 _ 0 _ (Nat.lt_succ_self _) (by omega) (by rw [cpF_0, u2_self, hs_rr]; exact hR9) hsl
              · skip
                refine ZV_aload_n (n := 87) dX12_slide_86 rfl rfl rfl ?_
                refine ZV_getR (n := 90) dX12_slide_87 fl_X12_99 rfl rfl rfl (rf_sh hR9 :).1 ?_
                refine ZV_iload (n := 92) dX12_slide_90 rfl rfl ?_
                refine ZV_aload_n (n := 93) dX12_slide_92 rfl rfl rfl ?_
                refine ZV_getR (n := 96) dX12_slide_93 fl_X12_96 rfl rfl rfl (rf_sh hR9 :).1 ?_
                refine ZV_bipush (v := nI 20) (n := 98) dX12_slide_96 rfl rfl ?_
                refine ZV_iload_n (n := 99) dX12_slide_98 rfl rfl rfl ?_
                refine ZV_imulN (n := 100) dX12_slide_99 rfl ?_
                refine ZV_iload_n (n := 101) dX12_slide_100 rfl rfl rfl ?_
                refine ZV_iaddN (n := 102) dX12_slide_101 rfl ?_
                refine ZV_iload (n := 104) dX12_slide_102 rfl rfl ?_
                refine ZV_iaddN (n := 105) dX12_slide_104 rfl ?_
                refine ZV_ialdv (n := 106) dX12_slide_105 rfl (ra_rackRow (rf_sh hR9 :) :) (rk_rackRow (rf_sh hR9 :) :) (congrArg nI (Nat.add_assoc (20 * r) i q)) (by omega) (rf_rackRow hR9 r (i + q) (by omega) (by omega)) ?_
                refine ZV_iast (n := 107) dX12_slide_106 rfl (ra_slid (rf_sh hR9 :) :) (rk_slid (rf_sh hR9 :) :) rfl (by omega) ?_
                have hsl2 : ∀ m, m < q + 1 → zi (qi τ (x + 30) q (oI (g_rr T r (i + q)))) (x + 30) m = oI (g_rr T r (i + m)) := fun m hm9 => by
                  rw [zi_qi]
                  by_cases hmq : m = q
                  · rw [if_pos ⟨rfl, hmq⟩, hmq]
                  · rw [if_neg (fun z => hmq z.2)]; exact hsl m (by omega)
                have hR8 := rR_slid (j := q) hR9 (oI (g_rr T r (i + q)))
                clear hsl hR9
                have hR9 := hR8
                have hsl := hsl2
                clear hR8 hsl2
                generalize qi τ _ _ _ = τ2 at hR9 hsl ⊢
                refine ZV_iincN_5 (v := 1) (n := 110) dX12_slide_107 rfl rfl (Nat.le_of_ble_eq_true rfl) rfl ?_
                refine ZV_goto (tgt := 79) dX12_slide_110 (by decide) ?_
                exact ih (q + 1) _ (by omega) (by omega) hR9 hsl
          exact loop1 _ 0 _ (Nat.lt_succ_self _) (by omega) hR (fun m hm9 => absurd hm9 (by omega))
        · skip
          refine ZV_aload_n (n := 70) dX12_slide_69 rfl rfl rfl ?_
          refine ZV_bipush (v := -12) (n := 72) dX12_slide_70 rfl rfl ?_
          refine call_X12_211 (c_fails hR (-12) 1 (by decide) rfl) rfl dX12_slide_72 rfl (rf_sh hR :).1 (Nat.le_of_ble_eq_true rfl) (Nat.le_of_ble_eq_true rfl) rfl (fun r9 σ9 hp9 => ?_)
          obtain ⟨rfl, hR⟩ := hp9
          refine ZV_iret dX12_slide_75 rfl ?_
          exact zleaf (v := sFl T 1 (-12) (-12)) (by simp [sp_slide, h13, h29, h51, h66, nI_clamp hr2]) rfl hR
    · skip
      refine ZV_aload_n (n := 33) dX12_slide_32 rfl rfl rfl ?_
      refine ZV_bipush (v := -11) (n := 35) dX12_slide_33 rfl rfl ?_
      refine call_X12_211 (c_fails hR (-11) 0 (by decide) rfl) rfl dX12_slide_35 rfl (rf_sh hR :).1 (Nat.le_of_ble_eq_true rfl) (Nat.le_of_ble_eq_true rfl) rfl (fun r9 σ9 hp9 => ?_)
      obtain ⟨rfl, hR⟩ := hp9
      refine ZV_iret dX12_slide_38 rfl ?_
      exact zleaf (v := sFl T 0 (-11) (-11)) (by simp [sp_slide, h13, h29, nI_clamp hr2]) rfl hR
  · skip
    refine ZV_aload_n (n := 17) dX12_slide_16 rfl rfl rfl ?_
    refine ZV_bipush (v := -2) (n := 19) dX12_slide_17 rfl rfl ?_
    refine call_X12_130 (c_no hR _) rfl dX12_slide_19 rfl (rf_sh hR :).1 (Nat.le_of_ble_eq_true rfl) (Nat.le_of_ble_eq_true rfl) rfl (fun r9 σ9 hp9 => ?_)
    obtain ⟨rfl, hR⟩ := hp9
    refine ZV_iret dX12_slide_22 rfl ?_
    exact zleaf (v := sNo T (-2)) (by simp [sp_slide, h13]) rfl hR
set_option maxHeartbeats 4000000 in
set_option maxRecDepth 100000 in
theorem c_copy {x : Nat} {σ : ZS} {T : TS} (hR : rR x σ T) (hI : tI T) (s i o j n : Int32) : ZC M_X12_copy [Ar (some x), Ai s, Ai i, Ai o, Ai j, Ai n] σ (fun y0 τ0 => y0 = some (Ai (sp_copy T s i o j n).1) ∧ rR x τ0 (sp_copy T s i o j n).2) := by
  have hsp : sp_copy T s i o j n = sp_copy (h_su T 0) s i o j n := rfl
  rw [hsp]
  clear hsp
  refine ZC_of (ls := [some (Ar (some x)), some (Ai s), some (Ai i), some (Ai o), some (Ai j), some (Ai n), none]) (by decide) (Nat.le_of_ble_eq_true rfl) rfl ?_
  refine ZV_aload_n (n := 1) dX12_copy_0 rfl rfl rfl ?_
  refine call_X12_144 (c_begin hR) rfl dX12_copy_1 rfl (rf_sh hR :).1 (Nat.le_of_ble_eq_true rfl) (Nat.le_of_ble_eq_true rfl) rfl (fun r9 σ9 hp9 => ?_)
  obtain ⟨rfl, hR⟩ := hp9
  have hI := tI_su hI 0
  have hsu : g_su (h_su T 0) = 0 := rfl
  generalize h_su T 0 = T at hR hI hsu ⊢
  refine ZV_iload_n (n := 5) dX12_copy_4 rfl rfl rfl ?_
  refine ZV_i2l (n := 6) dX12_copy_5 rfl ?_
  refine ZV_lconst (v := lN 0) (n := 7) dX12_copy_6 rfl rfl ?_
  refine ZV_ldc2 (v := lN 3) (n := 10) dX12_copy_7 wd_5_218 rfl ?_
  refine call_X12_137 (c_inC _ s (by decide)) rfl dX12_copy_10 (Nat.le_of_ble_eq_true rfl) (Nat.le_of_ble_eq_true rfl) rfl (fun r9 σ9 hp9 => ?_)
  obtain ⟨rfl, rfl⟩ := hp9
  refine ZV_if_eqB (tgt := 28) (n := 16) dX12_copy_13 (by decide) rfl (fun h13 => ?_) (fun h13 => ?_)
  · skip
    refine ZV_aload_n (n := 29) dX12_copy_28 rfl rfl rfl ?_
    refine ZV_bipush (v := -2) (n := 31) dX12_copy_29 rfl rfl ?_
    refine call_X12_130 (c_no hR _) rfl dX12_copy_31 rfl (rf_sh hR :).1 (Nat.le_of_ble_eq_true rfl) (Nat.le_of_ble_eq_true rfl) rfl (fun r9 σ9 hp9 => ?_)
    obtain ⟨rfl, hR⟩ := hp9
    refine ZV_iret dX12_copy_34 rfl ?_
    exact zleaf (v := sNo T (-2)) (by simp [sp_copy, h13]) rfl hR
  · skip
    refine ZV_iload_n (n := 17) dX12_copy_16 rfl rfl rfl ?_
    refine ZV_i2l (n := 18) dX12_copy_17 rfl ?_
    refine ZV_lconst (v := lN 0) (n := 19) dX12_copy_18 rfl rfl ?_
    refine ZV_ldc2 (v := lN 3) (n := 22) dX12_copy_19 wd_5_218 rfl ?_
    refine call_X12_137 (c_inC _ o (by decide)) rfl dX12_copy_22 (Nat.le_of_ble_eq_true rfl) (Nat.le_of_ble_eq_true rfl) rfl (fun r9 σ9 hp9 => ?_)
    obtain ⟨rfl, rfl⟩ := hp9
    refine ZV_if_neB (tgt := 35) (n := 28) dX12_copy_25 (by decide) rfl (fun h25 => ?_) (fun h25 => ?_)
    · skip
      obtain ⟨s, hs, hs2, rfl⟩ := inB_t h13
      obtain ⟨o, ho, ho2, rfl⟩ := inB_t h25
      have hss := ti_sk hI s (by omega)
      have hso := ti_sk hI o (by omega)
      refine ZV_aload_n (n := 36) dX12_copy_35 rfl rfl rfl ?_
      refine ZV_getR (n := 39) dX12_copy_36 fl_X12_102 rfl rfl rfl (rf_sh hR :).1 ?_
      refine ZV_iload_n (n := 40) dX12_copy_39 rfl rfl rfl ?_
      refine ZV_baldv (n := 41) dX12_copy_40 rfl (ra_hasShelf (rf_sh hR :) :) (rk_hasShelf (rf_sh hR :) :) rfl (by omega) (rf_hasShelf hR _ (by omega)) ?_
      refine ZV_if_eqB (tgt := 53) (n := 44) dX12_copy_41 (by decide) rfl (fun h41 => ?_) (fun h41 => ?_)
      · skip
        refine ZV_aload_n (n := 54) dX12_copy_53 rfl rfl rfl ?_
        refine ZV_bipush (v := -11) (n := 56) dX12_copy_54 rfl rfl ?_
        refine call_X12_211 (c_fails hR (-11) 0 (by decide) rfl) rfl dX12_copy_56 rfl (rf_sh hR :).1 (Nat.le_of_ble_eq_true rfl) (Nat.le_of_ble_eq_true rfl) rfl (fun r9 σ9 hp9 => ?_)
        obtain ⟨rfl, hR⟩ := hp9
        refine ZV_iret dX12_copy_59 rfl ?_
        exact zleaf (v := sFl T 0 (-11) (-11)) (by simp [sp_copy, h13, h25, h41, nI_clamp hs2, nI_clamp ho2]) rfl hR
      · skip
        refine ZV_aload_n (n := 45) dX12_copy_44 rfl rfl rfl ?_
        refine ZV_getR (n := 48) dX12_copy_45 fl_X12_102 rfl rfl rfl (rf_sh hR :).1 ?_
        refine ZV_iload_n (n := 49) dX12_copy_48 rfl rfl rfl ?_
        refine ZV_baldv (n := 50) dX12_copy_49 rfl (ra_hasShelf (rf_sh hR :) :) (rk_hasShelf (rf_sh hR :) :) rfl (by omega) (rf_hasShelf hR _ (by omega)) ?_
        refine ZV_if_neB (tgt := 60) (n := 53) dX12_copy_50 (by decide) rfl (fun h50 => ?_) (fun h50 => ?_)
        · skip
          refine ZV_aload_n (n := 61) dX12_copy_60 rfl rfl rfl ?_
          refine ZV_getR (n := 64) dX12_copy_61 fl_X12_105 rfl rfl rfl (rf_sh hR :).1 ?_
          refine ZV_iload_n (n := 65) dX12_copy_64 rfl rfl rfl ?_
          refine ZV_ialdv (n := 66) dX12_copy_65 rfl (ra_shelfKind (rf_sh hR :) :) (rk_shelfKind (rf_sh hR :) :) rfl (by omega) (rf_shelfKind hR _ (by omega)) ?_
          refine ZV_aload_n (n := 67) dX12_copy_66 rfl rfl rfl ?_
          refine ZV_getR (n := 70) dX12_copy_67 fl_X12_105 rfl rfl rfl (rf_sh hR :).1 ?_
          refine ZV_iload_n (n := 71) dX12_copy_70 rfl rfl rfl ?_
          refine ZV_ialdv (n := 72) dX12_copy_71 rfl (ra_shelfKind (rf_sh hR :) :) (rk_shelfKind (rf_sh hR :) :) rfl (by omega) (rf_shelfKind hR _ (by omega)) ?_
          refine ZV_icmp_eqN (tgt := 82) (n := 75) dX12_copy_72 (by decide) rfl (by omega) (by omega) (fun h72 => ?_) (fun h72 => ?_)
          · skip
            refine ZV_iload_n (n := 83) dX12_copy_82 rfl rfl rfl ?_
            refine ZV_iload (n := 85) dX12_copy_83 rfl rfl ?_
            refine ZV_aload_n (n := 86) dX12_copy_85 rfl rfl rfl ?_
            refine ZV_getR (n := 89) dX12_copy_86 fl_X12_108 rfl rfl rfl (rf_sh hR :).1 ?_
            refine ZV_iload_n (n := 90) dX12_copy_89 rfl rfl rfl ?_
            refine ZV_ialdv (n := 91) dX12_copy_90 rfl (ra_shelfSize (rf_sh hR :) :) (rk_shelfSize (rf_sh hR :) :) rfl (by omega) (rf_shelfSize hR _ (by omega)) ?_
            refine call_X12_321 (c_areThere _ _ _ (by omega)) rfl dX12_copy_91 (Nat.le_of_ble_eq_true rfl) (Nat.le_of_ble_eq_true rfl) rfl (fun r9 σ9 hp9 => ?_)
            obtain ⟨rfl, rfl⟩ := hp9
            refine ZV_if_eqB (tgt := 113) (n := 97) dX12_copy_94 (by decide) rfl (fun h94 => ?_) (fun h94 => ?_)
            · skip
              refine ZV_aload_n (n := 114) dX12_copy_113 rfl rfl rfl ?_
              refine ZV_bipush (v := -12) (n := 116) dX12_copy_114 rfl rfl ?_
              refine call_X12_211 (c_fails hR (-12) 1 (by decide) rfl) rfl dX12_copy_116 rfl (rf_sh hR :).1 (Nat.le_of_ble_eq_true rfl) (Nat.le_of_ble_eq_true rfl) rfl (fun r9 σ9 hp9 => ?_)
              obtain ⟨rfl, hR⟩ := hp9
              refine ZV_iret dX12_copy_119 rfl ?_
              exact zleaf (v := sFl T 1 (-12) (-12)) (by simp [sp_copy, h13, h25, h41, h50, h72, h94, nI_clamp hs2, nI_clamp ho2]) rfl hR
            · skip
              refine ZV_iload (n := 99) dX12_copy_97 rfl rfl ?_
              refine ZV_iload (n := 101) dX12_copy_99 rfl rfl ?_
              refine ZV_aload_n (n := 102) dX12_copy_101 rfl rfl rfl ?_
              refine ZV_getR (n := 105) dX12_copy_102 fl_X12_108 rfl rfl rfl (rf_sh hR :).1 ?_
              refine ZV_iload_n (n := 106) dX12_copy_105 rfl rfl rfl ?_
              refine ZV_ialdv (n := 107) dX12_copy_106 rfl (ra_shelfSize (rf_sh hR :) :) (rk_shelfSize (rf_sh hR :) :) rfl (by omega) (rf_shelfSize hR _ (by omega)) ?_
              refine call_X12_321 (c_areThere _ _ _ (by omega)) rfl dX12_copy_107 (Nat.le_of_ble_eq_true rfl) (Nat.le_of_ble_eq_true rfl) rfl (fun r9 σ9 hp9 => ?_)
              obtain ⟨rfl, rfl⟩ := hp9
              refine ZV_if_neB (tgt := 120) (n := 113) dX12_copy_110 (by decide) rfl (fun h110 => ?_) (fun h110 => ?_)
              · skip
                obtain ⟨i, n, hin, hix, hnx, rfl, rfl⟩ := thB_t h94
                obtain ⟨j, n2, hjn, hjx, hnx2, rfl, hnn⟩ := thB_t h110
                obtain rfl : n = n2 := (nI_eq hnx hnx2).mp hnn
                rw [show sp_copy T (nI s) (nI i) (nI o) (nI j) (nI n) = sOk (h_sr T (va_u2 (g_sr T) o (cpF (g_sr T o) (g_sr T s) i j n))) (nI n) from by rw [sp_copy, nI_clamp hs2, nI_clamp ho2, if_pos ⟨h13, h25⟩, if_pos ⟨h41, h50⟩, if_pos h72, if_pos ⟨h94, h110⟩, nI_clamp hix, nI_clamp hjx, nI_clamp hnx]]
                refine ZV_iconst (v := nI 0) (n := 121) dX12_copy_120 rfl rfl ?_
                refine ZV_istore_6 (n := 123) dX12_copy_121 rfl (Nat.le_of_ble_eq_true rfl) rfl ?_
                have loop2 : ∀ (n9 : Nat) (q : Nat) (τ : ZS), n - q < n9 → q ≤ n → rR x τ (h_sr T (va_u2 (g_sr T) o (cpF (g_sr T o) (g_sr T s) i j q))) → (∀ m, m < n → zi τ (x + 35) m = g_sr T s (i + m)) → ZV M_X12_copy (fun y0 τ0 => y0 = some (Ai (sOk (h_sr T (va_u2 (g_sr T) o (cpF (g_sr T o) (g_sr T s) i j n))) (nI n)).1) ∧ rR x τ0 (sOk (h_sr T (va_u2 (g_sr T) o (cpF (g_sr T o) (g_sr T s) i j n))) (nI n)).2) 160 [some (Ar (some x)), some (Ai (nI s)), some (Ai (nI i)), some (Ai (nI o)), some (Ai (nI j)), some (Ai (nI n)), some (Ai (nI q))] [] τ (zmC M_X12_copy) (zmS M_X12_copy) := by
                  intro n9
                  induction n9 with
                  | zero => intro q τ hm; exact absurd hm (Nat.not_lt_zero _)
                  | succ n9 ih =>
                    intro q τ hm hq hR8 hsl
                    refine ZV_iload (n := 162) dX12_copy_160 rfl rfl ?_
                    refine ZV_iload (n := 164) dX12_copy_162 rfl rfl ?_
                    refine ZV_icmp_geN (tgt := 195) (n := 167) dX12_copy_164 (by decide) rfl (by omega) (by omega) (fun h164 => ?_) (fun h164 => ?_)
                    · skip
                      refine ZV_iload (n := 197) dX12_copy_195 rfl rfl ?_
                      refine ZV_iret dX12_copy_197 rfl ?_
                      obtain rfl : q = n := by omega
                      exact ⟨rfl, rR_s0 hR8 hsu⟩
                    · skip
                      refine ZV_aload_n (n := 168) dX12_copy_167 rfl rfl rfl ?_
                      refine ZV_getR (n := 171) dX12_copy_168 fl_X12_111 rfl rfl rfl (rf_sh hR8 :).1 ?_
                      refine ZV_bipush (v := nI 60) (n := 173) dX12_copy_171 rfl rfl ?_
                      refine ZV_iload_n (n := 174) dX12_copy_173 rfl rfl rfl ?_
                      refine ZV_imulN (n := 175) dX12_copy_174 rfl ?_
                      refine ZV_iload (n := 177) dX12_copy_175 rfl rfl ?_
                      refine ZV_iaddN (n := 178) dX12_copy_177 rfl ?_
                      refine ZV_iload (n := 180) dX12_copy_178 rfl rfl ?_
                      refine ZV_iaddN (n := 181) dX12_copy_180 rfl ?_
                      refine ZV_aload_n (n := 182) dX12_copy_181 rfl rfl rfl ?_
                      refine ZV_getR (n := 185) dX12_copy_182 fl_X12_114 rfl rfl rfl (rf_sh hR8 :).1 ?_
                      refine ZV_iload (n := 187) dX12_copy_185 rfl rfl ?_
                      refine ZV_ialdv (n := 188) dX12_copy_187 rfl (ra_copied (rf_sh hR8 :) :) (rk_copied (rf_sh hR8 :) :) rfl (by omega) (hsl q (by omega)) ?_
                      refine ZV_iast (n := 189) dX12_copy_188 rfl (ra_shelfRow (rf_sh hR8 :) :) (rk_shelfRow (rf_sh hR8 :) :) (congrArg nI (Nat.add_assoc (60 * o) j q)) (by omega) ?_
                      have hsl2 : ∀ m, m < n → zi (qi τ (x + 34) (60 * o + (j + q)) (g_sr T s (i + q))) (x + 35) m = g_sr T s (i + m) := fun m hm9 => by rw [zi_qi, if_neg (by omega)]; exact hsl m hm9
                      have hR9 := rR_shelfRow (i := o) (j := j + q) hR8 (by omega) (by omega) (g_sr T s (i + q))
                      rw [hh_sr, show g_sr (h_sr T (va_u2 (g_sr T) o (cpF (g_sr T o) (g_sr T s) i j q))) = va_u2 (g_sr T) o (cpF (g_sr T o) (g_sr T s) i j q) from rfl, u2_u2, cpF_up] at hR9
                      clear hsl hR8
                      have hR8 := hR9
                      have hsl := hsl2
                      clear hR9 hsl2
                      generalize qi τ _ _ _ = τ2 at hR8 hsl ⊢
                      refine ZV_iincN_6 (v := 1) (n := 192) dX12_copy_189 rfl rfl (Nat.le_of_ble_eq_true rfl) rfl ?_
                      refine ZV_goto (tgt := 160) dX12_copy_192 (by decide) ?_
                      exact ih (q + 1) _ (by omega) (by omega) hR8 hsl
                have loop1 : ∀ (n9 : Nat) (q : Nat) (τ : ZS), n - q < n9 → q ≤ n → rR x τ T → (∀ m, m < q → zi τ (x + 35) m = g_sr T s (i + m)) → ZV M_X12_copy (fun y0 τ0 => y0 = some (Ai (sOk (h_sr T (va_u2 (g_sr T) o (cpF (g_sr T o) (g_sr T s) i j n))) (nI n)).1) ∧ rR x τ0 (sOk (h_sr T (va_u2 (g_sr T) o (cpF (g_sr T o) (g_sr T s) i j n))) (nI n)).2) 123 [some (Ar (some x)), some (Ai (nI s)), some (Ai (nI i)), some (Ai (nI o)), some (Ai (nI j)), some (Ai (nI n)), some (Ai (nI q))] [] τ (zmC M_X12_copy) (zmS M_X12_copy) := by
                  intro n9
                  induction n9 with
                  | zero => intro q τ hm; exact absurd hm (Nat.not_lt_zero _)
                  | succ n9 ih =>
                    intro q τ hm hq hR9 hsl
                    refine ZV_iload (n := 125) dX12_copy_123 rfl rfl ?_
                    refine ZV_iload (n := 127) dX12_copy_125 rfl rfl ?_
                    refine ZV_icmp_geN (tgt := 157) (n := 130) dX12_copy_127 (by decide) rfl (by omega) (by omega) (fun h127 => ?_) (fun h127 => ?_)
                    · skip
                      refine ZV_iconst (v := nI 0) (n := 158) dX12_copy_157 rfl rfl ?_
                      refine ZV_istore_6 (n := 160) dX12_copy_158 rfl (Nat.le_of_ble_eq_true rfl) rfl ?_
                      obtain rfl : q = n := by omega
                      exact loop2 _ 0 _ (Nat.lt_succ_self _) (by omega) (by rw [cpF_0, u2_self, hs_sr]; exact hR9) hsl
                    · skip
                      refine ZV_aload_n (n := 131) dX12_copy_130 rfl rfl rfl ?_
                      refine ZV_getR (n := 134) dX12_copy_131 fl_X12_114 rfl rfl rfl (rf_sh hR9 :).1 ?_
                      refine ZV_iload (n := 136) dX12_copy_134 rfl rfl ?_
                      refine ZV_aload_n (n := 137) dX12_copy_136 rfl rfl rfl ?_
                      refine ZV_getR (n := 140) dX12_copy_137 fl_X12_111 rfl rfl rfl (rf_sh hR9 :).1 ?_
                      refine ZV_bipush (v := nI 60) (n := 142) dX12_copy_140 rfl rfl ?_
                      refine ZV_iload_n (n := 143) dX12_copy_142 rfl rfl rfl ?_
                      refine ZV_imulN (n := 144) dX12_copy_143 rfl ?_
                      refine ZV_iload_n (n := 145) dX12_copy_144 rfl rfl rfl ?_
                      refine ZV_iaddN (n := 146) dX12_copy_145 rfl ?_
                      refine ZV_iload (n := 148) dX12_copy_146 rfl rfl ?_
                      refine ZV_iaddN (n := 149) dX12_copy_148 rfl ?_
                      refine ZV_ialdv (n := 150) dX12_copy_149 rfl (ra_shelfRow (rf_sh hR9 :) :) (rk_shelfRow (rf_sh hR9 :) :) (congrArg nI (Nat.add_assoc (60 * s) i q)) (by omega) (rf_shelfRow hR9 s (i + q) (by omega) (by omega)) ?_
                      refine ZV_iast (n := 151) dX12_copy_150 rfl (ra_copied (rf_sh hR9 :) :) (rk_copied (rf_sh hR9 :) :) rfl (by omega) ?_
                      have hsl2 : ∀ m, m < q + 1 → zi (qi τ (x + 35) q (g_sr T s (i + q))) (x + 35) m = g_sr T s (i + m) := fun m hm9 => by
                        rw [zi_qi]
                        by_cases hmq : m = q
                        · rw [if_pos ⟨rfl, hmq⟩, hmq]
                        · rw [if_neg (fun z => hmq z.2)]; exact hsl m (by omega)
                      have hR8 := rR_copied (j := q) hR9 (g_sr T s (i + q))
                      clear hsl hR9
                      have hR9 := hR8
                      have hsl := hsl2
                      clear hR8 hsl2
                      generalize qi τ _ _ _ = τ2 at hR9 hsl ⊢
                      refine ZV_iincN_6 (v := 1) (n := 154) dX12_copy_151 rfl rfl (Nat.le_of_ble_eq_true rfl) rfl ?_
                      refine ZV_goto (tgt := 123) dX12_copy_154 (by decide) ?_
                      exact ih (q + 1) _ (by omega) (by omega) hR9 hsl
                exact loop1 _ 0 _ (Nat.lt_succ_self _) (by omega) hR (fun m hm9 => absurd hm9 (by omega))
              · skip
                refine ZV_aload_n (n := 114) dX12_copy_113 rfl rfl rfl ?_
                refine ZV_bipush (v := -12) (n := 116) dX12_copy_114 rfl rfl ?_
                refine call_X12_211 (c_fails hR (-12) 1 (by decide) rfl) rfl dX12_copy_116 rfl (rf_sh hR :).1 (Nat.le_of_ble_eq_true rfl) (Nat.le_of_ble_eq_true rfl) rfl (fun r9 σ9 hp9 => ?_)
                obtain ⟨rfl, hR⟩ := hp9
                refine ZV_iret dX12_copy_119 rfl ?_
                exact zleaf (v := sFl T 1 (-12) (-12)) (by simp [sp_copy, h13, h25, h41, h50, h72, h94, h110, nI_clamp hs2, nI_clamp ho2]) rfl hR
          · skip
            refine ZV_aload_n (n := 76) dX12_copy_75 rfl rfl rfl ?_
            refine ZV_bipush (v := -13) (n := 78) dX12_copy_76 rfl rfl ?_
            refine call_X12_211 (c_fails hR (-13) 2 (by decide) rfl) rfl dX12_copy_78 rfl (rf_sh hR :).1 (Nat.le_of_ble_eq_true rfl) (Nat.le_of_ble_eq_true rfl) rfl (fun r9 σ9 hp9 => ?_)
            obtain ⟨rfl, hR⟩ := hp9
            refine ZV_iret dX12_copy_81 rfl ?_
            exact zleaf (v := sFl T 2 (-13) (-13)) (by simp [sp_copy, h13, h25, h41, h50, h72, nI_clamp hs2, nI_clamp ho2]) rfl hR
        · skip
          refine ZV_aload_n (n := 54) dX12_copy_53 rfl rfl rfl ?_
          refine ZV_bipush (v := -11) (n := 56) dX12_copy_54 rfl rfl ?_
          refine call_X12_211 (c_fails hR (-11) 0 (by decide) rfl) rfl dX12_copy_56 rfl (rf_sh hR :).1 (Nat.le_of_ble_eq_true rfl) (Nat.le_of_ble_eq_true rfl) rfl (fun r9 σ9 hp9 => ?_)
          obtain ⟨rfl, hR⟩ := hp9
          refine ZV_iret dX12_copy_59 rfl ?_
          exact zleaf (v := sFl T 0 (-11) (-11)) (by simp [sp_copy, h13, h25, h41, h50, nI_clamp hs2, nI_clamp ho2]) rfl hR
    · skip
      refine ZV_aload_n (n := 29) dX12_copy_28 rfl rfl rfl ?_
      refine ZV_bipush (v := -2) (n := 31) dX12_copy_29 rfl rfl ?_
      refine call_X12_130 (c_no hR _) rfl dX12_copy_31 rfl (rf_sh hR :).1 (Nat.le_of_ble_eq_true rfl) (Nat.le_of_ble_eq_true rfl) rfl (fun r9 σ9 hp9 => ?_)
      obtain ⟨rfl, hR⟩ := hp9
      refine ZV_iret dX12_copy_34 rfl ?_
      exact zleaf (v := sNo T (-2)) (by simp [sp_copy, h13, h25]) rfl hR
