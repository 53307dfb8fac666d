theorem inB_lt0 {n : Int32} (m : Nat) (h : n < 0) : inB n m = false := by
  rw [Int32.lt_iff_toInt_lt, i32_0] at h
  exact decide_eq_false (by omega)
theorem inB_ge {n : Int32} {m : Nat} (hm : m < 2147483648) (h : ¬ n < nI m) : inB n m = false := by
  rw [Int32.lt_iff_toInt_lt, nI_toInt hm] at h
  exact decide_eq_false (by omega)
theorem inB_ok {n : Int32} {m : Nat} (hm : m < 2147483648) (h0 : ¬ n < 0) (h : n < nI m) : inB n m = true := by
  rw [Int32.lt_iff_toInt_lt, nI_toInt hm] at h
  rw [Int32.lt_iff_toInt_lt, i32_0] at h0
  exact decide_eq_true (by omega)
theorem inB_gt {n : Int32} {m : Nat} (hm : m < 2147483648) (h : nI m < n) : inB n (m + 1) = false := by
  rw [Int32.lt_iff_toInt_lt, nI_toInt hm] at h
  exact decide_eq_false (by omega)
theorem inB_okl {n : Int32} {m : Nat} (hm : m < 2147483648) (h0 : ¬ n < 0) (h : ¬ nI m < n) : inB n (m + 1) = true := by
  rw [Int32.lt_iff_toInt_lt, nI_toInt hm] at h
  rw [Int32.lt_iff_toInt_lt, i32_0] at h0
  exact decide_eq_true (by omega)
theorem nI_nn {n : Nat} (h : n < 2147483648) : ¬ nI n < 0 := by
  rw [Int32.lt_iff_toInt_lt, nI_toInt h, i32_0]
  omega
theorem pL_pL (σ : ZS) (f a : Nat) (v w : Int64) : pL (pL σ f a v) f a w = pL σ f a w := by
  unfold pL
  simp only [Prod.mk.injEq, true_and, and_true]
  funext g b
  unfold z2
  by_cases h : g = f ∧ b = a
  · rw [if_pos h, if_pos h]
  · rw [if_neg h, if_neg h, if_neg h]
theorem zL_pLs (σ : ZS) (f a : Nat) (v : Int64) : zL (pL σ f a v) f a = v := if_pos ⟨rfl, rfl⟩
set_option maxHeartbeats 4000000 in
set_option maxRecDepth 100000 in
theorem e_isValue (σ : ZS) (v : Int32) : ZC M_X11_isValue [Ai v] σ (fun y9 τ9 => y9 = some (Ai (bI (inB v 6))) ∧ τ9 = σ) := by
  refine ZC_of (ls := [some (Ai v)]) (by decide) (Nat.le_of_ble_eq_true rfl) rfl ?_
  refine ZV_iload_n (n := 1) dX11_isValue_0 rfl rfl rfl ?_
  refine ZV_if_lt (tgt := 13) (n := 4) dX11_isValue_1 (by decide) rfl (fun h1 => ?_) (fun h1 => ?_)
  · skip
    refine ZV_iconst (v := nI 0) (n := 14) dX11_isValue_13 rfl rfl ?_
    refine ZV_zret dX11_isValue_14 rfl (by first | exact Or.inl rfl | exact Or.inr rfl) ?_
    refine ⟨?_, rfl⟩
    unfold inB
    simp only [Int32.lt_iff_toInt_lt, Int32.le_iff_toInt_le, i32_0, show (nI 2).toInt = 2 from rfl, show (nI 4).toInt = 4 from rfl, show (nI 5).toInt = 5 from rfl] at *
    first | (rw [decide_eq_true (by omega)]; rfl) | (rw [decide_eq_false (by omega)]; rfl)
  · skip
    refine ZV_iload_n (n := 5) dX11_isValue_4 rfl rfl rfl ?_
    refine ZV_iconst (v := nI 5) (n := 6) dX11_isValue_5 rfl rfl ?_
    refine ZV_icmp_gt (tgt := 13) (n := 9) dX11_isValue_6 (by decide) rfl (fun h6 => ?_) (fun h6 => ?_)
    · skip
      refine ZV_iconst (v := nI 0) (n := 14) dX11_isValue_13 rfl rfl ?_
      refine ZV_zret dX11_isValue_14 rfl (by first | exact Or.inl rfl | exact Or.inr rfl) ?_
      refine ⟨?_, rfl⟩
      unfold inB
      simp only [Int32.lt_iff_toInt_lt, Int32.le_iff_toInt_le, i32_0, show (nI 2).toInt = 2 from rfl, show (nI 4).toInt = 4 from rfl, show (nI 5).toInt = 5 from rfl] at *
      first | (rw [decide_eq_true (by omega)]; rfl) | (rw [decide_eq_false (by omega)]; rfl)
    · skip
      refine ZV_iconst (v := nI 1) (n := 10) dX11_isValue_9 rfl rfl ?_
      refine ZV_goto (tgt := 14) dX11_isValue_10 (by decide) ?_
      refine ZV_zret dX11_isValue_14 rfl (by first | exact Or.inl rfl | exact Or.inr rfl) ?_
      refine ⟨?_, rfl⟩
      unfold inB
      simp only [Int32.lt_iff_toInt_lt, Int32.le_iff_toInt_le, i32_0, show (nI 2).toInt = 2 from rfl, show (nI 4).toInt = 4 from rfl, show (nI 5).toInt = 5 from rfl] at *
      first | (rw [decide_eq_true (by omega)]; rfl) | (rw [decide_eq_false (by omega)]; rfl)
set_option maxHeartbeats 4000000 in
set_option maxRecDepth 100000 in
theorem e_isDots (σ : ZS) (v : Int32) : ZC M_X11_isDots [Ai v] σ (fun y9 τ9 => y9 = some (Ai (bI (inB v 3))) ∧ τ9 = σ) := by
  refine ZC_of (ls := [some (Ai v)]) (by decide) (Nat.le_of_ble_eq_true rfl) rfl ?_
  refine ZV_iload_n (n := 1) dX11_isDots_0 rfl rfl rfl ?_
  refine ZV_if_lt (tgt := 13) (n := 4) dX11_isDots_1 (by decide) rfl (fun h1 => ?_) (fun h1 => ?_)
  · skip
    refine ZV_iconst (v := nI 0) (n := 14) dX11_isDots_13 rfl rfl ?_
    refine ZV_zret dX11_isDots_14 rfl (by first | exact Or.inl rfl | exact Or.inr rfl) ?_
    refine ⟨?_, rfl⟩
    unfold inB
    simp only [Int32.lt_iff_toInt_lt, Int32.le_iff_toInt_le, i32_0, show (nI 2).toInt = 2 from rfl, show (nI 4).toInt = 4 from rfl, show (nI 5).toInt = 5 from rfl] at *
    first | (rw [decide_eq_true (by omega)]; rfl) | (rw [decide_eq_false (by omega)]; rfl)
  · skip
    refine ZV_iload_n (n := 5) dX11_isDots_4 rfl rfl rfl ?_
    refine ZV_iconst (v := nI 2) (n := 6) dX11_isDots_5 rfl rfl ?_
    refine ZV_icmp_gt (tgt := 13) (n := 9) dX11_isDots_6 (by decide) rfl (fun h6 => ?_) (fun h6 => ?_)
    · skip
      refine ZV_iconst (v := nI 0) (n := 14) dX11_isDots_13 rfl rfl ?_
      refine ZV_zret dX11_isDots_14 rfl (by first | exact Or.inl rfl | exact Or.inr rfl) ?_
      refine ⟨?_, rfl⟩
      unfold inB
      simp only [Int32.lt_iff_toInt_lt, Int32.le_iff_toInt_le, i32_0, show (nI 2).toInt = 2 from rfl, show (nI 4).toInt = 4 from rfl, show (nI 5).toInt = 5 from rfl] at *
      first | (rw [decide_eq_true (by omega)]; rfl) | (rw [decide_eq_false (by omega)]; rfl)
    · skip
      refine ZV_iconst (v := nI 1) (n := 10) dX11_isDots_9 rfl rfl ?_
      refine ZV_goto (tgt := 14) dX11_isDots_10 (by decide) ?_
      refine ZV_zret dX11_isDots_14 rfl (by first | exact Or.inl rfl | exact Or.inr rfl) ?_
      refine ⟨?_, rfl⟩
      unfold inB
      simp only [Int32.lt_iff_toInt_lt, Int32.le_iff_toInt_le, i32_0, show (nI 2).toInt = 2 from rfl, show (nI 4).toInt = 4 from rfl, show (nI 5).toInt = 5 from rfl] at *
      first | (rw [decide_eq_true (by omega)]; rfl) | (rw [decide_eq_false (by omega)]; rfl)
set_option maxHeartbeats 4000000 in
set_option maxRecDepth 100000 in
theorem e_isRowNumber (σ : ZS) (v : Int32) : ZC M_X11_isRowNumber [Ai v] σ (fun y9 τ9 => y9 = some (Ai (bI (inB v 4))) ∧ τ9 = σ) := by
  refine ZC_of (ls := [some (Ai v)]) (by decide) (Nat.le_of_ble_eq_true rfl) rfl ?_
  refine ZV_iload_n (n := 1) dX11_isRowNumber_0 rfl rfl rfl ?_
  refine ZV_if_lt (tgt := 13) (n := 4) dX11_isRowNumber_1 (by decide) rfl (fun h1 => ?_) (fun h1 => ?_)
  · skip
    refine ZV_iconst (v := nI 0) (n := 14) dX11_isRowNumber_13 rfl rfl ?_
    refine ZV_zret dX11_isRowNumber_14 rfl (by first | exact Or.inl rfl | exact Or.inr rfl) ?_
    refine ⟨?_, rfl⟩
    unfold inB
    simp only [Int32.lt_iff_toInt_lt, Int32.le_iff_toInt_le, i32_0, show (nI 2).toInt = 2 from rfl, show (nI 4).toInt = 4 from rfl, show (nI 5).toInt = 5 from rfl] at *
    first | (rw [decide_eq_true (by omega)]; rfl) | (rw [decide_eq_false (by omega)]; rfl)
  · skip
    refine ZV_iload_n (n := 5) dX11_isRowNumber_4 rfl rfl rfl ?_
    refine ZV_iconst (v := nI 4) (n := 6) dX11_isRowNumber_5 rfl rfl ?_
    refine ZV_icmp_ge (tgt := 13) (n := 9) dX11_isRowNumber_6 (by decide) rfl (fun h6 => ?_) (fun h6 => ?_)
    · skip
      refine ZV_iconst (v := nI 0) (n := 14) dX11_isRowNumber_13 rfl rfl ?_
      refine ZV_zret dX11_isRowNumber_14 rfl (by first | exact Or.inl rfl | exact Or.inr rfl) ?_
      refine ⟨?_, rfl⟩
      unfold inB
      simp only [Int32.lt_iff_toInt_lt, Int32.le_iff_toInt_le, i32_0, show (nI 2).toInt = 2 from rfl, show (nI 4).toInt = 4 from rfl, show (nI 5).toInt = 5 from rfl] at *
      first | (rw [decide_eq_true (by omega)]; rfl) | (rw [decide_eq_false (by omega)]; rfl)
    · skip
      refine ZV_iconst (v := nI 1) (n := 10) dX11_isRowNumber_9 rfl rfl ?_
      refine ZV_goto (tgt := 14) dX11_isRowNumber_10 (by decide) ?_
      refine ZV_zret dX11_isRowNumber_14 rfl (by first | exact Or.inl rfl | exact Or.inr rfl) ?_
      refine ⟨?_, rfl⟩
      unfold inB
      simp only [Int32.lt_iff_toInt_lt, Int32.le_iff_toInt_le, i32_0, show (nI 2).toInt = 2 from rfl, show (nI 4).toInt = 4 from rfl, show (nI 5).toInt = 5 from rfl] at *
      first | (rw [decide_eq_true (by omega)]; rfl) | (rw [decide_eq_false (by omega)]; rfl)
set_option maxHeartbeats 4000000 in
set_option maxRecDepth 100000 in
theorem e_isTupletN (σ : ZS) (v : Int32) : ZC M_X11_isTupletN [Ai v] σ (fun y9 τ9 => y9 = some (Ai (bI (isN v))) ∧ τ9 = σ) := by
  refine ZC_of (ls := [some (Ai v)]) (by decide) (Nat.le_of_ble_eq_true rfl) rfl ?_
  refine ZV_iload_n (n := 1) dX11_isTupletN_0 rfl rfl rfl ?_
  refine ZV_iconst (v := nI 3) (n := 2) dX11_isTupletN_1 rfl rfl ?_
  refine ZV_icmp_eq (tgt := 22) (n := 5) dX11_isTupletN_2 (by decide) rfl (fun h2 => ?_) (fun h2 => ?_)
  · skip
    refine ZV_iconst (v := nI 1) (n := 23) dX11_isTupletN_22 rfl rfl ?_
    refine ZV_goto (tgt := 27) dX11_isTupletN_23 (by decide) ?_
    refine ZV_zret dX11_isTupletN_27 rfl (by first | exact Or.inl rfl | exact Or.inr rfl) ?_
    refine ⟨?_, rfl⟩
    unfold isN
    first | (rw [decide_eq_true (by simp [h2])]; rfl) | (rw [decide_eq_false (by simp [h2])]; rfl)
  · skip
    refine ZV_iload_n (n := 6) dX11_isTupletN_5 rfl rfl rfl ?_
    refine ZV_iconst (v := nI 5) (n := 7) dX11_isTupletN_6 rfl rfl ?_
    refine ZV_icmp_eq (tgt := 22) (n := 10) dX11_isTupletN_7 (by decide) rfl (fun h7 => ?_) (fun h7 => ?_)
    · skip
      refine ZV_iconst (v := nI 1) (n := 23) dX11_isTupletN_22 rfl rfl ?_
      refine ZV_goto (tgt := 27) dX11_isTupletN_23 (by decide) ?_
      refine ZV_zret dX11_isTupletN_27 rfl (by first | exact Or.inl rfl | exact Or.inr rfl) ?_
      refine ⟨?_, rfl⟩
      unfold isN
      first | (rw [decide_eq_true (by simp [h2, h7])]; rfl) | (rw [decide_eq_false (by simp [h2, h7])]; rfl)
    · skip
      refine ZV_iload_n (n := 11) dX11_isTupletN_10 rfl rfl rfl ?_
      refine ZV_bipush (v := nI 6) (n := 13) dX11_isTupletN_11 rfl rfl ?_
      refine ZV_icmp_eq (tgt := 22) (n := 16) dX11_isTupletN_13 (by decide) rfl (fun h13 => ?_) (fun h13 => ?_)
      · skip
        refine ZV_iconst (v := nI 1) (n := 23) dX11_isTupletN_22 rfl rfl ?_
        refine ZV_goto (tgt := 27) dX11_isTupletN_23 (by decide) ?_
        refine ZV_zret dX11_isTupletN_27 rfl (by first | exact Or.inl rfl | exact Or.inr rfl) ?_
        refine ⟨?_, rfl⟩
        unfold isN
        first | (rw [decide_eq_true (by simp [h2, h7, h13])]; rfl) | (rw [decide_eq_false (by simp [h2, h7, h13])]; rfl)
      · skip
        refine ZV_iload_n (n := 17) dX11_isTupletN_16 rfl rfl rfl ?_
        refine ZV_bipush (v := nI 7) (n := 19) dX11_isTupletN_17 rfl rfl ?_
        refine ZV_icmp_ne (tgt := 26) (n := 22) dX11_isTupletN_19 (by decide) rfl (fun h19 => ?_) (fun h19 => ?_)
        · skip
          refine ZV_iconst (v := nI 0) (n := 27) dX11_isTupletN_26 rfl rfl ?_
          refine ZV_zret dX11_isTupletN_27 rfl (by first | exact Or.inl rfl | exact Or.inr rfl) ?_
          refine ⟨?_, rfl⟩
          unfold isN
          first | (rw [decide_eq_true (by simp [h2, h7, h13, h19])]; rfl) | (rw [decide_eq_false (by simp [h2, h7, h13, h19])]; rfl)
        · skip
          refine ZV_iconst (v := nI 1) (n := 23) dX11_isTupletN_22 rfl rfl ?_
          refine ZV_goto (tgt := 27) dX11_isTupletN_23 (by decide) ?_
          refine ZV_zret dX11_isTupletN_27 rfl (by first | exact Or.inl rfl | exact Or.inr rfl) ?_
          refine ⟨?_, rfl⟩
          unfold isN
          first | (rw [decide_eq_true (by simp [h2, h7, h13, h19])]; rfl) | (rw [decide_eq_false (by simp [h2, h7, h13, h19])]; rfl)
set_option maxHeartbeats 4000000 in
set_option maxRecDepth 100000 in
theorem e_isPitch (σ : ZS) (v : Int64) : ZC M_X11_isPitch [Al v] σ (fun y9 τ9 => y9 = some (Ai (bI (decide (0 ≤ v.toInt ∧ v.toInt ≤ 127)))) ∧ τ9 = σ) := by
  refine ZC_of (ls := [some (Al v), none]) (by decide) (Nat.le_of_ble_eq_true rfl) rfl ?_
  refine ZV_lload_n (n := 1) dX11_isPitch_0 rfl rfl rfl ?_
  refine ZV_lconst (v := lN 0) (n := 2) dX11_isPitch_1 rfl rfl ?_
  refine ZV_lcmp_lt (tgt := 18) (pc1 := 3) (n := 6) dX11_isPitch_2 rfl dX11_isPitch_3 (by decide) rfl (fun h2 => ?_) (fun h2 => ?_)
  · skip
    refine ZV_iconst (v := nI 0) (n := 19) dX11_isPitch_18 rfl rfl ?_
    refine ZV_zret dX11_isPitch_19 rfl (by first | exact Or.inl rfl | exact Or.inr rfl) ?_
    refine ⟨?_, rfl⟩
    simp only [Int64.lt_iff_toInt_lt, show (lN 0).toInt = 0 from rfl, show (lN 127).toInt = 127 from rfl] at *
    first | (rw [decide_eq_true (by omega)]; rfl) | (rw [decide_eq_false (by omega)]; rfl)
  · skip
    refine ZV_lload_n (n := 7) dX11_isPitch_6 rfl rfl rfl ?_
    refine ZV_ldc2 (v := lN 127) (n := 10) dX11_isPitch_7 wd_1_235 rfl ?_
    refine ZV_lcmp_gt (tgt := 18) (pc1 := 11) (n := 14) dX11_isPitch_10 rfl dX11_isPitch_11 (by decide) rfl (fun h10 => ?_) (fun h10 => ?_)
    · skip
      refine ZV_iconst (v := nI 0) (n := 19) dX11_isPitch_18 rfl rfl ?_
      refine ZV_zret dX11_isPitch_19 rfl (by first | exact Or.inl rfl | exact Or.inr rfl) ?_
      refine ⟨?_, rfl⟩
      simp only [Int64.lt_iff_toInt_lt, show (lN 0).toInt = 0 from rfl, show (lN 127).toInt = 127 from rfl] at *
      first | (rw [decide_eq_true (by omega)]; rfl) | (rw [decide_eq_false (by omega)]; rfl)
    · skip
      refine ZV_iconst (v := nI 1) (n := 15) dX11_isPitch_14 rfl rfl ?_
      refine ZV_goto (tgt := 19) dX11_isPitch_15 (by decide) ?_
      refine ZV_zret dX11_isPitch_19 rfl (by first | exact Or.inl rfl | exact Or.inr rfl) ?_
      refine ⟨?_, rfl⟩
      simp only [Int64.lt_iff_toInt_lt, show (lN 0).toInt = 0 from rfl, show (lN 127).toInt = 127 from rfl] at *
      first | (rw [decide_eq_true (by omega)]; rfl) | (rw [decide_eq_false (by omega)]; rfl)
set_option maxHeartbeats 4000000 in
set_option maxRecDepth 100000 in
theorem e_isNoteKind (σ : ZS) (k : Nat) (hk : k < 2147483648) : ZC M_X11_isNoteKind [Ai (nI k)] σ (fun y9 τ9 => y9 = some (Ai (bI (decide (k < 3)))) ∧ τ9 = σ) := by
  refine ZC_of (ls := [some (Ai (nI k))]) (by decide) (Nat.le_of_ble_eq_true rfl) rfl ?_
  refine ZV_iload_n (n := 1) dX11_isNoteKind_0 rfl rfl rfl ?_
  refine ZV_if_eqN (tgt := 14) (n := 4) dX11_isNoteKind_1 (by decide) rfl (by omega) (fun h1 => ?_) (fun h1 => ?_)
  · skip
    refine ZV_iconst (v := nI 1) (n := 15) dX11_isNoteKind_14 rfl rfl ?_
    refine ZV_goto (tgt := 19) dX11_isNoteKind_15 (by decide) ?_
    refine ZV_zret dX11_isNoteKind_19 rfl (by first | exact Or.inl rfl | exact Or.inr rfl) ?_
    refine ⟨?_, rfl⟩
    first | (rw [decide_eq_true (by omega)]; rfl) | (rw [decide_eq_false (by omega)]; rfl)
  · skip
    refine ZV_iload_n (n := 5) dX11_isNoteKind_4 rfl rfl rfl ?_
    refine ZV_iconst (v := nI 1) (n := 6) dX11_isNoteKind_5 rfl rfl ?_
    refine ZV_icmp_eqN (tgt := 14) (n := 9) dX11_isNoteKind_6 (by decide) rfl (by omega) (by omega) (fun h6 => ?_) (fun h6 => ?_)
    · skip
      refine ZV_iconst (v := nI 1) (n := 15) dX11_isNoteKind_14 rfl rfl ?_
      refine ZV_goto (tgt := 19) dX11_isNoteKind_15 (by decide) ?_
      refine ZV_zret dX11_isNoteKind_19 rfl (by first | exact Or.inl rfl | exact Or.inr rfl) ?_
      refine ⟨?_, rfl⟩
      first | (rw [decide_eq_true (by omega)]; rfl) | (rw [decide_eq_false (by omega)]; rfl)
    · skip
      refine ZV_iload_n (n := 10) dX11_isNoteKind_9 rfl rfl rfl ?_
      refine ZV_iconst (v := nI 2) (n := 11) dX11_isNoteKind_10 rfl rfl ?_
      refine ZV_icmp_neN (tgt := 18) (n := 14) dX11_isNoteKind_11 (by decide) rfl (by omega) (by omega) (fun h11 => ?_) (fun h11 => ?_)
      · skip
        refine ZV_iconst (v := nI 0) (n := 19) dX11_isNoteKind_18 rfl rfl ?_
        refine ZV_zret dX11_isNoteKind_19 rfl (by first | exact Or.inl rfl | exact Or.inr rfl) ?_
        refine ⟨?_, rfl⟩
        first | (rw [decide_eq_true (by omega)]; rfl) | (rw [decide_eq_false (by omega)]; rfl)
      · skip
        refine ZV_iconst (v := nI 1) (n := 15) dX11_isNoteKind_14 rfl rfl ?_
        refine ZV_goto (tgt := 19) dX11_isNoteKind_15 (by decide) ?_
        refine ZV_zret dX11_isNoteKind_19 rfl (by first | exact Or.inl rfl | exact Or.inr rfl) ?_
        refine ⟨?_, rfl⟩
        first | (rw [decide_eq_true (by omega)]; rfl) | (rw [decide_eq_false (by omega)]; rfl)
set_option maxHeartbeats 4000000 in
set_option maxRecDepth 100000 in
theorem e_done {c B : Nat} {σ : ZS} {T : TS} {K : KS} (hG : cG c B σ T K) (a : Int32) : ZC M_X11_done [Ar (some c), Ai a] σ (fun r τ => r = some (Ai a) ∧ cG c B τ (h_su T 0) K) := by
  refine ZC_of (ls := [some (Ar (some c)), some (Ai a)]) (by decide) (Nat.le_of_ble_eq_true rfl) rfl ?_
  refine ZV_aload_n (n := 1) dX11_done_0 rfl rfl rfl ?_
  refine ZV_iconst (v := nI 0) (n := 2) dX11_done_1 rfl rfl ?_
  refine ZV_putI (n := 5) dX11_done_2 fl_X11_84 rfl (Or.inl rfl) rfl (fun h => absurd h (by decide)) rfl (cf_sh hG :).1 ?_
  refine ZV_gen (P := fun τ => cG c B τ _ _) (U_su hG _) (fun σ hG => ?_)
  refine ZV_iload_n (n := 6) dX11_done_5 rfl rfl rfl ?_
  refine ZV_iret dX11_done_6 rfl ?_
  exact ⟨rfl, hG⟩
set_option maxHeartbeats 4000000 in
set_option maxRecDepth 100000 in
theorem e_doneLong {c B : Nat} {σ : ZS} {T : TS} {K : KS} (hG : cG c B σ T K) (a : Int64) : ZC M_X11_doneLong [Ar (some c), Al a] σ (fun r τ => r = some (Al a) ∧ cG c B τ (h_su T 0) K) := by
  refine ZC_of (ls := [some (Ar (some c)), some (Al a), none]) (by decide) (Nat.le_of_ble_eq_true rfl) rfl ?_
  refine ZV_aload_n (n := 1) dX11_doneLong_0 rfl rfl rfl ?_
  refine ZV_iconst (v := nI 0) (n := 2) dX11_doneLong_1 rfl rfl ?_
  refine ZV_putI (n := 5) dX11_doneLong_2 fl_X11_84 rfl (Or.inl rfl) rfl (fun h => absurd h (by decide)) rfl (cf_sh hG :).1 ?_
  refine ZV_gen (P := fun τ => cG c B τ _ _) (U_su hG _) (fun σ hG => ?_)
  refine ZV_lload_n (n := 6) dX11_doneLong_5 rfl rfl rfl ?_
  refine ZV_lret dX11_doneLong_6 rfl ?_
  exact ⟨rfl, hG⟩
set_option maxHeartbeats 4000000 in
set_option maxRecDepth 100000 in
theorem e_refuseTelling {c B : Nat} {σ : ZS} {T : TS} {K : KS} (hG : cG c B σ T K) (q a : Int32) : ZC M_X11_refuseTelling [Ar (some c), Ai q, Ai a] σ (fun r τ => r = some (Ai a) ∧ cG c B τ (h_su T q) K) := by
  refine ZC_of (ls := [some (Ar (some c)), some (Ai q), some (Ai a)]) (by decide) (Nat.le_of_ble_eq_true rfl) rfl ?_
  refine ZV_aload_n (n := 1) dX11_refuseTelling_0 rfl rfl rfl ?_
  refine ZV_iload_n (n := 2) dX11_refuseTelling_1 rfl rfl rfl ?_
  refine ZV_putI (n := 5) dX11_refuseTelling_2 fl_X11_84 rfl (Or.inl rfl) rfl (fun h => absurd h (by decide)) rfl (cf_sh hG :).1 ?_
  refine ZV_gen (P := fun τ => cG c B τ _ _) (U_su hG _) (fun σ hG => ?_)
  refine ZV_iload_n (n := 6) dX11_refuseTelling_5 rfl rfl rfl ?_
  refine ZV_iret dX11_refuseTelling_6 rfl ?_
  exact ⟨rfl, hG⟩
set_option maxHeartbeats 4000000 in
set_option maxRecDepth 100000 in
theorem e_refuse {c B : Nat} {σ : ZS} {T : TS} {K : KS} (hG : cG c B σ T K) (q : Int32) : ZC M_X11_refuse [Ar (some c), Ai q] σ (fun r τ => r = some (Ai q) ∧ cG c B τ (h_su T q) K) := by
  refine ZC_of (ls := [some (Ar (some c)), some (Ai q)]) (by decide) (Nat.le_of_ble_eq_true rfl) rfl ?_
  refine ZV_aload_n (n := 1) dX11_refuse_0 rfl rfl rfl ?_
  refine ZV_iload_n (n := 2) dX11_refuse_1 rfl rfl rfl ?_
  refine ZV_iload_n (n := 3) dX11_refuse_2 rfl rfl rfl ?_
  refine call_X11_203 (e_refuseTelling hG _ _) rfl dX11_refuse_3 rfl (cf_sh hG :).1 (Nat.le_of_ble_eq_true rfl) (Nat.le_of_ble_eq_true rfl) rfl (fun r9 σ9 hp9 => ?_)
  obtain ⟨rfl, hG⟩ := hp9
  refine ZV_iret dX11_refuse_6 rfl ?_
  exact ⟨rfl, hG⟩
set_option maxHeartbeats 4000000 in
set_option maxRecDepth 100000 in
theorem e_failTelling {c B : Nat} {σ : ZS} {T : TS} {K : KS} (hG : cG c B σ T K) (q a : Int32) (i : Nat) (hi : i < 5) (hw : (-11 : Int32) - q = nI i) : ZC M_X11_failTelling [Ar (some c), Ai q, Ai a] σ (fun r τ => r = some (Ai a) ∧ cG c B τ (h_su (h_fa T (va_up (g_fa T) i (g_fa T i + 1))) q) K) := by
  refine ZC_of (ls := [some (Ar (some c)), some (Ai q), some (Ai a), none]) (by decide) (Nat.le_of_ble_eq_true rfl) rfl ?_
  refine ZV_bipush (v := -11) (n := 2) dX11_failTelling_0 rfl rfl ?_
  refine ZV_iload_n (n := 3) dX11_failTelling_2 rfl rfl rfl ?_
  refine ZV_isub (n := 4) dX11_failTelling_3 rfl ?_
  refine ZV_topi hw ?_
  refine ZV_istore_3 (n := 5) dX11_failTelling_4 rfl (Nat.le_of_ble_eq_true rfl) rfl ?_
  refine ZV_iload_n (n := 6) dX11_failTelling_5 rfl rfl rfl ?_
  refine ZV_if_lt (tgt := 24) (n := 9) dX11_failTelling_6 (by decide) rfl (fun h6 => ?_) (fun h6 => ?_)
  · skip
    exact absurd h6 (nI_nn (by omega))
  · skip
    refine ZV_iload_n (n := 10) dX11_failTelling_9 rfl rfl rfl ?_
    refine ZV_iconst (v := nI 5) (n := 11) dX11_failTelling_10 rfl rfl ?_
    refine ZV_icmp_geN (tgt := 24) (n := 14) dX11_failTelling_11 (by decide) rfl (by omega) (by omega) (fun h11 => ?_) (fun h11 => ?_)
    · skip
      exact absurd h11 (by omega)
    · skip
      refine ZV_aload_n (n := 15) dX11_failTelling_14 rfl rfl rfl ?_
      refine ZV_getRv (n := 18) dX11_failTelling_15 fl_X11_81 rfl rfl rfl (cf_sh hG :).1 (ca_failureCounts (cf_sh hG :)) ?_
      refine ZV_iload_n (n := 19) dX11_failTelling_18 rfl rfl rfl ?_
      refine ZV_dup2 (n := 20) dX11_failTelling_19 rfl rfl rfl ?_
      refine ZV_ialdv (j := i) (n := 21) dX11_failTelling_20 rfl rfl (ck_failureCounts (cf_sh hG :)) rfl (by omega) (cf_fa hG i (by omega)) ?_
      refine ZV_iconst (v := nI 1) (n := 22) dX11_failTelling_21 rfl rfl ?_
      refine ZV_iadd (n := 23) dX11_failTelling_22 rfl ?_
      refine ZV_iast (j := i) (n := 24) dX11_failTelling_23 rfl rfl (ck_failureCounts (cf_sh hG :)) rfl (by omega) ?_
      refine ZV_gen (P := fun τ => cG c B τ _ _) (U_fa hG _ _) (fun σ hG => ?_)
      refine ZV_aload_n (n := 25) dX11_failTelling_24 rfl rfl rfl ?_
      refine ZV_iload_n (n := 26) dX11_failTelling_25 rfl rfl rfl ?_
      refine ZV_iload_n (n := 27) dX11_failTelling_26 rfl rfl rfl ?_
      refine call_X11_203 (e_refuseTelling hG _ _) rfl dX11_failTelling_27 rfl (cf_sh hG :).1 (Nat.le_of_ble_eq_true rfl) (Nat.le_of_ble_eq_true rfl) rfl (fun r9 σ9 hp9 => ?_)
      obtain ⟨rfl, hG⟩ := hp9
      refine ZV_iret dX11_failTelling_30 rfl ?_
      exact ⟨rfl, hG⟩
set_option maxHeartbeats 4000000 in
set_option maxRecDepth 100000 in
theorem e_fail {c B : Nat} {σ : ZS} {T : TS} {K : KS} (hG : cG c B σ T K) (q : Int32) (i : Nat) (hi : i < 5) (hw : (-11 : Int32) - q = nI i) : ZC M_X11_fail [Ar (some c), Ai q] σ (fun r τ => r = some (Ai q) ∧ cG c B τ (h_su (h_fa T (va_up (g_fa T) i (g_fa T i + 1))) q) K) := by
  refine ZC_of (ls := [some (Ar (some c)), some (Ai q)]) (by decide) (Nat.le_of_ble_eq_true rfl) rfl ?_
  refine ZV_aload_n (n := 1) dX11_fail_0 rfl rfl rfl ?_
  refine ZV_iload_n (n := 2) dX11_fail_1 rfl rfl rfl ?_
  refine ZV_iload_n (n := 3) dX11_fail_2 rfl rfl rfl ?_
  refine call_X11_207 (e_failTelling hG q q i hi hw) rfl dX11_fail_3 rfl (cf_sh hG :).1 (Nat.le_of_ble_eq_true rfl) (Nat.le_of_ble_eq_true rfl) rfl (fun r9 σ9 hp9 => ?_)
  obtain ⟨rfl, hG⟩ := hp9
  refine ZV_iret dX11_fail_6 rfl ?_
  exact ⟨rfl, hG⟩
set_option maxHeartbeats 4000000 in
set_option maxRecDepth 100000 in
theorem e_eventOf {c B : Nat} {σ : ZS} {T : TS} {K : KS} (hG : cG c B σ T K) (n : Int32) : ZC M_X11_eventOf [Ar (some c), Ai n] σ (fun r τ => τ = σ ∧ ((evB T n = false ∧ r = some (Ar none)) ∨ ∃ j, j < g_ev T ∧ g_th T j = true ∧ n = nI j ∧ r = some (Ar (some (k_ea K j))))) := by
  have hbd := cf_bd hG
  refine ZC_of (ls := [some (Ar (some c)), some (Ai n)]) (by decide) (Nat.le_of_ble_eq_true rfl) rfl ?_
  refine ZV_iload_n (n := 1) dX11_eventOf_0 rfl rfl rfl ?_
  refine ZV_if_lt (tgt := 12) (n := 4) dX11_eventOf_1 (by decide) rfl (fun h1 => ?_) (fun h1 => ?_)
  · skip
    refine ZV_null (n := 13) dX11_eventOf_12 rfl ?_
    refine ZV_goto (tgt := 22) dX11_eventOf_13 (by decide) ?_
    refine ZV_aret dX11_eventOf_22 rfl ?_
    exact ⟨rfl, Or.inl ⟨by unfold evB; rw [inB_lt0 _ h1]; rfl, rfl⟩⟩
  · skip
    refine ZV_iload_n (n := 5) dX11_eventOf_4 rfl rfl rfl ?_
    refine ZV_aload_n (n := 6) dX11_eventOf_5 rfl rfl rfl ?_
    refine ZV_getIv (n := 9) dX11_eventOf_6 fl_X11_38 rfl rfl rfl (cf_sh hG :).1 (cf_ev hG :) ?_
    refine ZV_icmp_lt (tgt := 16) (n := 12) dX11_eventOf_9 (by decide) rfl (fun h9 => ?_) (fun h9 => ?_)
    · skip
      obtain ⟨j, hj, hj2, rfl⟩ := inB_t (inB_ok (by omega) h1 h9)
      refine ZV_aload_n (n := 17) dX11_eventOf_16 rfl rfl rfl ?_
      refine ZV_getRv (n := 20) dX11_eventOf_17 fl_X11_34 rfl rfl rfl (cf_sh hG :).1 (ca_events (cf_sh hG :)) ?_
      refine ZV_iload_n (n := 21) dX11_eventOf_20 rfl rfl rfl ?_
      rcases hb21 : g_th T j with _ | _
      · skip
        refine ZV_aaldv (c0 := 2) (w := none) (j := j) (n := 22) dX11_eventOf_21 rfl (by decide) rfl (ck_events (cf_sh hG :)) rfl (by omega) (Eq.trans (cf_ea hG j (by omega)) (if_neg (by rw [hb21]; exact Bool.false_ne_true))) ?_
        refine ZV_aret dX11_eventOf_22 rfl ?_
        exact ⟨rfl, Or.inl ⟨by unfold evB; rw [nI_clamp hj2, hb21, Bool.and_false], rfl⟩⟩
      · skip
        refine ZV_aaldv (c0 := 2) (w := some (k_ea K j)) (j := j) (n := 22) dX11_eventOf_21 rfl (by decide) rfl (ck_events (cf_sh hG :)) rfl (by omega) (Eq.trans (cf_ea hG j (by omega)) (if_pos hb21)) ?_
        refine ZV_aret dX11_eventOf_22 rfl ?_
        exact ⟨rfl, Or.inr ⟨j, hj, hb21, rfl, rfl⟩⟩
    · skip
      refine ZV_null (n := 13) dX11_eventOf_12 rfl ?_
      refine ZV_goto (tgt := 22) dX11_eventOf_13 (by decide) ?_
      refine ZV_aret dX11_eventOf_22 rfl ?_
      exact ⟨rfl, Or.inl ⟨by unfold evB; rw [inB_ge (by omega) h9]; rfl, rfl⟩⟩
set_option maxHeartbeats 4000000 in
set_option maxRecDepth 100000 in
theorem e_voiceOf {c B : Nat} {σ : ZS} {T : TS} {K : KS} (hG : cG c B σ T K) (n : Int32) : ZC M_X11_voiceOf [Ar (some c), Ai n] σ (fun r τ => τ = σ ∧ ((inB n (3 * g_np T) = false ∧ r = some (Ar none)) ∨ ∃ j, j < 3 * g_np T ∧ n = nI j ∧ r = some (Ar (some (k_va K j))))) := by
  have hbd := cf_bd hG
  refine ZC_of (ls := [some (Ar (some c)), some (Ai n)]) (by decide) (Nat.le_of_ble_eq_true rfl) rfl ?_
  refine ZV_iload_n (n := 1) dX11_voiceOf_0 rfl rfl rfl ?_
  refine ZV_if_lt (tgt := 14) (n := 4) dX11_voiceOf_1 (by decide) rfl (fun h1 => ?_) (fun h1 => ?_)
  · skip
    refine ZV_null (n := 15) dX11_voiceOf_14 rfl ?_
    refine ZV_goto (tgt := 24) dX11_voiceOf_15 (by decide) ?_
    refine ZV_aret dX11_voiceOf_24 rfl ?_
    exact ⟨rfl, Or.inl ⟨by rw [inB_lt0 _ h1], rfl⟩⟩
  · skip
    refine ZV_iload_n (n := 5) dX11_voiceOf_4 rfl rfl rfl ?_
    refine ZV_aload_n (n := 6) dX11_voiceOf_5 rfl rfl rfl ?_
    refine ZV_getIv (n := 9) dX11_voiceOf_6 fl_X11_15 rfl rfl rfl (cf_sh hG :).1 (cf_np hG :) ?_
    refine ZV_iconst (v := nI 3) (n := 10) dX11_voiceOf_9 rfl rfl ?_
    refine ZV_imulN (n := 11) dX11_voiceOf_10 rfl ?_
    refine ZV_topi (congrArg nI (Nat.mul_comm _ _)) ?_
    refine ZV_icmp_lt (tgt := 18) (n := 14) dX11_voiceOf_11 (by decide) rfl (fun h11 => ?_) (fun h11 => ?_)
    · skip
      obtain ⟨j, hj, hj2, rfl⟩ := inB_t (inB_ok (by omega) h1 h11)
      refine ZV_aload_n (n := 19) dX11_voiceOf_18 rfl rfl rfl ?_
      refine ZV_getRv (n := 22) dX11_voiceOf_19 fl_X11_21 rfl rfl rfl (cf_sh hG :).1 (ca_voices (cf_sh hG :)) ?_
      refine ZV_iload_n (n := 23) dX11_voiceOf_22 rfl rfl rfl ?_
      refine ZV_aaldv (c0 := 1) (j := j) (n := 24) dX11_voiceOf_23 rfl (by decide) rfl (ck_voices (cf_sh hG :)) rfl (by omega) (cf_va hG j (by omega)) ?_
      refine ZV_aret dX11_voiceOf_24 rfl ?_
      exact ⟨rfl, Or.inr ⟨j, hj, rfl, rfl⟩⟩
    · skip
      refine ZV_null (n := 15) dX11_voiceOf_14 rfl ?_
      refine ZV_goto (tgt := 24) dX11_voiceOf_15 (by decide) ?_
      refine ZV_aret dX11_voiceOf_24 rfl ?_
      exact ⟨rfl, Or.inl ⟨by rw [inB_ge (by omega) h11], rfl⟩⟩
set_option maxHeartbeats 4000000 in
set_option maxRecDepth 100000 in
theorem e_tupletOf {c B : Nat} {σ : ZS} {T : TS} {K : KS} (hG : cG c B σ T K) (n : Int32) : ZC M_X11_tupletOf [Ar (some c), Ai n] σ (fun r τ => τ = σ ∧ ((tpB T n = false ∧ r = some (Ar none)) ∨ ∃ j, j < g_te T ∧ g_tt T j = true ∧ n = nI j ∧ r = some (Ar (some (k_ta K j))))) := by
  have hbd := cf_bd hG
  refine ZC_of (ls := [some (Ar (some c)), some (Ai n)]) (by decide) (Nat.le_of_ble_eq_true rfl) rfl ?_
  refine ZV_iload_n (n := 1) dX11_tupletOf_0 rfl rfl rfl ?_
  refine ZV_if_lt (tgt := 12) (n := 4) dX11_tupletOf_1 (by decide) rfl (fun h1 => ?_) (fun h1 => ?_)
  · skip
    refine ZV_null (n := 13) dX11_tupletOf_12 rfl ?_
    refine ZV_goto (tgt := 22) dX11_tupletOf_13 (by decide) ?_
    refine ZV_aret dX11_tupletOf_22 rfl ?_
    exact ⟨rfl, Or.inl ⟨by unfold tpB; rw [inB_lt0 _ h1]; rfl, rfl⟩⟩
  · skip
    refine ZV_iload_n (n := 5) dX11_tupletOf_4 rfl rfl rfl ?_
    refine ZV_aload_n (n := 6) dX11_tupletOf_5 rfl rfl rfl ?_
    refine ZV_getIv (n := 9) dX11_tupletOf_6 fl_X11_47 rfl rfl rfl (cf_sh hG :).1 (cf_te hG :) ?_
    refine ZV_icmp_lt (tgt := 16) (n := 12) dX11_tupletOf_9 (by decide) rfl (fun h9 => ?_) (fun h9 => ?_)
    · skip
      obtain ⟨j, hj, hj2, rfl⟩ := inB_t (inB_ok (by omega) h1 h9)
      refine ZV_aload_n (n := 17) dX11_tupletOf_16 rfl rfl rfl ?_
      refine ZV_getRv (n := 20) dX11_tupletOf_17 fl_X11_43 rfl rfl rfl (cf_sh hG :).1 (ca_tuplets (cf_sh hG :)) ?_
      refine ZV_iload_n (n := 21) dX11_tupletOf_20 rfl rfl rfl ?_
      rcases hb21 : g_tt T j with _ | _
      · skip
        refine ZV_aaldv (c0 := 3) (w := none) (j := j) (n := 22) dX11_tupletOf_21 rfl (by decide) rfl (ck_tuplets (cf_sh hG :)) rfl (by omega) (Eq.trans (cf_ta hG j (by omega)) (if_neg (by rw [hb21]; exact Bool.false_ne_true))) ?_
        refine ZV_aret dX11_tupletOf_22 rfl ?_
        exact ⟨rfl, Or.inl ⟨by unfold tpB; rw [nI_clamp hj2, hb21, Bool.and_false], rfl⟩⟩
      · skip
        refine ZV_aaldv (c0 := 3) (w := some (k_ta K j)) (j := j) (n := 22) dX11_tupletOf_21 rfl (by decide) rfl (ck_tuplets (cf_sh hG :)) rfl (by omega) (Eq.trans (cf_ta hG j (by omega)) (if_pos hb21)) ?_
        refine ZV_aret dX11_tupletOf_22 rfl ?_
        exact ⟨rfl, Or.inr ⟨j, hj, hb21, rfl, rfl⟩⟩
    · skip
      refine ZV_null (n := 13) dX11_tupletOf_12 rfl ?_
      refine ZV_goto (tgt := 22) dX11_tupletOf_13 (by decide) ?_
      refine ZV_aret dX11_tupletOf_22 rfl ?_
      exact ⟨rfl, Or.inl ⟨by unfold tpB; rw [inB_ge (by omega) h9]; rfl, rfl⟩⟩
set_option maxHeartbeats 4000000 in
set_option maxRecDepth 100000 in
theorem e_lineOf {c B : Nat} {σ : ZS} {T : TS} {K : KS} (hG : cG c B σ T K) (n : Int32) : ZC M_X11_lineOf [Ar (some c), Ai n] σ (fun r τ => τ = σ ∧ ((lnB T n = false ∧ r = some (Ar none)) ∨ ∃ j, j < g_le T ∧ g_lt T j = true ∧ n = nI j ∧ r = some (Ar (some (k_la K j))))) := by
  have hbd := cf_bd hG
  refine ZC_of (ls := [some (Ar (some c)), some (Ai n)]) (by decide) (Nat.le_of_ble_eq_true rfl) rfl ?_
  refine ZV_iload_n (n := 1) dX11_lineOf_0 rfl rfl rfl ?_
  refine ZV_if_lt (tgt := 12) (n := 4) dX11_lineOf_1 (by decide) rfl (fun h1 => ?_) (fun h1 => ?_)
  · skip
    refine ZV_null (n := 13) dX11_lineOf_12 rfl ?_
    refine ZV_goto (tgt := 22) dX11_lineOf_13 (by decide) ?_
    refine ZV_aret dX11_lineOf_22 rfl ?_
    exact ⟨rfl, Or.inl ⟨by unfold lnB; rw [inB_lt0 _ h1]; rfl, rfl⟩⟩
  · skip
    refine ZV_iload_n (n := 5) dX11_lineOf_4 rfl rfl rfl ?_
    refine ZV_aload_n (n := 6) dX11_lineOf_5 rfl rfl rfl ?_
    refine ZV_getIv (n := 9) dX11_lineOf_6 fl_X11_56 rfl rfl rfl (cf_sh hG :).1 (cf_le hG :) ?_
    refine ZV_icmp_lt (tgt := 16) (n := 12) dX11_lineOf_9 (by decide) rfl (fun h9 => ?_) (fun h9 => ?_)
    · skip
      obtain ⟨j, hj, hj2, rfl⟩ := inB_t (inB_ok (by omega) h1 h9)
      refine ZV_aload_n (n := 17) dX11_lineOf_16 rfl rfl rfl ?_
      refine ZV_getRv (n := 20) dX11_lineOf_17 fl_X11_52 rfl rfl rfl (cf_sh hG :).1 (ca_lines (cf_sh hG :)) ?_
      refine ZV_iload_n (n := 21) dX11_lineOf_20 rfl rfl rfl ?_
      rcases hb21 : g_lt T j with _ | _
      · skip
        refine ZV_aaldv (c0 := 4) (w := none) (j := j) (n := 22) dX11_lineOf_21 rfl (by decide) rfl (ck_lines (cf_sh hG :)) rfl (by omega) (Eq.trans (cf_la hG j (by omega)) (if_neg (by rw [hb21]; exact Bool.false_ne_true))) ?_
        refine ZV_aret dX11_lineOf_22 rfl ?_
        exact ⟨rfl, Or.inl ⟨by unfold lnB; rw [nI_clamp hj2, hb21, Bool.and_false], rfl⟩⟩
      · skip
        refine ZV_aaldv (c0 := 4) (w := some (k_la K j)) (j := j) (n := 22) dX11_lineOf_21 rfl (by decide) rfl (ck_lines (cf_sh hG :)) rfl (by omega) (Eq.trans (cf_la hG j (by omega)) (if_pos hb21)) ?_
        refine ZV_aret dX11_lineOf_22 rfl ?_
        exact ⟨rfl, Or.inr ⟨j, hj, hb21, rfl, rfl⟩⟩
    · skip
      refine ZV_null (n := 13) dX11_lineOf_12 rfl ?_
      refine ZV_goto (tgt := 22) dX11_lineOf_13 (by decide) ?_
      refine ZV_aret dX11_lineOf_22 rfl ?_
      exact ⟨rfl, Or.inl ⟨by unfold lnB; rw [inB_ge (by omega) h9]; rfl, rfl⟩⟩
set_option maxHeartbeats 4000000 in
set_option maxRecDepth 100000 in
theorem e_isLineEnd {c B : Nat} {σ : ZS} {T : TS} {K : KS} (hG : cG c B σ T K) (t : Int32) : ZC M_X11_isLineEnd [Ar (some c), Ai t] σ (fun y9 τ9 => y9 = some (Ai (bI (decide (t = -1 ∨ evB T t = true)))) ∧ τ9 = σ) := by
  refine ZC_of (ls := [some (Ar (some c)), some (Ai t)]) (by decide) (Nat.le_of_ble_eq_true rfl) rfl ?_
  refine ZV_iload_n (n := 1) dX11_isLineEnd_0 rfl rfl rfl ?_
  refine ZV_iconst (v := -1) (n := 2) dX11_isLineEnd_1 rfl rfl ?_
  refine ZV_icmp_eq (tgt := 13) (n := 5) dX11_isLineEnd_2 (by decide) rfl (fun h2 => ?_) (fun h2 => ?_)
  · skip
    refine ZV_iconst (v := nI 1) (n := 14) dX11_isLineEnd_13 rfl rfl ?_
    refine ZV_goto (tgt := 18) dX11_isLineEnd_14 (by decide) ?_
    refine ZV_zret dX11_isLineEnd_18 rfl (by first | exact Or.inl rfl | exact Or.inr rfl) ?_
    refine ⟨?_, rfl⟩
    rw [decide_eq_true (Or.inl h2)]; rfl
  · skip
    refine ZV_aload_n (n := 6) dX11_isLineEnd_5 rfl rfl rfl ?_
    refine ZV_iload_n (n := 7) dX11_isLineEnd_6 rfl rfl rfl ?_
    refine call_X11_155 (e_eventOf hG _) rfl dX11_isLineEnd_7 rfl (cf_sh hG :).1 (Nat.le_of_ble_eq_true rfl) (Nat.le_of_ble_eq_true rfl) rfl (fun r9 σ9 hp9 => ?_)
    obtain ⟨hs9, hp9⟩ := hp9
    subst σ9
    rcases hp9 with ⟨hv7, hr9⟩ | ⟨e7, he7, ht7, hn7, hr9⟩
    · skip
      subst hr9
      refine ZV_ifnull_n (tgt := 17) dX11_isLineEnd_10 (by decide) ?_
      refine ZV_iconst (v := nI 0) (n := 18) dX11_isLineEnd_17 rfl rfl ?_
      refine ZV_zret dX11_isLineEnd_18 rfl (by first | exact Or.inl rfl | exact Or.inr rfl) ?_
      refine ⟨?_, rfl⟩
      rw [decide_eq_false (by simp [hv7, h2])]; rfl
    · skip
      subst hr9
      subst hn7
      refine ZV_ifnull_s (tgt := 17) (n := 13) dX11_isLineEnd_10 (by decide) rfl ?_
      refine ZV_iconst (v := nI 1) (n := 14) dX11_isLineEnd_13 rfl rfl ?_
      refine ZV_goto (tgt := 18) dX11_isLineEnd_14 (by decide) ?_
      refine ZV_zret dX11_isLineEnd_18 rfl (by first | exact Or.inl rfl | exact Or.inr rfl) ?_
      refine ⟨?_, rfl⟩
      rw [decide_eq_true (Or.inr ?_)]
      · rfl
      · have := (cf_bd hG).2.1
        unfold evB
        rw [inB_nI (by omega), nI_clamp (by omega), ht7, decide_eq_true he7]
        rfl
