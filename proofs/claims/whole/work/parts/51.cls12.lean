def evN (σ τ : ZS) (b n w k : Nat) (q : Int32) (a d : Nat) : Prop := zag b σ τ ∧ zn τ = b + 2 ∧ zk τ b = (1, 2) ∧ zk τ (b + 1) = (2, if k = 1 then 6 else 1) ∧ zI τ 128 b = nI n ∧ zR τ 129 b = some w ∧ zI τ 130 b = nI k ∧ zR τ 131 b = some (b + 1) ∧ zI τ 132 b = nI (if k < 3 then 1 else 0) ∧ zI τ 133 b = nI a ∧ zI τ 134 b = nI d ∧ zI τ 135 b = bI false ∧ zI τ 136 b = nI 0 ∧ zL τ 137 b = lN 0 ∧ zL τ 138 b = lN 0 ∧ (k < 3 → zi τ (b + 1) 0 = q)
set_option maxHeartbeats 4000000 in
set_option maxRecDepth 100000 in
theorem e_X2_init {σ : ZS} {b : Nat} (hk : zk σ b = (1, 2)) (hz : zn σ = b + 1) (n w k : Nat) (q : Int32) (a d : Nat) (hk4 : k ≤ 4) : ZC M_X2_init [Ar (some b), Ai (nI n), Ar (some w), Ai (nI k), Ai q, Ai (nI a), Ai (nI d)] σ (fun r τ => r = none ∧ evN σ τ b n w k q a d) := by
  have hne : b ≠ zn σ := by omega
  have hne9 : ¬ b = σ.2.2.2.2.2.2.2 := hne
  refine ZC_of (ls := [some (Ar (some b)), some (Ai (nI n)), some (Ar (some w)), some (Ai (nI k)), some (Ai q), some (Ai (nI a)), some (Ai (nI d))]) (by decide) (Nat.le_of_ble_eq_true rfl) rfl ?_
  refine ZV_aload_n (n := 1) dX2_init_0 rfl rfl rfl ?_
  refine ZV_objInit (n := 4) dX2_init_1 wd_2_6 wd_1_24 wd_1_25 (Nat.le_of_ble_eq_true rfl) (Nat.le_of_ble_eq_true rfl) rfl ?_
  refine ZV_aload_n (n := 5) dX2_init_4 rfl rfl rfl ?_
  refine ZV_iconst (v := nI 0) (n := 6) dX2_init_5 rfl rfl ?_
  refine ZV_putI (n := 9) dX2_init_6 fl_X2_9 rfl (Or.inl rfl) rfl (fun h => absurd h (by decide)) rfl hk ?_
  refine ZV_aload_n (n := 10) dX2_init_9 rfl rfl rfl ?_
  refine ZV_iconst (v := nI 0) (n := 11) dX2_init_10 rfl rfl ?_
  refine ZV_putI (n := 14) dX2_init_11 fl_X2_15 rfl (Or.inl rfl) rfl (fun _ => Or.inl rfl) rfl hk ?_
  refine ZV_aload_n (n := 15) dX2_init_14 rfl rfl rfl ?_
  refine ZV_iconst (v := nI 0) (n := 16) dX2_init_15 rfl rfl ?_
  refine ZV_putI (n := 19) dX2_init_16 fl_X2_19 rfl (Or.inl rfl) rfl (fun h => absurd h (by decide)) rfl hk ?_
  refine ZV_aload_n (n := 20) dX2_init_19 rfl rfl rfl ?_
  refine ZV_lconst (v := lN 0) (n := 21) dX2_init_20 rfl rfl ?_
  refine ZV_putL (n := 24) dX2_init_21 fl_X2_22 rfl (Or.inl rfl) rfl rfl hk ?_
  refine ZV_aload_n (n := 25) dX2_init_24 rfl rfl rfl ?_
  refine ZV_lconst (v := lN 0) (n := 26) dX2_init_25 rfl rfl ?_
  refine ZV_putL (n := 29) dX2_init_26 fl_X2_26 rfl (Or.inl rfl) rfl rfl hk ?_
  refine ZV_aload_n (n := 30) dX2_init_29 rfl rfl rfl ?_
  refine ZV_iload_n (n := 31) dX2_init_30 rfl rfl rfl ?_
  refine ZV_putI (n := 34) dX2_init_31 fl_X2_29 rfl (Or.inr ⟨rfl, rfl, rfl⟩) rfl (fun h => absurd h (by decide)) rfl hk ?_
  refine ZV_aload_n (n := 35) dX2_init_34 rfl rfl rfl ?_
  refine ZV_aload_n (n := 36) dX2_init_35 rfl rfl rfl ?_
  refine ZV_putR (n := 39) dX2_init_36 fl_X2_32 rfl (Or.inr ⟨rfl, rfl, rfl⟩) rfl rfl hk ?_
  refine ZV_aload_n (n := 40) dX2_init_39 rfl rfl rfl ?_
  refine ZV_iload_n (n := 41) dX2_init_40 rfl rfl rfl ?_
  refine ZV_putI (n := 44) dX2_init_41 fl_X2_36 rfl (Or.inr ⟨rfl, rfl, rfl⟩) rfl (fun h => absurd h (by decide)) rfl hk ?_
  refine ZV_aload_n (n := 45) dX2_init_44 rfl rfl rfl ?_
  refine ZV_iload (n := 47) dX2_init_45 rfl rfl ?_
  refine ZV_putI (n := 50) dX2_init_47 fl_X2_39 rfl (Or.inl rfl) rfl (fun h => absurd h (by decide)) rfl hk ?_
  refine ZV_aload_n (n := 51) dX2_init_50 rfl rfl rfl ?_
  refine ZV_iload (n := 53) dX2_init_51 rfl rfl ?_
  refine ZV_putI (n := 56) dX2_init_53 fl_X2_42 rfl (Or.inl rfl) rfl (fun h => absurd h (by decide)) rfl hk ?_
  refine ZV_aload_n (n := 57) dX2_init_56 rfl rfl rfl ?_
  refine ZV_iload_n (n := 58) dX2_init_57 rfl rfl rfl ?_
  refine ZV_iconst (v := nI 1) (n := 59) dX2_init_58 rfl rfl ?_
  refine ZV_icmp_neN (tgt := 67) (n := 62) dX2_init_59 (by decide) rfl (by omega) (by omega) (fun h59 => ?_) (fun h59 => ?_)
  · skip
    refine ZV_iconst (v := nI 1) (n := 68) dX2_init_67 rfl rfl ?_
    refine ZV_kw (ks' := 0 + 1) (by decide) ?_
    refine ZV_newI (N := 1) (n := 70) dX2_init_68 rfl rfl (by decide) ?_
    refine ZV_putR (n := 73) dX2_init_70 fl_X2_45 rfl (Or.inr ⟨rfl, rfl, rfl⟩) rfl rfl (Eq.trans (if_neg hne) hk) ?_
    refine ZV_iload_n (n := 74) dX2_init_73 rfl rfl rfl ?_
    refine call_X2_49 (e_isNoteKind _ _ (by omega)) rfl dX2_init_74 (Nat.le_of_ble_eq_true rfl) (Nat.le_of_ble_eq_true rfl) rfl (fun r9 σ9 hp9 => ?_)
    obtain ⟨rfl, hs9⟩ := hp9
    subst σ9
    refine ZV_if_eqB (tgt := 93) (n := 80) dX2_init_77 (by decide) rfl (fun h77 => ?_) (fun h77 => ?_)
    · skip
      refine ZV_vret dX2_init_93 rfl ?_
      refine ⟨rfl, ?_, ?_, ?_, ?_, ?_, ?_, ?_, ?_, ?_, ?_, ?_, ?_, ?_, ?_, ?_, ?_⟩
      · repeat (first | exact zag_rf | refine zag_tr ?_ (zag_pI (Nat.le_refl _)) | refine zag_tr ?_ (zag_pL (Nat.le_refl _)) | refine zag_tr ?_ (zag_pR (Nat.le_refl _)) | refine zag_tr ?_ (zag_qi (show b ≤ zn σ by omega)) | refine zag_tr ?_ (zag_new (show b ≤ zn σ by omega)))
      · show zn σ + 1 = b + 2
        omega
      · exact Eq.trans (if_neg hne) hk
      · rw [← hz, if_neg h59]
        exact if_pos rfl
      · exact (by simp [zI, zL, zR, pI, pR, pL, qi, qw, zNew, z2, zn, hne9])
      · exact (by simp [zI, zL, zR, pI, pR, pL, qi, qw, zNew, z2, zn, hne9])
      · exact (by simp [zI, zL, zR, pI, pR, pL, qi, qw, zNew, z2, zn, hne9])
      · rw [← hz]
        exact if_pos ⟨rfl, rfl⟩
      · rw [if_neg (of_decide_eq_false h77)]
        exact (by simp [zI, zL, zR, pI, pR, pL, qi, qw, zNew, z2, zn, hne9])
      · exact (by simp [zI, zL, zR, pI, pR, pL, qi, qw, zNew, z2, zn, hne9])
      · exact (by simp [zI, zL, zR, pI, pR, pL, qi, qw, zNew, z2, zn, hne9])
      · exact (by simp [zI, zL, zR, pI, pR, pL, qi, qw, zNew, z2, zn, hne9]; rfl)
      · exact (by simp [zI, zL, zR, pI, pR, pL, qi, qw, zNew, z2, zn, hne9])
      · exact (by simp [zI, zL, zR, pI, pR, pL, qi, qw, zNew, z2, zn, hne9])
      · exact (by simp [zI, zL, zR, pI, pR, pL, qi, qw, zNew, z2, zn, hne9])
      · intro hk3
        exact absurd hk3 (of_decide_eq_false h77)
    · skip
      refine ZV_aload_n (n := 81) dX2_init_80 rfl rfl rfl ?_
      refine ZV_getRv (w := some (zn σ)) (n := 84) dX2_init_81 fl_X2_45 rfl rfl rfl (Eq.trans (if_neg hne) hk) (if_pos ⟨rfl, rfl⟩) ?_
      refine ZV_iconst (v := nI 0) (n := 85) dX2_init_84 rfl rfl ?_
      refine ZV_iload (n := 87) dX2_init_85 rfl rfl ?_
      refine ZV_iast (j := 0) (n := 88) dX2_init_87 rfl rfl (if_pos rfl) rfl (by decide) ?_
      refine ZV_aload_n (n := 89) dX2_init_88 rfl rfl rfl ?_
      refine ZV_iconst (v := nI 1) (n := 90) dX2_init_89 rfl rfl ?_
      refine ZV_putI (n := 93) dX2_init_90 fl_X2_9 rfl (Or.inl rfl) rfl (fun h => absurd h (by decide)) rfl (Eq.trans (if_neg hne) hk) ?_
      refine ZV_vret dX2_init_93 rfl ?_
      refine ⟨rfl, ?_, ?_, ?_, ?_, ?_, ?_, ?_, ?_, ?_, ?_, ?_, ?_, ?_, ?_, ?_, ?_⟩
      · repeat (first | exact zag_rf | refine zag_tr ?_ (zag_pI (Nat.le_refl _)) | refine zag_tr ?_ (zag_pL (Nat.le_refl _)) | refine zag_tr ?_ (zag_pR (Nat.le_refl _)) | refine zag_tr ?_ (zag_qi (show b ≤ zn σ by omega)) | refine zag_tr ?_ (zag_new (show b ≤ zn σ by omega)))
      · show zn σ + 1 = b + 2
        omega
      · exact Eq.trans (if_neg hne) hk
      · rw [← hz, if_neg h59]
        exact if_pos rfl
      · exact (by simp [zI, zL, zR, pI, pR, pL, qi, qw, zNew, z2, zn, hne9])
      · exact (by simp [zI, zL, zR, pI, pR, pL, qi, qw, zNew, z2, zn, hne9])
      · exact (by simp [zI, zL, zR, pI, pR, pL, qi, qw, zNew, z2, zn, hne9])
      · rw [← hz]
        exact if_pos ⟨rfl, rfl⟩
      · rw [if_pos (of_decide_eq_true h77)]
        exact if_pos ⟨rfl, rfl⟩
      · exact (by simp [zI, zL, zR, pI, pR, pL, qi, qw, zNew, z2, zn, hne9])
      · exact (by simp [zI, zL, zR, pI, pR, pL, qi, qw, zNew, z2, zn, hne9])
      · exact (by simp [zI, zL, zR, pI, pR, pL, qi, qw, zNew, z2, zn, hne9]; rfl)
      · exact (by simp [zI, zL, zR, pI, pR, pL, qi, qw, zNew, z2, zn, hne9])
      · exact (by simp [zI, zL, zR, pI, pR, pL, qi, qw, zNew, z2, zn, hne9])
      · exact (by simp [zI, zL, zR, pI, pR, pL, qi, qw, zNew, z2, zn, hne9])
      · intro hk3
        rw [← hz]
        exact if_pos ⟨rfl, rfl⟩
  · skip
    refine ZV_bipush (v := nI 6) (n := 64) dX2_init_62 rfl rfl ?_
    refine ZV_goto (tgt := 68) dX2_init_64 (by decide) ?_
    refine ZV_kw (ks' := 0 + 6) (by decide) ?_
    refine ZV_newI (N := 6) (n := 70) dX2_init_68 rfl rfl (by decide) ?_
    refine ZV_putR (n := 73) dX2_init_70 fl_X2_45 rfl (Or.inr ⟨rfl, rfl, rfl⟩) rfl rfl (Eq.trans (if_neg hne) hk) ?_
    refine ZV_iload_n (n := 74) dX2_init_73 rfl rfl rfl ?_
    refine call_X2_49 (e_isNoteKind _ _ (by omega)) rfl dX2_init_74 (Nat.le_of_ble_eq_true rfl) (Nat.le_of_ble_eq_true rfl) rfl (fun r9 σ9 hp9 => ?_)
    obtain ⟨rfl, hs9⟩ := hp9
    subst σ9
    refine ZV_if_eqB (tgt := 93) (n := 80) dX2_init_77 (by decide) rfl (fun h77 => ?_) (fun h77 => ?_)
    · skip
      refine ZV_vret dX2_init_93 rfl ?_
      refine ⟨rfl, ?_, ?_, ?_, ?_, ?_, ?_, ?_, ?_, ?_, ?_, ?_, ?_, ?_, ?_, ?_, ?_⟩
      · repeat (first | exact zag_rf | refine zag_tr ?_ (zag_pI (Nat.le_refl _)) | refine zag_tr ?_ (zag_pL (Nat.le_refl _)) | refine zag_tr ?_ (zag_pR (Nat.le_refl _)) | refine zag_tr ?_ (zag_qi (show b ≤ zn σ by omega)) | refine zag_tr ?_ (zag_new (show b ≤ zn σ by omega)))
      · show zn σ + 1 = b + 2
        omega
      · exact Eq.trans (if_neg hne) hk
      · rw [← hz, if_pos h59]
        exact if_pos rfl
      · exact (by simp [zI, zL, zR, pI, pR, pL, qi, qw, zNew, z2, zn, hne9])
      · exact (by simp [zI, zL, zR, pI, pR, pL, qi, qw, zNew, z2, zn, hne9])
      · exact (by simp [zI, zL, zR, pI, pR, pL, qi, qw, zNew, z2, zn, hne9])
      · rw [← hz]
        exact if_pos ⟨rfl, rfl⟩
      · rw [if_neg (of_decide_eq_false h77)]
        exact (by simp [zI, zL, zR, pI, pR, pL, qi, qw, zNew, z2, zn, hne9])
      · exact (by simp [zI, zL, zR, pI, pR, pL, qi, qw, zNew, z2, zn, hne9])
      · exact (by simp [zI, zL, zR, pI, pR, pL, qi, qw, zNew, z2, zn, hne9])
      · exact (by simp [zI, zL, zR, pI, pR, pL, qi, qw, zNew, z2, zn, hne9]; rfl)
      · exact (by simp [zI, zL, zR, pI, pR, pL, qi, qw, zNew, z2, zn, hne9])
      · exact (by simp [zI, zL, zR, pI, pR, pL, qi, qw, zNew, z2, zn, hne9])
      · exact (by simp [zI, zL, zR, pI, pR, pL, qi, qw, zNew, z2, zn, hne9])
      · intro hk3
        exact absurd hk3 (of_decide_eq_false h77)
    · skip
      refine ZV_aload_n (n := 81) dX2_init_80 rfl rfl rfl ?_
      refine ZV_getRv (w := some (zn σ)) (n := 84) dX2_init_81 fl_X2_45 rfl rfl rfl (Eq.trans (if_neg hne) hk) (if_pos ⟨rfl, rfl⟩) ?_
      refine ZV_iconst (v := nI 0) (n := 85) dX2_init_84 rfl rfl ?_
      refine ZV_iload (n := 87) dX2_init_85 rfl rfl ?_
      refine ZV_iast (j := 0) (n := 88) dX2_init_87 rfl rfl (if_pos rfl) rfl (by decide) ?_
      refine ZV_aload_n (n := 89) dX2_init_88 rfl rfl rfl ?_
      refine ZV_iconst (v := nI 1) (n := 90) dX2_init_89 rfl rfl ?_
      refine ZV_putI (n := 93) dX2_init_90 fl_X2_9 rfl (Or.inl rfl) rfl (fun h => absurd h (by decide)) rfl (Eq.trans (if_neg hne) hk) ?_
      refine ZV_vret dX2_init_93 rfl ?_
      refine ⟨rfl, ?_, ?_, ?_, ?_, ?_, ?_, ?_, ?_, ?_, ?_, ?_, ?_, ?_, ?_, ?_, ?_⟩
      · repeat (first | exact zag_rf | refine zag_tr ?_ (zag_pI (Nat.le_refl _)) | refine zag_tr ?_ (zag_pL (Nat.le_refl _)) | refine zag_tr ?_ (zag_pR (Nat.le_refl _)) | refine zag_tr ?_ (zag_qi (show b ≤ zn σ by omega)) | refine zag_tr ?_ (zag_new (show b ≤ zn σ by omega)))
      · show zn σ + 1 = b + 2
        omega
      · exact Eq.trans (if_neg hne) hk
      · rw [← hz, if_pos h59]
        exact if_pos rfl
      · exact (by simp [zI, zL, zR, pI, pR, pL, qi, qw, zNew, z2, zn, hne9])
      · exact (by simp [zI, zL, zR, pI, pR, pL, qi, qw, zNew, z2, zn, hne9])
      · exact (by simp [zI, zL, zR, pI, pR, pL, qi, qw, zNew, z2, zn, hne9])
      · rw [← hz]
        exact if_pos ⟨rfl, rfl⟩
      · rw [if_pos (of_decide_eq_true h77)]
        exact if_pos ⟨rfl, rfl⟩
      · exact (by simp [zI, zL, zR, pI, pR, pL, qi, qw, zNew, z2, zn, hne9])
      · exact (by simp [zI, zL, zR, pI, pR, pL, qi, qw, zNew, z2, zn, hne9])
      · exact (by simp [zI, zL, zR, pI, pR, pL, qi, qw, zNew, z2, zn, hne9]; rfl)
      · exact (by simp [zI, zL, zR, pI, pR, pL, qi, qw, zNew, z2, zn, hne9])
      · exact (by simp [zI, zL, zR, pI, pR, pL, qi, qw, zNew, z2, zn, hne9])
      · exact (by simp [zI, zL, zR, pI, pR, pL, qi, qw, zNew, z2, zn, hne9])
      · intro hk3
        rw [← hz]
        exact if_pos ⟨rfl, rfl⟩
def voN (σ τ : ZS) (b n w : Nat) : Prop := zag b σ τ ∧ zn τ = b + 2 ∧ zk τ b = (1, 10) ∧ zk τ (b + 1) = (7, 40) ∧ zI τ 640 b = nI n ∧ zR τ 641 b = some w ∧ zR τ 642 b = some (b + 1) ∧ zI τ 643 b = nI 0 ∧ zI τ 644 b = nI 0 ∧ zL τ 645 b = lN 0
set_option maxHeartbeats 4000000 in
set_option maxRecDepth 100000 in
theorem e_X10_init {σ : ZS} {b : Nat} (hk : zk σ b = (1, 10)) (hz : zn σ = b + 1) (n w : Nat) : ZC M_X10_init [Ar (some b), Ai (nI n), Ar (some w)] σ (fun r τ => r = none ∧ voN σ τ b n w) := by
  have hne : b ≠ zn σ := by omega
  have hne9 : ¬ b = σ.2.2.2.2.2.2.2 := hne
  refine ZC_of (ls := [some (Ar (some b)), some (Ai (nI n)), some (Ar (some w))]) (by decide) (Nat.le_of_ble_eq_true rfl) rfl ?_
  refine ZV_aload_n (n := 1) dX10_init_0 rfl rfl rfl ?_
  refine ZV_objInit (n := 4) dX10_init_1 wd_1_175 wd_1_24 wd_1_25 (Nat.le_of_ble_eq_true rfl) (Nat.le_of_ble_eq_true rfl) rfl ?_
  refine ZV_aload_n (n := 5) dX10_init_4 rfl rfl rfl ?_
  refine ZV_bipush (v := nI 40) (n := 7) dX10_init_5 rfl rfl ?_
  refine ZV_newR (N := 40) (c0 := 2) (n := 10) dX10_init_7 rfl (by decide) wd_1_176 wd_1_31 rfl (by decide) ?_
  refine ZV_putR (n := 13) dX10_init_10 fl_X10_11 rfl (Or.inr ⟨rfl, rfl, rfl⟩) rfl rfl (Eq.trans (if_neg hne) hk) ?_
  refine ZV_aload_n (n := 14) dX10_init_13 rfl rfl rfl ?_
  refine ZV_iconst (v := nI 0) (n := 15) dX10_init_14 rfl rfl ?_
  refine ZV_putI (n := 18) dX10_init_15 fl_X10_17 rfl (Or.inl rfl) rfl (fun h => absurd h (by decide)) rfl (Eq.trans (if_neg hne) hk) ?_
  refine ZV_aload_n (n := 19) dX10_init_18 rfl rfl rfl ?_
  refine ZV_iconst (v := nI 0) (n := 20) dX10_init_19 rfl rfl ?_
  refine ZV_putI (n := 23) dX10_init_20 fl_X10_21 rfl (Or.inl rfl) rfl (fun h => absurd h (by decide)) rfl (Eq.trans (if_neg hne) hk) ?_
  refine ZV_aload_n (n := 24) dX10_init_23 rfl rfl rfl ?_
  refine ZV_lconst (v := lN 0) (n := 25) dX10_init_24 rfl rfl ?_
  refine ZV_putL (n := 28) dX10_init_25 fl_X10_24 rfl (Or.inl rfl) rfl rfl (Eq.trans (if_neg hne) hk) ?_
  refine ZV_aload_n (n := 29) dX10_init_28 rfl rfl rfl ?_
  refine ZV_iload_n (n := 30) dX10_init_29 rfl rfl rfl ?_
  refine ZV_putI (n := 33) dX10_init_30 fl_X10_28 rfl (Or.inr ⟨rfl, rfl, rfl⟩) rfl (fun h => absurd h (by decide)) rfl (Eq.trans (if_neg hne) hk) ?_
  refine ZV_aload_n (n := 34) dX10_init_33 rfl rfl rfl ?_
  refine ZV_aload_n (n := 35) dX10_init_34 rfl rfl rfl ?_
  refine ZV_putR (n := 38) dX10_init_35 fl_X10_31 rfl (Or.inr ⟨rfl, rfl, rfl⟩) rfl rfl (Eq.trans (if_neg hne) hk) ?_
  refine ZV_vret dX10_init_38 rfl ?_
  refine ⟨rfl, ?_, ?_, ?_, ?_, ?_, ?_, ?_, ?_, ?_, ?_⟩
  · repeat (first | exact zag_rf | refine zag_tr ?_ (zag_pI (Nat.le_refl _)) | refine zag_tr ?_ (zag_pL (Nat.le_refl _)) | refine zag_tr ?_ (zag_pR (Nat.le_refl _)) | refine zag_tr ?_ (zag_qi (show b ≤ zn σ by omega)) | refine zag_tr ?_ (zag_new (show b ≤ zn σ by omega)))
  · show zn σ + 1 = b + 2
    omega
  · exact Eq.trans (if_neg hne) hk
  · rw [← hz]
    exact if_pos rfl
  · exact if_pos ⟨rfl, rfl⟩
  · exact if_pos ⟨rfl, rfl⟩
  · rw [← hz]
    exact if_pos ⟨rfl, rfl⟩
  · exact if_pos ⟨rfl, rfl⟩
  · exact if_pos ⟨rfl, rfl⟩
  · exact if_pos ⟨rfl, rfl⟩
def tuN (σ τ : ZS) (b t w f k n m u : Nat) : Prop := zag b σ τ ∧ zn τ = zn σ ∧ zk τ b = (1, 9) ∧ zI τ 576 b = nI t ∧ zR τ 577 b = some w ∧ zI τ 578 b = nI f ∧ zI τ 579 b = nI k ∧ zI τ 580 b = nI n ∧ zI τ 581 b = nI m ∧ zI τ 582 b = nI u
set_option maxHeartbeats 4000000 in
set_option maxRecDepth 100000 in
theorem e_X9_init {σ : ZS} {b : Nat} (hk : zk σ b = (1, 9)) (hz : b < zn σ) (t w f k n m u : Nat) : ZC M_X9_init [Ar (some b), Ai (nI t), Ar (some w), Ai (nI f), Ai (nI k), Ai (nI n), Ai (nI m), Ai (nI u)] σ (fun r τ => r = none ∧ tuN σ τ b t w f k n m u) := by
  refine ZC_of (ls := [some (Ar (some b)), some (Ai (nI t)), some (Ar (some w)), some (Ai (nI f)), some (Ai (nI k)), some (Ai (nI n)), some (Ai (nI m)), some (Ai (nI u))]) (by decide) (Nat.le_of_ble_eq_true rfl) rfl ?_
  refine ZV_aload_n (n := 1) dX9_init_0 rfl rfl rfl ?_
  refine ZV_objInit (n := 4) dX9_init_1 wd_3_93 wd_1_24 wd_1_25 (Nat.le_of_ble_eq_true rfl) (Nat.le_of_ble_eq_true rfl) rfl ?_
  refine ZV_aload_n (n := 5) dX9_init_4 rfl rfl rfl ?_
  refine ZV_iload_n (n := 6) dX9_init_5 rfl rfl rfl ?_
  refine ZV_putI (n := 9) dX9_init_6 fl_X9_7 rfl (Or.inr ⟨rfl, rfl, rfl⟩) rfl (fun h => absurd h (by decide)) rfl hk ?_
  refine ZV_aload_n (n := 10) dX9_init_9 rfl rfl rfl ?_
  refine ZV_aload_n (n := 11) dX9_init_10 rfl rfl rfl ?_
  refine ZV_putR (n := 14) dX9_init_11 fl_X9_13 rfl (Or.inr ⟨rfl, rfl, rfl⟩) rfl rfl hk ?_
  refine ZV_aload_n (n := 15) dX9_init_14 rfl rfl rfl ?_
  refine ZV_iload_n (n := 16) dX9_init_15 rfl rfl rfl ?_
  refine ZV_putI (n := 19) dX9_init_16 fl_X9_17 rfl (Or.inl rfl) rfl (fun h => absurd h (by decide)) rfl hk ?_
  refine ZV_aload_n (n := 20) dX9_init_19 rfl rfl rfl ?_
  refine ZV_iload (n := 22) dX9_init_20 rfl rfl ?_
  refine ZV_putI (n := 25) dX9_init_22 fl_X9_20 rfl (Or.inl rfl) rfl (fun h => absurd h (by decide)) rfl hk ?_
  refine ZV_aload_n (n := 26) dX9_init_25 rfl rfl rfl ?_
  refine ZV_iload (n := 28) dX9_init_26 rfl rfl ?_
  refine ZV_putI (n := 31) dX9_init_28 fl_X9_23 rfl (Or.inr ⟨rfl, rfl, rfl⟩) rfl (fun h => absurd h (by decide)) rfl hk ?_
  refine ZV_aload_n (n := 32) dX9_init_31 rfl rfl rfl ?_
  refine ZV_iload (n := 34) dX9_init_32 rfl rfl ?_
  refine ZV_putI (n := 37) dX9_init_34 fl_X9_26 rfl (Or.inr ⟨rfl, rfl, rfl⟩) rfl (fun h => absurd h (by decide)) rfl hk ?_
  refine ZV_aload_n (n := 38) dX9_init_37 rfl rfl rfl ?_
  refine ZV_iload (n := 40) dX9_init_38 rfl rfl ?_
  refine ZV_putI (n := 43) dX9_init_40 fl_X9_29 rfl (Or.inr ⟨rfl, rfl, rfl⟩) rfl (fun h => absurd h (by decide)) rfl hk ?_
  refine ZV_vret dX9_init_43 rfl ?_
  refine ⟨rfl, ?_, rfl, hk, if_pos ⟨rfl, rfl⟩, if_pos ⟨rfl, rfl⟩, if_pos ⟨rfl, rfl⟩, if_pos ⟨rfl, rfl⟩, if_pos ⟨rfl, rfl⟩, if_pos ⟨rfl, rfl⟩, if_pos ⟨rfl, rfl⟩⟩
  repeat (first | exact zag_rf | refine zag_tr ?_ (zag_pI (Nat.le_refl _)) | refine zag_tr ?_ (zag_pL (Nat.le_refl _)) | refine zag_tr ?_ (zag_pR (Nat.le_refl _)) | refine zag_tr ?_ (zag_qi (show b ≤ zn σ by omega)) | refine zag_tr ?_ (zag_new (show b ≤ zn σ by omega)))
def liN (σ τ : ZS) (b k w : Nat) (o : Option Nat) : Prop := zag b σ τ ∧ zn τ = zn σ ∧ zk τ b = (1, 4) ∧ zI τ 256 b = nI k ∧ zR τ 257 b = some w ∧ zR τ 258 b = o
set_option maxHeartbeats 4000000 in
set_option maxRecDepth 100000 in
theorem e_X4_init_n {σ : ZS} {b : Nat} (hk : zk σ b = (1, 4)) (hz : b < zn σ) (k w : Nat) : ZC M_X4_init [Ar (some b), Ai (nI k), Ar (some w), Ar none] σ (fun r τ => r = none ∧ liN σ τ b k w none) := by
  refine ZC_of (ls := [some (Ar (some b)), some (Ai (nI k)), some (Ar (some w)), some (Ar none)]) (by decide) (Nat.le_of_ble_eq_true rfl) rfl ?_
  refine ZV_aload_n (n := 1) dX4_init_0 rfl rfl rfl ?_
  refine ZV_objInit (n := 4) dX4_init_1 wd_3_154 wd_1_24 wd_1_25 (Nat.le_of_ble_eq_true rfl) (Nat.le_of_ble_eq_true rfl) rfl ?_
  refine ZV_aload_n (n := 5) dX4_init_4 rfl rfl rfl ?_
  refine ZV_iload_n (n := 6) dX4_init_5 rfl rfl rfl ?_
  refine ZV_putI (n := 9) dX4_init_6 fl_X4_9 rfl (Or.inr ⟨rfl, rfl, rfl⟩) rfl (fun h => absurd h (by decide)) rfl hk ?_
  refine ZV_aload_n (n := 10) dX4_init_9 rfl rfl rfl ?_
  refine ZV_aload_n (n := 11) dX4_init_10 rfl rfl rfl ?_
  refine ZV_putR (n := 14) dX4_init_11 fl_X4_15 rfl (Or.inr ⟨rfl, rfl, rfl⟩) rfl rfl hk ?_
  refine ZV_aload_n (n := 15) dX4_init_14 rfl rfl rfl ?_
  refine ZV_aload_n (n := 16) dX4_init_15 rfl rfl rfl ?_
  refine ZV_putR (n := 19) dX4_init_16 fl_X4_19 rfl (Or.inl rfl) rfl rfl hk ?_
  refine ZV_vret dX4_init_19 rfl ?_
  refine ⟨rfl, ?_, rfl, hk, if_pos ⟨rfl, rfl⟩, if_pos ⟨rfl, rfl⟩, if_pos ⟨rfl, rfl⟩⟩
  repeat (first | exact zag_rf | refine zag_tr ?_ (zag_pI (Nat.le_refl _)) | refine zag_tr ?_ (zag_pL (Nat.le_refl _)) | refine zag_tr ?_ (zag_pR (Nat.le_refl _)) | refine zag_tr ?_ (zag_qi (show b ≤ zn σ by omega)) | refine zag_tr ?_ (zag_new (show b ≤ zn σ by omega)))
set_option maxHeartbeats 4000000 in
set_option maxRecDepth 100000 in
theorem e_X4_init_s {σ : ZS} {b : Nat} (hk : zk σ b = (1, 4)) (hz : b < zn σ) (k w : Nat) (f : Nat) : ZC M_X4_init [Ar (some b), Ai (nI k), Ar (some w), Ar (some f)] σ (fun r τ => r = none ∧ liN σ τ b k w (some f)) := by
  refine ZC_of (ls := [some (Ar (some b)), some (Ai (nI k)), some (Ar (some w)), some (Ar (some f))]) (by decide) (Nat.le_of_ble_eq_true rfl) rfl ?_
  refine ZV_aload_n (n := 1) dX4_init_0 rfl rfl rfl ?_
  refine ZV_objInit (n := 4) dX4_init_1 wd_3_154 wd_1_24 wd_1_25 (Nat.le_of_ble_eq_true rfl) (Nat.le_of_ble_eq_true rfl) rfl ?_
  refine ZV_aload_n (n := 5) dX4_init_4 rfl rfl rfl ?_
  refine ZV_iload_n (n := 6) dX4_init_5 rfl rfl rfl ?_
  refine ZV_putI (n := 9) dX4_init_6 fl_X4_9 rfl (Or.inr ⟨rfl, rfl, rfl⟩) rfl (fun h => absurd h (by decide)) rfl hk ?_
  refine ZV_aload_n (n := 10) dX4_init_9 rfl rfl rfl ?_
  refine ZV_aload_n (n := 11) dX4_init_10 rfl rfl rfl ?_
  refine ZV_putR (n := 14) dX4_init_11 fl_X4_15 rfl (Or.inr ⟨rfl, rfl, rfl⟩) rfl rfl hk ?_
  refine ZV_aload_n (n := 15) dX4_init_14 rfl rfl rfl ?_
  refine ZV_aload_n (n := 16) dX4_init_15 rfl rfl rfl ?_
  refine ZV_putR (n := 19) dX4_init_16 fl_X4_19 rfl (Or.inl rfl) rfl rfl hk ?_
  refine ZV_vret dX4_init_19 rfl ?_
  refine ⟨rfl, ?_, rfl, hk, if_pos ⟨rfl, rfl⟩, if_pos ⟨rfl, rfl⟩, if_pos ⟨rfl, rfl⟩⟩
  repeat (first | exact zag_rf | refine zag_tr ?_ (zag_pI (Nat.le_refl _)) | refine zag_tr ?_ (zag_pL (Nat.le_refl _)) | refine zag_tr ?_ (zag_pR (Nat.le_refl _)) | refine zag_tr ?_ (zag_qi (show b ≤ zn σ by omega)) | refine zag_tr ?_ (zag_new (show b ≤ zn σ by omega)))
def rwN (σ τ : ZS) (b k n : Nat) (w : Int32) : Prop := zag b σ τ ∧ zn τ = b + 2 ∧ zk τ b = (1, 8) ∧ zk τ (b + 1) = (2, n) ∧ zI τ 512 b = nI k ∧ zR τ 513 b = some (b + 1) ∧ ∀ j, j < n → zi τ (b + 1) j = w
theorem zag_qw {B a : Nat} {σ : ZS} {f : Nat → Int32} (h : B ≤ a) : zag B σ (qw σ a f) := ⟨Nat.le_refl _, fun b hb => ⟨rfl, fun _ => rfl, fun _ => rfl, fun _ => rfl, fun _ => if_neg (by omega), fun _ => rfl, fun _ => rfl⟩⟩
theorem max0 {n : Nat} (h : n < 2147483648) : (if (nI 0) < (nI n) then nI n else nI 0) = nI n := by
  split
  · rfl
  · next q =>
    rw [Int32.lt_iff_toInt_lt, nI_toInt h, nI_toInt (by decide)] at q
    rw [show n = 0 by omega]
set_option maxHeartbeats 4000000 in
set_option maxRecDepth 100000 in
theorem e_X8_init {σ : ZS} {b : Nat} (hk : zk σ b = (1, 8)) (hz : zn σ = b + 1) (k n : Nat) (hn : n ≤ 60) (w : Int32) : ZC M_X8_init [Ar (some b), Ai (nI k), Ai (nI n), Ai w] σ (fun r τ => r = none ∧ rwN σ τ b k n w) := by
  have hne : b ≠ zn σ := by omega
  have hne9 : ¬ b = σ.2.2.2.2.2.2.2 := hne
  refine ZC_of (ls := [some (Ar (some b)), some (Ai (nI k)), some (Ai (nI n)), some (Ai w)]) (by decide) (Nat.le_of_ble_eq_true rfl) rfl ?_
  refine ZV_aload_n (n := 1) dX8_init_0 rfl rfl rfl ?_
  refine ZV_objInit (n := 4) dX8_init_1 wd_4_46 wd_1_24 wd_1_25 (Nat.le_of_ble_eq_true rfl) (Nat.le_of_ble_eq_true rfl) rfl ?_
  refine ZV_aload_n (n := 5) dX8_init_4 rfl rfl rfl ?_
  refine ZV_iload_n (n := 6) dX8_init_5 rfl rfl rfl ?_
  refine ZV_putI (n := 9) dX8_init_6 fl_X8_7 rfl (Or.inr ⟨rfl, rfl, rfl⟩) rfl (fun h => absurd h (by decide)) rfl hk ?_
  refine ZV_aload_n (n := 10) dX8_init_9 rfl rfl rfl ?_
  refine ZV_iconst (v := nI 0) (n := 11) dX8_init_10 rfl rfl ?_
  refine ZV_iload_n (n := 12) dX8_init_11 rfl rfl rfl ?_
  refine ZV_maxI (n := 15) dX8_init_12 rfl wd_4_47 (Nat.le_of_ble_eq_true rfl) (Nat.le_of_ble_eq_true rfl) ?_
  rw [max0 (by omega)]
  refine ZV_kw (ks' := 0 + n) (by show 0 + n ≤ 60; omega) ?_
  refine ZV_newI (N := n) (n := 17) dX8_init_15 rfl rfl (by omega) ?_
  refine ZV_putR (n := 20) dX8_init_17 fl_X8_19 rfl (Or.inr ⟨rfl, rfl, rfl⟩) rfl rfl (Eq.trans (if_neg hne) hk) ?_
  refine ZV_aload_n (n := 21) dX8_init_20 rfl rfl rfl ?_
  refine ZV_getRv (w := some (zn σ)) (n := 24) dX8_init_21 fl_X8_19 rfl rfl rfl (Eq.trans (if_neg hne) hk) (if_pos ⟨rfl, rfl⟩) ?_
  refine ZV_iload_n (n := 25) dX8_init_24 rfl rfl rfl ?_
  refine call_X8_23 (e_fill (N := n) (by exact if_pos rfl) (by omega) w) rfl dX8_init_25 (Nat.le_of_ble_eq_true rfl) (Nat.le_of_ble_eq_true rfl) rfl (fun r9 σ9 hp9 => ?_)
  obtain ⟨rfl, f, rfl, hf⟩ := hp9
  refine ZV_vret dX8_init_28 rfl ?_
  refine ⟨rfl, ?_, ?_, ?_, ?_, ?_, ?_, ?_⟩
  · refine zag_tr ?_ (zag_qw (show b ≤ zn σ by omega))
    repeat (first | exact zag_rf | refine zag_tr ?_ (zag_pI (Nat.le_refl _)) | refine zag_tr ?_ (zag_pL (Nat.le_refl _)) | refine zag_tr ?_ (zag_pR (Nat.le_refl _)) | refine zag_tr ?_ (zag_qi (show b ≤ zn σ by omega)) | refine zag_tr ?_ (zag_new (show b ≤ zn σ by omega)))
  · show zn σ + 1 = b + 2
    omega
  · exact Eq.trans (if_neg hne) hk
  · rw [← hz]
    exact if_pos rfl
  · exact (by simp [zI, zL, zR, pI, pR, pL, qi, qw, zNew, z2, zn, hne9])
  · rw [← hz]
    exact if_pos ⟨rfl, rfl⟩
  · intro j hj
    rw [← hz]
    exact (if_pos rfl).trans (hf j hj)
set_option maxHeartbeats 4000000 in
set_option maxRecDepth 100000 in
theorem e_X7_init_7 {σ : ZS} {b : Nat} (hk : zk σ b = (1, 7)) : ZC M_X7_init [Ar (some b)] σ (fun r τ => r = none ∧ τ = pL σ 448 b (lN 0)) := by
  refine ZC_of (ls := [some (Ar (some b))]) (by decide) (Nat.le_of_ble_eq_true rfl) rfl ?_
  refine ZV_aload_n (n := 1) dX7_init_0 rfl rfl rfl ?_
  refine ZV_objInit (n := 4) dX7_init_1 wd_1_121 wd_1_24 wd_1_25 (Nat.le_of_ble_eq_true rfl) (Nat.le_of_ble_eq_true rfl) rfl ?_
  refine ZV_aload_n (n := 5) dX7_init_4 rfl rfl rfl ?_
  refine ZV_lconst (v := lN 0) (n := 6) dX7_init_5 rfl rfl ?_
  refine ZV_putL (n := 9) dX7_init_6 fl_X7_7_7 rfl (Or.inl rfl) rfl rfl hk ?_
  refine ZV_vret dX7_init_9 rfl ?_
  exact ⟨rfl, rfl⟩
set_option maxHeartbeats 4000000 in
set_option maxRecDepth 100000 in
theorem e_X7_init_5 {σ : ZS} {b : Nat} (hk : zk σ b = (1, 5)) : ZC M_X7_init [Ar (some b)] σ (fun r τ => r = none ∧ τ = pL σ 448 b (lN 0)) := by
  refine ZC_of (ls := [some (Ar (some b))]) (by decide) (Nat.le_of_ble_eq_true rfl) rfl ?_
  refine ZV_aload_n (n := 1) dX7_init_0 rfl rfl rfl ?_
  refine ZV_objInit (n := 4) dX7_init_1 wd_1_121 wd_1_24 wd_1_25 (Nat.le_of_ble_eq_true rfl) (Nat.le_of_ble_eq_true rfl) rfl ?_
  refine ZV_aload_n (n := 5) dX7_init_4 rfl rfl rfl ?_
  refine ZV_lconst (v := lN 0) (n := 6) dX7_init_5 rfl rfl ?_
  refine ZV_putL (n := 9) dX7_init_6 fl_X7_7_5 rfl (Or.inl rfl) rfl rfl hk ?_
  refine ZV_vret dX7_init_9 rfl ?_
  exact ⟨rfl, rfl⟩
set_option maxHeartbeats 4000000 in
set_option maxRecDepth 100000 in
theorem e_X7_init_0 {σ : ZS} {b : Nat} (hk : zk σ b = (1, 0)) : ZC M_X7_init [Ar (some b)] σ (fun r τ => r = none ∧ τ = pL σ 448 b (lN 0)) := by
  refine ZC_of (ls := [some (Ar (some b))]) (by decide) (Nat.le_of_ble_eq_true rfl) rfl ?_
  refine ZV_aload_n (n := 1) dX7_init_0 rfl rfl rfl ?_
  refine ZV_objInit (n := 4) dX7_init_1 wd_1_121 wd_1_24 wd_1_25 (Nat.le_of_ble_eq_true rfl) (Nat.le_of_ble_eq_true rfl) rfl ?_
  refine ZV_aload_n (n := 5) dX7_init_4 rfl rfl rfl ?_
  refine ZV_lconst (v := lN 0) (n := 6) dX7_init_5 rfl rfl ?_
  refine ZV_putL (n := 9) dX7_init_6 fl_X7_7_0 rfl (Or.inl rfl) rfl rfl hk ?_
  refine ZV_vret dX7_init_9 rfl ?_
  exact ⟨rfl, rfl⟩
set_option maxHeartbeats 4000000 in
set_option maxRecDepth 100000 in
theorem e_X7_init_3 {σ : ZS} {b : Nat} (hk : zk σ b = (1, 3)) : ZC M_X7_init [Ar (some b)] σ (fun r τ => r = none ∧ τ = pL σ 448 b (lN 0)) := by
  refine ZC_of (ls := [some (Ar (some b))]) (by decide) (Nat.le_of_ble_eq_true rfl) rfl ?_
  refine ZV_aload_n (n := 1) dX7_init_0 rfl rfl rfl ?_
  refine ZV_objInit (n := 4) dX7_init_1 wd_1_121 wd_1_24 wd_1_25 (Nat.le_of_ble_eq_true rfl) (Nat.le_of_ble_eq_true rfl) rfl ?_
  refine ZV_aload_n (n := 5) dX7_init_4 rfl rfl rfl ?_
  refine ZV_lconst (v := lN 0) (n := 6) dX7_init_5 rfl rfl ?_
  refine ZV_putL (n := 9) dX7_init_6 fl_X7_7_3 rfl (Or.inl rfl) rfl rfl hk ?_
  refine ZV_vret dX7_init_9 rfl ?_
  exact ⟨rfl, rfl⟩
set_option maxHeartbeats 4000000 in
set_option maxRecDepth 100000 in
theorem e_X7_init_6 {σ : ZS} {b : Nat} (hk : zk σ b = (1, 6)) : ZC M_X7_init [Ar (some b)] σ (fun r τ => r = none ∧ τ = pL σ 448 b (lN 0)) := by
  refine ZC_of (ls := [some (Ar (some b))]) (by decide) (Nat.le_of_ble_eq_true rfl) rfl ?_
  refine ZV_aload_n (n := 1) dX7_init_0 rfl rfl rfl ?_
  refine ZV_objInit (n := 4) dX7_init_1 wd_1_121 wd_1_24 wd_1_25 (Nat.le_of_ble_eq_true rfl) (Nat.le_of_ble_eq_true rfl) rfl ?_
  refine ZV_aload_n (n := 5) dX7_init_4 rfl rfl rfl ?_
  refine ZV_lconst (v := lN 0) (n := 6) dX7_init_5 rfl rfl ?_
  refine ZV_putL (n := 9) dX7_init_6 fl_X7_7_6 rfl (Or.inl rfl) rfl rfl hk ?_
  refine ZV_vret dX7_init_9 rfl ?_
  exact ⟨rfl, rfl⟩
set_option maxHeartbeats 4000000 in
set_option maxRecDepth 100000 in
theorem e_X7_init_1 {σ : ZS} {b : Nat} (hk : zk σ b = (1, 1)) : ZC M_X7_init [Ar (some b)] σ (fun r τ => r = none ∧ τ = pL σ 448 b (lN 0)) := by
  refine ZC_of (ls := [some (Ar (some b))]) (by decide) (Nat.le_of_ble_eq_true rfl) rfl ?_
  refine ZV_aload_n (n := 1) dX7_init_0 rfl rfl rfl ?_
  refine ZV_objInit (n := 4) dX7_init_1 wd_1_121 wd_1_24 wd_1_25 (Nat.le_of_ble_eq_true rfl) (Nat.le_of_ble_eq_true rfl) rfl ?_
  refine ZV_aload_n (n := 5) dX7_init_4 rfl rfl rfl ?_
  refine ZV_lconst (v := lN 0) (n := 6) dX7_init_5 rfl rfl ?_
  refine ZV_putL (n := 9) dX7_init_6 fl_X7_7_1 rfl (Or.inl rfl) rfl rfl hk ?_
  refine ZV_vret dX7_init_9 rfl ?_
  exact ⟨rfl, rfl⟩
set_option maxHeartbeats 4000000 in
set_option maxRecDepth 100000 in
theorem e_X0_init_0 {σ : ZS} {b : Nat} (hk : zk σ b = (1, 0)) : ZC M_X0_init [Ar (some b)] σ (fun r τ => r = none ∧ τ = pL σ 448 b (lN 0)) := by
  refine ZC_of (ls := [some (Ar (some b))]) (by decide) (Nat.le_of_ble_eq_true rfl) rfl ?_
  refine ZV_aload_n (n := 1) dX0_init_0 rfl rfl rfl ?_
  refine call_X0_1 (e_X7_init_0 hk) rfl dX0_init_1 (Nat.le_of_ble_eq_true rfl) (Nat.le_of_ble_eq_true rfl) rfl (fun r9 σ9 hp9 => ?_)
  obtain ⟨rfl, rfl⟩ := hp9
  refine ZV_vret dX0_init_4 rfl ?_
  exact ⟨rfl, rfl⟩
set_option maxHeartbeats 4000000 in
set_option maxRecDepth 100000 in
theorem e_X0_init_3 {σ : ZS} {b : Nat} (hk : zk σ b = (1, 3)) : ZC M_X0_init [Ar (some b)] σ (fun r τ => r = none ∧ τ = pL σ 448 b (lN 0)) := by
  refine ZC_of (ls := [some (Ar (some b))]) (by decide) (Nat.le_of_ble_eq_true rfl) rfl ?_
  refine ZV_aload_n (n := 1) dX0_init_0 rfl rfl rfl ?_
  refine call_X0_1 (e_X7_init_3 hk) rfl dX0_init_1 (Nat.le_of_ble_eq_true rfl) (Nat.le_of_ble_eq_true rfl) rfl (fun r9 σ9 hp9 => ?_)
  obtain ⟨rfl, rfl⟩ := hp9
  refine ZV_vret dX0_init_4 rfl ?_
  exact ⟨rfl, rfl⟩
set_option maxHeartbeats 4000000 in
set_option maxRecDepth 100000 in
theorem e_X0_init_6 {σ : ZS} {b : Nat} (hk : zk σ b = (1, 6)) : ZC M_X0_init [Ar (some b)] σ (fun r τ => r = none ∧ τ = pL σ 448 b (lN 0)) := by
  refine ZC_of (ls := [some (Ar (some b))]) (by decide) (Nat.le_of_ble_eq_true rfl) rfl ?_
  refine ZV_aload_n (n := 1) dX0_init_0 rfl rfl rfl ?_
  refine call_X0_1 (e_X7_init_6 hk) rfl dX0_init_1 (Nat.le_of_ble_eq_true rfl) (Nat.le_of_ble_eq_true rfl) rfl (fun r9 σ9 hp9 => ?_)
  obtain ⟨rfl, rfl⟩ := hp9
  refine ZV_vret dX0_init_4 rfl ?_
  exact ⟨rfl, rfl⟩
set_option maxHeartbeats 4000000 in
set_option maxRecDepth 100000 in
theorem e_X3_init_3 {σ : ZS} {b : Nat} (hk : zk σ b = (1, 3)) : ZC M_X3_init [Ar (some b)] σ (fun r τ => r = none ∧ τ = pL σ 448 b (lN 0)) := by
  refine ZC_of (ls := [some (Ar (some b))]) (by decide) (Nat.le_of_ble_eq_true rfl) rfl ?_
  refine ZV_aload_n (n := 1) dX3_init_0 rfl rfl rfl ?_
  refine call_X3_1 (e_X0_init_3 hk) rfl dX3_init_1 (Nat.le_of_ble_eq_true rfl) (Nat.le_of_ble_eq_true rfl) rfl (fun r9 σ9 hp9 => ?_)
  obtain ⟨rfl, rfl⟩ := hp9
  refine ZV_vret dX3_init_4 rfl ?_
  exact ⟨rfl, rfl⟩
set_option maxHeartbeats 4000000 in
set_option maxRecDepth 100000 in
theorem e_X3_init_6 {σ : ZS} {b : Nat} (hk : zk σ b = (1, 6)) : ZC M_X3_init [Ar (some b)] σ (fun r τ => r = none ∧ τ = pL σ 448 b (lN 0)) := by
  refine ZC_of (ls := [some (Ar (some b))]) (by decide) (Nat.le_of_ble_eq_true rfl) rfl ?_
  refine ZV_aload_n (n := 1) dX3_init_0 rfl rfl rfl ?_
  refine call_X3_1 (e_X0_init_6 hk) rfl dX3_init_1 (Nat.le_of_ble_eq_true rfl) (Nat.le_of_ble_eq_true rfl) rfl (fun r9 σ9 hp9 => ?_)
  obtain ⟨rfl, rfl⟩ := hp9
  refine ZV_vret dX3_init_4 rfl ?_
  exact ⟨rfl, rfl⟩
set_option maxHeartbeats 4000000 in
set_option maxRecDepth 100000 in
theorem e_X5_init_5 {σ : ZS} {b : Nat} (hk : zk σ b = (1, 5)) : ZC M_X5_init [Ar (some b)] σ (fun r τ => r = none ∧ τ = pL σ 448 b (lN 0)) := by
  refine ZC_of (ls := [some (Ar (some b))]) (by decide) (Nat.le_of_ble_eq_true rfl) rfl ?_
  refine ZV_aload_n (n := 1) dX5_init_0 rfl rfl rfl ?_
  refine call_X5_1 (e_X7_init_5 hk) rfl dX5_init_1 (Nat.le_of_ble_eq_true rfl) (Nat.le_of_ble_eq_true rfl) rfl (fun r9 σ9 hp9 => ?_)
  obtain ⟨rfl, rfl⟩ := hp9
  refine ZV_vret dX5_init_4 rfl ?_
  exact ⟨rfl, rfl⟩
set_option maxHeartbeats 4000000 in
set_option maxRecDepth 100000 in
theorem e_X6_init_6 {σ : ZS} {b : Nat} (hk : zk σ b = (1, 6)) : ZC M_X6_init [Ar (some b)] σ (fun r τ => r = none ∧ τ = pL σ 448 b (lN 0)) := by
  refine ZC_of (ls := [some (Ar (some b))]) (by decide) (Nat.le_of_ble_eq_true rfl) rfl ?_
  refine ZV_aload_n (n := 1) dX6_init_0 rfl rfl rfl ?_
  refine call_X6_1 (e_X3_init_6 hk) rfl dX6_init_1 (Nat.le_of_ble_eq_true rfl) (Nat.le_of_ble_eq_true rfl) rfl (fun r9 σ9 hp9 => ?_)
  obtain ⟨rfl, rfl⟩ := hp9
  refine ZV_vret dX6_init_4 rfl ?_
  exact ⟨rfl, rfl⟩
set_option maxHeartbeats 4000000 in
set_option maxRecDepth 100000 in
theorem e_X1_init_1 {σ : ZS} {b : Nat} (hk : zk σ b = (1, 1)) : ZC M_X1_init [Ar (some b)] σ (fun r τ => r = none ∧ τ = pL σ 448 b (lN 0)) := by
  refine ZC_of (ls := [some (Ar (some b))]) (by decide) (Nat.le_of_ble_eq_true rfl) rfl ?_
  refine ZV_aload_n (n := 1) dX1_init_0 rfl rfl rfl ?_
  refine call_X1_1 (e_X7_init_1 hk) rfl dX1_init_1 (Nat.le_of_ble_eq_true rfl) (Nat.le_of_ble_eq_true rfl) rfl (fun r9 σ9 hp9 => ?_)
  obtain ⟨rfl, rfl⟩ := hp9
  refine ZV_vret dX1_init_4 rfl ?_
  exact ⟨rfl, rfl⟩
