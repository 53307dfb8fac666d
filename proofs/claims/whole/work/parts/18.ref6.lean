def sdP (k : Nat) (p : Int32) : Int32 := if k = 1 then p - nI 12 else if k = 3 then p - nI 7 else if k = 4 then p - nI 7 - nI 12 else if k = 5 then nI 35 else p
def trP (k : Nat) : Int64 := if k = 1 then lN 11 else if k = 3 then lN 101 else if k = 4 then lN 1101 else if k = 5 then lN 10000 else lN 1
def leP (k : Nat) : Nat := if k = 4 then 23 else if k = 2 ∨ k = 3 then 28 else 21
def leT (k : Nat) : Int64 := if k = 4 then lN 100000 else lN 0
def moP (k : Nat) : Nat := if 2 ≤ k ∧ k ≤ 4 then 82 else 108
def sp_asks (T : TS) (p w q : Int32) : Int32 × TS := if inB p (g_np T) = true ∧ inB w 3 = true then (if w = nI 0 then sOk (h_tr T (g_tr T + trP (g_pk T p.toNatClampNeg))) (sdP (g_pk T p.toNatClampNeg) q) else if w = nI 1 then sOk (h_tr T (g_tr T + leT (g_pk T p.toNatClampNeg))) (nI (leP (g_pk T p.toNatClampNeg))) else sOk T (nI (moP (g_pk T p.toNatClampNeg)))) else (-2000, h_su T (-2))
set_option maxHeartbeats 4000000 in
set_option maxRecDepth 100000 in
theorem c_sounds {x : Nat} {σ : ZS} {T : TS} (hR : rR x σ T) (hI : tI T) (k : Nat) (hk : k ≤ 5) (p : Int32) : ZC M_X12_sounds [Ar (some x), Ai (nI k), Ai p] σ (fun y0 τ0 => y0 = some (Ai (sdP k p)) ∧ rR x τ0 (h_tr T (g_tr T + trP k))) := by
  refine ZC_of (ls := [some (Ar (some x)), some (Ai (nI k)), some (Ai p)]) (by decide) (Nat.le_of_ble_eq_true rfl) rfl ?_
  refine ZV_iload_n (n := 1) dX12_sounds_0 rfl rfl rfl ?_
  by_cases h1_1 : k = 1
  · subst h1_1
    refine ZV_tableIn (tgt := 36) dX12_sounds_1 (by decide) (by decide) rfl (by decide) ?_
    refine ZV_aload_n (n := 37) dX12_sounds_36 rfl rfl rfl ?_
    refine ZV_dup (n := 38) dX12_sounds_37 rfl rfl ?_
    refine ZV_getLv (n := 41) dX12_sounds_38 fl_X12_156 rfl rfl rfl (rf_sh hR :).1 (rf_trace hR :) ?_
    refine ZV_ldc2 (v := lN 11) (n := 44) dX12_sounds_41 wd_5_107 rfl ?_
    refine ZV_ladd (n := 45) dX12_sounds_44 rfl ?_
    refine ZV_putL (n := 48) dX12_sounds_45 fl_X12_156 rfl (Or.inl rfl) rfl rfl (rf_sh hR :).1 ?_
    refine ZV_gen (P := fun τ => rR x τ _) (rR_trace hR _) (fun σ hR => ?_)
    refine ZV_iload_n (n := 49) dX12_sounds_48 rfl rfl rfl ?_
    refine ZV_bipush (v := nI 12) (n := 51) dX12_sounds_49 rfl rfl ?_
    refine ZV_isub (n := 52) dX12_sounds_51 rfl ?_
    refine ZV_iret dX12_sounds_52 rfl ?_
    exact ⟨rfl, hR⟩
  by_cases h1_2 : k = 2
  · subst h1_2
    refine ZV_tableIn (tgt := 105) dX12_sounds_1 (by decide) (by decide) rfl (by decide) ?_
    refine ZV_aload_n (n := 106) dX12_sounds_105 rfl rfl rfl ?_
    refine ZV_dup (n := 107) dX12_sounds_106 rfl rfl ?_
    refine ZV_getLv (n := 110) dX12_sounds_107 fl_X12_156 rfl rfl rfl (rf_sh hR :).1 (rf_trace hR :) ?_
    refine ZV_lconst (v := lN 1) (n := 111) dX12_sounds_110 rfl rfl ?_
    refine ZV_ladd (n := 112) dX12_sounds_111 rfl ?_
    refine ZV_putL (n := 115) dX12_sounds_112 fl_X12_156 rfl (Or.inl rfl) rfl rfl (rf_sh hR :).1 ?_
    refine ZV_gen (P := fun τ => rR x τ _) (rR_trace hR _) (fun σ hR => ?_)
    refine ZV_iload_n (n := 116) dX12_sounds_115 rfl rfl rfl ?_
    refine ZV_iret dX12_sounds_116 rfl ?_
    first | exact ⟨rfl, hR⟩ | (refine ⟨by simp [sdP, ], ?_⟩; rw [show trP k = lN 1 from by simp [trP, ]]; exact hR)
  by_cases h1_3 : k = 3
  · subst h1_3
    refine ZV_tableIn (tgt := 53) dX12_sounds_1 (by decide) (by decide) rfl (by decide) ?_
    refine ZV_aload_n (n := 54) dX12_sounds_53 rfl rfl rfl ?_
    refine ZV_dup (n := 55) dX12_sounds_54 rfl rfl ?_
    refine ZV_getLv (n := 58) dX12_sounds_55 fl_X12_156 rfl rfl rfl (rf_sh hR :).1 (rf_trace hR :) ?_
    refine ZV_ldc2 (v := lN 101) (n := 61) dX12_sounds_58 wd_5_108 rfl ?_
    refine ZV_ladd (n := 62) dX12_sounds_61 rfl ?_
    refine ZV_putL (n := 65) dX12_sounds_62 fl_X12_156 rfl (Or.inl rfl) rfl rfl (rf_sh hR :).1 ?_
    refine ZV_gen (P := fun τ => rR x τ _) (rR_trace hR _) (fun σ hR => ?_)
    refine ZV_iload_n (n := 66) dX12_sounds_65 rfl rfl rfl ?_
    refine ZV_bipush (v := nI 7) (n := 68) dX12_sounds_66 rfl rfl ?_
    refine ZV_isub (n := 69) dX12_sounds_68 rfl ?_
    refine ZV_iret dX12_sounds_69 rfl ?_
    exact ⟨rfl, hR⟩
  by_cases h1_4 : k = 4
  · subst h1_4
    refine ZV_tableIn (tgt := 70) dX12_sounds_1 (by decide) (by decide) rfl (by decide) ?_
    refine ZV_aload_n (n := 71) dX12_sounds_70 rfl rfl rfl ?_
    refine ZV_dup (n := 72) dX12_sounds_71 rfl rfl ?_
    refine ZV_getLv (n := 75) dX12_sounds_72 fl_X12_156 rfl rfl rfl (rf_sh hR :).1 (rf_trace hR :) ?_
    refine ZV_ldc2 (v := lN 1101) (n := 78) dX12_sounds_75 wd_5_109 rfl ?_
    refine ZV_ladd (n := 79) dX12_sounds_78 rfl ?_
    refine ZV_putL (n := 82) dX12_sounds_79 fl_X12_156 rfl (Or.inl rfl) rfl rfl (rf_sh hR :).1 ?_
    refine ZV_gen (P := fun τ => rR x τ _) (rR_trace hR _) (fun σ hR => ?_)
    refine ZV_iload_n (n := 83) dX12_sounds_82 rfl rfl rfl ?_
    refine ZV_bipush (v := nI 7) (n := 85) dX12_sounds_83 rfl rfl ?_
    refine ZV_isub (n := 86) dX12_sounds_85 rfl ?_
    refine ZV_bipush (v := nI 12) (n := 88) dX12_sounds_86 rfl rfl ?_
    refine ZV_isub (n := 89) dX12_sounds_88 rfl ?_
    refine ZV_iret dX12_sounds_89 rfl ?_
    exact ⟨rfl, hR⟩
  by_cases h1_5 : k = 5
  · subst h1_5
    refine ZV_tableIn (tgt := 90) dX12_sounds_1 (by decide) (by decide) rfl (by decide) ?_
    refine ZV_aload_n (n := 91) dX12_sounds_90 rfl rfl rfl ?_
    refine ZV_dup (n := 92) dX12_sounds_91 rfl rfl ?_
    refine ZV_getLv (n := 95) dX12_sounds_92 fl_X12_156 rfl rfl rfl (rf_sh hR :).1 (rf_trace hR :) ?_
    refine ZV_ldc2 (v := lN 10000) (n := 98) dX12_sounds_95 wd_5_110 rfl ?_
    refine ZV_ladd (n := 99) dX12_sounds_98 rfl ?_
    refine ZV_putL (n := 102) dX12_sounds_99 fl_X12_156 rfl (Or.inl rfl) rfl rfl (rf_sh hR :).1 ?_
    refine ZV_gen (P := fun τ => rR x τ _) (rR_trace hR _) (fun σ hR => ?_)
    refine ZV_bipush (v := nI 35) (n := 104) dX12_sounds_102 rfl rfl ?_
    refine ZV_iret dX12_sounds_104 rfl ?_
    exact ⟨rfl, hR⟩
  refine ZV_tableOut (tgt := 105) dX12_sounds_1 (by rw [nI_toInt (by omega)]; omega) (by decide) ?_
  refine ZV_aload_n (n := 106) dX12_sounds_105 rfl rfl rfl ?_
  refine ZV_dup (n := 107) dX12_sounds_106 rfl rfl ?_
  refine ZV_getLv (n := 110) dX12_sounds_107 fl_X12_156 rfl rfl rfl (rf_sh hR :).1 (rf_trace hR :) ?_
  refine ZV_lconst (v := lN 1) (n := 111) dX12_sounds_110 rfl rfl ?_
  refine ZV_ladd (n := 112) dX12_sounds_111 rfl ?_
  refine ZV_putL (n := 115) dX12_sounds_112 fl_X12_156 rfl (Or.inl rfl) rfl rfl (rf_sh hR :).1 ?_
  refine ZV_gen (P := fun τ => rR x τ _) (rR_trace hR _) (fun σ hR => ?_)
  refine ZV_iload_n (n := 116) dX12_sounds_115 rfl rfl rfl ?_
  refine ZV_iret dX12_sounds_116 rfl ?_
  first | exact ⟨rfl, hR⟩ | (refine ⟨by simp [sdP, h1_1, h1_2, h1_3, h1_4, h1_5], ?_⟩; rw [show trP k = lN 1 from by simp [trP, h1_1, h1_2, h1_3, h1_4, h1_5]]; exact hR)
set_option maxHeartbeats 4000000 in
set_option maxRecDepth 100000 in
theorem c_leastOf {x : Nat} {σ : ZS} {T : TS} (hR : rR x σ T) (hI : tI T) (k : Nat) (hk : k ≤ 5) : ZC M_X12_leastOf [Ar (some x), Ai (nI k)] σ (fun y0 τ0 => y0 = some (Ai (nI (leP k))) ∧ rR x τ0 (h_tr T (g_tr T + leT k))) := by
  refine ZC_of (ls := [some (Ar (some x)), some (Ai (nI k))]) (by decide) (Nat.le_of_ble_eq_true rfl) rfl ?_
  refine ZV_aload_n (n := 1) dX12_leastOf_0 rfl rfl rfl ?_
  refine ZV_dup (n := 2) dX12_leastOf_1 rfl rfl ?_
  refine ZV_getLv (n := 5) dX12_leastOf_2 fl_X12_156 rfl rfl rfl (rf_sh hR :).1 (rf_trace hR :) ?_
  refine ZV_iload_n (n := 6) dX12_leastOf_5 rfl rfl rfl ?_
  refine ZV_iconst (v := nI 4) (n := 7) dX12_leastOf_6 rfl rfl ?_
  refine ZV_icmp_neN (tgt := 16) (n := 10) dX12_leastOf_7 (by decide) rfl (by omega) (by omega) (fun h7 => ?_) (fun h7 => ?_)
  · skip
    refine ZV_lconst (v := lN 0) (n := 17) dX12_leastOf_16 rfl rfl ?_
    refine ZV_ladd (n := 18) dX12_leastOf_17 rfl ?_
    refine ZV_putL (n := 21) dX12_leastOf_18 fl_X12_156 rfl (Or.inl rfl) rfl rfl (rf_sh hR :).1 ?_
    refine ZV_gen (P := fun τ => rR x τ _) (rR_trace hR _) (fun σ hR => ?_)
    refine ZV_iload_n (n := 22) dX12_leastOf_21 rfl rfl rfl ?_
    refine ZV_iconst (v := nI 4) (n := 23) dX12_leastOf_22 rfl rfl ?_
    refine ZV_icmp_neN (tgt := 31) (n := 26) dX12_leastOf_23 (by decide) rfl (by omega) (by omega) (fun h23 => ?_) (fun h23 => ?_)
    · skip
      refine ZV_iload_n (n := 32) dX12_leastOf_31 rfl rfl rfl ?_
      refine ZV_iconst (v := nI 2) (n := 33) dX12_leastOf_32 rfl rfl ?_
      refine ZV_icmp_eqN (tgt := 41) (n := 36) dX12_leastOf_33 (by decide) rfl (by omega) (by omega) (fun h33 => ?_) (fun h33 => ?_)
      · skip
        refine ZV_bipush (v := nI 28) (n := 43) dX12_leastOf_41 rfl rfl ?_
        refine ZV_goto (tgt := 48) dX12_leastOf_43 (by decide) ?_
        refine ZV_iret dX12_leastOf_48 rfl ?_
        first | (exfalso; omega) | (refine ⟨by simp [leP, h7, h23, h33], ?_⟩; first | (rw [show leT k = lN 100000 from if_pos h7]; exact hR) | (rw [show leT k = lN 0 from if_neg h7]; exact hR))
      · skip
        refine ZV_iload_n (n := 37) dX12_leastOf_36 rfl rfl rfl ?_
        refine ZV_iconst (v := nI 3) (n := 38) dX12_leastOf_37 rfl rfl ?_
        refine ZV_icmp_neN (tgt := 46) (n := 41) dX12_leastOf_38 (by decide) rfl (by omega) (by omega) (fun h38 => ?_) (fun h38 => ?_)
        · skip
          refine ZV_bipush (v := nI 21) (n := 48) dX12_leastOf_46 rfl rfl ?_
          refine ZV_iret dX12_leastOf_48 rfl ?_
          first | (exfalso; omega) | (refine ⟨by simp [leP, h7, h23, h33, h38], ?_⟩; first | (rw [show leT k = lN 100000 from if_pos h7]; exact hR) | (rw [show leT k = lN 0 from if_neg h7]; exact hR))
        · skip
          refine ZV_bipush (v := nI 28) (n := 43) dX12_leastOf_41 rfl rfl ?_
          refine ZV_goto (tgt := 48) dX12_leastOf_43 (by decide) ?_
          refine ZV_iret dX12_leastOf_48 rfl ?_
          first | (exfalso; omega) | (refine ⟨by simp [leP, h7, h23, h33, h38], ?_⟩; first | (rw [show leT k = lN 100000 from if_pos h7]; exact hR) | (rw [show leT k = lN 0 from if_neg h7]; exact hR))
    · skip
      refine ZV_bipush (v := nI 23) (n := 28) dX12_leastOf_26 rfl rfl ?_
      refine ZV_goto (tgt := 48) dX12_leastOf_28 (by decide) ?_
      refine ZV_iret dX12_leastOf_48 rfl ?_
      first | (exfalso; omega) | (refine ⟨by simp [leP, h7, h23], ?_⟩; first | (rw [show leT k = lN 100000 from if_pos h7]; exact hR) | (rw [show leT k = lN 0 from if_neg h7]; exact hR))
  · skip
    refine ZV_ldc2 (v := lN 100000) (n := 13) dX12_leastOf_10 wd_5_115 rfl ?_
    refine ZV_goto (tgt := 17) dX12_leastOf_13 (by decide) ?_
    refine ZV_ladd (n := 18) dX12_leastOf_17 rfl ?_
    refine ZV_putL (n := 21) dX12_leastOf_18 fl_X12_156 rfl (Or.inl rfl) rfl rfl (rf_sh hR :).1 ?_
    refine ZV_gen (P := fun τ => rR x τ _) (rR_trace hR _) (fun σ hR => ?_)
    refine ZV_iload_n (n := 22) dX12_leastOf_21 rfl rfl rfl ?_
    refine ZV_iconst (v := nI 4) (n := 23) dX12_leastOf_22 rfl rfl ?_
    refine ZV_icmp_neN (tgt := 31) (n := 26) dX12_leastOf_23 (by decide) rfl (by omega) (by omega) (fun h23 => ?_) (fun h23 => ?_)
    · skip
      refine ZV_iload_n (n := 32) dX12_leastOf_31 rfl rfl rfl ?_
      refine ZV_iconst (v := nI 2) (n := 33) dX12_leastOf_32 rfl rfl ?_
      refine ZV_icmp_eqN (tgt := 41) (n := 36) dX12_leastOf_33 (by decide) rfl (by omega) (by omega) (fun h33 => ?_) (fun h33 => ?_)
      · skip
        refine ZV_bipush (v := nI 28) (n := 43) dX12_leastOf_41 rfl rfl ?_
        refine ZV_goto (tgt := 48) dX12_leastOf_43 (by decide) ?_
        refine ZV_iret dX12_leastOf_48 rfl ?_
        first | (exfalso; omega) | (refine ⟨by simp [leP, h7, h23, h33], ?_⟩; first | (rw [show leT k = lN 100000 from if_pos h7]; exact hR) | (rw [show leT k = lN 0 from if_neg h7]; exact hR))
      · skip
        refine ZV_iload_n (n := 37) dX12_leastOf_36 rfl rfl rfl ?_
        refine ZV_iconst (v := nI 3) (n := 38) dX12_leastOf_37 rfl rfl ?_
        refine ZV_icmp_neN (tgt := 46) (n := 41) dX12_leastOf_38 (by decide) rfl (by omega) (by omega) (fun h38 => ?_) (fun h38 => ?_)
        · skip
          refine ZV_bipush (v := nI 21) (n := 48) dX12_leastOf_46 rfl rfl ?_
          refine ZV_iret dX12_leastOf_48 rfl ?_
          first | (exfalso; omega) | (refine ⟨by simp [leP, h7, h23, h33, h38], ?_⟩; first | (rw [show leT k = lN 100000 from if_pos h7]; exact hR) | (rw [show leT k = lN 0 from if_neg h7]; exact hR))
        · skip
          refine ZV_bipush (v := nI 28) (n := 43) dX12_leastOf_41 rfl rfl ?_
          refine ZV_goto (tgt := 48) dX12_leastOf_43 (by decide) ?_
          refine ZV_iret dX12_leastOf_48 rfl ?_
          first | (exfalso; omega) | (refine ⟨by simp [leP, h7, h23, h33, h38], ?_⟩; first | (rw [show leT k = lN 100000 from if_pos h7]; exact hR) | (rw [show leT k = lN 0 from if_neg h7]; exact hR))
    · skip
      refine ZV_bipush (v := nI 23) (n := 28) dX12_leastOf_26 rfl rfl ?_
      refine ZV_goto (tgt := 48) dX12_leastOf_28 (by decide) ?_
      refine ZV_iret dX12_leastOf_48 rfl ?_
      first | (exfalso; omega) | (refine ⟨by simp [leP, h7, h23], ?_⟩; first | (rw [show leT k = lN 100000 from if_pos h7]; exact hR) | (rw [show leT k = lN 0 from if_neg h7]; exact hR))
set_option maxHeartbeats 4000000 in
set_option maxRecDepth 100000 in
theorem c_mostOf {σ : ZS} (k : Nat) (hk : k ≤ 5) : ZC M_X12_mostOf [Ai (nI k)] σ (fun y0 τ0 => y0 = some (Ai (nI (moP k))) ∧ τ0 = σ) := by
  refine ZC_of (ls := [some (Ai (nI k))]) (by decide) (Nat.le_of_ble_eq_true rfl) rfl ?_
  refine ZV_iload_n (n := 1) dX12_mostOf_0 rfl rfl rfl ?_
  refine ZV_i2l (n := 2) dX12_mostOf_1 rfl ?_
  refine ZV_ldc2 (v := lN 2) (n := 5) dX12_mostOf_2 wd_5_102 rfl ?_
  refine ZV_ldc2 (v := lN 4) (n := 8) dX12_mostOf_5 wd_5_119 rfl ?_
  refine call_X12_137 (c_inL _ (nI k) (by decide) (by decide)) rfl dX12_mostOf_8 (Nat.le_of_ble_eq_true rfl) (Nat.le_of_ble_eq_true rfl) rfl (fun r9 σ9 hp9 => ?_)
  obtain ⟨rfl, rfl⟩ := hp9
  refine ZV_if_eqB (tgt := 19) (n := 14) dX12_mostOf_11 (by decide) rfl (fun h11 => ?_) (fun h11 => ?_)
  · skip
    refine ZV_bipush (v := nI 108) (n := 21) dX12_mostOf_19 rfl rfl ?_
    refine ZV_iret dX12_mostOf_21 rfl ?_
    refine ⟨?_, rfl⟩
    unfold inR at h11
    rw [nI_toInt (by omega)] at h11
    unfold moP
    first | (have h12 := of_decide_eq_true h11; rw [if_pos (by omega)]) | (have h12 := of_decide_eq_false h11; rw [if_neg (by omega)])
  · skip
    refine ZV_bipush (v := nI 82) (n := 16) dX12_mostOf_14 rfl rfl ?_
    refine ZV_goto (tgt := 21) dX12_mostOf_16 (by decide) ?_
    refine ZV_iret dX12_mostOf_21 rfl ?_
    refine ⟨?_, rfl⟩
    unfold inR at h11
    rw [nI_toInt (by omega)] at h11
    unfold moP
    first | (have h12 := of_decide_eq_true h11; rw [if_pos (by omega)]) | (have h12 := of_decide_eq_false h11; rw [if_neg (by omega)])
set_option maxHeartbeats 4000000 in
set_option maxRecDepth 100000 in
theorem c_asks {x : Nat} {σ : ZS} {T : TS} (hR : rR x σ T) (hI : tI T) (p w q : Int32) : ZC M_X12_asks [Ar (some x), Ai p, Ai w, Ai q] σ (fun y0 τ0 => y0 = some (Ai (sp_asks T p w q).1) ∧ rR x τ0 (sp_asks T p w q).2) := by
  have hsp : sp_asks T p w q = sp_asks (h_su T 0) p w q := rfl
  rw [hsp]
  clear hsp
  refine ZC_of (ls := [some (Ar (some x)), some (Ai p), some (Ai w), some (Ai q), none]) (by decide) (Nat.le_of_ble_eq_true rfl) rfl ?_
  refine ZV_aload_n (n := 1) dX12_asks_0 rfl rfl rfl ?_
  refine call_X12_144 (c_begin hR) rfl dX12_asks_1 rfl (rf_sh hR :).1 (Nat.le_of_ble_eq_true rfl) (Nat.le_of_ble_eq_true rfl) rfl (fun r9 σ9 hp9 => ?_)
  obtain ⟨rfl, hR⟩ := hp9
  have hI := tI_su hI 0
  have hsu : g_su (h_su T 0) = 0 := rfl
  generalize h_su T 0 = T at hR hI hsu ⊢
  have hnp := ti_np hI
  refine ZV_iload_n (n := 5) dX12_asks_4 rfl rfl rfl ?_
  refine ZV_i2l (n := 6) dX12_asks_5 rfl ?_
  refine ZV_lconst (v := lN 0) (n := 7) dX12_asks_6 rfl rfl ?_
  refine ZV_aload_n (n := 8) dX12_asks_7 rfl rfl rfl ?_
  refine ZV_getIv (n := 11) dX12_asks_8 fl_X12_134 rfl rfl rfl (rf_sh hR :).1 (rf_parts hR :) ?_
  refine ZV_iconst (v := nI 1) (n := 12) dX12_asks_11 rfl rfl ?_
  refine ZV_isub (n := 13) dX12_asks_12 rfl ?_
  refine ZV_i2l (n := 14) dX12_asks_13 rfl ?_
  refine call_X12_137 (c_inS _ p (by omega)) rfl dX12_asks_14 (Nat.le_of_ble_eq_true rfl) (Nat.le_of_ble_eq_true rfl) rfl (fun r9 σ9 hp9 => ?_)
  obtain ⟨rfl, rfl⟩ := hp9
  refine ZV_if_eqB (tgt := 32) (n := 20) dX12_asks_17 (by decide) rfl (fun h17 => ?_) (fun h17 => ?_)
  · skip
    refine ZV_aload_n (n := 33) dX12_asks_32 rfl rfl rfl ?_
    refine ZV_bipush (v := -2) (n := 35) dX12_asks_33 rfl rfl ?_
    refine ZV_putI (n := 38) dX12_asks_35 fl_X12_127 rfl (Or.inl rfl) rfl (fun h => absurd h (by decide)) rfl (rf_sh hR :).1 ?_
    refine ZV_gen (P := fun τ => rR x τ _) (rR_status hR _) (fun σ hR => ?_)
    refine ZV_sipush (v := -2000) (n := 41) dX12_asks_38 rfl rfl ?_
    refine ZV_iret dX12_asks_41 rfl ?_
    exact zleaf (v := (-2000, h_su T (-2))) (by simp [sp_asks, h17]) rfl hR
  · skip
    refine ZV_iload_n (n := 21) dX12_asks_20 rfl rfl rfl ?_
    refine ZV_i2l (n := 22) dX12_asks_21 rfl ?_
    refine ZV_lconst (v := lN 0) (n := 23) dX12_asks_22 rfl rfl ?_
    refine ZV_ldc2 (v := lN 2) (n := 26) dX12_asks_23 wd_5_102 rfl ?_
    refine call_X12_137 (c_inC _ w (by decide)) rfl dX12_asks_26 (Nat.le_of_ble_eq_true rfl) (Nat.le_of_ble_eq_true rfl) rfl (fun r9 σ9 hp9 => ?_)
    obtain ⟨rfl, rfl⟩ := hp9
    refine ZV_if_neB (tgt := 42) (n := 32) dX12_asks_29 (by decide) rfl (fun h29 => ?_) (fun h29 => ?_)
    · skip
      obtain ⟨j, hj, hjx, rfl⟩ := inB_t h17
      have hpk := ti_pk hI j hj
      refine ZV_aload_n (n := 43) dX12_asks_42 rfl rfl rfl ?_
      refine ZV_getR (n := 46) dX12_asks_43 fl_X12_7 rfl rfl rfl (rf_sh hR :).1 ?_
      refine ZV_iload_n (n := 47) dX12_asks_46 rfl rfl rfl ?_
      refine ZV_ialdv (n := 48) dX12_asks_47 rfl (ra_partKind (rf_sh hR :) :) (rk_partKind (rf_sh hR :) :) rfl (by omega) (rf_partKind hR _ (by omega)) ?_
      refine ZV_istore_4 (n := 50) dX12_asks_48 rfl (Nat.le_of_ble_eq_true rfl) rfl ?_
      refine ZV_iload_n (n := 51) dX12_asks_50 rfl rfl rfl ?_
      refine ZV_if_ne (tgt := 64) (n := 54) dX12_asks_51 (by decide) rfl (fun h51 => ?_) (fun h51 => ?_)
      · skip
        refine ZV_iload_n (n := 65) dX12_asks_64 rfl rfl rfl ?_
        refine ZV_iconst (v := nI 1) (n := 66) dX12_asks_65 rfl rfl ?_
        refine ZV_icmp_ne (tgt := 78) (n := 69) dX12_asks_66 (by decide) rfl (fun h66 => ?_) (fun h66 => ?_)
        · skip
          refine ZV_iload (n := 80) dX12_asks_78 rfl rfl ?_
          refine call_X12_181 (c_mostOf _ (by omega)) rfl dX12_asks_80 (Nat.le_of_ble_eq_true rfl) (Nat.le_of_ble_eq_true rfl) rfl (fun r9 σ9 hp9 => ?_)
          obtain ⟨rfl, rfl⟩ := hp9
          refine ZV_iret dX12_asks_83 rfl ?_
          first | exact zleaf (v := sOk (h_tr T (g_tr T + trP (g_pk T j))) (sdP (g_pk T j) q)) (by rw [h51]; simp [sp_asks, h17, nI_clamp hjx, show (0 : Int32) = nI 0 from rfl, show inB (nI 0) 3 = true from rfl]) rfl (rR_s0 hR hsu) | exact zleaf (v := sOk (h_tr T (g_tr T + leT (g_pk T j))) (nI (leP (g_pk T j)))) (by simp [sp_asks, h17, h29, show ¬ w = nI 0 from h51, h66, nI_clamp hjx]; try rfl) rfl (rR_s0 hR hsu) | exact zleaf (v := sOk T (nI (moP (g_pk T j)))) (by simp [sp_asks, h17, h29, show ¬ w = nI 0 from h51, h66, nI_clamp hjx]) rfl (rR_s0 hR hsu)
        · skip
          refine ZV_aload_n (n := 70) dX12_asks_69 rfl rfl rfl ?_
          refine ZV_iload (n := 72) dX12_asks_70 rfl rfl ?_
          refine call_X12_178 (c_leastOf hR hI _ (by omega)) rfl dX12_asks_72 rfl (rf_sh hR :).1 (Nat.le_of_ble_eq_true rfl) (Nat.le_of_ble_eq_true rfl) rfl (fun r9 σ9 hp9 => ?_)
          obtain ⟨rfl, hR⟩ := hp9
          refine ZV_goto (tgt := 83) dX12_asks_75 (by decide) ?_
          refine ZV_iret dX12_asks_83 rfl ?_
          first | exact zleaf (v := sOk (h_tr T (g_tr T + trP (g_pk T j))) (sdP (g_pk T j) q)) (by rw [h51]; simp [sp_asks, h17, nI_clamp hjx, show (0 : Int32) = nI 0 from rfl, show inB (nI 0) 3 = true from rfl]) rfl (rR_s0 hR hsu) | exact zleaf (v := sOk (h_tr T (g_tr T + leT (g_pk T j))) (nI (leP (g_pk T j)))) (by simp [sp_asks, h17, h29, show ¬ w = nI 0 from h51, h66, nI_clamp hjx]; try rfl) rfl (rR_s0 hR hsu) | exact zleaf (v := sOk T (nI (moP (g_pk T j)))) (by simp [sp_asks, h17, h29, show ¬ w = nI 0 from h51, h66, nI_clamp hjx]) rfl (rR_s0 hR hsu)
      · skip
        refine ZV_aload_n (n := 55) dX12_asks_54 rfl rfl rfl ?_
        refine ZV_iload (n := 57) dX12_asks_55 rfl rfl ?_
        refine ZV_iload_n (n := 58) dX12_asks_57 rfl rfl rfl ?_
        refine call_X12_174 (c_sounds hR hI _ (by omega) _) rfl dX12_asks_58 rfl (rf_sh hR :).1 (Nat.le_of_ble_eq_true rfl) (Nat.le_of_ble_eq_true rfl) rfl (fun r9 σ9 hp9 => ?_)
        obtain ⟨rfl, hR⟩ := hp9
        refine ZV_goto (tgt := 83) dX12_asks_61 (by decide) ?_
        refine ZV_iret dX12_asks_83 rfl ?_
        first | exact zleaf (v := sOk (h_tr T (g_tr T + trP (g_pk T j))) (sdP (g_pk T j) q)) (by rw [h51]; simp [sp_asks, h17, nI_clamp hjx, show (0 : Int32) = nI 0 from rfl, show inB (nI 0) 3 = true from rfl]) rfl (rR_s0 hR hsu) | exact zleaf (v := sOk (h_tr T (g_tr T + leT (g_pk T j))) (nI (leP (g_pk T j)))) (by simp [sp_asks, h17, h29, show ¬ w = nI 0 from h51, h66, nI_clamp hjx]; try rfl) rfl (rR_s0 hR hsu) | exact zleaf (v := sOk T (nI (moP (g_pk T j)))) (by simp [sp_asks, h17, h29, show ¬ w = nI 0 from h51, h66, nI_clamp hjx]) rfl (rR_s0 hR hsu)
    · skip
      refine ZV_aload_n (n := 33) dX12_asks_32 rfl rfl rfl ?_
      refine ZV_bipush (v := -2) (n := 35) dX12_asks_33 rfl rfl ?_
      refine ZV_putI (n := 38) dX12_asks_35 fl_X12_127 rfl (Or.inl rfl) rfl (fun h => absurd h (by decide)) rfl (rf_sh hR :).1 ?_
      refine ZV_gen (P := fun τ => rR x τ _) (rR_status hR _) (fun σ hR => ?_)
      refine ZV_sipush (v := -2000) (n := 41) dX12_asks_38 rfl rfl ?_
      refine ZV_iret dX12_asks_41 rfl ?_
      exact zleaf (v := (-2000, h_su T (-2))) (by simp [sp_asks, h17, h29]) rfl hR
set_option maxHeartbeats 4000000 in
set_option maxRecDepth 100000 in
theorem c_bar {x : Nat} {σ : ZS} {T : TS} (hR : rR x σ T) (hI : tI T) (u d : Int32) : ZC M_X12_bar [Ar (some x), Ai u, Ai d] σ (fun y0 τ0 => y0 = some (Ai (sp_bar T u d).1) ∧ rR x τ0 (sp_bar T u d).2) := by
  have hsp : sp_bar T u d = sp_bar (h_su T 0) u d := rfl
  rw [hsp]
  clear hsp
  refine ZC_of (ls := [some (Ar (some x)), some (Ai u), some (Ai d), none]) (by decide) (Nat.le_of_ble_eq_true rfl) rfl ?_
  refine ZV_aload_n (n := 1) dX12_bar_0 rfl rfl rfl ?_
  refine call_X12_144 (c_begin hR) rfl dX12_bar_1 rfl (rf_sh hR :).1 (Nat.le_of_ble_eq_true rfl) (Nat.le_of_ble_eq_true rfl) rfl (fun r9 σ9 hp9 => ?_)
  obtain ⟨rfl, hR⟩ := hp9
  have hI := tI_su hI 0
  have hsu : g_su (h_su T 0) = 0 := rfl
  generalize h_su T 0 = T at hR hI hsu ⊢
  have hnb := ti_nb hI
  refine ZV_iload_n (n := 5) dX12_bar_4 rfl rfl rfl ?_
  refine ZV_iconst (v := nI 1) (n := 6) dX12_bar_5 rfl rfl ?_
  refine ZV_icmp_eq (tgt := 37) (n := 9) dX12_bar_6 (by decide) rfl (fun h6 => ?_) (fun h6 => ?_)
  · skip
    subst h6
    have hD9 : isD (nI 1) = true := rfl
    have hd9 : (nI 1).toNatClampNeg = 1 := rfl
    refine ZV_iconst (v := nI 1) (n := 38) dX12_bar_37 rfl rfl ?_
    refine ZV_goto (tgt := 42) dX12_bar_38 (by decide) ?_
    refine ZV_istore_3 (n := 43) dX12_bar_42 rfl (Nat.le_of_ble_eq_true rfl) rfl ?_
    refine ZV_iload_n (n := 44) dX12_bar_43 rfl rfl rfl ?_
    refine ZV_if_eqN (tgt := 59) (n := 47) dX12_bar_44 (by decide) rfl (by omega) (fun h44 => ?_) (fun h44 => ?_)
    · skip
      exact absurd h44 (by decide)
    · skip
      refine ZV_iload_n (n := 48) dX12_bar_47 rfl rfl rfl ?_
      refine ZV_i2l (n := 49) dX12_bar_48 rfl ?_
      refine ZV_lconst (v := lN 1) (n := 50) dX12_bar_49 rfl rfl ?_
      refine ZV_ldc2 (v := lN 64) (n := 53) dX12_bar_50 wd_5_96 rfl ?_
      refine call_X12_137 (c_inL _ u (by decide) (by decide)) rfl dX12_bar_53 (Nat.le_of_ble_eq_true rfl) (Nat.le_of_ble_eq_true rfl) rfl (fun r9 σ9 hp9 => ?_)
      obtain ⟨rfl, rfl⟩ := hp9
      refine ZV_if_neB (tgt := 66) (n := 59) dX12_bar_56 (by decide) rfl (fun h56 => ?_) (fun h56 => ?_)
      · skip
        obtain ⟨u, hu2, rfl⟩ := inR_t (by decide) h56
        have hux : u < 2147483648 := by omega
        refine ZV_aload_n (n := 67) dX12_bar_66 rfl rfl rfl ?_
        refine ZV_getIv (n := 70) dX12_bar_67 fl_X12_151 rfl rfl rfl (rf_sh hR :).1 (rf_bars hR :) ?_
        refine ZV_bipush (v := nI 24) (n := 72) dX12_bar_70 rfl rfl ?_
        refine ZV_icmp_neN (tgt := 82) (n := 75) dX12_bar_72 (by decide) rfl (by omega) (by omega) (fun h72 => ?_) (fun h72 => ?_)
        · skip
          refine ZV_aload_n (n := 83) dX12_bar_82 rfl rfl rfl ?_
          refine ZV_getR (n := 86) dX12_bar_83 fl_X12_13 rfl rfl rfl (rf_sh hR :).1 ?_
          refine ZV_aload_n (n := 87) dX12_bar_86 rfl rfl rfl ?_
          refine ZV_getIv (n := 90) dX12_bar_87 fl_X12_151 rfl rfl rfl (rf_sh hR :).1 (rf_bars hR :) ?_
          refine ZV_ldc2 (v := lN 5644800) (n := 93) dX12_bar_90 wd_5_97 rfl ?_
          refine ZV_iload_n (n := 94) dX12_bar_93 rfl rfl rfl ?_
          refine ZV_i2lN (n := 95) dX12_bar_94 rfl (by omega) ?_
          refine ZV_ldivN (n := 96) dX12_bar_95 rfl (by omega) (by omega) (by omega) ?_
          refine ZV_iload_n (n := 97) dX12_bar_96 rfl rfl rfl ?_
          refine ZV_i2lN (n := 98) dX12_bar_97 rfl (by omega) ?_
          refine ZV_lmulN (n := 99) dX12_bar_98 rfl ?_
          refine ZV_last (n := 100) dX12_bar_99 rfl (ra_barTime (rf_sh hR :) :) (rk_barTime (rf_sh hR :) :) rfl (by omega) ?_
          refine ZV_gen (P := fun τ => rR x τ _) (rR_barTime hR _) (fun σ hR => ?_)
          refine ZV_aload_n (n := 101) dX12_bar_100 rfl rfl rfl ?_
          refine ZV_dup (n := 102) dX12_bar_101 rfl rfl ?_
          refine ZV_getIv (n := 105) dX12_bar_102 fl_X12_151 rfl rfl rfl (rf_sh hR :).1 (Eq.trans ((rf_bars hR :) :) (show _ = nI (g_nb T) by first | simp only [gh_nb_ct, gh_nb_cu, gh_nb_cl, gh_nb_np, gh_nb_pk, gh_nb_nb, gh_nb_bt, gh_nb_ev, gh_nb_th, gh_nb_vo, gh_nb_kd, gh_nb_pn, gh_nb_pi, gh_nb_va, gh_nb_dt, gh_nb_ti, gh_nb_pl, gh_nb_mn, gh_nb_ro, gh_nb_te, gh_nb_tt, gh_nb_tv, gh_nb_tf, gh_nb_tl, gh_nb_tn, gh_nb_tm, gh_nb_tu, gh_nb_le, gh_nb_lt, gh_nb_lk, gh_nb_lf, gh_nb_lo, gh_nb_wm, gh_nb_wr, gh_nb_fo, gh_nb_fi, gh_nb_hr, gh_nb_rk, gh_nb_rs, gh_nb_rr, gh_nb_hs, gh_nb_sk, gh_nb_ss, gh_nb_sr, gh_nb_fa, gh_nb_su, gh_nb_tr] | rfl)) ?_
          refine ZV_iconst (v := nI 1) (n := 106) dX12_bar_105 rfl rfl ?_
          refine ZV_iaddN (n := 107) dX12_bar_106 rfl ?_
          refine ZV_putI (n := 110) dX12_bar_107 fl_X12_151 rfl (Or.inl rfl) rfl (fun h => absurd h (by decide)) rfl (rf_sh hR :).1 ?_
          refine ZV_gen (P := fun τ => rR x τ _) (rR_bars hR _) (fun σ hR => ?_)
          refine ZV_aload_n (n := 111) dX12_bar_110 rfl rfl rfl ?_
          refine ZV_getIv (n := 114) dX12_bar_111 fl_X12_151 rfl rfl rfl (rf_sh hR :).1 (Eq.trans ((rf_bars hR :) :) (show _ = nI (g_nb T + 1) by first | simp only [gh_nb_ct, gh_nb_cu, gh_nb_cl, gh_nb_np, gh_nb_pk, gh_nb_nb, gh_nb_bt, gh_nb_ev, gh_nb_th, gh_nb_vo, gh_nb_kd, gh_nb_pn, gh_nb_pi, gh_nb_va, gh_nb_dt, gh_nb_ti, gh_nb_pl, gh_nb_mn, gh_nb_ro, gh_nb_te, gh_nb_tt, gh_nb_tv, gh_nb_tf, gh_nb_tl, gh_nb_tn, gh_nb_tm, gh_nb_tu, gh_nb_le, gh_nb_lt, gh_nb_lk, gh_nb_lf, gh_nb_lo, gh_nb_wm, gh_nb_wr, gh_nb_fo, gh_nb_fi, gh_nb_hr, gh_nb_rk, gh_nb_rs, gh_nb_rr, gh_nb_hs, gh_nb_sk, gh_nb_ss, gh_nb_sr, gh_nb_fa, gh_nb_su, gh_nb_tr] | rfl)) ?_
          refine ZV_iconst (v := nI 1) (n := 115) dX12_bar_114 rfl rfl ?_
          refine ZV_isubN (n := 116) dX12_bar_115 rfl (by omega) ?_
          refine ZV_iret dX12_bar_116 rfl ?_
          exact zleaf (v := sOk (h_nb (h_bt T (va_up (g_bt T) (g_nb T) (5644800 / 1 * u))) (g_nb T + 1)) (nI (g_nb T))) (by unfold sp_bar; rw [hD9, h56, if_pos ⟨rfl, rfl⟩, if_neg h72, hd9, nI_clamp hux]) (by simp [sOk]) (rR_s0 hR hsu)
        · skip
          refine ZV_aload_n (n := 76) dX12_bar_75 rfl rfl rfl ?_
          refine ZV_bipush (v := -4) (n := 78) dX12_bar_76 rfl rfl ?_
          refine call_X12_130 (c_no hR _) rfl dX12_bar_78 rfl (rf_sh hR :).1 (Nat.le_of_ble_eq_true rfl) (Nat.le_of_ble_eq_true rfl) rfl (fun r9 σ9 hp9 => ?_)
          obtain ⟨rfl, hR⟩ := hp9
          refine ZV_iret dX12_bar_81 rfl ?_
          exact zleaf (v := sNo T (-4)) (by unfold sp_bar; rw [hD9, h56, h72]; simp) rfl hR
      · skip
        refine ZV_aload_n (n := 60) dX12_bar_59 rfl rfl rfl ?_
        refine ZV_bipush (v := -2) (n := 62) dX12_bar_60 rfl rfl ?_
        refine call_X12_130 (c_no hR _) rfl dX12_bar_62 rfl (rf_sh hR :).1 (Nat.le_of_ble_eq_true rfl) (Nat.le_of_ble_eq_true rfl) rfl (fun r9 σ9 hp9 => ?_)
        obtain ⟨rfl, hR⟩ := hp9
        refine ZV_iret dX12_bar_65 rfl ?_
        first | exact zleaf (v := sNo T (-2)) (by unfold sp_bar; rw [if_neg (fun q => absurd (hD9.symm.trans q.1) (by decide))]) rfl hR | exact zleaf (v := sNo T (-2)) (by simp [sp_bar, h56]) rfl hR
  · skip
    refine ZV_iload_n (n := 10) dX12_bar_9 rfl rfl rfl ?_
    refine ZV_iconst (v := nI 2) (n := 11) dX12_bar_10 rfl rfl ?_
    refine ZV_icmp_eq (tgt := 37) (n := 14) dX12_bar_11 (by decide) rfl (fun h11 => ?_) (fun h11 => ?_)
    · skip
      subst h11
      have hD9 : isD (nI 2) = true := rfl
      have hd9 : (nI 2).toNatClampNeg = 2 := rfl
      refine ZV_iconst (v := nI 1) (n := 38) dX12_bar_37 rfl rfl ?_
      refine ZV_goto (tgt := 42) dX12_bar_38 (by decide) ?_
      refine ZV_istore_3 (n := 43) dX12_bar_42 rfl (Nat.le_of_ble_eq_true rfl) rfl ?_
      refine ZV_iload_n (n := 44) dX12_bar_43 rfl rfl rfl ?_
      refine ZV_if_eqN (tgt := 59) (n := 47) dX12_bar_44 (by decide) rfl (by omega) (fun h44 => ?_) (fun h44 => ?_)
      · skip
        exact absurd h44 (by decide)
      · skip
        refine ZV_iload_n (n := 48) dX12_bar_47 rfl rfl rfl ?_
        refine ZV_i2l (n := 49) dX12_bar_48 rfl ?_
        refine ZV_lconst (v := lN 1) (n := 50) dX12_bar_49 rfl rfl ?_
        refine ZV_ldc2 (v := lN 64) (n := 53) dX12_bar_50 wd_5_96 rfl ?_
        refine call_X12_137 (c_inL _ u (by decide) (by decide)) rfl dX12_bar_53 (Nat.le_of_ble_eq_true rfl) (Nat.le_of_ble_eq_true rfl) rfl (fun r9 σ9 hp9 => ?_)
        obtain ⟨rfl, rfl⟩ := hp9
        refine ZV_if_neB (tgt := 66) (n := 59) dX12_bar_56 (by decide) rfl (fun h56 => ?_) (fun h56 => ?_)
        · skip
          obtain ⟨u, hu2, rfl⟩ := inR_t (by decide) h56
          have hux : u < 2147483648 := by omega
          refine ZV_aload_n (n := 67) dX12_bar_66 rfl rfl rfl ?_
          refine ZV_getIv (n := 70) dX12_bar_67 fl_X12_151 rfl rfl rfl (rf_sh hR :).1 (rf_bars hR :) ?_
          refine ZV_bipush (v := nI 24) (n := 72) dX12_bar_70 rfl rfl ?_
          refine ZV_icmp_neN (tgt := 82) (n := 75) dX12_bar_72 (by decide) rfl (by omega) (by omega) (fun h72 => ?_) (fun h72 => ?_)
          · skip
            refine ZV_aload_n (n := 83) dX12_bar_82 rfl rfl rfl ?_
            refine ZV_getR (n := 86) dX12_bar_83 fl_X12_13 rfl rfl rfl (rf_sh hR :).1 ?_
            refine ZV_aload_n (n := 87) dX12_bar_86 rfl rfl rfl ?_
            refine ZV_getIv (n := 90) dX12_bar_87 fl_X12_151 rfl rfl rfl (rf_sh hR :).1 (rf_bars hR :) ?_
            refine ZV_ldc2 (v := lN 5644800) (n := 93) dX12_bar_90 wd_5_97 rfl ?_
            refine ZV_iload_n (n := 94) dX12_bar_93 rfl rfl rfl ?_
            refine ZV_i2lN (n := 95) dX12_bar_94 rfl (by omega) ?_
            refine ZV_ldivN (n := 96) dX12_bar_95 rfl (by omega) (by omega) (by omega) ?_
            refine ZV_iload_n (n := 97) dX12_bar_96 rfl rfl rfl ?_
            refine ZV_i2lN (n := 98) dX12_bar_97 rfl (by omega) ?_
            refine ZV_lmulN (n := 99) dX12_bar_98 rfl ?_
            refine ZV_last (n := 100) dX12_bar_99 rfl (ra_barTime (rf_sh hR :) :) (rk_barTime (rf_sh hR :) :) rfl (by omega) ?_
            refine ZV_gen (P := fun τ => rR x τ _) (rR_barTime hR _) (fun σ hR => ?_)
            refine ZV_aload_n (n := 101) dX12_bar_100 rfl rfl rfl ?_
            refine ZV_dup (n := 102) dX12_bar_101 rfl rfl ?_
            refine ZV_getIv (n := 105) dX12_bar_102 fl_X12_151 rfl rfl rfl (rf_sh hR :).1 (Eq.trans ((rf_bars hR :) :) (show _ = nI (g_nb T) by first | simp only [gh_nb_ct, gh_nb_cu, gh_nb_cl, gh_nb_np, gh_nb_pk, gh_nb_nb, gh_nb_bt, gh_nb_ev, gh_nb_th, gh_nb_vo, gh_nb_kd, gh_nb_pn, gh_nb_pi, gh_nb_va, gh_nb_dt, gh_nb_ti, gh_nb_pl, gh_nb_mn, gh_nb_ro, gh_nb_te, gh_nb_tt, gh_nb_tv, gh_nb_tf, gh_nb_tl, gh_nb_tn, gh_nb_tm, gh_nb_tu, gh_nb_le, gh_nb_lt, gh_nb_lk, gh_nb_lf, gh_nb_lo, gh_nb_wm, gh_nb_wr, gh_nb_fo, gh_nb_fi, gh_nb_hr, gh_nb_rk, gh_nb_rs, gh_nb_rr, gh_nb_hs, gh_nb_sk, gh_nb_ss, gh_nb_sr, gh_nb_fa, gh_nb_su, gh_nb_tr] | rfl)) ?_
            refine ZV_iconst (v := nI 1) (n := 106) dX12_bar_105 rfl rfl ?_
            refine ZV_iaddN (n := 107) dX12_bar_106 rfl ?_
            refine ZV_putI (n := 110) dX12_bar_107 fl_X12_151 rfl (Or.inl rfl) rfl (fun h => absurd h (by decide)) rfl (rf_sh hR :).1 ?_
            refine ZV_gen (P := fun τ => rR x τ _) (rR_bars hR _) (fun σ hR => ?_)
            refine ZV_aload_n (n := 111) dX12_bar_110 rfl rfl rfl ?_
            refine ZV_getIv (n := 114) dX12_bar_111 fl_X12_151 rfl rfl rfl (rf_sh hR :).1 (Eq.trans ((rf_bars hR :) :) (show _ = nI (g_nb T + 1) by first | simp only [gh_nb_ct, gh_nb_cu, gh_nb_cl, gh_nb_np, gh_nb_pk, gh_nb_nb, gh_nb_bt, gh_nb_ev, gh_nb_th, gh_nb_vo, gh_nb_kd, gh_nb_pn, gh_nb_pi, gh_nb_va, gh_nb_dt, gh_nb_ti, gh_nb_pl, gh_nb_mn, gh_nb_ro, gh_nb_te, gh_nb_tt, gh_nb_tv, gh_nb_tf, gh_nb_tl, gh_nb_tn, gh_nb_tm, gh_nb_tu, gh_nb_le, gh_nb_lt, gh_nb_lk, gh_nb_lf, gh_nb_lo, gh_nb_wm, gh_nb_wr, gh_nb_fo, gh_nb_fi, gh_nb_hr, gh_nb_rk, gh_nb_rs, gh_nb_rr, gh_nb_hs, gh_nb_sk, gh_nb_ss, gh_nb_sr, gh_nb_fa, gh_nb_su, gh_nb_tr] | rfl)) ?_
            refine ZV_iconst (v := nI 1) (n := 115) dX12_bar_114 rfl rfl ?_
            refine ZV_isubN (n := 116) dX12_bar_115 rfl (by omega) ?_
            refine ZV_iret dX12_bar_116 rfl ?_
            exact zleaf (v := sOk (h_nb (h_bt T (va_up (g_bt T) (g_nb T) (5644800 / 2 * u))) (g_nb T + 1)) (nI (g_nb T))) (by unfold sp_bar; rw [hD9, h56, if_pos ⟨rfl, rfl⟩, if_neg h72, hd9, nI_clamp hux]) (by simp [sOk]) (rR_s0 hR hsu)
          · skip
            refine ZV_aload_n (n := 76) dX12_bar_75 rfl rfl rfl ?_
            refine ZV_bipush (v := -4) (n := 78) dX12_bar_76 rfl rfl ?_
            refine call_X12_130 (c_no hR _) rfl dX12_bar_78 rfl (rf_sh hR :).1 (Nat.le_of_ble_eq_true rfl) (Nat.le_of_ble_eq_true rfl) rfl (fun r9 σ9 hp9 => ?_)
            obtain ⟨rfl, hR⟩ := hp9
            refine ZV_iret dX12_bar_81 rfl ?_
            exact zleaf (v := sNo T (-4)) (by unfold sp_bar; rw [hD9, h56, h72]; simp) rfl hR
        · skip
          refine ZV_aload_n (n := 60) dX12_bar_59 rfl rfl rfl ?_
          refine ZV_bipush (v := -2) (n := 62) dX12_bar_60 rfl rfl ?_
          refine call_X12_130 (c_no hR _) rfl dX12_bar_62 rfl (rf_sh hR :).1 (Nat.le_of_ble_eq_true rfl) (Nat.le_of_ble_eq_true rfl) rfl (fun r9 σ9 hp9 => ?_)
          obtain ⟨rfl, hR⟩ := hp9
          refine ZV_iret dX12_bar_65 rfl ?_
          first | exact zleaf (v := sNo T (-2)) (by unfold sp_bar; rw [if_neg (fun q => absurd (hD9.symm.trans q.1) (by decide))]) rfl hR | exact zleaf (v := sNo T (-2)) (by simp [sp_bar, h56]) rfl hR
    · skip
      refine ZV_iload_n (n := 15) dX12_bar_14 rfl rfl rfl ?_
      refine ZV_iconst (v := nI 4) (n := 16) dX12_bar_15 rfl rfl ?_
      refine ZV_icmp_eq (tgt := 37) (n := 19) dX12_bar_16 (by decide) rfl (fun h16 => ?_) (fun h16 => ?_)
      · skip
        subst h16
        have hD9 : isD (nI 4) = true := rfl
        have hd9 : (nI 4).toNatClampNeg = 4 := rfl
        refine ZV_iconst (v := nI 1) (n := 38) dX12_bar_37 rfl rfl ?_
        refine ZV_goto (tgt := 42) dX12_bar_38 (by decide) ?_
        refine ZV_istore_3 (n := 43) dX12_bar_42 rfl (Nat.le_of_ble_eq_true rfl) rfl ?_
        refine ZV_iload_n (n := 44) dX12_bar_43 rfl rfl rfl ?_
        refine ZV_if_eqN (tgt := 59) (n := 47) dX12_bar_44 (by decide) rfl (by omega) (fun h44 => ?_) (fun h44 => ?_)
        · skip
          exact absurd h44 (by decide)
        · skip
          refine ZV_iload_n (n := 48) dX12_bar_47 rfl rfl rfl ?_
          refine ZV_i2l (n := 49) dX12_bar_48 rfl ?_
          refine ZV_lconst (v := lN 1) (n := 50) dX12_bar_49 rfl rfl ?_
          refine ZV_ldc2 (v := lN 64) (n := 53) dX12_bar_50 wd_5_96 rfl ?_
          refine call_X12_137 (c_inL _ u (by decide) (by decide)) rfl dX12_bar_53 (Nat.le_of_ble_eq_true rfl) (Nat.le_of_ble_eq_true rfl) rfl (fun r9 σ9 hp9 => ?_)
          obtain ⟨rfl, rfl⟩ := hp9
          refine ZV_if_neB (tgt := 66) (n := 59) dX12_bar_56 (by decide) rfl (fun h56 => ?_) (fun h56 => ?_)
          · skip
            obtain ⟨u, hu2, rfl⟩ := inR_t (by decide) h56
            have hux : u < 2147483648 := by omega
            refine ZV_aload_n (n := 67) dX12_bar_66 rfl rfl rfl ?_
            refine ZV_getIv (n := 70) dX12_bar_67 fl_X12_151 rfl rfl rfl (rf_sh hR :).1 (rf_bars hR :) ?_
            refine ZV_bipush (v := nI 24) (n := 72) dX12_bar_70 rfl rfl ?_
            refine ZV_icmp_neN (tgt := 82) (n := 75) dX12_bar_72 (by decide) rfl (by omega) (by omega) (fun h72 => ?_) (fun h72 => ?_)
            · skip
              refine ZV_aload_n (n := 83) dX12_bar_82 rfl rfl rfl ?_
              refine ZV_getR (n := 86) dX12_bar_83 fl_X12_13 rfl rfl rfl (rf_sh hR :).1 ?_
              refine ZV_aload_n (n := 87) dX12_bar_86 rfl rfl rfl ?_
              refine ZV_getIv (n := 90) dX12_bar_87 fl_X12_151 rfl rfl rfl (rf_sh hR :).1 (rf_bars hR :) ?_
              refine ZV_ldc2 (v := lN 5644800) (n := 93) dX12_bar_90 wd_5_97 rfl ?_
              refine ZV_iload_n (n := 94) dX12_bar_93 rfl rfl rfl ?_
              refine ZV_i2lN (n := 95) dX12_bar_94 rfl (by omega) ?_
              refine ZV_ldivN (n := 96) dX12_bar_95 rfl (by omega) (by omega) (by omega) ?_
              refine ZV_iload_n (n := 97) dX12_bar_96 rfl rfl rfl ?_
              refine ZV_i2lN (n := 98) dX12_bar_97 rfl (by omega) ?_
              refine ZV_lmulN (n := 99) dX12_bar_98 rfl ?_
              refine ZV_last (n := 100) dX12_bar_99 rfl (ra_barTime (rf_sh hR :) :) (rk_barTime (rf_sh hR :) :) rfl (by omega) ?_
              refine ZV_gen (P := fun τ => rR x τ _) (rR_barTime hR _) (fun σ hR => ?_)
              refine ZV_aload_n (n := 101) dX12_bar_100 rfl rfl rfl ?_
              refine ZV_dup (n := 102) dX12_bar_101 rfl rfl ?_
              refine ZV_getIv (n := 105) dX12_bar_102 fl_X12_151 rfl rfl rfl (rf_sh hR :).1 (Eq.trans ((rf_bars hR :) :) (show _ = nI (g_nb T) by first | simp only [gh_nb_ct, gh_nb_cu, gh_nb_cl, gh_nb_np, gh_nb_pk, gh_nb_nb, gh_nb_bt, gh_nb_ev, gh_nb_th, gh_nb_vo, gh_nb_kd, gh_nb_pn, gh_nb_pi, gh_nb_va, gh_nb_dt, gh_nb_ti, gh_nb_pl, gh_nb_mn, gh_nb_ro, gh_nb_te, gh_nb_tt, gh_nb_tv, gh_nb_tf, gh_nb_tl, gh_nb_tn, gh_nb_tm, gh_nb_tu, gh_nb_le, gh_nb_lt, gh_nb_lk, gh_nb_lf, gh_nb_lo, gh_nb_wm, gh_nb_wr, gh_nb_fo, gh_nb_fi, gh_nb_hr, gh_nb_rk, gh_nb_rs, gh_nb_rr, gh_nb_hs, gh_nb_sk, gh_nb_ss, gh_nb_sr, gh_nb_fa, gh_nb_su, gh_nb_tr] | rfl)) ?_
              refine ZV_iconst (v := nI 1) (n := 106) dX12_bar_105 rfl rfl ?_
              refine ZV_iaddN (n := 107) dX12_bar_106 rfl ?_
              refine ZV_putI (n := 110) dX12_bar_107 fl_X12_151 rfl (Or.inl rfl) rfl (fun h => absurd h (by decide)) rfl (rf_sh hR :).1 ?_
              refine ZV_gen (P := fun τ => rR x τ _) (rR_bars hR _) (fun σ hR => ?_)
              refine ZV_aload_n (n := 111) dX12_bar_110 rfl rfl rfl ?_
              refine ZV_getIv (n := 114) dX12_bar_111 fl_X12_151 rfl rfl rfl (rf_sh hR :).1 (Eq.trans ((rf_bars hR :) :) (show _ = nI (g_nb T + 1) by first | simp only [gh_nb_ct, gh_nb_cu, gh_nb_cl, gh_nb_np, gh_nb_pk, gh_nb_nb, gh_nb_bt, gh_nb_ev, gh_nb_th, gh_nb_vo, gh_nb_kd, gh_nb_pn, gh_nb_pi, gh_nb_va, gh_nb_dt, gh_nb_ti, gh_nb_pl, gh_nb_mn, gh_nb_ro, gh_nb_te, gh_nb_tt, gh_nb_tv, gh_nb_tf, gh_nb_tl, gh_nb_tn, gh_nb_tm, gh_nb_tu, gh_nb_le, gh_nb_lt, gh_nb_lk, gh_nb_lf, gh_nb_lo, gh_nb_wm, gh_nb_wr, gh_nb_fo, gh_nb_fi, gh_nb_hr, gh_nb_rk, gh_nb_rs, gh_nb_rr, gh_nb_hs, gh_nb_sk, gh_nb_ss, gh_nb_sr, gh_nb_fa, gh_nb_su, gh_nb_tr] | rfl)) ?_
              refine ZV_iconst (v := nI 1) (n := 115) dX12_bar_114 rfl rfl ?_
              refine ZV_isubN (n := 116) dX12_bar_115 rfl (by omega) ?_
              refine ZV_iret dX12_bar_116 rfl ?_
              exact zleaf (v := sOk (h_nb (h_bt T (va_up (g_bt T) (g_nb T) (5644800 / 4 * u))) (g_nb T + 1)) (nI (g_nb T))) (by unfold sp_bar; rw [hD9, h56, if_pos ⟨rfl, rfl⟩, if_neg h72, hd9, nI_clamp hux]) (by simp [sOk]) (rR_s0 hR hsu)
            · skip
              refine ZV_aload_n (n := 76) dX12_bar_75 rfl rfl rfl ?_
              refine ZV_bipush (v := -4) (n := 78) dX12_bar_76 rfl rfl ?_
              refine call_X12_130 (c_no hR _) rfl dX12_bar_78 rfl (rf_sh hR :).1 (Nat.le_of_ble_eq_true rfl) (Nat.le_of_ble_eq_true rfl) rfl (fun r9 σ9 hp9 => ?_)
              obtain ⟨rfl, hR⟩ := hp9
              refine ZV_iret dX12_bar_81 rfl ?_
              exact zleaf (v := sNo T (-4)) (by unfold sp_bar; rw [hD9, h56, h72]; simp) rfl hR
          · skip
            refine ZV_aload_n (n := 60) dX12_bar_59 rfl rfl rfl ?_
            refine ZV_bipush (v := -2) (n := 62) dX12_bar_60 rfl rfl ?_
            refine call_X12_130 (c_no hR _) rfl dX12_bar_62 rfl (rf_sh hR :).1 (Nat.le_of_ble_eq_true rfl) (Nat.le_of_ble_eq_true rfl) rfl (fun r9 σ9 hp9 => ?_)
            obtain ⟨rfl, hR⟩ := hp9
            refine ZV_iret dX12_bar_65 rfl ?_
            first | exact zleaf (v := sNo T (-2)) (by unfold sp_bar; rw [if_neg (fun q => absurd (hD9.symm.trans q.1) (by decide))]) rfl hR | exact zleaf (v := sNo T (-2)) (by simp [sp_bar, h56]) rfl hR
      · skip
        refine ZV_iload_n (n := 20) dX12_bar_19 rfl rfl rfl ?_
        refine ZV_bipush (v := nI 8) (n := 22) dX12_bar_20 rfl rfl ?_
        refine ZV_icmp_eq (tgt := 37) (n := 25) dX12_bar_22 (by decide) rfl (fun h22 => ?_) (fun h22 => ?_)
        · skip
          subst h22
          have hD9 : isD (nI 8) = true := rfl
          have hd9 : (nI 8).toNatClampNeg = 8 := rfl
          refine ZV_iconst (v := nI 1) (n := 38) dX12_bar_37 rfl rfl ?_
          refine ZV_goto (tgt := 42) dX12_bar_38 (by decide) ?_
          refine ZV_istore_3 (n := 43) dX12_bar_42 rfl (Nat.le_of_ble_eq_true rfl) rfl ?_
          refine ZV_iload_n (n := 44) dX12_bar_43 rfl rfl rfl ?_
          refine ZV_if_eqN (tgt := 59) (n := 47) dX12_bar_44 (by decide) rfl (by omega) (fun h44 => ?_) (fun h44 => ?_)
          · skip
            exact absurd h44 (by decide)
          · skip
            refine ZV_iload_n (n := 48) dX12_bar_47 rfl rfl rfl ?_
            refine ZV_i2l (n := 49) dX12_bar_48 rfl ?_
            refine ZV_lconst (v := lN 1) (n := 50) dX12_bar_49 rfl rfl ?_
            refine ZV_ldc2 (v := lN 64) (n := 53) dX12_bar_50 wd_5_96 rfl ?_
            refine call_X12_137 (c_inL _ u (by decide) (by decide)) rfl dX12_bar_53 (Nat.le_of_ble_eq_true rfl) (Nat.le_of_ble_eq_true rfl) rfl (fun r9 σ9 hp9 => ?_)
            obtain ⟨rfl, rfl⟩ := hp9
            refine ZV_if_neB (tgt := 66) (n := 59) dX12_bar_56 (by decide) rfl (fun h56 => ?_) (fun h56 => ?_)
            · skip
              obtain ⟨u, hu2, rfl⟩ := inR_t (by decide) h56
              have hux : u < 2147483648 := by omega
              refine ZV_aload_n (n := 67) dX12_bar_66 rfl rfl rfl ?_
              refine ZV_getIv (n := 70) dX12_bar_67 fl_X12_151 rfl rfl rfl (rf_sh hR :).1 (rf_bars hR :) ?_
              refine ZV_bipush (v := nI 24) (n := 72) dX12_bar_70 rfl rfl ?_
              refine ZV_icmp_neN (tgt := 82) (n := 75) dX12_bar_72 (by decide) rfl (by omega) (by omega) (fun h72 => ?_) (fun h72 => ?_)
              · skip
                refine ZV_aload_n (n := 83) dX12_bar_82 rfl rfl rfl ?_
                refine ZV_getR (n := 86) dX12_bar_83 fl_X12_13 rfl rfl rfl (rf_sh hR :).1 ?_
                refine ZV_aload_n (n := 87) dX12_bar_86 rfl rfl rfl ?_
                refine ZV_getIv (n := 90) dX12_bar_87 fl_X12_151 rfl rfl rfl (rf_sh hR :).1 (rf_bars hR :) ?_
                refine ZV_ldc2 (v := lN 5644800) (n := 93) dX12_bar_90 wd_5_97 rfl ?_
                refine ZV_iload_n (n := 94) dX12_bar_93 rfl rfl rfl ?_
                refine ZV_i2lN (n := 95) dX12_bar_94 rfl (by omega) ?_
                refine ZV_ldivN (n := 96) dX12_bar_95 rfl (by omega) (by omega) (by omega) ?_
                refine ZV_iload_n (n := 97) dX12_bar_96 rfl rfl rfl ?_
                refine ZV_i2lN (n := 98) dX12_bar_97 rfl (by omega) ?_
                refine ZV_lmulN (n := 99) dX12_bar_98 rfl ?_
                refine ZV_last (n := 100) dX12_bar_99 rfl (ra_barTime (rf_sh hR :) :) (rk_barTime (rf_sh hR :) :) rfl (by omega) ?_
                refine ZV_gen (P := fun τ => rR x τ _) (rR_barTime hR _) (fun σ hR => ?_)
                refine ZV_aload_n (n := 101) dX12_bar_100 rfl rfl rfl ?_
                refine ZV_dup (n := 102) dX12_bar_101 rfl rfl ?_
                refine ZV_getIv (n := 105) dX12_bar_102 fl_X12_151 rfl rfl rfl (rf_sh hR :).1 (Eq.trans ((rf_bars hR :) :) (show _ = nI (g_nb T) by first | simp only [gh_nb_ct, gh_nb_cu, gh_nb_cl, gh_nb_np, gh_nb_pk, gh_nb_nb, gh_nb_bt, gh_nb_ev, gh_nb_th, gh_nb_vo, gh_nb_kd, gh_nb_pn, gh_nb_pi, gh_nb_va, gh_nb_dt, gh_nb_ti, gh_nb_pl, gh_nb_mn, gh_nb_ro, gh_nb_te, gh_nb_tt, gh_nb_tv, gh_nb_tf, gh_nb_tl, gh_nb_tn, gh_nb_tm, gh_nb_tu, gh_nb_le, gh_nb_lt, gh_nb_lk, gh_nb_lf, gh_nb_lo, gh_nb_wm, gh_nb_wr, gh_nb_fo, gh_nb_fi, gh_nb_hr, gh_nb_rk, gh_nb_rs, gh_nb_rr, gh_nb_hs, gh_nb_sk, gh_nb_ss, gh_nb_sr, gh_nb_fa, gh_nb_su, gh_nb_tr] | rfl)) ?_
                refine ZV_iconst (v := nI 1) (n := 106) dX12_bar_105 rfl rfl ?_
                refine ZV_iaddN (n := 107) dX12_bar_106 rfl ?_
                refine ZV_putI (n := 110) dX12_bar_107 fl_X12_151 rfl (Or.inl rfl) rfl (fun h => absurd h (by decide)) rfl (rf_sh hR :).1 ?_
                refine ZV_gen (P := fun τ => rR x τ _) (rR_bars hR _) (fun σ hR => ?_)
                refine ZV_aload_n (n := 111) dX12_bar_110 rfl rfl rfl ?_
                refine ZV_getIv (n := 114) dX12_bar_111 fl_X12_151 rfl rfl rfl (rf_sh hR :).1 (Eq.trans ((rf_bars hR :) :) (show _ = nI (g_nb T + 1) by first | simp only [gh_nb_ct, gh_nb_cu, gh_nb_cl, gh_nb_np, gh_nb_pk, gh_nb_nb, gh_nb_bt, gh_nb_ev, gh_nb_th, gh_nb_vo, gh_nb_kd, gh_nb_pn, gh_nb_pi, gh_nb_va, gh_nb_dt, gh_nb_ti, gh_nb_pl, gh_nb_mn, gh_nb_ro, gh_nb_te, gh_nb_tt, gh_nb_tv, gh_nb_tf, gh_nb_tl, gh_nb_tn, gh_nb_tm, gh_nb_tu, gh_nb_le, gh_nb_lt, gh_nb_lk, gh_nb_lf, gh_nb_lo, gh_nb_wm, gh_nb_wr, gh_nb_fo, gh_nb_fi, gh_nb_hr, gh_nb_rk, gh_nb_rs, gh_nb_rr, gh_nb_hs, gh_nb_sk, gh_nb_ss, gh_nb_sr, gh_nb_fa, gh_nb_su, gh_nb_tr] | rfl)) ?_
                refine ZV_iconst (v := nI 1) (n := 115) dX12_bar_114 rfl rfl ?_
                refine ZV_isubN (n := 116) dX12_bar_115 rfl (by omega) ?_
                refine ZV_iret dX12_bar_116 rfl ?_
                exact zleaf (v := sOk (h_nb (h_bt T (va_up (g_bt T) (g_nb T) (5644800 / 8 * u))) (g_nb T + 1)) (nI (g_nb T))) (by unfold sp_bar; rw [hD9, h56, if_pos ⟨rfl, rfl⟩, if_neg h72, hd9, nI_clamp hux]) (by simp [sOk]) (rR_s0 hR hsu)
              · skip
                refine ZV_aload_n (n := 76) dX12_bar_75 rfl rfl rfl ?_
                refine ZV_bipush (v := -4) (n := 78) dX12_bar_76 rfl rfl ?_
                refine call_X12_130 (c_no hR _) rfl dX12_bar_78 rfl (rf_sh hR :).1 (Nat.le_of_ble_eq_true rfl) (Nat.le_of_ble_eq_true rfl) rfl (fun r9 σ9 hp9 => ?_)
                obtain ⟨rfl, hR⟩ := hp9
                refine ZV_iret dX12_bar_81 rfl ?_
                exact zleaf (v := sNo T (-4)) (by unfold sp_bar; rw [hD9, h56, h72]; simp) rfl hR
            · skip
              refine ZV_aload_n (n := 60) dX12_bar_59 rfl rfl rfl ?_
              refine ZV_bipush (v := -2) (n := 62) dX12_bar_60 rfl rfl ?_
              refine call_X12_130 (c_no hR _) rfl dX12_bar_62 rfl (rf_sh hR :).1 (Nat.le_of_ble_eq_true rfl) (Nat.le_of_ble_eq_true rfl) rfl (fun r9 σ9 hp9 => ?_)
              obtain ⟨rfl, hR⟩ := hp9
              refine ZV_iret dX12_bar_65 rfl ?_
              first | exact zleaf (v := sNo T (-2)) (by unfold sp_bar; rw [if_neg (fun q => absurd (hD9.symm.trans q.1) (by decide))]) rfl hR | exact zleaf (v := sNo T (-2)) (by simp [sp_bar, h56]) rfl hR
        · skip
          refine ZV_iload_n (n := 26) dX12_bar_25 rfl rfl rfl ?_
          refine ZV_bipush (v := nI 16) (n := 28) dX12_bar_26 rfl rfl ?_
          refine ZV_icmp_eq (tgt := 37) (n := 31) dX12_bar_28 (by decide) rfl (fun h28 => ?_) (fun h28 => ?_)
          · skip
            subst h28
            have hD9 : isD (nI 16) = true := rfl
            have hd9 : (nI 16).toNatClampNeg = 16 := rfl
            refine ZV_iconst (v := nI 1) (n := 38) dX12_bar_37 rfl rfl ?_
            refine ZV_goto (tgt := 42) dX12_bar_38 (by decide) ?_
            refine ZV_istore_3 (n := 43) dX12_bar_42 rfl (Nat.le_of_ble_eq_true rfl) rfl ?_
            refine ZV_iload_n (n := 44) dX12_bar_43 rfl rfl rfl ?_
            refine ZV_if_eqN (tgt := 59) (n := 47) dX12_bar_44 (by decide) rfl (by omega) (fun h44 => ?_) (fun h44 => ?_)
            · skip
              exact absurd h44 (by decide)
            · skip
              refine ZV_iload_n (n := 48) dX12_bar_47 rfl rfl rfl ?_
              refine ZV_i2l (n := 49) dX12_bar_48 rfl ?_
              refine ZV_lconst (v := lN 1) (n := 50) dX12_bar_49 rfl rfl ?_
              refine ZV_ldc2 (v := lN 64) (n := 53) dX12_bar_50 wd_5_96 rfl ?_
              refine call_X12_137 (c_inL _ u (by decide) (by decide)) rfl dX12_bar_53 (Nat.le_of_ble_eq_true rfl) (Nat.le_of_ble_eq_true rfl) rfl (fun r9 σ9 hp9 => ?_)
              obtain ⟨rfl, rfl⟩ := hp9
              refine ZV_if_neB (tgt := 66) (n := 59) dX12_bar_56 (by decide) rfl (fun h56 => ?_) (fun h56 => ?_)
              · skip
                obtain ⟨u, hu2, rfl⟩ := inR_t (by decide) h56
                have hux : u < 2147483648 := by omega
                refine ZV_aload_n (n := 67) dX12_bar_66 rfl rfl rfl ?_
                refine ZV_getIv (n := 70) dX12_bar_67 fl_X12_151 rfl rfl rfl (rf_sh hR :).1 (rf_bars hR :) ?_
                refine ZV_bipush (v := nI 24) (n := 72) dX12_bar_70 rfl rfl ?_
                refine ZV_icmp_neN (tgt := 82) (n := 75) dX12_bar_72 (by decide) rfl (by omega) (by omega) (fun h72 => ?_) (fun h72 => ?_)
                · skip
                  refine ZV_aload_n (n := 83) dX12_bar_82 rfl rfl rfl ?_
                  refine ZV_getR (n := 86) dX12_bar_83 fl_X12_13 rfl rfl rfl (rf_sh hR :).1 ?_
                  refine ZV_aload_n (n := 87) dX12_bar_86 rfl rfl rfl ?_
                  refine ZV_getIv (n := 90) dX12_bar_87 fl_X12_151 rfl rfl rfl (rf_sh hR :).1 (rf_bars hR :) ?_
                  refine ZV_ldc2 (v := lN 5644800) (n := 93) dX12_bar_90 wd_5_97 rfl ?_
                  refine ZV_iload_n (n := 94) dX12_bar_93 rfl rfl rfl ?_
                  refine ZV_i2lN (n := 95) dX12_bar_94 rfl (by omega) ?_
                  refine ZV_ldivN (n := 96) dX12_bar_95 rfl (by omega) (by omega) (by omega) ?_
                  refine ZV_iload_n (n := 97) dX12_bar_96 rfl rfl rfl ?_
                  refine ZV_i2lN (n := 98) dX12_bar_97 rfl (by omega) ?_
                  refine ZV_lmulN (n := 99) dX12_bar_98 rfl ?_
                  refine ZV_last (n := 100) dX12_bar_99 rfl (ra_barTime (rf_sh hR :) :) (rk_barTime (rf_sh hR :) :) rfl (by omega) ?_
                  refine ZV_gen (P := fun τ => rR x τ _) (rR_barTime hR _) (fun σ hR => ?_)
                  refine ZV_aload_n (n := 101) dX12_bar_100 rfl rfl rfl ?_
                  refine ZV_dup (n := 102) dX12_bar_101 rfl rfl ?_
                  refine ZV_getIv (n := 105) dX12_bar_102 fl_X12_151 rfl rfl rfl (rf_sh hR :).1 (Eq.trans ((rf_bars hR :) :) (show _ = nI (g_nb T) by first | simp only [gh_nb_ct, gh_nb_cu, gh_nb_cl, gh_nb_np, gh_nb_pk, gh_nb_nb, gh_nb_bt, gh_nb_ev, gh_nb_th, gh_nb_vo, gh_nb_kd, gh_nb_pn, gh_nb_pi, gh_nb_va, gh_nb_dt, gh_nb_ti, gh_nb_pl, gh_nb_mn, gh_nb_ro, gh_nb_te, gh_nb_tt, gh_nb_tv, gh_nb_tf, gh_nb_tl, gh_nb_tn, gh_nb_tm, gh_nb_tu, gh_nb_le, gh_nb_lt, gh_nb_lk, gh_nb_lf, gh_nb_lo, gh_nb_wm, gh_nb_wr, gh_nb_fo, gh_nb_fi, gh_nb_hr, gh_nb_rk, gh_nb_rs, gh_nb_rr, gh_nb_hs, gh_nb_sk, gh_nb_ss, gh_nb_sr, gh_nb_fa, gh_nb_su, gh_nb_tr] | rfl)) ?_
                  refine ZV_iconst (v := nI 1) (n := 106) dX12_bar_105 rfl rfl ?_
                  refine ZV_iaddN (n := 107) dX12_bar_106 rfl ?_
                  refine ZV_putI (n := 110) dX12_bar_107 fl_X12_151 rfl (Or.inl rfl) rfl (fun h => absurd h (by decide)) rfl (rf_sh hR :).1 ?_
                  refine ZV_gen (P := fun τ => rR x τ _) (rR_bars hR _) (fun σ hR => ?_)
                  refine ZV_aload_n (n := 111) dX12_bar_110 rfl rfl rfl ?_
                  refine ZV_getIv (n := 114) dX12_bar_111 fl_X12_151 rfl rfl rfl (rf_sh hR :).1 (Eq.trans ((rf_bars hR :) :) (show _ = nI (g_nb T + 1) by first | simp only [gh_nb_ct, gh_nb_cu, gh_nb_cl, gh_nb_np, gh_nb_pk, gh_nb_nb, gh_nb_bt, gh_nb_ev, gh_nb_th, gh_nb_vo, gh_nb_kd, gh_nb_pn, gh_nb_pi, gh_nb_va, gh_nb_dt, gh_nb_ti, gh_nb_pl, gh_nb_mn, gh_nb_ro, gh_nb_te, gh_nb_tt, gh_nb_tv, gh_nb_tf, gh_nb_tl, gh_nb_tn, gh_nb_tm, gh_nb_tu, gh_nb_le, gh_nb_lt, gh_nb_lk, gh_nb_lf, gh_nb_lo, gh_nb_wm, gh_nb_wr, gh_nb_fo, gh_nb_fi, gh_nb_hr, gh_nb_rk, gh_nb_rs, gh_nb_rr, gh_nb_hs, gh_nb_sk, gh_nb_ss, gh_nb_sr, gh_nb_fa, gh_nb_su, gh_nb_tr] | rfl)) ?_
                  refine ZV_iconst (v := nI 1) (n := 115) dX12_bar_114 rfl rfl ?_
                  refine ZV_isubN (n := 116) dX12_bar_115 rfl (by omega) ?_
                  refine ZV_iret dX12_bar_116 rfl ?_
                  exact zleaf (v := sOk (h_nb (h_bt T (va_up (g_bt T) (g_nb T) (5644800 / 16 * u))) (g_nb T + 1)) (nI (g_nb T))) (by unfold sp_bar; rw [hD9, h56, if_pos ⟨rfl, rfl⟩, if_neg h72, hd9, nI_clamp hux]) (by simp [sOk]) (rR_s0 hR hsu)
                · skip
                  refine ZV_aload_n (n := 76) dX12_bar_75 rfl rfl rfl ?_
                  refine ZV_bipush (v := -4) (n := 78) dX12_bar_76 rfl rfl ?_
                  refine call_X12_130 (c_no hR _) rfl dX12_bar_78 rfl (rf_sh hR :).1 (Nat.le_of_ble_eq_true rfl) (Nat.le_of_ble_eq_true rfl) rfl (fun r9 σ9 hp9 => ?_)
                  obtain ⟨rfl, hR⟩ := hp9
                  refine ZV_iret dX12_bar_81 rfl ?_
                  exact zleaf (v := sNo T (-4)) (by unfold sp_bar; rw [hD9, h56, h72]; simp) rfl hR
              · skip
                refine ZV_aload_n (n := 60) dX12_bar_59 rfl rfl rfl ?_
                refine ZV_bipush (v := -2) (n := 62) dX12_bar_60 rfl rfl ?_
                refine call_X12_130 (c_no hR _) rfl dX12_bar_62 rfl (rf_sh hR :).1 (Nat.le_of_ble_eq_true rfl) (Nat.le_of_ble_eq_true rfl) rfl (fun r9 σ9 hp9 => ?_)
                obtain ⟨rfl, hR⟩ := hp9
                refine ZV_iret dX12_bar_65 rfl ?_
                first | exact zleaf (v := sNo T (-2)) (by unfold sp_bar; rw [if_neg (fun q => absurd (hD9.symm.trans q.1) (by decide))]) rfl hR | exact zleaf (v := sNo T (-2)) (by simp [sp_bar, h56]) rfl hR
          · skip
            refine ZV_iload_n (n := 32) dX12_bar_31 rfl rfl rfl ?_
            refine ZV_bipush (v := nI 32) (n := 34) dX12_bar_32 rfl rfl ?_
            refine ZV_icmp_ne (tgt := 41) (n := 37) dX12_bar_34 (by decide) rfl (fun h34 => ?_) (fun h34 => ?_)
            · skip
              have hD9 : isD d = false := by simp [isD, h6, h11, h16, h22, h28, h34]
              refine ZV_iconst (v := nI 0) (n := 42) dX12_bar_41 rfl rfl ?_
              refine ZV_istore_3 (n := 43) dX12_bar_42 rfl (Nat.le_of_ble_eq_true rfl) rfl ?_
              refine ZV_iload_n (n := 44) dX12_bar_43 rfl rfl rfl ?_
              refine ZV_if_eqN (tgt := 59) (n := 47) dX12_bar_44 (by decide) rfl (by omega) (fun h44 => ?_) (fun h44 => ?_)
              · skip
                refine ZV_aload_n (n := 60) dX12_bar_59 rfl rfl rfl ?_
                refine ZV_bipush (v := -2) (n := 62) dX12_bar_60 rfl rfl ?_
                refine call_X12_130 (c_no hR _) rfl dX12_bar_62 rfl (rf_sh hR :).1 (Nat.le_of_ble_eq_true rfl) (Nat.le_of_ble_eq_true rfl) rfl (fun r9 σ9 hp9 => ?_)
                obtain ⟨rfl, hR⟩ := hp9
                refine ZV_iret dX12_bar_65 rfl ?_
                first | exact zleaf (v := sNo T (-2)) (by unfold sp_bar; rw [if_neg (fun q => absurd (hD9.symm.trans q.1) (by decide))]) rfl hR | exact zleaf (v := sNo T (-2)) (by simp [sp_bar, h56]) rfl hR
              · skip
                exact absurd rfl h44
            · skip
              subst h34
              have hD9 : isD (nI 32) = true := rfl
              have hd9 : (nI 32).toNatClampNeg = 32 := rfl
              refine ZV_iconst (v := nI 1) (n := 38) dX12_bar_37 rfl rfl ?_
              refine ZV_goto (tgt := 42) dX12_bar_38 (by decide) ?_
              refine ZV_istore_3 (n := 43) dX12_bar_42 rfl (Nat.le_of_ble_eq_true rfl) rfl ?_
              refine ZV_iload_n (n := 44) dX12_bar_43 rfl rfl rfl ?_
              refine ZV_if_eqN (tgt := 59) (n := 47) dX12_bar_44 (by decide) rfl (by omega) (fun h44 => ?_) (fun h44 => ?_)
              · skip
                exact absurd h44 (by decide)
              · skip
                refine ZV_iload_n (n := 48) dX12_bar_47 rfl rfl rfl ?_
                refine ZV_i2l (n := 49) dX12_bar_48 rfl ?_
                refine ZV_lconst (v := lN 1) (n := 50) dX12_bar_49 rfl rfl ?_
                refine ZV_ldc2 (v := lN 64) (n := 53) dX12_bar_50 wd_5_96 rfl ?_
                refine call_X12_137 (c_inL _ u (by decide) (by decide)) rfl dX12_bar_53 (Nat.le_of_ble_eq_true rfl) (Nat.le_of_ble_eq_true rfl) rfl (fun r9 σ9 hp9 => ?_)
                obtain ⟨rfl, rfl⟩ := hp9
                refine ZV_if_neB (tgt := 66) (n := 59) dX12_bar_56 (by decide) rfl (fun h56 => ?_) (fun h56 => ?_)
                · skip
                  obtain ⟨u, hu2, rfl⟩ := inR_t (by decide) h56
                  have hux : u < 2147483648 := by omega
                  refine ZV_aload_n (n := 67) dX12_bar_66 rfl rfl rfl ?_
                  refine ZV_getIv (n := 70) dX12_bar_67 fl_X12_151 rfl rfl rfl (rf_sh hR :).1 (rf_bars hR :) ?_
                  refine ZV_bipush (v := nI 24) (n := 72) dX12_bar_70 rfl rfl ?_
                  refine ZV_icmp_neN (tgt := 82) (n := 75) dX12_bar_72 (by decide) rfl (by omega) (by omega) (fun h72 => ?_) (fun h72 => ?_)
                  · skip
                    refine ZV_aload_n (n := 83) dX12_bar_82 rfl rfl rfl ?_
                    refine ZV_getR (n := 86) dX12_bar_83 fl_X12_13 rfl rfl rfl (rf_sh hR :).1 ?_
                    refine ZV_aload_n (n := 87) dX12_bar_86 rfl rfl rfl ?_
                    refine ZV_getIv (n := 90) dX12_bar_87 fl_X12_151 rfl rfl rfl (rf_sh hR :).1 (rf_bars hR :) ?_
                    refine ZV_ldc2 (v := lN 5644800) (n := 93) dX12_bar_90 wd_5_97 rfl ?_
                    refine ZV_iload_n (n := 94) dX12_bar_93 rfl rfl rfl ?_
                    refine ZV_i2lN (n := 95) dX12_bar_94 rfl (by omega) ?_
                    refine ZV_ldivN (n := 96) dX12_bar_95 rfl (by omega) (by omega) (by omega) ?_
                    refine ZV_iload_n (n := 97) dX12_bar_96 rfl rfl rfl ?_
                    refine ZV_i2lN (n := 98) dX12_bar_97 rfl (by omega) ?_
                    refine ZV_lmulN (n := 99) dX12_bar_98 rfl ?_
                    refine ZV_last (n := 100) dX12_bar_99 rfl (ra_barTime (rf_sh hR :) :) (rk_barTime (rf_sh hR :) :) rfl (by omega) ?_
                    refine ZV_gen (P := fun τ => rR x τ _) (rR_barTime hR _) (fun σ hR => ?_)
                    refine ZV_aload_n (n := 101) dX12_bar_100 rfl rfl rfl ?_
                    refine ZV_dup (n := 102) dX12_bar_101 rfl rfl ?_
                    refine ZV_getIv (n := 105) dX12_bar_102 fl_X12_151 rfl rfl rfl (rf_sh hR :).1 (Eq.trans ((rf_bars hR :) :) (show _ = nI (g_nb T) by first | simp only [gh_nb_ct, gh_nb_cu, gh_nb_cl, gh_nb_np, gh_nb_pk, gh_nb_nb, gh_nb_bt, gh_nb_ev, gh_nb_th, gh_nb_vo, gh_nb_kd, gh_nb_pn, gh_nb_pi, gh_nb_va, gh_nb_dt, gh_nb_ti, gh_nb_pl, gh_nb_mn, gh_nb_ro, gh_nb_te, gh_nb_tt, gh_nb_tv, gh_nb_tf, gh_nb_tl, gh_nb_tn, gh_nb_tm, gh_nb_tu, gh_nb_le, gh_nb_lt, gh_nb_lk, gh_nb_lf, gh_nb_lo, gh_nb_wm, gh_nb_wr, gh_nb_fo, gh_nb_fi, gh_nb_hr, gh_nb_rk, gh_nb_rs, gh_nb_rr, gh_nb_hs, gh_nb_sk, gh_nb_ss, gh_nb_sr, gh_nb_fa, gh_nb_su, gh_nb_tr] | rfl)) ?_
                    refine ZV_iconst (v := nI 1) (n := 106) dX12_bar_105 rfl rfl ?_
                    refine ZV_iaddN (n := 107) dX12_bar_106 rfl ?_
                    refine ZV_putI (n := 110) dX12_bar_107 fl_X12_151 rfl (Or.inl rfl) rfl (fun h => absurd h (by decide)) rfl (rf_sh hR :).1 ?_
                    refine ZV_gen (P := fun τ => rR x τ _) (rR_bars hR _) (fun σ hR => ?_)
                    refine ZV_aload_n (n := 111) dX12_bar_110 rfl rfl rfl ?_
                    refine ZV_getIv (n := 114) dX12_bar_111 fl_X12_151 rfl rfl rfl (rf_sh hR :).1 (Eq.trans ((rf_bars hR :) :) (show _ = nI (g_nb T + 1) by first | simp only [gh_nb_ct, gh_nb_cu, gh_nb_cl, gh_nb_np, gh_nb_pk, gh_nb_nb, gh_nb_bt, gh_nb_ev, gh_nb_th, gh_nb_vo, gh_nb_kd, gh_nb_pn, gh_nb_pi, gh_nb_va, gh_nb_dt, gh_nb_ti, gh_nb_pl, gh_nb_mn, gh_nb_ro, gh_nb_te, gh_nb_tt, gh_nb_tv, gh_nb_tf, gh_nb_tl, gh_nb_tn, gh_nb_tm, gh_nb_tu, gh_nb_le, gh_nb_lt, gh_nb_lk, gh_nb_lf, gh_nb_lo, gh_nb_wm, gh_nb_wr, gh_nb_fo, gh_nb_fi, gh_nb_hr, gh_nb_rk, gh_nb_rs, gh_nb_rr, gh_nb_hs, gh_nb_sk, gh_nb_ss, gh_nb_sr, gh_nb_fa, gh_nb_su, gh_nb_tr] | rfl)) ?_
                    refine ZV_iconst (v := nI 1) (n := 115) dX12_bar_114 rfl rfl ?_
                    refine ZV_isubN (n := 116) dX12_bar_115 rfl (by omega) ?_
                    refine ZV_iret dX12_bar_116 rfl ?_
                    exact zleaf (v := sOk (h_nb (h_bt T (va_up (g_bt T) (g_nb T) (5644800 / 32 * u))) (g_nb T + 1)) (nI (g_nb T))) (by unfold sp_bar; rw [hD9, h56, if_pos ⟨rfl, rfl⟩, if_neg h72, hd9, nI_clamp hux]) (by simp [sOk]) (rR_s0 hR hsu)
                  · skip
                    refine ZV_aload_n (n := 76) dX12_bar_75 rfl rfl rfl ?_
                    refine ZV_bipush (v := -4) (n := 78) dX12_bar_76 rfl rfl ?_
                    refine call_X12_130 (c_no hR _) rfl dX12_bar_78 rfl (rf_sh hR :).1 (Nat.le_of_ble_eq_true rfl) (Nat.le_of_ble_eq_true rfl) rfl (fun r9 σ9 hp9 => ?_)
                    obtain ⟨rfl, hR⟩ := hp9
                    refine ZV_iret dX12_bar_81 rfl ?_
                    exact zleaf (v := sNo T (-4)) (by unfold sp_bar; rw [hD9, h56, h72]; simp) rfl hR
                · skip
                  refine ZV_aload_n (n := 60) dX12_bar_59 rfl rfl rfl ?_
                  refine ZV_bipush (v := -2) (n := 62) dX12_bar_60 rfl rfl ?_
                  refine call_X12_130 (c_no hR _) rfl dX12_bar_62 rfl (rf_sh hR :).1 (Nat.le_of_ble_eq_true rfl) (Nat.le_of_ble_eq_true rfl) rfl (fun r9 σ9 hp9 => ?_)
                  obtain ⟨rfl, hR⟩ := hp9
                  refine ZV_iret dX12_bar_65 rfl ?_
                  first | exact zleaf (v := sNo T (-2)) (by unfold sp_bar; rw [if_neg (fun q => absurd (hD9.symm.trans q.1) (by decide))]) rfl hR | exact zleaf (v := sNo T (-2)) (by simp [sp_bar, h56]) rfl hR
set_option maxHeartbeats 4000000 in
set_option maxRecDepth 100000 in
theorem c_line {x : Nat} {σ : ZS} {T : TS} (hR : rR x σ T) (hI : tI T) (k f t : Int32) : ZC M_X12_line [Ar (some x), Ai k, Ai f, Ai t] σ (fun y0 τ0 => y0 = some (Ai (sp_line T k f t).1) ∧ rR x τ0 (sp_line T k f t).2) := by
  have hsp : sp_line T k f t = sp_line (h_su T 0) k f t := rfl
  rw [hsp]
  clear hsp
  refine ZC_of (ls := [some (Ar (some x)), some (Ai k), some (Ai f), some (Ai t)]) (by decide) (Nat.le_of_ble_eq_true rfl) rfl ?_
  refine ZV_aload_n (n := 1) dX12_line_0 rfl rfl rfl ?_
  refine call_X12_144 (c_begin hR) rfl dX12_line_1 rfl (rf_sh hR :).1 (Nat.le_of_ble_eq_true rfl) (Nat.le_of_ble_eq_true rfl) rfl (fun r9 σ9 hp9 => ?_)
  obtain ⟨rfl, hR⟩ := hp9
  have hI := tI_su hI 0
  have hsu : g_su (h_su T 0) = 0 := rfl
  generalize h_su T 0 = T at hR hI hsu ⊢
  have hle := ti_le hI
  have hev := ti_ev hI
  have hcl := ti_cl hI
  have hcn := zcnt_le (g_lt T) (g_le T)
  refine ZV_iload_n (n := 5) dX12_line_4 rfl rfl rfl ?_
  refine ZV_i2l (n := 6) dX12_line_5 rfl ?_
  refine ZV_lconst (v := lN 0) (n := 7) dX12_line_6 rfl rfl ?_
  refine ZV_ldc2 (v := lN 3) (n := 10) dX12_line_7 wd_5_218 rfl ?_
  refine call_X12_137 (c_inC _ k (by decide)) rfl dX12_line_10 (Nat.le_of_ble_eq_true rfl) (Nat.le_of_ble_eq_true rfl) rfl (fun r9 σ9 hp9 => ?_)
  obtain ⟨rfl, rfl⟩ := hp9
  refine ZV_if_eqB (tgt := 37) (n := 16) dX12_line_13 (by decide) rfl (fun h13 => ?_) (fun h13 => ?_)
  · skip
    refine ZV_aload_n (n := 38) dX12_line_37 rfl rfl rfl ?_
    refine ZV_bipush (v := -2) (n := 40) dX12_line_38 rfl rfl ?_
    refine call_X12_130 (c_no hR _) rfl dX12_line_40 rfl (rf_sh hR :).1 (Nat.le_of_ble_eq_true rfl) (Nat.le_of_ble_eq_true rfl) rfl (fun r9 σ9 hp9 => ?_)
    obtain ⟨rfl, hR⟩ := hp9
    refine ZV_iret dX12_line_43 rfl ?_
    exact zleaf (v := sNo T (-2)) (by simp [sp_line, h13]) rfl hR
  · skip
    refine ZV_aload_n (n := 17) dX12_line_16 rfl rfl rfl ?_
    refine ZV_iload_n (n := 18) dX12_line_17 rfl rfl rfl ?_
    refine call_X12_193 (c_isEvent hR hI _) rfl dX12_line_18 rfl (rf_sh hR :).1 (Nat.le_of_ble_eq_true rfl) (Nat.le_of_ble_eq_true rfl) rfl (fun r9 σ9 hp9 => ?_)
    obtain ⟨rfl, rfl⟩ := hp9
    refine ZV_if_eqB (tgt := 37) (n := 24) dX12_line_21 (by decide) rfl (fun h21 => ?_) (fun h21 => ?_)
    · skip
      refine ZV_aload_n (n := 38) dX12_line_37 rfl rfl rfl ?_
      refine ZV_bipush (v := -2) (n := 40) dX12_line_38 rfl rfl ?_
      refine call_X12_130 (c_no hR _) rfl dX12_line_40 rfl (rf_sh hR :).1 (Nat.le_of_ble_eq_true rfl) (Nat.le_of_ble_eq_true rfl) rfl (fun r9 σ9 hp9 => ?_)
      obtain ⟨rfl, hR⟩ := hp9
      refine ZV_iret dX12_line_43 rfl ?_
      exact zleaf (v := sNo T (-2)) (by simp [sp_line, h13, h21]) rfl hR
    · skip
      refine ZV_iload_n (n := 25) dX12_line_24 rfl rfl rfl ?_
      refine ZV_iconst (v := -1) (n := 26) dX12_line_25 rfl rfl ?_
      refine ZV_icmp_eq (tgt := 44) (n := 29) dX12_line_26 (by decide) rfl (fun h26 => ?_) (fun h26 => ?_)
      · skip
        subst h26
        refine ZV_aload_n (n := 45) dX12_line_44 rfl rfl rfl ?_
        obtain ⟨k, hk, hk2, rfl⟩ := inB_t h13
        obtain ⟨f, hf, hft, rfl⟩ := evB_t hI h21
        have hfx : f < 2147483648 := by omega
        refine ZV_getIv (n := 48) dX12_line_45 fl_X12_205 rfl rfl rfl (rf_sh hR :).1 (rf_linesEver hR :) ?_
        refine ZV_bipush (v := nI 30) (n := 50) dX12_line_48 rfl rfl ?_
        refine ZV_icmp_neN (tgt := 60) (n := 53) dX12_line_50 (by decide) rfl (by omega) (by omega) (fun h50 => ?_) (fun h50 => ?_)
        · skip
          refine ZV_aload_n (n := 61) dX12_line_60 rfl rfl rfl ?_
          refine ZV_getR (n := 64) dX12_line_61 fl_X12_69 rfl rfl rfl (rf_sh hR :).1 ?_
          refine ZV_aload_n (n := 65) dX12_line_64 rfl rfl rfl ?_
          refine ZV_getIv (n := 68) dX12_line_65 fl_X12_205 rfl rfl rfl (rf_sh hR :).1 (Eq.trans ((rf_linesEver hR :) :) (show _ = nI (g_le T) by first | simp only [gh_le_ct, gh_le_cu, gh_le_cl, gh_le_np, gh_le_pk, gh_le_nb, gh_le_bt, gh_le_ev, gh_le_th, gh_le_vo, gh_le_kd, gh_le_pn, gh_le_pi, gh_le_va, gh_le_dt, gh_le_ti, gh_le_pl, gh_le_mn, gh_le_ro, gh_le_te, gh_le_tt, gh_le_tv, gh_le_tf, gh_le_tl, gh_le_tn, gh_le_tm, gh_le_tu, gh_le_le, gh_le_lt, gh_le_lk, gh_le_lf, gh_le_lo, gh_le_wm, gh_le_wr, gh_le_fo, gh_le_fi, gh_le_hr, gh_le_rk, gh_le_rs, gh_le_rr, gh_le_hs, gh_le_sk, gh_le_ss, gh_le_sr, gh_le_fa, gh_le_su, gh_le_tr] | rfl)) ?_
          refine ZV_iconst (v := nI 1) (n := 69) dX12_line_68 rfl rfl ?_
          refine ZV_bast (n := 70) dX12_line_69 rfl (Or.inr rfl) (ra_isLine (rf_sh hR :) :) (rk_isLine (rf_sh hR :) :) rfl (by omega) ?_
          refine ZV_gen (P := fun τ => rR x τ _) (rR_isLine hR true) (fun σ hR => ?_)
          refine ZV_aload_n (n := 71) dX12_line_70 rfl rfl rfl ?_
          refine ZV_getR (n := 74) dX12_line_71 fl_X12_72 rfl rfl rfl (rf_sh hR :).1 ?_
          refine ZV_aload_n (n := 75) dX12_line_74 rfl rfl rfl ?_
          refine ZV_getIv (n := 78) dX12_line_75 fl_X12_205 rfl rfl rfl (rf_sh hR :).1 (Eq.trans ((rf_linesEver hR :) :) (show _ = nI (g_le T) by first | simp only [gh_le_ct, gh_le_cu, gh_le_cl, gh_le_np, gh_le_pk, gh_le_nb, gh_le_bt, gh_le_ev, gh_le_th, gh_le_vo, gh_le_kd, gh_le_pn, gh_le_pi, gh_le_va, gh_le_dt, gh_le_ti, gh_le_pl, gh_le_mn, gh_le_ro, gh_le_te, gh_le_tt, gh_le_tv, gh_le_tf, gh_le_tl, gh_le_tn, gh_le_tm, gh_le_tu, gh_le_le, gh_le_lt, gh_le_lk, gh_le_lf, gh_le_lo, gh_le_wm, gh_le_wr, gh_le_fo, gh_le_fi, gh_le_hr, gh_le_rk, gh_le_rs, gh_le_rr, gh_le_hs, gh_le_sk, gh_le_ss, gh_le_sr, gh_le_fa, gh_le_su, gh_le_tr] | rfl)) ?_
          refine ZV_iload_n (n := 79) dX12_line_78 rfl rfl rfl ?_
          refine ZV_iast (n := 80) dX12_line_79 rfl (ra_lineKind (rf_sh hR :) :) (rk_lineKind (rf_sh hR :) :) rfl (by omega) ?_
          refine ZV_gen (P := fun τ => rR x τ _) (rR_lineKind hR _) (fun σ hR => ?_)
          refine ZV_aload_n (n := 81) dX12_line_80 rfl rfl rfl ?_
          refine ZV_getR (n := 84) dX12_line_81 fl_X12_75 rfl rfl rfl (rf_sh hR :).1 ?_
          refine ZV_aload_n (n := 85) dX12_line_84 rfl rfl rfl ?_
          refine ZV_getIv (n := 88) dX12_line_85 fl_X12_205 rfl rfl rfl (rf_sh hR :).1 (Eq.trans ((rf_linesEver hR :) :) (show _ = nI (g_le T) by first | simp only [gh_le_ct, gh_le_cu, gh_le_cl, gh_le_np, gh_le_pk, gh_le_nb, gh_le_bt, gh_le_ev, gh_le_th, gh_le_vo, gh_le_kd, gh_le_pn, gh_le_pi, gh_le_va, gh_le_dt, gh_le_ti, gh_le_pl, gh_le_mn, gh_le_ro, gh_le_te, gh_le_tt, gh_le_tv, gh_le_tf, gh_le_tl, gh_le_tn, gh_le_tm, gh_le_tu, gh_le_le, gh_le_lt, gh_le_lk, gh_le_lf, gh_le_lo, gh_le_wm, gh_le_wr, gh_le_fo, gh_le_fi, gh_le_hr, gh_le_rk, gh_le_rs, gh_le_rr, gh_le_hs, gh_le_sk, gh_le_ss, gh_le_sr, gh_le_fa, gh_le_su, gh_le_tr] | rfl)) ?_
          refine ZV_iload_n (n := 89) dX12_line_88 rfl rfl rfl ?_
          refine ZV_iast (n := 90) dX12_line_89 rfl (ra_lineFrom (rf_sh hR :) :) (rk_lineFrom (rf_sh hR :) :) rfl (by omega) ?_
          refine ZV_gen (P := fun τ => rR x τ _) (rR_lineFrom hR _) (fun σ hR => ?_)
          refine ZV_aload_n (n := 91) dX12_line_90 rfl rfl rfl ?_
          refine ZV_getR (n := 94) dX12_line_91 fl_X12_78 rfl rfl rfl (rf_sh hR :).1 ?_
          refine ZV_aload_n (n := 95) dX12_line_94 rfl rfl rfl ?_
          refine ZV_getIv (n := 98) dX12_line_95 fl_X12_205 rfl rfl rfl (rf_sh hR :).1 (Eq.trans ((rf_linesEver hR :) :) (show _ = nI (g_le T) by first | simp only [gh_le_ct, gh_le_cu, gh_le_cl, gh_le_np, gh_le_pk, gh_le_nb, gh_le_bt, gh_le_ev, gh_le_th, gh_le_vo, gh_le_kd, gh_le_pn, gh_le_pi, gh_le_va, gh_le_dt, gh_le_ti, gh_le_pl, gh_le_mn, gh_le_ro, gh_le_te, gh_le_tt, gh_le_tv, gh_le_tf, gh_le_tl, gh_le_tn, gh_le_tm, gh_le_tu, gh_le_le, gh_le_lt, gh_le_lk, gh_le_lf, gh_le_lo, gh_le_wm, gh_le_wr, gh_le_fo, gh_le_fi, gh_le_hr, gh_le_rk, gh_le_rs, gh_le_rr, gh_le_hs, gh_le_sk, gh_le_ss, gh_le_sr, gh_le_fa, gh_le_su, gh_le_tr] | rfl)) ?_
          refine ZV_iload_n (n := 99) dX12_line_98 rfl rfl rfl ?_
          refine ZV_iast (n := 100) dX12_line_99 rfl (ra_lineTo (rf_sh hR :) :) (rk_lineTo (rf_sh hR :) :) rfl (by omega) ?_
          refine ZV_gen (P := fun τ => rR x τ _) (rR_lineTo hR none) (fun σ hR => ?_)
          refine ZV_aload_n (n := 101) dX12_line_100 rfl rfl rfl ?_
          refine ZV_dup (n := 102) dX12_line_101 rfl rfl ?_
          refine ZV_getIv (n := 105) dX12_line_102 fl_X12_205 rfl rfl rfl (rf_sh hR :).1 (Eq.trans ((rf_linesEver hR :) :) (show _ = nI (g_le T) by first | simp only [gh_le_ct, gh_le_cu, gh_le_cl, gh_le_np, gh_le_pk, gh_le_nb, gh_le_bt, gh_le_ev, gh_le_th, gh_le_vo, gh_le_kd, gh_le_pn, gh_le_pi, gh_le_va, gh_le_dt, gh_le_ti, gh_le_pl, gh_le_mn, gh_le_ro, gh_le_te, gh_le_tt, gh_le_tv, gh_le_tf, gh_le_tl, gh_le_tn, gh_le_tm, gh_le_tu, gh_le_le, gh_le_lt, gh_le_lk, gh_le_lf, gh_le_lo, gh_le_wm, gh_le_wr, gh_le_fo, gh_le_fi, gh_le_hr, gh_le_rk, gh_le_rs, gh_le_rr, gh_le_hs, gh_le_sk, gh_le_ss, gh_le_sr, gh_le_fa, gh_le_su, gh_le_tr] | rfl)) ?_
          refine ZV_iconst (v := nI 1) (n := 106) dX12_line_105 rfl rfl ?_
          refine ZV_iaddN (n := 107) dX12_line_106 rfl ?_
          refine ZV_putI (n := 110) dX12_line_107 fl_X12_205 rfl (Or.inl rfl) rfl (fun h => absurd h (by decide)) rfl (rf_sh hR :).1 ?_
          refine ZV_gen (P := fun τ => rR x τ _) (rR_linesEver hR _) (fun σ hR => ?_)
          refine ZV_aload_n (n := 111) dX12_line_110 rfl rfl rfl ?_
          refine ZV_dup (n := 112) dX12_line_111 rfl rfl ?_
          refine ZV_getIv (n := 115) dX12_line_112 fl_X12_208 rfl rfl rfl (rf_sh hR :).1 (Eq.trans ((rf_linesThere hR :) :) (show _ = nI (g_cl T) by first | simp only [gh_cl_ct, gh_cl_cu, gh_cl_cl, gh_cl_np, gh_cl_pk, gh_cl_nb, gh_cl_bt, gh_cl_ev, gh_cl_th, gh_cl_vo, gh_cl_kd, gh_cl_pn, gh_cl_pi, gh_cl_va, gh_cl_dt, gh_cl_ti, gh_cl_pl, gh_cl_mn, gh_cl_ro, gh_cl_te, gh_cl_tt, gh_cl_tv, gh_cl_tf, gh_cl_tl, gh_cl_tn, gh_cl_tm, gh_cl_tu, gh_cl_le, gh_cl_lt, gh_cl_lk, gh_cl_lf, gh_cl_lo, gh_cl_wm, gh_cl_wr, gh_cl_fo, gh_cl_fi, gh_cl_hr, gh_cl_rk, gh_cl_rs, gh_cl_rr, gh_cl_hs, gh_cl_sk, gh_cl_ss, gh_cl_sr, gh_cl_fa, gh_cl_su, gh_cl_tr] | rfl)) ?_
          refine ZV_iconst (v := nI 1) (n := 116) dX12_line_115 rfl rfl ?_
          refine ZV_iaddN (n := 117) dX12_line_116 rfl ?_
          refine ZV_putI (n := 120) dX12_line_117 fl_X12_208 rfl (Or.inl rfl) rfl (fun h => absurd h (by decide)) rfl (rf_sh hR :).1 ?_
          refine ZV_gen (P := fun τ => rR x τ _) (rR_linesThere hR _) (fun σ hR => ?_)
          refine ZV_aload_n (n := 121) dX12_line_120 rfl rfl rfl ?_
          refine ZV_getIv (n := 124) dX12_line_121 fl_X12_205 rfl rfl rfl (rf_sh hR :).1 (Eq.trans ((rf_linesEver hR :) :) (show _ = nI (g_le T + 1) by first | simp only [gh_le_ct, gh_le_cu, gh_le_cl, gh_le_np, gh_le_pk, gh_le_nb, gh_le_bt, gh_le_ev, gh_le_th, gh_le_vo, gh_le_kd, gh_le_pn, gh_le_pi, gh_le_va, gh_le_dt, gh_le_ti, gh_le_pl, gh_le_mn, gh_le_ro, gh_le_te, gh_le_tt, gh_le_tv, gh_le_tf, gh_le_tl, gh_le_tn, gh_le_tm, gh_le_tu, gh_le_le, gh_le_lt, gh_le_lk, gh_le_lf, gh_le_lo, gh_le_wm, gh_le_wr, gh_le_fo, gh_le_fi, gh_le_hr, gh_le_rk, gh_le_rs, gh_le_rr, gh_le_hs, gh_le_sk, gh_le_ss, gh_le_sr, gh_le_fa, gh_le_su, gh_le_tr] | rfl)) ?_
          refine ZV_iconst (v := nI 1) (n := 125) dX12_line_124 rfl rfl ?_
          refine ZV_isubN (n := 126) dX12_line_125 rfl (by omega) ?_
          refine ZV_iret dX12_line_126 rfl ?_
          first | exact zleaf (v := sOk (h_cl (h_le (h_lo (h_lf (h_lk (h_lt T (va_up (g_lt T) (g_le T) true)) (va_up (g_lk T) (g_le T) k)) (va_up (g_lf T) (g_le T) f)) (va_up (g_lo T) (g_le T) none)) (g_le T + 1)) (g_cl T + 1)) (nI (g_le T))) (by simp [sp_line, h13, h21, h50, enO, nI_clamp hk2, nI_clamp hfx]) (by simp [sOk]) (rR_s0 hR hsu) | exact zleaf (v := sOk (h_cl (h_le (h_lo (h_lf (h_lk (h_lt T (va_up (g_lt T) (g_le T) true)) (va_up (g_lk T) (g_le T) k)) (va_up (g_lf T) (g_le T) f)) (va_up (g_lo T) (g_le T) (some j))) (g_le T + 1)) (g_cl T + 1)) (nI (g_le T))) (by simp [sp_line, h13, h21, h34, h50, enO, nI_clamp hk2, nI_clamp hfx, nI_clamp hjx, nI_ne_m1 hjx]) (by simp [sOk]) (rR_s0 hR hsu)
        · skip
          refine ZV_aload_n (n := 54) dX12_line_53 rfl rfl rfl ?_
          refine ZV_bipush (v := -4) (n := 56) dX12_line_54 rfl rfl ?_
          refine call_X12_130 (c_no hR _) rfl dX12_line_56 rfl (rf_sh hR :).1 (Nat.le_of_ble_eq_true rfl) (Nat.le_of_ble_eq_true rfl) rfl (fun r9 σ9 hp9 => ?_)
          obtain ⟨rfl, hR⟩ := hp9
          refine ZV_iret dX12_line_59 rfl ?_
          exact zleaf (v := sNo T (-4)) (by simp [sp_line, h13, h21, h50]) rfl hR
      · skip
        refine ZV_aload_n (n := 30) dX12_line_29 rfl rfl rfl ?_
        refine ZV_iload_n (n := 31) dX12_line_30 rfl rfl rfl ?_
        refine call_X12_193 (c_isEvent hR hI _) rfl dX12_line_31 rfl (rf_sh hR :).1 (Nat.le_of_ble_eq_true rfl) (Nat.le_of_ble_eq_true rfl) rfl (fun r9 σ9 hp9 => ?_)
        obtain ⟨rfl, rfl⟩ := hp9
        refine ZV_if_neB (tgt := 44) (n := 37) dX12_line_34 (by decide) rfl (fun h34 => ?_) (fun h34 => ?_)
        · skip
          obtain ⟨j, hj, hjt, rfl⟩ := evB_t hI h34
          have hjx : j < 2147483648 := by omega
          refine ZV_aload_n (n := 45) dX12_line_44 rfl rfl rfl ?_
          obtain ⟨k, hk, hk2, rfl⟩ := inB_t h13
          obtain ⟨f, hf, hft, rfl⟩ := evB_t hI h21
          have hfx : f < 2147483648 := by omega
          refine ZV_getIv (n := 48) dX12_line_45 fl_X12_205 rfl rfl rfl (rf_sh hR :).1 (rf_linesEver hR :) ?_
          refine ZV_bipush (v := nI 30) (n := 50) dX12_line_48 rfl rfl ?_
          refine ZV_icmp_neN (tgt := 60) (n := 53) dX12_line_50 (by decide) rfl (by omega) (by omega) (fun h50 => ?_) (fun h50 => ?_)
          · skip
            refine ZV_aload_n (n := 61) dX12_line_60 rfl rfl rfl ?_
            refine ZV_getR (n := 64) dX12_line_61 fl_X12_69 rfl rfl rfl (rf_sh hR :).1 ?_
            refine ZV_aload_n (n := 65) dX12_line_64 rfl rfl rfl ?_
            refine ZV_getIv (n := 68) dX12_line_65 fl_X12_205 rfl rfl rfl (rf_sh hR :).1 (Eq.trans ((rf_linesEver hR :) :) (show _ = nI (g_le T) by first | simp only [gh_le_ct, gh_le_cu, gh_le_cl, gh_le_np, gh_le_pk, gh_le_nb, gh_le_bt, gh_le_ev, gh_le_th, gh_le_vo, gh_le_kd, gh_le_pn, gh_le_pi, gh_le_va, gh_le_dt, gh_le_ti, gh_le_pl, gh_le_mn, gh_le_ro, gh_le_te, gh_le_tt, gh_le_tv, gh_le_tf, gh_le_tl, gh_le_tn, gh_le_tm, gh_le_tu, gh_le_le, gh_le_lt, gh_le_lk, gh_le_lf, gh_le_lo, gh_le_wm, gh_le_wr, gh_le_fo, gh_le_fi, gh_le_hr, gh_le_rk, gh_le_rs, gh_le_rr, gh_le_hs, gh_le_sk, gh_le_ss, gh_le_sr, gh_le_fa, gh_le_su, gh_le_tr] | rfl)) ?_
            refine ZV_iconst (v := nI 1) (n := 69) dX12_line_68 rfl rfl ?_
            refine ZV_bast (n := 70) dX12_line_69 rfl (Or.inr rfl) (ra_isLine (rf_sh hR :) :) (rk_isLine (rf_sh hR :) :) rfl (by omega) ?_
            refine ZV_gen (P := fun τ => rR x τ _) (rR_isLine hR true) (fun σ hR => ?_)
            refine ZV_aload_n (n := 71) dX12_line_70 rfl rfl rfl ?_
            refine ZV_getR (n := 74) dX12_line_71 fl_X12_72 rfl rfl rfl (rf_sh hR :).1 ?_
            refine ZV_aload_n (n := 75) dX12_line_74 rfl rfl rfl ?_
            refine ZV_getIv (n := 78) dX12_line_75 fl_X12_205 rfl rfl rfl (rf_sh hR :).1 (Eq.trans ((rf_linesEver hR :) :) (show _ = nI (g_le T) by first | simp only [gh_le_ct, gh_le_cu, gh_le_cl, gh_le_np, gh_le_pk, gh_le_nb, gh_le_bt, gh_le_ev, gh_le_th, gh_le_vo, gh_le_kd, gh_le_pn, gh_le_pi, gh_le_va, gh_le_dt, gh_le_ti, gh_le_pl, gh_le_mn, gh_le_ro, gh_le_te, gh_le_tt, gh_le_tv, gh_le_tf, gh_le_tl, gh_le_tn, gh_le_tm, gh_le_tu, gh_le_le, gh_le_lt, gh_le_lk, gh_le_lf, gh_le_lo, gh_le_wm, gh_le_wr, gh_le_fo, gh_le_fi, gh_le_hr, gh_le_rk, gh_le_rs, gh_le_rr, gh_le_hs, gh_le_sk, gh_le_ss, gh_le_sr, gh_le_fa, gh_le_su, gh_le_tr] | rfl)) ?_
            refine ZV_iload_n (n := 79) dX12_line_78 rfl rfl rfl ?_
            refine ZV_iast (n := 80) dX12_line_79 rfl (ra_lineKind (rf_sh hR :) :) (rk_lineKind (rf_sh hR :) :) rfl (by omega) ?_
            refine ZV_gen (P := fun τ => rR x τ _) (rR_lineKind hR _) (fun σ hR => ?_)
            refine ZV_aload_n (n := 81) dX12_line_80 rfl rfl rfl ?_
            refine ZV_getR (n := 84) dX12_line_81 fl_X12_75 rfl rfl rfl (rf_sh hR :).1 ?_
            refine ZV_aload_n (n := 85) dX12_line_84 rfl rfl rfl ?_
            refine ZV_getIv (n := 88) dX12_line_85 fl_X12_205 rfl rfl rfl (rf_sh hR :).1 (Eq.trans ((rf_linesEver hR :) :) (show _ = nI (g_le T) by first | simp only [gh_le_ct, gh_le_cu, gh_le_cl, gh_le_np, gh_le_pk, gh_le_nb, gh_le_bt, gh_le_ev, gh_le_th, gh_le_vo, gh_le_kd, gh_le_pn, gh_le_pi, gh_le_va, gh_le_dt, gh_le_ti, gh_le_pl, gh_le_mn, gh_le_ro, gh_le_te, gh_le_tt, gh_le_tv, gh_le_tf, gh_le_tl, gh_le_tn, gh_le_tm, gh_le_tu, gh_le_le, gh_le_lt, gh_le_lk, gh_le_lf, gh_le_lo, gh_le_wm, gh_le_wr, gh_le_fo, gh_le_fi, gh_le_hr, gh_le_rk, gh_le_rs, gh_le_rr, gh_le_hs, gh_le_sk, gh_le_ss, gh_le_sr, gh_le_fa, gh_le_su, gh_le_tr] | rfl)) ?_
            refine ZV_iload_n (n := 89) dX12_line_88 rfl rfl rfl ?_
            refine ZV_iast (n := 90) dX12_line_89 rfl (ra_lineFrom (rf_sh hR :) :) (rk_lineFrom (rf_sh hR :) :) rfl (by omega) ?_
            refine ZV_gen (P := fun τ => rR x τ _) (rR_lineFrom hR _) (fun σ hR => ?_)
            refine ZV_aload_n (n := 91) dX12_line_90 rfl rfl rfl ?_
            refine ZV_getR (n := 94) dX12_line_91 fl_X12_78 rfl rfl rfl (rf_sh hR :).1 ?_
            refine ZV_aload_n (n := 95) dX12_line_94 rfl rfl rfl ?_
            refine ZV_getIv (n := 98) dX12_line_95 fl_X12_205 rfl rfl rfl (rf_sh hR :).1 (Eq.trans ((rf_linesEver hR :) :) (show _ = nI (g_le T) by first | simp only [gh_le_ct, gh_le_cu, gh_le_cl, gh_le_np, gh_le_pk, gh_le_nb, gh_le_bt, gh_le_ev, gh_le_th, gh_le_vo, gh_le_kd, gh_le_pn, gh_le_pi, gh_le_va, gh_le_dt, gh_le_ti, gh_le_pl, gh_le_mn, gh_le_ro, gh_le_te, gh_le_tt, gh_le_tv, gh_le_tf, gh_le_tl, gh_le_tn, gh_le_tm, gh_le_tu, gh_le_le, gh_le_lt, gh_le_lk, gh_le_lf, gh_le_lo, gh_le_wm, gh_le_wr, gh_le_fo, gh_le_fi, gh_le_hr, gh_le_rk, gh_le_rs, gh_le_rr, gh_le_hs, gh_le_sk, gh_le_ss, gh_le_sr, gh_le_fa, gh_le_su, gh_le_tr] | rfl)) ?_
            refine ZV_iload_n (n := 99) dX12_line_98 rfl rfl rfl ?_
            refine ZV_iast (n := 100) dX12_line_99 rfl (ra_lineTo (rf_sh hR :) :) (rk_lineTo (rf_sh hR :) :) rfl (by omega) ?_
            refine ZV_gen (P := fun τ => rR x τ _) (rR_lineTo hR (some j)) (fun σ hR => ?_)
            refine ZV_aload_n (n := 101) dX12_line_100 rfl rfl rfl ?_
            refine ZV_dup (n := 102) dX12_line_101 rfl rfl ?_
            refine ZV_getIv (n := 105) dX12_line_102 fl_X12_205 rfl rfl rfl (rf_sh hR :).1 (Eq.trans ((rf_linesEver hR :) :) (show _ = nI (g_le T) by first | simp only [gh_le_ct, gh_le_cu, gh_le_cl, gh_le_np, gh_le_pk, gh_le_nb, gh_le_bt, gh_le_ev, gh_le_th, gh_le_vo, gh_le_kd, gh_le_pn, gh_le_pi, gh_le_va, gh_le_dt, gh_le_ti, gh_le_pl, gh_le_mn, gh_le_ro, gh_le_te, gh_le_tt, gh_le_tv, gh_le_tf, gh_le_tl, gh_le_tn, gh_le_tm, gh_le_tu, gh_le_le, gh_le_lt, gh_le_lk, gh_le_lf, gh_le_lo, gh_le_wm, gh_le_wr, gh_le_fo, gh_le_fi, gh_le_hr, gh_le_rk, gh_le_rs, gh_le_rr, gh_le_hs, gh_le_sk, gh_le_ss, gh_le_sr, gh_le_fa, gh_le_su, gh_le_tr] | rfl)) ?_
            refine ZV_iconst (v := nI 1) (n := 106) dX12_line_105 rfl rfl ?_
            refine ZV_iaddN (n := 107) dX12_line_106 rfl ?_
            refine ZV_putI (n := 110) dX12_line_107 fl_X12_205 rfl (Or.inl rfl) rfl (fun h => absurd h (by decide)) rfl (rf_sh hR :).1 ?_
            refine ZV_gen (P := fun τ => rR x τ _) (rR_linesEver hR _) (fun σ hR => ?_)
            refine ZV_aload_n (n := 111) dX12_line_110 rfl rfl rfl ?_
            refine ZV_dup (n := 112) dX12_line_111 rfl rfl ?_
            refine ZV_getIv (n := 115) dX12_line_112 fl_X12_208 rfl rfl rfl (rf_sh hR :).1 (Eq.trans ((rf_linesThere hR :) :) (show _ = nI (g_cl T) by first | simp only [gh_cl_ct, gh_cl_cu, gh_cl_cl, gh_cl_np, gh_cl_pk, gh_cl_nb, gh_cl_bt, gh_cl_ev, gh_cl_th, gh_cl_vo, gh_cl_kd, gh_cl_pn, gh_cl_pi, gh_cl_va, gh_cl_dt, gh_cl_ti, gh_cl_pl, gh_cl_mn, gh_cl_ro, gh_cl_te, gh_cl_tt, gh_cl_tv, gh_cl_tf, gh_cl_tl, gh_cl_tn, gh_cl_tm, gh_cl_tu, gh_cl_le, gh_cl_lt, gh_cl_lk, gh_cl_lf, gh_cl_lo, gh_cl_wm, gh_cl_wr, gh_cl_fo, gh_cl_fi, gh_cl_hr, gh_cl_rk, gh_cl_rs, gh_cl_rr, gh_cl_hs, gh_cl_sk, gh_cl_ss, gh_cl_sr, gh_cl_fa, gh_cl_su, gh_cl_tr] | rfl)) ?_
            refine ZV_iconst (v := nI 1) (n := 116) dX12_line_115 rfl rfl ?_
            refine ZV_iaddN (n := 117) dX12_line_116 rfl ?_
            refine ZV_putI (n := 120) dX12_line_117 fl_X12_208 rfl (Or.inl rfl) rfl (fun h => absurd h (by decide)) rfl (rf_sh hR :).1 ?_
            refine ZV_gen (P := fun τ => rR x τ _) (rR_linesThere hR _) (fun σ hR => ?_)
            refine ZV_aload_n (n := 121) dX12_line_120 rfl rfl rfl ?_
            refine ZV_getIv (n := 124) dX12_line_121 fl_X12_205 rfl rfl rfl (rf_sh hR :).1 (Eq.trans ((rf_linesEver hR :) :) (show _ = nI (g_le T + 1) by first | simp only [gh_le_ct, gh_le_cu, gh_le_cl, gh_le_np, gh_le_pk, gh_le_nb, gh_le_bt, gh_le_ev, gh_le_th, gh_le_vo, gh_le_kd, gh_le_pn, gh_le_pi, gh_le_va, gh_le_dt, gh_le_ti, gh_le_pl, gh_le_mn, gh_le_ro, gh_le_te, gh_le_tt, gh_le_tv, gh_le_tf, gh_le_tl, gh_le_tn, gh_le_tm, gh_le_tu, gh_le_le, gh_le_lt, gh_le_lk, gh_le_lf, gh_le_lo, gh_le_wm, gh_le_wr, gh_le_fo, gh_le_fi, gh_le_hr, gh_le_rk, gh_le_rs, gh_le_rr, gh_le_hs, gh_le_sk, gh_le_ss, gh_le_sr, gh_le_fa, gh_le_su, gh_le_tr] | rfl)) ?_
            refine ZV_iconst (v := nI 1) (n := 125) dX12_line_124 rfl rfl ?_
            refine ZV_isubN (n := 126) dX12_line_125 rfl (by omega) ?_
            refine ZV_iret dX12_line_126 rfl ?_
            first | exact zleaf (v := sOk (h_cl (h_le (h_lo (h_lf (h_lk (h_lt T (va_up (g_lt T) (g_le T) true)) (va_up (g_lk T) (g_le T) k)) (va_up (g_lf T) (g_le T) f)) (va_up (g_lo T) (g_le T) none)) (g_le T + 1)) (g_cl T + 1)) (nI (g_le T))) (by simp [sp_line, h13, h21, h50, enO, nI_clamp hk2, nI_clamp hfx]) (by simp [sOk]) (rR_s0 hR hsu) | exact zleaf (v := sOk (h_cl (h_le (h_lo (h_lf (h_lk (h_lt T (va_up (g_lt T) (g_le T) true)) (va_up (g_lk T) (g_le T) k)) (va_up (g_lf T) (g_le T) f)) (va_up (g_lo T) (g_le T) (some j))) (g_le T + 1)) (g_cl T + 1)) (nI (g_le T))) (by simp [sp_line, h13, h21, h34, h50, enO, nI_clamp hk2, nI_clamp hfx, nI_clamp hjx, nI_ne_m1 hjx]) (by simp [sOk]) (rR_s0 hR hsu)
          · skip
            refine ZV_aload_n (n := 54) dX12_line_53 rfl rfl rfl ?_
            refine ZV_bipush (v := -4) (n := 56) dX12_line_54 rfl rfl ?_
            refine call_X12_130 (c_no hR _) rfl dX12_line_56 rfl (rf_sh hR :).1 (Nat.le_of_ble_eq_true rfl) (Nat.le_of_ble_eq_true rfl) rfl (fun r9 σ9 hp9 => ?_)
            obtain ⟨rfl, hR⟩ := hp9
            refine ZV_iret dX12_line_59 rfl ?_
            exact zleaf (v := sNo T (-4)) (by simp [sp_line, h13, h21, h26, h34, h50]) rfl hR
        · skip
          refine ZV_aload_n (n := 38) dX12_line_37 rfl rfl rfl ?_
          refine ZV_bipush (v := -2) (n := 40) dX12_line_38 rfl rfl ?_
          refine call_X12_130 (c_no hR _) rfl dX12_line_40 rfl (rf_sh hR :).1 (Nat.le_of_ble_eq_true rfl) (Nat.le_of_ble_eq_true rfl) rfl (fun r9 σ9 hp9 => ?_)
          obtain ⟨rfl, hR⟩ := hp9
          refine ZV_iret dX12_line_43 rfl ?_
          exact zleaf (v := sNo T (-2)) (by simp [sp_line, h13, h21, h26, h34]) rfl hR
