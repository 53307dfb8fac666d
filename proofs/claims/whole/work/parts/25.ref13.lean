def sp_lays (T : TS) (o : Option Nat) (s : Nat) (p : Int) : Bool × TS := match o with
  | none => (false, (sFl T 0 (-11) (-11)).2)
  | some e => if noB T e = false then (false, (sFl T 2 (-13) (-13)).2) else if g_hs T s = false then (false, (sFl T 0 (-11) (-11)).2) else if 0 ≤ p ∧ p < (g_ss T s : Int) then (true, h_sr T (va_u2 (g_sr T) s (va_up (g_sr T s) p.toNat (g_pi T e 0)))) else (false, (sFl T 1 (-12) (-12)).2)
/-- f's events from q on, k of them, laid on shelf s from a on -/
def lyS (f : Nat → Option Nat) (s : Nat) (a : Int32) : Nat → Nat → TS → Int32 × TS
  | 0, q, T => sOk T (nI q)
  | k + 1, q, T => if (sp_lays T (f q) s (a.toInt + q)).1 = true then lyS f s a k (q + 1) (sp_lays T (f q) s (a.toInt + q)).2 else (nI q, (sp_lays T (f q) s (a.toInt + q)).2)
def sp_lay (T : TS) (v : Int32) (b : Bool) (s a : Int32) : Int32 × TS := if (if b = true then inB v 4 else inB v (3 * g_np T)) = true ∧ inB s 4 = true then (if b = true then (if g_hr T v.toNatClampNeg = false then sFl T 0 (-11) 0 else lyS (g_rr T v.toNatClampNeg) s.toNatClampNeg a (g_rs T v.toNatClampNeg) 0 (h_su T 0)) else lyS (fun p => some (g_ro T v.toNatClampNeg p)) s.toNatClampNeg a (g_mn T v.toNatClampNeg) 0 (h_su T 0)) else sNo T (-2)
theorem zleafB {x : Nat} {τ : ZS} {s v : Bool × TS} {r : Int32} (e : s = v) (h1 : r = bI v.1) (h2 : rR x τ v.2) : some (Ai r) = some (Ai (bI s.1)) ∧ rR x τ s.2 := by
  subst e
  exact ⟨by rw [h1], h2⟩
theorem c_inP (σ : ZS) (p : Int64) {n : Nat} (hn : n < 2147483648) : ZC M_X12_in [Al p, Al (lN 0), Al ((nI n - nI 1).toInt64)] σ (fun r τ => r = some (Ai (bI (decide (0 ≤ p.toInt ∧ p.toInt < (n : Int))))) ∧ τ = σ) := by
  have h := c_in σ p (lN 0) ((nI n - nI 1).toInt64)
  have e : decide (lN 0 ≤ p ∧ p ≤ (nI n - nI 1).toInt64) = decide (0 ≤ p.toInt ∧ p.toInt < (n : Int)) := by
    apply decide_eq_decide.mpr
    rw [i64_le, i64_le, Int32.toInt_toInt64, nI_m1_toInt hn, pk_lT (by decide)]
    omega
  rw [e] at h
  exact h
theorem lN_of {p : Int64} (h : 0 ≤ p.toInt) : p = lN p.toInt.toNat := by
  apply Int64.toInt_inj.mp
  have := p.toInt_lt
  rw [pk_lT (by omega)]
  omega
set_option maxHeartbeats 4000000 in
set_option maxRecDepth 100000 in
theorem c_lays {x : Nat} {σ : ZS} {T : TS} (hR : rR x σ T) (hI : tI T) (o : Option Nat) (ho : ∀ e, o = some e → e < g_ev T) (s : Nat) (hs : s < 4) (p : Int64) : ZC M_X12_lays [Ar (some x), Ai (oI o), Ai (nI s), Al p] σ (fun y0 τ0 => y0 = some (Ai (bI (sp_lays T o s p.toInt).1)) ∧ rR x τ0 (sp_lays T o s p.toInt).2) := by
  have hev := ti_ev hI
  have hss := ti_sk hI s hs
  refine ZC_of (ls := [some (Ar (some x)), some (Ai (oI o)), some (Ai (nI s)), some (Al p), none]) (by decide) (Nat.le_of_ble_eq_true rfl) rfl ?_
  refine ZV_iload_n (n := 1) dX12_lays_0 rfl rfl rfl ?_
  refine ZV_iconst (v := -1) (n := 2) dX12_lays_1 rfl rfl ?_
  refine ZV_icmp_ne (tgt := 17) (n := 5) dX12_lays_2 (by decide) rfl (fun h2 => ?_) (fun h2 => ?_)
  · skip
    cases o with
    | none => exact absurd rfl h2
    | some e =>
      have he := ho e rfl
      refine ZV_aload_n (n := 18) dX12_lays_17 rfl rfl rfl ?_
      refine ZV_iload_n (n := 19) dX12_lays_18 rfl rfl rfl ?_
      refine call_X12_214 (c_isNote hR hI _ (by omega)) rfl dX12_lays_19 rfl (rf_sh hR :).1 (Nat.le_of_ble_eq_true rfl) (Nat.le_of_ble_eq_true rfl) rfl (fun r9 σ9 hp9 => ?_)
      obtain ⟨rfl, rfl⟩ := hp9
      refine ZV_if_neB (tgt := 37) (n := 25) dX12_lays_22 (by decide) rfl (fun h22 => ?_) (fun h22 => ?_)
      · skip
        refine ZV_aload_n (n := 38) dX12_lays_37 rfl rfl rfl ?_
        refine ZV_getR (n := 41) dX12_lays_38 fl_X12_102 rfl rfl rfl (rf_sh hR :).1 ?_
        refine ZV_iload_n (n := 42) dX12_lays_41 rfl rfl rfl ?_
        refine ZV_baldv (n := 43) dX12_lays_42 rfl (ra_hasShelf (rf_sh hR :) :) (rk_hasShelf (rf_sh hR :) :) rfl (by omega) (rf_hasShelf hR _ (by omega)) ?_
        refine ZV_if_neB (tgt := 58) (n := 46) dX12_lays_43 (by decide) rfl (fun h43 => ?_) (fun h43 => ?_)
        · skip
          refine ZV_lload_n (n := 59) dX12_lays_58 rfl rfl rfl ?_
          refine ZV_lconst (v := lN 0) (n := 60) dX12_lays_59 rfl rfl ?_
          refine ZV_aload_n (n := 61) dX12_lays_60 rfl rfl rfl ?_
          refine ZV_getR (n := 64) dX12_lays_61 fl_X12_108 rfl rfl rfl (rf_sh hR :).1 ?_
          refine ZV_iload_n (n := 65) dX12_lays_64 rfl rfl rfl ?_
          refine ZV_ialdv (n := 66) dX12_lays_65 rfl (ra_shelfSize (rf_sh hR :) :) (rk_shelfSize (rf_sh hR :) :) rfl (by omega) (rf_shelfSize hR _ (by omega)) ?_
          refine ZV_iconst (v := nI 1) (n := 67) dX12_lays_66 rfl rfl ?_
          refine ZV_isub (n := 68) dX12_lays_67 rfl ?_
          refine ZV_i2l (n := 69) dX12_lays_68 rfl ?_
          refine call_X12_137 (c_inP _ _ (by omega)) rfl dX12_lays_69 (Nat.le_of_ble_eq_true rfl) (Nat.le_of_ble_eq_true rfl) rfl (fun r9 σ9 hp9 => ?_)
          obtain ⟨rfl, rfl⟩ := hp9
          refine ZV_if_neB (tgt := 87) (n := 75) dX12_lays_72 (by decide) rfl (fun h72 => ?_) (fun h72 => ?_)
          · skip
            have hp := of_decide_eq_true h72
            obtain ⟨q, hq, hpq⟩ : ∃ q : Nat, q < g_ss T s ∧ p = lN q := ⟨p.toInt.toNat, by omega, lN_of hp.1⟩
            have hpt : p.toInt = (q : Int) := by rw [hpq, pk_lT (by omega)]
            rw [hpt]
            rw [hpt] at hp
            subst hpq
            refine ZV_aload_n (n := 88) dX12_lays_87 rfl rfl rfl ?_
            refine ZV_getR (n := 91) dX12_lays_88 fl_X12_111 rfl rfl rfl (rf_sh hR :).1 ?_
            refine ZV_bipush (v := nI 60) (n := 93) dX12_lays_91 rfl rfl ?_
            refine ZV_iload_n (n := 94) dX12_lays_93 rfl rfl rfl ?_
            refine ZV_imulN (n := 95) dX12_lays_94 rfl ?_
            refine ZV_lload_n (n := 96) dX12_lays_95 rfl rfl rfl ?_
            refine ZV_l2iN (n := 97) dX12_lays_96 rfl ?_
            refine ZV_iaddN (n := 98) dX12_lays_97 rfl ?_
            refine ZV_aload_n (n := 99) dX12_lays_98 rfl rfl rfl ?_
            refine ZV_getR (n := 102) dX12_lays_99 fl_X12_30 rfl rfl rfl (rf_sh hR :).1 ?_
            refine ZV_bipush (v := nI 6) (n := 104) dX12_lays_102 rfl rfl ?_
            refine ZV_iload_n (n := 105) dX12_lays_104 rfl rfl rfl ?_
            refine ZV_imulN (n := 106) dX12_lays_105 rfl ?_
            refine ZV_ialdv (n := 107) dX12_lays_106 rfl (ra_pitchOf (rf_sh hR :) :) (rk_pitchOf (rf_sh hR :) :) rfl (by omega) (rf_pitchOf hR e 0 (by omega) (by omega)) ?_
            refine ZV_iast (n := 108) dX12_lays_107 rfl (ra_shelfRow (rf_sh hR :) :) (rk_shelfRow (rf_sh hR :) :) rfl (by omega) ?_
            refine ZV_gen (P := fun τ => rR x τ _) (rR_shelfRow (i := s) (j := q) hR (by omega) (by omega) _) (fun σ hR => ?_)
            refine ZV_iconst (v := nI 1) (n := 109) dX12_lays_108 rfl rfl ?_
            refine ZV_zret dX12_lays_109 rfl (by first | exact Or.inl rfl | exact Or.inr rfl) ?_
            exact zleafB (v := (true, h_sr T (va_u2 (g_sr T) s (va_up (g_sr T s) q (g_pi T e 0))))) (by rw [sp_lays]; rw [if_neg (by rw [h22]; decide), if_neg (by rw [h43]; decide), if_pos hp]; rfl) rfl hR
          · skip
            refine ZV_aload_n (n := 76) dX12_lays_75 rfl rfl rfl ?_
            refine ZV_aload_n (n := 77) dX12_lays_76 rfl rfl rfl ?_
            refine ZV_bipush (v := -12) (n := 79) dX12_lays_77 rfl rfl ?_
            refine call_X12_211 (c_fails hR (-12) 1 (by decide) rfl) rfl dX12_lays_79 rfl (rf_sh hR :).1 (Nat.le_of_ble_eq_true rfl) (Nat.le_of_ble_eq_true rfl) rfl (fun r9 σ9 hp9 => ?_)
            obtain ⟨rfl, hR⟩ := hp9
            refine ZV_putI (n := 85) dX12_lays_82 fl_X12_325 rfl (Or.inl rfl) rfl (fun h => absurd h (by decide)) rfl (rf_sh hR :).1 ?_
            refine ZV_gen (P := fun τ => rR x τ _) (rR_laid hR _) (fun σ hR => ?_)
            refine ZV_iconst (v := nI 0) (n := 86) dX12_lays_85 rfl rfl ?_
            refine ZV_zret dX12_lays_86 rfl (by first | exact Or.inl rfl | exact Or.inr rfl) ?_
            exact zleafB (v := (false, (sFl T 1 (-12) (-12)).2)) (by rw [sp_lays]; rw [if_neg (by rw [h22]; decide), if_neg (by rw [h43]; decide), if_neg (of_decide_eq_false h72)]) rfl hR
        · skip
          refine ZV_aload_n (n := 47) dX12_lays_46 rfl rfl rfl ?_
          refine ZV_aload_n (n := 48) dX12_lays_47 rfl rfl rfl ?_
          refine ZV_bipush (v := -11) (n := 50) dX12_lays_48 rfl rfl ?_
          refine call_X12_211 (c_fails hR (-11) 0 (by decide) rfl) rfl dX12_lays_50 rfl (rf_sh hR :).1 (Nat.le_of_ble_eq_true rfl) (Nat.le_of_ble_eq_true rfl) rfl (fun r9 σ9 hp9 => ?_)
          obtain ⟨rfl, hR⟩ := hp9
          refine ZV_putI (n := 56) dX12_lays_53 fl_X12_325 rfl (Or.inl rfl) rfl (fun h => absurd h (by decide)) rfl (rf_sh hR :).1 ?_
          refine ZV_gen (P := fun τ => rR x τ _) (rR_laid hR _) (fun σ hR => ?_)
          refine ZV_iconst (v := nI 0) (n := 57) dX12_lays_56 rfl rfl ?_
          refine ZV_zret dX12_lays_57 rfl (by first | exact Or.inl rfl | exact Or.inr rfl) ?_
          exact zleafB (v := (false, (sFl T 0 (-11) (-11)).2)) (by simp [sp_lays, h22, h43]) rfl hR
      · skip
        refine ZV_aload_n (n := 26) dX12_lays_25 rfl rfl rfl ?_
        refine ZV_aload_n (n := 27) dX12_lays_26 rfl rfl rfl ?_
        refine ZV_bipush (v := -13) (n := 29) dX12_lays_27 rfl rfl ?_
        refine call_X12_211 (c_fails hR (-13) 2 (by decide) rfl) rfl dX12_lays_29 rfl (rf_sh hR :).1 (Nat.le_of_ble_eq_true rfl) (Nat.le_of_ble_eq_true rfl) rfl (fun r9 σ9 hp9 => ?_)
        obtain ⟨rfl, hR⟩ := hp9
        refine ZV_putI (n := 35) dX12_lays_32 fl_X12_325 rfl (Or.inl rfl) rfl (fun h => absurd h (by decide)) rfl (rf_sh hR :).1 ?_
        refine ZV_gen (P := fun τ => rR x τ _) (rR_laid hR _) (fun σ hR => ?_)
        refine ZV_iconst (v := nI 0) (n := 36) dX12_lays_35 rfl rfl ?_
        refine ZV_zret dX12_lays_36 rfl (by first | exact Or.inl rfl | exact Or.inr rfl) ?_
        exact zleafB (v := (false, (sFl T 2 (-13) (-13)).2)) (by simp [sp_lays, h22]) rfl hR
  · skip
    obtain rfl : o = none := (oI_m1 (fun e q => by have := ho e q; omega)).mp h2
    refine ZV_aload_n (n := 6) dX12_lays_5 rfl rfl rfl ?_
    refine ZV_aload_n (n := 7) dX12_lays_6 rfl rfl rfl ?_
    refine ZV_bipush (v := -11) (n := 9) dX12_lays_7 rfl rfl ?_
    refine call_X12_211 (c_fails hR (-11) 0 (by decide) rfl) rfl dX12_lays_9 rfl (rf_sh hR :).1 (Nat.le_of_ble_eq_true rfl) (Nat.le_of_ble_eq_true rfl) rfl (fun r9 σ9 hp9 => ?_)
    obtain ⟨rfl, hR⟩ := hp9
    refine ZV_putI (n := 15) dX12_lays_12 fl_X12_325 rfl (Or.inl rfl) rfl (fun h => absurd h (by decide)) rfl (rf_sh hR :).1 ?_
    refine ZV_gen (P := fun τ => rR x τ _) (rR_laid hR _) (fun σ hR => ?_)
    refine ZV_iconst (v := nI 0) (n := 16) dX12_lays_15 rfl rfl ?_
    refine ZV_zret dX12_lays_16 rfl (by first | exact Or.inl rfl | exact Or.inr rfl) ?_
    exact ⟨rfl, hR⟩
theorem sp_lays_t {T : TS} {o : Option Nat} {s : Nat} {p : Int} (h : (sp_lays T o s p).1 = true) : ∃ w, (sp_lays T o s p).2 = h_sr T w := by
  unfold sp_lays at h ⊢
  cases o with
  | none => exact absurd h Bool.false_ne_true
  | some e =>
    simp only at h ⊢
    split at h
    · exact absurd h Bool.false_ne_true
    · split at h
      · exact absurd h Bool.false_ne_true
      · split at h
        · exact ⟨_, by rw [if_neg (by assumption), if_neg (by assumption), if_pos (by assumption)]⟩
        · exact absurd h Bool.false_ne_true
theorem i64_sumN (a : Int32) {q : Nat} (hq : q < 1000) : (a.toInt64 + lN q).toInt = a.toInt + q := by
  have h1 := a.toInt_lt
  have h2 := a.le_toInt
  rw [Int64.toInt_add, Int32.toInt_toInt64, pk_lT (by omega), Int.bmod_eq_of_le (by omega) (by omega)]
theorem tI_sr {T : TS} (h : tI T) (w : Nat → Nat → Int32) : tI (h_sr T w) := h
theorem sp_lay_su (T : TS) (v : Int32) (b : Bool) (s a : Int32) : sp_lay T v b s a = sp_lay (h_su T 0) v b s a := rfl
theorem c_laysW {x : Nat} {σ : ZS} {T : TS} {w : Nat → Nat → Int32} (hR : rR x σ (h_sr T w)) (hI : tI T) (o : Option Nat) (ho : ∀ e, o = some e → e < g_ev T) (s : Nat) (hs : s < 4) (a : Int32) (q : Nat) (hq : q < 1000) : ZC M_X12_lays [Ar (some x), Ai (oI o), Ai (nI s), Al (a.toInt64 + lN q)] σ (fun y0 τ0 => y0 = some (Ai (bI (sp_lays (h_sr T w) o s (a.toInt + q)).1)) ∧ rR x τ0 (sp_lays (h_sr T w) o s (a.toInt + q)).2) := by
  have h := c_lays hR (tI_sr hI w) o ho s hs (a.toInt64 + lN q)
  rw [i64_sumN a hq] at h
  exact h
set_option maxHeartbeats 4000000 in
set_option maxRecDepth 100000 in
theorem c_lay {x : Nat} {σ : ZS} {T : TS} (hR : rR x σ T) (hI : tI T) (v : Int32) (b : Bool) (s a : Int32) : ZC M_X12_lay [Ar (some x), Ai v, Ai (bI b), Ai s, Ai a] σ (fun y0 τ0 => y0 = some (Ai (sp_lay T v b s a).1) ∧ rR x τ0 (sp_lay T v b s a).2) := by
  have hsp : sp_lay T v b s a = sp_lay (h_su T 0) v b s a := rfl
  rw [hsp]
  clear hsp
  refine ZC_of (ls := [some (Ar (some x)), some (Ai v), some (Ai (bI b)), some (Ai s), some (Ai a), none, none]) (by decide) (Nat.le_of_ble_eq_true rfl) rfl ?_
  refine ZV_aload_n (n := 1) dX12_lay_0 rfl rfl rfl ?_
  refine call_X12_144 (c_begin hR) rfl dX12_lay_1 rfl (rf_sh hR :).1 (Nat.le_of_ble_eq_true rfl) (Nat.le_of_ble_eq_true rfl) rfl (fun r9 σ9 hp9 => ?_)
  obtain ⟨rfl, hR⟩ := hp9
  have hI := tI_su hI 0
  have hsu : g_su (h_su T 0) = 0 := rfl
  generalize h_su T 0 = T at hR hI hsu ⊢
  have hnp := ti_np hI
  refine ZV_iload_n (n := 5) dX12_lay_4 rfl rfl rfl ?_
  refine ZV_if_eqB (tgt := 23) (n := 8) dX12_lay_5 (by decide) rfl (fun h5 => ?_) (fun h5 => ?_)
  · skip
    refine ZV_aload_n (n := 24) dX12_lay_23 rfl rfl rfl ?_
    refine ZV_iload_n (n := 25) dX12_lay_24 rfl rfl rfl ?_
    refine call_X12_184 (c_isVoice hR hI _) rfl dX12_lay_25 rfl (rf_sh hR :).1 (Nat.le_of_ble_eq_true rfl) (Nat.le_of_ble_eq_true rfl) rfl (fun r9 σ9 hp9 => ?_)
    obtain ⟨rfl, rfl⟩ := hp9
    refine ZV_if_eqB (tgt := 43) (n := 31) dX12_lay_28 (by decide) rfl (fun h28 => ?_) (fun h28 => ?_)
    · skip
      refine ZV_aload_n (n := 44) dX12_lay_43 rfl rfl rfl ?_
      refine ZV_bipush (v := -2) (n := 46) dX12_lay_44 rfl rfl ?_
      refine call_X12_130 (c_no hR _) rfl dX12_lay_46 rfl (rf_sh hR :).1 (Nat.le_of_ble_eq_true rfl) (Nat.le_of_ble_eq_true rfl) rfl (fun r9 σ9 hp9 => ?_)
      obtain ⟨rfl, hR⟩ := hp9
      refine ZV_iret dX12_lay_49 rfl ?_
      exact zleaf (v := sNo T (-2)) (by simp [sp_lay, h5, h28]) rfl hR
    · skip
      refine ZV_iload_n (n := 32) dX12_lay_31 rfl rfl rfl ?_
      refine ZV_i2l (n := 33) dX12_lay_32 rfl ?_
      refine ZV_lconst (v := lN 0) (n := 34) dX12_lay_33 rfl rfl ?_
      refine ZV_ldc2 (v := lN 3) (n := 37) dX12_lay_34 wd_5_218 rfl ?_
      refine call_X12_137 (c_inC _ s (by decide)) rfl dX12_lay_37 (Nat.le_of_ble_eq_true rfl) (Nat.le_of_ble_eq_true rfl) rfl (fun r9 σ9 hp9 => ?_)
      obtain ⟨rfl, rfl⟩ := hp9
      refine ZV_if_neB (tgt := 50) (n := 43) dX12_lay_40 (by decide) rfl (fun h40 => ?_) (fun h40 => ?_)
      · skip
        obtain ⟨v, hv, hvx, rfl⟩ := inB_t h28
        obtain ⟨s, hs, hsx, rfl⟩ := inB_t h40
        have hmn := ti_mn hI v
        refine ZV_iload_n (n := 51) dX12_lay_50 rfl rfl rfl ?_
        refine ZV_if_eqB (tgt := 75) (n := 54) dX12_lay_51 (by decide) rfl (fun h51 => ?_) (fun h51 => ?_)
        · skip
          refine ZV_iload_n (n := 76) dX12_lay_75 rfl rfl rfl ?_
          refine ZV_if_eqB (tgt := 88) (n := 79) dX12_lay_76 (by decide) rfl (fun h76 => ?_) (fun h76 => ?_)
          · skip
            refine ZV_aload_n (n := 89) dX12_lay_88 rfl rfl rfl ?_
            refine ZV_getR (n := 92) dX12_lay_89 fl_X12_45 rfl rfl rfl (rf_sh hR :).1 ?_
            refine ZV_iload_n (n := 93) dX12_lay_92 rfl rfl rfl ?_
            refine ZV_ialdv (n := 94) dX12_lay_93 rfl (ra_many (rf_sh hR :) :) (rk_many (rf_sh hR :) :) rfl (by omega) (rf_many hR _ (by omega)) ?_
            refine ZV_istore_5 (n := 96) dX12_lay_94 rfl (Nat.le_of_ble_eq_true rfl) rfl ?_
            refine ZV_iconst (v := nI 0) (n := 97) dX12_lay_96 rfl rfl ?_
            refine ZV_istore_6 (n := 99) dX12_lay_97 rfl (Nat.le_of_ble_eq_true rfl) rfl ?_
            have hZ : sp_lay T (nI v) b (nI s) a = lyS (fun p => some (g_ro T v p)) s a (g_mn T v) 0 T := by rw [sp_lay, if_pos ⟨by rw [if_neg (by rw [h5]; decide)]; exact h28, h40⟩, if_neg (by rw [h5]; decide), nI_clamp hvx, nI_clamp hsx, su0 hsu]
            rw [hZ]
            generalize hZ0 : lyS (fun p => some (g_ro T v p)) s a (g_mn T v) 0 T = Z
            have loop : ∀ (n9 : Nat) (k q : Nat) (w9 : Nat → Nat → Int32) (τ : ZS), k < n9 → q + k = g_mn T v → rR x τ (h_sr T w9) → lyS (fun p => some (g_ro T v p)) s a k q (h_sr T w9) = Z → ZV M_X12_lay (fun y0 τ0 => y0 = some (Ai Z.1) ∧ rR x τ0 Z.2) 99 [some (Ar (some x)), some (Ai (nI v)), some (Ai (bI b)), some (Ai (nI s)), some (Ai a), some (Ai (nI (g_mn T v))), some (Ai (nI q))] [] τ (zmC M_X12_lay) (zmS M_X12_lay) := by
              intro n9
              induction n9 with
              | zero => intro k q w9 τ hm; exact absurd hm (Nat.not_lt_zero _)
              | succ n9 ih =>
                intro k q w9 τ hm hqk hR1 hz
                have hI1 : tI (h_sr T w9) := tI_sr hI w9
                have hs1 : g_su (h_sr T w9) = 0 := hsu
                refine ZV_iload (n := 101) dX12_lay_99 rfl rfl ?_
                refine ZV_iload (n := 103) dX12_lay_101 rfl rfl ?_
                refine ZV_icmp_geN (tgt := 161) (n := 106) dX12_lay_103 (by decide) rfl (by omega) (by omega) (fun h103 => ?_) (fun h103 => ?_)
                · skip
                  obtain rfl : k = 0 := by omega
                  refine ZV_iload (n := 163) dX12_lay_161 rfl rfl ?_
                  refine ZV_iret dX12_lay_163 rfl ?_
                  rw [lyS, show q = g_mn T v by omega] at hz
                  subst hz
                  exact ⟨rfl, rR_s0 hR1 hs1⟩
                · skip
                  obtain ⟨k, rfl⟩ : ∃ z, k = z + 1 := ⟨k - 1, by omega⟩
                  have hoo : ∀ e, some (g_ro T v q) = some e → e < g_ev T := fun e z => by
                    cases z
                    exact (ti_ro hI v q (by omega) (by omega)).1
                  refine ZV_aload_n (n := 107) dX12_lay_106 rfl rfl rfl ?_
                  refine ZV_iload_n (n := 108) dX12_lay_107 rfl rfl rfl ?_
                  refine ZV_if_eqB (tgt := 126) (n := 111) dX12_lay_108 (by decide) rfl (fun h108 => ?_) (fun h108 => ?_)
                  · skip
                    refine ZV_aload_n (n := 127) dX12_lay_126 rfl rfl rfl ?_
                    refine ZV_getR (n := 130) dX12_lay_127 fl_X12_42 rfl rfl rfl (rf_sh hR1 :).1 ?_
                    refine ZV_bipush (v := nI 40) (n := 132) dX12_lay_130 rfl rfl ?_
                    refine ZV_iload_n (n := 133) dX12_lay_132 rfl rfl rfl ?_
                    refine ZV_imulN (n := 134) dX12_lay_133 rfl ?_
                    refine ZV_iload (n := 136) dX12_lay_134 rfl rfl ?_
                    refine ZV_iaddN (n := 137) dX12_lay_136 rfl ?_
                    refine ZV_ialdv (n := 138) dX12_lay_137 rfl (ra_row (rf_sh hR1 :) :) (rk_row (rf_sh hR1 :) :) rfl (by omega) (rf_row hR1 _ _ (by omega) (by omega)) ?_
                    refine ZV_iload_n (n := 139) dX12_lay_138 rfl rfl rfl ?_
                    refine ZV_iload (n := 141) dX12_lay_139 rfl rfl ?_
                    refine ZV_i2l (n := 142) dX12_lay_141 rfl ?_
                    refine ZV_iload (n := 144) dX12_lay_142 rfl rfl ?_
                    refine ZV_i2lN (n := 145) dX12_lay_144 rfl (by omega) ?_
                    refine ZV_ladd (n := 146) dX12_lay_145 rfl ?_
                    refine call_X12_328 (c_laysW hR1 hI (some (g_ro T v q)) hoo s hs a q (by omega)) rfl dX12_lay_146 rfl (rf_sh hR1 :).1 (Nat.le_of_ble_eq_true rfl) (Nat.le_of_ble_eq_true rfl) rfl (fun r9 σ9 hp9 => ?_)
                    obtain ⟨rfl, hR1⟩ := hp9
                    refine ZV_if_neB (tgt := 155) (n := 152) dX12_lay_149 (by decide) rfl (fun h149 => ?_) (fun h149 => ?_)
                    · skip
                      obtain ⟨w2, hw2⟩ := sp_lays_t h149
                      rw [hw2, hh_sr] at hR1
                      refine ZV_iincN_6 (v := 1) (n := 158) dX12_lay_155 rfl rfl (Nat.le_of_ble_eq_true rfl) rfl ?_
                      refine ZV_goto (tgt := 99) dX12_lay_158 (by decide) ?_
                      exact ih k (q + 1) w2 _ (by omega) (by omega) hR1 (by rw [← hz, lyS, if_pos h149, hw2, hh_sr])
                    · skip
                      refine ZV_iload (n := 154) dX12_lay_152 rfl rfl ?_
                      refine ZV_iret dX12_lay_154 rfl ?_
                      rw [lyS, if_neg (by rw [h149]; decide)] at hz
                      subst hz
                      exact ⟨rfl, hR1⟩
                  · skip
                    exact absurd (h5.symm.trans h108) (by decide)
            exact loop _ (g_mn T v) 0 (g_sr T) _ (Nat.lt_succ_self _) (Nat.zero_add _) (by rw [hs_sr]; exact hR) (by rw [hs_sr]; exact hZ0)
          · skip
            exact absurd (h5.symm.trans h76) (by decide)
        · skip
          exact absurd (h5.symm.trans h51) (by decide)
      · skip
        refine ZV_aload_n (n := 44) dX12_lay_43 rfl rfl rfl ?_
        refine ZV_bipush (v := -2) (n := 46) dX12_lay_44 rfl rfl ?_
        refine call_X12_130 (c_no hR _) rfl dX12_lay_46 rfl (rf_sh hR :).1 (Nat.le_of_ble_eq_true rfl) (Nat.le_of_ble_eq_true rfl) rfl (fun r9 σ9 hp9 => ?_)
        obtain ⟨rfl, hR⟩ := hp9
        refine ZV_iret dX12_lay_49 rfl ?_
        exact zleaf (v := sNo T (-2)) (by simp [sp_lay, h5, h28, h40]) rfl hR
  · skip
    refine ZV_iload_n (n := 9) dX12_lay_8 rfl rfl rfl ?_
    refine ZV_i2l (n := 10) dX12_lay_9 rfl ?_
    refine ZV_lconst (v := lN 0) (n := 11) dX12_lay_10 rfl rfl ?_
    refine ZV_ldc2 (v := lN 3) (n := 14) dX12_lay_11 wd_5_218 rfl ?_
    refine call_X12_137 (c_inC _ v (by decide)) rfl dX12_lay_14 (Nat.le_of_ble_eq_true rfl) (Nat.le_of_ble_eq_true rfl) rfl (fun r9 σ9 hp9 => ?_)
    obtain ⟨rfl, rfl⟩ := hp9
    refine ZV_if_eqB (tgt := 43) (n := 20) dX12_lay_17 (by decide) rfl (fun h17 => ?_) (fun h17 => ?_)
    · skip
      refine ZV_aload_n (n := 44) dX12_lay_43 rfl rfl rfl ?_
      refine ZV_bipush (v := -2) (n := 46) dX12_lay_44 rfl rfl ?_
      refine call_X12_130 (c_no hR _) rfl dX12_lay_46 rfl (rf_sh hR :).1 (Nat.le_of_ble_eq_true rfl) (Nat.le_of_ble_eq_true rfl) rfl (fun r9 σ9 hp9 => ?_)
      obtain ⟨rfl, hR⟩ := hp9
      refine ZV_iret dX12_lay_49 rfl ?_
      exact zleaf (v := sNo T (-2)) (by simp [sp_lay, h5, h17]) rfl hR
    · skip
      refine ZV_goto (tgt := 31) dX12_lay_20 (by decide) ?_
      refine ZV_iload_n (n := 32) dX12_lay_31 rfl rfl rfl ?_
      refine ZV_i2l (n := 33) dX12_lay_32 rfl ?_
      refine ZV_lconst (v := lN 0) (n := 34) dX12_lay_33 rfl rfl ?_
      refine ZV_ldc2 (v := lN 3) (n := 37) dX12_lay_34 wd_5_218 rfl ?_
      refine call_X12_137 (c_inC _ s (by decide)) rfl dX12_lay_37 (Nat.le_of_ble_eq_true rfl) (Nat.le_of_ble_eq_true rfl) rfl (fun r9 σ9 hp9 => ?_)
      obtain ⟨rfl, rfl⟩ := hp9
      refine ZV_if_neB (tgt := 50) (n := 43) dX12_lay_40 (by decide) rfl (fun h40 => ?_) (fun h40 => ?_)
      · skip
        obtain ⟨v, hv, hvx, rfl⟩ := inB_t h17
        obtain ⟨s, hs, hsx, rfl⟩ := inB_t h40
        have hrk := ti_rk hI v (by omega)
        refine ZV_iload_n (n := 51) dX12_lay_50 rfl rfl rfl ?_
        refine ZV_if_eqB (tgt := 75) (n := 54) dX12_lay_51 (by decide) rfl (fun h51 => ?_) (fun h51 => ?_)
        · skip
          exact absurd (h5.symm.trans h51) (by decide)
        · skip
          refine ZV_aload_n (n := 55) dX12_lay_54 rfl rfl rfl ?_
          refine ZV_getR (n := 58) dX12_lay_55 fl_X12_87 rfl rfl rfl (rf_sh hR :).1 ?_
          refine ZV_iload_n (n := 59) dX12_lay_58 rfl rfl rfl ?_
          refine ZV_baldv (n := 60) dX12_lay_59 rfl (ra_hasRack (rf_sh hR :) :) (rk_hasRack (rf_sh hR :) :) rfl (by omega) (rf_hasRack hR _ (by omega)) ?_
          refine ZV_if_neB (tgt := 75) (n := 63) dX12_lay_60 (by decide) rfl (fun h60 => ?_) (fun h60 => ?_)
          · skip
            refine ZV_iload_n (n := 76) dX12_lay_75 rfl rfl rfl ?_
            refine ZV_if_eqB (tgt := 88) (n := 79) dX12_lay_76 (by decide) rfl (fun h76 => ?_) (fun h76 => ?_)
            · skip
              exact absurd (h5.symm.trans h76) (by decide)
            · skip
              refine ZV_aload_n (n := 80) dX12_lay_79 rfl rfl rfl ?_
              refine ZV_getR (n := 83) dX12_lay_80 fl_X12_93 rfl rfl rfl (rf_sh hR :).1 ?_
              refine ZV_iload_n (n := 84) dX12_lay_83 rfl rfl rfl ?_
              refine ZV_ialdv (n := 85) dX12_lay_84 rfl (ra_rackSize (rf_sh hR :) :) (rk_rackSize (rf_sh hR :) :) rfl (by omega) (rf_rackSize hR _ (by omega)) ?_
              refine ZV_goto (tgt := 94) dX12_lay_85 (by decide) ?_
              refine ZV_istore_5 (n := 96) dX12_lay_94 rfl (Nat.le_of_ble_eq_true rfl) rfl ?_
              refine ZV_iconst (v := nI 0) (n := 97) dX12_lay_96 rfl rfl ?_
              refine ZV_istore_6 (n := 99) dX12_lay_97 rfl (Nat.le_of_ble_eq_true rfl) rfl ?_
              have hZ : sp_lay T (nI v) b (nI s) a = lyS (g_rr T v) s a (g_rs T v) 0 T := by rw [sp_lay, if_pos ⟨by rw [if_pos h5]; exact h17, h40⟩, if_pos h5, nI_clamp hvx, if_neg (by rw [h60]; decide), nI_clamp hsx, su0 hsu]
              rw [hZ]
              generalize hZ0 : lyS (g_rr T v) s a (g_rs T v) 0 T = Z
              have loop : ∀ (n9 : Nat) (k q : Nat) (w9 : Nat → Nat → Int32) (τ : ZS), k < n9 → q + k = g_rs T v → rR x τ (h_sr T w9) → lyS (g_rr T v) s a k q (h_sr T w9) = Z → ZV M_X12_lay (fun y0 τ0 => y0 = some (Ai Z.1) ∧ rR x τ0 Z.2) 99 [some (Ar (some x)), some (Ai (nI v)), some (Ai (bI b)), some (Ai (nI s)), some (Ai a), some (Ai (nI (g_rs T v))), some (Ai (nI q))] [] τ (zmC M_X12_lay) (zmS M_X12_lay) := by
                intro n9
                induction n9 with
                | zero => intro k q w9 τ hm; exact absurd hm (Nat.not_lt_zero _)
                | succ n9 ih =>
                  intro k q w9 τ hm hqk hR1 hz
                  have hI1 : tI (h_sr T w9) := tI_sr hI w9
                  have hs1 : g_su (h_sr T w9) = 0 := hsu
                  refine ZV_iload (n := 101) dX12_lay_99 rfl rfl ?_
                  refine ZV_iload (n := 103) dX12_lay_101 rfl rfl ?_
                  refine ZV_icmp_geN (tgt := 161) (n := 106) dX12_lay_103 (by decide) rfl (by omega) (by omega) (fun h103 => ?_) (fun h103 => ?_)
                  · skip
                    obtain rfl : k = 0 := by omega
                    refine ZV_iload (n := 163) dX12_lay_161 rfl rfl ?_
                    refine ZV_iret dX12_lay_163 rfl ?_
                    rw [lyS, show q = g_rs T v by omega] at hz
                    subst hz
                    exact ⟨rfl, rR_s0 hR1 hs1⟩
                  · skip
                    obtain ⟨k, rfl⟩ : ∃ z, k = z + 1 := ⟨k - 1, by omega⟩
                    have hoo : ∀ e, g_rr T v q = some e → e < g_ev T := fun e z => (ti_rr hI v q e (by omega) h60 (by omega) z).1
                    refine ZV_aload_n (n := 107) dX12_lay_106 rfl rfl rfl ?_
                    refine ZV_iload_n (n := 108) dX12_lay_107 rfl rfl rfl ?_
                    refine ZV_if_eqB (tgt := 126) (n := 111) dX12_lay_108 (by decide) rfl (fun h108 => ?_) (fun h108 => ?_)
                    · skip
                      exact absurd (h5.symm.trans h108) (by decide)
                    · skip
                      refine ZV_aload_n (n := 112) dX12_lay_111 rfl rfl rfl ?_
                      refine ZV_getR (n := 115) dX12_lay_112 fl_X12_96 rfl rfl rfl (rf_sh hR1 :).1 ?_
                      refine ZV_bipush (v := nI 20) (n := 117) dX12_lay_115 rfl rfl ?_
                      refine ZV_iload_n (n := 118) dX12_lay_117 rfl rfl rfl ?_
                      refine ZV_imulN (n := 119) dX12_lay_118 rfl ?_
                      refine ZV_iload (n := 121) dX12_lay_119 rfl rfl ?_
                      refine ZV_iaddN (n := 122) dX12_lay_121 rfl ?_
                      refine ZV_ialdv (n := 123) dX12_lay_122 rfl (ra_rackRow (rf_sh hR1 :) :) (rk_rackRow (rf_sh hR1 :) :) rfl (by omega) (rf_rackRow hR1 _ _ (by omega) (by omega)) ?_
                      refine ZV_goto (tgt := 138) dX12_lay_123 (by decide) ?_
                      refine ZV_iload_n (n := 139) dX12_lay_138 rfl rfl rfl ?_
                      refine ZV_iload (n := 141) dX12_lay_139 rfl rfl ?_
                      refine ZV_i2l (n := 142) dX12_lay_141 rfl ?_
                      refine ZV_iload (n := 144) dX12_lay_142 rfl rfl ?_
                      refine ZV_i2lN (n := 145) dX12_lay_144 rfl (by omega) ?_
                      refine ZV_ladd (n := 146) dX12_lay_145 rfl ?_
                      refine call_X12_328 (c_laysW hR1 hI (g_rr T v q) hoo s hs a q (by omega)) rfl dX12_lay_146 rfl (rf_sh hR1 :).1 (Nat.le_of_ble_eq_true rfl) (Nat.le_of_ble_eq_true rfl) rfl (fun r9 σ9 hp9 => ?_)
                      obtain ⟨rfl, hR1⟩ := hp9
                      refine ZV_if_neB (tgt := 155) (n := 152) dX12_lay_149 (by decide) rfl (fun h149 => ?_) (fun h149 => ?_)
                      · skip
                        obtain ⟨w2, hw2⟩ := sp_lays_t h149
                        rw [hw2, hh_sr] at hR1
                        refine ZV_iincN_6 (v := 1) (n := 158) dX12_lay_155 rfl rfl (Nat.le_of_ble_eq_true rfl) rfl ?_
                        refine ZV_goto (tgt := 99) dX12_lay_158 (by decide) ?_
                        exact ih k (q + 1) w2 _ (by omega) (by omega) hR1 (by rw [← hz, lyS, if_pos h149, hw2, hh_sr])
                      · skip
                        refine ZV_iload (n := 154) dX12_lay_152 rfl rfl ?_
                        refine ZV_iret dX12_lay_154 rfl ?_
                        rw [lyS, if_neg (by rw [h149]; decide)] at hz
                        subst hz
                        exact ⟨rfl, hR1⟩
              exact loop _ (g_rs T v) 0 (g_sr T) _ (Nat.lt_succ_self _) (Nat.zero_add _) (by rw [hs_sr]; exact hR) (by rw [hs_sr]; exact hZ0)
          · skip
            refine ZV_aload_n (n := 64) dX12_lay_63 rfl rfl rfl ?_
            refine ZV_aload_n (n := 65) dX12_lay_64 rfl rfl rfl ?_
            refine ZV_bipush (v := -11) (n := 67) dX12_lay_65 rfl rfl ?_
            refine call_X12_211 (c_fails hR (-11) 0 (by decide) rfl) rfl dX12_lay_67 rfl (rf_sh hR :).1 (Nat.le_of_ble_eq_true rfl) (Nat.le_of_ble_eq_true rfl) rfl (fun r9 σ9 hp9 => ?_)
            obtain ⟨rfl, hR⟩ := hp9
            refine ZV_putI (n := 73) dX12_lay_70 fl_X12_325 rfl (Or.inl rfl) rfl (fun h => absurd h (by decide)) rfl (rf_sh hR :).1 ?_
            refine ZV_gen (P := fun τ => rR x τ _) (rR_laid hR _) (fun σ hR => ?_)
            refine ZV_iconst (v := nI 0) (n := 74) dX12_lay_73 rfl rfl ?_
            refine ZV_iret dX12_lay_74 rfl ?_
            exact zleaf (v := sFl T 0 (-11) 0) (by simp [sp_lay, h5, h17, h40, h60, nI_clamp hvx]) rfl hR
      · skip
        refine ZV_aload_n (n := 44) dX12_lay_43 rfl rfl rfl ?_
        refine ZV_bipush (v := -2) (n := 46) dX12_lay_44 rfl rfl ?_
        refine call_X12_130 (c_no hR _) rfl dX12_lay_46 rfl (rf_sh hR :).1 (Nat.le_of_ble_eq_true rfl) (Nat.le_of_ble_eq_true rfl) rfl (fun r9 σ9 hp9 => ?_)
        obtain ⟨rfl, hR⟩ := hp9
        refine ZV_iret dX12_lay_49 rfl ?_
        exact zleaf (v := sNo T (-2)) (by simp [sp_lay, h5, h17, h40]) rfl hR
