set_option maxHeartbeats 4000000 in
set_option maxRecDepth 100000 in
theorem e_addFinding {c B : Nat} {σ : ZS} {T : TS} {K : KS} (hG : cG c B σ T K) (hf : g_fo T ≤ 5000) (a b d : Int32) : ZC M_X11_addFinding [Ar (some c), Ai a, Ai b, Ai d] σ (fun r τ => r = none ∧ cG c B τ (fdT T a b d) K) := by
  refine ZC_of (ls := [some (Ar (some c)), some (Ai a), some (Ai b), some (Ai d), none]) (by decide) (Nat.le_of_ble_eq_true rfl) rfl ?_
  refine ZV_aload_n (n := 1) dX11_addFinding_0 rfl rfl rfl ?_
  refine ZV_getIv (n := 4) dX11_addFinding_1 fl_X11_69 rfl rfl rfl (cf_sh hG :).1 (cf_fo hG :) ?_
  refine ZV_bipush (v := nI 100) (n := 6) dX11_addFinding_4 rfl rfl ?_
  refine ZV_icmp_geN (tgt := 45) (n := 9) dX11_addFinding_6 (by decide) rfl (by omega) (by omega) (fun h6 => ?_) (fun h6 => ?_)
  · skip
    refine ZV_aload_n (n := 46) dX11_addFinding_45 rfl rfl rfl ?_
    refine ZV_dup (n := 47) dX11_addFinding_46 rfl rfl ?_
    refine ZV_getIv (n := 50) dX11_addFinding_47 fl_X11_69 rfl rfl rfl (cf_sh hG :).1 (show _ = nI (g_fo T) from (cf_fo hG :)) ?_
    refine ZV_iconst (v := nI 1) (n := 51) dX11_addFinding_50 rfl rfl ?_
    refine ZV_iaddN (n := 52) dX11_addFinding_51 rfl ?_
    refine ZV_putI (n := 55) dX11_addFinding_52 fl_X11_69 rfl (Or.inl rfl) rfl (fun h => absurd h (by decide)) rfl (cf_sh hG :).1 ?_
    refine ZV_gen (P := fun τ => cG c B τ _ _) (U_fo hG _) (fun σ hG => ?_)
    refine ZV_vret dX11_addFinding_55 rfl ?_
    refine ⟨rfl, ?_⟩
    unfold fdT
    rw [if_neg (by omega)]
    have e : h_fi T (g_fi T) = T := by unfold h_fi g_fi; simp only [up_self]
    rw [e]
    exact hG
  · skip
    refine ZV_aload_n (n := 10) dX11_addFinding_9 rfl rfl rfl ?_
    refine ZV_getIv (n := 13) dX11_addFinding_10 fl_X11_69 rfl rfl rfl (cf_sh hG :).1 (cf_fo hG :) ?_
    refine ZV_iconst (v := nI 3) (n := 14) dX11_addFinding_13 rfl rfl ?_
    refine ZV_imulN (n := 15) dX11_addFinding_14 rfl ?_
    refine ZV_topi (congrArg nI (Nat.mul_comm _ _)) ?_
    refine ZV_istore_4 (n := 17) dX11_addFinding_15 rfl (Nat.le_of_ble_eq_true rfl) rfl ?_
    refine ZV_aload_n (n := 18) dX11_addFinding_17 rfl rfl rfl ?_
    refine ZV_getRv (n := 21) dX11_addFinding_18 fl_X11_66 rfl rfl rfl (cf_sh hG :).1 (ca_findingRow (cf_sh hG :)) ?_
    refine ZV_iload (n := 23) dX11_addFinding_21 rfl rfl ?_
    refine ZV_iload_n (n := 24) dX11_addFinding_23 rfl rfl rfl ?_
    refine ZV_iast (j := 3 * g_fo T) (n := 25) dX11_addFinding_24 rfl rfl (ck_findingRow (cf_sh hG :)) rfl (by omega) ?_
    refine ZV_aload_n (n := 26) dX11_addFinding_25 rfl rfl rfl ?_
    refine ZV_getRv (n := 29) dX11_addFinding_26 fl_X11_66 rfl rfl rfl (cf_sh hG :).1 (ca_findingRow (cf_sh hG :)) ?_
    refine ZV_iload (n := 31) dX11_addFinding_29 rfl rfl ?_
    refine ZV_iconst (v := nI 1) (n := 32) dX11_addFinding_31 rfl rfl ?_
    refine ZV_iaddN (n := 33) dX11_addFinding_32 rfl ?_
    refine ZV_iload_n (n := 34) dX11_addFinding_33 rfl rfl rfl ?_
    refine ZV_iast (j := 3 * g_fo T + 1) (n := 35) dX11_addFinding_34 rfl rfl (ck_findingRow (cf_sh hG :)) rfl (by omega) ?_
    refine ZV_aload_n (n := 36) dX11_addFinding_35 rfl rfl rfl ?_
    refine ZV_getRv (n := 39) dX11_addFinding_36 fl_X11_66 rfl rfl rfl (cf_sh hG :).1 (ca_findingRow (cf_sh hG :)) ?_
    refine ZV_iload (n := 41) dX11_addFinding_39 rfl rfl ?_
    refine ZV_iconst (v := nI 2) (n := 42) dX11_addFinding_41 rfl rfl ?_
    refine ZV_iaddN (n := 43) dX11_addFinding_42 rfl ?_
    refine ZV_iload_n (n := 44) dX11_addFinding_43 rfl rfl rfl ?_
    refine ZV_iast (j := 3 * g_fo T + 2) (n := 45) dX11_addFinding_44 rfl rfl (ck_findingRow (cf_sh hG :)) rfl (by omega) ?_
    refine ZV_gen (P := fun τ => cG c B τ _ _) (U_fi (U_fi (U_fi hG (3 * g_fo T) a) (3 * g_fo T + 1) b) (3 * g_fo T + 2) d) (fun σ hG => ?_)
    refine ZV_aload_n (n := 46) dX11_addFinding_45 rfl rfl rfl ?_
    refine ZV_dup (n := 47) dX11_addFinding_46 rfl rfl ?_
    refine ZV_getIv (n := 50) dX11_addFinding_47 fl_X11_69 rfl rfl rfl (cf_sh hG :).1 (show _ = nI (g_fo T) from (cf_fo hG :)) ?_
    refine ZV_iconst (v := nI 1) (n := 51) dX11_addFinding_50 rfl rfl ?_
    refine ZV_iaddN (n := 52) dX11_addFinding_51 rfl ?_
    refine ZV_putI (n := 55) dX11_addFinding_52 fl_X11_69 rfl (Or.inl rfl) rfl (fun h => absurd h (by decide)) rfl (cf_sh hG :).1 ?_
    refine ZV_gen (P := fun τ => cG c B τ _ _) (U_fo hG _) (fun σ hG => ?_)
    refine ZV_vret dX11_addFinding_55 rfl ?_
    refine ⟨rfl, ?_⟩
    unfold fdT
    rw [if_pos (by omega)]
    have e : h_fi (h_fi (h_fi T (va_up (g_fi T) (3 * g_fo T) a)) (va_up (va_up (g_fi T) (3 * g_fo T) a) (3 * g_fo T + 1) b)) (va_up (va_up (va_up (g_fi T) (3 * g_fo T) a) (3 * g_fo T + 1) b) (3 * g_fo T + 2) d) = h_fi T (va_up (va_up (va_up (g_fi T) (3 * g_fo T) a) (3 * g_fo T + 1) b) (3 * g_fo T + 2) d) := by rw [hh_fi, hh_fi]
    rw [← e]
    exact hG
def tmB (T : TS) (e : Nat) : Bool := decide (ntQ T (g_vo T e) (g_pl T e) < g_mn T (g_vo T e)) && (noB T (g_ro T (g_vo T e) (ntQ T (g_vo T e) (g_pl T e))) && haN T (g_ro T (g_vo T e) (ntQ T (g_vo T e) (g_pl T e))) e (g_pn T e))
set_option maxHeartbeats 4000000 in
set_option maxRecDepth 100000 in
theorem e_tieIsMet {c B : Nat} {σ : ZS} {T : TS} {K : KS} (hG : cG c B σ T K) (hI : tI T) (hK : kI T K) {e : Nat} (he : e < g_ev T) (hte : g_th T e = true) : ZC M_X11_tieIsMet [Ar (some (k_ea K e))] σ (fun y9 τ9 => y9 = some (Ai (bI (tmB T e))) ∧ τ9 = σ) := by
  have hvo := ti_vo hI e he
  have hnp := ti_np hI
  have hpl := ti_pl hI e he hte
  have hkp := ki_pl hK e he hte
  refine ZC_of (ls := [some (Ar (some (k_ea K e))), none]) (by decide) (Nat.le_of_ble_eq_true rfl) rfl ?_
  refine ZV_aload_n (n := 1) dX11_tieIsMet_0 rfl rfl rfl ?_
  refine ZV_getRv (n := 4) dX11_tieIsMet_1 fl_X11_162 rfl rfl rfl (cf_ek hG e he).1 (cf_eo hG e he) ?_
  refine ZV_aload_n (n := 5) dX11_tieIsMet_4 rfl rfl rfl ?_
  refine ZV_getIv (n := 8) dX11_tieIsMet_5 fl_X11_159 rfl rfl rfl (cf_ek hG e he).1 (show _ = nI (g_pl T e) from (cf_el hG e he).trans (by rw [hkp])) ?_
  refine ZV_iconst (v := nI 1) (n := 9) dX11_tieIsMet_8 rfl rfl ?_
  refine ZV_iaddN (n := 10) dX11_tieIsMet_9 rfl ?_
  refine call_X11_490 (e_nextForTie hG (v := g_vo T e) hvo hI (ti_mn hI _) (q := g_pl T e + 1) (by omega)) rfl dX11_tieIsMet_10 rfl (cf_vk hG _ hvo).1 (Nat.le_of_ble_eq_true rfl) (Nat.le_of_ble_eq_true rfl) rfl (fun r9 σ9 hp9 => ?_)
  obtain ⟨hs9, hp9⟩ := hp9
  subst σ9
  rcases hp9 with ⟨hq, rfl⟩ | ⟨hq, rfl⟩
  · skip
    refine ZV_astore_1 (n := 14) dX11_tieIsMet_13 rfl (Nat.le_of_ble_eq_true rfl) rfl ?_
    refine ZV_aload_n (n := 15) dX11_tieIsMet_14 rfl rfl rfl ?_
    refine ZV_ifnull_n (tgt := 37) dX11_tieIsMet_15 (by decide) ?_
    refine ZV_iconst (v := nI 0) (n := 38) dX11_tieIsMet_37 rfl rfl ?_
    refine ZV_zret dX11_tieIsMet_38 rfl (by first | exact Or.inl rfl | exact Or.inr rfl) ?_
    refine ⟨?_, rfl⟩
    unfold tmB
    rw [decide_eq_false (by unfold ntQ; omega)]
    rfl
  · skip
    have hN := ti_ro hI (g_vo T e) (ntQ T (g_vo T e) (g_pl T e)) (by omega) hq
    show ZV _ _ _ _ (Ar (some (k_ea K (g_ro T (g_vo T e) (ntQ T (g_vo T e) (g_pl T e))))) :: _) _ _ _
    obtain ⟨x9, hx9⟩ : ∃ x, x = g_ro T (g_vo T e) (ntQ T (g_vo T e) (g_pl T e)) := ⟨_, rfl⟩
    rw [← hx9] at hN ⊢
    refine ZV_astore_1 (n := 14) dX11_tieIsMet_13 rfl (Nat.le_of_ble_eq_true rfl) rfl ?_
    refine ZV_aload_n (n := 15) dX11_tieIsMet_14 rfl rfl rfl ?_
    refine ZV_ifnull_s (tgt := 37) (n := 18) dX11_tieIsMet_15 (by decide) rfl ?_
    refine ZV_aload_n (n := 19) dX11_tieIsMet_18 rfl rfl rfl ?_
    refine call_X11_193 (e_isNote hG hN.1 (ti_kd hI _ hN.1)) rfl dX11_tieIsMet_19 rfl (cf_ek hG x9 hN.1).1 (Nat.le_of_ble_eq_true rfl) (Nat.le_of_ble_eq_true rfl) rfl (fun r9 σ9 hp9 => ?_)
    obtain ⟨rfl, hs9⟩ := hp9
    subst σ9
    refine ZV_if_eqB (tgt := 37) (n := 25) dX11_tieIsMet_22 (by decide) rfl (fun h22 => ?_) (fun h22 => ?_)
    · skip
      refine ZV_iconst (v := nI 0) (n := 38) dX11_tieIsMet_37 rfl rfl ?_
      refine ZV_zret dX11_tieIsMet_38 rfl (by first | exact Or.inl rfl | exact Or.inr rfl) ?_
      refine ⟨?_, rfl⟩
      unfold tmB
      rw [decide_eq_true (show ntQ T (g_vo T e) (g_pl T e) < g_mn T (g_vo T e) from hq), ← hx9]
      rw [h22]
      rfl
    · skip
      refine ZV_aload_n (n := 26) dX11_tieIsMet_25 rfl rfl rfl ?_
      refine ZV_aload_n (n := 27) dX11_tieIsMet_26 rfl rfl rfl ?_
      refine call_X11_493 (e_hasAllPitchesOf hG he hN.1 (ti_pn hI _) (ti_pnc hI e he) (ti_pn hI _) (ti_pnc hI _ hN.1)) rfl dX11_tieIsMet_27 rfl (cf_ek hG x9 hN.1).1 (Nat.le_of_ble_eq_true rfl) (Nat.le_of_ble_eq_true rfl) rfl (fun r9 σ9 hp9 => ?_)
      obtain ⟨rfl, hs9⟩ := hp9
      subst σ9
      refine ZV_if_eqB (tgt := 37) (n := 33) dX11_tieIsMet_30 (by decide) rfl (fun h30 => ?_) (fun h30 => ?_)
      · skip
        refine ZV_iconst (v := nI 0) (n := 38) dX11_tieIsMet_37 rfl rfl ?_
        refine ZV_zret dX11_tieIsMet_38 rfl (by first | exact Or.inl rfl | exact Or.inr rfl) ?_
        refine ⟨?_, rfl⟩
        unfold tmB
        rw [decide_eq_true (show ntQ T (g_vo T e) (g_pl T e) < g_mn T (g_vo T e) from hq), ← hx9]
        rw [h22, h30]
        rfl
      · skip
        refine ZV_iconst (v := nI 1) (n := 34) dX11_tieIsMet_33 rfl rfl ?_
        refine ZV_goto (tgt := 38) dX11_tieIsMet_34 (by decide) ?_
        refine ZV_zret dX11_tieIsMet_38 rfl (by first | exact Or.inl rfl | exact Or.inr rfl) ?_
        refine ⟨?_, rfl⟩
        unfold tmB
        rw [decide_eq_true (show ntQ T (g_vo T e) (g_pl T e) < g_mn T (g_vo T e) from hq), ← hx9]
        rw [h22, h30]
        rfl
theorem kI_as2 {T : TS} {K : KS} {f : Nat → Int64} {w : Int64} (hK : kI (h_tr T w) (j_as K f)) {p : Nat} (hp : p < g_np T) (x : Int64) : kI (h_tr T (w + x)) (j_as K (va_up f p (f p + x))) := by
  have h := kI_tr (T := h_tr T w) (K := j_as K f) hK hp x
  exact h
theorem cG_tr2 {c B : Nat} {σ : ZS} {T : TS} {K : KS} {w : Int64} (h : cG c B σ (h_tr T w) K) (x : Int64) : cG c B σ (h_tr T x) K := cG_tr h x
set_option maxHeartbeats 4000000 in
set_option maxRecDepth 100000 in
theorem e_isOutOfRange {c B : Nat} {σ : ZS} {T : TS} {K : KS} (hG : cG c B σ T K) (hI : tI T) (hK : kI T K) {e : Nat} (he : e < g_ev T) (hte : g_th T e = true) : ZC M_X11_isOutOfRange [Ar (some c), Ar (some (k_ea K e))] σ (fun r τ => r = some (Ai (bI (ouF T e (g_pn T e) 0 (g_tr T)).1)) ∧ ∃ f, cG c B τ (h_tr T (ouF T e (g_pn T e) 0 (g_tr T)).2) (j_as K f) ∧ kI (h_tr T (ouF T e (g_pn T e) 0 (g_tr T)).2) (j_as K f)) := by
  have hpp := vpt hI he
  have hpn := ti_pn hI e
  refine ZC_of (ls := [some (Ar (some c)), some (Ar (some (k_ea K e))), none, none, none, none]) (by decide) (Nat.le_of_ble_eq_true rfl) rfl ?_
  generalize hX : ouF T e (g_pn T e) 0 (g_tr T) = X
  have loop : ∀ (n9 i : Nat) (w : Int64) (f : Nat → Int64) (τ : ZS) (l5 : Option Av), zNL l5 = true → g_pn T e - i < n9 → i ≤ g_pn T e → ouF T e (g_pn T e - i) i w = X → cG c B τ (h_tr T w) (j_as K f) → kI (h_tr T w) (j_as K f) → ZV M_X11_isOutOfRange (fun r τ => r = some (Ai (bI X.1)) ∧ ∃ f, cG c B τ (h_tr T X.2) (j_as K f) ∧ kI (h_tr T X.2) (j_as K f)) 17 [some (Ar (some c)), some (Ar (some (k_ea K e))), some (Ar (some (k_pa K (g_vo T e / 3)))), some (Ai (nI (12 * zcnt (lfB T e) (g_le T)))), some (Ai (nI i)), none] [] τ (zmC M_X11_isOutOfRange) (zmS M_X11_isOutOfRange) := by
    intro n9
    induction n9 with
    | zero => intro i w f τ l5 _ hme; exact absurd hme (Nat.not_lt_zero _)
    | succ n9 ih =>
      intro i w f τ l5 hl5 hme hi hX hG hK
      refine ZV_iload (n := 19) dX11_isOutOfRange_17 rfl rfl ?_
      refine ZV_aload_n (n := 20) dX11_isOutOfRange_19 rfl rfl rfl ?_
      refine ZV_getIv (n := 23) dX11_isOutOfRange_20 fl_X11_190 rfl rfl rfl (cf_ek hG e he).1 (show _ = nI (g_pn T e) from (cf_ec hG e he :)) ?_
      refine ZV_icmp_geN (tgt := 67) (n := 26) dX11_isOutOfRange_23 (by decide) rfl (by omega) (by omega) (fun h23 => ?_) (fun h23 => ?_)
      · skip
        refine ZV_iconst (v := nI 0) (n := 68) dX11_isOutOfRange_67 rfl rfl ?_
        refine ZV_zret dX11_isOutOfRange_68 rfl (by first | exact Or.inl rfl | exact Or.inr rfl) ?_
        rw [show g_pn T e - i = 0 by omega] at hX
        rw [← hX]
        exact ⟨rfl, _, hG, hK⟩
      · skip
        refine ZV_aload_n (n := 27) dX11_isOutOfRange_26 rfl rfl rfl ?_
        refine ZV_aload_n (n := 28) dX11_isOutOfRange_27 rfl rfl rfl ?_
        refine ZV_getRv (n := 31) dX11_isOutOfRange_28 fl_X11_200 rfl rfl rfl (cf_ek hG e he).1 (show _ = some (k_ea K e + 1) from (cf_ep hG e he :)) ?_
        refine ZV_iload (n := 33) dX11_isOutOfRange_31 rfl rfl ?_
        refine ZV_ialdv (j := i) (n := 34) dX11_isOutOfRange_33 rfl rfl (cf_ek hG e he).2.1 rfl (pitch_len (T := T) (ti_pnc hI e he) (ti_pn hI e) (by omega)) (show _ = g_pi T e i from (cf_pi hG e i he (show i < g_pn T e by omega) :)) ?_
        refine call_soundOf (k := g_pk T (g_vo T e / 3)) (ti_pk hI _ hpp) (cf_pk hG _ hpp).1 rfl dX11_isOutOfRange_34 (Nat.le_of_ble_eq_true rfl) (Nat.le_of_ble_eq_true rfl) rfl ?_
        rw [show zL τ 448 (k_pa K (g_vo T e / 3)) = f (g_vo T e / 3) from cf_pas hG _ hpp]
        refine ZV_gen (P := fun τ => cG c B τ (h_tr T (w + trP (g_pk T (g_vo T e / 3)))) (j_as K (va_up f (g_vo T e / 3) (f (g_vo T e / 3) + trP (g_pk T (g_vo T e / 3)))))) (cG_tr2 (U_as hG hpp _) _) (fun τ hG => ?_)
        have hK := kI_as2 hK hpp (trP (g_pk T (g_vo T e / 3)))
        refine ZV_iload_n (n := 38) dX11_isOutOfRange_37 rfl rfl rfl ?_
        refine ZV_iadd (n := 39) dX11_isOutOfRange_38 rfl ?_
        refine ZV_topi (show sdP (g_pk T (g_vo T e / 3)) (g_pi T e i) + nI (12 * zcnt (lfB T e) (g_le T)) = hdP T e i from rfl) ?_
        refine ZV_istore_5 (n := 41) dX11_isOutOfRange_39 rfl (Nat.le_of_ble_eq_true rfl) rfl ?_
        refine ZV_iload (n := 43) dX11_isOutOfRange_41 rfl rfl ?_
        refine ZV_aload_n (n := 44) dX11_isOutOfRange_43 rfl rfl rfl ?_
        refine call_least (k := g_pk T (g_vo T e / 3)) (ti_pk hI _ hpp) (cf_pk hG _ hpp).1 rfl dX11_isOutOfRange_44 (Nat.le_of_ble_eq_true rfl) (Nat.le_of_ble_eq_true rfl) rfl ?_
        rw [show zL τ 448 (k_pa K (g_vo T e / 3)) = (va_up f (g_vo T e / 3) (f (g_vo T e / 3) + trP (g_pk T (g_vo T e / 3)))) (g_vo T e / 3) from cf_pas hG _ hpp]
        refine ZV_gen (P := fun τ => cG c B τ (h_tr T ((w + trP (g_pk T (g_vo T e / 3))) + leT (g_pk T (g_vo T e / 3)))) (j_as K (va_up (va_up f (g_vo T e / 3) (f (g_vo T e / 3) + trP (g_pk T (g_vo T e / 3)))) (g_vo T e / 3) ((va_up f (g_vo T e / 3) (f (g_vo T e / 3) + trP (g_pk T (g_vo T e / 3)))) (g_vo T e / 3) + leT (g_pk T (g_vo T e / 3)))))) (cG_tr2 (U_as hG hpp _) _) (fun τ hG => ?_)
        have hK := kI_as2 hK hpp (leT (g_pk T (g_vo T e / 3)))
        refine ZV_icmp_lt (tgt := 59) (n := 50) dX11_isOutOfRange_47 (by decide) rfl (fun h47 => ?_) (fun h47 => ?_)
        · skip
          refine ZV_iconst (v := nI 1) (n := 60) dX11_isOutOfRange_59 rfl rfl ?_
          refine ZV_zret dX11_isOutOfRange_60 rfl (by first | exact Or.inl rfl | exact Or.inr rfl) ?_
          rw [show g_pn T e - i = (g_pn T e - (i + 1)) + 1 by omega, ouF, if_pos (Or.inl h47)] at hX
          rw [← hX]
          exact ⟨rfl, _, hG, hK⟩
        · skip
          refine ZV_iload (n := 52) dX11_isOutOfRange_50 rfl rfl ?_
          refine ZV_aload_n (n := 53) dX11_isOutOfRange_52 rfl rfl rfl ?_
          refine call_most (k := g_pk T (g_vo T e / 3)) (ti_pk hI _ hpp) (cf_pk hG _ hpp).1 rfl dX11_isOutOfRange_53 (Nat.le_of_ble_eq_true rfl) (Nat.le_of_ble_eq_true rfl) rfl ?_
          refine ZV_icmp_le (tgt := 61) (n := 59) dX11_isOutOfRange_56 (by decide) rfl (fun h56 => ?_) (fun h56 => ?_)
          · skip
            have hcond : ¬ (hdP T e i < nI (leP (g_pk T (g_vo T e / 3))) ∨ ¬ hdP T e i ≤ nI (moP (g_pk T (g_vo T e / 3)))) := fun z => z.elim h47 (fun y => y h56)
            refine ZV_iincN_4 (v := 1) (n := 64) dX11_isOutOfRange_61 rfl rfl (Nat.le_of_ble_eq_true rfl) rfl ?_
            refine ZV_goto (tgt := 17) dX11_isOutOfRange_64 (by decide) ?_
            refine ZV_fg_5 ?_
            exact ih (i + 1) _ _ _ none rfl (by omega) (by omega) (by rw [← hX, show g_pn T e - i = (g_pn T e - (i + 1)) + 1 by omega, ouF, if_neg hcond]) hG hK
          · skip
            refine ZV_iconst (v := nI 1) (n := 60) dX11_isOutOfRange_59 rfl rfl ?_
            refine ZV_zret dX11_isOutOfRange_60 rfl (by first | exact Or.inl rfl | exact Or.inr rfl) ?_
            rw [show g_pn T e - i = (g_pn T e - (i + 1)) + 1 by omega, ouF, if_pos (Or.inr h56)] at hX
            rw [← hX]
            exact ⟨rfl, _, hG, hK⟩
  refine ZV_aload_n (n := 1) dX11_isOutOfRange_0 rfl rfl rfl ?_
  refine ZV_getRv (n := 4) dX11_isOutOfRange_1 fl_X11_162 rfl rfl rfl (cf_ek hG e he).1 (cf_eo hG e he) ?_
  refine ZV_getRv (n := 7) dX11_isOutOfRange_4 fl_X11_210 rfl rfl rfl (cf_vk hG (g_vo T e) (ti_vo hI e he)).1 (cf_vi hG (g_vo T e) (ti_vo hI e he)) ?_
  refine ZV_astore_2 (n := 8) dX11_isOutOfRange_7 rfl (Nat.le_of_ble_eq_true rfl) rfl ?_
  refine ZV_aload_n (n := 9) dX11_isOutOfRange_8 rfl rfl rfl ?_
  refine ZV_aload_n (n := 10) dX11_isOutOfRange_9 rfl rfl rfl ?_
  refine call_X11_217 (e_raiseOf hG hI hK he hte) rfl dX11_isOutOfRange_10 rfl (cf_sh hG :).1 (Nat.le_of_ble_eq_true rfl) (Nat.le_of_ble_eq_true rfl) rfl (fun r9 σ9 hp9 => ?_)
  obtain ⟨rfl, hs9⟩ := hp9
  subst σ9
  refine ZV_istore_3 (n := 14) dX11_isOutOfRange_13 rfl (Nat.le_of_ble_eq_true rfl) rfl ?_
  refine ZV_iconst (v := nI 0) (n := 15) dX11_isOutOfRange_14 rfl rfl ?_
  refine ZV_istore_4 (n := 17) dX11_isOutOfRange_15 rfl (Nat.le_of_ble_eq_true rfl) rfl ?_
  exact loop _ 0 (g_tr T) (k_as K) σ none rfl (Nat.lt_succ_self _) (Nat.zero_le _) hX hG hK
