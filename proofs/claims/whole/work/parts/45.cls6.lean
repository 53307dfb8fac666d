theorem pv_asc {T : TS} (hI : tI T) {e : Nat} (he : e < g_ev T) : ∀ d a, a + d + 1 < g_pn T e + 0 → g_pv T e a < g_pv T e (a + d + 1)
  | 0, a, h => ti_pim hI e a he (by omega)
  | d + 1, a, h => by
    have h1 := pv_asc hI he d a (by omega)
    have h2 := ti_pim hI e (a + d + 1) he (by omega)
    rw [show a + (d + 1) + 1 = a + d + 1 + 1 by omega]
    omega
theorem pv_lt {T : TS} (hI : tI T) {e a b : Nat} (he : e < g_ev T) (hab : a < b) (hb : b < g_pn T e) : g_pv T e a < g_pv T e b := by
  have := pv_asc hI he (b - a - 1) a (by omega)
  rwa [show a + (b - a - 1) + 1 = b by omega] at this
theorem pv_mono {T : TS} (hI : tI T) {e a b : Nat} (he : e < g_ev T) (ha : a < g_pn T e) (h : g_pv T e a < g_pv T e b) : a < b := by
  rcases Nat.lt_trichotomy a b with q | q | q
  · exact q
  · rw [q] at h; exact absurd h (Nat.lt_irrefl _)
  · have := pv_lt hI he q ha
    omega
theorem haN_at {T : TS} {f e : Nat} : ∀ n, haN T f e n = true → ∀ i, i < n → hpB T f (g_pi T e i) = true
  | 0, _, i, h => absurd h (Nat.not_lt_zero _)
  | n + 1, h, i, hi => by
    rw [haN, Bool.and_eq_true] at h
    by_cases q : i = n
    · rw [q]; exact h.2
    · exact haN_at n h.1 i (by omega)
theorem hpN_at {T : TS} {e : Nat} {p : Int32} : ∀ n, hpN T e p n = true → ∃ j, j < n ∧ g_pi T e j = p
  | 0, h => by simp [hpN] at h
  | n + 1, h => by
    rw [hpN, Bool.or_eq_true] at h
    rcases h with h | h
    · obtain ⟨j, h1, h2⟩ := hpN_at n h
      exact ⟨j, by omega, h2⟩
    · exact ⟨n, Nat.lt_succ_self _, of_decide_eq_true h⟩
theorem alN_of {T : TS} {e f : Nat} : ∀ n, (∀ i, i < n → g_pi T e i = g_pi T f i) → alN T e f n = true
  | 0, _ => rfl
  | n + 1, h => by rw [alN, alN_of n (fun i hi => h i (by omega)), decide_eq_true (h n (Nat.lt_succ_self _))]; rfl
theorem alN_at {T : TS} {e f : Nat} : ∀ n, alN T e f n = true → ∀ i, i < n → g_pi T e i = g_pi T f i
  | 0, _, i, h => absurd h (Nat.not_lt_zero _)
  | n + 1, h, i, hi => by
    rw [alN, Bool.and_eq_true] at h
    by_cases q : i = n
    · rw [q]; exact of_decide_eq_true h.2
    · exact alN_at n h.1 i (by omega)
/-- with as many pitches, ascending, all of f's are e's only if they are the same -/
theorem haN_alN {T : TS} (hI : tI T) {e f : Nat} (he : e < g_ev T) (hf : f < g_ev T) (hn : g_pn T e = g_pn T f) : haN T e f (g_pn T f) = alN T e f (g_pn T e) := by
  cases ha : alN T e f (g_pn T e) with
  | true =>
    have h1 := alN_at _ ha
    cases hz : haN T e f (g_pn T f) with
    | true => rfl
    | false =>
      exfalso
      have : ∀ n, n ≤ g_pn T f → haN T e f n = true := by
        intro n
        induction n with
        | zero => intro _; rfl
        | succ n ih =>
          intro hn2
          rw [haN, ih (by omega), Bool.true_and]
          exact hpN_t (h1 n (by omega)) _ (by omega)
      rw [this _ (Nat.le_refl _)] at hz
      cases hz
  | false =>
    cases hz : haN T e f (g_pn T f) with
    | false => rfl
    | true =>
      exfalso
      have hx : ∀ i, i < g_pn T f → ∃ j, j < g_pn T e ∧ g_pv T e j = g_pv T f i := by
        intro i hi
        obtain ⟨j, h1, h2⟩ := hpN_at _ (haN_at _ hz i hi)
        exact ⟨j, h1, by unfold g_pv; rw [h2]⟩
      have hA : ∀ i, i < g_pn T f → ∀ j, j < g_pn T e → g_pv T e j = g_pv T f i → i ≤ j := by
        intro i
        induction i with
        | zero => intro _ j _ _; exact Nat.zero_le _
        | succ i ih =>
          intro hi j hj hq
          obtain ⟨k, hk, hkq⟩ := hx i (by omega)
          have h1 := ih (by omega) k hk hkq
          have h2 := ti_pim hI f i hf hi
          have h3 := pv_mono hI (a := k) (b := j) he hk (by omega)
          omega
      have hB : ∀ d i, i + d + 1 = g_pn T f → ∀ j, j < g_pn T e → g_pv T e j = g_pv T f i → j ≤ i := by
        intro d
        induction d with
        | zero => intro i hi j hj _; omega
        | succ d ih =>
          intro i hi j hj hq
          obtain ⟨k, hk, hkq⟩ := hx (i + 1) (by omega)
          have h1 := ih (i + 1) (by omega) k hk hkq
          have h2 := ti_pim hI f i hf (by omega)
          have h3 := pv_mono hI (a := j) (b := k) he hj (by omega)
          omega
      have := alN_of (T := T) (e := e) (f := f) (g_pn T e) (fun i hi => by
        obtain ⟨j, hj, hq⟩ := hx i (by omega)
        have h1 := hA i (by omega) j hj hq
        have h2 := hB (g_pn T f - i - 1) i (by omega) j hj hq
        obtain rfl : j = i := by omega
        rw [(ti_pi hI e j he hj).1, (ti_pi hI f j hf (by omega)).1, hq])
      rw [this] at ha
      cases ha
theorem bI_ne {a b : Bool} (h : ¬ bI a = bI b) : ¬ a = b := fun q => h (by rw [q])
set_option maxHeartbeats 4000000 in
set_option maxRecDepth 100000 in
theorem e_looksLike {c B : Nat} {σ : ZS} {T : TS} {K : KS} (hG : cG c B σ T K) (hI : tI T) {e f : Nat} (he : e < g_ev T) (hf : f < g_ev T) : ZC M_X2_looksLike [Ar (some (k_ea K e)), Ar (some (k_ea K f))] σ (fun y9 τ9 => y9 = some (Ai (bI (alB T e f))) ∧ τ9 = σ) := by
  have hev := ti_ev hI
  have hk1 := ti_kd hI e he
  have hk2 := ti_kd hI f hf
  have hv1 := ti_va hI e he
  have hv2 := ti_va hI f hf
  have hd1 := ti_dt hI e he
  have hd2 := ti_dt hI f hf
  have hp1 := ti_pn hI e
  have hp2 := ti_pn hI f
  refine ZC_of (ls := [some (Ar (some (k_ea K e))), some (Ar (some (k_ea K f)))]) (by decide) (Nat.le_of_ble_eq_true rfl) rfl ?_
  refine ZV_aload_n (n := 1) dX2_looksLike_0 rfl rfl rfl ?_
  refine ZV_getIv (n := 4) dX2_looksLike_1 fl_X2_36 rfl rfl rfl (cf_ek hG e he).1 (cf_ed hG e he) ?_
  refine ZV_aload_n (n := 5) dX2_looksLike_4 rfl rfl rfl ?_
  refine ZV_getIv (n := 8) dX2_looksLike_5 fl_X2_36 rfl rfl rfl (cf_ek hG f hf).1 (cf_ed hG f hf) ?_
  refine ZV_icmp_neN (tgt := 67) (n := 11) dX2_looksLike_8 (by decide) rfl (by omega) (by omega) (fun h8 => ?_) (fun h8 => ?_)
  · skip
    refine ZV_iconst (v := nI 0) (n := 68) dX2_looksLike_67 rfl rfl ?_
    refine ZV_zret dX2_looksLike_68 rfl (by first | exact Or.inl rfl | exact Or.inr rfl) ?_
    refine ⟨?_, rfl⟩
    unfold alB
    rw [show alC T e f = false from decide_eq_false (by simp [h8])]
    rfl
  · skip
    refine ZV_aload_n (n := 12) dX2_looksLike_11 rfl rfl rfl ?_
    refine ZV_getIv (n := 15) dX2_looksLike_12 fl_X2_39 rfl rfl rfl (cf_ek hG e he).1 (cf_et hG e he) ?_
    refine ZV_aload_n (n := 16) dX2_looksLike_15 rfl rfl rfl ?_
    refine ZV_getIv (n := 19) dX2_looksLike_16 fl_X2_39 rfl rfl rfl (cf_ek hG f hf).1 (cf_et hG f hf) ?_
    refine ZV_icmp_neN (tgt := 67) (n := 22) dX2_looksLike_19 (by decide) rfl (by omega) (by omega) (fun h19 => ?_) (fun h19 => ?_)
    · skip
      refine ZV_iconst (v := nI 0) (n := 68) dX2_looksLike_67 rfl rfl ?_
      refine ZV_zret dX2_looksLike_68 rfl (by first | exact Or.inl rfl | exact Or.inr rfl) ?_
      refine ⟨?_, rfl⟩
      unfold alB
      rw [show alC T e f = false from decide_eq_false (by simp [h8, h19])]
      rfl
    · skip
      refine ZV_aload_n (n := 23) dX2_looksLike_22 rfl rfl rfl ?_
      refine ZV_getIv (n := 26) dX2_looksLike_23 fl_X2_42 rfl rfl rfl (cf_ek hG e he).1 (cf_es hG e he) ?_
      refine ZV_aload_n (n := 27) dX2_looksLike_26 rfl rfl rfl ?_
      refine ZV_getIv (n := 30) dX2_looksLike_27 fl_X2_42 rfl rfl rfl (cf_ek hG f hf).1 (cf_es hG f hf) ?_
      refine ZV_icmp_neN (tgt := 67) (n := 33) dX2_looksLike_30 (by decide) rfl (by omega) (by omega) (fun h30 => ?_) (fun h30 => ?_)
      · skip
        refine ZV_iconst (v := nI 0) (n := 68) dX2_looksLike_67 rfl rfl ?_
        refine ZV_zret dX2_looksLike_68 rfl (by first | exact Or.inl rfl | exact Or.inr rfl) ?_
        refine ⟨?_, rfl⟩
        unfold alB
        rw [show alC T e f = false from decide_eq_false (by simp [h8, h19, h30])]
        rfl
      · skip
        refine ZV_aload_n (n := 34) dX2_looksLike_33 rfl rfl rfl ?_
        refine ZV_getIv (n := 37) dX2_looksLike_34 fl_X2_15 rfl rfl rfl (cf_ek hG e he).1 (cf_ei hG e he) ?_
        refine ZV_aload_n (n := 38) dX2_looksLike_37 rfl rfl rfl ?_
        refine ZV_getIv (n := 41) dX2_looksLike_38 fl_X2_15 rfl rfl rfl (cf_ek hG f hf).1 (cf_ei hG f hf) ?_
        refine ZV_icmp_ne (tgt := 67) (n := 44) dX2_looksLike_41 (by decide) rfl (fun h41 => ?_) (fun h41 => ?_)
        · skip
          have h41 := bI_ne h41
          refine ZV_iconst (v := nI 0) (n := 68) dX2_looksLike_67 rfl rfl ?_
          refine ZV_zret dX2_looksLike_68 rfl (by first | exact Or.inl rfl | exact Or.inr rfl) ?_
          refine ⟨?_, rfl⟩
          unfold alB
          rw [show alC T e f = false from decide_eq_false (by simp [h8, h19, h30, h41])]
          rfl
        · skip
          refine ZV_aload_n (n := 45) dX2_looksLike_44 rfl rfl rfl ?_
          refine ZV_getIv (n := 48) dX2_looksLike_45 fl_X2_9 rfl rfl rfl (cf_ek hG e he).1 (cf_ec hG e he) ?_
          refine ZV_aload_n (n := 49) dX2_looksLike_48 rfl rfl rfl ?_
          refine ZV_getIv (n := 52) dX2_looksLike_49 fl_X2_9 rfl rfl rfl (cf_ek hG f hf).1 (cf_ec hG f hf) ?_
          refine ZV_icmp_neN (tgt := 67) (n := 55) dX2_looksLike_52 (by decide) rfl (by omega) (by omega) (fun h52 => ?_) (fun h52 => ?_)
          · skip
            refine ZV_iconst (v := nI 0) (n := 68) dX2_looksLike_67 rfl rfl ?_
            refine ZV_zret dX2_looksLike_68 rfl (by first | exact Or.inl rfl | exact Or.inr rfl) ?_
            refine ⟨?_, rfl⟩
            unfold alB
            rw [show alC T e f = false from decide_eq_false (by simp [h8, h19, h30, h41, h52])]
            rfl
          · skip
            refine ZV_aload_n (n := 56) dX2_looksLike_55 rfl rfl rfl ?_
            refine ZV_aload_n (n := 57) dX2_looksLike_56 rfl rfl rfl ?_
            refine call_X2_73 (e_hasAllPitchesOf hG hf he hp2 (ti_pnc hI f hf) hp1 (ti_pnc hI e he)) rfl dX2_looksLike_57 rfl (cf_ek hG e he).1 (Nat.le_of_ble_eq_true rfl) (Nat.le_of_ble_eq_true rfl) rfl (fun r9 σ9 hp9 => ?_)
            obtain ⟨rfl, hs9⟩ := hp9
            subst σ9
            refine ZV_if_eqB (tgt := 67) (n := 63) dX2_looksLike_60 (by decide) rfl (fun h60 => ?_) (fun h60 => ?_)
            · skip
              refine ZV_iconst (v := nI 0) (n := 68) dX2_looksLike_67 rfl rfl ?_
              refine ZV_zret dX2_looksLike_68 rfl (by first | exact Or.inl rfl | exact Or.inr rfl) ?_
              refine ⟨?_, rfl⟩
              unfold alB
              rw [haN_alN hI he hf h52] at h60
              rw [show alC T e f = true from decide_eq_true ⟨h8, h52, h19, h30, bI_inj.mp h41⟩, h60]
              rfl
            · skip
              refine ZV_iconst (v := nI 1) (n := 64) dX2_looksLike_63 rfl rfl ?_
              refine ZV_goto (tgt := 68) dX2_looksLike_64 (by decide) ?_
              refine ZV_zret dX2_looksLike_68 rfl (by first | exact Or.inl rfl | exact Or.inr rfl) ?_
              refine ⟨?_, rfl⟩
              unfold alB
              rw [haN_alN hI he hf h52] at h60
              rw [show alC T e f = true from decide_eq_true ⟨h8, h52, h19, h30, bI_inj.mp h41⟩, h60]
              rfl
theorem U_add {c B : Nat} {σ : ZS} {T : TS} {K : KS} (h : cG c B σ T K) {e : Nat} (he : e < g_ev T) (p : Int32) : cG c B (pI (qi σ (k_ea K e + 1) (g_pn T e) p) 132 (k_ea K e) (nI (g_pn T e + 1))) (h_pn (h_pi T (va_u2 (g_pi T) e (va_up (g_pi T e) (g_pn T e) p))) (va_up (g_pn T) e (g_pn T e + 1))) K := by
  have h1 := U_pi h he (g_pn T e) p
  refine U_pn h1 he (fun j hj => ?_)
  by_cases q : j = g_pn T e
  · subst q
    rw [gh_pi_pi, u2_eq, up_eq]
    exact if_pos ⟨rfl, rfl⟩
  · exact cf_pi h1 e j he (show j < g_pn T e by omega)
set_option maxHeartbeats 4000000 in
set_option maxRecDepth 100000 in
theorem e_addPitch {c B : Nat} {σ : ZS} {T : TS} {K : KS} (hG : cG c B σ T K) {e : Nat} (he : e < g_ev T) (hk : g_kd T e = 1) (hp : g_pn T e ≤ 6) (p : Int32) : ZC M_X2_addPitch [Ar (some (k_ea K e)), Ai p] σ (fun r τ => (g_pn T e = 6 ∧ r = some (Ai (bI false)) ∧ τ = σ) ∨ (g_pn T e ≠ 6 ∧ r = some (Ai (bI true)) ∧ cG c B τ (h_pn (h_pi T (va_u2 (g_pi T) e (va_up (g_pi T e) (g_pn T e) p))) (va_up (g_pn T) e (g_pn T e + 1))) K)) := by
  have hlen : zk σ (k_ea K e + 1) = (2, 6) := by rw [(cf_ek hG e he).2.1, if_pos hk]
  refine ZC_of (ls := [some (Ar (some (k_ea K e))), some (Ai p)]) (by decide) (Nat.le_of_ble_eq_true rfl) rfl ?_
  refine ZV_aload_n (n := 1) dX2_addPitch_0 rfl rfl rfl ?_
  refine ZV_getIv (n := 4) dX2_addPitch_1 fl_X2_9 rfl rfl rfl (cf_ek hG e he).1 (show _ = nI (g_pn T e) from (cf_ec hG e he)) ?_
  refine ZV_aload_n (n := 5) dX2_addPitch_4 rfl rfl rfl ?_
  refine ZV_getRv (n := 8) dX2_addPitch_5 fl_X2_45 rfl rfl rfl (cf_ek hG e he).1 (show _ = some (k_ea K e + 1) from (cf_ep hG e he)) ?_
  refine ZV_alen (t := 0) (n := 9) dX2_addPitch_8 rfl rfl hlen (by decide) ?_
  refine ZV_icmp_ltN (tgt := 14) (n := 12) dX2_addPitch_9 (by decide) rfl (by omega) (by omega) (fun h9 => ?_) (fun h9 => ?_)
  · skip
    refine ZV_aload_n (n := 15) dX2_addPitch_14 rfl rfl rfl ?_
    refine ZV_getRv (n := 18) dX2_addPitch_15 fl_X2_45 rfl rfl rfl (cf_ek hG e he).1 (show _ = some (k_ea K e + 1) from (cf_ep hG e he)) ?_
    refine ZV_aload_n (n := 19) dX2_addPitch_18 rfl rfl rfl ?_
    refine ZV_getIv (n := 22) dX2_addPitch_19 fl_X2_9 rfl rfl rfl (cf_ek hG e he).1 (show _ = nI (g_pn T e) from (cf_ec hG e he)) ?_
    refine ZV_iload_n (n := 23) dX2_addPitch_22 rfl rfl rfl ?_
    refine ZV_iast (j := g_pn T e) (n := 24) dX2_addPitch_23 rfl rfl (cf_ek hG e he).2.1 rfl (by rw [hk]; simp only [ite_true]; omega) ?_
    refine ZV_aload_n (n := 25) dX2_addPitch_24 rfl rfl rfl ?_
    refine ZV_dup (n := 26) dX2_addPitch_25 rfl rfl ?_
    refine ZV_getIv (n := 29) dX2_addPitch_26 fl_X2_9 rfl rfl rfl (cf_ek hG e he).1 (show _ = nI (g_pn T e) from (cf_ec hG e he)) ?_
    refine ZV_iconst (v := nI 1) (n := 30) dX2_addPitch_29 rfl rfl ?_
    refine ZV_iaddN (n := 31) dX2_addPitch_30 rfl ?_
    refine ZV_putI (n := 34) dX2_addPitch_31 fl_X2_9 rfl (Or.inl rfl) rfl (fun h => absurd h (by decide)) rfl (cf_ek hG e he).1 ?_
    refine ZV_gen (P := fun τ => cG c B τ _ _) (U_add hG he p) (fun σ hG => ?_)
    refine ZV_iconst (v := nI 1) (n := 35) dX2_addPitch_34 rfl rfl ?_
    refine ZV_zret dX2_addPitch_35 rfl (by first | exact Or.inl rfl | exact Or.inr rfl) ?_
    first | exact Or.inr ⟨by omega, rfl, hG⟩ | exact Or.inl ⟨by omega, rfl, rfl⟩
  · skip
    refine ZV_iconst (v := nI 0) (n := 13) dX2_addPitch_12 rfl rfl ?_
    refine ZV_zret dX2_addPitch_13 rfl (by first | exact Or.inl rfl | exact Or.inr rfl) ?_
    first | exact Or.inr ⟨by omega, rfl, hG⟩ | exact Or.inl ⟨by omega, rfl, rfl⟩
theorem U_sh {c B : Nat} {σ : ZS} {T : TS} {K : KS} {e i : Nat} {a : Nat → Int32} (h : cG c B σ (h_pi T (va_u2 (g_pi T) e (ltF a (g_pi T e) i))) K) (he : e < g_ev T) : cG c B (qi σ (k_ea K e + 1) i (a i)) (h_pi T (va_u2 (g_pi T) e (ltF a (g_pi T e) (i + 1)))) K := by
  have h1 := U_pi h he i (a i)
  rw [hh_pi, gh_pi_pi, u2_u2, ltF_up] at h1
  exact h1
theorem hg_pi (T : TS) : h_pi T (g_pi T) = T := by
  unfold h_pi g_pi
  simp only [up_self]
theorem mv32 (x : Int32) (w : Int64) : (x.toInt64 + w).toInt32 = x + w.toInt32 := by
  rw [Int64.toInt32_add, Int32.toInt32_toInt64]
theorem mv_int {p : Nat} {w : Int64} (hp : p ≤ 127) (hb : -8589934592 ≤ w.toInt ∧ w.toInt ≤ 8589934592) : ((nI p).toInt64 + w).toInt = (p : Int) + w.toInt := by
  rw [Int64.toInt_add, Int32.toInt_toInt64, nI_toInt (by omega), Int.bmod_eq_of_le (by omega) (by omega)]
set_option maxHeartbeats 4000000 in
set_option maxRecDepth 100000 in
theorem e_moveBy {c B : Nat} {σ : ZS} {T : TS} {K : KS} (hG : cG c B σ T K) (hI : tI T) {e : Nat} (he : e < g_ev T) (hk : g_kd T e < 3) (w : Int64) (hb : -8589934592 ≤ w.toInt ∧ w.toInt ≤ 8589934592) : ZC M_X2_moveBy [Ar (some (k_ea K e)), Al w] σ (fun r τ => (mayB T e w.toInt = false ∧ r = some (Ai (bI false)) ∧ τ = σ) ∨ (mayB T e w.toInt = true ∧ r = some (Ai (bI true)) ∧ cG c B τ (shT T e w.toInt32) K)) := by
  have hp := ti_pn hI e
  have hc := ti_pnc hI e he
  have hn := ti_pn1 hI e he hk
  have hlo := ti_pi hI e 0 he (by omega)
  have hhi := ti_pi hI e (g_pn T e - 1) he (by omega)
  have hle : g_pv T e 0 ≤ g_pv T e (g_pn T e - 1) := by
    by_cases q : g_pn T e - 1 = 0
    · rw [q]; exact Nat.le_refl _
    · exact Nat.le_of_lt (pv_lt hI he (by omega) (by omega))
  refine ZC_of (ls := [some (Ar (some (k_ea K e))), some (Al w), none, none]) (by decide) (Nat.le_of_ble_eq_true rfl) rfl ?_
  have loop : ∀ (n9 : Nat) (i : Nat) (τ : ZS), g_pn T e - i < n9 → i ≤ g_pn T e → mayB T e w.toInt = true → cG c B τ (h_pi T (va_u2 (g_pi T) e (ltF (fun j => g_pi T e j + w.toInt32) (g_pi T e) i))) K → ZV M_X2_moveBy (fun r τ => (mayB T e w.toInt = false ∧ r = some (Ai (bI false)) ∧ τ = σ) ∨ (mayB T e w.toInt = true ∧ r = some (Ai (bI true)) ∧ cG c B τ (shT T e w.toInt32) K)) 30 [some (Ar (some (k_ea K e))), some (Al w), none, some (Ai (nI i))] [] τ (zmC M_X2_moveBy) (zmS M_X2_moveBy) := by
    intro n9
    induction n9 with
    | zero => intro i τ hm; exact absurd hm (Nat.not_lt_zero _)
    | succ n9 ih =>
      intro i τ hm hi hmay hG
      refine ZV_iload_n (n := 31) dX2_moveBy_30 rfl rfl rfl ?_
      refine ZV_aload_n (n := 32) dX2_moveBy_31 rfl rfl rfl ?_
      refine ZV_getIv (n := 35) dX2_moveBy_32 fl_X2_9 rfl rfl rfl (cf_ek hG e he).1 (show _ = nI (g_pn T e) from (cf_ec hG e he)) ?_
      refine ZV_icmp_geN (tgt := 60) (n := 38) dX2_moveBy_35 (by decide) rfl (by omega) (by omega) (fun h35 => ?_) (fun h35 => ?_)
      · skip
        refine ZV_iconst (v := nI 1) (n := 61) dX2_moveBy_60 rfl rfl ?_
        refine ZV_zret dX2_moveBy_61 rfl (by first | exact Or.inl rfl | exact Or.inr rfl) ?_
        obtain rfl : i = g_pn T e := by omega
        exact Or.inr ⟨hmay, rfl, hG⟩
      · skip
        refine ZV_aload_n (n := 39) dX2_moveBy_38 rfl rfl rfl ?_
        refine ZV_getRv (n := 42) dX2_moveBy_39 fl_X2_45 rfl rfl rfl (cf_ek hG e he).1 (show _ = some (k_ea K e + 1) from (cf_ep hG e he)) ?_
        refine ZV_iload_n (n := 43) dX2_moveBy_42 rfl rfl rfl ?_
        refine ZV_aload_n (n := 44) dX2_moveBy_43 rfl rfl rfl ?_
        refine ZV_getRv (n := 47) dX2_moveBy_44 fl_X2_45 rfl rfl rfl (cf_ek hG e he).1 (show _ = some (k_ea K e + 1) from (cf_ep hG e he)) ?_
        refine ZV_iload_n (n := 48) dX2_moveBy_47 rfl rfl rfl ?_
        refine ZV_ialdv (j := i) (n := 49) dX2_moveBy_48 rfl rfl (cf_ek hG e he).2.1 rfl (pitch_len (T := T) hc hp (by omega)) (show _ = g_pi T e i from (cf_pi hG e i he (show i < g_pn T e by omega)).trans (by show va_u2 (g_pi T) e _ e i = _; rw [u2_eq]; exact if_neg (Nat.lt_irrefl _))) ?_
        refine ZV_i2l (n := 50) dX2_moveBy_49 rfl ?_
        refine ZV_lload_n (n := 51) dX2_moveBy_50 rfl rfl rfl ?_
        refine ZV_ladd (n := 52) dX2_moveBy_51 rfl ?_
        refine ZV_l2i (n := 53) dX2_moveBy_52 rfl ?_
        refine ZV_topi (mv32 _ w) ?_
        refine ZV_iast (j := i) (n := 54) dX2_moveBy_53 rfl rfl (cf_ek hG e he).2.1 rfl (pitch_len (T := T) hc hp (by omega)) ?_
        refine ZV_gen (P := fun τ => cG c B τ _ _) (U_sh (a := fun j => g_pi T e j + w.toInt32) hG he) (fun τ hG => ?_)
        refine ZV_iincN_3 (v := 1) (n := 57) dX2_moveBy_54 rfl rfl (Nat.le_of_ble_eq_true rfl) rfl ?_
        refine ZV_goto (tgt := 30) dX2_moveBy_57 (by decide) ?_
        exact ih (i + 1) _ (by omega) (by omega) hmay hG
  refine ZV_aload_n (n := 1) dX2_moveBy_0 rfl rfl rfl ?_
  refine call_X2_59 (e_lowest hG he hp hc) rfl dX2_moveBy_1 rfl (cf_ek hG e he).1 (Nat.le_of_ble_eq_true rfl) (Nat.le_of_ble_eq_true rfl) rfl (fun r9 σ9 hp9 => ?_)
  obtain ⟨rfl, hs9⟩ := hp9
  subst σ9
  refine ZV_i2l (n := 5) dX2_moveBy_4 rfl ?_
  refine ZV_lload_n (n := 6) dX2_moveBy_5 rfl rfl rfl ?_
  refine ZV_ladd (n := 7) dX2_moveBy_6 rfl ?_
  refine ZV_topl (congrArg (fun q => q.toInt64 + w) ((if_pos hn).trans hlo.1)) ?_
  refine call_X2_63 (e_isPitch _ _) rfl dX2_moveBy_7 (Nat.le_of_ble_eq_true rfl) (Nat.le_of_ble_eq_true rfl) rfl (fun r9 σ9 hp9 => ?_)
  obtain ⟨rfl, hs9⟩ := hp9
  subst σ9
  rw [mv_int hlo.2 hb]
  refine ZV_if_eqB (tgt := 26) (n := 13) dX2_moveBy_10 (by decide) rfl (fun h10 => ?_) (fun h10 => ?_)
  · skip
    have h10 := of_decide_eq_false h10
    refine ZV_iconst (v := nI 0) (n := 27) dX2_moveBy_26 rfl rfl ?_
    refine ZV_zret dX2_moveBy_27 rfl (by first | exact Or.inl rfl | exact Or.inr rfl) ?_
    exact Or.inl ⟨decide_eq_false (by omega), rfl, rfl⟩
  · skip
    have h10 := of_decide_eq_true h10
    refine ZV_aload_n (n := 14) dX2_moveBy_13 rfl rfl rfl ?_
    refine call_X2_67 (e_highest hG he hp hc) rfl dX2_moveBy_14 rfl (cf_ek hG e he).1 (Nat.le_of_ble_eq_true rfl) (Nat.le_of_ble_eq_true rfl) rfl (fun r9 σ9 hp9 => ?_)
    obtain ⟨rfl, hs9⟩ := hp9
    subst σ9
    refine ZV_i2l (n := 18) dX2_moveBy_17 rfl ?_
    refine ZV_lload_n (n := 19) dX2_moveBy_18 rfl rfl rfl ?_
    refine ZV_ladd (n := 20) dX2_moveBy_19 rfl ?_
    refine ZV_topl (congrArg (fun q => q.toInt64 + w) ((if_pos hn).trans hhi.1)) ?_
    refine call_X2_63 (e_isPitch _ _) rfl dX2_moveBy_20 (Nat.le_of_ble_eq_true rfl) (Nat.le_of_ble_eq_true rfl) rfl (fun r9 σ9 hp9 => ?_)
    obtain ⟨rfl, hs9⟩ := hp9
    subst σ9
    rw [mv_int hhi.2 hb]
    refine ZV_if_neB (tgt := 28) (n := 26) dX2_moveBy_23 (by decide) rfl (fun h23 => ?_) (fun h23 => ?_)
    · skip
      have h23 := of_decide_eq_true h23
      refine ZV_iconst (v := nI 0) (n := 29) dX2_moveBy_28 rfl rfl ?_
      refine ZV_istore_3 (n := 30) dX2_moveBy_29 rfl (Nat.le_of_ble_eq_true rfl) rfl ?_
      refine loop _ 0 σ (Nat.lt_succ_self _) (Nat.zero_le _) ?_ ?_
      · exact decide_eq_true (by omega)
      · rw [ltF_0, u2_self, hg_pi]
        exact hG
    · skip
      have h23 := of_decide_eq_false h23
      refine ZV_iconst (v := nI 0) (n := 27) dX2_moveBy_26 rfl rfl ?_
      refine ZV_zret dX2_moveBy_27 rfl (by first | exact Or.inl rfl | exact Or.inr rfl) ?_
      exact Or.inl ⟨decide_eq_false (by omega), rfl, rfl⟩
