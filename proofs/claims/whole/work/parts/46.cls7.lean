set_option maxHeartbeats 4000000 in
set_option maxRecDepth 100000 in
theorem e_eventAt {c B : Nat} {σ : ZS} {T : TS} {K : KS} (hG : cG c B σ T K) {v : Nat} (hv : v < 3 * g_np T) (hm : g_mn T v ≤ 40) (n : Int32) : ZC M_X10_eventAt [Ar (some (k_va K v)), Ai n] σ (fun r τ => τ = σ ∧ ((inB n (g_mn T v) = false ∧ r = some (Ar none)) ∨ ∃ j, j < g_mn T v ∧ n = nI j ∧ r = some (Ar (some (k_ea K (g_ro T v j)))))) := by
  refine ZC_of (ls := [some (Ar (some (k_va K v))), some (Ai n)]) (by decide) (Nat.le_of_ble_eq_true rfl) rfl ?_
  refine ZV_iload_n (n := 1) dX10_eventAt_0 rfl rfl rfl ?_
  refine ZV_if_lt (tgt := 12) (n := 4) dX10_eventAt_1 (by decide) rfl (fun h1 => ?_) (fun h1 => ?_)
  · skip
    refine ZV_null (n := 13) dX10_eventAt_12 rfl ?_
    refine ZV_goto (tgt := 22) dX10_eventAt_13 (by decide) ?_
    refine ZV_aret dX10_eventAt_22 rfl ?_
    exact ⟨rfl, Or.inl ⟨inB_lt0 _ h1, rfl⟩⟩
  · skip
    refine ZV_iload_n (n := 5) dX10_eventAt_4 rfl rfl rfl ?_
    refine ZV_aload_n (n := 6) dX10_eventAt_5 rfl rfl rfl ?_
    refine ZV_getIv (n := 9) dX10_eventAt_6 fl_X10_17 rfl rfl rfl (cf_vk hG v hv).1 (cf_vs hG v hv) ?_
    refine ZV_icmp_lt (tgt := 16) (n := 12) dX10_eventAt_9 (by decide) rfl (fun h9 => ?_) (fun h9 => ?_)
    · skip
      obtain ⟨j, hj, hj2, rfl⟩ := inB_t (inB_ok (by omega) h1 h9)
      refine ZV_aload_n (n := 17) dX10_eventAt_16 rfl rfl rfl ?_
      refine ZV_getRv (n := 20) dX10_eventAt_17 fl_X10_11 rfl rfl rfl (cf_vk hG v hv).1 (cf_ve hG v hv) ?_
      refine ZV_iload_n (n := 21) dX10_eventAt_20 rfl rfl rfl ?_
      refine ZV_aaldv (c0 := 2) (j := j) (n := 22) dX10_eventAt_21 rfl (by decide) rfl (cf_vk hG v hv).2.1 rfl (by omega) (cf_ro hG v j hv (by omega)) ?_
      refine ZV_aret dX10_eventAt_22 rfl ?_
      exact ⟨rfl, Or.inr ⟨j, hj, rfl, rfl⟩⟩
    · skip
      refine ZV_null (n := 13) dX10_eventAt_12 rfl ?_
      refine ZV_goto (tgt := 22) dX10_eventAt_13 (by decide) ?_
      refine ZV_aret dX10_eventAt_22 rfl ?_
      exact ⟨rfl, Or.inl ⟨inB_ge (by omega) h9, rfl⟩⟩
theorem e_eventAtN {c B : Nat} {σ : ZS} {T : TS} {K : KS} (hG : cG c B σ T K) {v : Nat} (hv : v < 3 * g_np T) (hm : g_mn T v ≤ 40) {j : Nat} (hj : j < g_mn T v) : ZC M_X10_eventAt [Ar (some (k_va K v)), Ai (nI j)] σ (fun r τ => r = some (Ar (some (k_ea K (g_ro T v j)))) ∧ τ = σ) := ZC.mono (e_eventAt hG hv hm (nI j)) (fun r τ h => by
  obtain ⟨h1, h2⟩ := h
  rcases h2 with ⟨h2, _⟩ | ⟨i, hi, h3, h4⟩
  · rw [inB_nI (by omega), decide_eq_true hj] at h2
    cases h2
  · have := (nI_eq (by omega) (by omega)).mp h3
    subst this
    exact ⟨h4, h1⟩)
set_option maxHeartbeats 4000000 in
set_option maxRecDepth 100000 in
theorem e_nextForTie {c B : Nat} {σ : ZS} {T : TS} {K : KS} (hG : cG c B σ T K) {v : Nat} (hv : v < 3 * g_np T) (hI : tI T) (hm : g_mn T v ≤ 40) {q : Nat} (hq : q ≤ g_mn T v) : ZC M_X10_nextForTie [Ar (some (k_va K v)), Ai (nI q)] σ (fun r τ => τ = σ ∧ ((ntF T v (g_mn T v - q) q = g_mn T v ∧ r = some (Ar none)) ∨ (ntF T v (g_mn T v - q) q < g_mn T v ∧ r = some (Ar (some (k_ea K (g_ro T v (ntF T v (g_mn T v - q) q)))))))) := by
  refine ZC_of (ls := [some (Ar (some (k_va K v))), some (Ai (nI q)), none, none]) (by decide) (Nat.le_of_ble_eq_true rfl) rfl ?_
  generalize hX : ntF T v (g_mn T v - q) q = X
  have loop : ∀ (n9 : Nat) (i : Nat), g_mn T v - i < n9 → i ≤ g_mn T v → ntF T v (g_mn T v - i) i = X → ZV M_X10_nextForTie (fun r τ => τ = σ ∧ ((X = g_mn T v ∧ r = some (Ar none)) ∨ (X < g_mn T v ∧ r = some (Ar (some (k_ea K (g_ro T v (X)))))))) 2 [some (Ar (some (k_va K v))), some (Ai (nI q)), some (Ai (nI i)), none] [] σ (zmC M_X10_nextForTie) (zmS M_X10_nextForTie) := by
    intro n9
    induction n9 with
    | zero => intro i hme; exact absurd hme (Nat.not_lt_zero _)
    | succ n9 ih =>
      intro i hme hi hz
      refine ZV_iload_n (n := 3) dX10_nextForTie_2 rfl rfl rfl ?_
      refine ZV_aload_n (n := 4) dX10_nextForTie_3 rfl rfl rfl ?_
      refine ZV_getIv (n := 7) dX10_nextForTie_4 fl_X10_17 rfl rfl rfl (cf_vk hG v hv).1 (cf_vs hG v hv) ?_
      refine ZV_icmp_geN (tgt := 35) (n := 10) dX10_nextForTie_7 (by decide) rfl (by omega) (by omega) (fun h7 => ?_) (fun h7 => ?_)
      · skip
        refine ZV_null (n := 36) dX10_nextForTie_35 rfl ?_
        refine ZV_aret dX10_nextForTie_36 rfl ?_
        obtain rfl : i = g_mn T v := by omega
        rw [Nat.sub_self] at hz
        exact ⟨rfl, Or.inl ⟨hz.symm, rfl⟩⟩
      · skip
        refine ZV_aload_n (n := 11) dX10_nextForTie_10 rfl rfl rfl ?_
        refine ZV_iload_n (n := 12) dX10_nextForTie_11 rfl rfl rfl ?_
        refine call_X10_46 (e_eventAtN hG hv hm (j := i) (by omega)) rfl dX10_nextForTie_12 rfl (cf_vk hG v hv).1 (Nat.le_of_ble_eq_true rfl) (Nat.le_of_ble_eq_true rfl) rfl (fun r9 σ9 hp9 => ?_)
        obtain ⟨rfl, hs9⟩ := hp9
        subst σ9
        have hro := ti_ro hI v i (by have := ti_np hI; omega) (by omega)
        refine ZV_astore_3 (n := 16) dX10_nextForTie_15 rfl (Nat.le_of_ble_eq_true rfl) rfl ?_
        refine ZV_aload_n (n := 17) dX10_nextForTie_16 rfl rfl rfl ?_
        refine ZV_ifnull_s (tgt := 29) (n := 20) dX10_nextForTie_17 (by decide) rfl ?_
        refine ZV_aload_n (n := 21) dX10_nextForTie_20 rfl rfl rfl ?_
        refine call_X10_50 (e_isWithoutTime hG hro.1 (ti_kd hI _ hro.1)) rfl dX10_nextForTie_21 rfl (cf_ek hG (g_ro T v i) hro.1).1 (Nat.le_of_ble_eq_true rfl) (Nat.le_of_ble_eq_true rfl) rfl (fun r9 σ9 hp9 => ?_)
        obtain ⟨rfl, hs9⟩ := hp9
        subst σ9
        refine ZV_if_neB (tgt := 29) (n := 27) dX10_nextForTie_24 (by decide) rfl (fun h24 => ?_) (fun h24 => ?_)
        · skip
          refine ZV_iincN_2 (v := 1) (n := 32) dX10_nextForTie_29 rfl rfl (Nat.le_of_ble_eq_true rfl) rfl ?_
          refine ZV_goto (tgt := 2) dX10_nextForTie_32 (by decide) ?_
          refine ZV_fg_3 ?_
          exact ih (i + 1) (by omega) (by omega) (by rw [← hz, show g_mn T v - i = (g_mn T v - (i + 1)) + 1 by omega, ntF, if_pos (of_decide_eq_true h24)])
        · skip
          refine ZV_aload_n (n := 28) dX10_nextForTie_27 rfl rfl rfl ?_
          refine ZV_aret dX10_nextForTie_28 rfl ?_
          have h9 : X = i := by rw [← hz, show g_mn T v - i = (g_mn T v - (i + 1)) + 1 by omega, ntF, if_neg (of_decide_eq_false h24)]
          exact ⟨rfl, Or.inr ⟨by omega, by rw [h9]⟩⟩
  refine ZV_iload_n (n := 1) dX10_nextForTie_0 rfl rfl rfl ?_
  refine ZV_istore_2 (n := 2) dX10_nextForTie_1 rfl (Nat.le_of_ble_eq_true rfl) rfl ?_
  exact loop _ q (Nat.lt_succ_self _) hq hX
theorem eqN_at {T : TS} {v w i : Nat} (h : alB T (g_ro T v i) (g_ro T w i) = false) : ∀ n, i < n → eqN T v w n = false
  | 0, q => absurd q (Nat.not_lt_zero _)
  | n + 1, q => by
    rw [eqN]
    by_cases h2 : i = n
    · rw [← h2, h, Bool.and_false]
    · rw [eqN_at h n (by omega), Bool.false_and]
set_option maxHeartbeats 4000000 in
set_option maxRecDepth 100000 in
theorem e_hasEventsLike {c B : Nat} {σ : ZS} {T : TS} {K : KS} (hG : cG c B σ T K) {v : Nat} (hv : v < 3 * g_np T) {w : Nat} (hw : w < 3 * g_np T) (hI : tI T) : ZC M_X10_hasEventsLike [Ar (some (k_va K v)), Ar (some (k_va K w))] σ (fun y9 τ9 => y9 = some (Ai (bI (eqB T v w))) ∧ τ9 = σ) := by
  have hnp := ti_np hI
  have hm1 := ti_mn hI v
  have hm2 := ti_mn hI w
  refine ZC_of (ls := [some (Ar (some (k_va K v))), some (Ar (some (k_va K w))), none]) (by decide) (Nat.le_of_ble_eq_true rfl) rfl ?_
  have loop : ∀ (n9 : Nat) (i : Nat), g_mn T v - i < n9 → i ≤ g_mn T v → eqN T v w i = true → g_mn T v = g_mn T w → ZV M_X10_hasEventsLike (fun y9 τ9 => y9 = some (Ai (bI (eqB T v w))) ∧ τ9 = σ) 15 [some (Ar (some (k_va K v))), some (Ar (some (k_va K w))), some (Ai (nI i))] [] σ (zmC M_X10_hasEventsLike) (zmS M_X10_hasEventsLike) := by
    intro n9
    induction n9 with
    | zero => intro i hm; exact absurd hm (Nat.not_lt_zero _)
    | succ n9 ih =>
      intro i hm hi hz hs
      refine ZV_iload_n (n := 16) dX10_hasEventsLike_15 rfl rfl rfl ?_
      refine ZV_aload_n (n := 17) dX10_hasEventsLike_16 rfl rfl rfl ?_
      refine ZV_getIv (n := 20) dX10_hasEventsLike_17 fl_X10_17 rfl rfl rfl (cf_vk hG v hv).1 (cf_vs hG v hv) ?_
      refine ZV_icmp_geN (tgt := 49) (n := 23) dX10_hasEventsLike_20 (by decide) rfl (by omega) (by omega) (fun h20 => ?_) (fun h20 => ?_)
      · skip
        refine ZV_iconst (v := nI 1) (n := 50) dX10_hasEventsLike_49 rfl rfl ?_
        refine ZV_zret dX10_hasEventsLike_50 rfl (by first | exact Or.inl rfl | exact Or.inr rfl) ?_
        refine ⟨?_, rfl⟩
        obtain rfl : i = g_mn T v := by omega
        unfold eqB
        rw [hz, decide_eq_true hs]
        rfl
      · skip
        have hr1 := ti_ro hI v i (by omega) (by omega)
        have hr2 := ti_ro hI w i (by omega) (by omega)
        refine ZV_aload_n (n := 24) dX10_hasEventsLike_23 rfl rfl rfl ?_
        refine ZV_getRv (n := 27) dX10_hasEventsLike_24 fl_X10_11 rfl rfl rfl (cf_vk hG v hv).1 (cf_ve hG v hv) ?_
        refine ZV_iload_n (n := 28) dX10_hasEventsLike_27 rfl rfl rfl ?_
        refine ZV_aaldv (c0 := 2) (j := i) (n := 29) dX10_hasEventsLike_28 rfl (by decide) rfl (cf_vk hG v hv).2.1 rfl (by omega) (cf_ro hG v i hv (by omega)) ?_
        refine ZV_aload_n (n := 30) dX10_hasEventsLike_29 rfl rfl rfl ?_
        refine ZV_getRv (n := 33) dX10_hasEventsLike_30 fl_X10_11 rfl rfl rfl (cf_vk hG w hw).1 (cf_ve hG w hw) ?_
        refine ZV_iload_n (n := 34) dX10_hasEventsLike_33 rfl rfl rfl ?_
        refine ZV_aaldv (c0 := 2) (j := i) (n := 35) dX10_hasEventsLike_34 rfl (by decide) rfl (cf_vk hG w hw).2.1 rfl (by omega) (cf_ro hG w i hw (by omega)) ?_
        refine call_X10_54 (e_looksLike hG hI hr1.1 hr2.1) rfl dX10_hasEventsLike_35 rfl (cf_ek hG (g_ro T v i) hr1.1).1 (Nat.le_of_ble_eq_true rfl) (Nat.le_of_ble_eq_true rfl) rfl (fun r9 σ9 hp9 => ?_)
        obtain ⟨rfl, hs9⟩ := hp9
        subst σ9
        refine ZV_if_neB (tgt := 43) (n := 41) dX10_hasEventsLike_38 (by decide) rfl (fun h38 => ?_) (fun h38 => ?_)
        · skip
          refine ZV_iincN_2 (v := 1) (n := 46) dX10_hasEventsLike_43 rfl rfl (Nat.le_of_ble_eq_true rfl) rfl ?_
          refine ZV_goto (tgt := 15) dX10_hasEventsLike_46 (by decide) ?_
          exact ih (i + 1) (by omega) (by omega) (by rw [eqN, hz, h38]; rfl) hs
        · skip
          refine ZV_iconst (v := nI 0) (n := 42) dX10_hasEventsLike_41 rfl rfl ?_
          refine ZV_zret dX10_hasEventsLike_42 rfl (by first | exact Or.inl rfl | exact Or.inr rfl) ?_
          refine ⟨?_, rfl⟩
          unfold eqB
          rw [eqN_at h38 _ (by omega), Bool.and_false]
          rfl
  refine ZV_aload_n (n := 1) dX10_hasEventsLike_0 rfl rfl rfl ?_
  refine ZV_getIv (n := 4) dX10_hasEventsLike_1 fl_X10_17 rfl rfl rfl (cf_vk hG v hv).1 (cf_vs hG v hv) ?_
  refine ZV_aload_n (n := 5) dX10_hasEventsLike_4 rfl rfl rfl ?_
  refine ZV_getIv (n := 8) dX10_hasEventsLike_5 fl_X10_17 rfl rfl rfl (cf_vk hG w hw).1 (cf_vs hG w hw) ?_
  refine ZV_icmp_eqN (tgt := 13) (n := 11) dX10_hasEventsLike_8 (by decide) rfl (by omega) (by omega) (fun h8 => ?_) (fun h8 => ?_)
  · skip
    refine ZV_iconst (v := nI 0) (n := 14) dX10_hasEventsLike_13 rfl rfl ?_
    refine ZV_istore_2 (n := 15) dX10_hasEventsLike_14 rfl (Nat.le_of_ble_eq_true rfl) rfl ?_
    exact loop _ 0 (Nat.lt_succ_self _) (Nat.zero_le _) rfl h8
  · skip
    refine ZV_iconst (v := nI 0) (n := 12) dX10_hasEventsLike_11 rfl rfl ?_
    refine ZV_zret dX10_hasEventsLike_12 rfl (by first | exact Or.inl rfl | exact Or.inr rfl) ?_
    refine ⟨?_, rfl⟩
    unfold eqB
    rw [decide_eq_false h8]
    rfl
set_option maxHeartbeats 4000000 in
set_option maxRecDepth 100000 in
theorem e_covers {c B : Nat} {σ : ZS} {T : TS} {K : KS} (hG : cG c B σ T K) {t : Nat} (ht : t < g_te T) (hb : k_t1 K t ≤ 1000 ∧ k_tk K t ≤ 1000) {p : Nat} (hp : p ≤ 1000) : ZC M_X9_covers [Ar (some (k_ta K t)), Ai (nI p)] σ (fun y9 τ9 => y9 = some (Ai (bI (decide (k_t1 K t ≤ p ∧ p < k_t1 K t + k_tk K t)))) ∧ τ9 = σ) := by
  refine ZC_of (ls := [some (Ar (some (k_ta K t))), some (Ai (nI p))]) (by decide) (Nat.le_of_ble_eq_true rfl) rfl ?_
  refine ZV_iload_n (n := 1) dX9_covers_0 rfl rfl rfl ?_
  refine ZV_aload_n (n := 2) dX9_covers_1 rfl rfl rfl ?_
  refine ZV_getIv (n := 5) dX9_covers_2 fl_X9_17 rfl rfl rfl (cf_tk hG t ht).1 (cf_t1 hG t ht) ?_
  refine ZV_icmp_ltN (tgt := 25) (n := 8) dX9_covers_5 (by decide) rfl (by omega) (by omega) (fun h5 => ?_) (fun h5 => ?_)
  · skip
    refine ZV_iconst (v := nI 0) (n := 26) dX9_covers_25 rfl rfl ?_
    refine ZV_zret dX9_covers_26 rfl (by first | exact Or.inl rfl | exact Or.inr rfl) ?_
    refine ⟨?_, rfl⟩
    first | (rw [decide_eq_true (by omega)]; rfl) | (rw [decide_eq_false (by omega)]; rfl)
  · skip
    refine ZV_iload_n (n := 9) dX9_covers_8 rfl rfl rfl ?_
    refine ZV_aload_n (n := 10) dX9_covers_9 rfl rfl rfl ?_
    refine ZV_getIv (n := 13) dX9_covers_10 fl_X9_17 rfl rfl rfl (cf_tk hG t ht).1 (cf_t1 hG t ht) ?_
    refine ZV_aload_n (n := 14) dX9_covers_13 rfl rfl rfl ?_
    refine ZV_getIv (n := 17) dX9_covers_14 fl_X9_20 rfl rfl rfl (cf_tk hG t ht).1 (cf_t2 hG t ht) ?_
    refine ZV_iaddN (n := 18) dX9_covers_17 rfl ?_
    refine ZV_icmp_geN (tgt := 25) (n := 21) dX9_covers_18 (by decide) rfl (by omega) (by omega) (fun h18 => ?_) (fun h18 => ?_)
    · skip
      refine ZV_iconst (v := nI 0) (n := 26) dX9_covers_25 rfl rfl ?_
      refine ZV_zret dX9_covers_26 rfl (by first | exact Or.inl rfl | exact Or.inr rfl) ?_
      refine ⟨?_, rfl⟩
      first | (rw [decide_eq_true (by omega)]; rfl) | (rw [decide_eq_false (by omega)]; rfl)
    · skip
      refine ZV_iconst (v := nI 1) (n := 22) dX9_covers_21 rfl rfl ?_
      refine ZV_goto (tgt := 26) dX9_covers_22 (by decide) ?_
      refine ZV_zret dX9_covers_26 rfl (by first | exact Or.inl rfl | exact Or.inr rfl) ?_
      refine ⟨?_, rfl⟩
      first | (rw [decide_eq_true (by omega)]; rfl) | (rw [decide_eq_false (by omega)]; rfl)
set_option maxHeartbeats 4000000 in
set_option maxRecDepth 100000 in
theorem e_liesIn {c B : Nat} {σ : ZS} {T : TS} {K : KS} (hG : cG c B σ T K) {t : Nat} (ht : t < g_te T) {u : Nat} (hu : u < g_te T) (htt : g_tt T t = true) (huu : g_tt T u = true) (hvt : g_tv T t < 3 * g_np T) (hvu : g_tv T u < 3 * g_np T) (hb : k_t1 K t ≤ 1000 ∧ k_tk K t ≤ 1000) (hb2 : k_t1 K u ≤ 1000 ∧ k_tk K u ≤ 1000) : ZC M_X9_liesIn [Ar (some (k_ta K t)), Ar (some (k_ta K u))] σ (fun y9 τ9 => y9 = some (Ai (bI (decide (g_tv T t = g_tv T u ∧ k_t1 K u ≤ k_t1 K t ∧ k_t1 K t + k_tk K t ≤ k_t1 K u + k_tk K u ∧ (k_tk K t < k_tk K u ∨ u < t))))) ∧ τ9 = σ) := by
  have hbd := cf_bd hG
  refine ZC_of (ls := [some (Ar (some (k_ta K t))), some (Ar (some (k_ta K u))), none]) (by decide) (Nat.le_of_ble_eq_true rfl) rfl ?_
  refine ZV_aload_n (n := 1) dX9_liesIn_0 rfl rfl rfl ?_
  refine ZV_getRv (n := 4) dX9_liesIn_1 fl_X9_13 rfl rfl rfl (cf_tk hG t ht).1 (cf_to hG t ht (by assumption)) ?_
  refine ZV_aload_n (n := 5) dX9_liesIn_4 rfl rfl rfl ?_
  refine ZV_getRv (n := 8) dX9_liesIn_5 fl_X9_13 rfl rfl rfl (cf_tk hG u hu).1 (cf_to hG u hu (by assumption)) ?_
  refine ZV_acmp_neI (i := (g_tv T t)) (j := (g_tv T u)) (tgt := 47) (n := 11) dX9_liesIn_8 (by decide) rfl (va_inj hG hvt hvu) (fun q => congrArg (k_va K) q) (fun h8 => ?_) (fun h8 => ?_)
  · skip
    refine ZV_iconst (v := nI 0) (n := 48) dX9_liesIn_47 rfl rfl ?_
    refine ZV_istore_2 (n := 49) dX9_liesIn_48 rfl (Nat.le_of_ble_eq_true rfl) rfl ?_
    refine ZV_iload_n (n := 50) dX9_liesIn_49 rfl rfl rfl ?_
    refine ZV_if_eqN (tgt := 79) (n := 53) dX9_liesIn_50 (by decide) rfl (by omega) (fun h50 => ?_) (fun h50 => ?_)
    · skip
      refine ZV_iconst (v := nI 0) (n := 80) dX9_liesIn_79 rfl rfl ?_
      refine ZV_zret dX9_liesIn_80 rfl (by first | exact Or.inl rfl | exact Or.inr rfl) ?_
      refine ⟨?_, rfl⟩
      first | (rw [decide_eq_true (by omega)]; rfl) | (rw [decide_eq_false (by omega)]; rfl)
    · skip
      refine ZV_aload_n (n := 54) dX9_liesIn_53 rfl rfl rfl ?_
      refine ZV_getIv (n := 57) dX9_liesIn_54 fl_X9_20 rfl rfl rfl (cf_tk hG t ht).1 (cf_t2 hG t ht) ?_
      refine ZV_aload_n (n := 58) dX9_liesIn_57 rfl rfl rfl ?_
      refine ZV_getIv (n := 61) dX9_liesIn_58 fl_X9_20 rfl rfl rfl (cf_tk hG u hu).1 (cf_t2 hG u hu) ?_
      refine ZV_icmp_ltN (tgt := 75) (n := 64) dX9_liesIn_61 (by decide) rfl (by omega) (by omega) (fun h61 => ?_) (fun h61 => ?_)
      · skip
        refine ZV_iconst (v := nI 1) (n := 76) dX9_liesIn_75 rfl rfl ?_
        refine ZV_goto (tgt := 80) dX9_liesIn_76 (by decide) ?_
        refine ZV_zret dX9_liesIn_80 rfl (by first | exact Or.inl rfl | exact Or.inr rfl) ?_
        refine ⟨?_, rfl⟩
        first | (rw [decide_eq_true (by omega)]; rfl) | (rw [decide_eq_false (by omega)]; rfl)
      · skip
        refine ZV_aload_n (n := 65) dX9_liesIn_64 rfl rfl rfl ?_
        refine ZV_getIv (n := 68) dX9_liesIn_65 fl_X9_7 rfl rfl rfl (cf_tk hG t ht).1 (cf_tq hG t ht) ?_
        refine ZV_aload_n (n := 69) dX9_liesIn_68 rfl rfl rfl ?_
        refine ZV_getIv (n := 72) dX9_liesIn_69 fl_X9_7 rfl rfl rfl (cf_tk hG u hu).1 (cf_tq hG u hu) ?_
        refine ZV_icmp_leN (tgt := 79) (n := 75) dX9_liesIn_72 (by decide) rfl (by omega) (by omega) (fun h72 => ?_) (fun h72 => ?_)
        · skip
          refine ZV_iconst (v := nI 0) (n := 80) dX9_liesIn_79 rfl rfl ?_
          refine ZV_zret dX9_liesIn_80 rfl (by first | exact Or.inl rfl | exact Or.inr rfl) ?_
          refine ⟨?_, rfl⟩
          first | (rw [decide_eq_true (by omega)]; rfl) | (rw [decide_eq_false (by omega)]; rfl)
        · skip
          refine ZV_iconst (v := nI 1) (n := 76) dX9_liesIn_75 rfl rfl ?_
          refine ZV_goto (tgt := 80) dX9_liesIn_76 (by decide) ?_
          refine ZV_zret dX9_liesIn_80 rfl (by first | exact Or.inl rfl | exact Or.inr rfl) ?_
          refine ⟨?_, rfl⟩
          first | (rw [decide_eq_true (by omega)]; rfl) | (rw [decide_eq_false (by omega)]; rfl)
  · skip
    refine ZV_aload_n (n := 12) dX9_liesIn_11 rfl rfl rfl ?_
    refine ZV_getIv (n := 15) dX9_liesIn_12 fl_X9_17 rfl rfl rfl (cf_tk hG t ht).1 (cf_t1 hG t ht) ?_
    refine ZV_aload_n (n := 16) dX9_liesIn_15 rfl rfl rfl ?_
    refine ZV_getIv (n := 19) dX9_liesIn_16 fl_X9_17 rfl rfl rfl (cf_tk hG u hu).1 (cf_t1 hG u hu) ?_
    refine ZV_icmp_ltN (tgt := 47) (n := 22) dX9_liesIn_19 (by decide) rfl (by omega) (by omega) (fun h19 => ?_) (fun h19 => ?_)
    · skip
      refine ZV_iconst (v := nI 0) (n := 48) dX9_liesIn_47 rfl rfl ?_
      refine ZV_istore_2 (n := 49) dX9_liesIn_48 rfl (Nat.le_of_ble_eq_true rfl) rfl ?_
      refine ZV_iload_n (n := 50) dX9_liesIn_49 rfl rfl rfl ?_
      refine ZV_if_eqN (tgt := 79) (n := 53) dX9_liesIn_50 (by decide) rfl (by omega) (fun h50 => ?_) (fun h50 => ?_)
      · skip
        refine ZV_iconst (v := nI 0) (n := 80) dX9_liesIn_79 rfl rfl ?_
        refine ZV_zret dX9_liesIn_80 rfl (by first | exact Or.inl rfl | exact Or.inr rfl) ?_
        refine ⟨?_, rfl⟩
        first | (rw [decide_eq_true (by omega)]; rfl) | (rw [decide_eq_false (by omega)]; rfl)
      · skip
        refine ZV_aload_n (n := 54) dX9_liesIn_53 rfl rfl rfl ?_
        refine ZV_getIv (n := 57) dX9_liesIn_54 fl_X9_20 rfl rfl rfl (cf_tk hG t ht).1 (cf_t2 hG t ht) ?_
        refine ZV_aload_n (n := 58) dX9_liesIn_57 rfl rfl rfl ?_
        refine ZV_getIv (n := 61) dX9_liesIn_58 fl_X9_20 rfl rfl rfl (cf_tk hG u hu).1 (cf_t2 hG u hu) ?_
        refine ZV_icmp_ltN (tgt := 75) (n := 64) dX9_liesIn_61 (by decide) rfl (by omega) (by omega) (fun h61 => ?_) (fun h61 => ?_)
        · skip
          refine ZV_iconst (v := nI 1) (n := 76) dX9_liesIn_75 rfl rfl ?_
          refine ZV_goto (tgt := 80) dX9_liesIn_76 (by decide) ?_
          refine ZV_zret dX9_liesIn_80 rfl (by first | exact Or.inl rfl | exact Or.inr rfl) ?_
          refine ⟨?_, rfl⟩
          first | (rw [decide_eq_true (by omega)]; rfl) | (rw [decide_eq_false (by omega)]; rfl)
        · skip
          refine ZV_aload_n (n := 65) dX9_liesIn_64 rfl rfl rfl ?_
          refine ZV_getIv (n := 68) dX9_liesIn_65 fl_X9_7 rfl rfl rfl (cf_tk hG t ht).1 (cf_tq hG t ht) ?_
          refine ZV_aload_n (n := 69) dX9_liesIn_68 rfl rfl rfl ?_
          refine ZV_getIv (n := 72) dX9_liesIn_69 fl_X9_7 rfl rfl rfl (cf_tk hG u hu).1 (cf_tq hG u hu) ?_
          refine ZV_icmp_leN (tgt := 79) (n := 75) dX9_liesIn_72 (by decide) rfl (by omega) (by omega) (fun h72 => ?_) (fun h72 => ?_)
          · skip
            refine ZV_iconst (v := nI 0) (n := 80) dX9_liesIn_79 rfl rfl ?_
            refine ZV_zret dX9_liesIn_80 rfl (by first | exact Or.inl rfl | exact Or.inr rfl) ?_
            refine ⟨?_, rfl⟩
            first | (rw [decide_eq_true (by omega)]; rfl) | (rw [decide_eq_false (by omega)]; rfl)
          · skip
            refine ZV_iconst (v := nI 1) (n := 76) dX9_liesIn_75 rfl rfl ?_
            refine ZV_goto (tgt := 80) dX9_liesIn_76 (by decide) ?_
            refine ZV_zret dX9_liesIn_80 rfl (by first | exact Or.inl rfl | exact Or.inr rfl) ?_
            refine ⟨?_, rfl⟩
            first | (rw [decide_eq_true (by omega)]; rfl) | (rw [decide_eq_false (by omega)]; rfl)
    · skip
      refine ZV_aload_n (n := 23) dX9_liesIn_22 rfl rfl rfl ?_
      refine ZV_getIv (n := 26) dX9_liesIn_23 fl_X9_17 rfl rfl rfl (cf_tk hG t ht).1 (cf_t1 hG t ht) ?_
      refine ZV_aload_n (n := 27) dX9_liesIn_26 rfl rfl rfl ?_
      refine ZV_getIv (n := 30) dX9_liesIn_27 fl_X9_20 rfl rfl rfl (cf_tk hG t ht).1 (cf_t2 hG t ht) ?_
      refine ZV_iaddN (n := 31) dX9_liesIn_30 rfl ?_
      refine ZV_aload_n (n := 32) dX9_liesIn_31 rfl rfl rfl ?_
      refine ZV_getIv (n := 35) dX9_liesIn_32 fl_X9_17 rfl rfl rfl (cf_tk hG u hu).1 (cf_t1 hG u hu) ?_
      refine ZV_aload_n (n := 36) dX9_liesIn_35 rfl rfl rfl ?_
      refine ZV_getIv (n := 39) dX9_liesIn_36 fl_X9_20 rfl rfl rfl (cf_tk hG u hu).1 (cf_t2 hG u hu) ?_
      refine ZV_iaddN (n := 40) dX9_liesIn_39 rfl ?_
      refine ZV_icmp_gtN (tgt := 47) (n := 43) dX9_liesIn_40 (by decide) rfl (by omega) (by omega) (fun h40 => ?_) (fun h40 => ?_)
      · skip
        refine ZV_iconst (v := nI 0) (n := 48) dX9_liesIn_47 rfl rfl ?_
        refine ZV_istore_2 (n := 49) dX9_liesIn_48 rfl (Nat.le_of_ble_eq_true rfl) rfl ?_
        refine ZV_iload_n (n := 50) dX9_liesIn_49 rfl rfl rfl ?_
        refine ZV_if_eqN (tgt := 79) (n := 53) dX9_liesIn_50 (by decide) rfl (by omega) (fun h50 => ?_) (fun h50 => ?_)
        · skip
          refine ZV_iconst (v := nI 0) (n := 80) dX9_liesIn_79 rfl rfl ?_
          refine ZV_zret dX9_liesIn_80 rfl (by first | exact Or.inl rfl | exact Or.inr rfl) ?_
          refine ⟨?_, rfl⟩
          first | (rw [decide_eq_true (by omega)]; rfl) | (rw [decide_eq_false (by omega)]; rfl)
        · skip
          refine ZV_aload_n (n := 54) dX9_liesIn_53 rfl rfl rfl ?_
          refine ZV_getIv (n := 57) dX9_liesIn_54 fl_X9_20 rfl rfl rfl (cf_tk hG t ht).1 (cf_t2 hG t ht) ?_
          refine ZV_aload_n (n := 58) dX9_liesIn_57 rfl rfl rfl ?_
          refine ZV_getIv (n := 61) dX9_liesIn_58 fl_X9_20 rfl rfl rfl (cf_tk hG u hu).1 (cf_t2 hG u hu) ?_
          refine ZV_icmp_ltN (tgt := 75) (n := 64) dX9_liesIn_61 (by decide) rfl (by omega) (by omega) (fun h61 => ?_) (fun h61 => ?_)
          · skip
            refine ZV_iconst (v := nI 1) (n := 76) dX9_liesIn_75 rfl rfl ?_
            refine ZV_goto (tgt := 80) dX9_liesIn_76 (by decide) ?_
            refine ZV_zret dX9_liesIn_80 rfl (by first | exact Or.inl rfl | exact Or.inr rfl) ?_
            refine ⟨?_, rfl⟩
            first | (rw [decide_eq_true (by omega)]; rfl) | (rw [decide_eq_false (by omega)]; rfl)
          · skip
            refine ZV_aload_n (n := 65) dX9_liesIn_64 rfl rfl rfl ?_
            refine ZV_getIv (n := 68) dX9_liesIn_65 fl_X9_7 rfl rfl rfl (cf_tk hG t ht).1 (cf_tq hG t ht) ?_
            refine ZV_aload_n (n := 69) dX9_liesIn_68 rfl rfl rfl ?_
            refine ZV_getIv (n := 72) dX9_liesIn_69 fl_X9_7 rfl rfl rfl (cf_tk hG u hu).1 (cf_tq hG u hu) ?_
            refine ZV_icmp_leN (tgt := 79) (n := 75) dX9_liesIn_72 (by decide) rfl (by omega) (by omega) (fun h72 => ?_) (fun h72 => ?_)
            · skip
              refine ZV_iconst (v := nI 0) (n := 80) dX9_liesIn_79 rfl rfl ?_
              refine ZV_zret dX9_liesIn_80 rfl (by first | exact Or.inl rfl | exact Or.inr rfl) ?_
              refine ⟨?_, rfl⟩
              first | (rw [decide_eq_true (by omega)]; rfl) | (rw [decide_eq_false (by omega)]; rfl)
            · skip
              refine ZV_iconst (v := nI 1) (n := 76) dX9_liesIn_75 rfl rfl ?_
              refine ZV_goto (tgt := 80) dX9_liesIn_76 (by decide) ?_
              refine ZV_zret dX9_liesIn_80 rfl (by first | exact Or.inl rfl | exact Or.inr rfl) ?_
              refine ⟨?_, rfl⟩
              first | (rw [decide_eq_true (by omega)]; rfl) | (rw [decide_eq_false (by omega)]; rfl)
      · skip
        refine ZV_iconst (v := nI 1) (n := 44) dX9_liesIn_43 rfl rfl ?_
        refine ZV_goto (tgt := 48) dX9_liesIn_44 (by decide) ?_
        refine ZV_istore_2 (n := 49) dX9_liesIn_48 rfl (Nat.le_of_ble_eq_true rfl) rfl ?_
        refine ZV_iload_n (n := 50) dX9_liesIn_49 rfl rfl rfl ?_
        refine ZV_if_eqN (tgt := 79) (n := 53) dX9_liesIn_50 (by decide) rfl (by omega) (fun h50 => ?_) (fun h50 => ?_)
        · skip
          refine ZV_iconst (v := nI 0) (n := 80) dX9_liesIn_79 rfl rfl ?_
          refine ZV_zret dX9_liesIn_80 rfl (by first | exact Or.inl rfl | exact Or.inr rfl) ?_
          refine ⟨?_, rfl⟩
          first | (rw [decide_eq_true (by omega)]; rfl) | (rw [decide_eq_false (by omega)]; rfl)
        · skip
          refine ZV_aload_n (n := 54) dX9_liesIn_53 rfl rfl rfl ?_
          refine ZV_getIv (n := 57) dX9_liesIn_54 fl_X9_20 rfl rfl rfl (cf_tk hG t ht).1 (cf_t2 hG t ht) ?_
          refine ZV_aload_n (n := 58) dX9_liesIn_57 rfl rfl rfl ?_
          refine ZV_getIv (n := 61) dX9_liesIn_58 fl_X9_20 rfl rfl rfl (cf_tk hG u hu).1 (cf_t2 hG u hu) ?_
          refine ZV_icmp_ltN (tgt := 75) (n := 64) dX9_liesIn_61 (by decide) rfl (by omega) (by omega) (fun h61 => ?_) (fun h61 => ?_)
          · skip
            refine ZV_iconst (v := nI 1) (n := 76) dX9_liesIn_75 rfl rfl ?_
            refine ZV_goto (tgt := 80) dX9_liesIn_76 (by decide) ?_
            refine ZV_zret dX9_liesIn_80 rfl (by first | exact Or.inl rfl | exact Or.inr rfl) ?_
            refine ⟨?_, rfl⟩
            first | (rw [decide_eq_true (by omega)]; rfl) | (rw [decide_eq_false (by omega)]; rfl)
          · skip
            refine ZV_aload_n (n := 65) dX9_liesIn_64 rfl rfl rfl ?_
            refine ZV_getIv (n := 68) dX9_liesIn_65 fl_X9_7 rfl rfl rfl (cf_tk hG t ht).1 (cf_tq hG t ht) ?_
            refine ZV_aload_n (n := 69) dX9_liesIn_68 rfl rfl rfl ?_
            refine ZV_getIv (n := 72) dX9_liesIn_69 fl_X9_7 rfl rfl rfl (cf_tk hG u hu).1 (cf_tq hG u hu) ?_
            refine ZV_icmp_leN (tgt := 79) (n := 75) dX9_liesIn_72 (by decide) rfl (by omega) (by omega) (fun h72 => ?_) (fun h72 => ?_)
            · skip
              refine ZV_iconst (v := nI 0) (n := 80) dX9_liesIn_79 rfl rfl ?_
              refine ZV_zret dX9_liesIn_80 rfl (by first | exact Or.inl rfl | exact Or.inr rfl) ?_
              refine ⟨?_, rfl⟩
              first | (rw [decide_eq_true (by omega)]; rfl) | (rw [decide_eq_false (by omega)]; rfl)
            · skip
              refine ZV_iconst (v := nI 1) (n := 76) dX9_liesIn_75 rfl rfl ?_
              refine ZV_goto (tgt := 80) dX9_liesIn_76 (by decide) ?_
              refine ZV_zret dX9_liesIn_80 rfl (by first | exact Or.inl rfl | exact Or.inr rfl) ?_
              refine ⟨?_, rfl⟩
              first | (rw [decide_eq_true (by omega)]; rfl) | (rw [decide_eq_false (by omega)]; rfl)
set_option maxHeartbeats 4000000 in
set_option maxRecDepth 100000 in
theorem e_crosses {c B : Nat} {σ : ZS} {T : TS} {K : KS} (hG : cG c B σ T K) {t : Nat} (ht : t < g_te T) (hb : k_t1 K t ≤ 1000 ∧ k_tk K t ≤ 1000) {a k : Nat} (hak : a ≤ 1000 ∧ k ≤ 1000) : ZC M_X9_crosses [Ar (some (k_ta K t)), Ai (nI a), Ai (nI k)] σ (fun y9 τ9 => y9 = some (Ai (bI (decide (¬ (k_t1 K t + k_tk K t ≤ a ∨ a + k ≤ k_t1 K t) ∧ ¬ (a ≤ k_t1 K t ∧ k_t1 K t + k_tk K t ≤ a + k) ∧ ¬ (k_t1 K t ≤ a ∧ a + k ≤ k_t1 K t + k_tk K t))))) ∧ τ9 = σ) := by
  refine ZC_of (ls := [some (Ar (some (k_ta K t))), some (Ai (nI a)), some (Ai (nI k)), none, none, none, none, none]) (by decide) (Nat.le_of_ble_eq_true rfl) rfl ?_
  refine ZV_aload_n (n := 1) dX9_crosses_0 rfl rfl rfl ?_
  refine ZV_getIv (n := 4) dX9_crosses_1 fl_X9_17 rfl rfl rfl (cf_tk hG t ht).1 (cf_t1 hG t ht) ?_
  refine ZV_aload_n (n := 5) dX9_crosses_4 rfl rfl rfl ?_
  refine ZV_getIv (n := 8) dX9_crosses_5 fl_X9_20 rfl rfl rfl (cf_tk hG t ht).1 (cf_t2 hG t ht) ?_
  refine ZV_iaddN (n := 9) dX9_crosses_8 rfl ?_
  refine ZV_istore_3 (n := 10) dX9_crosses_9 rfl (Nat.le_of_ble_eq_true rfl) rfl ?_
  refine ZV_iload_n (n := 11) dX9_crosses_10 rfl rfl rfl ?_
  refine ZV_iload_n (n := 12) dX9_crosses_11 rfl rfl rfl ?_
  refine ZV_iaddN (n := 13) dX9_crosses_12 rfl ?_
  refine ZV_istore_4 (n := 15) dX9_crosses_13 rfl (Nat.le_of_ble_eq_true rfl) rfl ?_
  refine ZV_iload_n (n := 16) dX9_crosses_15 rfl rfl rfl ?_
  refine ZV_iload_n (n := 17) dX9_crosses_16 rfl rfl rfl ?_
  refine ZV_icmp_leN (tgt := 29) (n := 20) dX9_crosses_17 (by decide) rfl (by omega) (by omega) (fun h17 => ?_) (fun h17 => ?_)
  · skip
    refine ZV_iconst (v := nI 1) (n := 30) dX9_crosses_29 rfl rfl ?_
    refine ZV_goto (tgt := 34) dX9_crosses_30 (by decide) ?_
    refine ZV_istore_5 (n := 36) dX9_crosses_34 rfl (Nat.le_of_ble_eq_true rfl) rfl ?_
    refine ZV_aload_n (n := 37) dX9_crosses_36 rfl rfl rfl ?_
    refine ZV_getIv (n := 40) dX9_crosses_37 fl_X9_17 rfl rfl rfl (cf_tk hG t ht).1 (cf_t1 hG t ht) ?_
    refine ZV_iload_n (n := 41) dX9_crosses_40 rfl rfl rfl ?_
    refine ZV_icmp_ltN (tgt := 54) (n := 44) dX9_crosses_41 (by decide) rfl (by omega) (by omega) (fun h41 => ?_) (fun h41 => ?_)
    · skip
      refine ZV_iconst (v := nI 0) (n := 55) dX9_crosses_54 rfl rfl ?_
      refine ZV_istore_6 (n := 57) dX9_crosses_55 rfl (Nat.le_of_ble_eq_true rfl) rfl ?_
      refine ZV_aload_n (n := 58) dX9_crosses_57 rfl rfl rfl ?_
      refine ZV_getIv (n := 61) dX9_crosses_58 fl_X9_17 rfl rfl rfl (cf_tk hG t ht).1 (cf_t1 hG t ht) ?_
      refine ZV_iload_n (n := 62) dX9_crosses_61 rfl rfl rfl ?_
      refine ZV_icmp_gtN (tgt := 75) (n := 65) dX9_crosses_62 (by decide) rfl (by omega) (by omega) (fun h62 => ?_) (fun h62 => ?_)
      · skip
        refine ZV_iconst (v := nI 0) (n := 76) dX9_crosses_75 rfl rfl ?_
        refine ZV_istore_7 (n := 78) dX9_crosses_76 rfl (Nat.le_of_ble_eq_true rfl) rfl ?_
        refine ZV_iload (n := 80) dX9_crosses_78 rfl rfl ?_
        refine ZV_if_neN (tgt := 97) (n := 83) dX9_crosses_80 (by decide) rfl (by omega) (fun h80 => ?_) (fun h80 => ?_)
        · skip
          refine ZV_iconst (v := nI 0) (n := 98) dX9_crosses_97 rfl rfl ?_
          refine ZV_zret dX9_crosses_98 rfl (by first | exact Or.inl rfl | exact Or.inr rfl) ?_
          refine ⟨?_, rfl⟩
          first | (rw [decide_eq_true (by omega)]; rfl) | (rw [decide_eq_false (by omega)]; rfl)
        · skip
          refine ZV_iload (n := 85) dX9_crosses_83 rfl rfl ?_
          refine ZV_if_neN (tgt := 97) (n := 88) dX9_crosses_85 (by decide) rfl (by omega) (fun h85 => ?_) (fun h85 => ?_)
          · skip
            refine ZV_iconst (v := nI 0) (n := 98) dX9_crosses_97 rfl rfl ?_
            refine ZV_zret dX9_crosses_98 rfl (by first | exact Or.inl rfl | exact Or.inr rfl) ?_
            refine ⟨?_, rfl⟩
            first | (rw [decide_eq_true (by omega)]; rfl) | (rw [decide_eq_false (by omega)]; rfl)
          · skip
            refine ZV_iload (n := 90) dX9_crosses_88 rfl rfl ?_
            refine ZV_if_neN (tgt := 97) (n := 93) dX9_crosses_90 (by decide) rfl (by omega) (fun h90 => ?_) (fun h90 => ?_)
            · skip
              refine ZV_iconst (v := nI 0) (n := 98) dX9_crosses_97 rfl rfl ?_
              refine ZV_zret dX9_crosses_98 rfl (by first | exact Or.inl rfl | exact Or.inr rfl) ?_
              refine ⟨?_, rfl⟩
              first | (rw [decide_eq_true (by omega)]; rfl) | (rw [decide_eq_false (by omega)]; rfl)
            · skip
              refine ZV_iconst (v := nI 1) (n := 94) dX9_crosses_93 rfl rfl ?_
              refine ZV_goto (tgt := 98) dX9_crosses_94 (by decide) ?_
              refine ZV_zret dX9_crosses_98 rfl (by first | exact Or.inl rfl | exact Or.inr rfl) ?_
              refine ⟨?_, rfl⟩
              first | (rw [decide_eq_true (by omega)]; rfl) | (rw [decide_eq_false (by omega)]; rfl)
      · skip
        refine ZV_iload_n (n := 66) dX9_crosses_65 rfl rfl rfl ?_
        refine ZV_iload (n := 68) dX9_crosses_66 rfl rfl ?_
        refine ZV_icmp_ltN (tgt := 75) (n := 71) dX9_crosses_68 (by decide) rfl (by omega) (by omega) (fun h68 => ?_) (fun h68 => ?_)
        · skip
          refine ZV_iconst (v := nI 0) (n := 76) dX9_crosses_75 rfl rfl ?_
          refine ZV_istore_7 (n := 78) dX9_crosses_76 rfl (Nat.le_of_ble_eq_true rfl) rfl ?_
          refine ZV_iload (n := 80) dX9_crosses_78 rfl rfl ?_
          refine ZV_if_neN (tgt := 97) (n := 83) dX9_crosses_80 (by decide) rfl (by omega) (fun h80 => ?_) (fun h80 => ?_)
          · skip
            refine ZV_iconst (v := nI 0) (n := 98) dX9_crosses_97 rfl rfl ?_
            refine ZV_zret dX9_crosses_98 rfl (by first | exact Or.inl rfl | exact Or.inr rfl) ?_
            refine ⟨?_, rfl⟩
            first | (rw [decide_eq_true (by omega)]; rfl) | (rw [decide_eq_false (by omega)]; rfl)
          · skip
            refine ZV_iload (n := 85) dX9_crosses_83 rfl rfl ?_
            refine ZV_if_neN (tgt := 97) (n := 88) dX9_crosses_85 (by decide) rfl (by omega) (fun h85 => ?_) (fun h85 => ?_)
            · skip
              refine ZV_iconst (v := nI 0) (n := 98) dX9_crosses_97 rfl rfl ?_
              refine ZV_zret dX9_crosses_98 rfl (by first | exact Or.inl rfl | exact Or.inr rfl) ?_
              refine ⟨?_, rfl⟩
              first | (rw [decide_eq_true (by omega)]; rfl) | (rw [decide_eq_false (by omega)]; rfl)
            · skip
              refine ZV_iload (n := 90) dX9_crosses_88 rfl rfl ?_
              refine ZV_if_neN (tgt := 97) (n := 93) dX9_crosses_90 (by decide) rfl (by omega) (fun h90 => ?_) (fun h90 => ?_)
              · skip
                refine ZV_iconst (v := nI 0) (n := 98) dX9_crosses_97 rfl rfl ?_
                refine ZV_zret dX9_crosses_98 rfl (by first | exact Or.inl rfl | exact Or.inr rfl) ?_
                refine ⟨?_, rfl⟩
                first | (rw [decide_eq_true (by omega)]; rfl) | (rw [decide_eq_false (by omega)]; rfl)
              · skip
                refine ZV_iconst (v := nI 1) (n := 94) dX9_crosses_93 rfl rfl ?_
                refine ZV_goto (tgt := 98) dX9_crosses_94 (by decide) ?_
                refine ZV_zret dX9_crosses_98 rfl (by first | exact Or.inl rfl | exact Or.inr rfl) ?_
                refine ⟨?_, rfl⟩
                first | (rw [decide_eq_true (by omega)]; rfl) | (rw [decide_eq_false (by omega)]; rfl)
        · skip
          refine ZV_iconst (v := nI 1) (n := 72) dX9_crosses_71 rfl rfl ?_
          refine ZV_goto (tgt := 76) dX9_crosses_72 (by decide) ?_
          refine ZV_istore_7 (n := 78) dX9_crosses_76 rfl (Nat.le_of_ble_eq_true rfl) rfl ?_
          refine ZV_iload (n := 80) dX9_crosses_78 rfl rfl ?_
          refine ZV_if_neN (tgt := 97) (n := 83) dX9_crosses_80 (by decide) rfl (by omega) (fun h80 => ?_) (fun h80 => ?_)
          · skip
            refine ZV_iconst (v := nI 0) (n := 98) dX9_crosses_97 rfl rfl ?_
            refine ZV_zret dX9_crosses_98 rfl (by first | exact Or.inl rfl | exact Or.inr rfl) ?_
            refine ⟨?_, rfl⟩
            first | (rw [decide_eq_true (by omega)]; rfl) | (rw [decide_eq_false (by omega)]; rfl)
          · skip
            refine ZV_iload (n := 85) dX9_crosses_83 rfl rfl ?_
            refine ZV_if_neN (tgt := 97) (n := 88) dX9_crosses_85 (by decide) rfl (by omega) (fun h85 => ?_) (fun h85 => ?_)
            · skip
              refine ZV_iconst (v := nI 0) (n := 98) dX9_crosses_97 rfl rfl ?_
              refine ZV_zret dX9_crosses_98 rfl (by first | exact Or.inl rfl | exact Or.inr rfl) ?_
              refine ⟨?_, rfl⟩
              first | (rw [decide_eq_true (by omega)]; rfl) | (rw [decide_eq_false (by omega)]; rfl)
            · skip
              refine ZV_iload (n := 90) dX9_crosses_88 rfl rfl ?_
              refine ZV_if_neN (tgt := 97) (n := 93) dX9_crosses_90 (by decide) rfl (by omega) (fun h90 => ?_) (fun h90 => ?_)
              · skip
                refine ZV_iconst (v := nI 0) (n := 98) dX9_crosses_97 rfl rfl ?_
                refine ZV_zret dX9_crosses_98 rfl (by first | exact Or.inl rfl | exact Or.inr rfl) ?_
                refine ⟨?_, rfl⟩
                first | (rw [decide_eq_true (by omega)]; rfl) | (rw [decide_eq_false (by omega)]; rfl)
              · skip
                refine ZV_iconst (v := nI 1) (n := 94) dX9_crosses_93 rfl rfl ?_
                refine ZV_goto (tgt := 98) dX9_crosses_94 (by decide) ?_
                refine ZV_zret dX9_crosses_98 rfl (by first | exact Or.inl rfl | exact Or.inr rfl) ?_
                refine ⟨?_, rfl⟩
                first | (rw [decide_eq_true (by omega)]; rfl) | (rw [decide_eq_false (by omega)]; rfl)
    · skip
      refine ZV_iload_n (n := 45) dX9_crosses_44 rfl rfl rfl ?_
      refine ZV_iload (n := 47) dX9_crosses_45 rfl rfl ?_
      refine ZV_icmp_gtN (tgt := 54) (n := 50) dX9_crosses_47 (by decide) rfl (by omega) (by omega) (fun h47 => ?_) (fun h47 => ?_)
      · skip
        refine ZV_iconst (v := nI 0) (n := 55) dX9_crosses_54 rfl rfl ?_
        refine ZV_istore_6 (n := 57) dX9_crosses_55 rfl (Nat.le_of_ble_eq_true rfl) rfl ?_
        refine ZV_aload_n (n := 58) dX9_crosses_57 rfl rfl rfl ?_
        refine ZV_getIv (n := 61) dX9_crosses_58 fl_X9_17 rfl rfl rfl (cf_tk hG t ht).1 (cf_t1 hG t ht) ?_
        refine ZV_iload_n (n := 62) dX9_crosses_61 rfl rfl rfl ?_
        refine ZV_icmp_gtN (tgt := 75) (n := 65) dX9_crosses_62 (by decide) rfl (by omega) (by omega) (fun h62 => ?_) (fun h62 => ?_)
        · skip
          refine ZV_iconst (v := nI 0) (n := 76) dX9_crosses_75 rfl rfl ?_
          refine ZV_istore_7 (n := 78) dX9_crosses_76 rfl (Nat.le_of_ble_eq_true rfl) rfl ?_
          refine ZV_iload (n := 80) dX9_crosses_78 rfl rfl ?_
          refine ZV_if_neN (tgt := 97) (n := 83) dX9_crosses_80 (by decide) rfl (by omega) (fun h80 => ?_) (fun h80 => ?_)
          · skip
            refine ZV_iconst (v := nI 0) (n := 98) dX9_crosses_97 rfl rfl ?_
            refine ZV_zret dX9_crosses_98 rfl (by first | exact Or.inl rfl | exact Or.inr rfl) ?_
            refine ⟨?_, rfl⟩
            first | (rw [decide_eq_true (by omega)]; rfl) | (rw [decide_eq_false (by omega)]; rfl)
          · skip
            refine ZV_iload (n := 85) dX9_crosses_83 rfl rfl ?_
            refine ZV_if_neN (tgt := 97) (n := 88) dX9_crosses_85 (by decide) rfl (by omega) (fun h85 => ?_) (fun h85 => ?_)
            · skip
              refine ZV_iconst (v := nI 0) (n := 98) dX9_crosses_97 rfl rfl ?_
              refine ZV_zret dX9_crosses_98 rfl (by first | exact Or.inl rfl | exact Or.inr rfl) ?_
              refine ⟨?_, rfl⟩
              first | (rw [decide_eq_true (by omega)]; rfl) | (rw [decide_eq_false (by omega)]; rfl)
            · skip
              refine ZV_iload (n := 90) dX9_crosses_88 rfl rfl ?_
              refine ZV_if_neN (tgt := 97) (n := 93) dX9_crosses_90 (by decide) rfl (by omega) (fun h90 => ?_) (fun h90 => ?_)
              · skip
                refine ZV_iconst (v := nI 0) (n := 98) dX9_crosses_97 rfl rfl ?_
                refine ZV_zret dX9_crosses_98 rfl (by first | exact Or.inl rfl | exact Or.inr rfl) ?_
                refine ⟨?_, rfl⟩
                first | (rw [decide_eq_true (by omega)]; rfl) | (rw [decide_eq_false (by omega)]; rfl)
              · skip
                refine ZV_iconst (v := nI 1) (n := 94) dX9_crosses_93 rfl rfl ?_
                refine ZV_goto (tgt := 98) dX9_crosses_94 (by decide) ?_
                refine ZV_zret dX9_crosses_98 rfl (by first | exact Or.inl rfl | exact Or.inr rfl) ?_
                refine ⟨?_, rfl⟩
                first | (rw [decide_eq_true (by omega)]; rfl) | (rw [decide_eq_false (by omega)]; rfl)
        · skip
          refine ZV_iload_n (n := 66) dX9_crosses_65 rfl rfl rfl ?_
          refine ZV_iload (n := 68) dX9_crosses_66 rfl rfl ?_
          refine ZV_icmp_ltN (tgt := 75) (n := 71) dX9_crosses_68 (by decide) rfl (by omega) (by omega) (fun h68 => ?_) (fun h68 => ?_)
          · skip
            refine ZV_iconst (v := nI 0) (n := 76) dX9_crosses_75 rfl rfl ?_
            refine ZV_istore_7 (n := 78) dX9_crosses_76 rfl (Nat.le_of_ble_eq_true rfl) rfl ?_
            refine ZV_iload (n := 80) dX9_crosses_78 rfl rfl ?_
            refine ZV_if_neN (tgt := 97) (n := 83) dX9_crosses_80 (by decide) rfl (by omega) (fun h80 => ?_) (fun h80 => ?_)
            · skip
              refine ZV_iconst (v := nI 0) (n := 98) dX9_crosses_97 rfl rfl ?_
              refine ZV_zret dX9_crosses_98 rfl (by first | exact Or.inl rfl | exact Or.inr rfl) ?_
              refine ⟨?_, rfl⟩
              first | (rw [decide_eq_true (by omega)]; rfl) | (rw [decide_eq_false (by omega)]; rfl)
            · skip
              refine ZV_iload (n := 85) dX9_crosses_83 rfl rfl ?_
              refine ZV_if_neN (tgt := 97) (n := 88) dX9_crosses_85 (by decide) rfl (by omega) (fun h85 => ?_) (fun h85 => ?_)
              · skip
                refine ZV_iconst (v := nI 0) (n := 98) dX9_crosses_97 rfl rfl ?_
                refine ZV_zret dX9_crosses_98 rfl (by first | exact Or.inl rfl | exact Or.inr rfl) ?_
                refine ⟨?_, rfl⟩
                first | (rw [decide_eq_true (by omega)]; rfl) | (rw [decide_eq_false (by omega)]; rfl)
              · skip
                refine ZV_iload (n := 90) dX9_crosses_88 rfl rfl ?_
                refine ZV_if_neN (tgt := 97) (n := 93) dX9_crosses_90 (by decide) rfl (by omega) (fun h90 => ?_) (fun h90 => ?_)
                · skip
                  refine ZV_iconst (v := nI 0) (n := 98) dX9_crosses_97 rfl rfl ?_
                  refine ZV_zret dX9_crosses_98 rfl (by first | exact Or.inl rfl | exact Or.inr rfl) ?_
                  refine ⟨?_, rfl⟩
                  first | (rw [decide_eq_true (by omega)]; rfl) | (rw [decide_eq_false (by omega)]; rfl)
                · skip
                  refine ZV_iconst (v := nI 1) (n := 94) dX9_crosses_93 rfl rfl ?_
                  refine ZV_goto (tgt := 98) dX9_crosses_94 (by decide) ?_
                  refine ZV_zret dX9_crosses_98 rfl (by first | exact Or.inl rfl | exact Or.inr rfl) ?_
                  refine ⟨?_, rfl⟩
                  first | (rw [decide_eq_true (by omega)]; rfl) | (rw [decide_eq_false (by omega)]; rfl)
          · skip
            refine ZV_iconst (v := nI 1) (n := 72) dX9_crosses_71 rfl rfl ?_
            refine ZV_goto (tgt := 76) dX9_crosses_72 (by decide) ?_
            refine ZV_istore_7 (n := 78) dX9_crosses_76 rfl (Nat.le_of_ble_eq_true rfl) rfl ?_
            refine ZV_iload (n := 80) dX9_crosses_78 rfl rfl ?_
            refine ZV_if_neN (tgt := 97) (n := 83) dX9_crosses_80 (by decide) rfl (by omega) (fun h80 => ?_) (fun h80 => ?_)
            · skip
              refine ZV_iconst (v := nI 0) (n := 98) dX9_crosses_97 rfl rfl ?_
              refine ZV_zret dX9_crosses_98 rfl (by first | exact Or.inl rfl | exact Or.inr rfl) ?_
              refine ⟨?_, rfl⟩
              first | (rw [decide_eq_true (by omega)]; rfl) | (rw [decide_eq_false (by omega)]; rfl)
            · skip
              refine ZV_iload (n := 85) dX9_crosses_83 rfl rfl ?_
              refine ZV_if_neN (tgt := 97) (n := 88) dX9_crosses_85 (by decide) rfl (by omega) (fun h85 => ?_) (fun h85 => ?_)
              · skip
                refine ZV_iconst (v := nI 0) (n := 98) dX9_crosses_97 rfl rfl ?_
                refine ZV_zret dX9_crosses_98 rfl (by first | exact Or.inl rfl | exact Or.inr rfl) ?_
                refine ⟨?_, rfl⟩
                first | (rw [decide_eq_true (by omega)]; rfl) | (rw [decide_eq_false (by omega)]; rfl)
              · skip
                refine ZV_iload (n := 90) dX9_crosses_88 rfl rfl ?_
                refine ZV_if_neN (tgt := 97) (n := 93) dX9_crosses_90 (by decide) rfl (by omega) (fun h90 => ?_) (fun h90 => ?_)
                · skip
                  refine ZV_iconst (v := nI 0) (n := 98) dX9_crosses_97 rfl rfl ?_
                  refine ZV_zret dX9_crosses_98 rfl (by first | exact Or.inl rfl | exact Or.inr rfl) ?_
                  refine ⟨?_, rfl⟩
                  first | (rw [decide_eq_true (by omega)]; rfl) | (rw [decide_eq_false (by omega)]; rfl)
                · skip
                  refine ZV_iconst (v := nI 1) (n := 94) dX9_crosses_93 rfl rfl ?_
                  refine ZV_goto (tgt := 98) dX9_crosses_94 (by decide) ?_
                  refine ZV_zret dX9_crosses_98 rfl (by first | exact Or.inl rfl | exact Or.inr rfl) ?_
                  refine ⟨?_, rfl⟩
                  first | (rw [decide_eq_true (by omega)]; rfl) | (rw [decide_eq_false (by omega)]; rfl)
      · skip
        refine ZV_iconst (v := nI 1) (n := 51) dX9_crosses_50 rfl rfl ?_
        refine ZV_goto (tgt := 55) dX9_crosses_51 (by decide) ?_
        refine ZV_istore_6 (n := 57) dX9_crosses_55 rfl (Nat.le_of_ble_eq_true rfl) rfl ?_
        refine ZV_aload_n (n := 58) dX9_crosses_57 rfl rfl rfl ?_
        refine ZV_getIv (n := 61) dX9_crosses_58 fl_X9_17 rfl rfl rfl (cf_tk hG t ht).1 (cf_t1 hG t ht) ?_
        refine ZV_iload_n (n := 62) dX9_crosses_61 rfl rfl rfl ?_
        refine ZV_icmp_gtN (tgt := 75) (n := 65) dX9_crosses_62 (by decide) rfl (by omega) (by omega) (fun h62 => ?_) (fun h62 => ?_)
        · skip
          refine ZV_iconst (v := nI 0) (n := 76) dX9_crosses_75 rfl rfl ?_
          refine ZV_istore_7 (n := 78) dX9_crosses_76 rfl (Nat.le_of_ble_eq_true rfl) rfl ?_
          refine ZV_iload (n := 80) dX9_crosses_78 rfl rfl ?_
          refine ZV_if_neN (tgt := 97) (n := 83) dX9_crosses_80 (by decide) rfl (by omega) (fun h80 => ?_) (fun h80 => ?_)
          · skip
            refine ZV_iconst (v := nI 0) (n := 98) dX9_crosses_97 rfl rfl ?_
            refine ZV_zret dX9_crosses_98 rfl (by first | exact Or.inl rfl | exact Or.inr rfl) ?_
            refine ⟨?_, rfl⟩
            first | (rw [decide_eq_true (by omega)]; rfl) | (rw [decide_eq_false (by omega)]; rfl)
          · skip
            refine ZV_iload (n := 85) dX9_crosses_83 rfl rfl ?_
            refine ZV_if_neN (tgt := 97) (n := 88) dX9_crosses_85 (by decide) rfl (by omega) (fun h85 => ?_) (fun h85 => ?_)
            · skip
              refine ZV_iconst (v := nI 0) (n := 98) dX9_crosses_97 rfl rfl ?_
              refine ZV_zret dX9_crosses_98 rfl (by first | exact Or.inl rfl | exact Or.inr rfl) ?_
              refine ⟨?_, rfl⟩
              first | (rw [decide_eq_true (by omega)]; rfl) | (rw [decide_eq_false (by omega)]; rfl)
            · skip
              refine ZV_iload (n := 90) dX9_crosses_88 rfl rfl ?_
              refine ZV_if_neN (tgt := 97) (n := 93) dX9_crosses_90 (by decide) rfl (by omega) (fun h90 => ?_) (fun h90 => ?_)
              · skip
                refine ZV_iconst (v := nI 0) (n := 98) dX9_crosses_97 rfl rfl ?_
                refine ZV_zret dX9_crosses_98 rfl (by first | exact Or.inl rfl | exact Or.inr rfl) ?_
                refine ⟨?_, rfl⟩
                first | (rw [decide_eq_true (by omega)]; rfl) | (rw [decide_eq_false (by omega)]; rfl)
              · skip
                refine ZV_iconst (v := nI 1) (n := 94) dX9_crosses_93 rfl rfl ?_
                refine ZV_goto (tgt := 98) dX9_crosses_94 (by decide) ?_
                refine ZV_zret dX9_crosses_98 rfl (by first | exact Or.inl rfl | exact Or.inr rfl) ?_
                refine ⟨?_, rfl⟩
                first | (rw [decide_eq_true (by omega)]; rfl) | (rw [decide_eq_false (by omega)]; rfl)
        · skip
          refine ZV_iload_n (n := 66) dX9_crosses_65 rfl rfl rfl ?_
          refine ZV_iload (n := 68) dX9_crosses_66 rfl rfl ?_
          refine ZV_icmp_ltN (tgt := 75) (n := 71) dX9_crosses_68 (by decide) rfl (by omega) (by omega) (fun h68 => ?_) (fun h68 => ?_)
          · skip
            refine ZV_iconst (v := nI 0) (n := 76) dX9_crosses_75 rfl rfl ?_
            refine ZV_istore_7 (n := 78) dX9_crosses_76 rfl (Nat.le_of_ble_eq_true rfl) rfl ?_
            refine ZV_iload (n := 80) dX9_crosses_78 rfl rfl ?_
            refine ZV_if_neN (tgt := 97) (n := 83) dX9_crosses_80 (by decide) rfl (by omega) (fun h80 => ?_) (fun h80 => ?_)
            · skip
              refine ZV_iconst (v := nI 0) (n := 98) dX9_crosses_97 rfl rfl ?_
              refine ZV_zret dX9_crosses_98 rfl (by first | exact Or.inl rfl | exact Or.inr rfl) ?_
              refine ⟨?_, rfl⟩
              first | (rw [decide_eq_true (by omega)]; rfl) | (rw [decide_eq_false (by omega)]; rfl)
            · skip
              refine ZV_iload (n := 85) dX9_crosses_83 rfl rfl ?_
              refine ZV_if_neN (tgt := 97) (n := 88) dX9_crosses_85 (by decide) rfl (by omega) (fun h85 => ?_) (fun h85 => ?_)
              · skip
                refine ZV_iconst (v := nI 0) (n := 98) dX9_crosses_97 rfl rfl ?_
                refine ZV_zret dX9_crosses_98 rfl (by first | exact Or.inl rfl | exact Or.inr rfl) ?_
                refine ⟨?_, rfl⟩
                first | (rw [decide_eq_true (by omega)]; rfl) | (rw [decide_eq_false (by omega)]; rfl)
              · skip
                refine ZV_iload (n := 90) dX9_crosses_88 rfl rfl ?_
                refine ZV_if_neN (tgt := 97) (n := 93) dX9_crosses_90 (by decide) rfl (by omega) (fun h90 => ?_) (fun h90 => ?_)
                · skip
                  refine ZV_iconst (v := nI 0) (n := 98) dX9_crosses_97 rfl rfl ?_
                  refine ZV_zret dX9_crosses_98 rfl (by first | exact Or.inl rfl | exact Or.inr rfl) ?_
                  refine ⟨?_, rfl⟩
                  first | (rw [decide_eq_true (by omega)]; rfl) | (rw [decide_eq_false (by omega)]; rfl)
                · skip
                  refine ZV_iconst (v := nI 1) (n := 94) dX9_crosses_93 rfl rfl ?_
                  refine ZV_goto (tgt := 98) dX9_crosses_94 (by decide) ?_
                  refine ZV_zret dX9_crosses_98 rfl (by first | exact Or.inl rfl | exact Or.inr rfl) ?_
                  refine ⟨?_, rfl⟩
                  first | (rw [decide_eq_true (by omega)]; rfl) | (rw [decide_eq_false (by omega)]; rfl)
          · skip
            refine ZV_iconst (v := nI 1) (n := 72) dX9_crosses_71 rfl rfl ?_
            refine ZV_goto (tgt := 76) dX9_crosses_72 (by decide) ?_
            refine ZV_istore_7 (n := 78) dX9_crosses_76 rfl (Nat.le_of_ble_eq_true rfl) rfl ?_
            refine ZV_iload (n := 80) dX9_crosses_78 rfl rfl ?_
            refine ZV_if_neN (tgt := 97) (n := 83) dX9_crosses_80 (by decide) rfl (by omega) (fun h80 => ?_) (fun h80 => ?_)
            · skip
              refine ZV_iconst (v := nI 0) (n := 98) dX9_crosses_97 rfl rfl ?_
              refine ZV_zret dX9_crosses_98 rfl (by first | exact Or.inl rfl | exact Or.inr rfl) ?_
              refine ⟨?_, rfl⟩
              first | (rw [decide_eq_true (by omega)]; rfl) | (rw [decide_eq_false (by omega)]; rfl)
            · skip
              refine ZV_iload (n := 85) dX9_crosses_83 rfl rfl ?_
              refine ZV_if_neN (tgt := 97) (n := 88) dX9_crosses_85 (by decide) rfl (by omega) (fun h85 => ?_) (fun h85 => ?_)
              · skip
                refine ZV_iconst (v := nI 0) (n := 98) dX9_crosses_97 rfl rfl ?_
                refine ZV_zret dX9_crosses_98 rfl (by first | exact Or.inl rfl | exact Or.inr rfl) ?_
                refine ⟨?_, rfl⟩
                first | (rw [decide_eq_true (by omega)]; rfl) | (rw [decide_eq_false (by omega)]; rfl)
              · skip
                refine ZV_iload (n := 90) dX9_crosses_88 rfl rfl ?_
                refine ZV_if_neN (tgt := 97) (n := 93) dX9_crosses_90 (by decide) rfl (by omega) (fun h90 => ?_) (fun h90 => ?_)
                · skip
                  refine ZV_iconst (v := nI 0) (n := 98) dX9_crosses_97 rfl rfl ?_
                  refine ZV_zret dX9_crosses_98 rfl (by first | exact Or.inl rfl | exact Or.inr rfl) ?_
                  refine ⟨?_, rfl⟩
                  first | (rw [decide_eq_true (by omega)]; rfl) | (rw [decide_eq_false (by omega)]; rfl)
                · skip
                  refine ZV_iconst (v := nI 1) (n := 94) dX9_crosses_93 rfl rfl ?_
                  refine ZV_goto (tgt := 98) dX9_crosses_94 (by decide) ?_
                  refine ZV_zret dX9_crosses_98 rfl (by first | exact Or.inl rfl | exact Or.inr rfl) ?_
                  refine ⟨?_, rfl⟩
                  first | (rw [decide_eq_true (by omega)]; rfl) | (rw [decide_eq_false (by omega)]; rfl)
  · skip
    refine ZV_iload (n := 22) dX9_crosses_20 rfl rfl ?_
    refine ZV_aload_n (n := 23) dX9_crosses_22 rfl rfl rfl ?_
    refine ZV_getIv (n := 26) dX9_crosses_23 fl_X9_17 rfl rfl rfl (cf_tk hG t ht).1 (cf_t1 hG t ht) ?_
    refine ZV_icmp_gtN (tgt := 33) (n := 29) dX9_crosses_26 (by decide) rfl (by omega) (by omega) (fun h26 => ?_) (fun h26 => ?_)
    · skip
      refine ZV_iconst (v := nI 0) (n := 34) dX9_crosses_33 rfl rfl ?_
      refine ZV_istore_5 (n := 36) dX9_crosses_34 rfl (Nat.le_of_ble_eq_true rfl) rfl ?_
      refine ZV_aload_n (n := 37) dX9_crosses_36 rfl rfl rfl ?_
      refine ZV_getIv (n := 40) dX9_crosses_37 fl_X9_17 rfl rfl rfl (cf_tk hG t ht).1 (cf_t1 hG t ht) ?_
      refine ZV_iload_n (n := 41) dX9_crosses_40 rfl rfl rfl ?_
      refine ZV_icmp_ltN (tgt := 54) (n := 44) dX9_crosses_41 (by decide) rfl (by omega) (by omega) (fun h41 => ?_) (fun h41 => ?_)
      · skip
        refine ZV_iconst (v := nI 0) (n := 55) dX9_crosses_54 rfl rfl ?_
        refine ZV_istore_6 (n := 57) dX9_crosses_55 rfl (Nat.le_of_ble_eq_true rfl) rfl ?_
        refine ZV_aload_n (n := 58) dX9_crosses_57 rfl rfl rfl ?_
        refine ZV_getIv (n := 61) dX9_crosses_58 fl_X9_17 rfl rfl rfl (cf_tk hG t ht).1 (cf_t1 hG t ht) ?_
        refine ZV_iload_n (n := 62) dX9_crosses_61 rfl rfl rfl ?_
        refine ZV_icmp_gtN (tgt := 75) (n := 65) dX9_crosses_62 (by decide) rfl (by omega) (by omega) (fun h62 => ?_) (fun h62 => ?_)
        · skip
          refine ZV_iconst (v := nI 0) (n := 76) dX9_crosses_75 rfl rfl ?_
          refine ZV_istore_7 (n := 78) dX9_crosses_76 rfl (Nat.le_of_ble_eq_true rfl) rfl ?_
          refine ZV_iload (n := 80) dX9_crosses_78 rfl rfl ?_
          refine ZV_if_neN (tgt := 97) (n := 83) dX9_crosses_80 (by decide) rfl (by omega) (fun h80 => ?_) (fun h80 => ?_)
          · skip
            refine ZV_iconst (v := nI 0) (n := 98) dX9_crosses_97 rfl rfl ?_
            refine ZV_zret dX9_crosses_98 rfl (by first | exact Or.inl rfl | exact Or.inr rfl) ?_
            refine ⟨?_, rfl⟩
            first | (rw [decide_eq_true (by omega)]; rfl) | (rw [decide_eq_false (by omega)]; rfl)
          · skip
            refine ZV_iload (n := 85) dX9_crosses_83 rfl rfl ?_
            refine ZV_if_neN (tgt := 97) (n := 88) dX9_crosses_85 (by decide) rfl (by omega) (fun h85 => ?_) (fun h85 => ?_)
            · skip
              refine ZV_iconst (v := nI 0) (n := 98) dX9_crosses_97 rfl rfl ?_
              refine ZV_zret dX9_crosses_98 rfl (by first | exact Or.inl rfl | exact Or.inr rfl) ?_
              refine ⟨?_, rfl⟩
              first | (rw [decide_eq_true (by omega)]; rfl) | (rw [decide_eq_false (by omega)]; rfl)
            · skip
              refine ZV_iload (n := 90) dX9_crosses_88 rfl rfl ?_
              refine ZV_if_neN (tgt := 97) (n := 93) dX9_crosses_90 (by decide) rfl (by omega) (fun h90 => ?_) (fun h90 => ?_)
              · skip
                refine ZV_iconst (v := nI 0) (n := 98) dX9_crosses_97 rfl rfl ?_
                refine ZV_zret dX9_crosses_98 rfl (by first | exact Or.inl rfl | exact Or.inr rfl) ?_
                refine ⟨?_, rfl⟩
                first | (rw [decide_eq_true (by omega)]; rfl) | (rw [decide_eq_false (by omega)]; rfl)
              · skip
                refine ZV_iconst (v := nI 1) (n := 94) dX9_crosses_93 rfl rfl ?_
                refine ZV_goto (tgt := 98) dX9_crosses_94 (by decide) ?_
                refine ZV_zret dX9_crosses_98 rfl (by first | exact Or.inl rfl | exact Or.inr rfl) ?_
                refine ⟨?_, rfl⟩
                first | (rw [decide_eq_true (by omega)]; rfl) | (rw [decide_eq_false (by omega)]; rfl)
        · skip
          refine ZV_iload_n (n := 66) dX9_crosses_65 rfl rfl rfl ?_
          refine ZV_iload (n := 68) dX9_crosses_66 rfl rfl ?_
          refine ZV_icmp_ltN (tgt := 75) (n := 71) dX9_crosses_68 (by decide) rfl (by omega) (by omega) (fun h68 => ?_) (fun h68 => ?_)
          · skip
            refine ZV_iconst (v := nI 0) (n := 76) dX9_crosses_75 rfl rfl ?_
            refine ZV_istore_7 (n := 78) dX9_crosses_76 rfl (Nat.le_of_ble_eq_true rfl) rfl ?_
            refine ZV_iload (n := 80) dX9_crosses_78 rfl rfl ?_
            refine ZV_if_neN (tgt := 97) (n := 83) dX9_crosses_80 (by decide) rfl (by omega) (fun h80 => ?_) (fun h80 => ?_)
            · skip
              refine ZV_iconst (v := nI 0) (n := 98) dX9_crosses_97 rfl rfl ?_
              refine ZV_zret dX9_crosses_98 rfl (by first | exact Or.inl rfl | exact Or.inr rfl) ?_
              refine ⟨?_, rfl⟩
              first | (rw [decide_eq_true (by omega)]; rfl) | (rw [decide_eq_false (by omega)]; rfl)
            · skip
              refine ZV_iload (n := 85) dX9_crosses_83 rfl rfl ?_
              refine ZV_if_neN (tgt := 97) (n := 88) dX9_crosses_85 (by decide) rfl (by omega) (fun h85 => ?_) (fun h85 => ?_)
              · skip
                refine ZV_iconst (v := nI 0) (n := 98) dX9_crosses_97 rfl rfl ?_
                refine ZV_zret dX9_crosses_98 rfl (by first | exact Or.inl rfl | exact Or.inr rfl) ?_
                refine ⟨?_, rfl⟩
                first | (rw [decide_eq_true (by omega)]; rfl) | (rw [decide_eq_false (by omega)]; rfl)
              · skip
                refine ZV_iload (n := 90) dX9_crosses_88 rfl rfl ?_
                refine ZV_if_neN (tgt := 97) (n := 93) dX9_crosses_90 (by decide) rfl (by omega) (fun h90 => ?_) (fun h90 => ?_)
                · skip
                  refine ZV_iconst (v := nI 0) (n := 98) dX9_crosses_97 rfl rfl ?_
                  refine ZV_zret dX9_crosses_98 rfl (by first | exact Or.inl rfl | exact Or.inr rfl) ?_
                  refine ⟨?_, rfl⟩
                  first | (rw [decide_eq_true (by omega)]; rfl) | (rw [decide_eq_false (by omega)]; rfl)
                · skip
                  refine ZV_iconst (v := nI 1) (n := 94) dX9_crosses_93 rfl rfl ?_
                  refine ZV_goto (tgt := 98) dX9_crosses_94 (by decide) ?_
                  refine ZV_zret dX9_crosses_98 rfl (by first | exact Or.inl rfl | exact Or.inr rfl) ?_
                  refine ⟨?_, rfl⟩
                  first | (rw [decide_eq_true (by omega)]; rfl) | (rw [decide_eq_false (by omega)]; rfl)
          · skip
            refine ZV_iconst (v := nI 1) (n := 72) dX9_crosses_71 rfl rfl ?_
            refine ZV_goto (tgt := 76) dX9_crosses_72 (by decide) ?_
            refine ZV_istore_7 (n := 78) dX9_crosses_76 rfl (Nat.le_of_ble_eq_true rfl) rfl ?_
            refine ZV_iload (n := 80) dX9_crosses_78 rfl rfl ?_
            refine ZV_if_neN (tgt := 97) (n := 83) dX9_crosses_80 (by decide) rfl (by omega) (fun h80 => ?_) (fun h80 => ?_)
            · skip
              refine ZV_iconst (v := nI 0) (n := 98) dX9_crosses_97 rfl rfl ?_
              refine ZV_zret dX9_crosses_98 rfl (by first | exact Or.inl rfl | exact Or.inr rfl) ?_
              refine ⟨?_, rfl⟩
              first | (rw [decide_eq_true (by omega)]; rfl) | (rw [decide_eq_false (by omega)]; rfl)
            · skip
              refine ZV_iload (n := 85) dX9_crosses_83 rfl rfl ?_
              refine ZV_if_neN (tgt := 97) (n := 88) dX9_crosses_85 (by decide) rfl (by omega) (fun h85 => ?_) (fun h85 => ?_)
              · skip
                refine ZV_iconst (v := nI 0) (n := 98) dX9_crosses_97 rfl rfl ?_
                refine ZV_zret dX9_crosses_98 rfl (by first | exact Or.inl rfl | exact Or.inr rfl) ?_
                refine ⟨?_, rfl⟩
                first | (rw [decide_eq_true (by omega)]; rfl) | (rw [decide_eq_false (by omega)]; rfl)
              · skip
                refine ZV_iload (n := 90) dX9_crosses_88 rfl rfl ?_
                refine ZV_if_neN (tgt := 97) (n := 93) dX9_crosses_90 (by decide) rfl (by omega) (fun h90 => ?_) (fun h90 => ?_)
                · skip
                  refine ZV_iconst (v := nI 0) (n := 98) dX9_crosses_97 rfl rfl ?_
                  refine ZV_zret dX9_crosses_98 rfl (by first | exact Or.inl rfl | exact Or.inr rfl) ?_
                  refine ⟨?_, rfl⟩
                  first | (rw [decide_eq_true (by omega)]; rfl) | (rw [decide_eq_false (by omega)]; rfl)
                · skip
                  refine ZV_iconst (v := nI 1) (n := 94) dX9_crosses_93 rfl rfl ?_
                  refine ZV_goto (tgt := 98) dX9_crosses_94 (by decide) ?_
                  refine ZV_zret dX9_crosses_98 rfl (by first | exact Or.inl rfl | exact Or.inr rfl) ?_
                  refine ⟨?_, rfl⟩
                  first | (rw [decide_eq_true (by omega)]; rfl) | (rw [decide_eq_false (by omega)]; rfl)
      · skip
        refine ZV_iload_n (n := 45) dX9_crosses_44 rfl rfl rfl ?_
        refine ZV_iload (n := 47) dX9_crosses_45 rfl rfl ?_
        refine ZV_icmp_gtN (tgt := 54) (n := 50) dX9_crosses_47 (by decide) rfl (by omega) (by omega) (fun h47 => ?_) (fun h47 => ?_)
        · skip
          refine ZV_iconst (v := nI 0) (n := 55) dX9_crosses_54 rfl rfl ?_
          refine ZV_istore_6 (n := 57) dX9_crosses_55 rfl (Nat.le_of_ble_eq_true rfl) rfl ?_
          refine ZV_aload_n (n := 58) dX9_crosses_57 rfl rfl rfl ?_
          refine ZV_getIv (n := 61) dX9_crosses_58 fl_X9_17 rfl rfl rfl (cf_tk hG t ht).1 (cf_t1 hG t ht) ?_
          refine ZV_iload_n (n := 62) dX9_crosses_61 rfl rfl rfl ?_
          refine ZV_icmp_gtN (tgt := 75) (n := 65) dX9_crosses_62 (by decide) rfl (by omega) (by omega) (fun h62 => ?_) (fun h62 => ?_)
          · skip
            refine ZV_iconst (v := nI 0) (n := 76) dX9_crosses_75 rfl rfl ?_
            refine ZV_istore_7 (n := 78) dX9_crosses_76 rfl (Nat.le_of_ble_eq_true rfl) rfl ?_
            refine ZV_iload (n := 80) dX9_crosses_78 rfl rfl ?_
            refine ZV_if_neN (tgt := 97) (n := 83) dX9_crosses_80 (by decide) rfl (by omega) (fun h80 => ?_) (fun h80 => ?_)
            · skip
              refine ZV_iconst (v := nI 0) (n := 98) dX9_crosses_97 rfl rfl ?_
              refine ZV_zret dX9_crosses_98 rfl (by first | exact Or.inl rfl | exact Or.inr rfl) ?_
              refine ⟨?_, rfl⟩
              first | (rw [decide_eq_true (by omega)]; rfl) | (rw [decide_eq_false (by omega)]; rfl)
            · skip
              refine ZV_iload (n := 85) dX9_crosses_83 rfl rfl ?_
              refine ZV_if_neN (tgt := 97) (n := 88) dX9_crosses_85 (by decide) rfl (by omega) (fun h85 => ?_) (fun h85 => ?_)
              · skip
                refine ZV_iconst (v := nI 0) (n := 98) dX9_crosses_97 rfl rfl ?_
                refine ZV_zret dX9_crosses_98 rfl (by first | exact Or.inl rfl | exact Or.inr rfl) ?_
                refine ⟨?_, rfl⟩
                first | (rw [decide_eq_true (by omega)]; rfl) | (rw [decide_eq_false (by omega)]; rfl)
              · skip
                refine ZV_iload (n := 90) dX9_crosses_88 rfl rfl ?_
                refine ZV_if_neN (tgt := 97) (n := 93) dX9_crosses_90 (by decide) rfl (by omega) (fun h90 => ?_) (fun h90 => ?_)
                · skip
                  refine ZV_iconst (v := nI 0) (n := 98) dX9_crosses_97 rfl rfl ?_
                  refine ZV_zret dX9_crosses_98 rfl (by first | exact Or.inl rfl | exact Or.inr rfl) ?_
                  refine ⟨?_, rfl⟩
                  first | (rw [decide_eq_true (by omega)]; rfl) | (rw [decide_eq_false (by omega)]; rfl)
                · skip
                  refine ZV_iconst (v := nI 1) (n := 94) dX9_crosses_93 rfl rfl ?_
                  refine ZV_goto (tgt := 98) dX9_crosses_94 (by decide) ?_
                  refine ZV_zret dX9_crosses_98 rfl (by first | exact Or.inl rfl | exact Or.inr rfl) ?_
                  refine ⟨?_, rfl⟩
                  first | (rw [decide_eq_true (by omega)]; rfl) | (rw [decide_eq_false (by omega)]; rfl)
          · skip
            refine ZV_iload_n (n := 66) dX9_crosses_65 rfl rfl rfl ?_
            refine ZV_iload (n := 68) dX9_crosses_66 rfl rfl ?_
            refine ZV_icmp_ltN (tgt := 75) (n := 71) dX9_crosses_68 (by decide) rfl (by omega) (by omega) (fun h68 => ?_) (fun h68 => ?_)
            · skip
              refine ZV_iconst (v := nI 0) (n := 76) dX9_crosses_75 rfl rfl ?_
              refine ZV_istore_7 (n := 78) dX9_crosses_76 rfl (Nat.le_of_ble_eq_true rfl) rfl ?_
              refine ZV_iload (n := 80) dX9_crosses_78 rfl rfl ?_
              refine ZV_if_neN (tgt := 97) (n := 83) dX9_crosses_80 (by decide) rfl (by omega) (fun h80 => ?_) (fun h80 => ?_)
              · skip
                refine ZV_iconst (v := nI 0) (n := 98) dX9_crosses_97 rfl rfl ?_
                refine ZV_zret dX9_crosses_98 rfl (by first | exact Or.inl rfl | exact Or.inr rfl) ?_
                refine ⟨?_, rfl⟩
                first | (rw [decide_eq_true (by omega)]; rfl) | (rw [decide_eq_false (by omega)]; rfl)
              · skip
                refine ZV_iload (n := 85) dX9_crosses_83 rfl rfl ?_
                refine ZV_if_neN (tgt := 97) (n := 88) dX9_crosses_85 (by decide) rfl (by omega) (fun h85 => ?_) (fun h85 => ?_)
                · skip
                  refine ZV_iconst (v := nI 0) (n := 98) dX9_crosses_97 rfl rfl ?_
                  refine ZV_zret dX9_crosses_98 rfl (by first | exact Or.inl rfl | exact Or.inr rfl) ?_
                  refine ⟨?_, rfl⟩
                  first | (rw [decide_eq_true (by omega)]; rfl) | (rw [decide_eq_false (by omega)]; rfl)
                · skip
                  refine ZV_iload (n := 90) dX9_crosses_88 rfl rfl ?_
                  refine ZV_if_neN (tgt := 97) (n := 93) dX9_crosses_90 (by decide) rfl (by omega) (fun h90 => ?_) (fun h90 => ?_)
                  · skip
                    refine ZV_iconst (v := nI 0) (n := 98) dX9_crosses_97 rfl rfl ?_
                    refine ZV_zret dX9_crosses_98 rfl (by first | exact Or.inl rfl | exact Or.inr rfl) ?_
                    refine ⟨?_, rfl⟩
                    first | (rw [decide_eq_true (by omega)]; rfl) | (rw [decide_eq_false (by omega)]; rfl)
                  · skip
                    refine ZV_iconst (v := nI 1) (n := 94) dX9_crosses_93 rfl rfl ?_
                    refine ZV_goto (tgt := 98) dX9_crosses_94 (by decide) ?_
                    refine ZV_zret dX9_crosses_98 rfl (by first | exact Or.inl rfl | exact Or.inr rfl) ?_
                    refine ⟨?_, rfl⟩
                    first | (rw [decide_eq_true (by omega)]; rfl) | (rw [decide_eq_false (by omega)]; rfl)
            · skip
              refine ZV_iconst (v := nI 1) (n := 72) dX9_crosses_71 rfl rfl ?_
              refine ZV_goto (tgt := 76) dX9_crosses_72 (by decide) ?_
              refine ZV_istore_7 (n := 78) dX9_crosses_76 rfl (Nat.le_of_ble_eq_true rfl) rfl ?_
              refine ZV_iload (n := 80) dX9_crosses_78 rfl rfl ?_
              refine ZV_if_neN (tgt := 97) (n := 83) dX9_crosses_80 (by decide) rfl (by omega) (fun h80 => ?_) (fun h80 => ?_)
              · skip
                refine ZV_iconst (v := nI 0) (n := 98) dX9_crosses_97 rfl rfl ?_
                refine ZV_zret dX9_crosses_98 rfl (by first | exact Or.inl rfl | exact Or.inr rfl) ?_
                refine ⟨?_, rfl⟩
                first | (rw [decide_eq_true (by omega)]; rfl) | (rw [decide_eq_false (by omega)]; rfl)
              · skip
                refine ZV_iload (n := 85) dX9_crosses_83 rfl rfl ?_
                refine ZV_if_neN (tgt := 97) (n := 88) dX9_crosses_85 (by decide) rfl (by omega) (fun h85 => ?_) (fun h85 => ?_)
                · skip
                  refine ZV_iconst (v := nI 0) (n := 98) dX9_crosses_97 rfl rfl ?_
                  refine ZV_zret dX9_crosses_98 rfl (by first | exact Or.inl rfl | exact Or.inr rfl) ?_
                  refine ⟨?_, rfl⟩
                  first | (rw [decide_eq_true (by omega)]; rfl) | (rw [decide_eq_false (by omega)]; rfl)
                · skip
                  refine ZV_iload (n := 90) dX9_crosses_88 rfl rfl ?_
                  refine ZV_if_neN (tgt := 97) (n := 93) dX9_crosses_90 (by decide) rfl (by omega) (fun h90 => ?_) (fun h90 => ?_)
                  · skip
                    refine ZV_iconst (v := nI 0) (n := 98) dX9_crosses_97 rfl rfl ?_
                    refine ZV_zret dX9_crosses_98 rfl (by first | exact Or.inl rfl | exact Or.inr rfl) ?_
                    refine ⟨?_, rfl⟩
                    first | (rw [decide_eq_true (by omega)]; rfl) | (rw [decide_eq_false (by omega)]; rfl)
                  · skip
                    refine ZV_iconst (v := nI 1) (n := 94) dX9_crosses_93 rfl rfl ?_
                    refine ZV_goto (tgt := 98) dX9_crosses_94 (by decide) ?_
                    refine ZV_zret dX9_crosses_98 rfl (by first | exact Or.inl rfl | exact Or.inr rfl) ?_
                    refine ⟨?_, rfl⟩
                    first | (rw [decide_eq_true (by omega)]; rfl) | (rw [decide_eq_false (by omega)]; rfl)
        · skip
          refine ZV_iconst (v := nI 1) (n := 51) dX9_crosses_50 rfl rfl ?_
          refine ZV_goto (tgt := 55) dX9_crosses_51 (by decide) ?_
          refine ZV_istore_6 (n := 57) dX9_crosses_55 rfl (Nat.le_of_ble_eq_true rfl) rfl ?_
          refine ZV_aload_n (n := 58) dX9_crosses_57 rfl rfl rfl ?_
          refine ZV_getIv (n := 61) dX9_crosses_58 fl_X9_17 rfl rfl rfl (cf_tk hG t ht).1 (cf_t1 hG t ht) ?_
          refine ZV_iload_n (n := 62) dX9_crosses_61 rfl rfl rfl ?_
          refine ZV_icmp_gtN (tgt := 75) (n := 65) dX9_crosses_62 (by decide) rfl (by omega) (by omega) (fun h62 => ?_) (fun h62 => ?_)
          · skip
            refine ZV_iconst (v := nI 0) (n := 76) dX9_crosses_75 rfl rfl ?_
            refine ZV_istore_7 (n := 78) dX9_crosses_76 rfl (Nat.le_of_ble_eq_true rfl) rfl ?_
            refine ZV_iload (n := 80) dX9_crosses_78 rfl rfl ?_
            refine ZV_if_neN (tgt := 97) (n := 83) dX9_crosses_80 (by decide) rfl (by omega) (fun h80 => ?_) (fun h80 => ?_)
            · skip
              refine ZV_iconst (v := nI 0) (n := 98) dX9_crosses_97 rfl rfl ?_
              refine ZV_zret dX9_crosses_98 rfl (by first | exact Or.inl rfl | exact Or.inr rfl) ?_
              refine ⟨?_, rfl⟩
              first | (rw [decide_eq_true (by omega)]; rfl) | (rw [decide_eq_false (by omega)]; rfl)
            · skip
              refine ZV_iload (n := 85) dX9_crosses_83 rfl rfl ?_
              refine ZV_if_neN (tgt := 97) (n := 88) dX9_crosses_85 (by decide) rfl (by omega) (fun h85 => ?_) (fun h85 => ?_)
              · skip
                refine ZV_iconst (v := nI 0) (n := 98) dX9_crosses_97 rfl rfl ?_
                refine ZV_zret dX9_crosses_98 rfl (by first | exact Or.inl rfl | exact Or.inr rfl) ?_
                refine ⟨?_, rfl⟩
                first | (rw [decide_eq_true (by omega)]; rfl) | (rw [decide_eq_false (by omega)]; rfl)
              · skip
                refine ZV_iload (n := 90) dX9_crosses_88 rfl rfl ?_
                refine ZV_if_neN (tgt := 97) (n := 93) dX9_crosses_90 (by decide) rfl (by omega) (fun h90 => ?_) (fun h90 => ?_)
                · skip
                  refine ZV_iconst (v := nI 0) (n := 98) dX9_crosses_97 rfl rfl ?_
                  refine ZV_zret dX9_crosses_98 rfl (by first | exact Or.inl rfl | exact Or.inr rfl) ?_
                  refine ⟨?_, rfl⟩
                  first | (rw [decide_eq_true (by omega)]; rfl) | (rw [decide_eq_false (by omega)]; rfl)
                · skip
                  refine ZV_iconst (v := nI 1) (n := 94) dX9_crosses_93 rfl rfl ?_
                  refine ZV_goto (tgt := 98) dX9_crosses_94 (by decide) ?_
                  refine ZV_zret dX9_crosses_98 rfl (by first | exact Or.inl rfl | exact Or.inr rfl) ?_
                  refine ⟨?_, rfl⟩
                  first | (rw [decide_eq_true (by omega)]; rfl) | (rw [decide_eq_false (by omega)]; rfl)
          · skip
            refine ZV_iload_n (n := 66) dX9_crosses_65 rfl rfl rfl ?_
            refine ZV_iload (n := 68) dX9_crosses_66 rfl rfl ?_
            refine ZV_icmp_ltN (tgt := 75) (n := 71) dX9_crosses_68 (by decide) rfl (by omega) (by omega) (fun h68 => ?_) (fun h68 => ?_)
            · skip
              refine ZV_iconst (v := nI 0) (n := 76) dX9_crosses_75 rfl rfl ?_
              refine ZV_istore_7 (n := 78) dX9_crosses_76 rfl (Nat.le_of_ble_eq_true rfl) rfl ?_
              refine ZV_iload (n := 80) dX9_crosses_78 rfl rfl ?_
              refine ZV_if_neN (tgt := 97) (n := 83) dX9_crosses_80 (by decide) rfl (by omega) (fun h80 => ?_) (fun h80 => ?_)
              · skip
                refine ZV_iconst (v := nI 0) (n := 98) dX9_crosses_97 rfl rfl ?_
                refine ZV_zret dX9_crosses_98 rfl (by first | exact Or.inl rfl | exact Or.inr rfl) ?_
                refine ⟨?_, rfl⟩
                first | (rw [decide_eq_true (by omega)]; rfl) | (rw [decide_eq_false (by omega)]; rfl)
              · skip
                refine ZV_iload (n := 85) dX9_crosses_83 rfl rfl ?_
                refine ZV_if_neN (tgt := 97) (n := 88) dX9_crosses_85 (by decide) rfl (by omega) (fun h85 => ?_) (fun h85 => ?_)
                · skip
                  refine ZV_iconst (v := nI 0) (n := 98) dX9_crosses_97 rfl rfl ?_
                  refine ZV_zret dX9_crosses_98 rfl (by first | exact Or.inl rfl | exact Or.inr rfl) ?_
                  refine ⟨?_, rfl⟩
                  first | (rw [decide_eq_true (by omega)]; rfl) | (rw [decide_eq_false (by omega)]; rfl)
                · skip
                  refine ZV_iload (n := 90) dX9_crosses_88 rfl rfl ?_
                  refine ZV_if_neN (tgt := 97) (n := 93) dX9_crosses_90 (by decide) rfl (by omega) (fun h90 => ?_) (fun h90 => ?_)
                  · skip
                    refine ZV_iconst (v := nI 0) (n := 98) dX9_crosses_97 rfl rfl ?_
                    refine ZV_zret dX9_crosses_98 rfl (by first | exact Or.inl rfl | exact Or.inr rfl) ?_
                    refine ⟨?_, rfl⟩
                    first | (rw [decide_eq_true (by omega)]; rfl) | (rw [decide_eq_false (by omega)]; rfl)
                  · skip
                    refine ZV_iconst (v := nI 1) (n := 94) dX9_crosses_93 rfl rfl ?_
                    refine ZV_goto (tgt := 98) dX9_crosses_94 (by decide) ?_
                    refine ZV_zret dX9_crosses_98 rfl (by first | exact Or.inl rfl | exact Or.inr rfl) ?_
                    refine ⟨?_, rfl⟩
                    first | (rw [decide_eq_true (by omega)]; rfl) | (rw [decide_eq_false (by omega)]; rfl)
            · skip
              refine ZV_iconst (v := nI 1) (n := 72) dX9_crosses_71 rfl rfl ?_
              refine ZV_goto (tgt := 76) dX9_crosses_72 (by decide) ?_
              refine ZV_istore_7 (n := 78) dX9_crosses_76 rfl (Nat.le_of_ble_eq_true rfl) rfl ?_
              refine ZV_iload (n := 80) dX9_crosses_78 rfl rfl ?_
              refine ZV_if_neN (tgt := 97) (n := 83) dX9_crosses_80 (by decide) rfl (by omega) (fun h80 => ?_) (fun h80 => ?_)
              · skip
                refine ZV_iconst (v := nI 0) (n := 98) dX9_crosses_97 rfl rfl ?_
                refine ZV_zret dX9_crosses_98 rfl (by first | exact Or.inl rfl | exact Or.inr rfl) ?_
                refine ⟨?_, rfl⟩
                first | (rw [decide_eq_true (by omega)]; rfl) | (rw [decide_eq_false (by omega)]; rfl)
              · skip
                refine ZV_iload (n := 85) dX9_crosses_83 rfl rfl ?_
                refine ZV_if_neN (tgt := 97) (n := 88) dX9_crosses_85 (by decide) rfl (by omega) (fun h85 => ?_) (fun h85 => ?_)
                · skip
                  refine ZV_iconst (v := nI 0) (n := 98) dX9_crosses_97 rfl rfl ?_
                  refine ZV_zret dX9_crosses_98 rfl (by first | exact Or.inl rfl | exact Or.inr rfl) ?_
                  refine ⟨?_, rfl⟩
                  first | (rw [decide_eq_true (by omega)]; rfl) | (rw [decide_eq_false (by omega)]; rfl)
                · skip
                  refine ZV_iload (n := 90) dX9_crosses_88 rfl rfl ?_
                  refine ZV_if_neN (tgt := 97) (n := 93) dX9_crosses_90 (by decide) rfl (by omega) (fun h90 => ?_) (fun h90 => ?_)
                  · skip
                    refine ZV_iconst (v := nI 0) (n := 98) dX9_crosses_97 rfl rfl ?_
                    refine ZV_zret dX9_crosses_98 rfl (by first | exact Or.inl rfl | exact Or.inr rfl) ?_
                    refine ⟨?_, rfl⟩
                    first | (rw [decide_eq_true (by omega)]; rfl) | (rw [decide_eq_false (by omega)]; rfl)
                  · skip
                    refine ZV_iconst (v := nI 1) (n := 94) dX9_crosses_93 rfl rfl ?_
                    refine ZV_goto (tgt := 98) dX9_crosses_94 (by decide) ?_
                    refine ZV_zret dX9_crosses_98 rfl (by first | exact Or.inl rfl | exact Or.inr rfl) ?_
                    refine ⟨?_, rfl⟩
                    first | (rw [decide_eq_true (by omega)]; rfl) | (rw [decide_eq_false (by omega)]; rfl)
    · skip
      refine ZV_iconst (v := nI 1) (n := 30) dX9_crosses_29 rfl rfl ?_
      refine ZV_goto (tgt := 34) dX9_crosses_30 (by decide) ?_
      refine ZV_istore_5 (n := 36) dX9_crosses_34 rfl (Nat.le_of_ble_eq_true rfl) rfl ?_
      refine ZV_aload_n (n := 37) dX9_crosses_36 rfl rfl rfl ?_
      refine ZV_getIv (n := 40) dX9_crosses_37 fl_X9_17 rfl rfl rfl (cf_tk hG t ht).1 (cf_t1 hG t ht) ?_
      refine ZV_iload_n (n := 41) dX9_crosses_40 rfl rfl rfl ?_
      refine ZV_icmp_ltN (tgt := 54) (n := 44) dX9_crosses_41 (by decide) rfl (by omega) (by omega) (fun h41 => ?_) (fun h41 => ?_)
      · skip
        refine ZV_iconst (v := nI 0) (n := 55) dX9_crosses_54 rfl rfl ?_
        refine ZV_istore_6 (n := 57) dX9_crosses_55 rfl (Nat.le_of_ble_eq_true rfl) rfl ?_
        refine ZV_aload_n (n := 58) dX9_crosses_57 rfl rfl rfl ?_
        refine ZV_getIv (n := 61) dX9_crosses_58 fl_X9_17 rfl rfl rfl (cf_tk hG t ht).1 (cf_t1 hG t ht) ?_
        refine ZV_iload_n (n := 62) dX9_crosses_61 rfl rfl rfl ?_
        refine ZV_icmp_gtN (tgt := 75) (n := 65) dX9_crosses_62 (by decide) rfl (by omega) (by omega) (fun h62 => ?_) (fun h62 => ?_)
        · skip
          refine ZV_iconst (v := nI 0) (n := 76) dX9_crosses_75 rfl rfl ?_
          refine ZV_istore_7 (n := 78) dX9_crosses_76 rfl (Nat.le_of_ble_eq_true rfl) rfl ?_
          refine ZV_iload (n := 80) dX9_crosses_78 rfl rfl ?_
          refine ZV_if_neN (tgt := 97) (n := 83) dX9_crosses_80 (by decide) rfl (by omega) (fun h80 => ?_) (fun h80 => ?_)
          · skip
            refine ZV_iconst (v := nI 0) (n := 98) dX9_crosses_97 rfl rfl ?_
            refine ZV_zret dX9_crosses_98 rfl (by first | exact Or.inl rfl | exact Or.inr rfl) ?_
            refine ⟨?_, rfl⟩
            first | (rw [decide_eq_true (by omega)]; rfl) | (rw [decide_eq_false (by omega)]; rfl)
          · skip
            refine ZV_iload (n := 85) dX9_crosses_83 rfl rfl ?_
            refine ZV_if_neN (tgt := 97) (n := 88) dX9_crosses_85 (by decide) rfl (by omega) (fun h85 => ?_) (fun h85 => ?_)
            · skip
              refine ZV_iconst (v := nI 0) (n := 98) dX9_crosses_97 rfl rfl ?_
              refine ZV_zret dX9_crosses_98 rfl (by first | exact Or.inl rfl | exact Or.inr rfl) ?_
              refine ⟨?_, rfl⟩
              first | (rw [decide_eq_true (by omega)]; rfl) | (rw [decide_eq_false (by omega)]; rfl)
            · skip
              refine ZV_iload (n := 90) dX9_crosses_88 rfl rfl ?_
              refine ZV_if_neN (tgt := 97) (n := 93) dX9_crosses_90 (by decide) rfl (by omega) (fun h90 => ?_) (fun h90 => ?_)
              · skip
                refine ZV_iconst (v := nI 0) (n := 98) dX9_crosses_97 rfl rfl ?_
                refine ZV_zret dX9_crosses_98 rfl (by first | exact Or.inl rfl | exact Or.inr rfl) ?_
                refine ⟨?_, rfl⟩
                first | (rw [decide_eq_true (by omega)]; rfl) | (rw [decide_eq_false (by omega)]; rfl)
              · skip
                refine ZV_iconst (v := nI 1) (n := 94) dX9_crosses_93 rfl rfl ?_
                refine ZV_goto (tgt := 98) dX9_crosses_94 (by decide) ?_
                refine ZV_zret dX9_crosses_98 rfl (by first | exact Or.inl rfl | exact Or.inr rfl) ?_
                refine ⟨?_, rfl⟩
                first | (rw [decide_eq_true (by omega)]; rfl) | (rw [decide_eq_false (by omega)]; rfl)
        · skip
          refine ZV_iload_n (n := 66) dX9_crosses_65 rfl rfl rfl ?_
          refine ZV_iload (n := 68) dX9_crosses_66 rfl rfl ?_
          refine ZV_icmp_ltN (tgt := 75) (n := 71) dX9_crosses_68 (by decide) rfl (by omega) (by omega) (fun h68 => ?_) (fun h68 => ?_)
          · skip
            refine ZV_iconst (v := nI 0) (n := 76) dX9_crosses_75 rfl rfl ?_
            refine ZV_istore_7 (n := 78) dX9_crosses_76 rfl (Nat.le_of_ble_eq_true rfl) rfl ?_
            refine ZV_iload (n := 80) dX9_crosses_78 rfl rfl ?_
            refine ZV_if_neN (tgt := 97) (n := 83) dX9_crosses_80 (by decide) rfl (by omega) (fun h80 => ?_) (fun h80 => ?_)
            · skip
              refine ZV_iconst (v := nI 0) (n := 98) dX9_crosses_97 rfl rfl ?_
              refine ZV_zret dX9_crosses_98 rfl (by first | exact Or.inl rfl | exact Or.inr rfl) ?_
              refine ⟨?_, rfl⟩
              first | (rw [decide_eq_true (by omega)]; rfl) | (rw [decide_eq_false (by omega)]; rfl)
            · skip
              refine ZV_iload (n := 85) dX9_crosses_83 rfl rfl ?_
              refine ZV_if_neN (tgt := 97) (n := 88) dX9_crosses_85 (by decide) rfl (by omega) (fun h85 => ?_) (fun h85 => ?_)
              · skip
                refine ZV_iconst (v := nI 0) (n := 98) dX9_crosses_97 rfl rfl ?_
                refine ZV_zret dX9_crosses_98 rfl (by first | exact Or.inl rfl | exact Or.inr rfl) ?_
                refine ⟨?_, rfl⟩
                first | (rw [decide_eq_true (by omega)]; rfl) | (rw [decide_eq_false (by omega)]; rfl)
              · skip
                refine ZV_iload (n := 90) dX9_crosses_88 rfl rfl ?_
                refine ZV_if_neN (tgt := 97) (n := 93) dX9_crosses_90 (by decide) rfl (by omega) (fun h90 => ?_) (fun h90 => ?_)
                · skip
                  refine ZV_iconst (v := nI 0) (n := 98) dX9_crosses_97 rfl rfl ?_
                  refine ZV_zret dX9_crosses_98 rfl (by first | exact Or.inl rfl | exact Or.inr rfl) ?_
                  refine ⟨?_, rfl⟩
                  first | (rw [decide_eq_true (by omega)]; rfl) | (rw [decide_eq_false (by omega)]; rfl)
                · skip
                  refine ZV_iconst (v := nI 1) (n := 94) dX9_crosses_93 rfl rfl ?_
                  refine ZV_goto (tgt := 98) dX9_crosses_94 (by decide) ?_
                  refine ZV_zret dX9_crosses_98 rfl (by first | exact Or.inl rfl | exact Or.inr rfl) ?_
                  refine ⟨?_, rfl⟩
                  first | (rw [decide_eq_true (by omega)]; rfl) | (rw [decide_eq_false (by omega)]; rfl)
          · skip
            refine ZV_iconst (v := nI 1) (n := 72) dX9_crosses_71 rfl rfl ?_
            refine ZV_goto (tgt := 76) dX9_crosses_72 (by decide) ?_
            refine ZV_istore_7 (n := 78) dX9_crosses_76 rfl (Nat.le_of_ble_eq_true rfl) rfl ?_
            refine ZV_iload (n := 80) dX9_crosses_78 rfl rfl ?_
            refine ZV_if_neN (tgt := 97) (n := 83) dX9_crosses_80 (by decide) rfl (by omega) (fun h80 => ?_) (fun h80 => ?_)
            · skip
              refine ZV_iconst (v := nI 0) (n := 98) dX9_crosses_97 rfl rfl ?_
              refine ZV_zret dX9_crosses_98 rfl (by first | exact Or.inl rfl | exact Or.inr rfl) ?_
              refine ⟨?_, rfl⟩
              first | (rw [decide_eq_true (by omega)]; rfl) | (rw [decide_eq_false (by omega)]; rfl)
            · skip
              refine ZV_iload (n := 85) dX9_crosses_83 rfl rfl ?_
              refine ZV_if_neN (tgt := 97) (n := 88) dX9_crosses_85 (by decide) rfl (by omega) (fun h85 => ?_) (fun h85 => ?_)
              · skip
                refine ZV_iconst (v := nI 0) (n := 98) dX9_crosses_97 rfl rfl ?_
                refine ZV_zret dX9_crosses_98 rfl (by first | exact Or.inl rfl | exact Or.inr rfl) ?_
                refine ⟨?_, rfl⟩
                first | (rw [decide_eq_true (by omega)]; rfl) | (rw [decide_eq_false (by omega)]; rfl)
              · skip
                refine ZV_iload (n := 90) dX9_crosses_88 rfl rfl ?_
                refine ZV_if_neN (tgt := 97) (n := 93) dX9_crosses_90 (by decide) rfl (by omega) (fun h90 => ?_) (fun h90 => ?_)
                · skip
                  refine ZV_iconst (v := nI 0) (n := 98) dX9_crosses_97 rfl rfl ?_
                  refine ZV_zret dX9_crosses_98 rfl (by first | exact Or.inl rfl | exact Or.inr rfl) ?_
                  refine ⟨?_, rfl⟩
                  first | (rw [decide_eq_true (by omega)]; rfl) | (rw [decide_eq_false (by omega)]; rfl)
                · skip
                  refine ZV_iconst (v := nI 1) (n := 94) dX9_crosses_93 rfl rfl ?_
                  refine ZV_goto (tgt := 98) dX9_crosses_94 (by decide) ?_
                  refine ZV_zret dX9_crosses_98 rfl (by first | exact Or.inl rfl | exact Or.inr rfl) ?_
                  refine ⟨?_, rfl⟩
                  first | (rw [decide_eq_true (by omega)]; rfl) | (rw [decide_eq_false (by omega)]; rfl)
      · skip
        refine ZV_iload_n (n := 45) dX9_crosses_44 rfl rfl rfl ?_
        refine ZV_iload (n := 47) dX9_crosses_45 rfl rfl ?_
        refine ZV_icmp_gtN (tgt := 54) (n := 50) dX9_crosses_47 (by decide) rfl (by omega) (by omega) (fun h47 => ?_) (fun h47 => ?_)
        · skip
          refine ZV_iconst (v := nI 0) (n := 55) dX9_crosses_54 rfl rfl ?_
          refine ZV_istore_6 (n := 57) dX9_crosses_55 rfl (Nat.le_of_ble_eq_true rfl) rfl ?_
          refine ZV_aload_n (n := 58) dX9_crosses_57 rfl rfl rfl ?_
          refine ZV_getIv (n := 61) dX9_crosses_58 fl_X9_17 rfl rfl rfl (cf_tk hG t ht).1 (cf_t1 hG t ht) ?_
          refine ZV_iload_n (n := 62) dX9_crosses_61 rfl rfl rfl ?_
          refine ZV_icmp_gtN (tgt := 75) (n := 65) dX9_crosses_62 (by decide) rfl (by omega) (by omega) (fun h62 => ?_) (fun h62 => ?_)
          · skip
            refine ZV_iconst (v := nI 0) (n := 76) dX9_crosses_75 rfl rfl ?_
            refine ZV_istore_7 (n := 78) dX9_crosses_76 rfl (Nat.le_of_ble_eq_true rfl) rfl ?_
            refine ZV_iload (n := 80) dX9_crosses_78 rfl rfl ?_
            refine ZV_if_neN (tgt := 97) (n := 83) dX9_crosses_80 (by decide) rfl (by omega) (fun h80 => ?_) (fun h80 => ?_)
            · skip
              refine ZV_iconst (v := nI 0) (n := 98) dX9_crosses_97 rfl rfl ?_
              refine ZV_zret dX9_crosses_98 rfl (by first | exact Or.inl rfl | exact Or.inr rfl) ?_
              refine ⟨?_, rfl⟩
              first | (rw [decide_eq_true (by omega)]; rfl) | (rw [decide_eq_false (by omega)]; rfl)
            · skip
              refine ZV_iload (n := 85) dX9_crosses_83 rfl rfl ?_
              refine ZV_if_neN (tgt := 97) (n := 88) dX9_crosses_85 (by decide) rfl (by omega) (fun h85 => ?_) (fun h85 => ?_)
              · skip
                refine ZV_iconst (v := nI 0) (n := 98) dX9_crosses_97 rfl rfl ?_
                refine ZV_zret dX9_crosses_98 rfl (by first | exact Or.inl rfl | exact Or.inr rfl) ?_
                refine ⟨?_, rfl⟩
                first | (rw [decide_eq_true (by omega)]; rfl) | (rw [decide_eq_false (by omega)]; rfl)
              · skip
                refine ZV_iload (n := 90) dX9_crosses_88 rfl rfl ?_
                refine ZV_if_neN (tgt := 97) (n := 93) dX9_crosses_90 (by decide) rfl (by omega) (fun h90 => ?_) (fun h90 => ?_)
                · skip
                  refine ZV_iconst (v := nI 0) (n := 98) dX9_crosses_97 rfl rfl ?_
                  refine ZV_zret dX9_crosses_98 rfl (by first | exact Or.inl rfl | exact Or.inr rfl) ?_
                  refine ⟨?_, rfl⟩
                  first | (rw [decide_eq_true (by omega)]; rfl) | (rw [decide_eq_false (by omega)]; rfl)
                · skip
                  refine ZV_iconst (v := nI 1) (n := 94) dX9_crosses_93 rfl rfl ?_
                  refine ZV_goto (tgt := 98) dX9_crosses_94 (by decide) ?_
                  refine ZV_zret dX9_crosses_98 rfl (by first | exact Or.inl rfl | exact Or.inr rfl) ?_
                  refine ⟨?_, rfl⟩
                  first | (rw [decide_eq_true (by omega)]; rfl) | (rw [decide_eq_false (by omega)]; rfl)
          · skip
            refine ZV_iload_n (n := 66) dX9_crosses_65 rfl rfl rfl ?_
            refine ZV_iload (n := 68) dX9_crosses_66 rfl rfl ?_
            refine ZV_icmp_ltN (tgt := 75) (n := 71) dX9_crosses_68 (by decide) rfl (by omega) (by omega) (fun h68 => ?_) (fun h68 => ?_)
            · skip
              refine ZV_iconst (v := nI 0) (n := 76) dX9_crosses_75 rfl rfl ?_
              refine ZV_istore_7 (n := 78) dX9_crosses_76 rfl (Nat.le_of_ble_eq_true rfl) rfl ?_
              refine ZV_iload (n := 80) dX9_crosses_78 rfl rfl ?_
              refine ZV_if_neN (tgt := 97) (n := 83) dX9_crosses_80 (by decide) rfl (by omega) (fun h80 => ?_) (fun h80 => ?_)
              · skip
                refine ZV_iconst (v := nI 0) (n := 98) dX9_crosses_97 rfl rfl ?_
                refine ZV_zret dX9_crosses_98 rfl (by first | exact Or.inl rfl | exact Or.inr rfl) ?_
                refine ⟨?_, rfl⟩
                first | (rw [decide_eq_true (by omega)]; rfl) | (rw [decide_eq_false (by omega)]; rfl)
              · skip
                refine ZV_iload (n := 85) dX9_crosses_83 rfl rfl ?_
                refine ZV_if_neN (tgt := 97) (n := 88) dX9_crosses_85 (by decide) rfl (by omega) (fun h85 => ?_) (fun h85 => ?_)
                · skip
                  refine ZV_iconst (v := nI 0) (n := 98) dX9_crosses_97 rfl rfl ?_
                  refine ZV_zret dX9_crosses_98 rfl (by first | exact Or.inl rfl | exact Or.inr rfl) ?_
                  refine ⟨?_, rfl⟩
                  first | (rw [decide_eq_true (by omega)]; rfl) | (rw [decide_eq_false (by omega)]; rfl)
                · skip
                  refine ZV_iload (n := 90) dX9_crosses_88 rfl rfl ?_
                  refine ZV_if_neN (tgt := 97) (n := 93) dX9_crosses_90 (by decide) rfl (by omega) (fun h90 => ?_) (fun h90 => ?_)
                  · skip
                    refine ZV_iconst (v := nI 0) (n := 98) dX9_crosses_97 rfl rfl ?_
                    refine ZV_zret dX9_crosses_98 rfl (by first | exact Or.inl rfl | exact Or.inr rfl) ?_
                    refine ⟨?_, rfl⟩
                    first | (rw [decide_eq_true (by omega)]; rfl) | (rw [decide_eq_false (by omega)]; rfl)
                  · skip
                    refine ZV_iconst (v := nI 1) (n := 94) dX9_crosses_93 rfl rfl ?_
                    refine ZV_goto (tgt := 98) dX9_crosses_94 (by decide) ?_
                    refine ZV_zret dX9_crosses_98 rfl (by first | exact Or.inl rfl | exact Or.inr rfl) ?_
                    refine ⟨?_, rfl⟩
                    first | (rw [decide_eq_true (by omega)]; rfl) | (rw [decide_eq_false (by omega)]; rfl)
            · skip
              refine ZV_iconst (v := nI 1) (n := 72) dX9_crosses_71 rfl rfl ?_
              refine ZV_goto (tgt := 76) dX9_crosses_72 (by decide) ?_
              refine ZV_istore_7 (n := 78) dX9_crosses_76 rfl (Nat.le_of_ble_eq_true rfl) rfl ?_
              refine ZV_iload (n := 80) dX9_crosses_78 rfl rfl ?_
              refine ZV_if_neN (tgt := 97) (n := 83) dX9_crosses_80 (by decide) rfl (by omega) (fun h80 => ?_) (fun h80 => ?_)
              · skip
                refine ZV_iconst (v := nI 0) (n := 98) dX9_crosses_97 rfl rfl ?_
                refine ZV_zret dX9_crosses_98 rfl (by first | exact Or.inl rfl | exact Or.inr rfl) ?_
                refine ⟨?_, rfl⟩
                first | (rw [decide_eq_true (by omega)]; rfl) | (rw [decide_eq_false (by omega)]; rfl)
              · skip
                refine ZV_iload (n := 85) dX9_crosses_83 rfl rfl ?_
                refine ZV_if_neN (tgt := 97) (n := 88) dX9_crosses_85 (by decide) rfl (by omega) (fun h85 => ?_) (fun h85 => ?_)
                · skip
                  refine ZV_iconst (v := nI 0) (n := 98) dX9_crosses_97 rfl rfl ?_
                  refine ZV_zret dX9_crosses_98 rfl (by first | exact Or.inl rfl | exact Or.inr rfl) ?_
                  refine ⟨?_, rfl⟩
                  first | (rw [decide_eq_true (by omega)]; rfl) | (rw [decide_eq_false (by omega)]; rfl)
                · skip
                  refine ZV_iload (n := 90) dX9_crosses_88 rfl rfl ?_
                  refine ZV_if_neN (tgt := 97) (n := 93) dX9_crosses_90 (by decide) rfl (by omega) (fun h90 => ?_) (fun h90 => ?_)
                  · skip
                    refine ZV_iconst (v := nI 0) (n := 98) dX9_crosses_97 rfl rfl ?_
                    refine ZV_zret dX9_crosses_98 rfl (by first | exact Or.inl rfl | exact Or.inr rfl) ?_
                    refine ⟨?_, rfl⟩
                    first | (rw [decide_eq_true (by omega)]; rfl) | (rw [decide_eq_false (by omega)]; rfl)
                  · skip
                    refine ZV_iconst (v := nI 1) (n := 94) dX9_crosses_93 rfl rfl ?_
                    refine ZV_goto (tgt := 98) dX9_crosses_94 (by decide) ?_
                    refine ZV_zret dX9_crosses_98 rfl (by first | exact Or.inl rfl | exact Or.inr rfl) ?_
                    refine ⟨?_, rfl⟩
                    first | (rw [decide_eq_true (by omega)]; rfl) | (rw [decide_eq_false (by omega)]; rfl)
        · skip
          refine ZV_iconst (v := nI 1) (n := 51) dX9_crosses_50 rfl rfl ?_
          refine ZV_goto (tgt := 55) dX9_crosses_51 (by decide) ?_
          refine ZV_istore_6 (n := 57) dX9_crosses_55 rfl (Nat.le_of_ble_eq_true rfl) rfl ?_
          refine ZV_aload_n (n := 58) dX9_crosses_57 rfl rfl rfl ?_
          refine ZV_getIv (n := 61) dX9_crosses_58 fl_X9_17 rfl rfl rfl (cf_tk hG t ht).1 (cf_t1 hG t ht) ?_
          refine ZV_iload_n (n := 62) dX9_crosses_61 rfl rfl rfl ?_
          refine ZV_icmp_gtN (tgt := 75) (n := 65) dX9_crosses_62 (by decide) rfl (by omega) (by omega) (fun h62 => ?_) (fun h62 => ?_)
          · skip
            refine ZV_iconst (v := nI 0) (n := 76) dX9_crosses_75 rfl rfl ?_
            refine ZV_istore_7 (n := 78) dX9_crosses_76 rfl (Nat.le_of_ble_eq_true rfl) rfl ?_
            refine ZV_iload (n := 80) dX9_crosses_78 rfl rfl ?_
            refine ZV_if_neN (tgt := 97) (n := 83) dX9_crosses_80 (by decide) rfl (by omega) (fun h80 => ?_) (fun h80 => ?_)
            · skip
              refine ZV_iconst (v := nI 0) (n := 98) dX9_crosses_97 rfl rfl ?_
              refine ZV_zret dX9_crosses_98 rfl (by first | exact Or.inl rfl | exact Or.inr rfl) ?_
              refine ⟨?_, rfl⟩
              first | (rw [decide_eq_true (by omega)]; rfl) | (rw [decide_eq_false (by omega)]; rfl)
            · skip
              refine ZV_iload (n := 85) dX9_crosses_83 rfl rfl ?_
              refine ZV_if_neN (tgt := 97) (n := 88) dX9_crosses_85 (by decide) rfl (by omega) (fun h85 => ?_) (fun h85 => ?_)
              · skip
                refine ZV_iconst (v := nI 0) (n := 98) dX9_crosses_97 rfl rfl ?_
                refine ZV_zret dX9_crosses_98 rfl (by first | exact Or.inl rfl | exact Or.inr rfl) ?_
                refine ⟨?_, rfl⟩
                first | (rw [decide_eq_true (by omega)]; rfl) | (rw [decide_eq_false (by omega)]; rfl)
              · skip
                refine ZV_iload (n := 90) dX9_crosses_88 rfl rfl ?_
                refine ZV_if_neN (tgt := 97) (n := 93) dX9_crosses_90 (by decide) rfl (by omega) (fun h90 => ?_) (fun h90 => ?_)
                · skip
                  refine ZV_iconst (v := nI 0) (n := 98) dX9_crosses_97 rfl rfl ?_
                  refine ZV_zret dX9_crosses_98 rfl (by first | exact Or.inl rfl | exact Or.inr rfl) ?_
                  refine ⟨?_, rfl⟩
                  first | (rw [decide_eq_true (by omega)]; rfl) | (rw [decide_eq_false (by omega)]; rfl)
                · skip
                  refine ZV_iconst (v := nI 1) (n := 94) dX9_crosses_93 rfl rfl ?_
                  refine ZV_goto (tgt := 98) dX9_crosses_94 (by decide) ?_
                  refine ZV_zret dX9_crosses_98 rfl (by first | exact Or.inl rfl | exact Or.inr rfl) ?_
                  refine ⟨?_, rfl⟩
                  first | (rw [decide_eq_true (by omega)]; rfl) | (rw [decide_eq_false (by omega)]; rfl)
          · skip
            refine ZV_iload_n (n := 66) dX9_crosses_65 rfl rfl rfl ?_
            refine ZV_iload (n := 68) dX9_crosses_66 rfl rfl ?_
            refine ZV_icmp_ltN (tgt := 75) (n := 71) dX9_crosses_68 (by decide) rfl (by omega) (by omega) (fun h68 => ?_) (fun h68 => ?_)
            · skip
              refine ZV_iconst (v := nI 0) (n := 76) dX9_crosses_75 rfl rfl ?_
              refine ZV_istore_7 (n := 78) dX9_crosses_76 rfl (Nat.le_of_ble_eq_true rfl) rfl ?_
              refine ZV_iload (n := 80) dX9_crosses_78 rfl rfl ?_
              refine ZV_if_neN (tgt := 97) (n := 83) dX9_crosses_80 (by decide) rfl (by omega) (fun h80 => ?_) (fun h80 => ?_)
              · skip
                refine ZV_iconst (v := nI 0) (n := 98) dX9_crosses_97 rfl rfl ?_
                refine ZV_zret dX9_crosses_98 rfl (by first | exact Or.inl rfl | exact Or.inr rfl) ?_
                refine ⟨?_, rfl⟩
                first | (rw [decide_eq_true (by omega)]; rfl) | (rw [decide_eq_false (by omega)]; rfl)
              · skip
                refine ZV_iload (n := 85) dX9_crosses_83 rfl rfl ?_
                refine ZV_if_neN (tgt := 97) (n := 88) dX9_crosses_85 (by decide) rfl (by omega) (fun h85 => ?_) (fun h85 => ?_)
                · skip
                  refine ZV_iconst (v := nI 0) (n := 98) dX9_crosses_97 rfl rfl ?_
                  refine ZV_zret dX9_crosses_98 rfl (by first | exact Or.inl rfl | exact Or.inr rfl) ?_
                  refine ⟨?_, rfl⟩
                  first | (rw [decide_eq_true (by omega)]; rfl) | (rw [decide_eq_false (by omega)]; rfl)
                · skip
                  refine ZV_iload (n := 90) dX9_crosses_88 rfl rfl ?_
                  refine ZV_if_neN (tgt := 97) (n := 93) dX9_crosses_90 (by decide) rfl (by omega) (fun h90 => ?_) (fun h90 => ?_)
                  · skip
                    refine ZV_iconst (v := nI 0) (n := 98) dX9_crosses_97 rfl rfl ?_
                    refine ZV_zret dX9_crosses_98 rfl (by first | exact Or.inl rfl | exact Or.inr rfl) ?_
                    refine ⟨?_, rfl⟩
                    first | (rw [decide_eq_true (by omega)]; rfl) | (rw [decide_eq_false (by omega)]; rfl)
                  · skip
                    refine ZV_iconst (v := nI 1) (n := 94) dX9_crosses_93 rfl rfl ?_
                    refine ZV_goto (tgt := 98) dX9_crosses_94 (by decide) ?_
                    refine ZV_zret dX9_crosses_98 rfl (by first | exact Or.inl rfl | exact Or.inr rfl) ?_
                    refine ⟨?_, rfl⟩
                    first | (rw [decide_eq_true (by omega)]; rfl) | (rw [decide_eq_false (by omega)]; rfl)
            · skip
              refine ZV_iconst (v := nI 1) (n := 72) dX9_crosses_71 rfl rfl ?_
              refine ZV_goto (tgt := 76) dX9_crosses_72 (by decide) ?_
              refine ZV_istore_7 (n := 78) dX9_crosses_76 rfl (Nat.le_of_ble_eq_true rfl) rfl ?_
              refine ZV_iload (n := 80) dX9_crosses_78 rfl rfl ?_
              refine ZV_if_neN (tgt := 97) (n := 83) dX9_crosses_80 (by decide) rfl (by omega) (fun h80 => ?_) (fun h80 => ?_)
              · skip
                refine ZV_iconst (v := nI 0) (n := 98) dX9_crosses_97 rfl rfl ?_
                refine ZV_zret dX9_crosses_98 rfl (by first | exact Or.inl rfl | exact Or.inr rfl) ?_
                refine ⟨?_, rfl⟩
                first | (rw [decide_eq_true (by omega)]; rfl) | (rw [decide_eq_false (by omega)]; rfl)
              · skip
                refine ZV_iload (n := 85) dX9_crosses_83 rfl rfl ?_
                refine ZV_if_neN (tgt := 97) (n := 88) dX9_crosses_85 (by decide) rfl (by omega) (fun h85 => ?_) (fun h85 => ?_)
                · skip
                  refine ZV_iconst (v := nI 0) (n := 98) dX9_crosses_97 rfl rfl ?_
                  refine ZV_zret dX9_crosses_98 rfl (by first | exact Or.inl rfl | exact Or.inr rfl) ?_
                  refine ⟨?_, rfl⟩
                  first | (rw [decide_eq_true (by omega)]; rfl) | (rw [decide_eq_false (by omega)]; rfl)
                · skip
                  refine ZV_iload (n := 90) dX9_crosses_88 rfl rfl ?_
                  refine ZV_if_neN (tgt := 97) (n := 93) dX9_crosses_90 (by decide) rfl (by omega) (fun h90 => ?_) (fun h90 => ?_)
                  · skip
                    refine ZV_iconst (v := nI 0) (n := 98) dX9_crosses_97 rfl rfl ?_
                    refine ZV_zret dX9_crosses_98 rfl (by first | exact Or.inl rfl | exact Or.inr rfl) ?_
                    refine ⟨?_, rfl⟩
                    first | (rw [decide_eq_true (by omega)]; rfl) | (rw [decide_eq_false (by omega)]; rfl)
                  · skip
                    refine ZV_iconst (v := nI 1) (n := 94) dX9_crosses_93 rfl rfl ?_
                    refine ZV_goto (tgt := 98) dX9_crosses_94 (by decide) ?_
                    refine ZV_zret dX9_crosses_98 rfl (by first | exact Or.inl rfl | exact Or.inr rfl) ?_
                    refine ⟨?_, rfl⟩
                    first | (rw [decide_eq_true (by omega)]; rfl) | (rw [decide_eq_false (by omega)]; rfl)
set_option maxHeartbeats 4000000 in
set_option maxRecDepth 100000 in
theorem e_squeezed {c B : Nat} {σ : ZS} {T : TS} {K : KS} (hG : cG c B σ T K) {t : Nat} (ht : t < g_te T) (hn : 1 ≤ g_tn T t ∧ g_tn T t ≤ 7) (hm : g_tm T t ≤ 8) {x : Nat} (hx : x ≤ 1000000000000000000) : ZC M_X9_squeezed [Ar (some (k_ta K t)), Al (lN x)] σ (fun y9 τ9 => y9 = some (Al (lN (x * g_tm T t / g_tn T t))) ∧ τ9 = σ) := by
  have hxm : x * g_tm T t ≤ 1000000000000000000 * 8 := Nat.mul_le_mul hx hm
  refine ZC_of (ls := [some (Ar (some (k_ta K t))), some (Al (lN x)), none]) (by decide) (Nat.le_of_ble_eq_true rfl) rfl ?_
  refine ZV_aload_n (n := 1) dX9_squeezed_0 rfl rfl rfl ?_
  refine ZV_getIv (n := 4) dX9_squeezed_1 fl_X9_23 rfl rfl rfl (cf_tk hG t ht).1 (cf_tn hG t ht) ?_
  refine ZV_iconst (v := nI 1) (n := 5) dX9_squeezed_4 rfl rfl ?_
  refine ZV_icmp_geN (tgt := 12) (n := 8) dX9_squeezed_5 (by decide) rfl (by omega) (by omega) (fun h5 => ?_) (fun h5 => ?_)
  · skip
    refine ZV_lload_n (n := 13) dX9_squeezed_12 rfl rfl rfl ?_
    refine ZV_aload_n (n := 14) dX9_squeezed_13 rfl rfl rfl ?_
    refine ZV_getIv (n := 17) dX9_squeezed_14 fl_X9_26 rfl rfl rfl (cf_tk hG t ht).1 (cf_tm hG t ht) ?_
    refine ZV_i2lN (n := 18) dX9_squeezed_17 rfl (by omega) ?_
    refine ZV_lmulN (n := 19) dX9_squeezed_18 rfl ?_
    refine ZV_aload_n (n := 20) dX9_squeezed_19 rfl rfl rfl ?_
    refine ZV_getIv (n := 23) dX9_squeezed_20 fl_X9_23 rfl rfl rfl (cf_tk hG t ht).1 (cf_tn hG t ht) ?_
    refine ZV_i2lN (n := 24) dX9_squeezed_23 rfl (by omega) ?_
    refine ZV_ldivN (n := 25) dX9_squeezed_24 rfl (by omega) (by omega) (by omega) ?_
    refine ZV_lret dX9_squeezed_25 rfl ?_
    exact ⟨rfl, rfl⟩
  · skip
    exact absurd h5 (by omega)
set_option maxHeartbeats 4000000 in
set_option maxRecDepth 100000 in
theorem e_tuLike {c B : Nat} {σ : ZS} {T : TS} {K : KS} (hG : cG c B σ T K) {t : Nat} (ht : t < g_te T) {u : Nat} (hu : u < g_te T) (hb : k_t1 K t ≤ 1000 ∧ k_tk K t ≤ 1000) (hb2 : k_t1 K u ≤ 1000 ∧ k_tk K u ≤ 1000) (hn : g_tn T t ≤ 7 ∧ g_tn T u ≤ 7) (hm : g_tm T t ≤ 8 ∧ g_tm T u ≤ 8) (hq : g_tu T t ≤ 5 ∧ g_tu T u ≤ 5) : ZC M_X9_looksLike [Ar (some (k_ta K t)), Ar (some (k_ta K u))] σ (fun y9 τ9 => y9 = some (Ai (bI (decide (g_tn T t = g_tn T u ∧ g_tm T t = g_tm T u ∧ g_tu T t = g_tu T u ∧ k_t1 K t = k_t1 K u ∧ k_tk K t = k_tk K u)))) ∧ τ9 = σ) := by
  refine ZC_of (ls := [some (Ar (some (k_ta K t))), some (Ar (some (k_ta K u)))]) (by decide) (Nat.le_of_ble_eq_true rfl) rfl ?_
  refine ZV_aload_n (n := 1) dX9_looksLike_0 rfl rfl rfl ?_
  refine ZV_getIv (n := 4) dX9_looksLike_1 fl_X9_23 rfl rfl rfl (cf_tk hG t ht).1 (cf_tn hG t ht) ?_
  refine ZV_aload_n (n := 5) dX9_looksLike_4 rfl rfl rfl ?_
  refine ZV_getIv (n := 8) dX9_looksLike_5 fl_X9_23 rfl rfl rfl (cf_tk hG u hu).1 (cf_tn hG u hu) ?_
  refine ZV_icmp_neN (tgt := 59) (n := 11) dX9_looksLike_8 (by decide) rfl (by omega) (by omega) (fun h8 => ?_) (fun h8 => ?_)
  · skip
    refine ZV_iconst (v := nI 0) (n := 60) dX9_looksLike_59 rfl rfl ?_
    refine ZV_zret dX9_looksLike_60 rfl (by first | exact Or.inl rfl | exact Or.inr rfl) ?_
    refine ⟨?_, rfl⟩
    first | (rw [decide_eq_true (by omega)]; rfl) | (rw [decide_eq_false (by omega)]; rfl)
  · skip
    refine ZV_aload_n (n := 12) dX9_looksLike_11 rfl rfl rfl ?_
    refine ZV_getIv (n := 15) dX9_looksLike_12 fl_X9_26 rfl rfl rfl (cf_tk hG t ht).1 (cf_tm hG t ht) ?_
    refine ZV_aload_n (n := 16) dX9_looksLike_15 rfl rfl rfl ?_
    refine ZV_getIv (n := 19) dX9_looksLike_16 fl_X9_26 rfl rfl rfl (cf_tk hG u hu).1 (cf_tm hG u hu) ?_
    refine ZV_icmp_neN (tgt := 59) (n := 22) dX9_looksLike_19 (by decide) rfl (by omega) (by omega) (fun h19 => ?_) (fun h19 => ?_)
    · skip
      refine ZV_iconst (v := nI 0) (n := 60) dX9_looksLike_59 rfl rfl ?_
      refine ZV_zret dX9_looksLike_60 rfl (by first | exact Or.inl rfl | exact Or.inr rfl) ?_
      refine ⟨?_, rfl⟩
      first | (rw [decide_eq_true (by omega)]; rfl) | (rw [decide_eq_false (by omega)]; rfl)
    · skip
      refine ZV_aload_n (n := 23) dX9_looksLike_22 rfl rfl rfl ?_
      refine ZV_getIv (n := 26) dX9_looksLike_23 fl_X9_29 rfl rfl rfl (cf_tk hG t ht).1 (cf_tu hG t ht) ?_
      refine ZV_aload_n (n := 27) dX9_looksLike_26 rfl rfl rfl ?_
      refine ZV_getIv (n := 30) dX9_looksLike_27 fl_X9_29 rfl rfl rfl (cf_tk hG u hu).1 (cf_tu hG u hu) ?_
      refine ZV_icmp_neN (tgt := 59) (n := 33) dX9_looksLike_30 (by decide) rfl (by omega) (by omega) (fun h30 => ?_) (fun h30 => ?_)
      · skip
        refine ZV_iconst (v := nI 0) (n := 60) dX9_looksLike_59 rfl rfl ?_
        refine ZV_zret dX9_looksLike_60 rfl (by first | exact Or.inl rfl | exact Or.inr rfl) ?_
        refine ⟨?_, rfl⟩
        first | (rw [decide_eq_true (by omega)]; rfl) | (rw [decide_eq_false (by omega)]; rfl)
      · skip
        refine ZV_aload_n (n := 34) dX9_looksLike_33 rfl rfl rfl ?_
        refine ZV_getIv (n := 37) dX9_looksLike_34 fl_X9_17 rfl rfl rfl (cf_tk hG t ht).1 (cf_t1 hG t ht) ?_
        refine ZV_aload_n (n := 38) dX9_looksLike_37 rfl rfl rfl ?_
        refine ZV_getIv (n := 41) dX9_looksLike_38 fl_X9_17 rfl rfl rfl (cf_tk hG u hu).1 (cf_t1 hG u hu) ?_
        refine ZV_icmp_neN (tgt := 59) (n := 44) dX9_looksLike_41 (by decide) rfl (by omega) (by omega) (fun h41 => ?_) (fun h41 => ?_)
        · skip
          refine ZV_iconst (v := nI 0) (n := 60) dX9_looksLike_59 rfl rfl ?_
          refine ZV_zret dX9_looksLike_60 rfl (by first | exact Or.inl rfl | exact Or.inr rfl) ?_
          refine ⟨?_, rfl⟩
          first | (rw [decide_eq_true (by omega)]; rfl) | (rw [decide_eq_false (by omega)]; rfl)
        · skip
          refine ZV_aload_n (n := 45) dX9_looksLike_44 rfl rfl rfl ?_
          refine ZV_getIv (n := 48) dX9_looksLike_45 fl_X9_20 rfl rfl rfl (cf_tk hG t ht).1 (cf_t2 hG t ht) ?_
          refine ZV_aload_n (n := 49) dX9_looksLike_48 rfl rfl rfl ?_
          refine ZV_getIv (n := 52) dX9_looksLike_49 fl_X9_20 rfl rfl rfl (cf_tk hG u hu).1 (cf_t2 hG u hu) ?_
          refine ZV_icmp_neN (tgt := 59) (n := 55) dX9_looksLike_52 (by decide) rfl (by omega) (by omega) (fun h52 => ?_) (fun h52 => ?_)
          · skip
            refine ZV_iconst (v := nI 0) (n := 60) dX9_looksLike_59 rfl rfl ?_
            refine ZV_zret dX9_looksLike_60 rfl (by first | exact Or.inl rfl | exact Or.inr rfl) ?_
            refine ⟨?_, rfl⟩
            first | (rw [decide_eq_true (by omega)]; rfl) | (rw [decide_eq_false (by omega)]; rfl)
          · skip
            refine ZV_iconst (v := nI 1) (n := 56) dX9_looksLike_55 rfl rfl ?_
            refine ZV_goto (tgt := 60) dX9_looksLike_56 (by decide) ?_
            refine ZV_zret dX9_looksLike_60 rfl (by first | exact Or.inl rfl | exact Or.inr rfl) ?_
            refine ⟨?_, rfl⟩
            first | (rw [decide_eq_true (by omega)]; rfl) | (rw [decide_eq_false (by omega)]; rfl)
def raB (T : TS) (K : KS) (l e : Nat) : Bool := (decide (g_lk T l = 2) && match g_lo T l with
  | none => false
  | some f => decide (g_vo T (g_lf T l) = g_vo T e ∧ g_vo T f = g_vo T e ∧ k_pl K (g_lf T l) ≤ k_pl K e ∧ k_pl K e ≤ k_pl K f))
set_option maxHeartbeats 4000000 in
set_option maxRecDepth 100000 in
theorem e_raises {c B : Nat} {σ : ZS} {T : TS} {K : KS} (hG : cG c B σ T K) {l e : Nat} (hl : l < g_le T) (hlt : g_lt T l = true) (he : e < g_ev T) (hve : g_vo T e < 3 * g_np T) (hk : g_lk T l ≤ 3) (hpe : k_pl K e ≤ 1000) (hlf : g_lf T l < g_ev T ∧ g_vo T (g_lf T l) < 3 * g_np T ∧ k_pl K (g_lf T l) ≤ 1000) (hlo : ∀ f, g_lo T l = some f → f < g_ev T ∧ g_vo T f < 3 * g_np T ∧ k_pl K f ≤ 1000) : ZC M_X4_raises [Ar (some (k_la K l)), Ar (some (k_ea K e))] σ (fun y9 τ9 => y9 = some (Ai (bI (raB T K l e))) ∧ τ9 = σ) := by
  refine ZC_of (ls := [some (Ar (some (k_la K l))), some (Ar (some (k_ea K e)))]) (by decide) (Nat.le_of_ble_eq_true rfl) rfl ?_
  refine ZV_aload_n (n := 1) dX4_raises_0 rfl rfl rfl ?_
  refine ZV_getIv (n := 4) dX4_raises_1 fl_X4_9 rfl rfl rfl (cf_lk hG l hl).1 (cf_lj hG l hl) ?_
  refine ZV_iconst (v := nI 2) (n := 5) dX4_raises_4 rfl rfl ?_
  refine ZV_icmp_neN (tgt := 75) (n := 8) dX4_raises_5 (by decide) rfl (by omega) (by omega) (fun h5 => ?_) (fun h5 => ?_)
  · skip
    refine ZV_iconst (v := nI 0) (n := 76) dX4_raises_75 rfl rfl ?_
    refine ZV_zret dX4_raises_76 rfl (by first | exact Or.inl rfl | exact Or.inr rfl) ?_
    refine ⟨?_, rfl⟩
    unfold raB
    rw [decide_eq_false h5]
    rfl
  · skip
    refine ZV_aload_n (n := 9) dX4_raises_8 rfl rfl rfl ?_
    rcases h9o : g_lo T l with _ | o9
    · skip
      refine ZV_getRv (w := none) (n := 12) dX4_raises_9 fl_X4_19 rfl rfl rfl (cf_lk hG l hl).1 (Eq.trans (cf_lo hG l hl (by assumption)) (by rw [h9o]; rfl)) ?_
      refine ZV_ifnull_n (tgt := 75) dX4_raises_12 (by decide) ?_
      refine ZV_iconst (v := nI 0) (n := 76) dX4_raises_75 rfl rfl ?_
      refine ZV_zret dX4_raises_76 rfl (by first | exact Or.inl rfl | exact Or.inr rfl) ?_
      refine ⟨?_, rfl⟩
      unfold raB
      rw [h9o, Bool.and_false]
      rfl
    · skip
      have hf9 := hlo o9 h9o
      refine ZV_getRv (w := some (k_ea K o9)) (n := 12) dX4_raises_9 fl_X4_19 rfl rfl rfl (cf_lk hG l hl).1 (Eq.trans (cf_lo hG l hl (by assumption)) (by rw [h9o]; rfl)) ?_
      refine ZV_ifnull_s (tgt := 75) (n := 15) dX4_raises_12 (by decide) rfl ?_
      refine ZV_aload_n (n := 16) dX4_raises_15 rfl rfl rfl ?_
      refine ZV_getRv (n := 19) dX4_raises_16 fl_X4_15 rfl rfl rfl (cf_lk hG l hl).1 (cf_lf hG l hl (by assumption)) ?_
      refine ZV_getRv (n := 22) dX4_raises_19 fl_X4_22 rfl rfl rfl (cf_ek hG (g_lf T l) hlf.1).1 (cf_eo hG (g_lf T l) hlf.1) ?_
      refine ZV_aload_n (n := 23) dX4_raises_22 rfl rfl rfl ?_
      refine ZV_getRv (n := 26) dX4_raises_23 fl_X4_22 rfl rfl rfl (cf_ek hG e he).1 (cf_eo hG e he) ?_
      refine ZV_acmp_neI (i := (g_vo T (g_lf T l))) (j := (g_vo T e)) (tgt := 75) (n := 29) dX4_raises_26 (by decide) rfl (va_inj hG hlf.2.1 hve) (fun q => congrArg (k_va K) q) (fun h26 => ?_) (fun h26 => ?_)
      · skip
        refine ZV_iconst (v := nI 0) (n := 76) dX4_raises_75 rfl rfl ?_
        refine ZV_zret dX4_raises_76 rfl (by first | exact Or.inl rfl | exact Or.inr rfl) ?_
        refine ⟨?_, rfl⟩
        unfold raB
        rw [h9o, decide_eq_true h5, Bool.true_and]
        first | (rw [show (match some o9 with | none => false | some f => decide (g_vo T (g_lf T l) = g_vo T e ∧ g_vo T f = g_vo T e ∧ k_pl K (g_lf T l) ≤ k_pl K e ∧ k_pl K e ≤ k_pl K f)) = true from decide_eq_true (by omega)]; rfl) | (rw [show (match some o9 with | none => false | some f => decide (g_vo T (g_lf T l) = g_vo T e ∧ g_vo T f = g_vo T e ∧ k_pl K (g_lf T l) ≤ k_pl K e ∧ k_pl K e ≤ k_pl K f)) = false from decide_eq_false (by omega)]; rfl)
      · skip
        refine ZV_aload_n (n := 30) dX4_raises_29 rfl rfl rfl ?_
        refine ZV_getRv (w := some (k_ea K o9)) (n := 33) dX4_raises_30 fl_X4_19 rfl rfl rfl (cf_lk hG l hl).1 ((cf_lo hG l hl hlt).trans (by rw [h9o]; rfl)) ?_
        refine ZV_getRv (n := 36) dX4_raises_33 fl_X4_22 rfl rfl rfl (cf_ek hG o9 hf9.1).1 (cf_eo hG o9 hf9.1) ?_
        refine ZV_aload_n (n := 37) dX4_raises_36 rfl rfl rfl ?_
        refine ZV_getRv (n := 40) dX4_raises_37 fl_X4_22 rfl rfl rfl (cf_ek hG e he).1 (cf_eo hG e he) ?_
        refine ZV_acmp_neI (i := (g_vo T o9)) (j := (g_vo T e)) (tgt := 75) (n := 43) dX4_raises_40 (by decide) rfl (va_inj hG hf9.2.1 hve) (fun q => congrArg (k_va K) q) (fun h40 => ?_) (fun h40 => ?_)
        · skip
          refine ZV_iconst (v := nI 0) (n := 76) dX4_raises_75 rfl rfl ?_
          refine ZV_zret dX4_raises_76 rfl (by first | exact Or.inl rfl | exact Or.inr rfl) ?_
          refine ⟨?_, rfl⟩
          unfold raB
          rw [h9o, decide_eq_true h5, Bool.true_and]
          first | (rw [show (match some o9 with | none => false | some f => decide (g_vo T (g_lf T l) = g_vo T e ∧ g_vo T f = g_vo T e ∧ k_pl K (g_lf T l) ≤ k_pl K e ∧ k_pl K e ≤ k_pl K f)) = true from decide_eq_true (by omega)]; rfl) | (rw [show (match some o9 with | none => false | some f => decide (g_vo T (g_lf T l) = g_vo T e ∧ g_vo T f = g_vo T e ∧ k_pl K (g_lf T l) ≤ k_pl K e ∧ k_pl K e ≤ k_pl K f)) = false from decide_eq_false (by omega)]; rfl)
        · skip
          refine ZV_aload_n (n := 44) dX4_raises_43 rfl rfl rfl ?_
          refine ZV_getRv (n := 47) dX4_raises_44 fl_X4_15 rfl rfl rfl (cf_lk hG l hl).1 (cf_lf hG l hl (by assumption)) ?_
          refine ZV_getIv (n := 50) dX4_raises_47 fl_X4_28 rfl rfl rfl (cf_ek hG (g_lf T l) hlf.1).1 (cf_el hG (g_lf T l) hlf.1) ?_
          refine ZV_aload_n (n := 51) dX4_raises_50 rfl rfl rfl ?_
          refine ZV_getIv (n := 54) dX4_raises_51 fl_X4_28 rfl rfl rfl (cf_ek hG e he).1 (cf_el hG e he) ?_
          refine ZV_icmp_gtN (tgt := 75) (n := 57) dX4_raises_54 (by decide) rfl (by omega) (by omega) (fun h54 => ?_) (fun h54 => ?_)
          · skip
            refine ZV_iconst (v := nI 0) (n := 76) dX4_raises_75 rfl rfl ?_
            refine ZV_zret dX4_raises_76 rfl (by first | exact Or.inl rfl | exact Or.inr rfl) ?_
            refine ⟨?_, rfl⟩
            unfold raB
            rw [h9o, decide_eq_true h5, Bool.true_and]
            first | (rw [show (match some o9 with | none => false | some f => decide (g_vo T (g_lf T l) = g_vo T e ∧ g_vo T f = g_vo T e ∧ k_pl K (g_lf T l) ≤ k_pl K e ∧ k_pl K e ≤ k_pl K f)) = true from decide_eq_true (by omega)]; rfl) | (rw [show (match some o9 with | none => false | some f => decide (g_vo T (g_lf T l) = g_vo T e ∧ g_vo T f = g_vo T e ∧ k_pl K (g_lf T l) ≤ k_pl K e ∧ k_pl K e ≤ k_pl K f)) = false from decide_eq_false (by omega)]; rfl)
          · skip
            refine ZV_aload_n (n := 58) dX4_raises_57 rfl rfl rfl ?_
            refine ZV_getIv (n := 61) dX4_raises_58 fl_X4_28 rfl rfl rfl (cf_ek hG e he).1 (cf_el hG e he) ?_
            refine ZV_aload_n (n := 62) dX4_raises_61 rfl rfl rfl ?_
            refine ZV_getRv (w := some (k_ea K o9)) (n := 65) dX4_raises_62 fl_X4_19 rfl rfl rfl (cf_lk hG l hl).1 ((cf_lo hG l hl hlt).trans (by rw [h9o]; rfl)) ?_
            refine ZV_getIv (n := 68) dX4_raises_65 fl_X4_28 rfl rfl rfl (cf_ek hG o9 hf9.1).1 (cf_el hG o9 hf9.1) ?_
            refine ZV_icmp_gtN (tgt := 75) (n := 71) dX4_raises_68 (by decide) rfl (by omega) (by omega) (fun h68 => ?_) (fun h68 => ?_)
            · skip
              refine ZV_iconst (v := nI 0) (n := 76) dX4_raises_75 rfl rfl ?_
              refine ZV_zret dX4_raises_76 rfl (by first | exact Or.inl rfl | exact Or.inr rfl) ?_
              refine ⟨?_, rfl⟩
              unfold raB
              rw [h9o, decide_eq_true h5, Bool.true_and]
              first | (rw [show (match some o9 with | none => false | some f => decide (g_vo T (g_lf T l) = g_vo T e ∧ g_vo T f = g_vo T e ∧ k_pl K (g_lf T l) ≤ k_pl K e ∧ k_pl K e ≤ k_pl K f)) = true from decide_eq_true (by omega)]; rfl) | (rw [show (match some o9 with | none => false | some f => decide (g_vo T (g_lf T l) = g_vo T e ∧ g_vo T f = g_vo T e ∧ k_pl K (g_lf T l) ≤ k_pl K e ∧ k_pl K e ≤ k_pl K f)) = false from decide_eq_false (by omega)]; rfl)
            · skip
              refine ZV_iconst (v := nI 1) (n := 72) dX4_raises_71 rfl rfl ?_
              refine ZV_goto (tgt := 76) dX4_raises_72 (by decide) ?_
              refine ZV_zret dX4_raises_76 rfl (by first | exact Or.inl rfl | exact Or.inr rfl) ?_
              refine ⟨?_, rfl⟩
              unfold raB
              rw [h9o, decide_eq_true h5, Bool.true_and]
              first | (rw [show (match some o9 with | none => false | some f => decide (g_vo T (g_lf T l) = g_vo T e ∧ g_vo T f = g_vo T e ∧ k_pl K (g_lf T l) ≤ k_pl K e ∧ k_pl K e ≤ k_pl K f)) = true from decide_eq_true (by omega)]; rfl) | (rw [show (match some o9 with | none => false | some f => decide (g_vo T (g_lf T l) = g_vo T e ∧ g_vo T f = g_vo T e ∧ k_pl K (g_lf T l) ≤ k_pl K e ∧ k_pl K e ≤ k_pl K f)) = false from decide_eq_false (by omega)]; rfl)
set_option maxHeartbeats 4000000 in
set_option maxRecDepth 100000 in
theorem e_hasR {c B : Nat} {σ : ZS} {T : TS} {K : KS} (hG : cG c B σ T K) {r : Nat} (h4 : r < 4) (hh : g_hr T r = true) (hb : g_rs T r ≤ 60) (i : Int32) : ZC M_X8_has [Ar (some (k_wa K r)), Ai i] σ (fun y9 τ9 => y9 = some (Ai (bI (inB i (g_rs T r)))) ∧ τ9 = σ) := by
  refine ZC_of (ls := [some (Ar (some (k_wa K r))), some (Ai i)]) (by decide) (Nat.le_of_ble_eq_true rfl) rfl ?_
  refine ZV_iload_n (n := 1) dX8_has_0 rfl rfl rfl ?_
  refine ZV_if_lt (tgt := 17) (n := 4) dX8_has_1 (by decide) rfl (fun h1 => ?_) (fun h1 => ?_)
  · skip
    refine ZV_iconst (v := nI 0) (n := 18) dX8_has_17 rfl rfl ?_
    refine ZV_zret dX8_has_18 rfl (by first | exact Or.inl rfl | exact Or.inr rfl) ?_
    refine ⟨?_, rfl⟩
    first | (rw [inB_lt0 _ h1]; rfl) | (rw [inB_ge (by omega) (Int32.not_lt.mpr h10)]; rfl) | (rw [inB_ok (by omega) h1 (Int32.not_le.mp h10)]; rfl)
  · skip
    refine ZV_iload_n (n := 5) dX8_has_4 rfl rfl rfl ?_
    refine ZV_aload_n (n := 6) dX8_has_5 rfl rfl rfl ?_
    refine ZV_getRv (n := 9) dX8_has_6 fl_X8_19 rfl rfl rfl (cf_rk hG r h4 hh).1 (cf_rt hG r h4 hh) ?_
    refine ZV_alen (t := 0) (n := 10) dX8_has_9 rfl rfl (cf_rk hG r h4 hh).2.1 (by decide) ?_
    refine ZV_icmp_ge (tgt := 17) (n := 13) dX8_has_10 (by decide) rfl (fun h10 => ?_) (fun h10 => ?_)
    · skip
      refine ZV_iconst (v := nI 0) (n := 18) dX8_has_17 rfl rfl ?_
      refine ZV_zret dX8_has_18 rfl (by first | exact Or.inl rfl | exact Or.inr rfl) ?_
      refine ⟨?_, rfl⟩
      first | (rw [inB_lt0 _ h1]; rfl) | (rw [inB_ge (by omega) (Int32.not_lt.mpr h10)]; rfl) | (rw [inB_ok (by omega) h1 (Int32.not_le.mp h10)]; rfl)
    · skip
      refine ZV_iconst (v := nI 1) (n := 14) dX8_has_13 rfl rfl ?_
      refine ZV_goto (tgt := 18) dX8_has_14 (by decide) ?_
      refine ZV_zret dX8_has_18 rfl (by first | exact Or.inl rfl | exact Or.inr rfl) ?_
      refine ⟨?_, rfl⟩
      first | (rw [inB_lt0 _ h1]; rfl) | (rw [inB_ge (by omega) (Int32.not_lt.mpr h10)]; rfl) | (rw [inB_ok (by omega) h1 (Int32.not_le.mp h10)]; rfl)
set_option maxHeartbeats 4000000 in
set_option maxRecDepth 100000 in
theorem e_hasAllR {c B : Nat} {σ : ZS} {T : TS} {K : KS} (hG : cG c B σ T K) {r : Nat} (h4 : r < 4) (hh : g_hr T r = true) (hb : g_rs T r ≤ 60) (i n : Int32) : ZC M_X8_hasAll [Ar (some (k_wa K r)), Ai i, Ai n] σ (fun y9 τ9 => y9 = some (Ai (bI (thB i n (g_rs T r)))) ∧ τ9 = σ) := by
  refine ZC_of (ls := [some (Ar (some (k_wa K r))), some (Ai i), some (Ai n)]) (by decide) (Nat.le_of_ble_eq_true rfl) rfl ?_
  refine ZV_iload_n (n := 1) dX8_hasAll_0 rfl rfl rfl ?_
  refine ZV_if_lt (tgt := 23) (n := 4) dX8_hasAll_1 (by decide) rfl (fun h1 => ?_) (fun h1 => ?_)
  · skip
    refine ZV_iconst (v := nI 0) (n := 24) dX8_hasAll_23 rfl rfl ?_
    refine ZV_zret dX8_hasAll_24 rfl (by first | exact Or.inl rfl | exact Or.inr rfl) ?_
    refine ⟨?_, rfl⟩
    unfold thB
    simp only [Int32.lt_iff_toInt_lt, Int32.le_iff_toInt_le, i32_0] at *
    first | (rw [decide_eq_true (by omega)]; rfl) | (rw [decide_eq_false (by omega)]; rfl)
  · skip
    refine ZV_iload_n (n := 5) dX8_hasAll_4 rfl rfl rfl ?_
    refine ZV_if_lt (tgt := 23) (n := 8) dX8_hasAll_5 (by decide) rfl (fun h5 => ?_) (fun h5 => ?_)
    · skip
      refine ZV_iconst (v := nI 0) (n := 24) dX8_hasAll_23 rfl rfl ?_
      refine ZV_zret dX8_hasAll_24 rfl (by first | exact Or.inl rfl | exact Or.inr rfl) ?_
      refine ⟨?_, rfl⟩
      unfold thB
      simp only [Int32.lt_iff_toInt_lt, Int32.le_iff_toInt_le, i32_0] at *
      first | (rw [decide_eq_true (by omega)]; rfl) | (rw [decide_eq_false (by omega)]; rfl)
    · skip
      refine ZV_iload_n (n := 9) dX8_hasAll_8 rfl rfl rfl ?_
      refine ZV_aload_n (n := 10) dX8_hasAll_9 rfl rfl rfl ?_
      refine ZV_getRv (n := 13) dX8_hasAll_10 fl_X8_19 rfl rfl rfl (cf_rk hG r h4 hh).1 (cf_rt hG r h4 hh) ?_
      refine ZV_alen (t := 0) (n := 14) dX8_hasAll_13 rfl rfl (cf_rk hG r h4 hh).2.1 (by decide) ?_
      refine ZV_iload_n (n := 15) dX8_hasAll_14 rfl rfl rfl ?_
      have hsub : n.toInt ≥ 0 → (nI (g_rs T r) - n).toInt = (g_rs T r : Int) - n.toInt := fun hn => by
        have := n.toInt_lt
        rw [Int32.toInt_sub, nI_toInt (by omega)]
        rw [Int.bmod_eq_of_le] <;> omega
      refine ZV_isub (n := 16) dX8_hasAll_15 rfl ?_
      refine ZV_icmp_gt (tgt := 23) (n := 19) dX8_hasAll_16 (by decide) rfl (fun h16 => ?_) (fun h16 => ?_)
      · skip
        refine ZV_iconst (v := nI 0) (n := 24) dX8_hasAll_23 rfl rfl ?_
        refine ZV_zret dX8_hasAll_24 rfl (by first | exact Or.inl rfl | exact Or.inr rfl) ?_
        refine ⟨?_, rfl⟩
        unfold thB
        simp only [Int32.lt_iff_toInt_lt, Int32.le_iff_toInt_le, i32_0] at *
        have hsub := hsub (by omega)
        first | (rw [decide_eq_true (by omega)]; rfl) | (rw [decide_eq_false (by omega)]; rfl)
      · skip
        refine ZV_iconst (v := nI 1) (n := 20) dX8_hasAll_19 rfl rfl ?_
        refine ZV_goto (tgt := 24) dX8_hasAll_20 (by decide) ?_
        refine ZV_zret dX8_hasAll_24 rfl (by first | exact Or.inl rfl | exact Or.inr rfl) ?_
        refine ⟨?_, rfl⟩
        unfold thB
        simp only [Int32.lt_iff_toInt_lt, Int32.le_iff_toInt_le, i32_0] at *
        have hsub := hsub (by omega)
        first | (rw [decide_eq_true (by omega)]; rfl) | (rw [decide_eq_false (by omega)]; rfl)
set_option maxHeartbeats 4000000 in
set_option maxRecDepth 100000 in
theorem e_hasS {c B : Nat} {σ : ZS} {T : TS} {K : KS} (hG : cG c B σ T K) {r : Nat} (h4 : r < 4) (hh : g_hs T r = true) (hb : g_ss T r ≤ 60) (i : Int32) : ZC M_X8_has [Ar (some (k_wa K (r + 4))), Ai i] σ (fun y9 τ9 => y9 = some (Ai (bI (inB i (g_ss T r)))) ∧ τ9 = σ) := by
  refine ZC_of (ls := [some (Ar (some (k_wa K (r + 4)))), some (Ai i)]) (by decide) (Nat.le_of_ble_eq_true rfl) rfl ?_
  refine ZV_iload_n (n := 1) dX8_has_0 rfl rfl rfl ?_
  refine ZV_if_lt (tgt := 17) (n := 4) dX8_has_1 (by decide) rfl (fun h1 => ?_) (fun h1 => ?_)
  · skip
    refine ZV_iconst (v := nI 0) (n := 18) dX8_has_17 rfl rfl ?_
    refine ZV_zret dX8_has_18 rfl (by first | exact Or.inl rfl | exact Or.inr rfl) ?_
    refine ⟨?_, rfl⟩
    first | (rw [inB_lt0 _ h1]; rfl) | (rw [inB_ge (by omega) (Int32.not_lt.mpr h10)]; rfl) | (rw [inB_ok (by omega) h1 (Int32.not_le.mp h10)]; rfl)
  · skip
    refine ZV_iload_n (n := 5) dX8_has_4 rfl rfl rfl ?_
    refine ZV_aload_n (n := 6) dX8_has_5 rfl rfl rfl ?_
    refine ZV_getRv (n := 9) dX8_has_6 fl_X8_19 rfl rfl rfl (cf_sk hG r h4 hh).1 (cf_st hG r h4 hh) ?_
    refine ZV_alen (t := 0) (n := 10) dX8_has_9 rfl rfl (cf_sk hG r h4 hh).2.1 (by decide) ?_
    refine ZV_icmp_ge (tgt := 17) (n := 13) dX8_has_10 (by decide) rfl (fun h10 => ?_) (fun h10 => ?_)
    · skip
      refine ZV_iconst (v := nI 0) (n := 18) dX8_has_17 rfl rfl ?_
      refine ZV_zret dX8_has_18 rfl (by first | exact Or.inl rfl | exact Or.inr rfl) ?_
      refine ⟨?_, rfl⟩
      first | (rw [inB_lt0 _ h1]; rfl) | (rw [inB_ge (by omega) (Int32.not_lt.mpr h10)]; rfl) | (rw [inB_ok (by omega) h1 (Int32.not_le.mp h10)]; rfl)
    · skip
      refine ZV_iconst (v := nI 1) (n := 14) dX8_has_13 rfl rfl ?_
      refine ZV_goto (tgt := 18) dX8_has_14 (by decide) ?_
      refine ZV_zret dX8_has_18 rfl (by first | exact Or.inl rfl | exact Or.inr rfl) ?_
      refine ⟨?_, rfl⟩
      first | (rw [inB_lt0 _ h1]; rfl) | (rw [inB_ge (by omega) (Int32.not_lt.mpr h10)]; rfl) | (rw [inB_ok (by omega) h1 (Int32.not_le.mp h10)]; rfl)
set_option maxHeartbeats 4000000 in
set_option maxRecDepth 100000 in
theorem e_hasAllS {c B : Nat} {σ : ZS} {T : TS} {K : KS} (hG : cG c B σ T K) {r : Nat} (h4 : r < 4) (hh : g_hs T r = true) (hb : g_ss T r ≤ 60) (i n : Int32) : ZC M_X8_hasAll [Ar (some (k_wa K (r + 4))), Ai i, Ai n] σ (fun y9 τ9 => y9 = some (Ai (bI (thB i n (g_ss T r)))) ∧ τ9 = σ) := by
  refine ZC_of (ls := [some (Ar (some (k_wa K (r + 4)))), some (Ai i), some (Ai n)]) (by decide) (Nat.le_of_ble_eq_true rfl) rfl ?_
  refine ZV_iload_n (n := 1) dX8_hasAll_0 rfl rfl rfl ?_
  refine ZV_if_lt (tgt := 23) (n := 4) dX8_hasAll_1 (by decide) rfl (fun h1 => ?_) (fun h1 => ?_)
  · skip
    refine ZV_iconst (v := nI 0) (n := 24) dX8_hasAll_23 rfl rfl ?_
    refine ZV_zret dX8_hasAll_24 rfl (by first | exact Or.inl rfl | exact Or.inr rfl) ?_
    refine ⟨?_, rfl⟩
    unfold thB
    simp only [Int32.lt_iff_toInt_lt, Int32.le_iff_toInt_le, i32_0] at *
    first | (rw [decide_eq_true (by omega)]; rfl) | (rw [decide_eq_false (by omega)]; rfl)
  · skip
    refine ZV_iload_n (n := 5) dX8_hasAll_4 rfl rfl rfl ?_
    refine ZV_if_lt (tgt := 23) (n := 8) dX8_hasAll_5 (by decide) rfl (fun h5 => ?_) (fun h5 => ?_)
    · skip
      refine ZV_iconst (v := nI 0) (n := 24) dX8_hasAll_23 rfl rfl ?_
      refine ZV_zret dX8_hasAll_24 rfl (by first | exact Or.inl rfl | exact Or.inr rfl) ?_
      refine ⟨?_, rfl⟩
      unfold thB
      simp only [Int32.lt_iff_toInt_lt, Int32.le_iff_toInt_le, i32_0] at *
      first | (rw [decide_eq_true (by omega)]; rfl) | (rw [decide_eq_false (by omega)]; rfl)
    · skip
      refine ZV_iload_n (n := 9) dX8_hasAll_8 rfl rfl rfl ?_
      refine ZV_aload_n (n := 10) dX8_hasAll_9 rfl rfl rfl ?_
      refine ZV_getRv (n := 13) dX8_hasAll_10 fl_X8_19 rfl rfl rfl (cf_sk hG r h4 hh).1 (cf_st hG r h4 hh) ?_
      refine ZV_alen (t := 0) (n := 14) dX8_hasAll_13 rfl rfl (cf_sk hG r h4 hh).2.1 (by decide) ?_
      refine ZV_iload_n (n := 15) dX8_hasAll_14 rfl rfl rfl ?_
      have hsub : n.toInt ≥ 0 → (nI (g_ss T r) - n).toInt = (g_ss T r : Int) - n.toInt := fun hn => by
        have := n.toInt_lt
        rw [Int32.toInt_sub, nI_toInt (by omega)]
        rw [Int.bmod_eq_of_le] <;> omega
      refine ZV_isub (n := 16) dX8_hasAll_15 rfl ?_
      refine ZV_icmp_gt (tgt := 23) (n := 19) dX8_hasAll_16 (by decide) rfl (fun h16 => ?_) (fun h16 => ?_)
      · skip
        refine ZV_iconst (v := nI 0) (n := 24) dX8_hasAll_23 rfl rfl ?_
        refine ZV_zret dX8_hasAll_24 rfl (by first | exact Or.inl rfl | exact Or.inr rfl) ?_
        refine ⟨?_, rfl⟩
        unfold thB
        simp only [Int32.lt_iff_toInt_lt, Int32.le_iff_toInt_le, i32_0] at *
        have hsub := hsub (by omega)
        first | (rw [decide_eq_true (by omega)]; rfl) | (rw [decide_eq_false (by omega)]; rfl)
      · skip
        refine ZV_iconst (v := nI 1) (n := 20) dX8_hasAll_19 rfl rfl ?_
        refine ZV_goto (tgt := 24) dX8_hasAll_20 (by decide) ?_
        refine ZV_zret dX8_hasAll_24 rfl (by first | exact Or.inl rfl | exact Or.inr rfl) ?_
        refine ⟨?_, rfl⟩
        unfold thB
        simp only [Int32.lt_iff_toInt_lt, Int32.le_iff_toInt_le, i32_0] at *
        have hsub := hsub (by omega)
        first | (rw [decide_eq_true (by omega)]; rfl) | (rw [decide_eq_false (by omega)]; rfl)
