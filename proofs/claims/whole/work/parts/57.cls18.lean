theorem lowB_p {k p : Nat} (hp : p ≤ 127) : lowB k (nI p) = nI p := by
  have h0 : ∀ q : Fin 128, (nI q.1).toInt8.toInt32 = nI q.1 := by decide +kernel
  have h1 : ∀ q : Fin 128, (nI q.1).toInt16.toInt32 = nI q.1 := by decide +kernel
  have h2 : ∀ q : Fin 128, nI q.1 &&& nI 65535 = nI q.1 := by decide +kernel
  unfold lowB
  split
  · exact h0 ⟨p, by omega⟩
  · split
    · exact h1 ⟨p, by omega⟩
    · split
      · exact h2 ⟨p, by omega⟩
      · rfl
theorem lays_su (T : TS) (o : Option Nat) (s : Nat) (p : Int) : (sp_lays (h_su T 0) o s p).1 = (sp_lays T o s p).1 ∧ ((sp_lays T o s p).1 = false → (sp_lays (h_su T 0) o s p).2 = (sp_lays T o s p).2) ∧ ((sp_lays T o s p).1 = true → (sp_lays (h_su T 0) o s p).2 = h_su (sp_lays T o s p).2 0) := by
  cases o with
  | none => exact ⟨rfl, fun _ => rfl, fun h => by cases h⟩
  | some e =>
    unfold sp_lays
    show (if noB T e = false then (false, (sFl (h_su T 0) 2 (-13) (-13)).2) else if g_hs T s = false then (false, (sFl (h_su T 0) 0 (-11) (-11)).2) else if 0 ≤ p ∧ p < (g_ss T s : Int) then (true, h_sr (h_su T 0) (va_u2 (g_sr T) s (va_up (g_sr T s) p.toNat (g_pi T e 0)))) else (false, (sFl (h_su T 0) 1 (-12) (-12)).2)).1 = (if noB T e = false then (false, (sFl T 2 (-13) (-13)).2) else if g_hs T s = false then (false, (sFl T 0 (-11) (-11)).2) else if 0 ≤ p ∧ p < (g_ss T s : Int) then (true, h_sr T (va_u2 (g_sr T) s (va_up (g_sr T s) p.toNat (g_pi T e 0)))) else (false, (sFl T 1 (-12) (-12)).2)).1 ∧ ((if noB T e = false then (false, (sFl T 2 (-13) (-13)).2) else if g_hs T s = false then (false, (sFl T 0 (-11) (-11)).2) else if 0 ≤ p ∧ p < (g_ss T s : Int) then (true, h_sr T (va_u2 (g_sr T) s (va_up (g_sr T s) p.toNat (g_pi T e 0)))) else (false, (sFl T 1 (-12) (-12)).2)).1 = false → (if noB T e = false then (false, (sFl (h_su T 0) 2 (-13) (-13)).2) else if g_hs T s = false then (false, (sFl (h_su T 0) 0 (-11) (-11)).2) else if 0 ≤ p ∧ p < (g_ss T s : Int) then (true, h_sr (h_su T 0) (va_u2 (g_sr T) s (va_up (g_sr T s) p.toNat (g_pi T e 0)))) else (false, (sFl (h_su T 0) 1 (-12) (-12)).2)).2 = (if noB T e = false then (false, (sFl T 2 (-13) (-13)).2) else if g_hs T s = false then (false, (sFl T 0 (-11) (-11)).2) else if 0 ≤ p ∧ p < (g_ss T s : Int) then (true, h_sr T (va_u2 (g_sr T) s (va_up (g_sr T s) p.toNat (g_pi T e 0)))) else (false, (sFl T 1 (-12) (-12)).2)).2) ∧ ((if noB T e = false then (false, (sFl T 2 (-13) (-13)).2) else if g_hs T s = false then (false, (sFl T 0 (-11) (-11)).2) else if 0 ≤ p ∧ p < (g_ss T s : Int) then (true, h_sr T (va_u2 (g_sr T) s (va_up (g_sr T s) p.toNat (g_pi T e 0)))) else (false, (sFl T 1 (-12) (-12)).2)).1 = true → (if noB T e = false then (false, (sFl (h_su T 0) 2 (-13) (-13)).2) else if g_hs T s = false then (false, (sFl (h_su T 0) 0 (-11) (-11)).2) else if 0 ≤ p ∧ p < (g_ss T s : Int) then (true, h_sr (h_su T 0) (va_u2 (g_sr T) s (va_up (g_sr T s) p.toNat (g_pi T e 0)))) else (false, (sFl (h_su T 0) 1 (-12) (-12)).2)).2 = h_su (if noB T e = false then (false, (sFl T 2 (-13) (-13)).2) else if g_hs T s = false then (false, (sFl T 0 (-11) (-11)).2) else if 0 ≤ p ∧ p < (g_ss T s : Int) then (true, h_sr T (va_u2 (g_sr T) s (va_up (g_sr T s) p.toNat (g_pi T e 0)))) else (false, (sFl T 1 (-12) (-12)).2)).2 0)
    split
    · exact ⟨rfl, fun _ => rfl, fun h => by cases h⟩
    · split
      · exact ⟨rfl, fun _ => rfl, fun h => by cases h⟩
      · split
        · exact ⟨rfl, fun h => (by cases h), fun _ => rfl⟩
        · exact ⟨rfl, fun _ => rfl, fun h => by cases h⟩
theorem lyS_su (f : Nat → Option Nat) (s : Nat) (a : Int32) : ∀ k q T, lyS f s a k q (h_su T 0) = lyS f s a k q T
  | 0, _, _ => rfl
  | k + 1, q, T => by
    have h := lays_su T (f q) s (a.toInt + q)
    rw [lyS, lyS, h.1]
    cases hb : (sp_lays T (f q) s (a.toInt + q)).1 with
    | true => rw [if_pos rfl, if_pos rfl, h.2.2 hb]; exact lyS_su f s a k (q + 1) _
    | false => rw [if_neg Bool.false_ne_true, if_neg Bool.false_ne_true, h.2.1 hb]
set_option maxHeartbeats 4000000 in
set_option maxRecDepth 100000 in
theorem e_layOne_n (σ : ZS) (a : Int32) : ZC M_X11_layOne [Ar none, Ar none, Ai a] σ (fun r τ => r = some (Ai (-11)) ∧ τ = σ) := by
  refine ZC_of (ls := [some (Ar none), some (Ar none), some (Ai a)]) (by decide) (Nat.le_of_ble_eq_true rfl) rfl ?_
  refine ZV_aload_n (n := 1) dX11_layOne_0 rfl rfl rfl ?_
  refine ZV_ifnonnull_n (tgt := 7) (n := 4) dX11_layOne_1 (by decide) rfl ?_
  refine ZV_bipush (v := -11) (n := 6) dX11_layOne_4 rfl rfl ?_
  refine ZV_iret dX11_layOne_6 rfl ?_
  exact ⟨rfl, rfl⟩
set_option maxHeartbeats 4000000 in
set_option maxRecDepth 100000 in
theorem e_layOne_ns (σ : ZS) (b : Nat) (a : Int32) : ZC M_X11_layOne [Ar none, Ar (some b), Ai a] σ (fun r τ => r = some (Ai (-11)) ∧ τ = σ) := by
  refine ZC_of (ls := [some (Ar none), some (Ar (some b)), some (Ai a)]) (by decide) (Nat.le_of_ble_eq_true rfl) rfl ?_
  refine ZV_aload_n (n := 1) dX11_layOne_0 rfl rfl rfl ?_
  refine ZV_ifnonnull_n (tgt := 7) (n := 4) dX11_layOne_1 (by decide) rfl ?_
  refine ZV_bipush (v := -11) (n := 6) dX11_layOne_4 rfl rfl ?_
  refine ZV_iret dX11_layOne_6 rfl ?_
  exact ⟨rfl, rfl⟩
set_option maxHeartbeats 4000000 in
set_option maxRecDepth 100000 in
theorem e_layOne_en {c B : Nat} {σ : ZS} {T : TS} {K : KS} (hG : cG c B σ T K) {e : Nat} (he : e < g_ev T) (hk : g_kd T e ≤ 4) (a : Int32) : ZC M_X11_layOne [Ar (some (k_ea K e)), Ar none, Ai a] σ (fun r τ => r = some (Ai (if noB T e = true then -11 else -13)) ∧ τ = σ) := by
  refine ZC_of (ls := [some (Ar (some (k_ea K e))), some (Ar none), some (Ai a)]) (by decide) (Nat.le_of_ble_eq_true rfl) rfl ?_
  refine ZV_aload_n (n := 1) dX11_layOne_0 rfl rfl rfl ?_
  refine ZV_ifnonnull_s (tgt := 7) dX11_layOne_1 (by decide) ?_
  refine ZV_aload_n (n := 8) dX11_layOne_7 rfl rfl rfl ?_
  refine call_X11_193 (e_isNote hG he hk) rfl dX11_layOne_8 rfl (cf_ek hG e he).1 (Nat.le_of_ble_eq_true rfl) (Nat.le_of_ble_eq_true rfl) rfl (fun r9 σ9 hp9 => ?_)
  obtain ⟨rfl, hs9⟩ := hp9
  subst σ9
  refine ZV_if_neB (tgt := 17) (n := 14) dX11_layOne_11 (by decide) rfl (fun h11 => ?_) (fun h11 => ?_)
  · skip
    refine ZV_aload_n (n := 18) dX11_layOne_17 rfl rfl rfl ?_
    refine ZV_ifnonnull_n (tgt := 24) (n := 21) dX11_layOne_18 (by decide) rfl ?_
    refine ZV_bipush (v := -11) (n := 23) dX11_layOne_21 rfl rfl ?_
    refine ZV_iret dX11_layOne_23 rfl ?_
    refine ⟨?_, rfl⟩
    rw [h11]
    rfl
  · skip
    refine ZV_bipush (v := -13) (n := 16) dX11_layOne_14 rfl rfl ?_
    refine ZV_iret dX11_layOne_16 rfl ?_
    refine ⟨?_, rfl⟩
    rw [h11]
    rfl
set_option maxHeartbeats 4000000 in
set_option maxRecDepth 100000 in
theorem e_layOne_es {c B : Nat} {σ : ZS} {T : TS} {K : KS} (hG : cG c B σ T K) (hI : tI T) {e s : Nat} (he : e < g_ev T) (hs : s < 4) (hh : g_hs T s = true) (a : Int32) : ZC M_X11_layOne [Ar (some (k_ea K e)), Ar (some (k_wa K (s + 4))), Ai a] σ (fun r τ => (noB T e = false ∧ r = some (Ai (-13)) ∧ τ = σ) ∨ (noB T e = true ∧ inB a (g_ss T s) = false ∧ r = some (Ai (-12)) ∧ τ = σ) ∨ (noB T e = true ∧ ∃ j, j < g_ss T s ∧ a = nI j ∧ r = some (Ai (nI 0)) ∧ cG c B τ (h_sr T (va_u2 (g_sr T) s (va_up (g_sr T s) j (g_pi T e 0)))) K)) := by
  have hsk := ti_sk hI s hs
  refine ZC_of (ls := [some (Ar (some (k_ea K e))), some (Ar (some (k_wa K (s + 4)))), some (Ai a)]) (by decide) (Nat.le_of_ble_eq_true rfl) rfl ?_
  refine ZV_aload_n (n := 1) dX11_layOne_0 rfl rfl rfl ?_
  refine ZV_ifnonnull_s (tgt := 7) dX11_layOne_1 (by decide) ?_
  refine ZV_aload_n (n := 8) dX11_layOne_7 rfl rfl rfl ?_
  refine call_X11_193 (e_isNote hG he (ti_kd hI e he)) rfl dX11_layOne_8 rfl (cf_ek hG e he).1 (Nat.le_of_ble_eq_true rfl) (Nat.le_of_ble_eq_true rfl) rfl (fun r9 σ9 hp9 => ?_)
  obtain ⟨rfl, hs9⟩ := hp9
  subst σ9
  refine ZV_if_neB (tgt := 17) (n := 14) dX11_layOne_11 (by decide) rfl (fun h11 => ?_) (fun h11 => ?_)
  · skip
    refine ZV_aload_n (n := 18) dX11_layOne_17 rfl rfl rfl ?_
    refine ZV_ifnonnull_s (tgt := 24) dX11_layOne_18 (by decide) ?_
    refine ZV_aload_n (n := 25) dX11_layOne_24 rfl rfl rfl ?_
    refine ZV_iload_n (n := 26) dX11_layOne_25 rfl rfl rfl ?_
    refine call_X11_364 (e_hasS hG hs hh (by omega) _) rfl dX11_layOne_26 rfl (cf_sk hG s hs hh).1 (Nat.le_of_ble_eq_true rfl) (Nat.le_of_ble_eq_true rfl) rfl (fun r9 σ9 hp9 => ?_)
    obtain ⟨rfl, hs9⟩ := hp9
    subst σ9
    refine ZV_if_neB (tgt := 35) (n := 32) dX11_layOne_29 (by decide) rfl (fun h29 => ?_) (fun h29 => ?_)
    · skip
      obtain ⟨j, hj, hj2, rfl⟩ := inB_t h29
      have hp1 := ti_pn1 hI e he (of_decide_eq_true h11)
      have hp0 := ti_pi hI e 0 he hp1
      refine ZV_aload_n (n := 36) dX11_layOne_35 rfl rfl rfl ?_
      refine ZV_getRv (n := 39) dX11_layOne_36 fl_X11_372 rfl rfl rfl (cf_sk hG s hs hh).1 (cf_st hG s hs hh) ?_
      refine ZV_iload_n (n := 40) dX11_layOne_39 rfl rfl rfl ?_
      refine ZV_aload_n (n := 41) dX11_layOne_40 rfl rfl rfl ?_
      refine ZV_getIv (n := 44) dX11_layOne_41 fl_X11_367 rfl rfl rfl (cf_sk hG s hs hh).1 (cf_sd hG s hs hh) ?_
      refine ZV_aload_n (n := 45) dX11_layOne_44 rfl rfl rfl ?_
      refine call_X11_395 (e_lowest hG he (ti_pn hI e) (ti_pnc hI e he)) rfl dX11_layOne_45 rfl (cf_ek hG e he).1 (Nat.le_of_ble_eq_true rfl) (Nat.le_of_ble_eq_true rfl) rfl (fun r9 σ9 hp9 => ?_)
      obtain ⟨rfl, hs9⟩ := hp9
      subst σ9
      rw [if_pos (show 0 < g_pn T e by omega)]
      refine call_X11_392 (e_lowestBits (by omega) _) rfl dX11_layOne_48 (Nat.le_of_ble_eq_true rfl) (Nat.le_of_ble_eq_true rfl) rfl (fun r9 σ9 hp9 => ?_)
      obtain ⟨rfl, hs9⟩ := hp9
      subst σ9
      rw [hp0.1, lowB_p hp0.2, ← hp0.1]
      refine ZV_iast (j := j) (n := 52) dX11_layOne_51 rfl rfl (cf_sk hG s hs hh).2.1 rfl (by omega) ?_
      refine ZV_gen (P := fun τ => cG c B τ _ _) (U_sr hG hs hh _ _) (fun σ hG => ?_)
      refine ZV_iconst (v := nI 0) (n := 53) dX11_layOne_52 rfl rfl ?_
      refine ZV_iret dX11_layOne_53 rfl ?_
      exact Or.inr (Or.inr ⟨h11, j, hj, rfl, rfl, hG⟩)
    · skip
      refine ZV_bipush (v := -12) (n := 34) dX11_layOne_32 rfl rfl ?_
      refine ZV_iret dX11_layOne_34 rfl ?_
      exact Or.inr (Or.inl ⟨h11, h29, rfl, rfl⟩)
  · skip
    refine ZV_bipush (v := -13) (n := 16) dX11_layOne_14 rfl rfl ?_
    refine ZV_iret dX11_layOne_16 rfl ?_
    exact Or.inl ⟨h11, rfl, rfl⟩
theorem ly_idx {a : Int32} {q : Nat} (hq : q < 1000) (h : q = 0 ∨ (0 ≤ a.toInt + q ∧ a.toInt + q ≤ 60)) : (a + nI q).toInt = a.toInt + q := by
  rcases h with h | h
  · subst h
    rw [show (nI 0) = (0 : Int32) from rfl, Int32.add_zero]
    simp
  · have h1 := a.toInt_lt
    have h2 := a.le_toInt
    rw [Int32.toInt_add, nI_toInt (by omega), Int.bmod_eq_of_le (by omega) (by omega)]
theorem ly_in {a : Int32} {q n : Nat} (hq : q < 1000) (h : q = 0 ∨ (0 ≤ a.toInt + q ∧ a.toInt + q ≤ 60)) : inB (a + nI q) n = decide (0 ≤ a.toInt + q ∧ a.toInt + q < (n : Int)) := by
  unfold inB
  rw [ly_idx hq h]
set_option maxHeartbeats 4000000 in
set_option maxRecDepth 100000 in
theorem e_layVoice_n {c B : Nat} {σ : ZS} {T : TS} {K : KS} (hG : cG c B σ T K) (hI : tI T) (hK : kI T K) (v a : Int32) {s : Nat} (hs4 : s < 4) (hs9 : g_hs T s = false) : ZC M_X11_layVoice [Ar (some c), Ai v, Ar none, Ai a] σ (fun y0 τ0 => y0 = some (Ai (sp_lay T v false (nI s) a).1) ∧ cR c τ0 (sp_lay T v false (nI s) a).2) := by
  have hbd := cf_bd hG
  refine ZC_of (ls := [some (Ar (some c)), some (Ai v), some (Ar none), some (Ai a), none, none, none]) (by decide) (Nat.le_of_ble_eq_true rfl) rfl ?_
  refine ZV_aload_n (n := 1) dX11_layVoice_0 rfl rfl rfl ?_
  refine ZV_iload_n (n := 2) dX11_layVoice_1 rfl rfl rfl ?_
  refine call_X11_112 (e_voiceOf hG _) rfl dX11_layVoice_2 rfl (cf_sh hG :).1 (Nat.le_of_ble_eq_true rfl) (Nat.le_of_ble_eq_true rfl) rfl (fun r9 σ9 hp9 => ?_)
  obtain ⟨hs9, hp9⟩ := hp9
  subst σ9
  rcases hp9 with ⟨hv2, hr9⟩ | ⟨v2, he2, hn2, hr9⟩
  · skip
    subst hr9
    refine ZV_astore_4 (n := 7) dX11_layVoice_5 rfl (Nat.le_of_ble_eq_true rfl) rfl ?_
    refine ZV_aload (n := 9) dX11_layVoice_7 rfl rfl ?_
    refine ZV_ifnonnull_n (tgt := 19) (n := 12) dX11_layVoice_9 (by decide) rfl ?_
    refine ZV_aload_n (n := 13) dX11_layVoice_12 rfl rfl rfl ?_
    refine ZV_bipush (v := -2) (n := 15) dX11_layVoice_13 rfl rfl ?_
    refine call_X11_87 (e_refuse hG _) rfl dX11_layVoice_15 rfl (cf_sh hG :).1 (Nat.le_of_ble_eq_true rfl) (Nat.le_of_ble_eq_true rfl) rfl (fun r9 σ9 hp9 => ?_)
    obtain ⟨rfl, hG⟩ := hp9
    refine ZV_iret dX11_layVoice_18 rfl ?_
    exact zlC (v := sNo T (-2)) (by simp [sp_lay, hv2]) rfl ⟨B, K, hG, kI_e hK ⟨rfl, rfl, rfl, rfl, rfl, rfl, rfl, rfl, rfl, rfl, rfl, rfl, rfl, rfl, rfl, rfl, rfl, rfl, rfl, rfl⟩⟩
  · skip
    subst hr9
    subst hn2
    have hE2 : inB (nI v2) (3 * g_np T) = true := by rw [inB_nI (by omega)]; exact decide_eq_true he2
    have hmn2 := ti_mn hI v2
    have hc2 : (nI v2).toNatClampNeg = v2 := nI_clamp (by omega)
    refine ZV_astore_4 (n := 7) dX11_layVoice_5 rfl (Nat.le_of_ble_eq_true rfl) rfl ?_
    refine ZV_aload (n := 9) dX11_layVoice_7 rfl rfl ?_
    refine ZV_ifnonnull_s (tgt := 19) dX11_layVoice_9 (by decide) ?_
    refine ZV_iconst (v := nI 0) (n := 20) dX11_layVoice_19 rfl rfl ?_
    refine ZV_istore_5 (n := 22) dX11_layVoice_20 rfl (Nat.le_of_ble_eq_true rfl) rfl ?_
    have hsp : sp_lay T (nI v2) false (nI s) a = lyS (fun p => some (g_ro T v2 p)) s a (g_mn T v2) 0 T := by rw [sp_lay, if_pos ⟨hE2, inB_nI_t hs4 (by omega)⟩, if_neg Bool.false_ne_true, hc2, nI_clamp (by omega), lyS_su]
    rw [hsp]
    obtain ⟨F, hF⟩ : ∃ F, F = (fun p => some (g_ro T v2 p)) := ⟨_, rfl⟩
    rw [← hF]
    generalize hX : lyS F s a (g_mn T v2) 0 T = X
    have loop : ∀ (n9 : Nat) (q : Nat) (T : TS) (τ : ZS), g_mn T v2 - q < n9 → q ≤ g_mn T v2 → cG c B τ T K → tI T → kI T K → lyS F s a (g_mn T v2 - q) q T = X → v2 < 3 * g_np T → (∀ q, F q = some (g_ro T v2 q)) → g_hs T s = false → q = 0 ∨ (0 ≤ a.toInt + q ∧ a.toInt + q ≤ 60) → ZV M_X11_layVoice (fun y0 τ0 => y0 = some (Ai X.1) ∧ cR c τ0 X.2) 22 [some (Ar (some c)), some (Ai (nI v2)), some (Ar none), some (Ai a), some (Ar (some (k_va K v2))), some (Ai (nI q)), none] [] τ (zmC M_X11_layVoice) (zmS M_X11_layVoice) := by
      intro n9
      induction n9 with
      | zero => intro q T τ hme; exact absurd hme (Nat.not_lt_zero _)
      | succ n9 ih =>
        intro q T τ hme hq hG hI hK hX hv hF hs9 hqa
        have hnp9 := ti_np hI
        have hbd := cf_bd hG
        have hmn2 := ti_mn hI v2
        refine ZV_iload (n := 24) dX11_layVoice_22 rfl rfl ?_
        refine ZV_aload (n := 26) dX11_layVoice_24 rfl rfl ?_
        refine ZV_getIv (n := 29) dX11_layVoice_26 fl_X11_116 rfl rfl rfl (cf_vk hG v2 hv).1 (cf_vs hG v2 hv) ?_
        refine ZV_icmp_geN (tgt := 70) (n := 32) dX11_layVoice_29 (by decide) rfl (by omega) (by omega) (fun h29 => ?_) (fun h29 => ?_)
        · skip
          refine ZV_aload_n (n := 71) dX11_layVoice_70 rfl rfl rfl ?_
          refine ZV_aload (n := 73) dX11_layVoice_71 rfl rfl ?_
          refine ZV_getIv (n := 76) dX11_layVoice_73 fl_X11_116 rfl rfl rfl (cf_vk hG v2 hv).1 (cf_vs hG v2 hv) ?_
          refine call_X11_98 (e_done hG _) rfl dX11_layVoice_76 rfl (cf_sh hG :).1 (Nat.le_of_ble_eq_true rfl) (Nat.le_of_ble_eq_true rfl) rfl (fun r9 σ9 hp9 => ?_)
          obtain ⟨rfl, hG⟩ := hp9
          refine ZV_iret dX11_layVoice_79 rfl ?_
          obtain rfl : q = g_mn T v2 := by omega
          rw [Nat.sub_self] at hX
          exact zlC (v := sOk T (nI (g_mn T v2))) hX.symm rfl ⟨B, K, hG, kI_e hK ⟨rfl, rfl, rfl, rfl, rfl, rfl, rfl, rfl, rfl, rfl, rfl, rfl, rfl, rfl, rfl, rfl, rfl, rfl, rfl, rfl⟩⟩
        · skip
          have hro := ti_ro hI v2 q (by omega) (by omega)
          have hfq : F q = some (g_ro T v2 q) := hF q
          have hev9 : g_ro T v2 q < g_ev T ∧ g_th T (g_ro T v2 q) = true := ⟨hro.1, hro.2.1⟩
          refine ZV_aload (n := 34) dX11_layVoice_32 rfl rfl ?_
          refine ZV_getRv (n := 37) dX11_layVoice_34 fl_X11_224 rfl rfl rfl (cf_vk hG v2 hv).1 (cf_ve hG v2 hv) ?_
          refine ZV_iload (n := 39) dX11_layVoice_37 rfl rfl ?_
          refine ZV_aaldv (c0 := 2) (j := q) (n := 40) dX11_layVoice_39 rfl (by decide) rfl (cf_vk hG v2 hv).2.1 rfl (by omega) (cf_ro hG v2 q hv (by omega)) ?_
          refine ZV_aload_n (n := 41) dX11_layVoice_40 rfl rfl rfl ?_
          refine ZV_iload_n (n := 42) dX11_layVoice_41 rfl rfl rfl ?_
          refine ZV_iload (n := 44) dX11_layVoice_42 rfl rfl ?_
          refine ZV_iadd (n := 45) dX11_layVoice_44 rfl ?_
          obtain ⟨e9, he9⟩ : ∃ e, e = (g_ro T v2 q) := ⟨_, rfl⟩
          rw [← he9] at hfq hev9 ⊢
          refine call_X11_496 (e_layOne_en hG hev9.1 (ti_kd hI _ hev9.1) _) rfl dX11_layVoice_45 (Nat.le_of_ble_eq_true rfl) (Nat.le_of_ble_eq_true rfl) rfl (fun r9 σ9 hp9 => ?_)
          obtain ⟨rfl, hs8⟩ := hp9
          subst σ9
          rcases hn9 : noB T e9 with _ | _
          · skip
            have hbad : sp_lays T (F q) s (a.toInt + q) = (false, (sFl T 2 (-13) (-13)).2) := by rw [hfq]; simp [sp_lays, hn9, hs9]
            show ZV _ _ _ _ [Ai (-13)] _ _ _
            refine ZV_istore_6 (n := 50) dX11_layVoice_48 rfl (Nat.le_of_ble_eq_true rfl) rfl ?_
            refine ZV_iload (n := 52) dX11_layVoice_50 rfl rfl ?_
            refine ZV_if_eq (tgt := 64) (n := 55) dX11_layVoice_52 (by decide) rfl (fun h52 => ?_) (fun h52 => ?_)
            · skip
              exact absurd h52 (by decide)
            · skip
              refine ZV_aload_n (n := 56) dX11_layVoice_55 rfl rfl rfl ?_
              refine ZV_iload (n := 58) dX11_layVoice_56 rfl rfl ?_
              refine ZV_iload (n := 60) dX11_layVoice_58 rfl rfl ?_
              refine call_X11_207 (e_failTelling hG (-13) _ 2 (by decide) rfl) rfl dX11_layVoice_60 rfl (cf_sh hG :).1 (Nat.le_of_ble_eq_true rfl) (Nat.le_of_ble_eq_true rfl) rfl (fun r9 σ9 hp9 => ?_)
              obtain ⟨rfl, hG⟩ := hp9
              refine ZV_iret dX11_layVoice_63 rfl ?_
              rw [show g_mn T v2 - q = (g_mn T v2 - (q + 1)) + 1 by omega, lyS, hbad] at hX
              rw [if_neg Bool.false_ne_true] at hX
              rw [← hX]
              exact ⟨rfl, B, K, hG, kI_e hK ⟨rfl, rfl, rfl, rfl, rfl, rfl, rfl, rfl, rfl, rfl, rfl, rfl, rfl, rfl, rfl, rfl, rfl, rfl, rfl, rfl⟩⟩
          · skip
            have hbad : sp_lays T (F q) s (a.toInt + q) = (false, (sFl T 0 (-11) (-11)).2) := by rw [hfq]; simp [sp_lays, hn9, hs9]
            show ZV _ _ _ _ [Ai (-11)] _ _ _
            refine ZV_istore_6 (n := 50) dX11_layVoice_48 rfl (Nat.le_of_ble_eq_true rfl) rfl ?_
            refine ZV_iload (n := 52) dX11_layVoice_50 rfl rfl ?_
            refine ZV_if_eq (tgt := 64) (n := 55) dX11_layVoice_52 (by decide) rfl (fun h52 => ?_) (fun h52 => ?_)
            · skip
              exact absurd h52 (by decide)
            · skip
              refine ZV_aload_n (n := 56) dX11_layVoice_55 rfl rfl rfl ?_
              refine ZV_iload (n := 58) dX11_layVoice_56 rfl rfl ?_
              refine ZV_iload (n := 60) dX11_layVoice_58 rfl rfl ?_
              refine call_X11_207 (e_failTelling hG (-11) _ 0 (by decide) rfl) rfl dX11_layVoice_60 rfl (cf_sh hG :).1 (Nat.le_of_ble_eq_true rfl) (Nat.le_of_ble_eq_true rfl) rfl (fun r9 σ9 hp9 => ?_)
              obtain ⟨rfl, hG⟩ := hp9
              refine ZV_iret dX11_layVoice_63 rfl ?_
              rw [show g_mn T v2 - q = (g_mn T v2 - (q + 1)) + 1 by omega, lyS, hbad] at hX
              rw [if_neg Bool.false_ne_true] at hX
              rw [← hX]
              exact ⟨rfl, B, K, hG, kI_e hK ⟨rfl, rfl, rfl, rfl, rfl, rfl, rfl, rfl, rfl, rfl, rfl, rfl, rfl, rfl, rfl, rfl, rfl, rfl, rfl, rfl⟩⟩
    exact loop _ 0 T σ (Nat.lt_succ_self _) (Nat.zero_le _) hG hI hK hX he2 (fun q => by rw [hF]) hs9 (Or.inl rfl)
set_option maxHeartbeats 4000000 in
set_option maxRecDepth 100000 in
theorem e_layRack_n {c B : Nat} {σ : ZS} {T : TS} {K : KS} (hG : cG c B σ T K) (hI : tI T) (hK : kI T K) (v a : Int32) {s : Nat} (hs4 : s < 4) (hs9 : g_hs T s = false) : ZC M_X11_layRack [Ar (some c), Ai v, Ar none, Ai a] σ (fun y0 τ0 => y0 = some (Ai (sp_lay T v true (nI s) a).1) ∧ cR c τ0 (sp_lay T v true (nI s) a).2) := by
  have hbd := cf_bd hG
  refine ZC_of (ls := [some (Ar (some c)), some (Ai v), some (Ar none), some (Ai a), none, none, none]) (by decide) (Nat.le_of_ble_eq_true rfl) rfl ?_
  refine ZV_iload_n (n := 1) dX11_layRack_0 rfl rfl rfl ?_
  refine call_X11_359 (e_isRowNumber _ _) rfl dX11_layRack_1 (Nat.le_of_ble_eq_true rfl) (Nat.le_of_ble_eq_true rfl) rfl (fun r9 σ9 hp9 => ?_)
  obtain ⟨rfl, hs9⟩ := hp9
  subst σ9
  refine ZV_if_neB (tgt := 14) (n := 7) dX11_layRack_4 (by decide) rfl (fun h4 => ?_) (fun h4 => ?_)
  · skip
    obtain ⟨v9, hv9, hv92, rfl⟩ := inB_t h4
    have hcv9 : (nI v9).toNatClampNeg = v9 := nI_clamp hv92
    have h4 : inB (nI v9) 4 = true := h4
    refine ZV_aload_n (n := 15) dX11_layRack_14 rfl rfl rfl ?_
    refine ZV_getRv (n := 18) dX11_layRack_15 fl_X11_74 rfl rfl rfl (cf_sh hG :).1 (ca_racks (cf_sh hG :)) ?_
    refine ZV_iload_n (n := 19) dX11_layRack_18 rfl rfl rfl ?_
    rcases hb19 : g_hr T v9 with _ | _
    · skip
      refine ZV_aaldv (c0 := 5) (w := none) (j := v9) (n := 20) dX11_layRack_19 rfl (by decide) rfl (ck_racks (cf_sh hG :)) rfl (by omega) (Eq.trans (cf_ra hG v9 (by omega)) (if_neg (by rw [hb19]; exact Bool.false_ne_true))) ?_
      refine ZV_astore_4 (n := 22) dX11_layRack_20 rfl (Nat.le_of_ble_eq_true rfl) rfl ?_
      refine ZV_aload (n := 24) dX11_layRack_22 rfl rfl ?_
      refine ZV_ifnonnull_n (tgt := 35) (n := 27) dX11_layRack_24 (by decide) rfl ?_
      refine ZV_aload_n (n := 28) dX11_layRack_27 rfl rfl rfl ?_
      refine ZV_bipush (v := -11) (n := 30) dX11_layRack_28 rfl rfl ?_
      refine ZV_iconst (v := nI 0) (n := 31) dX11_layRack_30 rfl rfl ?_
      refine call_X11_207 (e_failTelling hG (-11) _ 0 (by decide) rfl) rfl dX11_layRack_31 rfl (cf_sh hG :).1 (Nat.le_of_ble_eq_true rfl) (Nat.le_of_ble_eq_true rfl) rfl (fun r9 σ9 hp9 => ?_)
      obtain ⟨rfl, hG⟩ := hp9
      refine ZV_iret dX11_layRack_34 rfl ?_
      exact zlC (v := sFl T 0 (-11) 0) (by simp [sp_lay, h4, inB_nI_t hs4 (show s < 2147483648 by omega), hcv9, hb19]) rfl ⟨B, K, hG, kI_e hK ⟨rfl, rfl, rfl, rfl, rfl, rfl, rfl, rfl, rfl, rfl, rfl, rfl, rfl, rfl, rfl, rfl, rfl, rfl, rfl, rfl⟩⟩
    · skip
      refine ZV_aaldv (c0 := 5) (w := some (k_wa K v9)) (j := v9) (n := 20) dX11_layRack_19 rfl (by decide) rfl (ck_racks (cf_sh hG :)) rfl (by omega) (Eq.trans (cf_ra hG v9 (by omega)) (if_pos hb19)) ?_
      refine ZV_astore_4 (n := 22) dX11_layRack_20 rfl (Nat.le_of_ble_eq_true rfl) rfl ?_
      refine ZV_aload (n := 24) dX11_layRack_22 rfl rfl ?_
      refine ZV_ifnonnull_s (tgt := 35) dX11_layRack_24 (by decide) ?_
      refine ZV_iconst (v := nI 0) (n := 36) dX11_layRack_35 rfl rfl ?_
      refine ZV_istore_5 (n := 38) dX11_layRack_36 rfl (Nat.le_of_ble_eq_true rfl) rfl ?_
      have hsp : sp_lay T (nI v9) true (nI s) a = lyS (g_rr T v9) s a (g_rs T v9) 0 T := by rw [sp_lay, if_pos ⟨h4, inB_nI_t hs4 (by omega)⟩, if_pos rfl, hcv9, if_neg (tne hb19), nI_clamp (by omega), lyS_su]
      rw [hsp]
      obtain ⟨F, hF⟩ : ∃ F, F = (g_rr T v9) := ⟨_, rfl⟩
      rw [← hF]
      generalize hX : lyS F s a (g_rs T v9) 0 T = X
      have loop : ∀ (n9 : Nat) (q : Nat) (T : TS) (τ : ZS), g_rs T v9 - q < n9 → q ≤ g_rs T v9 → cG c B τ T K → tI T → kI T K → lyS F s a (g_rs T v9 - q) q T = X → v9 < 4 ∧ g_hr T v9 = true → (∀ q, F q = g_rr T v9 q) → g_hs T s = false → q = 0 ∨ (0 ≤ a.toInt + q ∧ a.toInt + q ≤ 60) → ZV M_X11_layRack (fun y0 τ0 => y0 = some (Ai X.1) ∧ cR c τ0 X.2) 38 [some (Ar (some c)), some (Ai (nI v9)), some (Ar none), some (Ai a), some (Ar (some (k_wa K v9))), some (Ai (nI q)), none] [] τ (zmC M_X11_layRack) (zmS M_X11_layRack) := by
        intro n9
        induction n9 with
        | zero => intro q T τ hme; exact absurd hme (Nat.not_lt_zero _)
        | succ n9 ih =>
          intro q T τ hme hq hG hI hK hX hv hF hs9 hqa
          have hnp9 := ti_np hI
          have hbd := cf_bd hG
          have hrk9 := ti_rk hI v9 hv.1
          refine ZV_iload (n := 40) dX11_layRack_38 rfl rfl ?_
          refine ZV_aload (n := 42) dX11_layRack_40 rfl rfl ?_
          refine ZV_getRv (n := 45) dX11_layRack_42 fl_X11_372 rfl rfl rfl (cf_rk hG v9 hv.1 hv.2).1 (cf_rt hG v9 hv.1 hv.2) ?_
          refine ZV_alen (t := 0) (n := 46) dX11_layRack_45 rfl rfl (cf_rk hG v9 hv.1 hv.2).2.1 (by decide) ?_
          refine ZV_icmp_geN (tgt := 91) (n := 49) dX11_layRack_46 (by decide) rfl (by omega) (by omega) (fun h46 => ?_) (fun h46 => ?_)
          · skip
            refine ZV_aload_n (n := 92) dX11_layRack_91 rfl rfl rfl ?_
            refine ZV_aload (n := 94) dX11_layRack_92 rfl rfl ?_
            refine ZV_getRv (n := 97) dX11_layRack_94 fl_X11_372 rfl rfl rfl (cf_rk hG v9 hv.1 hv.2).1 (cf_rt hG v9 hv.1 hv.2) ?_
            refine ZV_alen (t := 0) (n := 98) dX11_layRack_97 rfl rfl (cf_rk hG v9 hv.1 hv.2).2.1 (by decide) ?_
            refine call_X11_98 (e_done hG _) rfl dX11_layRack_98 rfl (cf_sh hG :).1 (Nat.le_of_ble_eq_true rfl) (Nat.le_of_ble_eq_true rfl) rfl (fun r9 σ9 hp9 => ?_)
            obtain ⟨rfl, hG⟩ := hp9
            refine ZV_iret dX11_layRack_101 rfl ?_
            obtain rfl : q = g_rs T v9 := by omega
            rw [Nat.sub_self] at hX
            exact zlC (v := sOk T (nI (g_rs T v9))) hX.symm rfl ⟨B, K, hG, kI_e hK ⟨rfl, rfl, rfl, rfl, rfl, rfl, rfl, rfl, rfl, rfl, rfl, rfl, rfl, rfl, rfl, rfl, rfl, rfl, rfl, rfl⟩⟩
          · skip
            refine ZV_aload_n (n := 50) dX11_layRack_49 rfl rfl rfl ?_
            refine ZV_aload (n := 52) dX11_layRack_50 rfl rfl ?_
            refine ZV_getRv (n := 55) dX11_layRack_52 fl_X11_372 rfl rfl rfl (cf_rk hG v9 hv.1 hv.2).1 (cf_rt hG v9 hv.1 hv.2) ?_
            refine ZV_iload (n := 57) dX11_layRack_55 rfl rfl ?_
            refine ZV_ialdv (j := q) (n := 58) dX11_layRack_57 rfl rfl (cf_rk hG v9 hv.1 hv.2).2.1 rfl (by omega) (cf_rr hG v9 q hv.1 hv.2 (by omega)) ?_
            rcases hq9 : g_rr T v9 q with _ | e8
            · skip
              refine call_X11_155 (e_eventOf hG _) rfl dX11_layRack_58 rfl (cf_sh hG :).1 (Nat.le_of_ble_eq_true rfl) (Nat.le_of_ble_eq_true rfl) rfl (fun r9 σ9 hp9 => ?_)
              obtain ⟨hs8, hp9⟩ := hp9
              subst σ9
              rcases hp9 with ⟨-, rfl⟩ | ⟨j8, hj8, -, hn8, -⟩
              · have hfq : F q = none := (hF q).trans hq9
                refine ZV_aload_n (n := 62) dX11_layRack_61 rfl rfl rfl ?_
                refine ZV_iload_n (n := 63) dX11_layRack_62 rfl rfl rfl ?_
                refine ZV_iload (n := 65) dX11_layRack_63 rfl rfl ?_
                refine ZV_iadd (n := 66) dX11_layRack_65 rfl ?_
                refine call_X11_496 (e_layOne_n _ _) rfl dX11_layRack_66 (Nat.le_of_ble_eq_true rfl) (Nat.le_of_ble_eq_true rfl) rfl (fun r9 σ9 hp9 => ?_)
                obtain ⟨rfl, hs8⟩ := hp9
                subst σ9
                have hbad : sp_lays T (F q) s (a.toInt + q) = (false, (sFl T 0 (-11) (-11)).2) := by rw [hfq]; rfl
                refine ZV_istore_6 (n := 71) dX11_layRack_69 rfl (Nat.le_of_ble_eq_true rfl) rfl ?_
                refine ZV_iload (n := 73) dX11_layRack_71 rfl rfl ?_
                refine ZV_if_eq (tgt := 85) (n := 76) dX11_layRack_73 (by decide) rfl (fun h73 => ?_) (fun h73 => ?_)
                · skip
                  exact absurd h73 (by decide)
                · skip
                  refine ZV_aload_n (n := 77) dX11_layRack_76 rfl rfl rfl ?_
                  refine ZV_iload (n := 79) dX11_layRack_77 rfl rfl ?_
                  refine ZV_iload (n := 81) dX11_layRack_79 rfl rfl ?_
                  refine call_X11_207 (e_failTelling hG (-11) _ 0 (by decide) rfl) rfl dX11_layRack_81 rfl (cf_sh hG :).1 (Nat.le_of_ble_eq_true rfl) (Nat.le_of_ble_eq_true rfl) rfl (fun r9 σ9 hp9 => ?_)
                  obtain ⟨rfl, hG⟩ := hp9
                  refine ZV_iret dX11_layRack_84 rfl ?_
                  rw [show g_rs T v9 - q = (g_rs T v9 - (q + 1)) + 1 by omega, lyS, hbad] at hX
                  rw [if_neg Bool.false_ne_true] at hX
                  rw [← hX]
                  exact ⟨rfl, B, K, hG, kI_e hK ⟨rfl, rfl, rfl, rfl, rfl, rfl, rfl, rfl, rfl, rfl, rfl, rfl, rfl, rfl, rfl, rfl, rfl, rfl, rfl, rfl⟩⟩
              · exact absurd hn8.symm (nI_ne_m1 (by omega))
            · skip
              have hev9 := ti_rr hI v9 q e8 hv.1 hv.2 (by omega) hq9
              refine call_X11_155 (e_eventOf hG _) rfl dX11_layRack_58 rfl (cf_sh hG :).1 (Nat.le_of_ble_eq_true rfl) (Nat.le_of_ble_eq_true rfl) rfl (fun r9 σ9 hp9 => ?_)
              obtain ⟨hs8, hp9⟩ := hp9
              subst σ9
              rcases hp9 with ⟨hno, rfl⟩ | ⟨j8, hj8, hj8t, hn8, rfl⟩
              · rw [show oI (some e8) = nI e8 from rfl, evB_nI hI hev9.1 hev9.2] at hno
                cases hno
              · obtain rfl : e8 = j8 := (nI_eq (by omega) (by omega)).mp hn8
                have hfq : F q = some e8 := (hF q).trans hq9
                refine ZV_aload_n (n := 62) dX11_layRack_61 rfl rfl rfl ?_
                refine ZV_iload_n (n := 63) dX11_layRack_62 rfl rfl rfl ?_
                refine ZV_iload (n := 65) dX11_layRack_63 rfl rfl ?_
                refine ZV_iadd (n := 66) dX11_layRack_65 rfl ?_
                obtain ⟨e9, he9⟩ : ∃ e, e = e8 := ⟨_, rfl⟩
                rw [← he9] at hfq hev9 ⊢
                refine call_X11_496 (e_layOne_en hG hev9.1 (ti_kd hI _ hev9.1) _) rfl dX11_layRack_66 (Nat.le_of_ble_eq_true rfl) (Nat.le_of_ble_eq_true rfl) rfl (fun r9 σ9 hp9 => ?_)
                obtain ⟨rfl, hs8⟩ := hp9
                subst σ9
                rcases hn9 : noB T e9 with _ | _
                · skip
                  have hbad : sp_lays T (F q) s (a.toInt + q) = (false, (sFl T 2 (-13) (-13)).2) := by rw [hfq]; simp [sp_lays, hn9, hs9]
                  show ZV _ _ _ _ [Ai (-13)] _ _ _
                  refine ZV_istore_6 (n := 71) dX11_layRack_69 rfl (Nat.le_of_ble_eq_true rfl) rfl ?_
                  refine ZV_iload (n := 73) dX11_layRack_71 rfl rfl ?_
                  refine ZV_if_eq (tgt := 85) (n := 76) dX11_layRack_73 (by decide) rfl (fun h73 => ?_) (fun h73 => ?_)
                  · skip
                    exact absurd h73 (by decide)
                  · skip
                    refine ZV_aload_n (n := 77) dX11_layRack_76 rfl rfl rfl ?_
                    refine ZV_iload (n := 79) dX11_layRack_77 rfl rfl ?_
                    refine ZV_iload (n := 81) dX11_layRack_79 rfl rfl ?_
                    refine call_X11_207 (e_failTelling hG (-13) _ 2 (by decide) rfl) rfl dX11_layRack_81 rfl (cf_sh hG :).1 (Nat.le_of_ble_eq_true rfl) (Nat.le_of_ble_eq_true rfl) rfl (fun r9 σ9 hp9 => ?_)
                    obtain ⟨rfl, hG⟩ := hp9
                    refine ZV_iret dX11_layRack_84 rfl ?_
                    rw [show g_rs T v9 - q = (g_rs T v9 - (q + 1)) + 1 by omega, lyS, hbad] at hX
                    rw [if_neg Bool.false_ne_true] at hX
                    rw [← hX]
                    exact ⟨rfl, B, K, hG, kI_e hK ⟨rfl, rfl, rfl, rfl, rfl, rfl, rfl, rfl, rfl, rfl, rfl, rfl, rfl, rfl, rfl, rfl, rfl, rfl, rfl, rfl⟩⟩
                · skip
                  have hbad : sp_lays T (F q) s (a.toInt + q) = (false, (sFl T 0 (-11) (-11)).2) := by rw [hfq]; simp [sp_lays, hn9, hs9]
                  show ZV _ _ _ _ [Ai (-11)] _ _ _
                  refine ZV_istore_6 (n := 71) dX11_layRack_69 rfl (Nat.le_of_ble_eq_true rfl) rfl ?_
                  refine ZV_iload (n := 73) dX11_layRack_71 rfl rfl ?_
                  refine ZV_if_eq (tgt := 85) (n := 76) dX11_layRack_73 (by decide) rfl (fun h73 => ?_) (fun h73 => ?_)
                  · skip
                    exact absurd h73 (by decide)
                  · skip
                    refine ZV_aload_n (n := 77) dX11_layRack_76 rfl rfl rfl ?_
                    refine ZV_iload (n := 79) dX11_layRack_77 rfl rfl ?_
                    refine ZV_iload (n := 81) dX11_layRack_79 rfl rfl ?_
                    refine call_X11_207 (e_failTelling hG (-11) _ 0 (by decide) rfl) rfl dX11_layRack_81 rfl (cf_sh hG :).1 (Nat.le_of_ble_eq_true rfl) (Nat.le_of_ble_eq_true rfl) rfl (fun r9 σ9 hp9 => ?_)
                    obtain ⟨rfl, hG⟩ := hp9
                    refine ZV_iret dX11_layRack_84 rfl ?_
                    rw [show g_rs T v9 - q = (g_rs T v9 - (q + 1)) + 1 by omega, lyS, hbad] at hX
                    rw [if_neg Bool.false_ne_true] at hX
                    rw [← hX]
                    exact ⟨rfl, B, K, hG, kI_e hK ⟨rfl, rfl, rfl, rfl, rfl, rfl, rfl, rfl, rfl, rfl, rfl, rfl, rfl, rfl, rfl, rfl, rfl, rfl, rfl, rfl⟩⟩
      exact loop _ 0 T σ (Nat.lt_succ_self _) (Nat.zero_le _) hG hI hK hX ⟨hv9, hb19⟩ (fun q => by rw [hF]) hs9 (Or.inl rfl)
  · skip
    refine ZV_aload_n (n := 8) dX11_layRack_7 rfl rfl rfl ?_
    refine ZV_bipush (v := -2) (n := 10) dX11_layRack_8 rfl rfl ?_
    refine call_X11_87 (e_refuse hG _) rfl dX11_layRack_10 rfl (cf_sh hG :).1 (Nat.le_of_ble_eq_true rfl) (Nat.le_of_ble_eq_true rfl) rfl (fun r9 σ9 hp9 => ?_)
    obtain ⟨rfl, hG⟩ := hp9
    refine ZV_iret dX11_layRack_13 rfl ?_
    exact zlC (v := sNo T (-2)) (by simp [sp_lay, h4]) rfl ⟨B, K, hG, kI_e hK ⟨rfl, rfl, rfl, rfl, rfl, rfl, rfl, rfl, rfl, rfl, rfl, rfl, rfl, rfl, rfl, rfl, rfl, rfl, rfl, rfl⟩⟩
set_option maxHeartbeats 4000000 in
set_option maxRecDepth 100000 in
theorem e_layVoice_s {c B : Nat} {σ : ZS} {T : TS} {K : KS} (hG : cG c B σ T K) (hI : tI T) (hK : kI T K) (v a : Int32) {s : Nat} (hs4 : s < 4) (hs9 : g_hs T s = true) : ZC M_X11_layVoice [Ar (some c), Ai v, Ar (some (k_wa K (s + 4))), Ai a] σ (fun y0 τ0 => y0 = some (Ai (sp_lay T v false (nI s) a).1) ∧ cR c τ0 (sp_lay T v false (nI s) a).2) := by
  have hbd := cf_bd hG
  refine ZC_of (ls := [some (Ar (some c)), some (Ai v), some (Ar (some (k_wa K (s + 4)))), some (Ai a), none, none, none]) (by decide) (Nat.le_of_ble_eq_true rfl) rfl ?_
  refine ZV_aload_n (n := 1) dX11_layVoice_0 rfl rfl rfl ?_
  refine ZV_iload_n (n := 2) dX11_layVoice_1 rfl rfl rfl ?_
  refine call_X11_112 (e_voiceOf hG _) rfl dX11_layVoice_2 rfl (cf_sh hG :).1 (Nat.le_of_ble_eq_true rfl) (Nat.le_of_ble_eq_true rfl) rfl (fun r9 σ9 hp9 => ?_)
  obtain ⟨hs9, hp9⟩ := hp9
  subst σ9
  rcases hp9 with ⟨hv2, hr9⟩ | ⟨v2, he2, hn2, hr9⟩
  · skip
    subst hr9
    refine ZV_astore_4 (n := 7) dX11_layVoice_5 rfl (Nat.le_of_ble_eq_true rfl) rfl ?_
    refine ZV_aload (n := 9) dX11_layVoice_7 rfl rfl ?_
    refine ZV_ifnonnull_n (tgt := 19) (n := 12) dX11_layVoice_9 (by decide) rfl ?_
    refine ZV_aload_n (n := 13) dX11_layVoice_12 rfl rfl rfl ?_
    refine ZV_bipush (v := -2) (n := 15) dX11_layVoice_13 rfl rfl ?_
    refine call_X11_87 (e_refuse hG _) rfl dX11_layVoice_15 rfl (cf_sh hG :).1 (Nat.le_of_ble_eq_true rfl) (Nat.le_of_ble_eq_true rfl) rfl (fun r9 σ9 hp9 => ?_)
    obtain ⟨rfl, hG⟩ := hp9
    refine ZV_iret dX11_layVoice_18 rfl ?_
    exact zlC (v := sNo T (-2)) (by simp [sp_lay, hv2]) rfl ⟨B, K, hG, kI_e hK ⟨rfl, rfl, rfl, rfl, rfl, rfl, rfl, rfl, rfl, rfl, rfl, rfl, rfl, rfl, rfl, rfl, rfl, rfl, rfl, rfl⟩⟩
  · skip
    subst hr9
    subst hn2
    have hE2 : inB (nI v2) (3 * g_np T) = true := by rw [inB_nI (by omega)]; exact decide_eq_true he2
    have hmn2 := ti_mn hI v2
    have hc2 : (nI v2).toNatClampNeg = v2 := nI_clamp (by omega)
    refine ZV_astore_4 (n := 7) dX11_layVoice_5 rfl (Nat.le_of_ble_eq_true rfl) rfl ?_
    refine ZV_aload (n := 9) dX11_layVoice_7 rfl rfl ?_
    refine ZV_ifnonnull_s (tgt := 19) dX11_layVoice_9 (by decide) ?_
    refine ZV_iconst (v := nI 0) (n := 20) dX11_layVoice_19 rfl rfl ?_
    refine ZV_istore_5 (n := 22) dX11_layVoice_20 rfl (Nat.le_of_ble_eq_true rfl) rfl ?_
    have hsp : sp_lay T (nI v2) false (nI s) a = lyS (fun p => some (g_ro T v2 p)) s a (g_mn T v2) 0 T := by rw [sp_lay, if_pos ⟨hE2, inB_nI_t hs4 (by omega)⟩, if_neg Bool.false_ne_true, hc2, nI_clamp (by omega), lyS_su]
    rw [hsp]
    obtain ⟨F, hF⟩ : ∃ F, F = (fun p => some (g_ro T v2 p)) := ⟨_, rfl⟩
    rw [← hF]
    generalize hX : lyS F s a (g_mn T v2) 0 T = X
    have loop : ∀ (n9 : Nat) (q : Nat) (T : TS) (τ : ZS), g_mn T v2 - q < n9 → q ≤ g_mn T v2 → cG c B τ T K → tI T → kI T K → lyS F s a (g_mn T v2 - q) q T = X → v2 < 3 * g_np T → (∀ q, F q = some (g_ro T v2 q)) → g_hs T s = true → q = 0 ∨ (0 ≤ a.toInt + q ∧ a.toInt + q ≤ 60) → ZV M_X11_layVoice (fun y0 τ0 => y0 = some (Ai X.1) ∧ cR c τ0 X.2) 22 [some (Ar (some c)), some (Ai (nI v2)), some (Ar (some (k_wa K (s + 4)))), some (Ai a), some (Ar (some (k_va K v2))), some (Ai (nI q)), none] [] τ (zmC M_X11_layVoice) (zmS M_X11_layVoice) := by
      intro n9
      induction n9 with
      | zero => intro q T τ hme; exact absurd hme (Nat.not_lt_zero _)
      | succ n9 ih =>
        intro q T τ hme hq hG hI hK hX hv hF hs9 hqa
        have hnp9 := ti_np hI
        have hbd := cf_bd hG
        have hmn2 := ti_mn hI v2
        refine ZV_iload (n := 24) dX11_layVoice_22 rfl rfl ?_
        refine ZV_aload (n := 26) dX11_layVoice_24 rfl rfl ?_
        refine ZV_getIv (n := 29) dX11_layVoice_26 fl_X11_116 rfl rfl rfl (cf_vk hG v2 hv).1 (cf_vs hG v2 hv) ?_
        refine ZV_icmp_geN (tgt := 70) (n := 32) dX11_layVoice_29 (by decide) rfl (by omega) (by omega) (fun h29 => ?_) (fun h29 => ?_)
        · skip
          refine ZV_aload_n (n := 71) dX11_layVoice_70 rfl rfl rfl ?_
          refine ZV_aload (n := 73) dX11_layVoice_71 rfl rfl ?_
          refine ZV_getIv (n := 76) dX11_layVoice_73 fl_X11_116 rfl rfl rfl (cf_vk hG v2 hv).1 (cf_vs hG v2 hv) ?_
          refine call_X11_98 (e_done hG _) rfl dX11_layVoice_76 rfl (cf_sh hG :).1 (Nat.le_of_ble_eq_true rfl) (Nat.le_of_ble_eq_true rfl) rfl (fun r9 σ9 hp9 => ?_)
          obtain ⟨rfl, hG⟩ := hp9
          refine ZV_iret dX11_layVoice_79 rfl ?_
          obtain rfl : q = g_mn T v2 := by omega
          rw [Nat.sub_self] at hX
          exact zlC (v := sOk T (nI (g_mn T v2))) hX.symm rfl ⟨B, K, hG, kI_e hK ⟨rfl, rfl, rfl, rfl, rfl, rfl, rfl, rfl, rfl, rfl, rfl, rfl, rfl, rfl, rfl, rfl, rfl, rfl, rfl, rfl⟩⟩
        · skip
          have hro := ti_ro hI v2 q (by omega) (by omega)
          have hfq : F q = some (g_ro T v2 q) := hF q
          have hev9 : g_ro T v2 q < g_ev T ∧ g_th T (g_ro T v2 q) = true := ⟨hro.1, hro.2.1⟩
          refine ZV_aload (n := 34) dX11_layVoice_32 rfl rfl ?_
          refine ZV_getRv (n := 37) dX11_layVoice_34 fl_X11_224 rfl rfl rfl (cf_vk hG v2 hv).1 (cf_ve hG v2 hv) ?_
          refine ZV_iload (n := 39) dX11_layVoice_37 rfl rfl ?_
          refine ZV_aaldv (c0 := 2) (j := q) (n := 40) dX11_layVoice_39 rfl (by decide) rfl (cf_vk hG v2 hv).2.1 rfl (by omega) (cf_ro hG v2 q hv (by omega)) ?_
          refine ZV_aload_n (n := 41) dX11_layVoice_40 rfl rfl rfl ?_
          refine ZV_iload_n (n := 42) dX11_layVoice_41 rfl rfl rfl ?_
          refine ZV_iload (n := 44) dX11_layVoice_42 rfl rfl ?_
          refine ZV_iadd (n := 45) dX11_layVoice_44 rfl ?_
          obtain ⟨e9, he9⟩ : ∃ e, e = (g_ro T v2 q) := ⟨_, rfl⟩
          rw [← he9] at hfq hev9 ⊢
          refine call_X11_496 (e_layOne_es hG hI hev9.1 hs4 hs9 _) rfl dX11_layVoice_45 (Nat.le_of_ble_eq_true rfl) (Nat.le_of_ble_eq_true rfl) rfl (fun r9 σ9 hp9 => ?_)
          rcases hp9 with ⟨hn9, rfl, hs8⟩ | ⟨hn9, hi9, rfl, hs8⟩ | ⟨hn9, j9, hj9, hae, rfl, hG⟩
          · subst σ9
            have hbad : sp_lays T (F q) s (a.toInt + q) = (false, (sFl T 2 (-13) (-13)).2) := by rw [hfq]; simp [sp_lays, hn9]
            refine ZV_istore_6 (n := 50) dX11_layVoice_48 rfl (Nat.le_of_ble_eq_true rfl) rfl ?_
            refine ZV_iload (n := 52) dX11_layVoice_50 rfl rfl ?_
            refine ZV_if_eq (tgt := 64) (n := 55) dX11_layVoice_52 (by decide) rfl (fun h52 => ?_) (fun h52 => ?_)
            · skip
              exact absurd h52 (by decide)
            · skip
              refine ZV_aload_n (n := 56) dX11_layVoice_55 rfl rfl rfl ?_
              refine ZV_iload (n := 58) dX11_layVoice_56 rfl rfl ?_
              refine ZV_iload (n := 60) dX11_layVoice_58 rfl rfl ?_
              refine call_X11_207 (e_failTelling hG (-13) _ 2 (by decide) rfl) rfl dX11_layVoice_60 rfl (cf_sh hG :).1 (Nat.le_of_ble_eq_true rfl) (Nat.le_of_ble_eq_true rfl) rfl (fun r9 σ9 hp9 => ?_)
              obtain ⟨rfl, hG⟩ := hp9
              refine ZV_iret dX11_layVoice_63 rfl ?_
              rw [show g_mn T v2 - q = (g_mn T v2 - (q + 1)) + 1 by omega, lyS, hbad] at hX
              rw [if_neg Bool.false_ne_true] at hX
              rw [← hX]
              exact ⟨rfl, B, K, hG, kI_e hK ⟨rfl, rfl, rfl, rfl, rfl, rfl, rfl, rfl, rfl, rfl, rfl, rfl, rfl, rfl, rfl, rfl, rfl, rfl, rfl, rfl⟩⟩
          · subst σ9
            rw [ly_in (by omega) hqa] at hi9
            have hi8 := of_decide_eq_false hi9
            have hbad : sp_lays T (F q) s (a.toInt + q) = (false, (sFl T 1 (-12) (-12)).2) := by rw [hfq]; simp only [sp_lays]; rw [if_neg (tne hn9), if_neg (tne hs9), if_neg hi8]
            refine ZV_istore_6 (n := 50) dX11_layVoice_48 rfl (Nat.le_of_ble_eq_true rfl) rfl ?_
            refine ZV_iload (n := 52) dX11_layVoice_50 rfl rfl ?_
            refine ZV_if_eq (tgt := 64) (n := 55) dX11_layVoice_52 (by decide) rfl (fun h52 => ?_) (fun h52 => ?_)
            · skip
              exact absurd h52 (by decide)
            · skip
              refine ZV_aload_n (n := 56) dX11_layVoice_55 rfl rfl rfl ?_
              refine ZV_iload (n := 58) dX11_layVoice_56 rfl rfl ?_
              refine ZV_iload (n := 60) dX11_layVoice_58 rfl rfl ?_
              refine call_X11_207 (e_failTelling hG (-12) _ 1 (by decide) rfl) rfl dX11_layVoice_60 rfl (cf_sh hG :).1 (Nat.le_of_ble_eq_true rfl) (Nat.le_of_ble_eq_true rfl) rfl (fun r9 σ9 hp9 => ?_)
              obtain ⟨rfl, hG⟩ := hp9
              refine ZV_iret dX11_layVoice_63 rfl ?_
              rw [show g_mn T v2 - q = (g_mn T v2 - (q + 1)) + 1 by omega, lyS, hbad] at hX
              rw [if_neg Bool.false_ne_true] at hX
              rw [← hX]
              exact ⟨rfl, B, K, hG, kI_e hK ⟨rfl, rfl, rfl, rfl, rfl, rfl, rfl, rfl, rfl, rfl, rfl, rfl, rfl, rfl, rfl, rfl, rfl, rfl, rfl, rfl⟩⟩
          · skip
            have hsk := ti_sk hI s hs4
            have hix := ly_idx (by omega) hqa
            rw [hae, nI_toInt (by omega)] at hix
            have hok : (sp_lays T (F q) s (a.toInt + q)).1 = true ∧ (sp_lays T (F q) s (a.toInt + q)).2 = h_sr T (va_u2 (g_sr T) s (va_up (g_sr T s) j9 (g_pi T e9 0))) := by
              rw [hfq]
              simp only [sp_lays]
              rw [if_neg (tne hn9), if_neg (tne hs9), if_pos (by omega), show (a.toInt + (q : Int)).toNat = j9 by omega]
              exact ⟨rfl, rfl⟩
            refine ZV_istore_6 (n := 50) dX11_layVoice_48 rfl (Nat.le_of_ble_eq_true rfl) rfl ?_
            refine ZV_iload (n := 52) dX11_layVoice_50 rfl rfl ?_
            refine ZV_if_eqN (tgt := 64) (n := 55) dX11_layVoice_52 (by decide) rfl (by omega) (fun h52 => ?_) (fun h52 => ?_)
            · skip
              refine ZV_iincN_5 (v := 1) (n := 67) dX11_layVoice_64 rfl rfl (Nat.le_of_ble_eq_true rfl) rfl ?_
              refine ZV_goto (tgt := 22) dX11_layVoice_67 (by decide) ?_
              refine ZV_fg_6 ?_
              exact ih (q + 1) (h_sr T (va_u2 (g_sr T) s (va_up (g_sr T s) j9 (g_pi T e9 0)))) σ9 (by show g_mn T v2 - (q + 1) < n9; omega) (by show q + 1 ≤ g_mn T v2; omega) hG (tI_sr hI _) (kI_e hK ⟨rfl, rfl, rfl, rfl, rfl, rfl, rfl, rfl, rfl, rfl, rfl, rfl, rfl, rfl, rfl, rfl, rfl, rfl, rfl, rfl⟩) (by rw [← hX, show g_mn T v2 - q = (g_mn T v2 - (q + 1)) + 1 by omega, lyS, hok.1, if_pos rfl, hok.2]; rfl) hv (fun p => hF p) hs9 (Or.inr (by have := ti_sk hI s hs4; omega))
            · skip
              exact absurd rfl h52
    exact loop _ 0 T σ (Nat.lt_succ_self _) (Nat.zero_le _) hG hI hK hX he2 (fun q => by rw [hF]) hs9 (Or.inl rfl)
set_option maxHeartbeats 4000000 in
set_option maxRecDepth 100000 in
theorem e_layRack_s {c B : Nat} {σ : ZS} {T : TS} {K : KS} (hG : cG c B σ T K) (hI : tI T) (hK : kI T K) (v a : Int32) {s : Nat} (hs4 : s < 4) (hs9 : g_hs T s = true) : ZC M_X11_layRack [Ar (some c), Ai v, Ar (some (k_wa K (s + 4))), Ai a] σ (fun y0 τ0 => y0 = some (Ai (sp_lay T v true (nI s) a).1) ∧ cR c τ0 (sp_lay T v true (nI s) a).2) := by
  have hbd := cf_bd hG
  refine ZC_of (ls := [some (Ar (some c)), some (Ai v), some (Ar (some (k_wa K (s + 4)))), some (Ai a), none, none, none]) (by decide) (Nat.le_of_ble_eq_true rfl) rfl ?_
  refine ZV_iload_n (n := 1) dX11_layRack_0 rfl rfl rfl ?_
  refine call_X11_359 (e_isRowNumber _ _) rfl dX11_layRack_1 (Nat.le_of_ble_eq_true rfl) (Nat.le_of_ble_eq_true rfl) rfl (fun r9 σ9 hp9 => ?_)
  obtain ⟨rfl, hs9⟩ := hp9
  subst σ9
  refine ZV_if_neB (tgt := 14) (n := 7) dX11_layRack_4 (by decide) rfl (fun h4 => ?_) (fun h4 => ?_)
  · skip
    obtain ⟨v9, hv9, hv92, rfl⟩ := inB_t h4
    have hcv9 : (nI v9).toNatClampNeg = v9 := nI_clamp hv92
    have h4 : inB (nI v9) 4 = true := h4
    refine ZV_aload_n (n := 15) dX11_layRack_14 rfl rfl rfl ?_
    refine ZV_getRv (n := 18) dX11_layRack_15 fl_X11_74 rfl rfl rfl (cf_sh hG :).1 (ca_racks (cf_sh hG :)) ?_
    refine ZV_iload_n (n := 19) dX11_layRack_18 rfl rfl rfl ?_
    rcases hb19 : g_hr T v9 with _ | _
    · skip
      refine ZV_aaldv (c0 := 5) (w := none) (j := v9) (n := 20) dX11_layRack_19 rfl (by decide) rfl (ck_racks (cf_sh hG :)) rfl (by omega) (Eq.trans (cf_ra hG v9 (by omega)) (if_neg (by rw [hb19]; exact Bool.false_ne_true))) ?_
      refine ZV_astore_4 (n := 22) dX11_layRack_20 rfl (Nat.le_of_ble_eq_true rfl) rfl ?_
      refine ZV_aload (n := 24) dX11_layRack_22 rfl rfl ?_
      refine ZV_ifnonnull_n (tgt := 35) (n := 27) dX11_layRack_24 (by decide) rfl ?_
      refine ZV_aload_n (n := 28) dX11_layRack_27 rfl rfl rfl ?_
      refine ZV_bipush (v := -11) (n := 30) dX11_layRack_28 rfl rfl ?_
      refine ZV_iconst (v := nI 0) (n := 31) dX11_layRack_30 rfl rfl ?_
      refine call_X11_207 (e_failTelling hG (-11) _ 0 (by decide) rfl) rfl dX11_layRack_31 rfl (cf_sh hG :).1 (Nat.le_of_ble_eq_true rfl) (Nat.le_of_ble_eq_true rfl) rfl (fun r9 σ9 hp9 => ?_)
      obtain ⟨rfl, hG⟩ := hp9
      refine ZV_iret dX11_layRack_34 rfl ?_
      exact zlC (v := sFl T 0 (-11) 0) (by simp [sp_lay, h4, inB_nI_t hs4 (show s < 2147483648 by omega), hcv9, hb19]) rfl ⟨B, K, hG, kI_e hK ⟨rfl, rfl, rfl, rfl, rfl, rfl, rfl, rfl, rfl, rfl, rfl, rfl, rfl, rfl, rfl, rfl, rfl, rfl, rfl, rfl⟩⟩
    · skip
      refine ZV_aaldv (c0 := 5) (w := some (k_wa K v9)) (j := v9) (n := 20) dX11_layRack_19 rfl (by decide) rfl (ck_racks (cf_sh hG :)) rfl (by omega) (Eq.trans (cf_ra hG v9 (by omega)) (if_pos hb19)) ?_
      refine ZV_astore_4 (n := 22) dX11_layRack_20 rfl (Nat.le_of_ble_eq_true rfl) rfl ?_
      refine ZV_aload (n := 24) dX11_layRack_22 rfl rfl ?_
      refine ZV_ifnonnull_s (tgt := 35) dX11_layRack_24 (by decide) ?_
      refine ZV_iconst (v := nI 0) (n := 36) dX11_layRack_35 rfl rfl ?_
      refine ZV_istore_5 (n := 38) dX11_layRack_36 rfl (Nat.le_of_ble_eq_true rfl) rfl ?_
      have hsp : sp_lay T (nI v9) true (nI s) a = lyS (g_rr T v9) s a (g_rs T v9) 0 T := by rw [sp_lay, if_pos ⟨h4, inB_nI_t hs4 (by omega)⟩, if_pos rfl, hcv9, if_neg (tne hb19), nI_clamp (by omega), lyS_su]
      rw [hsp]
      obtain ⟨F, hF⟩ : ∃ F, F = (g_rr T v9) := ⟨_, rfl⟩
      rw [← hF]
      generalize hX : lyS F s a (g_rs T v9) 0 T = X
      have loop : ∀ (n9 : Nat) (q : Nat) (T : TS) (τ : ZS), g_rs T v9 - q < n9 → q ≤ g_rs T v9 → cG c B τ T K → tI T → kI T K → lyS F s a (g_rs T v9 - q) q T = X → v9 < 4 ∧ g_hr T v9 = true → (∀ q, F q = g_rr T v9 q) → g_hs T s = true → q = 0 ∨ (0 ≤ a.toInt + q ∧ a.toInt + q ≤ 60) → ZV M_X11_layRack (fun y0 τ0 => y0 = some (Ai X.1) ∧ cR c τ0 X.2) 38 [some (Ar (some c)), some (Ai (nI v9)), some (Ar (some (k_wa K (s + 4)))), some (Ai a), some (Ar (some (k_wa K v9))), some (Ai (nI q)), none] [] τ (zmC M_X11_layRack) (zmS M_X11_layRack) := by
        intro n9
        induction n9 with
        | zero => intro q T τ hme; exact absurd hme (Nat.not_lt_zero _)
        | succ n9 ih =>
          intro q T τ hme hq hG hI hK hX hv hF hs9 hqa
          have hnp9 := ti_np hI
          have hbd := cf_bd hG
          have hrk9 := ti_rk hI v9 hv.1
          refine ZV_iload (n := 40) dX11_layRack_38 rfl rfl ?_
          refine ZV_aload (n := 42) dX11_layRack_40 rfl rfl ?_
          refine ZV_getRv (n := 45) dX11_layRack_42 fl_X11_372 rfl rfl rfl (cf_rk hG v9 hv.1 hv.2).1 (cf_rt hG v9 hv.1 hv.2) ?_
          refine ZV_alen (t := 0) (n := 46) dX11_layRack_45 rfl rfl (cf_rk hG v9 hv.1 hv.2).2.1 (by decide) ?_
          refine ZV_icmp_geN (tgt := 91) (n := 49) dX11_layRack_46 (by decide) rfl (by omega) (by omega) (fun h46 => ?_) (fun h46 => ?_)
          · skip
            refine ZV_aload_n (n := 92) dX11_layRack_91 rfl rfl rfl ?_
            refine ZV_aload (n := 94) dX11_layRack_92 rfl rfl ?_
            refine ZV_getRv (n := 97) dX11_layRack_94 fl_X11_372 rfl rfl rfl (cf_rk hG v9 hv.1 hv.2).1 (cf_rt hG v9 hv.1 hv.2) ?_
            refine ZV_alen (t := 0) (n := 98) dX11_layRack_97 rfl rfl (cf_rk hG v9 hv.1 hv.2).2.1 (by decide) ?_
            refine call_X11_98 (e_done hG _) rfl dX11_layRack_98 rfl (cf_sh hG :).1 (Nat.le_of_ble_eq_true rfl) (Nat.le_of_ble_eq_true rfl) rfl (fun r9 σ9 hp9 => ?_)
            obtain ⟨rfl, hG⟩ := hp9
            refine ZV_iret dX11_layRack_101 rfl ?_
            obtain rfl : q = g_rs T v9 := by omega
            rw [Nat.sub_self] at hX
            exact zlC (v := sOk T (nI (g_rs T v9))) hX.symm rfl ⟨B, K, hG, kI_e hK ⟨rfl, rfl, rfl, rfl, rfl, rfl, rfl, rfl, rfl, rfl, rfl, rfl, rfl, rfl, rfl, rfl, rfl, rfl, rfl, rfl⟩⟩
          · skip
            refine ZV_aload_n (n := 50) dX11_layRack_49 rfl rfl rfl ?_
            refine ZV_aload (n := 52) dX11_layRack_50 rfl rfl ?_
            refine ZV_getRv (n := 55) dX11_layRack_52 fl_X11_372 rfl rfl rfl (cf_rk hG v9 hv.1 hv.2).1 (cf_rt hG v9 hv.1 hv.2) ?_
            refine ZV_iload (n := 57) dX11_layRack_55 rfl rfl ?_
            refine ZV_ialdv (j := q) (n := 58) dX11_layRack_57 rfl rfl (cf_rk hG v9 hv.1 hv.2).2.1 rfl (by omega) (cf_rr hG v9 q hv.1 hv.2 (by omega)) ?_
            rcases hq9 : g_rr T v9 q with _ | e8
            · skip
              refine call_X11_155 (e_eventOf hG _) rfl dX11_layRack_58 rfl (cf_sh hG :).1 (Nat.le_of_ble_eq_true rfl) (Nat.le_of_ble_eq_true rfl) rfl (fun r9 σ9 hp9 => ?_)
              obtain ⟨hs8, hp9⟩ := hp9
              subst σ9
              rcases hp9 with ⟨-, rfl⟩ | ⟨j8, hj8, -, hn8, -⟩
              · have hfq : F q = none := (hF q).trans hq9
                refine ZV_aload_n (n := 62) dX11_layRack_61 rfl rfl rfl ?_
                refine ZV_iload_n (n := 63) dX11_layRack_62 rfl rfl rfl ?_
                refine ZV_iload (n := 65) dX11_layRack_63 rfl rfl ?_
                refine ZV_iadd (n := 66) dX11_layRack_65 rfl ?_
                refine call_X11_496 (e_layOne_ns _ _ _) rfl dX11_layRack_66 (Nat.le_of_ble_eq_true rfl) (Nat.le_of_ble_eq_true rfl) rfl (fun r9 σ9 hp9 => ?_)
                obtain ⟨rfl, hs8⟩ := hp9
                subst σ9
                have hbad : sp_lays T (F q) s (a.toInt + q) = (false, (sFl T 0 (-11) (-11)).2) := by rw [hfq]; rfl
                refine ZV_istore_6 (n := 71) dX11_layRack_69 rfl (Nat.le_of_ble_eq_true rfl) rfl ?_
                refine ZV_iload (n := 73) dX11_layRack_71 rfl rfl ?_
                refine ZV_if_eq (tgt := 85) (n := 76) dX11_layRack_73 (by decide) rfl (fun h73 => ?_) (fun h73 => ?_)
                · skip
                  exact absurd h73 (by decide)
                · skip
                  refine ZV_aload_n (n := 77) dX11_layRack_76 rfl rfl rfl ?_
                  refine ZV_iload (n := 79) dX11_layRack_77 rfl rfl ?_
                  refine ZV_iload (n := 81) dX11_layRack_79 rfl rfl ?_
                  refine call_X11_207 (e_failTelling hG (-11) _ 0 (by decide) rfl) rfl dX11_layRack_81 rfl (cf_sh hG :).1 (Nat.le_of_ble_eq_true rfl) (Nat.le_of_ble_eq_true rfl) rfl (fun r9 σ9 hp9 => ?_)
                  obtain ⟨rfl, hG⟩ := hp9
                  refine ZV_iret dX11_layRack_84 rfl ?_
                  rw [show g_rs T v9 - q = (g_rs T v9 - (q + 1)) + 1 by omega, lyS, hbad] at hX
                  rw [if_neg Bool.false_ne_true] at hX
                  rw [← hX]
                  exact ⟨rfl, B, K, hG, kI_e hK ⟨rfl, rfl, rfl, rfl, rfl, rfl, rfl, rfl, rfl, rfl, rfl, rfl, rfl, rfl, rfl, rfl, rfl, rfl, rfl, rfl⟩⟩
              · exact absurd hn8.symm (nI_ne_m1 (by omega))
            · skip
              have hev9 := ti_rr hI v9 q e8 hv.1 hv.2 (by omega) hq9
              refine call_X11_155 (e_eventOf hG _) rfl dX11_layRack_58 rfl (cf_sh hG :).1 (Nat.le_of_ble_eq_true rfl) (Nat.le_of_ble_eq_true rfl) rfl (fun r9 σ9 hp9 => ?_)
              obtain ⟨hs8, hp9⟩ := hp9
              subst σ9
              rcases hp9 with ⟨hno, rfl⟩ | ⟨j8, hj8, hj8t, hn8, rfl⟩
              · rw [show oI (some e8) = nI e8 from rfl, evB_nI hI hev9.1 hev9.2] at hno
                cases hno
              · obtain rfl : e8 = j8 := (nI_eq (by omega) (by omega)).mp hn8
                have hfq : F q = some e8 := (hF q).trans hq9
                refine ZV_aload_n (n := 62) dX11_layRack_61 rfl rfl rfl ?_
                refine ZV_iload_n (n := 63) dX11_layRack_62 rfl rfl rfl ?_
                refine ZV_iload (n := 65) dX11_layRack_63 rfl rfl ?_
                refine ZV_iadd (n := 66) dX11_layRack_65 rfl ?_
                obtain ⟨e9, he9⟩ : ∃ e, e = e8 := ⟨_, rfl⟩
                rw [← he9] at hfq hev9 ⊢
                refine call_X11_496 (e_layOne_es hG hI hev9.1 hs4 hs9 _) rfl dX11_layRack_66 (Nat.le_of_ble_eq_true rfl) (Nat.le_of_ble_eq_true rfl) rfl (fun r9 σ9 hp9 => ?_)
                rcases hp9 with ⟨hn9, rfl, hs8⟩ | ⟨hn9, hi9, rfl, hs8⟩ | ⟨hn9, j9, hj9, hae, rfl, hG⟩
                · subst σ9
                  have hbad : sp_lays T (F q) s (a.toInt + q) = (false, (sFl T 2 (-13) (-13)).2) := by rw [hfq]; simp [sp_lays, hn9]
                  refine ZV_istore_6 (n := 71) dX11_layRack_69 rfl (Nat.le_of_ble_eq_true rfl) rfl ?_
                  refine ZV_iload (n := 73) dX11_layRack_71 rfl rfl ?_
                  refine ZV_if_eq (tgt := 85) (n := 76) dX11_layRack_73 (by decide) rfl (fun h73 => ?_) (fun h73 => ?_)
                  · skip
                    exact absurd h73 (by decide)
                  · skip
                    refine ZV_aload_n (n := 77) dX11_layRack_76 rfl rfl rfl ?_
                    refine ZV_iload (n := 79) dX11_layRack_77 rfl rfl ?_
                    refine ZV_iload (n := 81) dX11_layRack_79 rfl rfl ?_
                    refine call_X11_207 (e_failTelling hG (-13) _ 2 (by decide) rfl) rfl dX11_layRack_81 rfl (cf_sh hG :).1 (Nat.le_of_ble_eq_true rfl) (Nat.le_of_ble_eq_true rfl) rfl (fun r9 σ9 hp9 => ?_)
                    obtain ⟨rfl, hG⟩ := hp9
                    refine ZV_iret dX11_layRack_84 rfl ?_
                    rw [show g_rs T v9 - q = (g_rs T v9 - (q + 1)) + 1 by omega, lyS, hbad] at hX
                    rw [if_neg Bool.false_ne_true] at hX
                    rw [← hX]
                    exact ⟨rfl, B, K, hG, kI_e hK ⟨rfl, rfl, rfl, rfl, rfl, rfl, rfl, rfl, rfl, rfl, rfl, rfl, rfl, rfl, rfl, rfl, rfl, rfl, rfl, rfl⟩⟩
                · subst σ9
                  rw [ly_in (by omega) hqa] at hi9
                  have hi8 := of_decide_eq_false hi9
                  have hbad : sp_lays T (F q) s (a.toInt + q) = (false, (sFl T 1 (-12) (-12)).2) := by rw [hfq]; simp only [sp_lays]; rw [if_neg (tne hn9), if_neg (tne hs9), if_neg hi8]
                  refine ZV_istore_6 (n := 71) dX11_layRack_69 rfl (Nat.le_of_ble_eq_true rfl) rfl ?_
                  refine ZV_iload (n := 73) dX11_layRack_71 rfl rfl ?_
                  refine ZV_if_eq (tgt := 85) (n := 76) dX11_layRack_73 (by decide) rfl (fun h73 => ?_) (fun h73 => ?_)
                  · skip
                    exact absurd h73 (by decide)
                  · skip
                    refine ZV_aload_n (n := 77) dX11_layRack_76 rfl rfl rfl ?_
                    refine ZV_iload (n := 79) dX11_layRack_77 rfl rfl ?_
                    refine ZV_iload (n := 81) dX11_layRack_79 rfl rfl ?_
                    refine call_X11_207 (e_failTelling hG (-12) _ 1 (by decide) rfl) rfl dX11_layRack_81 rfl (cf_sh hG :).1 (Nat.le_of_ble_eq_true rfl) (Nat.le_of_ble_eq_true rfl) rfl (fun r9 σ9 hp9 => ?_)
                    obtain ⟨rfl, hG⟩ := hp9
                    refine ZV_iret dX11_layRack_84 rfl ?_
                    rw [show g_rs T v9 - q = (g_rs T v9 - (q + 1)) + 1 by omega, lyS, hbad] at hX
                    rw [if_neg Bool.false_ne_true] at hX
                    rw [← hX]
                    exact ⟨rfl, B, K, hG, kI_e hK ⟨rfl, rfl, rfl, rfl, rfl, rfl, rfl, rfl, rfl, rfl, rfl, rfl, rfl, rfl, rfl, rfl, rfl, rfl, rfl, rfl⟩⟩
                · skip
                  have hsk := ti_sk hI s hs4
                  have hix := ly_idx (by omega) hqa
                  rw [hae, nI_toInt (by omega)] at hix
                  have hok : (sp_lays T (F q) s (a.toInt + q)).1 = true ∧ (sp_lays T (F q) s (a.toInt + q)).2 = h_sr T (va_u2 (g_sr T) s (va_up (g_sr T s) j9 (g_pi T e9 0))) := by
                    rw [hfq]
                    simp only [sp_lays]
                    rw [if_neg (tne hn9), if_neg (tne hs9), if_pos (by omega), show (a.toInt + (q : Int)).toNat = j9 by omega]
                    exact ⟨rfl, rfl⟩
                  refine ZV_istore_6 (n := 71) dX11_layRack_69 rfl (Nat.le_of_ble_eq_true rfl) rfl ?_
                  refine ZV_iload (n := 73) dX11_layRack_71 rfl rfl ?_
                  refine ZV_if_eqN (tgt := 85) (n := 76) dX11_layRack_73 (by decide) rfl (by omega) (fun h73 => ?_) (fun h73 => ?_)
                  · skip
                    refine ZV_iincN_5 (v := 1) (n := 88) dX11_layRack_85 rfl rfl (Nat.le_of_ble_eq_true rfl) rfl ?_
                    refine ZV_goto (tgt := 38) dX11_layRack_88 (by decide) ?_
                    refine ZV_fg_6 ?_
                    exact ih (q + 1) (h_sr T (va_u2 (g_sr T) s (va_up (g_sr T s) j9 (g_pi T e9 0)))) σ9 (by show g_rs T v9 - (q + 1) < n9; omega) (by show q + 1 ≤ g_rs T v9; omega) hG (tI_sr hI _) (kI_e hK ⟨rfl, rfl, rfl, rfl, rfl, rfl, rfl, rfl, rfl, rfl, rfl, rfl, rfl, rfl, rfl, rfl, rfl, rfl, rfl, rfl⟩) (by rw [← hX, show g_rs T v9 - q = (g_rs T v9 - (q + 1)) + 1 by omega, lyS, hok.1, if_pos rfl, hok.2]; rfl) hv (fun p => hF p) hs9 (Or.inr (by have := ti_sk hI s hs4; omega))
                  · skip
                    exact absurd rfl h73
      exact loop _ 0 T σ (Nat.lt_succ_self _) (Nat.zero_le _) hG hI hK hX ⟨hv9, hb19⟩ (fun q => by rw [hF]) hs9 (Or.inl rfl)
  · skip
    refine ZV_aload_n (n := 8) dX11_layRack_7 rfl rfl rfl ?_
    refine ZV_bipush (v := -2) (n := 10) dX11_layRack_8 rfl rfl ?_
    refine call_X11_87 (e_refuse hG _) rfl dX11_layRack_10 rfl (cf_sh hG :).1 (Nat.le_of_ble_eq_true rfl) (Nat.le_of_ble_eq_true rfl) rfl (fun r9 σ9 hp9 => ?_)
    obtain ⟨rfl, hG⟩ := hp9
    refine ZV_iret dX11_layRack_13 rfl ?_
    exact zlC (v := sNo T (-2)) (by simp [sp_lay, h4]) rfl ⟨B, K, hG, kI_e hK ⟨rfl, rfl, rfl, rfl, rfl, rfl, rfl, rfl, rfl, rfl, rfl, rfl, rfl, rfl, rfl, rfl, rfl, rfl, rfl, rfl⟩⟩
set_option maxHeartbeats 4000000 in
set_option maxRecDepth 100000 in
theorem q_lay {c : Nat} {σ : ZS} {T : TS} (hR : cR c σ T) (hI : tI T) (v : Int32) (b : Bool) (s a : Int32) : ZC M_X11_lay [Ar (some c), Ai v, Ai (bI b), Ai s, Ai a] σ (fun y0 τ0 => y0 = some (Ai (sp_lay T v b s a).1) ∧ cR c τ0 (sp_lay T v b s a).2) := by
  obtain ⟨B, K, hG, hK⟩ := hR
  have hbd := cf_bd hG
  refine ZC_of (ls := [some (Ar (some c)), some (Ai v), some (Ai (bI b)), some (Ai s), some (Ai a)]) (by decide) (Nat.le_of_ble_eq_true rfl) rfl ?_
  refine ZV_iload_n (n := 1) dX11_lay_0 rfl rfl rfl ?_
  refine call_X11_359 (e_isRowNumber _ _) rfl dX11_lay_1 (Nat.le_of_ble_eq_true rfl) (Nat.le_of_ble_eq_true rfl) rfl (fun r9 σ9 hp9 => ?_)
  obtain ⟨rfl, hs9⟩ := hp9
  subst σ9
  refine ZV_if_neB (tgt := 14) (n := 7) dX11_lay_4 (by decide) rfl (fun h4 => ?_) (fun h4 => ?_)
  · skip
    obtain ⟨a9, ha9, ha92, rfl⟩ := inB_t h4
    have hca9 : (nI a9).toNatClampNeg = a9 := nI_clamp ha92
    refine ZV_iload_n (n := 15) dX11_lay_14 rfl rfl rfl ?_
    refine ZV_if_eqB (tgt := 34) (n := 18) dX11_lay_15 (by decide) rfl (fun h15 => ?_) (fun h15 => ?_)
    · skip
      refine ZV_aload_n (n := 35) dX11_lay_34 rfl rfl rfl ?_
      refine ZV_iload_n (n := 36) dX11_lay_35 rfl rfl rfl ?_
      refine ZV_aload_n (n := 37) dX11_lay_36 rfl rfl rfl ?_
      refine ZV_getRv (n := 40) dX11_lay_37 fl_X11_78 rfl rfl rfl (cf_sh hG :).1 (ca_shelves (cf_sh hG :)) ?_
      refine ZV_iload_n (n := 41) dX11_lay_40 rfl rfl rfl ?_
      rcases hb41 : g_hs T a9 with _ | _
      · skip
        refine ZV_aaldv (c0 := 5) (w := none) (j := a9) (n := 42) dX11_lay_41 rfl (by decide) rfl (ck_shelves (cf_sh hG :)) rfl (by omega) (Eq.trans (cf_sa hG a9 (by omega)) (if_neg (by rw [hb41]; exact Bool.false_ne_true))) ?_
        refine ZV_iload (n := 44) dX11_lay_42 rfl rfl ?_
        refine call_X11_389 (e_layVoice_n hG hI hK v a ha9 hb41) rfl dX11_lay_44 rfl (cf_sh hG :).1 (Nat.le_of_ble_eq_true rfl) (Nat.le_of_ble_eq_true rfl) rfl (fun r9 σ9 hp9 => ?_)
        obtain ⟨rfl, hR⟩ := hp9
        refine ZV_iret dX11_lay_47 rfl ?_
        rw [h15]
        exact ⟨rfl, hR⟩
      · skip
        refine ZV_aaldv (c0 := 5) (w := some (k_wa K (a9 + 4))) (j := a9) (n := 42) dX11_lay_41 rfl (by decide) rfl (ck_shelves (cf_sh hG :)) rfl (by omega) (Eq.trans (cf_sa hG a9 (by omega)) (if_pos hb41)) ?_
        refine ZV_iload (n := 44) dX11_lay_42 rfl rfl ?_
        refine call_X11_389 (e_layVoice_s hG hI hK v a ha9 hb41) rfl dX11_lay_44 rfl (cf_sh hG :).1 (Nat.le_of_ble_eq_true rfl) (Nat.le_of_ble_eq_true rfl) rfl (fun r9 σ9 hp9 => ?_)
        obtain ⟨rfl, hR⟩ := hp9
        refine ZV_iret dX11_lay_47 rfl ?_
        rw [h15]
        exact ⟨rfl, hR⟩
    · skip
      refine ZV_aload_n (n := 19) dX11_lay_18 rfl rfl rfl ?_
      refine ZV_iload_n (n := 20) dX11_lay_19 rfl rfl rfl ?_
      refine ZV_aload_n (n := 21) dX11_lay_20 rfl rfl rfl ?_
      refine ZV_getRv (n := 24) dX11_lay_21 fl_X11_78 rfl rfl rfl (cf_sh hG :).1 (ca_shelves (cf_sh hG :)) ?_
      refine ZV_iload_n (n := 25) dX11_lay_24 rfl rfl rfl ?_
      rcases hb25 : g_hs T a9 with _ | _
      · skip
        refine ZV_aaldv (c0 := 5) (w := none) (j := a9) (n := 26) dX11_lay_25 rfl (by decide) rfl (ck_shelves (cf_sh hG :)) rfl (by omega) (Eq.trans (cf_sa hG a9 (by omega)) (if_neg (by rw [hb25]; exact Bool.false_ne_true))) ?_
        refine ZV_iload (n := 28) dX11_lay_26 rfl rfl ?_
        refine call_X11_385 (e_layRack_n hG hI hK v a ha9 hb25) rfl dX11_lay_28 rfl (cf_sh hG :).1 (Nat.le_of_ble_eq_true rfl) (Nat.le_of_ble_eq_true rfl) rfl (fun r9 σ9 hp9 => ?_)
        obtain ⟨rfl, hR⟩ := hp9
        refine ZV_goto (tgt := 47) dX11_lay_31 (by decide) ?_
        refine ZV_iret dX11_lay_47 rfl ?_
        rw [h15]
        exact ⟨rfl, hR⟩
      · skip
        refine ZV_aaldv (c0 := 5) (w := some (k_wa K (a9 + 4))) (j := a9) (n := 26) dX11_lay_25 rfl (by decide) rfl (ck_shelves (cf_sh hG :)) rfl (by omega) (Eq.trans (cf_sa hG a9 (by omega)) (if_pos hb25)) ?_
        refine ZV_iload (n := 28) dX11_lay_26 rfl rfl ?_
        refine call_X11_385 (e_layRack_s hG hI hK v a ha9 hb25) rfl dX11_lay_28 rfl (cf_sh hG :).1 (Nat.le_of_ble_eq_true rfl) (Nat.le_of_ble_eq_true rfl) rfl (fun r9 σ9 hp9 => ?_)
        obtain ⟨rfl, hR⟩ := hp9
        refine ZV_goto (tgt := 47) dX11_lay_31 (by decide) ?_
        refine ZV_iret dX11_lay_47 rfl ?_
        rw [h15]
        exact ⟨rfl, hR⟩
  · skip
    refine ZV_aload_n (n := 8) dX11_lay_7 rfl rfl rfl ?_
    refine ZV_bipush (v := -2) (n := 10) dX11_lay_8 rfl rfl ?_
    refine call_X11_87 (e_refuse hG _) rfl dX11_lay_10 rfl (cf_sh hG :).1 (Nat.le_of_ble_eq_true rfl) (Nat.le_of_ble_eq_true rfl) rfl (fun r9 σ9 hp9 => ?_)
    obtain ⟨rfl, hG⟩ := hp9
    refine ZV_iret dX11_lay_13 rfl ?_
    exact zlC (v := sNo T (-2)) (by simp [sp_lay, h4]) rfl ⟨B, K, hG, kI_e hK ⟨rfl, rfl, rfl, rfl, rfl, rfl, rfl, rfl, rfl, rfl, rfl, rfl, rfl, rfl, rfl, rfl, rfl, rfl, rfl, rfl⟩⟩
