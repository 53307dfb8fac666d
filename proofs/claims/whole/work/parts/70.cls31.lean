theorem three {b : Nat → Bool} {i j k n : Nat} (hi : b i = true) (hj : b j = true) (hk : b k = true) (h1 : i < n) (h2 : j < n) (h3 : k < n) (d1 : i ≠ j) (d2 : j ≠ k) (d3 : i ≠ k) : 3 ≤ zcnt b n := by
  have a1 := zcnt_lt hi h1
  have a2 := zcnt_lt hj h2
  have a3 := zcnt_lt hk h3
  have b1 : i < j → zcnt b i + 1 ≤ zcnt b j := zcnt_lt hi
  have b2 : j < i → zcnt b j + 1 ≤ zcnt b i := zcnt_lt hj
  have b3 : j < k → zcnt b j + 1 ≤ zcnt b k := zcnt_lt hj
  have b4 : k < j → zcnt b k + 1 ≤ zcnt b j := zcnt_lt hk
  have b5 : i < k → zcnt b i + 1 ≤ zcnt b k := zcnt_lt hi
  have b6 : k < i → zcnt b k + 1 ≤ zcnt b i := zcnt_lt hk
  rcases Nat.lt_or_gt_of_ne d1 with q1 | q1 <;> rcases Nat.lt_or_gt_of_ne d2 with q2 | q2 <;> rcases Nat.lt_or_gt_of_ne d3 with q3 | q3 <;> omega
theorem inI_ne {T : TS} {u t : Nat} (h : inI T u t = true) : u ≠ t := fun q => by
  subst q
  unfold inI at h
  rw [decide_eq_false (fun z => z rfl)] at h
  simp at h
theorem in_one {T : TS} (hI : tI T) {t p u w : Nat} (ht : t < g_te T) (htt : g_tt T t = true) (hv : g_tv T t < 18) (hp : p < g_mn T (g_tv T t)) (h1 : g_pl T (g_tf T t) ≤ p) (h2 : p < g_pl T (g_tf T t) + szT T t) (hu : u < g_te T) (hw : w < g_te T) (cu : inI T u t = true ∧ liB T (g_ro T (g_tv T t) p) u = true) (cw : inI T w t = true ∧ liB T (g_ro T (g_tv T t) p) w = true) : w = u := by
  have hl : liB T (g_ro T (g_tv T t) p) t = true := by rw [li_at hI hv hp htt ht]; exact decide_eq_true ⟨rfl, h1, h2⟩
  have hc : zcnt (liB T (g_ro T (g_tv T t) p)) (g_te T) ≤ 2 := ti_tover hI _ _
  by_cases q : w = u
  · exact q
  · have := three cu.2 cw.2 hl hu hw ht (fun z => q z.symm) (inI_ne cw.1) (inI_ne cu.1)
    omega
theorem si_none {T : TS} {t e : Nat} (h : ∀ u, u < g_te T → ¬ (inI T u t = true ∧ liB T e u = true)) : ∀ n, n ≤ g_te T → siF T t e n = wrT T e
  | 0, _ => rfl
  | n + 1, hn => by rw [siF, if_neg (h n (by omega)), si_none h n (by omega)]
theorem si_some {T : TS} {t e u : Nat} (h : inI T u t = true ∧ liB T e u = true) (h1 : ∀ w, w < g_te T → inI T w t = true ∧ liB T e w = true → w = u) : ∀ n, n ≤ g_te T → siF T t e n = if u < n then wrT T e / g_tn T u * g_tm T u else wrT T e
  | 0, _ => by rw [if_neg (by omega)]; rfl
  | n + 1, hn => by
    rw [siF]
    by_cases hc : inI T n t = true ∧ liB T e n = true
    · have hq := h1 n (by omega) hc
      subst hq
      rw [if_pos hc, si_some h h1 n (by omega), if_neg (by omega), if_pos (by omega)]
    · have hq : n ≠ u := fun z => hc (by rw [z]; exact h)
      rw [if_neg hc, si_some h h1 n (by omega)]
      by_cases q : u < n
      · rw [if_pos q, if_pos (by omega)]
      · rw [if_neg q, if_neg (by omega)]
theorem dv_mul {w n m : Nat} (h : n ∣ w) (hn : 0 < n) : w * m / n = w / n * m := by
  obtain ⟨q, rfl⟩ := h
  rw [Nat.mul_assoc, Nat.mul_div_cancel_left _ hn, Nat.mul_div_cancel_left _ hn]
theorem si_sq {T : TS} (hI : tI T) {t p u : Nat} (ht : t < g_te T) (htt : g_tt T t = true) (hv : g_tv T t < 18) (hp : p < g_mn T (g_tv T t)) (h1 : g_pl T (g_tf T t) ≤ p) (h2 : p < g_pl T (g_tf T t) + szT T t) (hu : u < g_te T) (cu : inI T u t = true ∧ liB T (g_ro T (g_tv T t) p) u = true) : siF T t (g_ro T (g_tv T t) p) (g_te T) = wrT T (g_ro T (g_tv T t) p) * g_tm T u / g_tn T u := by
  have hr := ti_ro hI _ p hv hp
  have hn := ti_tn hI u hu
  rw [si_some cu (fun w hw cw => in_one hI ht htt hv hp h1 h2 hu hw cu cw) _ (Nat.le_refl _), if_pos hu]
  obtain ⟨q, hq⟩ := wr_mul (ti_va hI _ hr.1) (ti_dt hI _ hr.1)
  rw [hq, dv_mul (n44 hn q) (by omega)]
set_option maxHeartbeats 4000000 in
set_option maxRecDepth 100000 in
theorem e_innerAt {c B : Nat} {σ : ZS} {T : TS} {K : KS} (hG : cG c B σ T K) (hI : tI T) (hK : kI T K) {t p : Nat} (ht : t < g_te T) (htt : g_tt T t = true) (hp : p < g_mn T (g_tv T t)) : ZC M_X11_innerAt [Ar (some c), Ar (some (k_ta K t)), Ai (nI p)] σ (fun r τ => τ = σ ∧ (((∀ u, u < g_te T → ¬ (inI T u t = true ∧ liB T (g_ro T (g_tv T t) p) u = true)) ∧ r = some (Ar none)) ∨ ∃ u, u < g_te T ∧ g_tt T u = true ∧ (inI T u t = true ∧ liB T (g_ro T (g_tv T t) p) u = true) ∧ r = some (Ar (some (k_ta K u))))) := by
  have hbd := cf_bd hG
  have hvt := tv_lt hI ht htt
  have hv18 : g_tv T t < 18 := by omega
  have hmn := ti_mn hI (g_tv T t)
  refine ZC_of (ls := [some (Ar (some c)), some (Ar (some (k_ta K t))), some (Ai (nI p)), none]) (by decide) (Nat.le_of_ble_eq_true rfl) rfl ?_
  have loop : ∀ (n9 : Nat) (u : Nat), g_te T - u < n9 → u ≤ g_te T → (∀ w, w < u → ¬ (inI T w t = true ∧ liB T (g_ro T (g_tv T t) p) w = true)) → ZV M_X11_innerAt (fun r τ => τ = σ ∧ (((∀ u, u < g_te T → ¬ (inI T u t = true ∧ liB T (g_ro T (g_tv T t) p) u = true)) ∧ r = some (Ar none)) ∨ ∃ u, u < g_te T ∧ g_tt T u = true ∧ (inI T u t = true ∧ liB T (g_ro T (g_tv T t) p) u = true) ∧ r = some (Ar (some (k_ta K u))))) 2 [some (Ar (some c)), some (Ar (some (k_ta K t))), some (Ai (nI p)), some (Ai (nI u))] [] σ (zmC M_X11_innerAt) (zmS M_X11_innerAt) := by
    intro n9
    induction n9 with
    | zero => intro u hme; exact absurd hme (Nat.not_lt_zero _)
    | succ n9 ih =>
      intro u hme hu hN
      refine ZV_iload_n (n := 3) dX11_innerAt_2 rfl rfl rfl ?_
      refine ZV_aload_n (n := 4) dX11_innerAt_3 rfl rfl rfl ?_
      refine ZV_getIv (n := 7) dX11_innerAt_4 fl_X11_47 rfl rfl rfl (cf_sh hG :).1 (cf_te hG :) ?_
      refine ZV_icmp_geN (tgt := 58) (n := 10) dX11_innerAt_7 (by decide) rfl (by omega) (by omega) (fun h7 => ?_) (fun h7 => ?_)
      · skip
        refine ZV_null (n := 59) dX11_innerAt_58 rfl ?_
        refine ZV_aret dX11_innerAt_59 rfl ?_
        obtain rfl : u = g_te T := by omega
        exact ⟨rfl, Or.inl ⟨hN, rfl⟩⟩
      · skip
        refine ZV_aload_n (n := 11) dX11_innerAt_10 rfl rfl rfl ?_
        refine ZV_getRv (n := 14) dX11_innerAt_11 fl_X11_43 rfl rfl rfl (cf_sh hG :).1 (ca_tuplets (cf_sh hG :)) ?_
        refine ZV_iload_n (n := 15) dX11_innerAt_14 rfl rfl rfl ?_
        rcases hb15 : g_tt T u with _ | _
        · skip
          refine ZV_aaldv (c0 := 3) (w := none) (j := u) (n := 16) dX11_innerAt_15 rfl (by decide) rfl (ck_tuplets (cf_sh hG :)) rfl (by omega) (Eq.trans (cf_ta hG u (by omega)) (if_neg (by rw [hb15]; exact Bool.false_ne_true))) ?_
          refine ZV_ifnull_n (tgt := 52) dX11_innerAt_16 (by decide) ?_
          refine ZV_iincN_3 (v := 1) (n := 55) dX11_innerAt_52 rfl rfl (Nat.le_of_ble_eq_true rfl) rfl ?_
          refine ZV_goto (tgt := 2) dX11_innerAt_55 (by decide) ?_
          have hN2 : ∀ w, w < u + 1 → ¬ (inI T w t = true ∧ liB T (g_ro T (g_tv T t) p) w = true) := by
            intro w hw
            rcases Nat.lt_succ_iff_lt_or_eq.mp hw with q | q
            · exact hN w q
            · rw [q]
              exact fun z => by
                have z1 := z.1
                unfold inI at z1
                rw [hb15] at z1
                simp at z1
          exact ih (u + 1) (by omega) (by omega) hN2
        · skip
          refine ZV_aaldv (c0 := 3) (w := some (k_ta K u)) (j := u) (n := 16) dX11_innerAt_15 rfl (by decide) rfl (ck_tuplets (cf_sh hG :)) rfl (by omega) (Eq.trans (cf_ta hG u (by omega)) (if_pos hb15)) ?_
          refine ZV_ifnull_s (tgt := 52) (n := 19) dX11_innerAt_16 (by decide) rfl ?_
          refine ZV_aload_n (n := 20) dX11_innerAt_19 rfl rfl rfl ?_
          refine ZV_getRv (n := 23) dX11_innerAt_20 fl_X11_43 rfl rfl rfl (cf_sh hG :).1 (ca_tuplets (cf_sh hG :)) ?_
          refine ZV_iload_n (n := 24) dX11_innerAt_23 rfl rfl rfl ?_
          refine ZV_aaldv (c0 := 3) (w := some (k_ta K u)) (j := u) (n := 25) dX11_innerAt_24 rfl (by decide) rfl (ck_tuplets (cf_sh hG :)) rfl (by omega) (Eq.trans (cf_ta hG u (by omega)) (if_pos hb15)) ?_
          refine ZV_aload_n (n := 26) dX11_innerAt_25 rfl rfl rfl ?_
          refine call_X11_458 (e_liesIn hG (t := u) (by omega) (u := t) ht hb15 htt (tv_lt hI (by omega) hb15) (tv_lt hI ht htt) (kt_b hI hK (by omega) hb15) (kt_b hI hK ht htt)) rfl dX11_innerAt_26 rfl (cf_tk hG u (by omega)).1 (Nat.le_of_ble_eq_true rfl) (Nat.le_of_ble_eq_true rfl) rfl (fun r9 σ9 hp9 => ?_)
          obtain ⟨rfl, hs9⟩ := hp9
          subst σ9
          refine ZV_if_eqB (tgt := 52) (n := 32) dX11_innerAt_29 (by decide) rfl (fun h29 => ?_) (fun h29 => ?_)
          · skip
            refine ZV_iincN_3 (v := 1) (n := 55) dX11_innerAt_52 rfl rfl (Nat.le_of_ble_eq_true rfl) rfl ?_
            refine ZV_goto (tgt := 2) dX11_innerAt_55 (by decide) ?_
            have hN2 : ∀ w, w < u + 1 → ¬ (inI T w t = true ∧ liB T (g_ro T (g_tv T t) p) w = true) := by
              intro w hw
              rcases Nat.lt_succ_iff_lt_or_eq.mp hw with q | q
              · exact hN w q
              · rw [q]
                exact fun z => by
                  rw [inI_k hI hK (t := u) (u := t) (by omega) hb15 ht htt, h29] at z
                  cases z.1
            exact ih (u + 1) (by omega) (by omega) hN2
          · skip
            refine ZV_aload_n (n := 33) dX11_innerAt_32 rfl rfl rfl ?_
            refine ZV_getRv (n := 36) dX11_innerAt_33 fl_X11_43 rfl rfl rfl (cf_sh hG :).1 (ca_tuplets (cf_sh hG :)) ?_
            refine ZV_iload_n (n := 37) dX11_innerAt_36 rfl rfl rfl ?_
            refine ZV_aaldv (c0 := 3) (w := some (k_ta K u)) (j := u) (n := 38) dX11_innerAt_37 rfl (by decide) rfl (ck_tuplets (cf_sh hG :)) rfl (by omega) (Eq.trans (cf_ta hG u (by omega)) (if_pos hb15)) ?_
            refine ZV_iload_n (n := 39) dX11_innerAt_38 rfl rfl rfl ?_
            refine call_X11_455 (e_covers hG (t := u) (by omega) (kt_b hI hK (by omega) hb15) (p := p) (by omega)) rfl dX11_innerAt_39 rfl (cf_tk hG u (by omega)).1 (Nat.le_of_ble_eq_true rfl) (Nat.le_of_ble_eq_true rfl) rfl (fun r9 σ9 hp9 => ?_)
            obtain ⟨rfl, hs9⟩ := hp9
            subst σ9
            refine ZV_if_eqB (tgt := 52) (n := 45) dX11_innerAt_42 (by decide) rfl (fun h42 => ?_) (fun h42 => ?_)
            · skip
              refine ZV_iincN_3 (v := 1) (n := 55) dX11_innerAt_52 rfl rfl (Nat.le_of_ble_eq_true rfl) rfl ?_
              refine ZV_goto (tgt := 2) dX11_innerAt_55 (by decide) ?_
              have hN2 : ∀ w, w < u + 1 → ¬ (inI T w t = true ∧ liB T (g_ro T (g_tv T t) p) w = true) := by
                intro w hw
                rcases Nat.lt_succ_iff_lt_or_eq.mp hw with q | q
                · exact hN w q
                · rw [q]
                  exact fun z => by
                    rw [li_at hI hv18 hp hb15 (show u < g_te T by omega)] at z
                    have z2 := of_decide_eq_true z.2
                    have z3 := of_decide_eq_false h42
                    have z4 := ki_kT hK u (by omega) hb15
                    omega
              exact ih (u + 1) (by omega) (by omega) hN2
            · skip
              refine ZV_aload_n (n := 46) dX11_innerAt_45 rfl rfl rfl ?_
              refine ZV_getRv (n := 49) dX11_innerAt_46 fl_X11_43 rfl rfl rfl (cf_sh hG :).1 (ca_tuplets (cf_sh hG :)) ?_
              refine ZV_iload_n (n := 50) dX11_innerAt_49 rfl rfl rfl ?_
              refine ZV_aaldv (c0 := 3) (w := some (k_ta K u)) (j := u) (n := 51) dX11_innerAt_50 rfl (by decide) rfl (ck_tuplets (cf_sh hG :)) rfl (by omega) (Eq.trans (cf_ta hG u (by omega)) (if_pos hb15)) ?_
              refine ZV_aret dX11_innerAt_51 rfl ?_
              refine ⟨rfl, Or.inr ⟨u, by omega, hb15, ⟨?_, ?_⟩, rfl⟩⟩
              · rw [inI_k hI hK (t := u) (u := t) (by omega) hb15 ht htt]
                exact h29
              · have z1 := of_decide_eq_true h29
                have z2 := of_decide_eq_true h42
                have z4 := ki_kT hK u (by omega) hb15
                rw [li_at hI hv18 hp hb15 (show u < g_te T by omega)]
                exact decide_eq_true ⟨z1.1, by omega, by omega⟩
  refine ZV_iconst (v := nI 0) (n := 1) dX11_innerAt_0 rfl rfl ?_
  refine ZV_istore_3 (n := 2) dX11_innerAt_1 rfl (Nat.le_of_ble_eq_true rfl) rfl ?_
  exact loop _ 0 (Nat.lt_succ_self _) (Nat.zero_le _) (fun w hw => absurd hw (Nat.not_lt_zero _))
set_option maxHeartbeats 4000000 in
set_option maxRecDepth 100000 in
theorem e_tupletIsFull {c B : Nat} {σ : ZS} {T : TS} {K : KS} (hG : cG c B σ T K) (hI : tI T) (hK : kI T K) {t : Nat} (ht : t < g_te T) (htt : g_tt T t = true) : ZC M_X11_tupletIsFull [Ar (some c), Ar (some (k_ta K t))] σ (fun y9 τ9 => y9 = some (Ai (bI (!swB T t))) ∧ τ9 = σ) := by
  have hbd := cf_bd hG
  have hvt := tv_lt hI ht htt
  have hv18 : g_tv T t < 18 := by omega
  have hmn := ti_mn hI (g_tv T t)
  have hkt := ki_kT hK t ht htt
  have htl := tl_lt hI ht htt
  have htn := ti_tn hI t ht
  have htu := ti_tu hI t ht
  refine ZC_of (ls := [some (Ar (some c)), some (Ar (some (k_ta K t))), none, none, none, none, none]) (by decide) (Nat.le_of_ble_eq_true rfl) rfl ?_
  have loop : ∀ (n9 : Nat) (k : Nat), szT T t - k < n9 → k ≤ szT T t → ZV M_X11_tupletIsFull (fun y9 τ9 => y9 = some (Ai (bI (!swB T t))) ∧ τ9 = σ) 8 [some (Ar (some c)), some (Ar (some (k_ta K t))), some (Al (lN (ssF T t k))), none, some (Ai (nI (g_pl T (g_tf T t) + k))), none, none] [] σ (zmC M_X11_tupletIsFull) (zmS M_X11_tupletIsFull) := by
    intro n9
    induction n9 with
    | zero => intro k hme; exact absurd hme (Nat.not_lt_zero _)
    | succ n9 ih =>
      intro k hme hk
      have hsl := ssF_le hI t k
      have hsl2 := ssF_le hI t (k + 1)
      refine ZV_iload (n := 10) dX11_tupletIsFull_8 rfl rfl ?_
      refine ZV_aload_n (n := 11) dX11_tupletIsFull_10 rfl rfl rfl ?_
      refine ZV_getIv (n := 14) dX11_tupletIsFull_11 fl_X11_291 rfl rfl rfl (cf_tk hG t ht).1 (show _ = nI (g_pl T (g_tf T t)) from (cf_t1 hG t ht).trans (by rw [hkt.1])) ?_
      refine ZV_aload_n (n := 15) dX11_tupletIsFull_14 rfl rfl rfl ?_
      refine ZV_getIv (n := 18) dX11_tupletIsFull_15 fl_X11_288 rfl rfl rfl (cf_tk hG t ht).1 (show _ = nI (szT T t) from (cf_t2 hG t ht).trans (by rw [hkt.2])) ?_
      refine ZV_iaddN (n := 19) dX11_tupletIsFull_18 rfl ?_
      refine ZV_icmp_geN (tgt := 79) (n := 22) dX11_tupletIsFull_19 (by decide) rfl (by omega) (by omega) (fun h19 => ?_) (fun h19 => ?_)
      · skip
        obtain rfl : k = szT T t := by omega
        refine ZV_lload_n (n := 80) dX11_tupletIsFull_79 rfl rfl rfl ?_
        refine ZV_aload_n (n := 81) dX11_tupletIsFull_80 rfl rfl rfl ?_
        refine ZV_getIv (n := 84) dX11_tupletIsFull_81 fl_X11_294 rfl rfl rfl (cf_tk hG t ht).1 (cf_tn hG t ht) ?_
        refine ZV_i2lN (n := 85) dX11_tupletIsFull_84 rfl (by omega) ?_
        refine ZV_ldc2 (v := lN 5644800) (n := 88) dX11_tupletIsFull_85 wd_1_220 rfl ?_
        refine ZV_aload_n (n := 89) dX11_tupletIsFull_88 rfl rfl rfl ?_
        refine ZV_getIv (n := 92) dX11_tupletIsFull_89 fl_X11_300 rfl rfl rfl (cf_tk hG t ht).1 (cf_tu hG t ht) ?_
        refine ZV_lshr (n := 93) dX11_tupletIsFull_92 rfl ?_
        refine ZV_topl (lsh_lem _ htu) ?_
        refine ZV_lmulN (n := 94) dX11_tupletIsFull_93 rfl ?_
        refine ZV_lcmp_neN (tgt := 102) (pc1 := 95) (n := 98) dX11_tupletIsFull_94 rfl dX11_tupletIsFull_95 (by decide) rfl (by omega) (by have := Nat.div_le_self 5644800 (2 ^ g_tu T t); have : g_tn T t * (5644800 / 2 ^ g_tu T t) ≤ 7 * 5644800 := Nat.mul_le_mul (by omega) this; omega) (fun h94 => ?_) (fun h94 => ?_)
        · skip
          refine ZV_iconst (v := nI 0) (n := 103) dX11_tupletIsFull_102 rfl rfl ?_
          refine ZV_zret dX11_tupletIsFull_103 rfl (by first | exact Or.inl rfl | exact Or.inr rfl) ?_
          refine ⟨?_, rfl⟩
          unfold swB
          rw [Nat.mul_comm] at h94
          first | (rw [decide_eq_true h94]; rfl) | (rw [decide_eq_false (fun z => z h94)]; rfl)
        · skip
          refine ZV_iconst (v := nI 1) (n := 99) dX11_tupletIsFull_98 rfl rfl ?_
          refine ZV_goto (tgt := 103) dX11_tupletIsFull_99 (by decide) ?_
          refine ZV_zret dX11_tupletIsFull_103 rfl (by first | exact Or.inl rfl | exact Or.inr rfl) ?_
          refine ⟨?_, rfl⟩
          unfold swB
          rw [Nat.mul_comm] at h94
          first | (rw [decide_eq_true h94]; rfl) | (rw [decide_eq_false (fun z => z h94)]; rfl)
      · skip
        have hro := ti_ro hI (g_tv T t) (g_pl T (g_tf T t) + k) hv18 (by omega)
        have hw9 := wrT_le T (g_ro T (g_tv T t) (g_pl T (g_tf T t) + k))
        refine ZV_aload_n (n := 23) dX11_tupletIsFull_22 rfl rfl rfl ?_
        refine ZV_getRv (n := 26) dX11_tupletIsFull_23 fl_X11_140 rfl rfl rfl (cf_tk hG t ht).1 (cf_to hG t ht htt) ?_
        refine ZV_iload (n := 28) dX11_tupletIsFull_26 rfl rfl ?_
        refine call_X11_265 (e_eventAtN hG hvt hmn (j := g_pl T (g_tf T t) + k) (by omega)) rfl dX11_tupletIsFull_28 rfl (cf_vk hG (g_tv T t) hvt).1 (Nat.le_of_ble_eq_true rfl) (Nat.le_of_ble_eq_true rfl) rfl (fun r9 σ9 hp9 => ?_)
        obtain ⟨rfl, hs9⟩ := hp9
        subst σ9
        refine ZV_astore_5 (n := 33) dX11_tupletIsFull_31 rfl (Nat.le_of_ble_eq_true rfl) rfl ?_
        refine ZV_aload (n := 35) dX11_tupletIsFull_33 rfl rfl ?_
        refine ZV_ifnull_s (tgt := 73) (n := 38) dX11_tupletIsFull_35 (by decide) rfl ?_
        refine ZV_aload_n (n := 39) dX11_tupletIsFull_38 rfl rfl rfl ?_
        refine ZV_aload_n (n := 40) dX11_tupletIsFull_39 rfl rfl rfl ?_
        refine ZV_iload (n := 42) dX11_tupletIsFull_40 rfl rfl ?_
        refine call_X11_464 (e_innerAt hG hI hK ht htt (p := g_pl T (g_tf T t) + k) (by omega)) rfl dX11_tupletIsFull_42 rfl (cf_sh hG :).1 (Nat.le_of_ble_eq_true rfl) (Nat.le_of_ble_eq_true rfl) rfl (fun r9 σ9 hp9 => ?_)
        obtain ⟨hs9, hp9⟩ := hp9
        subst σ9
        rcases hp9 with ⟨hN, hr9⟩ | ⟨u, hu, huu, hcu, hr9⟩
        · skip
          subst hr9
          refine ZV_astore_6 (n := 47) dX11_tupletIsFull_45 rfl (Nat.le_of_ble_eq_true rfl) rfl ?_
          refine ZV_lload_n (n := 48) dX11_tupletIsFull_47 rfl rfl rfl ?_
          refine ZV_aload (n := 50) dX11_tupletIsFull_48 rfl rfl ?_
          refine ZV_ifnonnull_n (tgt := 61) (n := 53) dX11_tupletIsFull_50 (by decide) rfl ?_
          refine ZV_aload (n := 55) dX11_tupletIsFull_53 rfl rfl ?_
          refine call_X11_468 (e_writtenTime hG hro.1 (ti_kd hI _ hro.1) (ti_va hI _ hro.1) (ti_dt hI _ hro.1)) rfl dX11_tupletIsFull_55 rfl (cf_ek hG (g_ro T (g_tv T t) (g_pl T (g_tf T t) + k)) hro.1).1 (Nat.le_of_ble_eq_true rfl) (Nat.le_of_ble_eq_true rfl) rfl (fun r9 σ9 hp9 => ?_)
          obtain ⟨rfl, hs9⟩ := hp9
          subst σ9
          refine ZV_goto (tgt := 71) dX11_tupletIsFull_58 (by decide) ?_
          refine ZV_laddN (n := 72) dX11_tupletIsFull_71 rfl ?_
          refine ZV_topl (congrArg lN (show _ = ssF T t (k + 1) from by rw [ssF, si_none hN _ (Nat.le_refl _)])) ?_
          refine ZV_lstore_2 (n := 73) dX11_tupletIsFull_72 rfl (Nat.le_of_ble_eq_true rfl) rfl ?_
          refine ZV_iincN_4 (v := 1) (n := 76) dX11_tupletIsFull_73 rfl rfl (Nat.le_of_ble_eq_true rfl) rfl ?_
          refine ZV_goto (tgt := 8) dX11_tupletIsFull_76 (by decide) ?_
          refine ZV_fg_5 ?_
          refine ZV_fg_6 ?_
          exact ih (k + 1) (by omega) (by omega)
        · skip
          subst hr9
          refine ZV_astore_6 (n := 47) dX11_tupletIsFull_45 rfl (Nat.le_of_ble_eq_true rfl) rfl ?_
          refine ZV_lload_n (n := 48) dX11_tupletIsFull_47 rfl rfl rfl ?_
          refine ZV_aload (n := 50) dX11_tupletIsFull_48 rfl rfl ?_
          refine ZV_ifnonnull_s (tgt := 61) dX11_tupletIsFull_50 (by decide) ?_
          refine ZV_aload (n := 63) dX11_tupletIsFull_61 rfl rfl ?_
          refine ZV_aload (n := 65) dX11_tupletIsFull_63 rfl rfl ?_
          refine call_X11_468 (e_writtenTime hG hro.1 (ti_kd hI _ hro.1) (ti_va hI _ hro.1) (ti_dt hI _ hro.1)) rfl dX11_tupletIsFull_65 rfl (cf_ek hG (g_ro T (g_tv T t) (g_pl T (g_tf T t) + k)) hro.1).1 (Nat.le_of_ble_eq_true rfl) (Nat.le_of_ble_eq_true rfl) rfl (fun r9 σ9 hp9 => ?_)
          obtain ⟨rfl, hs9⟩ := hp9
          subst σ9
          refine call_X11_472 (e_squeezed hG hu (by have := ti_tn hI u hu; omega) (ti_tm hI u hu).2 (by omega)) rfl dX11_tupletIsFull_68 rfl (cf_tk hG u hu).1 (Nat.le_of_ble_eq_true rfl) (Nat.le_of_ble_eq_true rfl) rfl (fun r9 σ9 hp9 => ?_)
          obtain ⟨rfl, hs9⟩ := hp9
          subst σ9
          refine ZV_laddN (n := 72) dX11_tupletIsFull_71 rfl ?_
          refine ZV_topl (congrArg lN (show _ = ssF T t (k + 1) from by rw [ssF, si_sq hI ht htt hv18 (p := g_pl T (g_tf T t) + k) (by omega) (by omega) (by omega) hu hcu])) ?_
          refine ZV_lstore_2 (n := 73) dX11_tupletIsFull_72 rfl (Nat.le_of_ble_eq_true rfl) rfl ?_
          refine ZV_iincN_4 (v := 1) (n := 76) dX11_tupletIsFull_73 rfl rfl (Nat.le_of_ble_eq_true rfl) rfl ?_
          refine ZV_goto (tgt := 8) dX11_tupletIsFull_76 (by decide) ?_
          refine ZV_fg_5 ?_
          refine ZV_fg_6 ?_
          exact ih (k + 1) (by omega) (by omega)
  refine ZV_lconst (v := lN 0) (n := 1) dX11_tupletIsFull_0 rfl rfl ?_
  refine ZV_lstore_2 (n := 2) dX11_tupletIsFull_1 rfl (Nat.le_of_ble_eq_true rfl) rfl ?_
  refine ZV_aload_n (n := 3) dX11_tupletIsFull_2 rfl rfl rfl ?_
  refine ZV_getIv (n := 6) dX11_tupletIsFull_3 fl_X11_291 rfl rfl rfl (cf_tk hG t ht).1 (show _ = nI (g_pl T (g_tf T t)) from (cf_t1 hG t ht).trans (by rw [hkt.1])) ?_
  refine ZV_istore_4 (n := 8) dX11_tupletIsFull_6 rfl (Nat.le_of_ble_eq_true rfl) rfl ?_
  exact loop _ 0 (Nat.lt_succ_self _) (Nat.zero_le _)
