set_option maxHeartbeats 4000000 in
set_option maxRecDepth 100000 in
theorem e_tupletsOver {c B : Nat} {σ : ZS} {T : TS} {K : KS} (hG : cG c B σ T K) (hI : tI T) (hK : kI T K) {v p : Nat} (hv : v < 3 * g_np T) (hp : p < g_mn T v) : ZC M_X11_tupletsOver [Ar (some c), Ar (some (k_va K v)), Ai (nI p)] σ (fun y9 τ9 => y9 = some (Ai (nI (zcnt (liB T (g_ro T v p)) (g_te T)))) ∧ τ9 = σ) := by
  have hbd := cf_bd hG
  have hv18 : v < 18 := by omega
  have hmn := ti_mn hI v
  refine ZC_of (ls := [some (Ar (some c)), some (Ar (some (k_va K v))), some (Ai (nI p)), none, none, none]) (by decide) (Nat.le_of_ble_eq_true rfl) rfl ?_
  have loop : ∀ (n9 : Nat) (t : Nat), g_te T - t < n9 → t ≤ g_te T → ZV M_X11_tupletsOver (fun y9 τ9 => y9 = some (Ai (nI (zcnt (liB T (g_ro T v p)) (g_te T)))) ∧ τ9 = σ) 5 [some (Ar (some c)), some (Ar (some (k_va K v))), some (Ai (nI p)), some (Ai (nI (zcnt (liB T (g_ro T v p)) t))), some (Ai (nI t)), none] [] σ (zmC M_X11_tupletsOver) (zmS M_X11_tupletsOver) := by
    intro n9
    induction n9 with
    | zero => intro t hme; exact absurd hme (Nat.not_lt_zero _)
    | succ n9 ih =>
      intro t hme ht
      refine ZV_iload (n := 7) dX11_tupletsOver_5 rfl rfl ?_
      refine ZV_aload_n (n := 8) dX11_tupletsOver_7 rfl rfl rfl ?_
      refine ZV_getIv (n := 11) dX11_tupletsOver_8 fl_X11_47 rfl rfl rfl (cf_sh hG :).1 (cf_te hG :) ?_
      refine ZV_icmp_geN (tgt := 55) (n := 14) dX11_tupletsOver_11 (by decide) rfl (by omega) (by omega) (fun h11 => ?_) (fun h11 => ?_)
      · skip
        refine ZV_iload_n (n := 56) dX11_tupletsOver_55 rfl rfl rfl ?_
        refine ZV_iret dX11_tupletsOver_56 rfl ?_
        obtain rfl : t = g_te T := by omega
        exact ⟨rfl, rfl⟩
      · skip
        refine ZV_aload_n (n := 15) dX11_tupletsOver_14 rfl rfl rfl ?_
        refine ZV_getRv (n := 18) dX11_tupletsOver_15 fl_X11_43 rfl rfl rfl (cf_sh hG :).1 (ca_tuplets (cf_sh hG :)) ?_
        refine ZV_iload (n := 20) dX11_tupletsOver_18 rfl rfl ?_
        rcases hb20 : g_tt T t with _ | _
        · skip
          refine ZV_aaldv (c0 := 3) (w := none) (j := t) (n := 21) dX11_tupletsOver_20 rfl (by decide) rfl (ck_tuplets (cf_sh hG :)) rfl (by omega) (Eq.trans (cf_ta hG t (by omega)) (if_neg (by rw [hb20]; exact Bool.false_ne_true))) ?_
          refine ZV_astore_5 (n := 23) dX11_tupletsOver_21 rfl (Nat.le_of_ble_eq_true rfl) rfl ?_
          refine ZV_aload (n := 25) dX11_tupletsOver_23 rfl rfl ?_
          refine ZV_ifnull_n (tgt := 49) dX11_tupletsOver_25 (by decide) ?_
          refine ZV_iincN_4 (v := 1) (n := 52) dX11_tupletsOver_49 rfl rfl (Nat.le_of_ble_eq_true rfl) rfl ?_
          refine ZV_goto (tgt := 5) dX11_tupletsOver_52 (by decide) ?_
          rw [show zcnt (liB T (g_ro T v p)) t = zcnt (liB T (g_ro T v p)) (t + 1) from by rw [zcnt, show liB T (g_ro T v p) t = false from by unfold liB; rw [hb20]; rfl]; rfl]
          refine ZV_fg_5 ?_
          exact ih (t + 1) (by omega) (by omega)
        · skip
          refine ZV_aaldv (c0 := 3) (w := some (k_ta K t)) (j := t) (n := 21) dX11_tupletsOver_20 rfl (by decide) rfl (ck_tuplets (cf_sh hG :)) rfl (by omega) (Eq.trans (cf_ta hG t (by omega)) (if_pos hb20)) ?_
          refine ZV_astore_5 (n := 23) dX11_tupletsOver_21 rfl (Nat.le_of_ble_eq_true rfl) rfl ?_
          refine ZV_aload (n := 25) dX11_tupletsOver_23 rfl rfl ?_
          refine ZV_ifnull_s (tgt := 49) (n := 28) dX11_tupletsOver_25 (by decide) rfl ?_
          refine ZV_aload (n := 30) dX11_tupletsOver_28 rfl rfl ?_
          have hvt := tv_lt hI (t := t) (by omega) hb20
          refine ZV_getRv (n := 33) dX11_tupletsOver_30 fl_X11_140 rfl rfl rfl (cf_tk hG t (by omega)).1 (cf_to hG t (by omega) (by assumption)) ?_
          refine ZV_aload_n (n := 34) dX11_tupletsOver_33 rfl rfl rfl ?_
          refine ZV_acmp_neI (i := (g_tv T t)) (j := v) (tgt := 49) (n := 37) dX11_tupletsOver_34 (by decide) rfl (va_inj hG hvt hv) (fun q => congrArg (k_va K) q) (fun h34 => ?_) (fun h34 => ?_)
          · skip
            refine ZV_iincN_4 (v := 1) (n := 52) dX11_tupletsOver_49 rfl rfl (Nat.le_of_ble_eq_true rfl) rfl ?_
            refine ZV_goto (tgt := 5) dX11_tupletsOver_52 (by decide) ?_
            rw [show zcnt (liB T (g_ro T v p)) t = zcnt (liB T (g_ro T v p)) (t + 1) from by rw [zcnt, li_at hI hv18 hp hb20 (by omega), decide_eq_false (fun z => h34 z.1)]; rfl]
            refine ZV_fg_5 ?_
            exact ih (t + 1) (by omega) (by omega)
          · skip
            refine ZV_aload (n := 39) dX11_tupletsOver_37 rfl rfl ?_
            refine ZV_iload_n (n := 40) dX11_tupletsOver_39 rfl rfl rfl ?_
            refine call_X11_455 (e_covers hG (t := t) (by omega) (kt_b hI hK (by omega) hb20) (by omega)) rfl dX11_tupletsOver_40 rfl (cf_tk hG t (by omega)).1 (Nat.le_of_ble_eq_true rfl) (Nat.le_of_ble_eq_true rfl) rfl (fun r9 σ9 hp9 => ?_)
            obtain ⟨rfl, hs9⟩ := hp9
            subst σ9
            refine ZV_if_eqB (tgt := 49) (n := 46) dX11_tupletsOver_43 (by decide) rfl (fun h43 => ?_) (fun h43 => ?_)
            · skip
              refine ZV_iincN_4 (v := 1) (n := 52) dX11_tupletsOver_49 rfl rfl (Nat.le_of_ble_eq_true rfl) rfl ?_
              refine ZV_goto (tgt := 5) dX11_tupletsOver_52 (by decide) ?_
              have hkt := ki_kT hK t (by omega) hb20
              have h43 := of_decide_eq_false h43
              rw [show zcnt (liB T (g_ro T v p)) t = zcnt (liB T (g_ro T v p)) (t + 1) from by rw [zcnt, li_at hI hv18 hp hb20 (by omega), decide_eq_false (by omega)]; rfl]
              refine ZV_fg_5 ?_
              exact ih (t + 1) (by omega) (by omega)
            · skip
              refine ZV_iincN_3 (v := 1) (n := 49) dX11_tupletsOver_46 rfl rfl (Nat.le_of_ble_eq_true rfl) rfl ?_
              refine ZV_iincN_4 (v := 1) (n := 52) dX11_tupletsOver_49 rfl rfl (Nat.le_of_ble_eq_true rfl) rfl ?_
              refine ZV_goto (tgt := 5) dX11_tupletsOver_52 (by decide) ?_
              have hkt := ki_kT hK t (by omega) hb20
              have h43 := of_decide_eq_true h43
              rw [show zcnt (liB T (g_ro T v p)) t + 1 = zcnt (liB T (g_ro T v p)) (t + 1) from by rw [zcnt, li_at hI hv18 hp hb20 (by omega), decide_eq_true (by omega)]; rfl]
              refine ZV_fg_5 ?_
              exact ih (t + 1) (by omega) (by omega)
  refine ZV_iconst (v := nI 0) (n := 1) dX11_tupletsOver_0 rfl rfl ?_
  refine ZV_istore_3 (n := 2) dX11_tupletsOver_1 rfl (Nat.le_of_ble_eq_true rfl) rfl ?_
  refine ZV_iconst (v := nI 0) (n := 3) dX11_tupletsOver_2 rfl rfl ?_
  refine ZV_istore_4 (n := 5) dX11_tupletsOver_3 rfl (Nat.le_of_ble_eq_true rfl) rfl ?_
  exact loop _ 0 (Nat.lt_succ_self _) (Nat.zero_le _)
theorem inI_k {T : TS} {K : KS} (hI : tI T) (hK : kI T K) {t u : Nat} (ht : t < g_te T) (htt : g_tt T t = true) (hu : u < g_te T) (huu : g_tt T u = true) : inI T t u = decide (g_tv T t = g_tv T u ∧ k_t1 K u ≤ k_t1 K t ∧ k_t1 K t + k_tk K t ≤ k_t1 K u + k_tk K u ∧ (k_tk K t < k_tk K u ∨ u < t)) := by
  have h1 := ki_kT hK t ht htt
  have h2 := ki_kT hK u hu huu
  have h3 := (ti_tp hI t ht htt).2.2.2.2.2.2
  have h4 := (ti_tp hI u hu huu).2.2.2.2.2.2
  unfold inI
  rw [htt, huu, h1.1, h1.2, h2.1, h2.2]
  unfold szT
  by_cases q : t = u
  · subst q
    rw [decide_eq_false (fun z => z rfl)]
    simp only [Bool.false_and]
    exact (decide_eq_false (by omega)).symm
  · rw [decide_eq_true q]
    simp only [Bool.true_and, Bool.and_true]
    apply decide_eq_decide.mpr
    omega
set_option maxHeartbeats 4000000 in
set_option maxRecDepth 100000 in
theorem e_tupletsAround {c B : Nat} {σ : ZS} {T : TS} {K : KS} (hG : cG c B σ T K) (hI : tI T) (hK : kI T K) {t : Nat} (ht : t < g_te T) (htt : g_tt T t = true) : ZC M_X11_tupletsAround [Ar (some c), Ar (some (k_ta K t))] σ (fun y9 τ9 => y9 = some (Ai (nI (zcnt (inI T t) (g_te T)))) ∧ τ9 = σ) := by
  have hbd := cf_bd hG
  refine ZC_of (ls := [some (Ar (some c)), some (Ar (some (k_ta K t))), none, none]) (by decide) (Nat.le_of_ble_eq_true rfl) rfl ?_
  have loop : ∀ (n9 : Nat) (u : Nat), g_te T - u < n9 → u ≤ g_te T → ZV M_X11_tupletsAround (fun y9 τ9 => y9 = some (Ai (nI (zcnt (inI T t) (g_te T)))) ∧ τ9 = σ) 4 [some (Ar (some c)), some (Ar (some (k_ta K t))), some (Ai (nI (zcnt (inI T t) u))), some (Ai (nI u))] [] σ (zmC M_X11_tupletsAround) (zmS M_X11_tupletsAround) := by
    intro n9
    induction n9 with
    | zero => intro u hme; exact absurd hme (Nat.not_lt_zero _)
    | succ n9 ih =>
      intro u hme hu
      refine ZV_iload_n (n := 5) dX11_tupletsAround_4 rfl rfl rfl ?_
      refine ZV_aload_n (n := 6) dX11_tupletsAround_5 rfl rfl rfl ?_
      refine ZV_getIv (n := 9) dX11_tupletsAround_6 fl_X11_47 rfl rfl rfl (cf_sh hG :).1 (cf_te hG :) ?_
      refine ZV_icmp_geN (tgt := 43) (n := 12) dX11_tupletsAround_9 (by decide) rfl (by omega) (by omega) (fun h9 => ?_) (fun h9 => ?_)
      · skip
        refine ZV_iload_n (n := 44) dX11_tupletsAround_43 rfl rfl rfl ?_
        refine ZV_iret dX11_tupletsAround_44 rfl ?_
        obtain rfl : u = g_te T := by omega
        exact ⟨rfl, rfl⟩
      · skip
        refine ZV_aload_n (n := 13) dX11_tupletsAround_12 rfl rfl rfl ?_
        refine ZV_getRv (n := 16) dX11_tupletsAround_13 fl_X11_43 rfl rfl rfl (cf_sh hG :).1 (ca_tuplets (cf_sh hG :)) ?_
        refine ZV_iload_n (n := 17) dX11_tupletsAround_16 rfl rfl rfl ?_
        rcases hb17 : g_tt T u with _ | _
        · skip
          refine ZV_aaldv (c0 := 3) (w := none) (j := u) (n := 18) dX11_tupletsAround_17 rfl (by decide) rfl (ck_tuplets (cf_sh hG :)) rfl (by omega) (Eq.trans (cf_ta hG u (by omega)) (if_neg (by rw [hb17]; exact Bool.false_ne_true))) ?_
          refine ZV_ifnull_n (tgt := 37) dX11_tupletsAround_18 (by decide) ?_
          refine ZV_iincN_3 (v := 1) (n := 40) dX11_tupletsAround_37 rfl rfl (Nat.le_of_ble_eq_true rfl) rfl ?_
          refine ZV_goto (tgt := 4) dX11_tupletsAround_40 (by decide) ?_
          rw [show zcnt (inI T t) u = zcnt (inI T t) (u + 1) from by rw [zcnt, show inI T t u = false from by unfold inI; rw [hb17]; simp]; rfl]
          exact ih (u + 1) (by omega) (by omega)
        · skip
          refine ZV_aaldv (c0 := 3) (w := some (k_ta K u)) (j := u) (n := 18) dX11_tupletsAround_17 rfl (by decide) rfl (ck_tuplets (cf_sh hG :)) rfl (by omega) (Eq.trans (cf_ta hG u (by omega)) (if_pos hb17)) ?_
          refine ZV_ifnull_s (tgt := 37) (n := 21) dX11_tupletsAround_18 (by decide) rfl ?_
          refine ZV_aload_n (n := 22) dX11_tupletsAround_21 rfl rfl rfl ?_
          refine ZV_aload_n (n := 23) dX11_tupletsAround_22 rfl rfl rfl ?_
          refine ZV_getRv (n := 26) dX11_tupletsAround_23 fl_X11_43 rfl rfl rfl (cf_sh hG :).1 (ca_tuplets (cf_sh hG :)) ?_
          refine ZV_iload_n (n := 27) dX11_tupletsAround_26 rfl rfl rfl ?_
          refine ZV_aaldv (c0 := 3) (w := some (k_ta K u)) (j := u) (n := 28) dX11_tupletsAround_27 rfl (by decide) rfl (ck_tuplets (cf_sh hG :)) rfl (by omega) (Eq.trans (cf_ta hG u (by omega)) (if_pos hb17)) ?_
          refine call_X11_458 (e_liesIn hG ht (u := u) (by omega) htt hb17 (tv_lt hI ht htt) (tv_lt hI (by omega) hb17) (kt_b hI hK ht htt) (kt_b hI hK (by omega) hb17)) rfl dX11_tupletsAround_28 rfl (cf_tk hG t ht).1 (Nat.le_of_ble_eq_true rfl) (Nat.le_of_ble_eq_true rfl) rfl (fun r9 σ9 hp9 => ?_)
          obtain ⟨rfl, hs9⟩ := hp9
          subst σ9
          refine ZV_if_eqB (tgt := 37) (n := 34) dX11_tupletsAround_31 (by decide) rfl (fun h31 => ?_) (fun h31 => ?_)
          · skip
            refine ZV_iincN_3 (v := 1) (n := 40) dX11_tupletsAround_37 rfl rfl (Nat.le_of_ble_eq_true rfl) rfl ?_
            refine ZV_goto (tgt := 4) dX11_tupletsAround_40 (by decide) ?_
            rw [show zcnt (inI T t) u = zcnt (inI T t) (u + 1) from by rw [zcnt, inI_k hI hK ht htt (by omega) hb17, h31]; rfl]
            exact ih (u + 1) (by omega) (by omega)
          · skip
            refine ZV_iincN_2 (v := 1) (n := 37) dX11_tupletsAround_34 rfl rfl (Nat.le_of_ble_eq_true rfl) rfl ?_
            refine ZV_iincN_3 (v := 1) (n := 40) dX11_tupletsAround_37 rfl rfl (Nat.le_of_ble_eq_true rfl) rfl ?_
            refine ZV_goto (tgt := 4) dX11_tupletsAround_40 (by decide) ?_
            rw [show zcnt (inI T t) u + 1 = zcnt (inI T t) (u + 1) from by rw [zcnt, inI_k hI hK ht htt (by omega) hb17, h31]; rfl]
            exact ih (u + 1) (by omega) (by omega)
  refine ZV_iconst (v := nI 0) (n := 1) dX11_tupletsAround_0 rfl rfl ?_
  refine ZV_istore_2 (n := 2) dX11_tupletsAround_1 rfl (Nat.le_of_ble_eq_true rfl) rfl ?_
  refine ZV_iconst (v := nI 0) (n := 3) dX11_tupletsAround_2 rfl rfl ?_
  refine ZV_istore_3 (n := 4) dX11_tupletsAround_3 rfl (Nat.le_of_ble_eq_true rfl) rfl ?_
  exact loop _ 0 (Nat.lt_succ_self _) (Nat.zero_le _)
theorem crB_k {T : TS} {K : KS} (hI : tI T) (hK : kI T K) {v a k t : Nat} (ht : t < g_te T) (htt : g_tt T t = true) (hk : 1 ≤ k) (hv : g_tv T t = v) : crB T v a (a + k - 1) t = decide (¬ (k_t1 K t + k_tk K t ≤ a ∨ a + k ≤ k_t1 K t) ∧ ¬ (a ≤ k_t1 K t ∧ k_t1 K t + k_tk K t ≤ a + k) ∧ ¬ (k_t1 K t ≤ a ∧ a + k ≤ k_t1 K t + k_tk K t)) := by
  have h1 := ki_kT hK t ht htt
  have h3 := (ti_tp hI t ht htt).2.2.2.2.2.2
  unfold crB
  rw [htt, h1.1, h1.2, Bool.true_and]
  unfold szT
  apply decide_eq_decide.mpr
  omega
set_option maxHeartbeats 4000000 in
set_option maxRecDepth 100000 in
theorem e_tupletFits {c B : Nat} {σ : ZS} {T : TS} {K : KS} (hG : cG c B σ T K) (hI : tI T) (hK : kI T K) {v a k : Nat} (hv : v < 3 * g_np T) (hk : 1 ≤ k) (hak : a + k ≤ g_mn T v) : ZC M_X11_tupletFits [Ar (some c), Ar (some (k_va K v)), Ai (nI a), Ai (nI k)] σ (fun y9 τ9 => y9 = some (Ai (bI (!(anyF (ovB T v a) k) && !(anyF (crB T v a (a + k - 1)) (g_te T))))) ∧ τ9 = σ) := by
  have hbd := cf_bd hG
  have hmn := ti_mn hI v
  refine ZC_of (ls := [some (Ar (some c)), some (Ar (some (k_va K v))), some (Ai (nI a)), some (Ai (nI k)), none]) (by decide) (Nat.le_of_ble_eq_true rfl) rfl ?_
  have loop2 : ∀ (n9 : Nat) (t : Nat), g_te T - t < n9 → t ≤ g_te T → anyF (crB T v a (a + k - 1)) t = false → anyF (ovB T v a) k = false → ZV M_X11_tupletFits (fun y9 τ9 => y9 = some (Ai (bI (!(anyF (ovB T v a) k) && !(anyF (crB T v a (a + k - 1)) (g_te T))))) ∧ τ9 = σ) 33 [some (Ar (some c)), some (Ar (some (k_va K v))), some (Ai (nI a)), some (Ai (nI k)), some (Ai (nI t))] [] σ (zmC M_X11_tupletFits) (zmS M_X11_tupletFits) := by
    intro n9
    induction n9 with
    | zero => intro t hme; exact absurd hme (Nat.not_lt_zero _)
    | succ n9 ih =>
      intro t hme ht hz hy
      refine ZV_iload (n := 35) dX11_tupletFits_33 rfl rfl ?_
      refine ZV_aload_n (n := 36) dX11_tupletFits_35 rfl rfl rfl ?_
      refine ZV_getIv (n := 39) dX11_tupletFits_36 fl_X11_47 rfl rfl rfl (cf_sh hG :).1 (cf_te hG :) ?_
      refine ZV_icmp_geN (tgt := 89) (n := 42) dX11_tupletFits_39 (by decide) rfl (by omega) (by omega) (fun h39 => ?_) (fun h39 => ?_)
      · skip
        refine ZV_iconst (v := nI 1) (n := 90) dX11_tupletFits_89 rfl rfl ?_
        refine ZV_zret dX11_tupletFits_90 rfl (by first | exact Or.inl rfl | exact Or.inr rfl) ?_
        obtain rfl : t = g_te T := by omega
        refine ⟨?_, rfl⟩
        rw [hz, hy]
        rfl
      · skip
        refine ZV_aload_n (n := 43) dX11_tupletFits_42 rfl rfl rfl ?_
        refine ZV_getRv (n := 46) dX11_tupletFits_43 fl_X11_43 rfl rfl rfl (cf_sh hG :).1 (ca_tuplets (cf_sh hG :)) ?_
        refine ZV_iload (n := 48) dX11_tupletFits_46 rfl rfl ?_
        rcases hb48 : g_tt T t with _ | _
        · skip
          refine ZV_aaldv (c0 := 3) (w := none) (j := t) (n := 49) dX11_tupletFits_48 rfl (by decide) rfl (ck_tuplets (cf_sh hG :)) rfl (by omega) (Eq.trans (cf_ta hG t (by omega)) (if_neg (by rw [hb48]; exact Bool.false_ne_true))) ?_
          refine ZV_ifnull_n (tgt := 83) dX11_tupletFits_49 (by decide) ?_
          refine ZV_iincN_4 (v := 1) (n := 86) dX11_tupletFits_83 rfl rfl (Nat.le_of_ble_eq_true rfl) rfl ?_
          refine ZV_goto (tgt := 33) dX11_tupletFits_86 (by decide) ?_
          skip
          exact ih (t + 1) (by omega) (by omega) (by rw [anyF, hz, show crB T v a (a + k - 1) t = false from by unfold crB; rw [hb48]; rfl]; rfl) hy
        · skip
          refine ZV_aaldv (c0 := 3) (w := some (k_ta K t)) (j := t) (n := 49) dX11_tupletFits_48 rfl (by decide) rfl (ck_tuplets (cf_sh hG :)) rfl (by omega) (Eq.trans (cf_ta hG t (by omega)) (if_pos hb48)) ?_
          refine ZV_ifnull_s (tgt := 83) (n := 52) dX11_tupletFits_49 (by decide) rfl ?_
          refine ZV_aload_n (n := 53) dX11_tupletFits_52 rfl rfl rfl ?_
          refine ZV_getRv (n := 56) dX11_tupletFits_53 fl_X11_43 rfl rfl rfl (cf_sh hG :).1 (ca_tuplets (cf_sh hG :)) ?_
          refine ZV_iload (n := 58) dX11_tupletFits_56 rfl rfl ?_
          refine ZV_aaldv (c0 := 3) (w := some (k_ta K t)) (j := t) (n := 59) dX11_tupletFits_58 rfl (by decide) rfl (ck_tuplets (cf_sh hG :)) rfl (by omega) (Eq.trans (cf_ta hG t (by omega)) (if_pos hb48)) ?_
          have hvt := tv_lt hI (t := t) (by omega) hb48
          refine ZV_getRv (n := 62) dX11_tupletFits_59 fl_X11_140 rfl rfl rfl (cf_tk hG t (by omega)).1 (cf_to hG t (by omega) (by assumption)) ?_
          refine ZV_aload_n (n := 63) dX11_tupletFits_62 rfl rfl rfl ?_
          refine ZV_acmp_neI (i := (g_tv T t)) (j := v) (tgt := 83) (n := 66) dX11_tupletFits_63 (by decide) rfl (va_inj hG hvt hv) (fun q => congrArg (k_va K) q) (fun h63 => ?_) (fun h63 => ?_)
          · skip
            refine ZV_iincN_4 (v := 1) (n := 86) dX11_tupletFits_83 rfl rfl (Nat.le_of_ble_eq_true rfl) rfl ?_
            refine ZV_goto (tgt := 33) dX11_tupletFits_86 (by decide) ?_
            skip
            exact ih (t + 1) (by omega) (by omega) (by rw [anyF, hz, show crB T v a (a + k - 1) t = false from by unfold crB; rw [decide_eq_false (fun z => h63 z.1), Bool.and_false]]; rfl) hy
          · skip
            refine ZV_aload_n (n := 67) dX11_tupletFits_66 rfl rfl rfl ?_
            refine ZV_getRv (n := 70) dX11_tupletFits_67 fl_X11_43 rfl rfl rfl (cf_sh hG :).1 (ca_tuplets (cf_sh hG :)) ?_
            refine ZV_iload (n := 72) dX11_tupletFits_70 rfl rfl ?_
            refine ZV_aaldv (c0 := 3) (w := some (k_ta K t)) (j := t) (n := 73) dX11_tupletFits_72 rfl (by decide) rfl (ck_tuplets (cf_sh hG :)) rfl (by omega) (Eq.trans (cf_ta hG t (by omega)) (if_pos hb48)) ?_
            refine ZV_iload_n (n := 74) dX11_tupletFits_73 rfl rfl rfl ?_
            refine ZV_iload_n (n := 75) dX11_tupletFits_74 rfl rfl rfl ?_
            refine call_X11_461 (e_crosses hG (t := t) (by omega) (kt_b hI hK (by omega) hb48) (by omega)) rfl dX11_tupletFits_75 rfl (cf_tk hG t (by omega)).1 (Nat.le_of_ble_eq_true rfl) (Nat.le_of_ble_eq_true rfl) rfl (fun r9 σ9 hp9 => ?_)
            obtain ⟨rfl, hs9⟩ := hp9
            subst σ9
            refine ZV_if_eqB (tgt := 83) (n := 81) dX11_tupletFits_78 (by decide) rfl (fun h78 => ?_) (fun h78 => ?_)
            · skip
              refine ZV_iincN_4 (v := 1) (n := 86) dX11_tupletFits_83 rfl rfl (Nat.le_of_ble_eq_true rfl) rfl ?_
              refine ZV_goto (tgt := 33) dX11_tupletFits_86 (by decide) ?_
              skip
              exact ih (t + 1) (by omega) (by omega) (by rw [anyF, hz, crB_k hI hK (by omega) hb48 hk h63, h78]; rfl) hy
            · skip
              refine ZV_iconst (v := nI 0) (n := 82) dX11_tupletFits_81 rfl rfl ?_
              refine ZV_zret dX11_tupletFits_82 rfl (by first | exact Or.inl rfl | exact Or.inr rfl) ?_
              refine ⟨?_, rfl⟩
              rw [anyF_t (b := crB T v a (a + k - 1)) (i := t) (by rw [crB_k hI hK (by omega) hb48 hk h63]; exact h78) _ (by omega), Bool.not_true, Bool.and_false]
              rfl
  have loop : ∀ (n9 : Nat) (i : Nat), k - i < n9 → i ≤ k → anyF (ovB T v a) i = false → ZV M_X11_tupletFits (fun y9 τ9 => y9 = some (Ai (bI (!(anyF (ovB T v a) k) && !(anyF (crB T v a (a + k - 1)) (g_te T))))) ∧ τ9 = σ) 3 [some (Ar (some c)), some (Ar (some (k_va K v))), some (Ai (nI a)), some (Ai (nI k)), some (Ai (nI (a + i)))] [] σ (zmC M_X11_tupletFits) (zmS M_X11_tupletFits) := by
    intro n9
    induction n9 with
    | zero => intro i hme; exact absurd hme (Nat.not_lt_zero _)
    | succ n9 ih =>
      intro i hme hi hy
      refine ZV_iload (n := 5) dX11_tupletFits_3 rfl rfl ?_
      refine ZV_iload_n (n := 6) dX11_tupletFits_5 rfl rfl rfl ?_
      refine ZV_iload_n (n := 7) dX11_tupletFits_6 rfl rfl rfl ?_
      refine ZV_iaddN (n := 8) dX11_tupletFits_7 rfl ?_
      refine ZV_icmp_geN (tgt := 30) (n := 11) dX11_tupletFits_8 (by decide) rfl (by omega) (by omega) (fun h8 => ?_) (fun h8 => ?_)
      · skip
        refine ZV_iconst (v := nI 0) (n := 31) dX11_tupletFits_30 rfl rfl ?_
        refine ZV_istore_4 (n := 33) dX11_tupletFits_31 rfl (Nat.le_of_ble_eq_true rfl) rfl ?_
        obtain rfl : i = k := by omega
        exact loop2 _ 0 (Nat.lt_succ_self _) (Nat.zero_le _) rfl hy
      · skip
        refine ZV_aload_n (n := 12) dX11_tupletFits_11 rfl rfl rfl ?_
        refine ZV_aload_n (n := 13) dX11_tupletFits_12 rfl rfl rfl ?_
        refine ZV_iload (n := 15) dX11_tupletFits_13 rfl rfl ?_
        refine call_X11_236 (e_tupletsOver hG hI hK hv (p := a + i) (by omega)) rfl dX11_tupletFits_15 rfl (cf_sh hG :).1 (Nat.le_of_ble_eq_true rfl) (Nat.le_of_ble_eq_true rfl) rfl (fun r9 σ9 hp9 => ?_)
        obtain ⟨rfl, hs9⟩ := hp9
        subst σ9
        have hzc := zcnt_le (liB T (g_ro T v (a + i))) (g_te T)
        refine ZV_iconst (v := nI 2) (n := 19) dX11_tupletFits_18 rfl rfl ?_
        refine ZV_icmp_ltN (tgt := 24) (n := 22) dX11_tupletFits_19 (by decide) rfl (by omega) (by omega) (fun h19 => ?_) (fun h19 => ?_)
        · skip
          refine ZV_iincN_4 (v := 1) (n := 27) dX11_tupletFits_24 rfl rfl (Nat.le_of_ble_eq_true rfl) rfl ?_
          refine ZV_goto (tgt := 3) dX11_tupletFits_27 (by decide) ?_
          exact ih (i + 1) (by omega) (by omega) (by rw [anyF, hy, show ovB T v a i = false from decide_eq_false (by omega)]; rfl)
        · skip
          refine ZV_iconst (v := nI 0) (n := 23) dX11_tupletFits_22 rfl rfl ?_
          refine ZV_zret dX11_tupletFits_23 rfl (by first | exact Or.inl rfl | exact Or.inr rfl) ?_
          refine ⟨?_, rfl⟩
          rw [anyF_t (b := ovB T v a) (i := i) (show ovB T v a i = true from decide_eq_true (by omega)) _ (by omega)]
          rfl
  refine ZV_iload_n (n := 1) dX11_tupletFits_0 rfl rfl rfl ?_
  refine ZV_istore_4 (n := 3) dX11_tupletFits_1 rfl (Nat.le_of_ble_eq_true rfl) rfl ?_
  exact loop _ 0 (Nat.lt_succ_self _) (Nat.zero_le _) rfl
set_option maxHeartbeats 4000000 in
set_option maxRecDepth 100000 in
theorem e_nextTuplet {c B : Nat} {σ : ZS} {T : TS} {K : KS} (hG : cG c B σ T K) (hI : tI T) (hK : kI T K) {v a : Nat} (hv : v < 3 * g_np T) (ha : a ≤ g_te T) : ZC M_X11_nextTuplet [Ar (some c), Ar (some (k_va K v)), Ai (nI a)] σ (fun y9 τ9 => y9 = some (Ai (nI ((nuT T v a).getD (g_te T)))) ∧ τ9 = σ) := by
  have hbd := cf_bd hG
  refine ZC_of (ls := [some (Ar (some c)), some (Ar (some (k_va K v))), some (Ai (nI a)), none]) (by decide) (Nat.le_of_ble_eq_true rfl) rfl ?_
  have loop : ∀ (n9 : Nat) (u : Nat), g_te T - u < n9 → u ≤ g_te T → nuF T v (g_te T - u) u = nuT T v a → ZV M_X11_nextTuplet (fun y9 τ9 => y9 = some (Ai (nI ((nuT T v a).getD (g_te T)))) ∧ τ9 = σ) 2 [some (Ar (some c)), some (Ar (some (k_va K v))), some (Ai (nI a)), some (Ai (nI u))] [] σ (zmC M_X11_nextTuplet) (zmS M_X11_nextTuplet) := by
    intro n9
    induction n9 with
    | zero => intro u hme; exact absurd hme (Nat.not_lt_zero _)
    | succ n9 ih =>
      intro u hme hu hz
      refine ZV_iload_n (n := 3) dX11_nextTuplet_2 rfl rfl rfl ?_
      refine ZV_aload_n (n := 4) dX11_nextTuplet_3 rfl rfl rfl ?_
      refine ZV_getIv (n := 7) dX11_nextTuplet_4 fl_X11_47 rfl rfl rfl (cf_sh hG :).1 (cf_te hG :) ?_
      refine ZV_icmp_geN (tgt := 40) (n := 10) dX11_nextTuplet_7 (by decide) rfl (by omega) (by omega) (fun h7 => ?_) (fun h7 => ?_)
      · skip
        refine ZV_aload_n (n := 41) dX11_nextTuplet_40 rfl rfl rfl ?_
        refine ZV_getIv (n := 44) dX11_nextTuplet_41 fl_X11_47 rfl rfl rfl (cf_sh hG :).1 (cf_te hG :) ?_
        refine ZV_iret dX11_nextTuplet_44 rfl ?_
        refine ⟨?_, rfl⟩
        rw [← hz, show g_te T - u = 0 by omega]
        rfl
      · skip
        refine ZV_aload_n (n := 11) dX11_nextTuplet_10 rfl rfl rfl ?_
        refine ZV_getRv (n := 14) dX11_nextTuplet_11 fl_X11_43 rfl rfl rfl (cf_sh hG :).1 (ca_tuplets (cf_sh hG :)) ?_
        refine ZV_iload_n (n := 15) dX11_nextTuplet_14 rfl rfl rfl ?_
        rcases hb15 : g_tt T u with _ | _
        · skip
          refine ZV_aaldv (c0 := 3) (w := none) (j := u) (n := 16) dX11_nextTuplet_15 rfl (by decide) rfl (ck_tuplets (cf_sh hG :)) rfl (by omega) (Eq.trans (cf_ta hG u (by omega)) (if_neg (by rw [hb15]; exact Bool.false_ne_true))) ?_
          refine ZV_ifnull_n (tgt := 34) dX11_nextTuplet_16 (by decide) ?_
          refine ZV_iincN_3 (v := 1) (n := 37) dX11_nextTuplet_34 rfl rfl (Nat.le_of_ble_eq_true rfl) rfl ?_
          refine ZV_goto (tgt := 2) dX11_nextTuplet_37 (by decide) ?_
          exact ih (u + 1) (by omega) (by omega) (by rw [← hz, show g_te T - u = (g_te T - (u + 1)) + 1 by omega, nuF, if_neg (fun z => by rw [hb15] at z; cases z.1)])
        · skip
          refine ZV_aaldv (c0 := 3) (w := some (k_ta K u)) (j := u) (n := 16) dX11_nextTuplet_15 rfl (by decide) rfl (ck_tuplets (cf_sh hG :)) rfl (by omega) (Eq.trans (cf_ta hG u (by omega)) (if_pos hb15)) ?_
          refine ZV_ifnull_s (tgt := 34) (n := 19) dX11_nextTuplet_16 (by decide) rfl ?_
          refine ZV_aload_n (n := 20) dX11_nextTuplet_19 rfl rfl rfl ?_
          refine ZV_getRv (n := 23) dX11_nextTuplet_20 fl_X11_43 rfl rfl rfl (cf_sh hG :).1 (ca_tuplets (cf_sh hG :)) ?_
          refine ZV_iload_n (n := 24) dX11_nextTuplet_23 rfl rfl rfl ?_
          refine ZV_aaldv (c0 := 3) (w := some (k_ta K u)) (j := u) (n := 25) dX11_nextTuplet_24 rfl (by decide) rfl (ck_tuplets (cf_sh hG :)) rfl (by omega) (Eq.trans (cf_ta hG u (by omega)) (if_pos hb15)) ?_
          have hvt := tv_lt hI (t := u) (by omega) hb15
          refine ZV_getRv (n := 28) dX11_nextTuplet_25 fl_X11_140 rfl rfl rfl (cf_tk hG u (by omega)).1 (cf_to hG u (by omega) (by assumption)) ?_
          refine ZV_aload_n (n := 29) dX11_nextTuplet_28 rfl rfl rfl ?_
          refine ZV_acmp_neI (i := (g_tv T u)) (j := v) (tgt := 34) (n := 32) dX11_nextTuplet_29 (by decide) rfl (va_inj hG hvt hv) (fun q => congrArg (k_va K) q) (fun h29 => ?_) (fun h29 => ?_)
          · skip
            refine ZV_iincN_3 (v := 1) (n := 37) dX11_nextTuplet_34 rfl rfl (Nat.le_of_ble_eq_true rfl) rfl ?_
            refine ZV_goto (tgt := 2) dX11_nextTuplet_37 (by decide) ?_
            exact ih (u + 1) (by omega) (by omega) (by rw [← hz, show g_te T - u = (g_te T - (u + 1)) + 1 by omega, nuF, if_neg (fun z => h29 z.2)])
          · skip
            refine ZV_iload_n (n := 33) dX11_nextTuplet_32 rfl rfl rfl ?_
            refine ZV_iret dX11_nextTuplet_33 rfl ?_
            refine ⟨?_, rfl⟩
            rw [← hz, show g_te T - u = (g_te T - (u + 1)) + 1 by omega, nuF, if_pos ⟨hb15, h29⟩]
            rfl
  refine ZV_iload_n (n := 1) dX11_nextTuplet_0 rfl rfl rfl ?_
  refine ZV_istore_3 (n := 2) dX11_nextTuplet_1 rfl (Nat.le_of_ble_eq_true rfl) rfl ?_
  exact loop _ a (Nat.lt_succ_self _) ha rfl
