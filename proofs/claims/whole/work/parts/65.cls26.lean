/-- the tuplets of voice v below n have closed up at p -/
def c1F (S : TS) (K : KS) (v p n t : Nat) : Nat := if t < n ∧ g_tt S t = true ∧ g_tv S t = v ∧ p < k_t1 K t then k_t1 K t - 1 else k_t1 K t
def c2F (S : TS) (K : KS) (v p n t : Nat) : Nat := if t < n ∧ g_tt S t = true ∧ g_tv S t = v ∧ k_t1 K t ≤ p ∧ p < k_t1 K t + k_tk K t then k_tk K t - 1 else k_tk K t
def ctF (S : TS) (K : KS) (v p n : Nat) : Nat → Bool := fun t => if t < n ∧ g_tv S t = v ∧ c2F S K v p (t + 1) t = 0 then false else g_tt S t
def clR (S : TS) (K0 K : KS) (v p n : Nat) : Prop := kM K0 K ∧ ∀ t, k_t1 K t = c1F S K0 v p n t ∧ k_tk K t = c2F S K0 v p n t
theorem c1F_e {S : TS} {K : KS} {v p n t : Nat} (h : t ≠ n ∨ ¬ (g_tt S t = true ∧ g_tv S t = v)) : c1F S K v p (n + 1) t = c1F S K v p n t := by
  unfold c1F
  by_cases q : t = n
  · subst q
    have h2 : ¬ (g_tt S t = true ∧ g_tv S t = v) := h.resolve_left (fun z => z rfl)
    rw [if_neg (fun z => h2 ⟨z.2.1, z.2.2.1⟩), if_neg (fun z => h2 ⟨z.2.1, z.2.2.1⟩)]
  · simp only [show (t < n + 1) ↔ t < n by omega]
theorem c2F_e {S : TS} {K : KS} {v p n t : Nat} (h : t ≠ n ∨ ¬ (g_tt S t = true ∧ g_tv S t = v)) : c2F S K v p (n + 1) t = c2F S K v p n t := by
  unfold c2F
  by_cases q : t = n
  · subst q
    have h2 : ¬ (g_tt S t = true ∧ g_tv S t = v) := h.resolve_left (fun z => z rfl)
    rw [if_neg (fun z => h2 ⟨z.2.1, z.2.2.1⟩), if_neg (fun z => h2 ⟨z.2.1, z.2.2.1⟩)]
  · simp only [show (t < n + 1) ↔ t < n by omega]
theorem clR_0 (S : TS) (K : KS) (v p : Nat) : clR S K K v p 0 := ⟨kM_rf K, fun t => ⟨(if_neg (by omega)).symm, (if_neg (by omega)).symm⟩⟩
theorem clR_no {S : TS} {K0 K : KS} {v p n : Nat} (h : clR S K0 K v p n) (hn : ¬ (g_tt S n = true ∧ g_tv S n = v)) : clR S K0 K v p (n + 1) := by
  refine ⟨h.1, fun t => ?_⟩
  have hq : t ≠ n ∨ ¬ (g_tt S t = true ∧ g_tv S t = v) := by
    by_cases q : t = n
    · exact Or.inr (by rw [q]; exact hn)
    · exact Or.inl q
  rw [c1F_e hq, c2F_e hq]
  exact h.2 t
theorem clR_s {S : TS} {K0 K : KS} {v p n : Nat} (h : clR S K0 K v p n) (h1 : g_tt S n = true) (h2 : g_tv S n = v) : clR S K0 (cuK K n p) v p (n + 1) ∧ k_tk (cuK K n p) n = c2F S K0 v p (n + 1) n := by
  have e1 : k_t1 K n = k_t1 K0 n := by rw [(h.2 n).1]; exact if_neg (by omega)
  have e2 : k_tk K n = k_tk K0 n := by rw [(h.2 n).2]; exact if_neg (by omega)
  have main : clR S K0 (cuK K n p) v p (n + 1) := by
    unfold cuK
    rw [e1, e2]
    by_cases q1 : p < k_t1 K0 n
    · rw [if_pos q1]
      refine ⟨kM_t1 h.1 _, fun t => ?_⟩
      show va_up (k_t1 K) n (k_t1 K0 n - 1) t = _ ∧ k_tk K t = _
      by_cases q : t = n
      · subst q
        rw [up_eq, e2]
        unfold c1F c2F
        rw [if_pos ⟨Nat.lt_succ_self _, h1, h2, q1⟩, if_neg (by omega)]
        exact ⟨rfl, rfl⟩
      · rw [up_ne q, c1F_e (Or.inl q), c2F_e (Or.inl q)]
        exact h.2 t
    · rw [if_neg q1]
      by_cases q2 : p < k_t1 K0 n + k_tk K0 n
      · rw [if_pos q2]
        refine ⟨kM_tk h.1 _, fun t => ?_⟩
        show k_t1 K t = _ ∧ va_up (k_tk K) n (k_tk K0 n - 1) t = _
        by_cases q : t = n
        · subst q
          rw [up_eq, e1]
          unfold c1F c2F
          rw [if_neg (by omega), if_pos ⟨Nat.lt_succ_self _, h1, h2, by omega, q2⟩]
          exact ⟨rfl, rfl⟩
        · rw [up_ne q, c1F_e (Or.inl q), c2F_e (Or.inl q)]
          exact h.2 t
      · rw [if_neg q2]
        refine ⟨h.1, fun t => ?_⟩
        by_cases q : t = n
        · subst q
          rw [e1, e2]
          unfold c1F c2F
          rw [if_neg (by omega), if_neg (by omega)]
          exact ⟨rfl, rfl⟩
        · rw [c1F_e (Or.inl q), c2F_e (Or.inl q)]
          exact h.2 t
  exact ⟨main, (main.2 n).2⟩
theorem ctF_0 (S : TS) (K : KS) (v p : Nat) : ctF S K v p 0 = g_tt S := by
  funext t
  unfold ctF
  rw [if_neg (by omega)]
theorem ctF_n (S : TS) (K : KS) (v p n : Nat) : ctF S K v p n n = g_tt S n := if_neg (by omega)
theorem ctF_same {S : TS} {K : KS} {v p n : Nat} (h : ¬ (g_tt S n = true ∧ g_tv S n = v ∧ c2F S K v p (n + 1) n = 0)) : ctF S K v p (n + 1) = ctF S K v p n := by
  funext t
  unfold ctF
  by_cases q : t = n
  · subst q
    rw [if_neg (show ¬ (t < t ∧ _) by omega)]
    by_cases q2 : g_tv S t = v ∧ c2F S K v p (t + 1) t = 0
    · rw [if_pos ⟨Nat.lt_succ_self _, q2⟩]
      cases hb : g_tt S t with
      | false => rfl
      | true => exact absurd ⟨hb, q2⟩ h
    · rw [if_neg (fun z => q2 z.2)]
  · simp only [show (t < n + 1) ↔ t < n by omega]
theorem ctF_off {S : TS} {K : KS} {v p n : Nat} (h2 : g_tv S n = v) (h3 : c2F S K v p (n + 1) n = 0) : va_up (ctF S K v p n) n false = ctF S K v p (n + 1) := by
  funext t
  by_cases q : t = n
  · subst q
    rw [up_eq]
    unfold ctF
    rw [if_pos ⟨Nat.lt_succ_self _, h2, h3⟩]
  · rw [up_ne q]
    unfold ctF
    simp only [show (t < n + 1) ↔ t < n by omega]
theorem hg_tt (T : TS) : h_tt T (g_tt T) = T := by
  unfold h_tt g_tt
  simp only [up_self]
theorem cuK_e (K : KS) (t p : Nat) : k_va (cuK K t p) = k_va K ∧ k_ea (cuK K t p) = k_ea K ∧ k_ta (cuK K t p) = k_ta K := by
  unfold cuK
  split
  · exact ⟨rfl, rfl, rfl⟩
  · split
    · exact ⟨rfl, rfl, rfl⟩
    · exact ⟨rfl, rfl, rfl⟩
set_option maxHeartbeats 4000000 in
set_option maxRecDepth 100000 in
theorem e_dropFromTuplets {c B : Nat} {σ : ZS} {S : TS} {K0 : KS} (hG : cG c B σ S K0) {v p : Nat} (hv : v < 3 * g_np S) (hp : p ≤ 1000) (hvt : ∀ t, t < g_te S → g_tt S t = true → g_tv S t < 3 * g_np S) (hb9 : ∀ t, t < g_te S → g_tt S t = true → k_t1 K0 t ≤ 1000 ∧ k_tk K0 t ≤ 1000) : ZC M_X11_dropFromTuplets [Ar (some c), Ar (some (k_va K0 v)), Ai (nI p)] σ (fun r τ => r = none ∧ ∃ K, cG c B τ (h_tt S (ctF S K0 v p (g_te S))) K ∧ clR S K0 K v p (g_te S)) := by
  have hbd := cf_bd hG
  refine ZC_of (ls := [some (Ar (some c)), some (Ar (some (k_va K0 v))), some (Ai (nI p)), none, none]) (by decide) (Nat.le_of_ble_eq_true rfl) rfl ?_
  have loop : ∀ (n9 t : Nat) (K : KS) (τ : ZS), g_te S - t < n9 → t ≤ g_te S → cG c B τ (h_tt S (ctF S K0 v p t)) K → clR S K0 K v p t → ZV M_X11_dropFromTuplets (fun r τ => r = none ∧ ∃ K, cG c B τ (h_tt S (ctF S K0 v p (g_te S))) K ∧ clR S K0 K v p (g_te S)) 2 [some (Ar (some c)), some (Ar (some (k_va K v))), some (Ai (nI p)), some (Ai (nI t)), none] [] τ (zmC M_X11_dropFromTuplets) (zmS M_X11_dropFromTuplets) := by
    intro n9
    induction n9 with
    | zero => intro t K τ hme; exact absurd hme (Nat.not_lt_zero _)
    | succ n9 ih =>
      intro t K τ hme ht hG hR
      refine ZV_iload_n (n := 3) dX11_dropFromTuplets_2 rfl rfl rfl ?_
      refine ZV_aload_n (n := 4) dX11_dropFromTuplets_3 rfl rfl rfl ?_
      refine ZV_getIv (n := 7) dX11_dropFromTuplets_4 fl_X11_47 rfl rfl rfl (cf_sh hG :).1 (show _ = nI (g_te S) from (cf_te hG :)) ?_
      refine ZV_icmp_geN (tgt := 59) (n := 10) dX11_dropFromTuplets_7 (by decide) rfl (by omega) (by omega) (fun h7 => ?_) (fun h7 => ?_)
      · skip
        refine ZV_vret dX11_dropFromTuplets_59 rfl ?_
        obtain rfl : t = g_te S := by omega
        exact ⟨rfl, K, hG, hR⟩
      · skip
        refine ZV_aload_n (n := 11) dX11_dropFromTuplets_10 rfl rfl rfl ?_
        refine ZV_getRv (n := 14) dX11_dropFromTuplets_11 fl_X11_43 rfl rfl rfl (cf_sh hG :).1 (ca_tuplets (cf_sh hG :)) ?_
        refine ZV_iload_n (n := 15) dX11_dropFromTuplets_14 rfl rfl rfl ?_
        rcases hb15 : g_tt S t with _ | _
        · skip
          refine ZV_aaldv (c0 := 3) (w := none) (j := t) (n := 16) dX11_dropFromTuplets_15 rfl (by decide) rfl (ck_tuplets (cf_sh hG :)) rfl (by omega) (Eq.trans (cf_ta hG t (show t < g_te S by omega)) (if_neg (show ¬ ctF S K0 v p t t = true by rw [ctF_n, hb15]; exact Bool.false_ne_true))) ?_
          refine ZV_astore_4 (n := 18) dX11_dropFromTuplets_16 rfl (Nat.le_of_ble_eq_true rfl) rfl ?_
          refine ZV_aload (n := 20) dX11_dropFromTuplets_18 rfl rfl ?_
          refine ZV_ifnull_n (tgt := 53) dX11_dropFromTuplets_20 (by decide) ?_
          refine ZV_iincN_3 (v := 1) (n := 56) dX11_dropFromTuplets_53 rfl rfl (Nat.le_of_ble_eq_true rfl) rfl ?_
          refine ZV_goto (tgt := 2) dX11_dropFromTuplets_56 (by decide) ?_
          refine ZV_fg_4 ?_
          exact ih (t + 1) K τ (by omega) (by omega) (by rw [ctF_same (fun z => by rw [hb15] at z; cases z.1)]; exact hG) (clR_no hR (fun z => by rw [hb15] at z; cases z.1))
        · skip
          refine ZV_aaldv (c0 := 3) (w := some (k_ta K t)) (j := t) (n := 16) dX11_dropFromTuplets_15 rfl (by decide) rfl (ck_tuplets (cf_sh hG :)) rfl (by omega) (Eq.trans (cf_ta hG t (show t < g_te S by omega)) (if_pos (show ctF S K0 v p t t = true by rw [ctF_n]; exact hb15))) ?_
          refine ZV_astore_4 (n := 18) dX11_dropFromTuplets_16 rfl (Nat.le_of_ble_eq_true rfl) rfl ?_
          refine ZV_aload (n := 20) dX11_dropFromTuplets_18 rfl rfl ?_
          refine ZV_ifnull_s (tgt := 53) (n := 23) dX11_dropFromTuplets_20 (by decide) rfl ?_
          refine ZV_aload (n := 25) dX11_dropFromTuplets_23 rfl rfl ?_
          have htv := hvt t (by omega) hb15
          refine ZV_getRv (w := some (k_va K (g_tv S t))) (n := 28) dX11_dropFromTuplets_25 fl_X11_140 rfl rfl rfl (cf_tk hG t (show t < g_te S by omega)).1 (cf_to hG t (show t < g_te S by omega) (show ctF S K0 v p t t = true by rw [ctF_n]; exact hb15)) ?_
          refine ZV_aload_n (n := 29) dX11_dropFromTuplets_28 rfl rfl rfl ?_
          refine ZV_acmp_neI (i := g_tv S t) (j := v) (tgt := 53) (n := 32) dX11_dropFromTuplets_29 (by decide) rfl (va_inj hG htv hv) (fun q => congrArg (k_va K) q) (fun h29 => ?_) (fun h29 => ?_)
          · skip
            refine ZV_iincN_3 (v := 1) (n := 56) dX11_dropFromTuplets_53 rfl rfl (Nat.le_of_ble_eq_true rfl) rfl ?_
            refine ZV_goto (tgt := 2) dX11_dropFromTuplets_56 (by decide) ?_
            refine ZV_fg_4 ?_
            exact ih (t + 1) K τ (by omega) (by omega) (by rw [ctF_same (fun z => h29 z.2.1)]; exact hG) (clR_no hR (fun z => h29 z.2))
          · skip
            refine ZV_aload (n := 34) dX11_dropFromTuplets_32 rfl rfl ?_
            refine ZV_iload_n (n := 35) dX11_dropFromTuplets_34 rfl rfl rfl ?_
            have hkb := hb9 t (by omega) hb15
            have hr8 := hR.2 t
            have e1 : k_t1 K t = k_t1 K0 t := by rw [hr8.1]; exact if_neg (by omega)
            have e2 : k_tk K t = k_tk K0 t := by rw [hr8.2]; exact if_neg (by omega)
            refine call_X11_448 (e_closeUp hG (t := t) (show t < g_te S by omega) (by omega) (p := p) (by omega)) rfl dX11_dropFromTuplets_35 rfl (cf_tk hG t (show t < g_te S by omega)).1 (Nat.le_of_ble_eq_true rfl) (Nat.le_of_ble_eq_true rfl) rfl (fun r9 σ9 hp9 => ?_)
            obtain ⟨rfl, hG⟩ := hp9
            have hs1 := clR_s hR hb15 h29
            have ek := cuK_e K t p
            rw [← ek.1, ← ek.2.2]
            refine ZV_aload (n := 40) dX11_dropFromTuplets_38 rfl rfl ?_
            refine ZV_getIv (w := nI (k_tk (cuK K t p) t)) (n := 43) dX11_dropFromTuplets_40 fl_X11_288 rfl rfl rfl (cf_tk hG t (show t < g_te S by omega)).1 (cf_t2 hG t (show t < g_te S by omega)) ?_
            have hkk : k_tk (cuK K t p) t ≤ 1000 := by rw [hs1.2]; unfold c2F; split <;> omega
            refine ZV_if_neN (tgt := 53) (n := 46) dX11_dropFromTuplets_43 (by decide) rfl (by omega) (fun h43 => ?_) (fun h43 => ?_)
            · skip
              refine ZV_iincN_3 (v := 1) (n := 56) dX11_dropFromTuplets_53 rfl rfl (Nat.le_of_ble_eq_true rfl) rfl ?_
              refine ZV_goto (tgt := 2) dX11_dropFromTuplets_56 (by decide) ?_
              refine ZV_fg_4 ?_
              exact ih (t + 1) (cuK K t p) σ9 (by omega) (by omega) (by rw [ctF_same (fun z => h43 (hs1.2.trans z.2.2))]; exact hG) hs1.1
            · skip
              refine ZV_aload_n (n := 47) dX11_dropFromTuplets_46 rfl rfl rfl ?_
              refine ZV_getRv (n := 50) dX11_dropFromTuplets_47 fl_X11_43 rfl rfl rfl (cf_sh hG :).1 (ca_tuplets (cf_sh hG :)) ?_
              refine ZV_iload_n (n := 51) dX11_dropFromTuplets_50 rfl rfl rfl ?_
              refine ZV_null (n := 52) dX11_dropFromTuplets_51 rfl ?_
              refine ZV_aast (c0 := 3) (j := t) (n := 53) dX11_dropFromTuplets_52 rfl (by decide) (fun x9 q9 => by cases q9) rfl (ck_tuplets (cf_sh hG :)) rfl (by omega) ?_
              have hG7 := U_tt hG t
              rw [hh_tt, gh_tt_tt, ctF_off h29 (hs1.2.symm.trans h43)] at hG7
              refine ZV_gen (P := fun τ => cG c B τ (h_tt S (ctF S K0 v p (t + 1))) (cuK K t p)) hG7 (fun σ hG8 => ?_)
              refine ZV_iincN_3 (v := 1) (n := 56) dX11_dropFromTuplets_53 rfl rfl (Nat.le_of_ble_eq_true rfl) rfl ?_
              refine ZV_goto (tgt := 2) dX11_dropFromTuplets_56 (by decide) ?_
              refine ZV_fg_4 ?_
              exact ih (t + 1) (cuK K t p) σ (by omega) (by omega) hG8 hs1.1
  refine ZV_iconst (v := nI 0) (n := 1) dX11_dropFromTuplets_0 rfl rfl ?_
  refine ZV_istore_3 (n := 2) dX11_dropFromTuplets_1 rfl (Nat.le_of_ble_eq_true rfl) rfl ?_
  exact loop _ 0 K0 σ (Nat.lt_succ_self _) (Nat.zero_le _) (by rw [ctF_0, hg_tt]; exact hG) (clR_0 S K0 v p)
