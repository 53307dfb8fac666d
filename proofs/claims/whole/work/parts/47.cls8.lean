theorem jj_pa (K : KS) (f g : Nat → Nat) : j_pa (j_pa K f) g = j_pa K g := by unfold j_pa; simp only [bx_uu]
theorem jj_va (K : KS) (f g : Nat → Nat) : j_va (j_va K f) g = j_va K g := by unfold j_va; simp only [bx_uu]
theorem jj_ea (K : KS) (f g : Nat → Nat) : j_ea (j_ea K f) g = j_ea K g := by unfold j_ea; simp only [bx_uu]
theorem jj_ta (K : KS) (f g : Nat → Nat) : j_ta (j_ta K f) g = j_ta K g := by unfold j_ta; simp only [bx_uu]
theorem jj_la (K : KS) (f g : Nat → Nat) : j_la (j_la K f) g = j_la K g := by unfold j_la; simp only [bx_uu]
theorem jj_wa (K : KS) (f g : Nat → Nat) : j_wa (j_wa K f) g = j_wa K g := by unfold j_wa; simp only [bx_uu]
theorem jj_pl (K : KS) (f g : Nat → Nat) : j_pl (j_pl K f) g = j_pl K g := by unfold j_pl; simp only [bx_uu]
theorem jj_bg (K : KS) (f g : Nat → Nat) : j_bg (j_bg K f) g = j_bg K g := by unfold j_bg; simp only [bx_uu]
theorem jj_ls (K : KS) (f g : Nat → Nat) : j_ls (j_ls K f) g = j_ls K g := by unfold j_ls; simp only [bx_uu]
theorem jj_vl (K : KS) (f g : Nat → Nat) : j_vl (j_vl K f) g = j_vl K g := by unfold j_vl; simp only [bx_uu]
theorem jj_t1 (K : KS) (f g : Nat → Nat) : j_t1 (j_t1 K f) g = j_t1 K g := by unfold j_t1; simp only [bx_uu]
theorem jj_tk (K : KS) (f g : Nat → Nat) : j_tk (j_tk K f) g = j_tk K g := by unfold j_tk; simp only [bx_uu]
theorem jj_be (K : KS) (f g : Nat → Nat) : j_be (j_be K f) g = j_be K g := by unfold j_be; simp only [bx_uu]
theorem jj_wt (K : KS) (f g : Nat → Nat) : j_wt (j_wt K f) g = j_wt K g := by unfold j_wt; simp only [bx_uu]
def mrK (K : KS) (t p : Nat) : KS := if p ≤ k_t1 K t then j_t1 K (va_up (k_t1 K) t (k_t1 K t + 1)) else if p < k_t1 K t + k_tk K t then j_tk K (va_up (k_tk K) t (k_tk K t + 1)) else K
def cuK (K : KS) (t p : Nat) : KS := if p < k_t1 K t then j_t1 K (va_up (k_t1 K) t (k_t1 K t - 1)) else if p < k_t1 K t + k_tk K t then j_tk K (va_up (k_tk K) t (k_tk K t - 1)) else K
set_option maxHeartbeats 4000000 in
set_option maxRecDepth 100000 in
theorem e_makeRoom {c B : Nat} {σ : ZS} {T : TS} {K : KS} (hG : cG c B σ T K) {t : Nat} (ht : t < g_te T) (hb : k_t1 K t ≤ 1000 ∧ k_tk K t ≤ 1000) {p : Nat} (hp : p ≤ 1000) : ZC M_X9_makeRoom [Ar (some (k_ta K t)), Ai (nI p)] σ (fun r τ => r = none ∧ cG c B τ T (mrK K t p)) := by
  refine ZC_of (ls := [some (Ar (some (k_ta K t))), some (Ai (nI p))]) (by decide) (Nat.le_of_ble_eq_true rfl) rfl ?_
  refine ZV_iload_n (n := 1) dX9_makeRoom_0 rfl rfl rfl ?_
  refine ZV_aload_n (n := 2) dX9_makeRoom_1 rfl rfl rfl ?_
  refine ZV_getIv (n := 5) dX9_makeRoom_2 fl_X9_17 rfl rfl rfl (cf_tk hG t ht).1 (cf_t1 hG t ht) ?_
  refine ZV_icmp_gtN (tgt := 21) (n := 8) dX9_makeRoom_5 (by decide) rfl (by omega) (by omega) (fun h5 => ?_) (fun h5 => ?_)
  · skip
    refine ZV_aload_n (n := 22) dX9_makeRoom_21 rfl rfl rfl ?_
    refine ZV_iload_n (n := 23) dX9_makeRoom_22 rfl rfl rfl ?_
    refine call_X9_32 (e_covers hG ht hb hp) rfl dX9_makeRoom_23 rfl (cf_tk hG t ht).1 (Nat.le_of_ble_eq_true rfl) (Nat.le_of_ble_eq_true rfl) rfl (fun r9 σ9 hp9 => ?_)
    obtain ⟨rfl, hs9⟩ := hp9
    subst σ9
    refine ZV_if_eqB (tgt := 39) (n := 29) dX9_makeRoom_26 (by decide) rfl (fun h26 => ?_) (fun h26 => ?_)
    · skip
      refine ZV_vret dX9_makeRoom_39 rfl ?_
      refine ⟨rfl, ?_⟩
      unfold mrK
      have h26 := of_decide_eq_false h26
      rw [if_neg (by omega), if_neg (by omega)]
      exact hG
    · skip
      refine ZV_aload_n (n := 30) dX9_makeRoom_29 rfl rfl rfl ?_
      refine ZV_dup (n := 31) dX9_makeRoom_30 rfl rfl ?_
      refine ZV_getIv (n := 34) dX9_makeRoom_31 fl_X9_20 rfl rfl rfl (cf_tk hG t ht).1 (cf_t2 hG t ht) ?_
      refine ZV_iconst (v := nI 1) (n := 35) dX9_makeRoom_34 rfl rfl ?_
      refine ZV_iaddN (n := 36) dX9_makeRoom_35 rfl ?_
      refine ZV_putI (n := 39) dX9_makeRoom_36 fl_X9_20 rfl (Or.inl rfl) rfl (fun h => absurd h (by decide)) rfl (cf_tk hG t ht).1 ?_
      refine ZV_gen (P := fun τ => cG c B τ _ _) (U_t2 hG ht _) (fun σ hG => ?_)
      refine ZV_vret dX9_makeRoom_39 rfl ?_
      refine ⟨rfl, ?_⟩
      unfold mrK
      have h26 := of_decide_eq_true h26
      rw [if_neg (by omega), if_pos (by omega)]
      exact hG
  · skip
    refine ZV_aload_n (n := 9) dX9_makeRoom_8 rfl rfl rfl ?_
    refine ZV_dup (n := 10) dX9_makeRoom_9 rfl rfl ?_
    refine ZV_getIv (n := 13) dX9_makeRoom_10 fl_X9_17 rfl rfl rfl (cf_tk hG t ht).1 (cf_t1 hG t ht) ?_
    refine ZV_iconst (v := nI 1) (n := 14) dX9_makeRoom_13 rfl rfl ?_
    refine ZV_iaddN (n := 15) dX9_makeRoom_14 rfl ?_
    refine ZV_putI (n := 18) dX9_makeRoom_15 fl_X9_17 rfl (Or.inl rfl) rfl (fun h => absurd h (by decide)) rfl (cf_tk hG t ht).1 ?_
    refine ZV_gen (P := fun τ => cG c B τ _ _) (U_t1 hG ht _) (fun σ hG => ?_)
    refine ZV_goto (tgt := 39) dX9_makeRoom_18 (by decide) ?_
    refine ZV_vret dX9_makeRoom_39 rfl ?_
    refine ⟨rfl, ?_⟩
    unfold mrK
    rw [if_pos (by omega)]
    exact hG
set_option maxHeartbeats 4000000 in
set_option maxRecDepth 100000 in
theorem e_closeUp {c B : Nat} {σ : ZS} {T : TS} {K : KS} (hG : cG c B σ T K) {t : Nat} (ht : t < g_te T) (hb : k_t1 K t ≤ 1000 ∧ k_tk K t ≤ 1000) {p : Nat} (hp : p ≤ 1000) : ZC M_X9_closeUp [Ar (some (k_ta K t)), Ai (nI p)] σ (fun r τ => r = none ∧ cG c B τ T (cuK K t p)) := by
  refine ZC_of (ls := [some (Ar (some (k_ta K t))), some (Ai (nI p))]) (by decide) (Nat.le_of_ble_eq_true rfl) rfl ?_
  refine ZV_iload_n (n := 1) dX9_closeUp_0 rfl rfl rfl ?_
  refine ZV_aload_n (n := 2) dX9_closeUp_1 rfl rfl rfl ?_
  refine ZV_getIv (n := 5) dX9_closeUp_2 fl_X9_17 rfl rfl rfl (cf_tk hG t ht).1 (cf_t1 hG t ht) ?_
  refine ZV_icmp_geN (tgt := 21) (n := 8) dX9_closeUp_5 (by decide) rfl (by omega) (by omega) (fun h5 => ?_) (fun h5 => ?_)
  · skip
    refine ZV_aload_n (n := 22) dX9_closeUp_21 rfl rfl rfl ?_
    refine ZV_iload_n (n := 23) dX9_closeUp_22 rfl rfl rfl ?_
    refine call_X9_32 (e_covers hG ht hb hp) rfl dX9_closeUp_23 rfl (cf_tk hG t ht).1 (Nat.le_of_ble_eq_true rfl) (Nat.le_of_ble_eq_true rfl) rfl (fun r9 σ9 hp9 => ?_)
    obtain ⟨rfl, hs9⟩ := hp9
    subst σ9
    refine ZV_if_eqB (tgt := 39) (n := 29) dX9_closeUp_26 (by decide) rfl (fun h26 => ?_) (fun h26 => ?_)
    · skip
      refine ZV_vret dX9_closeUp_39 rfl ?_
      refine ⟨rfl, ?_⟩
      unfold cuK
      have h26 := of_decide_eq_false h26
      rw [if_neg (by omega), if_neg (by omega)]
      exact hG
    · skip
      refine ZV_aload_n (n := 30) dX9_closeUp_29 rfl rfl rfl ?_
      refine ZV_dup (n := 31) dX9_closeUp_30 rfl rfl ?_
      refine ZV_getIv (n := 34) dX9_closeUp_31 fl_X9_20 rfl rfl rfl (cf_tk hG t ht).1 (cf_t2 hG t ht) ?_
      refine ZV_iconst (v := nI 1) (n := 35) dX9_closeUp_34 rfl rfl ?_
      refine ZV_isubN (n := 36) dX9_closeUp_35 rfl (by have := of_decide_eq_true h26; omega) ?_
      refine ZV_putI (n := 39) dX9_closeUp_36 fl_X9_20 rfl (Or.inl rfl) rfl (fun h => absurd h (by decide)) rfl (cf_tk hG t ht).1 ?_
      refine ZV_gen (P := fun τ => cG c B τ _ _) (U_t2 hG ht _) (fun σ hG => ?_)
      refine ZV_vret dX9_closeUp_39 rfl ?_
      refine ⟨rfl, ?_⟩
      unfold cuK
      have h26 := of_decide_eq_true h26
      rw [if_neg (by omega), if_pos (by omega)]
      exact hG
  · skip
    refine ZV_aload_n (n := 9) dX9_closeUp_8 rfl rfl rfl ?_
    refine ZV_dup (n := 10) dX9_closeUp_9 rfl rfl ?_
    refine ZV_getIv (n := 13) dX9_closeUp_10 fl_X9_17 rfl rfl rfl (cf_tk hG t ht).1 (cf_t1 hG t ht) ?_
    refine ZV_iconst (v := nI 1) (n := 14) dX9_closeUp_13 rfl rfl ?_
    refine ZV_isubN (n := 15) dX9_closeUp_14 rfl (by omega) ?_
    refine ZV_putI (n := 18) dX9_closeUp_15 fl_X9_17 rfl (Or.inl rfl) rfl (fun h => absurd h (by decide)) rfl (cf_tk hG t ht).1 ?_
    refine ZV_gen (P := fun τ => cG c B τ _ _) (U_t1 hG ht _) (fun σ hG => ?_)
    refine ZV_goto (tgt := 39) dX9_closeUp_18 (by decide) ?_
    refine ZV_vret dX9_closeUp_39 rfl ?_
    refine ⟨rfl, ?_⟩
    unfold cuK
    rw [if_pos (by omega)]
    exact hG
def rpF (f : Nat → Option Nat) (e : Nat) : Nat → Option Nat := fun j => if f j = some e then none else f j
theorem U_rp {c B : Nat} {σ : ZS} {T : TS} {K : KS} {r e i : Nat} (h : cG c B σ (h_rr T (va_u2 (g_rr T) r (ltF (rpF (g_rr T r) e) (g_rr T r) i))) K) (hr : r < 4) (hh : g_hr T r = true) (hq : g_rr T r i = some e) : cG c B (qi σ (k_wa K r + 1) i (oI none)) (h_rr T (va_u2 (g_rr T) r (ltF (rpF (g_rr T r) e) (g_rr T r) (i + 1)))) K := by
  have h1 := U_rr h hr hh i none
  rw [hh_rr, gh_rr_rr, u2_u2] at h1
  rw [show va_up (ltF (rpF (g_rr T r) e) (g_rr T r) i) i none = ltF (rpF (g_rr T r) e) (g_rr T r) (i + 1) from by rw [← ltF_up]; congr 1; unfold rpF; rw [if_pos hq]] at h1
  exact h1
theorem ltF_nx {α : Type} {a b : Nat → α} {i : Nat} (h : a i = b i) : ltF a b (i + 1) = ltF a b i := by
  funext j
  unfold ltF
  by_cases q : j = i
  · rw [if_pos (by omega), if_neg (by omega), q, h]
  · by_cases q2 : j < i
    · rw [if_pos (by omega), if_pos q2]
    · rw [if_neg (by omega), if_neg q2]
theorem oI_some {o : Option Nat} {e : Nat} (h : oI o = nI e) (ho : ∀ f, o = some f → f < 150) (he : e < 150) : o = some e := by
  exact (oI_eq (fun f q => by have := ho f q; omega) (by omega)).mp h
theorem hg_rr (T : TS) : h_rr T (g_rr T) = T := by
  unfold h_rr g_rr
  simp only [up_self]
set_option maxHeartbeats 4000000 in
set_option maxRecDepth 100000 in
theorem e_replaceAll {c B : Nat} {σ : ZS} {T : TS} {K : KS} (hG : cG c B σ T K) {r e : Nat} (h4 : r < 4) (hh : g_hr T r = true) (hb : g_rs T r ≤ 20) (he : e < 150) (hrb : ∀ j f, j < g_rs T r → g_rr T r j = some f → f < 150) : ZC M_X8_replaceAll [Ar (some (k_wa K r)), Ai (nI e), Ai (-1)] σ (fun r9 τ => r9 = none ∧ cG c B τ (h_rr T (va_u2 (g_rr T) r (ltF (rpF (g_rr T r) e) (g_rr T r) (g_rs T r)))) K) := by
  refine ZC_of (ls := [some (Ar (some (k_wa K r))), some (Ai (nI e)), some (Ai (-1)), none]) (by decide) (Nat.le_of_ble_eq_true rfl) rfl ?_
  have loop : ∀ (n9 : Nat) (i : Nat) (τ : ZS), g_rs T r - i < n9 → i ≤ g_rs T r → cG c B τ (h_rr T (va_u2 (g_rr T) r (ltF (rpF (g_rr T r) e) (g_rr T r) i))) K → ZV M_X8_replaceAll (fun r9 τ => r9 = none ∧ cG c B τ (h_rr T (va_u2 (g_rr T) r (ltF (rpF (g_rr T r) e) (g_rr T r) (g_rs T r)))) K) 2 [some (Ar (some (k_wa K r))), some (Ai (nI e)), some (Ai (-1)), some (Ai (nI i))] [] τ (zmC M_X8_replaceAll) (zmS M_X8_replaceAll) := by
    intro n9
    induction n9 with
    | zero => intro i τ hm; exact absurd hm (Nat.not_lt_zero _)
    | succ n9 ih =>
      intro i τ hm hi hG
      refine ZV_iload_n (n := 3) dX8_replaceAll_2 rfl rfl rfl ?_
      refine ZV_aload_n (n := 4) dX8_replaceAll_3 rfl rfl rfl ?_
      refine ZV_getRv (n := 7) dX8_replaceAll_4 fl_X8_19 rfl rfl rfl (cf_rk hG r h4 hh).1 (show _ = some (k_wa K r + 1) from (cf_rt hG r h4 hh)) ?_
      refine ZV_alen (t := 0) (n := 8) dX8_replaceAll_7 rfl rfl (show zk τ (k_wa K r + 1) = (2, g_rs T r) from (cf_rk hG r h4 hh).2.1) (by decide) ?_
      refine ZV_icmp_geN (tgt := 34) (n := 11) dX8_replaceAll_8 (by decide) rfl (by omega) (by omega) (fun h8 => ?_) (fun h8 => ?_)
      · skip
        refine ZV_vret dX8_replaceAll_34 rfl ?_
        obtain rfl : i = g_rs T r := by omega
        exact ⟨rfl, hG⟩
      · skip
        refine ZV_aload_n (n := 12) dX8_replaceAll_11 rfl rfl rfl ?_
        refine ZV_getRv (n := 15) dX8_replaceAll_12 fl_X8_19 rfl rfl rfl (cf_rk hG r h4 hh).1 (show _ = some (k_wa K r + 1) from (cf_rt hG r h4 hh)) ?_
        refine ZV_iload_n (n := 16) dX8_replaceAll_15 rfl rfl rfl ?_
        refine ZV_ialdv (j := i) (n := 17) dX8_replaceAll_16 rfl rfl (cf_rk hG r h4 hh).2.1 rfl (show i < g_rs T r ∧ _ by omega) (show _ = oI (g_rr T r i) from (cf_rr hG r i h4 hh (show i < g_rs T r by omega)).trans (by show oI (va_u2 (g_rr T) r _ r i) = _; rw [u2_eq, ltF_at])) ?_
        refine ZV_iload_n (n := 18) dX8_replaceAll_17 rfl rfl rfl ?_
        refine ZV_icmp_ne (tgt := 28) (n := 21) dX8_replaceAll_18 (by decide) rfl (fun h18 => ?_) (fun h18 => ?_)
        · skip
          refine ZV_iincN_3 (v := 1) (n := 31) dX8_replaceAll_28 rfl rfl (Nat.le_of_ble_eq_true rfl) rfl ?_
          refine ZV_goto (tgt := 2) dX8_replaceAll_31 (by decide) ?_
          refine ih (i + 1) _ (by omega) (by omega) ?_
          rw [ltF_nx (if_neg (fun q => h18 (by rw [q]; rfl)))]
          exact hG
        · skip
          have hq := oI_some h18 (fun f q => hrb i f (by omega) q) he
          refine ZV_aload_n (n := 22) dX8_replaceAll_21 rfl rfl rfl ?_
          refine ZV_getRv (n := 25) dX8_replaceAll_22 fl_X8_19 rfl rfl rfl (cf_rk hG r h4 hh).1 (show _ = some (k_wa K r + 1) from (cf_rt hG r h4 hh)) ?_
          refine ZV_iload_n (n := 26) dX8_replaceAll_25 rfl rfl rfl ?_
          refine ZV_iload_n (n := 27) dX8_replaceAll_26 rfl rfl rfl ?_
          refine ZV_iast (j := i) (n := 28) dX8_replaceAll_27 rfl rfl (cf_rk hG r h4 hh).2.1 rfl (show i < g_rs T r ∧ _ by omega) ?_
          refine ZV_gen (P := fun τ => cG c B τ _ _) (U_rp hG h4 hh hq) (fun τ hG => ?_)
          refine ZV_iincN_3 (v := 1) (n := 31) dX8_replaceAll_28 rfl rfl (Nat.le_of_ble_eq_true rfl) rfl ?_
          refine ZV_goto (tgt := 2) dX8_replaceAll_31 (by decide) ?_
          exact ih (i + 1) _ (by omega) (by omega) hG
  refine ZV_iconst (v := nI 0) (n := 1) dX8_replaceAll_0 rfl rfl ?_
  refine ZV_istore_3 (n := 2) dX8_replaceAll_1 rfl (Nat.le_of_ble_eq_true rfl) rfl ?_
  refine loop _ 0 σ (Nat.lt_succ_self _) (Nat.zero_le _) ?_
  rw [ltF_0, u2_self, hg_rr]
  exact hG
theorem U_dn {c B : Nat} {σ : ZS} {T : TS} {K : KS} {v i m : Nat} (h : cG c B σ (h_ro T (va_u2 (g_ro T) v (dnF (g_ro T v) i m))) K) (hv : v < 3 * g_np T) (h0 : 0 < i) (hm : i ≤ m) : cG c B (qr σ (k_va K v + 1) i (some (k_ea K (g_ro T v (i - 1))))) (h_ro T (va_u2 (g_ro T) v (dnF (g_ro T v) (i - 1) m))) K := by
  have h1 := U_ro h hv i (g_ro T v (i - 1))
  rw [hh_ro, gh_ro_ro, u2_u2, dnF_up _ _ _ h0 hm] at h1
  exact h1
theorem hg_ro (T : TS) : h_ro T (g_ro T) = T := by
  unfold h_ro g_ro
  simp only [up_self]
theorem U_ins {c B : Nat} {σ : ZS} {T : TS} {K : KS} {v p e : Nat} (h : cG c B σ (h_ro T (va_u2 (g_ro T) v (dnF (g_ro T v) p (g_mn T v)))) K) (hv : v < 3 * g_np T) (hp : p ≤ g_mn T v) (hx : p < g_mn T v → zr σ (k_va K v + 1) (g_mn T v) = some (k_ea K (g_ro T v (g_mn T v - 1)))) : cG c B (pI (qr σ (k_va K v + 1) p (some (k_ea K e))) 643 (k_va K v) (nI (g_mn T v + 1))) (h_mn (h_ro T (va_u2 (g_ro T) v (inF (g_ro T v) p (g_mn T v) e))) (va_up (g_mn T) v (g_mn T v + 1))) K := by
  have h1 := U_ro h hv p e
  rw [hh_ro, gh_ro_ro, u2_u2] at h1
  refine U_mn h1 hv (fun q hq => ?_)
  by_cases h2 : q < g_mn T v
  · exact cf_ro h1 v q hv h2
  · obtain rfl : q = g_mn T v := by omega
    show zr (qr σ (k_va K v + 1) p (some (k_ea K e))) (k_va K v + 1) (g_mn T v) = some (k_ea K (g_ro (h_ro T (va_u2 (g_ro T) v (va_up (dnF (g_ro T v) p (g_mn T v)) p e))) v (g_mn T v)))
    rw [gh_ro_ro, u2_eq]
    by_cases h3 : p = g_mn T v
    · rw [← h3, up_eq]
      exact if_pos ⟨rfl, rfl⟩
    · rw [up_ne (by omega)]
      unfold dnF
      rw [if_pos ⟨by omega, Nat.le_refl _⟩]
      exact Eq.trans (if_neg (fun z => h3 z.2.symm)) (hx (by omega))
set_option maxHeartbeats 4000000 in
set_option maxRecDepth 100000 in
theorem e_insert {c B : Nat} {σ : ZS} {T : TS} {K : KS} (hG : cG c B σ T K) {v p e : Nat} (hv : v < 3 * g_np T) (hp : p ≤ g_mn T v) (hm : g_mn T v < 40) (he : e < g_ev T) (hro : ∀ i, i < g_mn T v → g_ro T v i < g_ev T) : ZC M_X10_insert [Ar (some (k_va K v)), Ai (nI p), Ar (some (k_ea K e))] σ (fun r τ => r = none ∧ cG c B τ (h_mn (h_ro T (va_u2 (g_ro T) v (inF (g_ro T v) p (g_mn T v) e))) (va_up (g_mn T) v (g_mn T v + 1))) K) := by
  refine ZC_of (ls := [some (Ar (some (k_va K v))), some (Ai (nI p)), some (Ar (some (k_ea K e))), none]) (by decide) (Nat.le_of_ble_eq_true rfl) rfl ?_
  have loop : ∀ (n9 : Nat) (i : Nat) (τ : ZS), i - p < n9 → p ≤ i → i ≤ g_mn T v → cG c B τ (h_ro T (va_u2 (g_ro T) v (dnF (g_ro T v) i (g_mn T v)))) K → (i < g_mn T v → zr τ (k_va K v + 1) (g_mn T v) = some (k_ea K (g_ro T v (g_mn T v - 1)))) → ZV M_X10_insert (fun r τ => r = none ∧ cG c B τ (h_mn (h_ro T (va_u2 (g_ro T) v (inF (g_ro T v) p (g_mn T v) e))) (va_up (g_mn T) v (g_mn T v + 1))) K) 27 [some (Ar (some (k_va K v))), some (Ai (nI p)), some (Ar (some (k_ea K e))), some (Ai (nI i))] [] τ (zmC M_X10_insert) (zmS M_X10_insert) := by
    intro n9
    induction n9 with
    | zero => intro i τ hm; exact absurd hm (Nat.not_lt_zero _)
    | succ n9 ih =>
      intro i τ hme hpi hi hG hx
      refine ZV_iload_n (n := 28) dX10_insert_27 rfl rfl rfl ?_
      refine ZV_iload_n (n := 29) dX10_insert_28 rfl rfl rfl ?_
      refine ZV_icmp_leN (tgt := 52) (n := 32) dX10_insert_29 (by decide) rfl (by omega) (by omega) (fun h29 => ?_) (fun h29 => ?_)
      · skip
        obtain rfl : p = i := by omega
        refine ZV_aload_n (n := 53) dX10_insert_52 rfl rfl rfl ?_
        refine ZV_getRv (n := 56) dX10_insert_53 fl_X10_11 rfl rfl rfl (cf_vk hG v hv).1 (show _ = some (k_va K v + 1) from (cf_ve hG v hv)) ?_
        refine ZV_iload_n (n := 57) dX10_insert_56 rfl rfl rfl ?_
        refine ZV_aload_n (n := 58) dX10_insert_57 rfl rfl rfl ?_
        refine ZV_aast (c0 := 2) (j := p) (n := 59) dX10_insert_58 rfl (by decide) (fun b q => by cases q; exact ⟨2, (cf_ek hG _ he).1, by decide, Or.inl rfl⟩) rfl (cf_vk hG v hv).2.1 rfl (by omega) ?_
        refine ZV_aload_n (n := 60) dX10_insert_59 rfl rfl rfl ?_
        refine ZV_dup (n := 61) dX10_insert_60 rfl rfl ?_
        refine ZV_getIv (n := 64) dX10_insert_61 fl_X10_17 rfl rfl rfl (cf_vk hG v hv).1 (show _ = nI (g_mn T v) from cf_vs hG v hv) ?_
        refine ZV_iconst (v := nI 1) (n := 65) dX10_insert_64 rfl rfl ?_
        refine ZV_iaddN (n := 66) dX10_insert_65 rfl ?_
        refine ZV_putI (n := 69) dX10_insert_66 fl_X10_17 rfl (Or.inl rfl) rfl (fun h => absurd h (by decide)) rfl (cf_vk hG v hv).1 ?_
        refine ZV_gen (P := fun τ => cG c B τ _ _) (U_ins hG hv hp (fun q => hx (by omega))) (fun σ hG => ?_)
        refine ZV_vret dX10_insert_69 rfl ?_
        exact ⟨rfl, hG⟩
      · skip
        refine ZV_aload_n (n := 33) dX10_insert_32 rfl rfl rfl ?_
        refine ZV_getRv (n := 36) dX10_insert_33 fl_X10_11 rfl rfl rfl (cf_vk hG v hv).1 (show _ = some (k_va K v + 1) from (cf_ve hG v hv)) ?_
        refine ZV_iload_n (n := 37) dX10_insert_36 rfl rfl rfl ?_
        refine ZV_aload_n (n := 38) dX10_insert_37 rfl rfl rfl ?_
        refine ZV_getRv (n := 41) dX10_insert_38 fl_X10_11 rfl rfl rfl (cf_vk hG v hv).1 (show _ = some (k_va K v + 1) from (cf_ve hG v hv)) ?_
        refine ZV_iload_n (n := 42) dX10_insert_41 rfl rfl rfl ?_
        refine ZV_iconst (v := nI 1) (n := 43) dX10_insert_42 rfl rfl ?_
        refine ZV_isubN (n := 44) dX10_insert_43 rfl (by omega) ?_
        refine ZV_aaldv (c0 := 2) (j := i - 1) (n := 45) dX10_insert_44 rfl (by decide) rfl (cf_vk hG v hv).2.1 rfl (by omega) (show _ = some (k_ea K (g_ro T v (i - 1))) from (cf_ro hG v (i - 1) hv (show i - 1 < g_mn T v by omega)).trans (by show some (k_ea K (va_u2 (g_ro T) v _ v (i - 1))) = _; rw [u2_eq]; unfold dnF; rw [if_neg (by omega)])) ?_
        refine ZV_aast (c0 := 2) (j := i) (n := 46) dX10_insert_45 rfl (by decide) (fun b q => by cases q; exact ⟨2, (cf_ek hG _ (hro (i - 1) (by omega))).1, by decide, Or.inl rfl⟩) rfl (cf_vk hG v hv).2.1 rfl (by omega) ?_
        refine ZV_iincM_3 (n := 49) dX10_insert_46 rfl rfl (Nat.le_of_ble_eq_true rfl) rfl (by omega) ?_
        refine ZV_goto (tgt := 27) dX10_insert_49 (by decide) ?_
        refine ih (i - 1) _ (by omega) (by omega) (by omega) (U_dn hG hv (by omega) hi) (fun _ => ?_)
        by_cases q : i = g_mn T v
        · subst q
          exact if_pos ⟨rfl, rfl⟩
        · exact Eq.trans (if_neg (fun z => q z.2.symm)) (hx (by omega))
  refine ZV_iload_n (n := 1) dX10_insert_0 rfl rfl rfl ?_
  refine ZV_if_lt (tgt := 21) (n := 4) dX10_insert_1 (by decide) rfl (fun h1 => ?_) (fun h1 => ?_)
  · skip
    exact absurd h1 (nI_nn (by omega))
  · skip
    refine ZV_iload_n (n := 5) dX10_insert_4 rfl rfl rfl ?_
    refine ZV_aload_n (n := 6) dX10_insert_5 rfl rfl rfl ?_
    refine ZV_getIv (n := 9) dX10_insert_6 fl_X10_17 rfl rfl rfl (cf_vk hG v hv).1 (show _ = nI (g_mn T v) from (cf_vs hG v hv)) ?_
    refine ZV_icmp_gtN (tgt := 21) (n := 12) dX10_insert_9 (by decide) rfl (by omega) (by omega) (fun h9 => ?_) (fun h9 => ?_)
    · skip
      exact absurd h9 (by omega)
    · skip
      refine ZV_aload_n (n := 13) dX10_insert_12 rfl rfl rfl ?_
      refine ZV_getIv (n := 16) dX10_insert_13 fl_X10_17 rfl rfl rfl (cf_vk hG v hv).1 (show _ = nI (g_mn T v) from (cf_vs hG v hv)) ?_
      refine ZV_bipush (v := nI 40) (n := 18) dX10_insert_16 rfl rfl ?_
      refine ZV_icmp_ltN (tgt := 22) (n := 21) dX10_insert_18 (by decide) rfl (by omega) (by omega) (fun h18 => ?_) (fun h18 => ?_)
      · skip
        refine ZV_aload_n (n := 23) dX10_insert_22 rfl rfl rfl ?_
        refine ZV_getIv (n := 26) dX10_insert_23 fl_X10_17 rfl rfl rfl (cf_vk hG v hv).1 (show _ = nI (g_mn T v) from (cf_vs hG v hv)) ?_
        refine ZV_istore_3 (n := 27) dX10_insert_26 rfl (Nat.le_of_ble_eq_true rfl) rfl ?_
        refine loop _ (g_mn T v) σ (Nat.lt_succ_self _) hp (Nat.le_refl _) ?_ (fun q => absurd q (Nat.lt_irrefl _))
        rw [dnF_0, u2_self, hg_ro]
        exact hG
      · skip
        exact absurd h18 (by omega)
theorem U_upr {c B : Nat} {σ : ZS} {T : TS} {K : KS} {v p i : Nat} (h : cG c B σ (h_ro T (va_u2 (g_ro T) v (upF (g_ro T v) p i))) K) (hv : v < 3 * g_np T) (hp : p ≤ i) : cG c B (qr σ (k_va K v + 1) i (some (k_ea K (g_ro T v (i + 1))))) (h_ro T (va_u2 (g_ro T) v (upF (g_ro T v) p (i + 1)))) K := by
  have h1 := U_ro h hv i (g_ro T v (i + 1))
  rw [hh_ro, gh_ro_ro, u2_u2, upF_up _ hp] at h1
  exact h1
set_option maxHeartbeats 4000000 in
set_option maxRecDepth 100000 in
theorem e_remove {c B : Nat} {σ : ZS} {T : TS} {K : KS} (hG : cG c B σ T K) {v p : Nat} (hv : v < 3 * g_np T) (hp : p < g_mn T v) (hm : g_mn T v ≤ 40) (hro : ∀ i, i < g_mn T v → g_ro T v i < g_ev T) : ZC M_X10_remove [Ar (some (k_va K v)), Ai (nI p)] σ (fun r τ => r = none ∧ cG c B τ (h_ro (h_mn T (va_up (g_mn T) v (g_mn T v - 1))) (va_u2 (g_ro T) v (upF (g_ro T v) p (g_mn T v - 1)))) K) := by
  refine ZC_of (ls := [some (Ar (some (k_va K v))), some (Ai (nI p)), none]) (by decide) (Nat.le_of_ble_eq_true rfl) rfl ?_
  have loop : ∀ (n9 : Nat) (i : Nat) (τ : ZS), g_mn T v - i < n9 → p ≤ i → i ≤ g_mn T v - 1 → cG c B τ (h_ro (h_mn T (va_up (g_mn T) v (g_mn T v - 1))) (va_u2 (g_ro T) v (upF (g_ro T v) p i))) K → zr τ (k_va K v + 1) (g_mn T v - 1) = some (k_ea K (g_ro T v (g_mn T v - 1))) → ZV M_X10_remove (fun r τ => r = none ∧ cG c B τ (h_ro (h_mn T (va_up (g_mn T) v (g_mn T v - 1))) (va_u2 (g_ro T) v (upF (g_ro T v) p (g_mn T v - 1)))) K) 25 [some (Ar (some (k_va K v))), some (Ai (nI p)), some (Ai (nI i))] [] τ (zmC M_X10_remove) (zmS M_X10_remove) := by
    intro n9
    induction n9 with
    | zero => intro i τ hm; exact absurd hm (Nat.not_lt_zero _)
    | succ n9 ih =>
      intro i τ hme hpi hi hG hx
      have hmv : va_up (g_mn T) v (g_mn T v - 1) v = g_mn T v - 1 := up_eq
      refine ZV_iload_n (n := 26) dX10_remove_25 rfl rfl rfl ?_
      refine ZV_aload_n (n := 27) dX10_remove_26 rfl rfl rfl ?_
      refine ZV_getIv (n := 30) dX10_remove_27 fl_X10_17 rfl rfl rfl (cf_vk hG v hv).1 (show _ = nI (g_mn T v - 1) from (cf_vs hG v hv).trans (congrArg nI hmv)) ?_
      refine ZV_icmp_geN (tgt := 53) (n := 33) dX10_remove_30 (by decide) rfl (by omega) (by omega) (fun h30 => ?_) (fun h30 => ?_)
      · skip
        refine ZV_aload_n (n := 54) dX10_remove_53 rfl rfl rfl ?_
        refine ZV_getRv (n := 57) dX10_remove_54 fl_X10_11 rfl rfl rfl (cf_vk hG v hv).1 (show _ = some (k_va K v + 1) from (cf_ve hG v hv)) ?_
        refine ZV_aload_n (n := 58) dX10_remove_57 rfl rfl rfl ?_
        refine ZV_getIv (n := 61) dX10_remove_58 fl_X10_17 rfl rfl rfl (cf_vk hG v hv).1 (show _ = nI (g_mn T v - 1) from (cf_vs hG v hv).trans (congrArg nI hmv)) ?_
        refine ZV_null (n := 62) dX10_remove_61 rfl ?_
        refine ZV_aast (c0 := 2) (j := g_mn T v - 1) (n := 63) dX10_remove_62 rfl (by decide) (fun b q => by cases q) rfl (cf_vk hG v hv).2.1 rfl (by omega) ?_
        refine ZV_gen (P := fun τ => cG c B τ _ _) (U_ro0 hG hv (g_mn T v - 1) (by show va_up (g_mn T) v (g_mn T v - 1) v ≤ _; rw [hmv]; exact Nat.le_refl _) none) (fun σ hG => ?_)
        refine ZV_vret dX10_remove_63 rfl ?_
        obtain rfl : i = g_mn T v - 1 := by omega
        exact ⟨rfl, hG⟩
      · skip
        refine ZV_aload_n (n := 34) dX10_remove_33 rfl rfl rfl ?_
        refine ZV_getRv (n := 37) dX10_remove_34 fl_X10_11 rfl rfl rfl (cf_vk hG v hv).1 (show _ = some (k_va K v + 1) from (cf_ve hG v hv)) ?_
        refine ZV_iload_n (n := 38) dX10_remove_37 rfl rfl rfl ?_
        refine ZV_aload_n (n := 39) dX10_remove_38 rfl rfl rfl ?_
        refine ZV_getRv (n := 42) dX10_remove_39 fl_X10_11 rfl rfl rfl (cf_vk hG v hv).1 (show _ = some (k_va K v + 1) from (cf_ve hG v hv)) ?_
        refine ZV_iload_n (n := 43) dX10_remove_42 rfl rfl rfl ?_
        refine ZV_iconst (v := nI 1) (n := 44) dX10_remove_43 rfl rfl ?_
        refine ZV_iaddN (n := 45) dX10_remove_44 rfl ?_
        refine ZV_aaldv (c0 := 2) (j := i + 1) (n := 46) dX10_remove_45 rfl (by decide) rfl (cf_vk hG v hv).2.1 rfl (by omega) (show _ = some (k_ea K (g_ro T v (i + 1))) from by
  by_cases q : i + 1 < g_mn T v - 1
  · refine (cf_ro hG v (i + 1) hv (show i + 1 < va_up (g_mn T) v (g_mn T v - 1) v by rw [hmv]; exact q)).trans ?_
    show some (k_ea K (va_u2 (g_ro T) v _ v (i + 1))) = _
    rw [u2_eq]
    unfold upF
    rw [if_neg (by omega)]
  · rw [show i + 1 = g_mn T v - 1 by omega]
    exact hx) ?_
        refine ZV_aast (c0 := 2) (j := i) (n := 47) dX10_remove_46 rfl (by decide) (fun b q => by cases q; exact ⟨2, (cf_ek hG _ (hro (i + 1) (by omega))).1, by decide, Or.inl rfl⟩) rfl (cf_vk hG v hv).2.1 rfl (by omega) ?_
        refine ZV_iincN_2 (v := 1) (n := 50) dX10_remove_47 rfl rfl (Nat.le_of_ble_eq_true rfl) rfl ?_
        refine ZV_goto (tgt := 25) dX10_remove_50 (by decide) ?_
        exact ih (i + 1) _ (by omega) (by omega) (by omega) (U_upr hG hv hpi) (Eq.trans (if_neg (fun z => by have := z.2; omega)) hx)
  refine ZV_iload_n (n := 1) dX10_remove_0 rfl rfl rfl ?_
  refine ZV_if_lt (tgt := 12) (n := 4) dX10_remove_1 (by decide) rfl (fun h1 => ?_) (fun h1 => ?_)
  · skip
    exact absurd h1 (nI_nn (by omega))
  · skip
    refine ZV_iload_n (n := 5) dX10_remove_4 rfl rfl rfl ?_
    refine ZV_aload_n (n := 6) dX10_remove_5 rfl rfl rfl ?_
    refine ZV_getIv (n := 9) dX10_remove_6 fl_X10_17 rfl rfl rfl (cf_vk hG v hv).1 (show _ = nI (g_mn T v) from (cf_vs hG v hv)) ?_
    refine ZV_icmp_ltN (tgt := 13) (n := 12) dX10_remove_9 (by decide) rfl (by omega) (by omega) (fun h9 => ?_) (fun h9 => ?_)
    · skip
      have hx0 := cf_ro hG v (g_mn T v - 1) hv (by omega)
      refine ZV_aload_n (n := 14) dX10_remove_13 rfl rfl rfl ?_
      refine ZV_dup (n := 15) dX10_remove_14 rfl rfl ?_
      refine ZV_getIv (n := 18) dX10_remove_15 fl_X10_17 rfl rfl rfl (cf_vk hG v hv).1 (show _ = nI (g_mn T v) from (cf_vs hG v hv)) ?_
      refine ZV_iconst (v := nI 1) (n := 19) dX10_remove_18 rfl rfl ?_
      refine ZV_isubN (n := 20) dX10_remove_19 rfl (by omega) ?_
      refine ZV_putI (n := 23) dX10_remove_20 fl_X10_17 rfl (Or.inl rfl) rfl (fun h => absurd h (by decide)) rfl (cf_vk hG v hv).1 ?_
      refine ZV_gen (P := fun τ => cG c B τ _ _ ∧ zr τ (k_va K v + 1) (g_mn T v - 1) = some (k_ea K (g_ro T v (g_mn T v - 1)))) (show cG c B (pI σ 643 (k_va K v) (nI (g_mn T v - 1))) _ _ ∧ zr (pI σ 643 (k_va K v) (nI (g_mn T v - 1))) (k_va K v + 1) (g_mn T v - 1) = some (k_ea K (g_ro T v (g_mn T v - 1))) from ⟨U_mn hG hv (fun q hq => cf_ro hG v q hv (by omega)), hx0⟩) (fun σ hG => ?_)
      clear hx0
      obtain ⟨hG, hx0⟩ := hG
      refine ZV_iload_n (n := 24) dX10_remove_23 rfl rfl rfl ?_
      refine ZV_istore_2 (n := 25) dX10_remove_24 rfl (Nat.le_of_ble_eq_true rfl) rfl ?_
      refine loop _ p σ (Nat.lt_succ_self _) (Nat.le_refl _) (by omega) ?_ hx0
      rw [upF_0, u2_self, show h_ro (h_mn T (va_up (g_mn T) v (g_mn T v - 1))) (g_ro T) = (h_mn T (va_up (g_mn T) v (g_mn T v - 1))) from hg_ro (h_mn T (va_up (g_mn T) v (g_mn T v - 1)))]
      exact hG
    · skip
      exact absurd h9 (by omega)
