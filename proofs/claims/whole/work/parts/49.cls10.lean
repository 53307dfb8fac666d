def asF (f : Nat → Int64) : Nat → Int64
  | 0 => lN 0
  | n + 1 => asF f n + f n
/-- what the class keeps is what the score says -/
def kI (T : TS) (K : KS) : Prop := (∀ e, e < g_ev T → g_th T e = true → k_pl K e = g_pl T e) ∧ (∀ e, e < g_ev T → g_th T e = true → k_bg K e = bgF T (g_vo T e) (g_pl T e)) ∧ (∀ e, e < g_ev T → g_th T e = true → k_ls K e = tmT T e) ∧ (∀ v, v < 3 * g_np T → k_vl K v = bgF T v (g_mn T v)) ∧ kT T K ∧ (∀ b, b < g_nb T → k_be K b = baF T (b + 1)) ∧ asF (k_as K) (g_np T) = g_tr T
theorem ki_pl {T : TS} {K : KS} (h : kI T K) : ∀ e, e < g_ev T → g_th T e = true → k_pl K e = g_pl T e := h.1
theorem ki_bg {T : TS} {K : KS} (h : kI T K) : ∀ e, e < g_ev T → g_th T e = true → k_bg K e = bgF T (g_vo T e) (g_pl T e) := h.2.1
theorem ki_ls {T : TS} {K : KS} (h : kI T K) : ∀ e, e < g_ev T → g_th T e = true → k_ls K e = tmT T e := h.2.2.1
theorem ki_vl {T : TS} {K : KS} (h : kI T K) : ∀ v, v < 3 * g_np T → k_vl K v = bgF T v (g_mn T v) := h.2.2.2.1
theorem ki_kT {T : TS} {K : KS} (h : kI T K) : kT T K := h.2.2.2.2.1
theorem ki_be {T : TS} {K : KS} (h : kI T K) : ∀ b, b < g_nb T → k_be K b = baF T (b + 1) := h.2.2.2.2.2.1
theorem ki_as {T : TS} {K : KS} (h : kI T K) : asF (k_as K) (g_np T) = g_tr T := h.2.2.2.2.2.2
theorem kt_b {T : TS} {K : KS} (hI : tI T) (h : kI T K) {t : Nat} (ht : t < g_te T) (htt : g_tt T t = true) : k_t1 K t ≤ 1000 ∧ k_tk K t ≤ 1000 := by
  have h1 := ki_kT h t ht htt
  have h2 := tl_lt hI ht htt
  have h3 := ti_mn hI (g_tv T t)
  omega
theorem pl_b {T : TS} {K : KS} (hI : tI T) (h : kI T K) {e : Nat} (he : e < g_ev T) (ht : g_th T e = true) : k_pl K e ≤ 1000 ∧ k_pl K e < g_mn T (g_vo T e) := by
  have h1 := ki_pl h e he ht
  have h2 := (ti_pl hI e he ht).1
  have h3 := ti_mn hI (g_vo T e)
  omega
theorem lf_ra {T : TS} {K : KS} (hI : tI T) (hK : kI T K) {e l : Nat} (he : e < g_ev T) (ht : g_th T e = true) (hl : l < g_le T) (hlt : g_lt T l = true) : lfB T e l = raB T K l e := by
  unfold lfB raB
  rw [hlt, Bool.true_and]
  cases ho : g_lo T l with
  | none => rfl
  | some f =>
    have h1 := ti_lf hI l hl hlt
    have h2 := ti_lo hI l f hl hlt ho
    simp only [ki_pl hK e he ht, ki_pl hK _ h1.1 h1.2, ki_pl hK f h2.1 h2.2]
set_option maxHeartbeats 4000000 in
set_option maxRecDepth 100000 in
theorem e_raiseOf {c B : Nat} {σ : ZS} {T : TS} {K : KS} (hG : cG c B σ T K) (hI : tI T) (hK : kI T K) {e : Nat} (he : e < g_ev T) (ht : g_th T e = true) : ZC M_X11_raiseOf [Ar (some c), Ar (some (k_ea K e))] σ (fun y9 τ9 => y9 = some (Ai (nI (12 * zcnt (lfB T e) (g_le T)))) ∧ τ9 = σ) := by
  have hbd := cf_bd hG
  refine ZC_of (ls := [some (Ar (some c)), some (Ar (some (k_ea K e))), none, none]) (by decide) (Nat.le_of_ble_eq_true rfl) rfl ?_
  have loop : ∀ (n9 : Nat) (l : Nat), g_le T - l < n9 → l ≤ g_le T → ZV M_X11_raiseOf (fun y9 τ9 => y9 = some (Ai (nI (12 * zcnt (lfB T e) (g_le T)))) ∧ τ9 = σ) 4 [some (Ar (some c)), some (Ar (some (k_ea K e))), some (Ai (nI (12 * zcnt (lfB T e) l))), some (Ai (nI l))] [] σ (zmC M_X11_raiseOf) (zmS M_X11_raiseOf) := by
    intro n9
    induction n9 with
    | zero => intro l hme; exact absurd hme (Nat.not_lt_zero _)
    | succ n9 ih =>
      intro l hme hl
      refine ZV_iload_n (n := 5) dX11_raiseOf_4 rfl rfl rfl ?_
      refine ZV_aload_n (n := 6) dX11_raiseOf_5 rfl rfl rfl ?_
      refine ZV_getIv (n := 9) dX11_raiseOf_6 fl_X11_56 rfl rfl rfl (cf_sh hG :).1 (cf_le hG :) ?_
      refine ZV_icmp_geN (tgt := 43) (n := 12) dX11_raiseOf_9 (by decide) rfl (by omega) (by omega) (fun h9 => ?_) (fun h9 => ?_)
      · skip
        refine ZV_iload_n (n := 44) dX11_raiseOf_43 rfl rfl rfl ?_
        refine ZV_iret dX11_raiseOf_44 rfl ?_
        obtain rfl : l = g_le T := by omega
        exact ⟨rfl, rfl⟩
      · skip
        refine ZV_aload_n (n := 13) dX11_raiseOf_12 rfl rfl rfl ?_
        refine ZV_getRv (n := 16) dX11_raiseOf_13 fl_X11_52 rfl rfl rfl (cf_sh hG :).1 (ca_lines (cf_sh hG :)) ?_
        refine ZV_iload_n (n := 17) dX11_raiseOf_16 rfl rfl rfl ?_
        rcases hb17 : g_lt T l with _ | _
        · skip
          refine ZV_aaldv (c0 := 4) (w := none) (j := l) (n := 18) dX11_raiseOf_17 rfl (by decide) rfl (ck_lines (cf_sh hG :)) rfl (by omega) (Eq.trans (cf_la hG l (by omega)) (if_neg (by rw [hb17]; exact Bool.false_ne_true))) ?_
          refine ZV_ifnull_n (tgt := 37) dX11_raiseOf_18 (by decide) ?_
          refine ZV_iincN_3 (v := 1) (n := 40) dX11_raiseOf_37 rfl rfl (Nat.le_of_ble_eq_true rfl) rfl ?_
          refine ZV_goto (tgt := 4) dX11_raiseOf_40 (by decide) ?_
          rw [show 12 * zcnt (lfB T e) l = 12 * zcnt (lfB T e) (l + 1) from by rw [zcnt, show lfB T e l = false from by unfold lfB; rw [hb17]; rfl]; rfl]
          exact ih (l + 1) (by omega) (by omega)
        · skip
          refine ZV_aaldv (c0 := 4) (w := some (k_la K l)) (j := l) (n := 18) dX11_raiseOf_17 rfl (by decide) rfl (ck_lines (cf_sh hG :)) rfl (by omega) (Eq.trans (cf_la hG l (by omega)) (if_pos hb17)) ?_
          refine ZV_ifnull_s (tgt := 37) (n := 21) dX11_raiseOf_18 (by decide) rfl ?_
          refine ZV_aload_n (n := 22) dX11_raiseOf_21 rfl rfl rfl ?_
          refine ZV_getRv (n := 25) dX11_raiseOf_22 fl_X11_52 rfl rfl rfl (cf_sh hG :).1 (ca_lines (cf_sh hG :)) ?_
          refine ZV_iload_n (n := 26) dX11_raiseOf_25 rfl rfl rfl ?_
          refine ZV_aaldv (c0 := 4) (w := some (k_la K l)) (j := l) (n := 27) dX11_raiseOf_26 rfl (by decide) rfl (ck_lines (cf_sh hG :)) rfl (by omega) (Eq.trans (cf_la hG l (by omega)) (if_pos hb17)) ?_
          refine ZV_aload_n (n := 28) dX11_raiseOf_27 rfl rfl rfl ?_
          refine call_X11_428 (e_raises hG (l := l) (by omega) hb17 he (ti_vo hI e he) (ti_lk hI l (by omega)) (pl_b hI hK he ht).1 (have h1 := ti_lf hI l (by omega) hb17; ⟨h1.1, ti_vo hI _ h1.1, (pl_b hI hK h1.1 h1.2).1⟩) (fun f hf => have h1 := ti_lo hI l f (by omega) hb17 hf; ⟨h1.1, ti_vo hI _ h1.1, (pl_b hI hK h1.1 h1.2).1⟩)) rfl dX11_raiseOf_28 rfl (cf_lk hG l (by omega)).1 (Nat.le_of_ble_eq_true rfl) (Nat.le_of_ble_eq_true rfl) rfl (fun r9 σ9 hp9 => ?_)
          obtain ⟨rfl, hs9⟩ := hp9
          subst σ9
          refine ZV_if_eqB (tgt := 37) (n := 34) dX11_raiseOf_31 (by decide) rfl (fun h31 => ?_) (fun h31 => ?_)
          · skip
            refine ZV_iincN_3 (v := 1) (n := 40) dX11_raiseOf_37 rfl rfl (Nat.le_of_ble_eq_true rfl) rfl ?_
            refine ZV_goto (tgt := 4) dX11_raiseOf_40 (by decide) ?_
            rw [show 12 * zcnt (lfB T e) l = 12 * zcnt (lfB T e) (l + 1) from by rw [zcnt, lf_ra hI hK he ht (by omega) hb17, h31]; rfl]
            exact ih (l + 1) (by omega) (by omega)
          · skip
            refine ZV_iincN_2 (v := 12) (n := 37) dX11_raiseOf_34 rfl rfl (Nat.le_of_ble_eq_true rfl) rfl ?_
            refine ZV_iincN_3 (v := 1) (n := 40) dX11_raiseOf_37 rfl rfl (Nat.le_of_ble_eq_true rfl) rfl ?_
            refine ZV_goto (tgt := 4) dX11_raiseOf_40 (by decide) ?_
            rw [show 12 * zcnt (lfB T e) l + 12 = 12 * zcnt (lfB T e) (l + 1) from by rw [zcnt, lf_ra hI hK he ht (by omega) hb17, h31]; rfl]
            exact ih (l + 1) (by omega) (by omega)
  refine ZV_iconst (v := nI 0) (n := 1) dX11_raiseOf_0 rfl rfl ?_
  refine ZV_istore_2 (n := 2) dX11_raiseOf_1 rfl (Nat.le_of_ble_eq_true rfl) rfl ?_
  refine ZV_iconst (v := nI 0) (n := 3) dX11_raiseOf_2 rfl rfl ?_
  refine ZV_istore_3 (n := 4) dX11_raiseOf_3 rfl (Nat.le_of_ble_eq_true rfl) rfl ?_
  exact loop _ 0 (Nat.lt_succ_self _) (Nat.zero_le _)
set_option maxHeartbeats 4000000 in
set_option maxRecDepth 100000 in
theorem e_barBegin {c B : Nat} {σ : ZS} {T : TS} {K : KS} (hG : cG c B σ T K) (hI : tI T) (hK : kI T K) {b : Nat} (hb : b ≤ g_nb T) : ZC M_X11_barBegin [Ar (some c), Ai (nI b)] σ (fun y9 τ9 => y9 = some (Al (lN (baF T b))) ∧ τ9 = σ) := by
  have hbd := cf_bd hG
  refine ZC_of (ls := [some (Ar (some c)), some (Ai (nI b))]) (by decide) (Nat.le_of_ble_eq_true rfl) rfl ?_
  refine ZV_iload_n (n := 1) dX11_barBegin_0 rfl rfl rfl ?_
  refine ZV_iconst (v := nI 1) (n := 2) dX11_barBegin_1 rfl rfl ?_
  refine ZV_icmp_ltN (tgt := 13) (n := 5) dX11_barBegin_2 (by decide) rfl (by omega) (by omega) (fun h2 => ?_) (fun h2 => ?_)
  · skip
    refine ZV_lconst (v := lN 0) (n := 14) dX11_barBegin_13 rfl rfl ?_
    refine ZV_goto (tgt := 25) dX11_barBegin_14 (by decide) ?_
    refine ZV_lret dX11_barBegin_25 rfl ?_
    obtain rfl : b = 0 := by omega
    exact ⟨rfl, rfl⟩
  · skip
    refine ZV_iload_n (n := 6) dX11_barBegin_5 rfl rfl rfl ?_
    refine ZV_aload_n (n := 7) dX11_barBegin_6 rfl rfl rfl ?_
    refine ZV_getIv (n := 10) dX11_barBegin_7 fl_X11_29 rfl rfl rfl (cf_sh hG :).1 (cf_nb hG :) ?_
    refine ZV_icmp_leN (tgt := 17) (n := 13) dX11_barBegin_10 (by decide) rfl (by omega) (by omega) (fun h10 => ?_) (fun h10 => ?_)
    · skip
      refine ZV_aload_n (n := 18) dX11_barBegin_17 rfl rfl rfl ?_
      refine ZV_getRv (n := 21) dX11_barBegin_18 fl_X11_25 rfl rfl rfl (cf_sh hG :).1 (ca_barEnds (cf_sh hG :)) ?_
      refine ZV_iload_n (n := 22) dX11_barBegin_21 rfl rfl rfl ?_
      refine ZV_iconst (v := nI 1) (n := 23) dX11_barBegin_22 rfl rfl ?_
      refine ZV_isubN (n := 24) dX11_barBegin_23 rfl (by omega) ?_
      refine ZV_laldv (j := b - 1) (n := 25) dX11_barBegin_24 rfl rfl (ck_barEnds (cf_sh hG :)) rfl (by omega) (cf_be hG (b - 1) (by omega)) ?_
      refine ZV_lret dX11_barBegin_25 rfl ?_
      refine ⟨?_, rfl⟩
      rw [ki_be hK (b - 1) (by omega), show b - 1 + 1 = b by omega]
    · skip
      exact absurd h10 (by omega)
set_option maxHeartbeats 4000000 in
set_option maxRecDepth 100000 in
theorem e_barAround {c B : Nat} {σ : ZS} {T : TS} {K : KS} (hG : cG c B σ T K) (hI : tI T) (hK : kI T K) {m : Nat} (hm : m < 9223372036854775808) : ZC M_X11_barAround [Ar (some c), Al (lN m)] σ (fun y9 τ9 => y9 = some (Ai (oI (boF T m))) ∧ τ9 = σ) := by
  have hbd := cf_bd hG
  refine ZC_of (ls := [some (Ar (some c)), some (Al (lN m)), none, none]) (by decide) (Nat.le_of_ble_eq_true rfl) rfl ?_
  have loop : ∀ (n9 : Nat) (b : Nat), g_nb T - b < n9 → b ≤ g_nb T → boS T m (g_nb T - b) b = boF T m → ZV M_X11_barAround (fun y9 τ9 => y9 = some (Ai (oI (boF T m))) ∧ τ9 = σ) 2 [some (Ar (some c)), some (Al (lN m)), none, some (Ai (nI b))] [] σ (zmC M_X11_barAround) (zmS M_X11_barAround) := by
    intro n9
    induction n9 with
    | zero => intro b hme; exact absurd hme (Nat.not_lt_zero _)
    | succ n9 ih =>
      intro b hme hb hz
      refine ZV_iload_n (n := 3) dX11_barAround_2 rfl rfl rfl ?_
      refine ZV_aload_n (n := 4) dX11_barAround_3 rfl rfl rfl ?_
      refine ZV_getIv (n := 7) dX11_barAround_4 fl_X11_29 rfl rfl rfl (cf_sh hG :).1 (cf_nb hG :) ?_
      refine ZV_icmp_geN (tgt := 29) (n := 10) dX11_barAround_7 (by decide) rfl (by omega) (by omega) (fun h7 => ?_) (fun h7 => ?_)
      · skip
        refine ZV_iconst (v := -1) (n := 30) dX11_barAround_29 rfl rfl ?_
        refine ZV_iret dX11_barAround_30 rfl ?_
        refine ⟨?_, rfl⟩
        rw [← hz, show g_nb T - b = 0 by omega]
        rfl
      · skip
        have hbb := baF_le hI (b + 1) (by omega)
        have hke := ki_be hK b (by omega)
        refine ZV_lload_n (n := 11) dX11_barAround_10 rfl rfl rfl ?_
        refine ZV_aload_n (n := 12) dX11_barAround_11 rfl rfl rfl ?_
        refine ZV_getRv (n := 15) dX11_barAround_12 fl_X11_25 rfl rfl rfl (cf_sh hG :).1 (ca_barEnds (cf_sh hG :)) ?_
        refine ZV_iload_n (n := 16) dX11_barAround_15 rfl rfl rfl ?_
        refine ZV_laldv (j := b) (n := 17) dX11_barAround_16 rfl rfl (ck_barEnds (cf_sh hG :)) rfl (by omega) (cf_be hG b (by omega)) ?_
        refine ZV_lcmp_geN (tgt := 23) (pc1 := 18) (n := 21) dX11_barAround_17 rfl dX11_barAround_18 (by decide) rfl (by omega) (by omega) (fun h17 => ?_) (fun h17 => ?_)
        · skip
          refine ZV_iincN_3 (v := 1) (n := 26) dX11_barAround_23 rfl rfl (Nat.le_of_ble_eq_true rfl) rfl ?_
          refine ZV_goto (tgt := 2) dX11_barAround_26 (by decide) ?_
          exact ih (b + 1) (by omega) (by omega) (by rw [← hz, show g_nb T - b = (g_nb T - (b + 1)) + 1 by omega, boS, if_neg (by omega)])
        · skip
          refine ZV_iload_n (n := 22) dX11_barAround_21 rfl rfl rfl ?_
          refine ZV_iret dX11_barAround_22 rfl ?_
          refine ⟨?_, rfl⟩
          rw [← hz, show g_nb T - b = (g_nb T - (b + 1)) + 1 by omega, boS, if_pos (by omega)]
          rfl
  refine ZV_iconst (v := nI 0) (n := 1) dX11_barAround_0 rfl rfl ?_
  refine ZV_istore_3 (n := 2) dX11_barAround_1 rfl (Nat.le_of_ble_eq_true rfl) rfl ?_
  exact loop _ 0 (Nat.lt_succ_self _) (Nat.zero_le _) rfl
def sbF (T : TS) (m : Nat) : Nat := match boF T m with
  | none => 0
  | some b => m - baF T b
theorem sb_lt {T : TS} {m : Nat} : sbF T m ≤ m := by
  unfold sbF
  split
  · exact Nat.zero_le _
  · exact Nat.sub_le _ _
set_option maxHeartbeats 4000000 in
set_option maxRecDepth 100000 in
theorem e_sinceBar {c B : Nat} {σ : ZS} {T : TS} {K : KS} (hG : cG c B σ T K) (hI : tI T) (hK : kI T K) {m : Nat} (hm : m < 9223372036854775808) : ZC M_X11_sinceBar [Ar (some c), Al (lN m)] σ (fun y9 τ9 => y9 = some (Al (lN (sbF T m))) ∧ τ9 = σ) := by
  have hbd := cf_bd hG
  refine ZC_of (ls := [some (Ar (some c)), some (Al (lN m)), none, none]) (by decide) (Nat.le_of_ble_eq_true rfl) rfl ?_
  refine ZV_aload_n (n := 1) dX11_sinceBar_0 rfl rfl rfl ?_
  refine ZV_lload_n (n := 2) dX11_sinceBar_1 rfl rfl rfl ?_
  refine call_X11_244 (e_barAround hG hI hK hm) rfl dX11_sinceBar_2 rfl (cf_sh hG :).1 (Nat.le_of_ble_eq_true rfl) (Nat.le_of_ble_eq_true rfl) rfl (fun r9 σ9 hp9 => ?_)
  obtain ⟨rfl, hs9⟩ := hp9
  subst σ9
  unfold sbF
  rcases hbo : boF T m with _ | b
  · skip
    refine ZV_istore_3 (n := 6) dX11_sinceBar_5 rfl (Nat.le_of_ble_eq_true rfl) rfl ?_
    refine ZV_iload_n (n := 7) dX11_sinceBar_6 rfl rfl rfl ?_
    refine ZV_iconst (v := -1) (n := 8) dX11_sinceBar_7 rfl rfl ?_
    refine ZV_icmp_ne (tgt := 15) (n := 11) dX11_sinceBar_8 (by decide) rfl (fun h8 => ?_) (fun h8 => ?_)
    · skip
      exact absurd rfl h8
    · skip
      refine ZV_lconst (v := lN 0) (n := 12) dX11_sinceBar_11 rfl rfl ?_
      refine ZV_goto (tgt := 22) dX11_sinceBar_12 (by decide) ?_
      refine ZV_lret dX11_sinceBar_22 rfl ?_
      exact ⟨rfl, rfl⟩
  · skip
    have hb := boF_some hbo
    show ZV _ _ _ _ [Ai (nI b)] _ _ _
    refine ZV_istore_3 (n := 6) dX11_sinceBar_5 rfl (Nat.le_of_ble_eq_true rfl) rfl ?_
    refine ZV_iload_n (n := 7) dX11_sinceBar_6 rfl rfl rfl ?_
    refine ZV_iconst (v := -1) (n := 8) dX11_sinceBar_7 rfl rfl ?_
    refine ZV_icmp_ne (tgt := 15) (n := 11) dX11_sinceBar_8 (by decide) rfl (fun h8 => ?_) (fun h8 => ?_)
    · skip
      refine ZV_lload_n (n := 16) dX11_sinceBar_15 rfl rfl rfl ?_
      refine ZV_aload_n (n := 17) dX11_sinceBar_16 rfl rfl rfl ?_
      refine ZV_iload_n (n := 18) dX11_sinceBar_17 rfl rfl rfl ?_
      refine call_X11_106 (e_barBegin hG hI hK (by omega)) rfl dX11_sinceBar_18 rfl (cf_sh hG :).1 (Nat.le_of_ble_eq_true rfl) (Nat.le_of_ble_eq_true rfl) rfl (fun r9 σ9 hp9 => ?_)
      obtain ⟨rfl, hs9⟩ := hp9
      subst σ9
      refine ZV_lsubN (n := 22) dX11_sinceBar_21 rfl (by omega) ?_
      refine ZV_lret dX11_sinceBar_22 rfl ?_
      exact ⟨rfl, rfl⟩
    · skip
      exact absurd h8 (nI_ne_m1 (by omega))
theorem gcd_half {X Y : Nat} (h : Y ≤ X) (h0 : 0 < Y) : 2 * (Y * (X % Y)) ≤ X * Y := by
  have h1 := Nat.mod_lt X h0
  have h2 : Y + X % Y ≤ X := by
    have h3 := Nat.div_add_mod X Y
    have h4 : 1 ≤ X / Y := (Nat.one_le_div_iff h0).mpr h
    have h5 : Y * 1 ≤ Y * (X / Y) := Nat.mul_le_mul_left _ h4
    omega
  have h6 : (Y + X % Y) * Y ≤ X * Y := Nat.mul_le_mul_right _ h2
  have h7 : X % Y * (X % Y) ≤ Y * (X % Y) := Nat.mul_le_mul_right _ (by omega)
  have h8 : X % Y * Y ≤ Y * Y := Nat.mul_le_mul_right _ (by omega)
  have h9 : (Y + X % Y) * Y = Y * Y + X % Y * Y := Nat.add_mul _ _ _
  have h10 : Y * (X % Y) = X % Y * Y := Nat.mul_comm _ _
  omega
theorem pow_step {a i : Nat} (h : 2 * a < 2 ^ (199 - i)) (hi : i < 199) : a < 2 ^ (199 - (i + 1)) := by
  have e : 199 - i = (199 - (i + 1)) + 1 := by omega
  rw [e, Nat.pow_succ] at h
  omega
set_option maxHeartbeats 4000000 in
set_option maxRecDepth 100000 in
theorem e_divisorOf {σ : ZS} {m : Nat} (hm : m < 9223372036854775808) : ZC M_X11_divisorOf [Al (lN m)] σ (fun y9 τ9 => y9 = some (Al (lN (Nat.gcd 5644800 m))) ∧ τ9 = σ) := by
  refine ZC_of (ls := [some (Al (lN m)), none, none, none, none, none, none, none, none]) (by decide) (Nat.le_of_ble_eq_true rfl) rfl ?_
  have loop : ∀ (n9 : Nat) (i X Y : Nat), 200 - i < n9 → X < 9223372036854775808 → Y < 9223372036854775808 → Nat.gcd X Y = Nat.gcd 5644800 m → i = 0 ∨ Y ≤ X → X * Y < 2 ^ (199 - i) → 0 < X → i ≤ 199 → (i = 0 → X * Y < 2 ^ 87) → ZV M_X11_divisorOf (fun y9 τ9 => y9 = some (Al (lN (Nat.gcd 5644800 m))) ∧ τ9 = σ) 10 [some (Al (lN m)), none, some (Al (lN X)), none, some (Al (lN Y)), none, some (Ai (nI i)), none, none] [] σ (zmC M_X11_divisorOf) (zmS M_X11_divisorOf) := by
    intro n9
    induction n9 with
    | zero => intro i X Y hme; exact absurd hme (Nat.not_lt_zero _)
    | succ n9 ih =>
      intro i X Y hme hX hY hg hXY hp hX0 hi hi0
      refine ZV_iload (n := 12) dX11_divisorOf_10 rfl rfl ?_
      refine ZV_sipush (v := nI 200) (n := 15) dX11_divisorOf_12 rfl rfl ?_
      refine ZV_icmp_geN (tgt := 44) (n := 18) dX11_divisorOf_15 (by decide) rfl (by omega) (by omega) (fun h15 => ?_) (fun h15 => ?_)
      · skip
        have hi9 : i = 199 := by omega
        omega
      · skip
        refine ZV_lload (n := 20) dX11_divisorOf_18 rfl rfl ?_
        refine ZV_lconst (v := lN 0) (n := 21) dX11_divisorOf_20 rfl rfl ?_
        refine ZV_lcmp_eqN (tgt := 44) (pc1 := 22) (n := 25) dX11_divisorOf_21 rfl dX11_divisorOf_22 (by decide) rfl (by omega) (by omega) (fun h21 => ?_) (fun h21 => ?_)
        · skip
          have hY0 : Y = 0 := by omega
          refine ZV_lconst (v := lN 1) (n := 45) dX11_divisorOf_44 rfl rfl ?_
          refine ZV_lload_n (n := 46) dX11_divisorOf_45 rfl rfl rfl ?_
          refine ZV_maxL (n := 49) dX11_divisorOf_46 rfl wd_3_16 (Nat.le_of_ble_eq_true rfl) (Nat.le_of_ble_eq_true rfl) ?_
          refine ZV_lret dX11_divisorOf_49 rfl ?_
          have h9 : X = Nat.gcd 5644800 m := by rw [← hg, hY0, Nat.gcd_zero_right]
          refine ⟨?_, rfl⟩
          rw [← h9]
          rw [if_neg]
          intro q
          rw [Int64.lt_iff_toInt_lt, pk_lT hX, pk_lT (by decide)] at q
          have := Nat.gcd_pos_of_pos_left m (show 0 < 5644800 by decide)
          omega
        · skip
          have hY0 : 0 < Y := by omega
          have hxy : 0 < X * Y := Nat.mul_pos hX0 hY0
          have hi2 : i + 1 ≤ 199 := by
            by_cases q : i = 199
            · rw [q] at hp
              simp at hp
              omega
            · omega
          have hstep : Y * (X % Y) < 2 ^ (199 - (i + 1)) := by
            rcases hXY with q | q
            · subst q
              have h1 := hi0 rfl
              have h2 : X % Y ≤ X := Nat.mod_le _ _
              have h3 : Y * (X % Y) ≤ Y * X := Nat.mul_le_mul_left _ h2
              rw [Nat.mul_comm Y X] at h3
              exact Nat.lt_of_le_of_lt h3 (Nat.lt_trans h1 (by decide))
            · exact pow_step (Nat.lt_of_le_of_lt (gcd_half q hY0) hp) (by omega)
          refine ZV_lload_n (n := 26) dX11_divisorOf_25 rfl rfl rfl ?_
          refine ZV_lload (n := 28) dX11_divisorOf_26 rfl rfl ?_
          refine ZV_lremN (n := 29) dX11_divisorOf_28 rfl (by omega) (by omega) (by omega) ?_
          refine ZV_lstore_7 (n := 31) dX11_divisorOf_29 rfl (Nat.le_of_ble_eq_true rfl) rfl ?_
          refine ZV_lload (n := 33) dX11_divisorOf_31 rfl rfl ?_
          refine ZV_lstore_2 (n := 34) dX11_divisorOf_33 rfl (Nat.le_of_ble_eq_true rfl) rfl ?_
          refine ZV_lload (n := 36) dX11_divisorOf_34 rfl rfl ?_
          refine ZV_lstore_4 (n := 38) dX11_divisorOf_36 rfl (Nat.le_of_ble_eq_true rfl) rfl ?_
          refine ZV_iincN_6 (v := 1) (n := 41) dX11_divisorOf_38 rfl rfl (Nat.le_of_ble_eq_true rfl) rfl ?_
          refine ZV_goto (tgt := 10) dX11_divisorOf_41 (by decide) ?_
          refine ZV_fg_7 ?_
          refine ih (i + 1) Y (X % Y) (by omega) hY (Nat.lt_of_le_of_lt (Nat.mod_le _ _) hX) ?_ ?_ ?_ (by omega) ?_ (by omega)
          · rw [← hg, Nat.gcd_comm X Y, Nat.gcd_rec Y X, Nat.gcd_comm]
          · exact Or.inr (Nat.le_of_lt (Nat.mod_lt _ (by omega)))
          · exact hstep
          · exact hi2
  refine ZV_ldc2 (v := lN 5644800) (n := 3) dX11_divisorOf_0 wd_1_220 rfl ?_
  refine ZV_lstore_2 (n := 4) dX11_divisorOf_3 rfl (Nat.le_of_ble_eq_true rfl) rfl ?_
  refine ZV_lload_n (n := 5) dX11_divisorOf_4 rfl rfl rfl ?_
  refine ZV_lstore_4 (n := 7) dX11_divisorOf_5 rfl (Nat.le_of_ble_eq_true rfl) rfl ?_
  refine ZV_iconst (v := nI 0) (n := 8) dX11_divisorOf_7 rfl rfl ?_
  refine ZV_istore_6 (n := 10) dX11_divisorOf_8 rfl (Nat.le_of_ble_eq_true rfl) rfl ?_
  refine loop _ 0 5644800 m (Nat.lt_succ_self _) (by decide) hm rfl (Or.inl rfl) ?_ (by decide) (by decide) (fun _ => ?_)
  · exact Nat.lt_of_lt_of_le (Nat.mul_lt_mul_of_pos_left hm (by decide)) (by decide)
  · exact Nat.lt_of_lt_of_le (Nat.mul_lt_mul_of_pos_left hm (by decide)) (by decide)
set_option maxHeartbeats 4000000 in
set_option maxRecDepth 100000 in
theorem e_upOf {σ : ZS} {m : Nat} (hm : m < 9223372036854775808) : ZC M_X11_upOf [Al (lN m)] σ (fun y9 τ9 => y9 = some (Al (lN (frT m false))) ∧ τ9 = σ) := by
  refine ZC_of (ls := [some (Al (lN m)), none]) (by decide) (Nat.le_of_ble_eq_true rfl) rfl ?_
  refine ZV_lload_n (n := 1) dX11_upOf_0 rfl rfl rfl ?_
  refine ZV_lload_n (n := 2) dX11_upOf_1 rfl rfl rfl ?_
  refine call_X11_441 (e_divisorOf hm) rfl dX11_upOf_2 (Nat.le_of_ble_eq_true rfl) (Nat.le_of_ble_eq_true rfl) rfl (fun r9 σ9 hp9 => ?_)
  obtain ⟨rfl, hs9⟩ := hp9
  subst σ9
  have hg0 := Nat.gcd_pos_of_pos_left m (show 0 < 5644800 by decide)
  have hg1 := Nat.gcd_le_left m (show 0 < 5644800 by decide)
  refine ZV_ldivN (n := 6) dX11_upOf_5 rfl (by omega) (by omega) (by omega) ?_
  refine ZV_lret dX11_upOf_6 rfl ?_
  exact ⟨rfl, rfl⟩
set_option maxHeartbeats 4000000 in
set_option maxRecDepth 100000 in
theorem e_downOf {σ : ZS} {m : Nat} (hm : m < 9223372036854775808) : ZC M_X11_downOf [Al (lN m)] σ (fun y9 τ9 => y9 = some (Al (lN (frT m true))) ∧ τ9 = σ) := by
  refine ZC_of (ls := [some (Al (lN m)), none]) (by decide) (Nat.le_of_ble_eq_true rfl) rfl ?_
  refine ZV_ldc2 (v := lN 5644800) (n := 3) dX11_downOf_0 wd_1_220 rfl ?_
  refine ZV_lload_n (n := 4) dX11_downOf_3 rfl rfl rfl ?_
  refine call_X11_441 (e_divisorOf hm) rfl dX11_downOf_4 (Nat.le_of_ble_eq_true rfl) (Nat.le_of_ble_eq_true rfl) rfl (fun r9 σ9 hp9 => ?_)
  obtain ⟨rfl, hs9⟩ := hp9
  subst σ9
  have hg0 := Nat.gcd_pos_of_pos_left m (show 0 < 5644800 by decide)
  have hg1 := Nat.gcd_le_left m (show 0 < 5644800 by decide)
  refine ZV_ldivN (n := 8) dX11_downOf_7 rfl (by omega) (by omega) (by omega) ?_
  refine ZV_lret dX11_downOf_8 rfl ?_
  exact ⟨rfl, rfl⟩
