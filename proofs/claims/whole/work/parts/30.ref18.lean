/-- w with a hole at k: what lay from k to n - 1 lies one further on -/
def hoF (w : Nat → Nat) (n k : Nat) : Nat → Nat := fun i => if k < i ∧ i ≤ n then w (i - 1) else w i
theorem hoF_n (w : Nat → Nat) (n : Nat) : hoF w n n = w := by
  funext i
  unfold hoF
  rw [if_neg (by omega)]
theorem hoF_up (w : Nat → Nat) {n k : Nat} (h1 : 1 ≤ k) (h2 : k ≤ n) : va_up (hoF w n k) k (w (k - 1)) = hoF w n (k - 1) := by
  funext i
  unfold va_up hoF
  by_cases h : i = k
  · rw [if_pos h, if_pos (by omega), h]
  · rw [if_neg h]
    by_cases h3 : k < i ∧ i ≤ n
    · rw [if_pos h3, if_pos (by omega)]
    · rw [if_neg h3, if_neg (by omega)]
/-- where t comes among the first k -/
def kF (m : Nat → Nat) (t : Nat) : Nat → Nat
  | 0 => 0
  | k + 1 => if t < m k then kF m t k else k + 1
theorem kF_le (m : Nat → Nat) (t : Nat) : ∀ k, kF m t k ≤ k
  | 0 => Nat.le_refl _
  | k + 1 => by
    rw [kF]
    split
    · exact Nat.le_succ_of_le (kF_le m t k)
    · exact Nat.le_refl _
abbrev WS : Type := Nat × (Nat → Nat) × (Nat → Nat)
def wkI (S : WS) (t e : Nat) : WS := (S.1 + 1, va_up (hoF S.2.1 S.1 (kF S.2.2 t S.1)) (kF S.2.2 t S.1) e, va_up (hoF S.2.2 S.1 (kF S.2.2 t S.1)) (kF S.2.2 t S.1) t)
def wkN (T : TS) (v : Nat) (S : WS) : Nat → WS
  | 0 => S
  | p + 1 => wkI (wkN T v S p) (bgF T v p) (g_ro T v p)
def wkV (T : TS) : Nat → WS
  | 0 => (0, g_wr T, fun _ => 0)
  | v + 1 => wkN T v (wkV T v) (g_mn T v)
def wT (T : TS) (S : WS) : TS := h_wm (h_wr T S.2.1) S.1
def sp_walk (T : TS) : Int32 × TS := sOk (wT (h_su T 0) (wkV (h_su T 0) (3 * g_np T))) (nI (wkV (h_su T 0) (3 * g_np T)).1)
theorem wkN_n (T : TS) (v : Nat) (S : WS) : ∀ p, (wkN T v S p).1 = S.1 + p
  | 0 => rfl
  | p + 1 => by
    rw [wkN]
    show (wkN T v S p).1 + 1 = _
    rw [wkN_n T v S p]
    omega
theorem wkV_n (T : TS) : ∀ v, (wkV T v).1 = smF (g_mn T) v
  | 0 => rfl
  | v + 1 => by rw [wkV, wkN_n, wkV_n T v, smF]
theorem smF_mono (f : Nat → Nat) (v : Nat) : ∀ d, smF f v ≤ smF f (v + d)
  | 0 => Nat.le_refl _
  | d + 1 => by
    have := smF_mono f v d
    rw [← Nat.add_assoc, smF]
    omega
theorem smF_le {T : TS} (hI : tI T) {v : Nat} (hv : v ≤ 18) : smF (g_mn T) v ≤ 150 := by
  have h1 := smF_mono (g_mn T) v (18 - v)
  rw [show v + (18 - v) = 18 by omega, ti_sm hI, ti_ct hI] at h1
  have h2 := zcnt_le (g_th T) (g_ev T)
  have h3 := ti_ev hI
  omega
def wkB (S : WS) : Prop := ∀ i, i < S.1 → S.2.2 i ≤ 1377754400000000000
theorem wkI_b {S : WS} (h : wkB S) {t : Nat} (ht : t ≤ 1377754400000000000) (e : Nat) : wkB (wkI S t e) := by
  intro i hi
  have hi : i < S.1 + 1 := hi
  have hk := kF_le S.2.2 t S.1
  show va_up (hoF S.2.2 S.1 (kF S.2.2 t S.1)) (kF S.2.2 t S.1) t i ≤ _
  unfold va_up hoF
  split
  · exact ht
  · split
    · exact h _ (by omega)
    · exact h _ (by omega)
theorem wkN_b {T : TS} (hI : tI T) (v : Nat) {S : WS} (h : wkB S) : ∀ p, p ≤ 40 → wkB (wkN T v S p)
  | 0, _ => h
  | p + 1, hp => by
    have h1 := bgF_le hI v p
    exact wkI_b (wkN_b hI v h p (by omega)) (by omega) _
theorem wkV_b {T : TS} (hI : tI T) : ∀ v, wkB (wkV T v)
  | 0 => fun i hi => absurd hi (Nat.not_lt_zero _)
  | v + 1 => wkN_b hI v (wkV_b hI v) _ (ti_mn hI v)
theorem wT_up (T : TS) (w w2 : Nat → Nat) (n : Nat) : h_wr (h_wm (h_wr T w) n) w2 = h_wm (h_wr T w2) n := by unfold h_wm h_wr; simp only [bx_uu]
theorem hs_wr (T : TS) (n : Nat) : h_wm T n = h_wm (h_wr T (g_wr T)) n := by unfold h_wm h_wr g_wr; simp only [up_self]
theorem tmF_wt (T : TS) (w : Nat → Nat) (n : Nat) (e : Nat) : ∀ t, tmF (h_wm (h_wr T w) n) e t = tmF T e t
  | 0 => rfl
  | t + 1 => by
    rw [tmF, tmF, tmF_wt T w n e t]
    rfl
theorem tI_wt {T : TS} (hI : tI T) {w : Nat → Nat} {n : Nat} (hn : n ≤ 150) : tI (h_wm (h_wr T w) n) := ⟨(ti_ct hI :), (ti_cu hI :), (ti_cl hI :), (ti_np hI :), (ti_pk hI :), (ti_nb hI :), (ti_bt hI :), (ti_ev hI :), (ti_vo hI :), (ti_kd hI :), (ti_pn hI :), (ti_pn1 hI :), (ti_pn0 hI :), (ti_pnc hI :), (ti_pi hI :), (ti_pim hI :), (ti_va hI :), (ti_dt hI :), (ti_mn hI :), (ti_mn0 hI :), (ti_ro hI :), (ti_pl hI :), (ti_te hI :), (ti_tn hI :), (ti_tm hI :), (ti_tu hI :), (ti_tp hI :), (ti_tnest hI :), (ti_tover hI :), (ti_le hI :), (ti_lk hI :), (ti_lf hI :), (ti_lo hI :), hn, (ti_fo hI :), (ti_rk hI :), (ti_rr hI :), (ti_sk hI :), (ti_tied hI :), (ti_sm hI :), (ti_rrb hI :)⟩
theorem c_timeOfT {x : Nat} {σ : ZS} {T : TS} {w : Nat → Nat} {n : Nat} (hR : rR x σ (h_wm (h_wr T w) n)) (hI : tI T) (hn : n ≤ 150) (e : Nat) (he : e < g_ev T) (hth : g_th T e = true) : ZC M_X12_timeOf [Ar (some x), Ai (nI e)] σ (fun y0 τ0 => y0 = some (Al (lN (tmT T e))) ∧ τ0 = σ) := by
  have h := c_timeOf hR (tI_wt hI hn) e he hth
  rw [show tmT (h_wm (h_wr T w) n) e = tmT T e from tmF_wt T w n e (g_te T)] at h
  exact h
theorem hm_ho {τ : ZS} {c : Nat} {m : Nat → Nat} {n k : Nat} (h1 : 1 ≤ k) (h2 : k ≤ n) (hm : ∀ i, i ≤ n → i ≠ k → zl τ c i = lN (hoF m n k i)) : ∀ i, i ≤ n → i ≠ k - 1 → zl (ql τ c k (lN (m (k - 1)))) c i = lN (hoF m n (k - 1) i) := by
  intro i hi hk
  rw [zl_ql, ← hoF_up m h1 h2]
  unfold va_up
  by_cases h : i = k
  · rw [if_pos ⟨rfl, h⟩, if_pos h]
  · rw [if_neg (fun z => h z.2), if_neg h]
    exact hm i hi h
theorem hm_fi {τ : ZS} {c : Nat} {m : Nat → Nat} {n k t : Nat} (hm : ∀ i, i ≤ n → i ≠ k → zl τ c i = lN (hoF m n k i)) : ∀ i, i < n + 1 → zl (ql τ c k (lN t)) c i = lN (va_up (hoF m n k) k t i) := by
  intro i hi
  rw [zl_ql]
  unfold va_up
  by_cases h : i = k
  · rw [if_pos ⟨rfl, h⟩, if_pos h]
  · rw [if_neg (fun z => h z.2), if_neg h]
    exact hm i (by omega) h
set_option maxHeartbeats 4000000 in
set_option maxRecDepth 100000 in
theorem c_walk {x : Nat} {σ : ZS} {T : TS} (hR : rR x σ T) (hI : tI T)  : ZC M_X12_walk [Ar (some x)] σ (fun y0 τ0 => y0 = some (Ai (sp_walk T).1) ∧ rR x τ0 (sp_walk T).2) := by
  have hsp : sp_walk T = sp_walk (h_su T 0) := rfl
  rw [hsp]
  clear hsp
  refine ZC_of (ls := [some (Ar (some x)), none, none, none, none, none, none]) (by decide) (Nat.le_of_ble_eq_true rfl) rfl ?_
  refine ZV_aload_n (n := 1) dX12_walk_0 rfl rfl rfl ?_
  refine call_X12_144 (c_begin hR) rfl dX12_walk_1 rfl (rf_sh hR :).1 (Nat.le_of_ble_eq_true rfl) (Nat.le_of_ble_eq_true rfl) rfl (fun r9 σ9 hp9 => ?_)
  obtain ⟨rfl, hR⟩ := hp9
  have hI := tI_su hI 0
  have hsu : g_su (h_su T 0) = 0 := rfl
  generalize h_su T 0 = T at hR hI hsu ⊢
  have hnp := ti_np hI
  have hev := ti_ev hI
  refine ZV_aload_n (n := 5) dX12_walk_4 rfl rfl rfl ?_
  refine ZV_iconst (v := nI 0) (n := 6) dX12_walk_5 rfl rfl ?_
  refine ZV_putI (n := 9) dX12_walk_6 fl_X12_286 rfl (Or.inl rfl) rfl (fun h => absurd h (by decide)) rfl (rf_sh hR :).1 ?_
  refine ZV_gen (P := fun τ => rR x τ _) (rR_walkMany hR 0) (fun σ hR => ?_)
  rw [hs_wr] at hR
  refine ZV_iconst (v := nI 0) (n := 10) dX12_walk_9 rfl rfl ?_
  refine ZV_istore_1 (n := 11) dX12_walk_10 rfl (Nat.le_of_ble_eq_true rfl) rfl ?_
  have loopV : ∀ (n9 : Nat) (v n0 : Nat) (w0 m0 : Nat → Nat) (τ : ZS), 3 * g_np T - v < n9 → v ≤ 3 * g_np T → (n0, w0, m0) = wkV T v → rR x τ (h_wm (h_wr T w0) n0) → (∀ i, i < n0 → zl τ (x + 37) i = lN (m0 i)) → ZV M_X12_walk (fun y0 τ0 => y0 = some (Ai (sp_walk T).1) ∧ rR x τ0 (sp_walk T).2) 11 [some (Ar (some x)), some (Ai (nI v)), none, none, none, none, none] [] τ (zmC M_X12_walk) (zmS M_X12_walk) := by
    intro n9
    induction n9 with
    | zero => intro v n0 w0 m0 τ hme; exact absurd hme (Nat.not_lt_zero _)
    | succ n9 ihv =>
      intro v n0 w0 m0 τ hme hv hS0 hR1 hm
      have hB0 : wkB (n0, w0, m0) := by rw [hS0]; exact wkV_b hI v
      have hn1 : n0 = smF (g_mn T) v := by have := wkV_n T v; rw [← hS0] at this; exact this
      have hmn := ti_mn hI v
      refine ZV_iload_n (n := 12) dX12_walk_11 rfl rfl rfl ?_
      refine ZV_iconst (v := nI 3) (n := 13) dX12_walk_12 rfl rfl ?_
      refine ZV_aload_n (n := 14) dX12_walk_13 rfl rfl rfl ?_
      refine ZV_getIv (n := 17) dX12_walk_14 fl_X12_134 rfl rfl rfl (rf_sh hR1 :).1 (Eq.trans ((rf_parts hR1 :) :) (show _ = nI (g_np T) by first | simp only [gh_np_ct, gh_np_cu, gh_np_cl, gh_np_np, gh_np_pk, gh_np_nb, gh_np_bt, gh_np_ev, gh_np_th, gh_np_vo, gh_np_kd, gh_np_pn, gh_np_pi, gh_np_va, gh_np_dt, gh_np_ti, gh_np_pl, gh_np_mn, gh_np_ro, gh_np_te, gh_np_tt, gh_np_tv, gh_np_tf, gh_np_tl, gh_np_tn, gh_np_tm, gh_np_tu, gh_np_le, gh_np_lt, gh_np_lk, gh_np_lf, gh_np_lo, gh_np_wm, gh_np_wr, gh_np_fo, gh_np_fi, gh_np_hr, gh_np_rk, gh_np_rs, gh_np_rr, gh_np_hs, gh_np_sk, gh_np_ss, gh_np_sr, gh_np_fa, gh_np_su, gh_np_tr] | rfl)) ?_
      refine ZV_imulN (n := 18) dX12_walk_17 rfl ?_
      refine ZV_icmp_geN (tgt := 162) (n := 21) dX12_walk_18 (by decide) rfl (by omega) (by omega) (fun h18 => ?_) (fun h18 => ?_)
      · skip
        refine ZV_aload_n (n := 163) dX12_walk_162 rfl rfl rfl ?_
        refine ZV_getIv (n := 166) dX12_walk_163 fl_X12_286 rfl rfl rfl (rf_sh hR1 :).1 (Eq.trans ((rf_walkMany hR1 :) :) (show _ = nI n0 by first | simp only [gh_wm_ct, gh_wm_cu, gh_wm_cl, gh_wm_np, gh_wm_pk, gh_wm_nb, gh_wm_bt, gh_wm_ev, gh_wm_th, gh_wm_vo, gh_wm_kd, gh_wm_pn, gh_wm_pi, gh_wm_va, gh_wm_dt, gh_wm_ti, gh_wm_pl, gh_wm_mn, gh_wm_ro, gh_wm_te, gh_wm_tt, gh_wm_tv, gh_wm_tf, gh_wm_tl, gh_wm_tn, gh_wm_tm, gh_wm_tu, gh_wm_le, gh_wm_lt, gh_wm_lk, gh_wm_lf, gh_wm_lo, gh_wm_wm, gh_wm_wr, gh_wm_fo, gh_wm_fi, gh_wm_hr, gh_wm_rk, gh_wm_rs, gh_wm_rr, gh_wm_hs, gh_wm_sk, gh_wm_ss, gh_wm_sr, gh_wm_fa, gh_wm_su, gh_wm_tr] | rfl)) ?_
        refine ZV_iret dX12_walk_166 rfl ?_
        obtain rfl : v = 3 * g_np T := by omega
        exact zleaf (v := sOk (wT T (wkV T (3 * g_np T))) (nI (wkV T (3 * g_np T)).1)) (by rw [sp_walk, su0 hsu]) (by rw [← hS0]; rfl) (by rw [← hS0]; exact rR_s0 hR1 hsu)
      · skip
        have hsl := smF_le hI (v := v + 1) (by omega)
        rw [smF] at hsl
        refine ZV_lconst (v := lN 0) (n := 22) dX12_walk_21 rfl rfl ?_
        refine ZV_lstore_2 (n := 23) dX12_walk_22 rfl (Nat.le_of_ble_eq_true rfl) rfl ?_
        refine ZV_iconst (v := nI 0) (n := 24) dX12_walk_23 rfl rfl ?_
        refine ZV_istore_4 (n := 26) dX12_walk_24 rfl (Nat.le_of_ble_eq_true rfl) rfl ?_
        have loopP : ∀ (n9 : Nat) (p n : Nat) (w m : Nat → Nat) (τ : ZS), g_mn T v - p < n9 → p ≤ g_mn T v → (n, w, m) = wkN T v (n0, w0, m0) p → rR x τ (h_wm (h_wr T w) n) → (∀ i, i < n → zl τ (x + 37) i = lN (m i)) → ZV M_X12_walk (fun y0 τ0 => y0 = some (Ai (sp_walk T).1) ∧ rR x τ0 (sp_walk T).2) 26 [some (Ar (some x)), some (Ai (nI v)), some (Al (lN (bgF T v p))), none, some (Ai (nI p)), none, none] [] τ (zmC M_X12_walk) (zmS M_X12_walk) := by
          intro n9
          induction n9 with
          | zero => intro p n w m τ hme; exact absurd hme (Nat.not_lt_zero _)
          | succ n9 ih =>
            intro p n w m τ hme hp hS hR1 hm
            have hn0 : n = n0 + p := by have := wkN_n T v (n0, w0, m0) p; rw [← hS] at this; exact this
            have hB : ∀ i, i < n → m i ≤ 1377754400000000000 := by have := wkN_b hI v hB0 p (by omega); rw [← hS] at this; exact this
            have hbl := bgF_le hI v p
            have hbl2 := bgF_le hI v (p + 1)
            refine ZV_iload (n := 28) dX12_walk_26 rfl rfl ?_
            refine ZV_aload_n (n := 29) dX12_walk_28 rfl rfl rfl ?_
            refine ZV_getR (n := 32) dX12_walk_29 fl_X12_45 rfl rfl rfl (rf_sh hR1 :).1 ?_
            refine ZV_iload_n (n := 33) dX12_walk_32 rfl rfl rfl ?_
            refine ZV_ialdv (n := 34) dX12_walk_33 rfl (ra_many (rf_sh hR1 :) :) (rk_many (rf_sh hR1 :) :) rfl (by omega) (Eq.trans ((rf_many hR1 v (by omega)) :) (show _ = nI (g_mn T v) by first | simp only [gh_mn_ct, gh_mn_cu, gh_mn_cl, gh_mn_np, gh_mn_pk, gh_mn_nb, gh_mn_bt, gh_mn_ev, gh_mn_th, gh_mn_vo, gh_mn_kd, gh_mn_pn, gh_mn_pi, gh_mn_va, gh_mn_dt, gh_mn_ti, gh_mn_pl, gh_mn_mn, gh_mn_ro, gh_mn_te, gh_mn_tt, gh_mn_tv, gh_mn_tf, gh_mn_tl, gh_mn_tn, gh_mn_tm, gh_mn_tu, gh_mn_le, gh_mn_lt, gh_mn_lk, gh_mn_lf, gh_mn_lo, gh_mn_wm, gh_mn_wr, gh_mn_fo, gh_mn_fi, gh_mn_hr, gh_mn_rk, gh_mn_rs, gh_mn_rr, gh_mn_hs, gh_mn_sk, gh_mn_ss, gh_mn_sr, gh_mn_fa, gh_mn_su, gh_mn_tr] | rfl)) ?_
            refine ZV_icmp_geN (tgt := 156) (n := 37) dX12_walk_34 (by decide) rfl (by omega) (by omega) (fun h34 => ?_) (fun h34 => ?_)
            · skip
              obtain rfl : p = g_mn T v := by omega
              refine ZV_fg_2 ?_
              refine ZV_fg_4 ?_
              refine ZV_iincN_1 (v := 1) (n := 159) dX12_walk_156 rfl rfl (Nat.le_of_ble_eq_true rfl) rfl ?_
              refine ZV_goto (tgt := 11) dX12_walk_159 (by decide) ?_
              exact ihv (v + 1) _ _ _ _ (by omega) (by omega) (by rw [wkV, ← hS0]; exact hS) hR1 hm
            · skip
              have hro := ti_ro hI v p (by omega) (by omega)
              refine ZV_aload_n (n := 38) dX12_walk_37 rfl rfl rfl ?_
              refine ZV_getR (n := 41) dX12_walk_38 fl_X12_42 rfl rfl rfl (rf_sh hR1 :).1 ?_
              refine ZV_bipush (v := nI 40) (n := 43) dX12_walk_41 rfl rfl ?_
              refine ZV_iload_n (n := 44) dX12_walk_43 rfl rfl rfl ?_
              refine ZV_imulN (n := 45) dX12_walk_44 rfl ?_
              refine ZV_iload (n := 47) dX12_walk_45 rfl rfl ?_
              refine ZV_iaddN (n := 48) dX12_walk_47 rfl ?_
              refine ZV_ialdv (n := 49) dX12_walk_48 rfl (ra_row (rf_sh hR1 :) :) (rk_row (rf_sh hR1 :) :) rfl (by omega) (Eq.trans ((rf_row hR1 v p (by omega) (by omega)) :) (show _ = nI (g_ro T v p) by first | simp only [gh_ro_ct, gh_ro_cu, gh_ro_cl, gh_ro_np, gh_ro_pk, gh_ro_nb, gh_ro_bt, gh_ro_ev, gh_ro_th, gh_ro_vo, gh_ro_kd, gh_ro_pn, gh_ro_pi, gh_ro_va, gh_ro_dt, gh_ro_ti, gh_ro_pl, gh_ro_mn, gh_ro_ro, gh_ro_te, gh_ro_tt, gh_ro_tv, gh_ro_tf, gh_ro_tl, gh_ro_tn, gh_ro_tm, gh_ro_tu, gh_ro_le, gh_ro_lt, gh_ro_lk, gh_ro_lf, gh_ro_lo, gh_ro_wm, gh_ro_wr, gh_ro_fo, gh_ro_fi, gh_ro_hr, gh_ro_rk, gh_ro_rs, gh_ro_rr, gh_ro_hs, gh_ro_sk, gh_ro_ss, gh_ro_sr, gh_ro_fa, gh_ro_su, gh_ro_tr] | rfl)) ?_
              refine ZV_istore_5 (n := 51) dX12_walk_49 rfl (Nat.le_of_ble_eq_true rfl) rfl ?_
              refine ZV_aload_n (n := 52) dX12_walk_51 rfl rfl rfl ?_
              refine ZV_getIv (n := 55) dX12_walk_52 fl_X12_286 rfl rfl rfl (rf_sh hR1 :).1 (Eq.trans ((rf_walkMany hR1 :) :) (show _ = nI n by first | simp only [gh_wm_ct, gh_wm_cu, gh_wm_cl, gh_wm_np, gh_wm_pk, gh_wm_nb, gh_wm_bt, gh_wm_ev, gh_wm_th, gh_wm_vo, gh_wm_kd, gh_wm_pn, gh_wm_pi, gh_wm_va, gh_wm_dt, gh_wm_ti, gh_wm_pl, gh_wm_mn, gh_wm_ro, gh_wm_te, gh_wm_tt, gh_wm_tv, gh_wm_tf, gh_wm_tl, gh_wm_tn, gh_wm_tm, gh_wm_tu, gh_wm_le, gh_wm_lt, gh_wm_lk, gh_wm_lf, gh_wm_lo, gh_wm_wm, gh_wm_wr, gh_wm_fo, gh_wm_fi, gh_wm_hr, gh_wm_rk, gh_wm_rs, gh_wm_rr, gh_wm_hs, gh_wm_sk, gh_wm_ss, gh_wm_sr, gh_wm_fa, gh_wm_su, gh_wm_tr] | rfl)) ?_
              refine ZV_istore_6 (n := 57) dX12_walk_55 rfl (Nat.le_of_ble_eq_true rfl) rfl ?_
              obtain ⟨K, hK⟩ : ∃ z, z = kF m (bgF T v p) n := ⟨_, rfl⟩
              have hKn : K ≤ n := by rw [hK]; exact kF_le _ _ _
              have tail : ∀ (τ : ZS), rR x τ (h_wm (h_wr T (hoF w n K)) n) → (∀ i, i ≤ n → i ≠ K → zl τ (x + 37) i = lN (hoF m n K i)) → ZV M_X12_walk (fun y0 τ0 => y0 = some (Ai (sp_walk T).1) ∧ rR x τ0 (sp_walk T).2) 114 [some (Ar (some x)), some (Ai (nI v)), some (Al (lN (bgF T v p))), none, some (Ai (nI p)), some (Ai (nI (g_ro T v p))), some (Ai (nI K))] [] τ (zmC M_X12_walk) (zmS M_X12_walk) := by
                intro τ hR1 hm
                refine ZV_aload_n (n := 115) dX12_walk_114 rfl rfl rfl ?_
                refine ZV_getR (n := 118) dX12_walk_115 fl_X12_120 rfl rfl rfl (rf_sh hR1 :).1 ?_
                refine ZV_iload (n := 120) dX12_walk_118 rfl rfl ?_
                refine ZV_lload_n (n := 121) dX12_walk_120 rfl rfl rfl ?_
                refine ZV_last (n := 122) dX12_walk_121 rfl (ra_walkTime (rf_sh hR1 :) :) (rk_walkTime (rf_sh hR1 :) :) rfl (by omega) ?_
                have hm := hm_fi (t := bgF T v p) hm
                have hR1 := rR_walkTime (j := K) hR1 (lN (bgF T v p))
                generalize ql τ _ _ _ = τ at hR1 hm ⊢
                refine ZV_aload_n (n := 123) dX12_walk_122 rfl rfl rfl ?_
                refine ZV_getR (n := 126) dX12_walk_123 fl_X12_81 rfl rfl rfl (rf_sh hR1 :).1 ?_
                refine ZV_iload (n := 128) dX12_walk_126 rfl rfl ?_
                refine ZV_iload (n := 130) dX12_walk_128 rfl rfl ?_
                refine ZV_iast (n := 131) dX12_walk_130 rfl (ra_walkRow (rf_sh hR1 :) :) (rk_walkRow (rf_sh hR1 :) :) rfl (by omega) ?_
                have hR1 := rR_walkRow (j := K) hR1 (g_ro T v p)
                rw [wT_up, show g_wr (h_wm (h_wr T (hoF w n K)) n) = hoF w n K from rfl] at hR1
                have hm : ∀ i, i < n + 1 → zl (qi τ (x + 24) K (nI (g_ro T v p))) (x + 37) i = lN (va_up (hoF m n K) K (bgF T v p) i) := hm
                generalize qi τ _ _ _ = τ at hR1 hm ⊢
                refine ZV_aload_n (n := 132) dX12_walk_131 rfl rfl rfl ?_
                refine ZV_dup (n := 133) dX12_walk_132 rfl rfl ?_
                refine ZV_getIv (n := 136) dX12_walk_133 fl_X12_286 rfl rfl rfl (rf_sh hR1 :).1 (Eq.trans ((rf_walkMany hR1 :) :) (show _ = nI n by first | simp only [gh_wm_ct, gh_wm_cu, gh_wm_cl, gh_wm_np, gh_wm_pk, gh_wm_nb, gh_wm_bt, gh_wm_ev, gh_wm_th, gh_wm_vo, gh_wm_kd, gh_wm_pn, gh_wm_pi, gh_wm_va, gh_wm_dt, gh_wm_ti, gh_wm_pl, gh_wm_mn, gh_wm_ro, gh_wm_te, gh_wm_tt, gh_wm_tv, gh_wm_tf, gh_wm_tl, gh_wm_tn, gh_wm_tm, gh_wm_tu, gh_wm_le, gh_wm_lt, gh_wm_lk, gh_wm_lf, gh_wm_lo, gh_wm_wm, gh_wm_wr, gh_wm_fo, gh_wm_fi, gh_wm_hr, gh_wm_rk, gh_wm_rs, gh_wm_rr, gh_wm_hs, gh_wm_sk, gh_wm_ss, gh_wm_sr, gh_wm_fa, gh_wm_su, gh_wm_tr] | rfl)) ?_
                refine ZV_iconst (v := nI 1) (n := 137) dX12_walk_136 rfl rfl ?_
                refine ZV_iaddN (n := 138) dX12_walk_137 rfl ?_
                refine ZV_putI (n := 141) dX12_walk_138 fl_X12_286 rfl (Or.inl rfl) rfl (fun h => absurd h (by decide)) rfl (rf_sh hR1 :).1 ?_
                have hR1 := rR_walkMany hR1 (n + 1)
                rw [hh_wm] at hR1
                have hm : ∀ i, i < n + 1 → zl (pI τ 799 x (nI (n + 1))) (x + 37) i = lN (va_up (hoF m n K) K (bgF T v p) i) := hm
                generalize pI τ _ _ _ = τ at hR1 hm ⊢
                refine ZV_lload_n (n := 142) dX12_walk_141 rfl rfl rfl ?_
                refine ZV_aload_n (n := 143) dX12_walk_142 rfl rfl rfl ?_
                refine ZV_iload (n := 145) dX12_walk_143 rfl rfl ?_
                refine call_X12_243 (c_timeOfT hR1 hI (by omega) _ hro.1 hro.2.1) rfl dX12_walk_145 rfl (rf_sh hR1 :).1 (Nat.le_of_ble_eq_true rfl) (Nat.le_of_ble_eq_true rfl) rfl (fun r9 σ9 hp9 => ?_)
                obtain ⟨rfl, rfl⟩ := hp9
                refine ZV_laddN (n := 149) dX12_walk_148 rfl ?_
                rw [show bgF T v p + tmT T (g_ro T v p) = bgF T v (p + 1) from rfl]
                refine ZV_lstore_2 (n := 150) dX12_walk_149 rfl (Nat.le_of_ble_eq_true rfl) rfl ?_
                refine ZV_iincN_4 (v := 1) (n := 153) dX12_walk_150 rfl rfl (Nat.le_of_ble_eq_true rfl) rfl ?_
                refine ZV_goto (tgt := 26) dX12_walk_153 (by decide) ?_
                refine ZV_fg_5 ?_
                refine ZV_fg_6 ?_
                exact ih (p + 1) (n + 1) _ _ _ (by omega) (by omega) (by rw [wkN, ← hS]; unfold wkI; rw [← hK]) hR1 hm
              have loopK : ∀ (n9 : Nat) (k : Nat) (τ : ZS), k < n9 → k ≤ n → rR x τ (h_wm (h_wr T (hoF w n k)) n) → (∀ i, i ≤ n → i ≠ k → zl τ (x + 37) i = lN (hoF m n k i)) → kF m (bgF T v p) k = K → ZV M_X12_walk (fun y0 τ0 => y0 = some (Ai (sp_walk T).1) ∧ rR x τ0 (sp_walk T).2) 57 [some (Ar (some x)), some (Ai (nI v)), some (Al (lN (bgF T v p))), none, some (Ai (nI p)), some (Ai (nI (g_ro T v p))), some (Ai (nI k))] [] τ (zmC M_X12_walk) (zmS M_X12_walk) := by
                intro n9
                induction n9 with
                | zero => intro k τ hme; exact absurd hme (Nat.not_lt_zero _)
                | succ n9 ihk =>
                  intro k τ hme hk hR1 hm hz
                  refine ZV_iload (n := 59) dX12_walk_57 rfl rfl ?_
                  refine ZV_if_leN (tgt := 114) (n := 62) dX12_walk_59 (by decide) rfl (by omega) (fun h59 => ?_) (fun h59 => ?_)
                  · skip
                    obtain rfl : k = K := by rw [← hz, show k = 0 by omega]; rfl
                    exact tail _ hR1 hm
                  · skip
                    have hmk : zl τ (x + 37) (k - 1) = lN (m (k - 1)) := (hm (k - 1) (by omega) (by omega)).trans (by rw [hoF, if_neg (by omega)])
                    have hmb := hB (k - 1) (by omega)
                    have hwk : hoF w n k (k - 1) = w (k - 1) := by rw [hoF, if_neg (by omega)]
                    refine ZV_aload_n (n := 63) dX12_walk_62 rfl rfl rfl ?_
                    refine ZV_getR (n := 66) dX12_walk_63 fl_X12_120 rfl rfl rfl (rf_sh hR1 :).1 ?_
                    refine ZV_iload (n := 68) dX12_walk_66 rfl rfl ?_
                    refine ZV_iconst (v := nI 1) (n := 69) dX12_walk_68 rfl rfl ?_
                    refine ZV_isubN (n := 70) dX12_walk_69 rfl (by omega) ?_
                    refine ZV_laldv (n := 71) dX12_walk_70 rfl (ra_walkTime (rf_sh hR1 :) :) (rk_walkTime (rf_sh hR1 :) :) rfl (by omega) hmk ?_
                    refine ZV_lload_n (n := 72) dX12_walk_71 rfl rfl rfl ?_
                    refine ZV_lcmp_leN (tgt := 114) (pc1 := 73) (n := 76) dX12_walk_72 rfl dX12_walk_73 (by decide) rfl (by omega) (by omega) (fun h72 => ?_) (fun h72 => ?_)
                    · skip
                      obtain rfl : k = K := by rw [← hz, show k = k - 1 + 1 by omega, kF, if_neg (by omega)]
                      exact tail _ hR1 hm
                    · skip
                      refine ZV_aload_n (n := 77) dX12_walk_76 rfl rfl rfl ?_
                      refine ZV_getR (n := 80) dX12_walk_77 fl_X12_120 rfl rfl rfl (rf_sh hR1 :).1 ?_
                      refine ZV_iload (n := 82) dX12_walk_80 rfl rfl ?_
                      refine ZV_aload_n (n := 83) dX12_walk_82 rfl rfl rfl ?_
                      refine ZV_getR (n := 86) dX12_walk_83 fl_X12_120 rfl rfl rfl (rf_sh hR1 :).1 ?_
                      refine ZV_iload (n := 88) dX12_walk_86 rfl rfl ?_
                      refine ZV_iconst (v := nI 1) (n := 89) dX12_walk_88 rfl rfl ?_
                      refine ZV_isubN (n := 90) dX12_walk_89 rfl (by omega) ?_
                      refine ZV_laldv (n := 91) dX12_walk_90 rfl (ra_walkTime (rf_sh hR1 :) :) (rk_walkTime (rf_sh hR1 :) :) rfl (by omega) hmk ?_
                      refine ZV_last (n := 92) dX12_walk_91 rfl (ra_walkTime (rf_sh hR1 :) :) (rk_walkTime (rf_sh hR1 :) :) rfl (by omega) ?_
                      have hm := hm_ho (by omega) hk hm
                      have hR1 := rR_walkTime (j := k) hR1 (lN (m (k - 1)))
                      clear hmk
                      generalize ql τ _ _ _ = τ at hR1 hm ⊢
                      refine ZV_aload_n (n := 93) dX12_walk_92 rfl rfl rfl ?_
                      refine ZV_getR (n := 96) dX12_walk_93 fl_X12_81 rfl rfl rfl (rf_sh hR1 :).1 ?_
                      refine ZV_iload (n := 98) dX12_walk_96 rfl rfl ?_
                      refine ZV_aload_n (n := 99) dX12_walk_98 rfl rfl rfl ?_
                      refine ZV_getR (n := 102) dX12_walk_99 fl_X12_81 rfl rfl rfl (rf_sh hR1 :).1 ?_
                      refine ZV_iload (n := 104) dX12_walk_102 rfl rfl ?_
                      refine ZV_iconst (v := nI 1) (n := 105) dX12_walk_104 rfl rfl ?_
                      refine ZV_isubN (n := 106) dX12_walk_105 rfl (by omega) ?_
                      refine ZV_ialdv (n := 107) dX12_walk_106 rfl (ra_walkRow (rf_sh hR1 :) :) (rk_walkRow (rf_sh hR1 :) :) rfl (by omega) ((rf_walkRow hR1 (k - 1) (by omega)).trans (congrArg nI hwk)) ?_
                      refine ZV_iast (n := 108) dX12_walk_107 rfl (ra_walkRow (rf_sh hR1 :) :) (rk_walkRow (rf_sh hR1 :) :) rfl (by omega) ?_
                      have hR1 := rR_walkRow (j := k) hR1 (w (k - 1))
                      rw [wT_up, show g_wr (h_wm (h_wr T (hoF w n k)) n) = hoF w n k from rfl, hoF_up w (by omega) hk] at hR1
                      have hm : ∀ i, i ≤ n → i ≠ (k - 1) → zl (qi τ (x + 24) k (nI (w (k - 1)))) (x + 37) i = lN (hoF m n (k - 1) i) := hm
                      generalize qi τ _ _ _ = τ at hR1 hm ⊢
                      refine ZV_iincM_6 (n := 111) dX12_walk_108 rfl rfl (Nat.le_of_ble_eq_true rfl) rfl (by omega) ?_
                      refine ZV_goto (tgt := 57) dX12_walk_111 (by decide) ?_
                      exact ihk (k - 1) _ (by omega) (by omega) hR1 hm (by rw [← hz, show k = k - 1 + 1 by omega, kF, if_pos (by simpa using h72)]; rfl)
              exact loopK _ n _ (Nat.lt_succ_self _) (Nat.le_refl _) (by rw [hoF_n]; exact hR1) (fun i h1 h2 => by rw [hoF_n]; exact hm i (by omega)) hK.symm
        exact loopP _ 0 n0 w0 m0 τ (Nat.lt_succ_self _) (Nat.zero_le _) rfl hR1 hm
  exact loopV _ 0 0 (g_wr T) (fun _ => 0) _ (Nat.lt_succ_self _) (Nat.zero_le _) rfl hR (fun i hi => absurd hi (Nat.not_lt_zero _))
