theorem dlt_0 (S : TS) (e : Nat) : dlt S e 0 = g_lt S := by funext t; unfold dlt; rw [if_neg (by omega)]
theorem dlo_0 (S : TS) (e : Nat) : dlo S e 0 = g_lo S := by funext t; unfold dlo; rw [if_neg (by omega)]
theorem dlt_at (S : TS) (e n : Nat) : dlt S e n n = g_lt S n := if_neg (by omega)
theorem dlo_at (S : TS) (e n : Nat) : dlo S e n n = g_lo S n := if_neg (by omega)
theorem dlt_y {S : TS} {e n : Nat} (h : g_lf S n = e) : va_up (dlt S e n) n false = dlt S e (n + 1) := by
  funext t
  by_cases q : t = n
  · subst q
    rw [up_eq]
    exact (if_pos ⟨Nat.lt_succ_self _, h⟩).symm
  · rw [up_ne q]
    unfold dlt
    simp only [show (t < n + 1) ↔ t < n by omega]
theorem dlt_s {S : TS} {e n : Nat} (h : ¬ (g_lt S n = true ∧ g_lf S n = e)) : dlt S e (n + 1) = dlt S e n := by
  funext t
  unfold dlt
  by_cases q : t = n
  · subst q
    rw [if_neg (show ¬ (t < t ∧ _) by omega)]
    by_cases q2 : g_lf S t = e
    · rw [if_pos ⟨Nat.lt_succ_self _, q2⟩]
      cases hb : g_lt S t with
      | false => rfl
      | true => exact absurd ⟨hb, q2⟩ h
    · rw [if_neg (fun z => q2 z.2)]
  · simp only [show (t < n + 1) ↔ t < n by omega]
theorem dlo_y {S : TS} {e n : Nat} (h1 : g_lt S n = true) (h2 : g_lf S n ≠ e) (h3 : g_lo S n = some e) : va_up (dlo S e n) n none = dlo S e (n + 1) := by
  funext t
  by_cases q : t = n
  · subst q
    rw [up_eq]
    exact (if_pos ⟨Nat.lt_succ_self _, h1, h2, h3⟩).symm
  · rw [up_ne q]
    unfold dlo
    simp only [show (t < n + 1) ↔ t < n by omega]
theorem dlo_s {S : TS} {e n : Nat} (h : ¬ (g_lt S n = true ∧ g_lf S n ≠ e ∧ g_lo S n = some e)) : dlo S e (n + 1) = dlo S e n := by
  funext t
  unfold dlo
  by_cases q : t = n
  · subst q
    rw [if_neg (show ¬ (t < t ∧ _) by omega), if_neg (fun z => h z.2)]
  · simp only [show (t < n + 1) ↔ t < n by omega]
theorem hg_lt (T : TS) : h_lt T (g_lt T) = T := by
  unfold h_lt g_lt
  simp only [up_self]
theorem hg_lo (T : TS) : h_lo T (g_lo T) = T := by
  unfold h_lo g_lo
  simp only [up_self]
theorem hl_lt (T : TS) (a b : Nat → Bool) (f : Nat → Option Nat) : h_lt (h_lo (h_lt T a) f) b = h_lo (h_lt T b) f := by
  show h_lo (h_lt (h_lt T a) b) f = _
  rw [hh_lt]
set_option maxHeartbeats 4000000 in
set_option maxRecDepth 100000 in
theorem e_dropFromLines {c B : Nat} {σ : ZS} {S : TS} {K : KS} (hG : cG c B σ S K) {e : Nat} (he : e < g_ev S) (hlf9 : ∀ l, l < g_le S → g_lt S l = true → g_lf S l < g_ev S) (hlo9 : ∀ l f, l < g_le S → g_lt S l = true → g_lo S l = some f → f < g_ev S) : ZC M_X11_dropFromLines [Ar (some c), Ar (some (k_ea K e))] σ (fun r τ => r = none ∧ cG c B τ (h_lo (h_lt S (dlt S e (g_le S))) (dlo S e (g_le S))) K) := by
  have hbd := cf_bd hG
  refine ZC_of (ls := [some (Ar (some c)), some (Ar (some (k_ea K e))), none, none]) (by decide) (Nat.le_of_ble_eq_true rfl) rfl ?_
  have loop : ∀ (n9 l : Nat) (τ : ZS), g_le S - l < n9 → l ≤ g_le S → cG c B τ (h_lo (h_lt S (dlt S e l)) (dlo S e l)) K → ZV M_X11_dropFromLines (fun r τ => r = none ∧ cG c B τ (h_lo (h_lt S (dlt S e (g_le S))) (dlo S e (g_le S))) K) 2 [some (Ar (some c)), some (Ar (some (k_ea K e))), some (Ai (nI l)), none] [] τ (zmC M_X11_dropFromLines) (zmS M_X11_dropFromLines) := by
    intro n9
    induction n9 with
    | zero => intro l τ hme; exact absurd hme (Nat.not_lt_zero _)
    | succ n9 ih =>
      intro l τ hme hl hG
      refine ZV_iload_n (n := 3) dX11_dropFromLines_2 rfl rfl rfl ?_
      refine ZV_aload_n (n := 4) dX11_dropFromLines_3 rfl rfl rfl ?_
      refine ZV_getIv (n := 7) dX11_dropFromLines_4 fl_X11_56 rfl rfl rfl (cf_sh hG :).1 (show _ = nI (g_le S) from (cf_le hG :)) ?_
      refine ZV_icmp_geN (tgt := 62) (n := 10) dX11_dropFromLines_7 (by decide) rfl (by omega) (by omega) (fun h7 => ?_) (fun h7 => ?_)
      · skip
        refine ZV_vret dX11_dropFromLines_62 rfl ?_
        obtain rfl : l = g_le S := by omega
        exact ⟨rfl, hG⟩
      · skip
        refine ZV_aload_n (n := 11) dX11_dropFromLines_10 rfl rfl rfl ?_
        refine ZV_getRv (n := 14) dX11_dropFromLines_11 fl_X11_52 rfl rfl rfl (cf_sh hG :).1 (ca_lines (cf_sh hG :)) ?_
        refine ZV_iload_n (n := 15) dX11_dropFromLines_14 rfl rfl rfl ?_
        rcases hb15 : g_lt S l with _ | _
        · skip
          refine ZV_aaldv (c0 := 4) (w := none) (j := l) (n := 16) dX11_dropFromLines_15 rfl (by decide) rfl (ck_lines (cf_sh hG :)) rfl (by omega) (Eq.trans (cf_la hG l (show l < g_le S by omega)) (if_neg (show ¬ dlt S e l l = true by rw [dlt_at, hb15]; exact Bool.false_ne_true))) ?_
          refine ZV_astore_3 (n := 17) dX11_dropFromLines_16 rfl (Nat.le_of_ble_eq_true rfl) rfl ?_
          refine ZV_aload_n (n := 18) dX11_dropFromLines_17 rfl rfl rfl ?_
          refine ZV_ifnull_n (tgt := 39) dX11_dropFromLines_18 (by decide) ?_
          refine ZV_aload_n (n := 40) dX11_dropFromLines_39 rfl rfl rfl ?_
          refine ZV_ifnull_n (tgt := 56) dX11_dropFromLines_40 (by decide) ?_
          refine ZV_iincN_2 (v := 1) (n := 59) dX11_dropFromLines_56 rfl rfl (Nat.le_of_ble_eq_true rfl) rfl ?_
          refine ZV_goto (tgt := 2) dX11_dropFromLines_59 (by decide) ?_
          refine ZV_fg_3 ?_
          exact ih (l + 1) τ (by omega) (by omega) (by rw [dlt_s (fun z => by rw [hb15] at z; cases z.1), dlo_s (fun z => by rw [hb15] at z; cases z.1)]; exact hG)
        · skip
          refine ZV_aaldv (c0 := 4) (w := some (k_la K l)) (j := l) (n := 16) dX11_dropFromLines_15 rfl (by decide) rfl (ck_lines (cf_sh hG :)) rfl (by omega) (Eq.trans (cf_la hG l (show l < g_le S by omega)) (if_pos (show dlt S e l l = true by rw [dlt_at]; exact hb15))) ?_
          refine ZV_astore_3 (n := 17) dX11_dropFromLines_16 rfl (Nat.le_of_ble_eq_true rfl) rfl ?_
          refine ZV_aload_n (n := 18) dX11_dropFromLines_17 rfl rfl rfl ?_
          refine ZV_ifnull_s (tgt := 39) (n := 21) dX11_dropFromLines_18 (by decide) rfl ?_
          refine ZV_aload_n (n := 22) dX11_dropFromLines_21 rfl rfl rfl ?_
          have hlf := hlf9 l (by omega) hb15
          refine ZV_getRv (w := some (k_ea K (g_lf S l))) (n := 25) dX11_dropFromLines_22 fl_X11_322 rfl rfl rfl (cf_lk hG l (show l < g_le S by omega)).1 (cf_lf hG l (show l < g_le S by omega) (show dlt S e l l = true by rw [dlt_at]; exact hb15)) ?_
          refine ZV_aload_n (n := 26) dX11_dropFromLines_25 rfl rfl rfl ?_
          refine ZV_acmp_neI (i := g_lf S l) (j := e) (tgt := 39) (n := 29) dX11_dropFromLines_26 (by decide) rfl (ea_inj hG hlf he) (fun q => congrArg (k_ea K) q) (fun h26 => ?_) (fun h26 => ?_)
          · skip
            refine ZV_aload_n (n := 40) dX11_dropFromLines_39 rfl rfl rfl ?_
            refine ZV_ifnull_s (tgt := 56) (n := 43) dX11_dropFromLines_40 (by decide) rfl ?_
            refine ZV_aload_n (n := 44) dX11_dropFromLines_43 rfl rfl rfl ?_
            rcases ho44 : g_lo S l with _ | o44
            · skip
              refine ZV_getRv (w := none) (n := 47) dX11_dropFromLines_44 fl_X11_317 rfl rfl rfl (cf_lk hG l (show l < g_le S by omega)).1 ((cf_lo hG l (show l < g_le S by omega) (show dlt S e l l = true by rw [dlt_at]; exact hb15)).trans (by show (dlo S e l l).map (k_ea K) = _; rw [dlo_at, ho44]; rfl)) ?_
              refine ZV_aload_n (n := 48) dX11_dropFromLines_47 rfl rfl rfl ?_
              refine ZV_acmp_ne_n (tgt := 56) dX11_dropFromLines_48 (by decide) ?_
              refine ZV_iincN_2 (v := 1) (n := 59) dX11_dropFromLines_56 rfl rfl (Nat.le_of_ble_eq_true rfl) rfl ?_
              refine ZV_goto (tgt := 2) dX11_dropFromLines_59 (by decide) ?_
              refine ZV_fg_3 ?_
              exact ih (l + 1) τ (by omega) (by omega) (by rw [dlt_s (fun z => h26 z.2), dlo_s (fun z => by rw [ho44] at z; cases z.2.2)]; exact hG)
            · skip
              refine ZV_getRv (w := some (k_ea K o44)) (n := 47) dX11_dropFromLines_44 fl_X11_317 rfl rfl rfl (cf_lk hG l (show l < g_le S by omega)).1 ((cf_lo hG l (show l < g_le S by omega) (show dlt S e l l = true by rw [dlt_at]; exact hb15)).trans (by show (dlo S e l l).map (k_ea K) = _; rw [dlo_at, ho44]; rfl)) ?_
              refine ZV_aload_n (n := 48) dX11_dropFromLines_47 rfl rfl rfl ?_
              refine ZV_acmp_neI (i := o44) (j := e) (tgt := 56) (n := 51) dX11_dropFromLines_48 (by decide) rfl (ea_inj hG (hlo9 l o44 (by omega) hb15 ho44) he) (fun q => congrArg (k_ea K) q) (fun h48 => ?_) (fun h48 => ?_)
              · skip
                refine ZV_iincN_2 (v := 1) (n := 59) dX11_dropFromLines_56 rfl rfl (Nat.le_of_ble_eq_true rfl) rfl ?_
                refine ZV_goto (tgt := 2) dX11_dropFromLines_59 (by decide) ?_
                refine ZV_fg_3 ?_
                exact ih (l + 1) τ (by omega) (by omega) (by rw [dlt_s (fun z => h26 z.2), dlo_s (fun z => h48 (by rw [ho44] at z; exact Option.some.inj z.2.2))]; exact hG)
              · skip
                refine ZV_aload_n (n := 52) dX11_dropFromLines_51 rfl rfl rfl ?_
                refine ZV_null (n := 53) dX11_dropFromLines_52 rfl ?_
                subst h48
                refine ZV_putR (n := 56) dX11_dropFromLines_53 fl_X11_317 rfl (Or.inl rfl) rfl rfl (cf_lk hG l (show l < g_le S by omega)).1 ?_
                have hG7 := U_lo hG (l := l) (show l < g_le S by omega) none
                rw [hh_lo, gh_lo_lo, dlo_y hb15 h26 ho44, ← dlt_s (e := o44) (n := l) (fun z => h26 z.2)] at hG7
                refine ZV_gen (P := fun τ => cG c B τ (h_lo (h_lt S (dlt S o44 (l + 1))) (dlo S o44 (l + 1))) K) hG7 (fun σ hG8 => ?_)
                refine ZV_iincN_2 (v := 1) (n := 59) dX11_dropFromLines_56 rfl rfl (Nat.le_of_ble_eq_true rfl) rfl ?_
                refine ZV_goto (tgt := 2) dX11_dropFromLines_59 (by decide) ?_
                refine ZV_fg_3 ?_
                exact ih (l + 1) σ (by omega) (by omega) hG8
          · skip
            refine ZV_aload_n (n := 30) dX11_dropFromLines_29 rfl rfl rfl ?_
            refine ZV_getRv (n := 33) dX11_dropFromLines_30 fl_X11_52 rfl rfl rfl (cf_sh hG :).1 (ca_lines (cf_sh hG :)) ?_
            refine ZV_iload_n (n := 34) dX11_dropFromLines_33 rfl rfl rfl ?_
            refine ZV_null (n := 35) dX11_dropFromLines_34 rfl ?_
            refine ZV_aast (c0 := 4) (j := l) (n := 36) dX11_dropFromLines_35 rfl (by decide) (fun x9 q9 => by cases q9) rfl (ck_lines (cf_sh hG :)) rfl (by omega) ?_
            have hG7 := U_lt hG l
            rw [hl_lt, gh_lt_lo, gh_lt_lt, dlt_y h26, ← dlo_s (e := e) (n := l) (fun z => z.2.1 h26)] at hG7
            refine ZV_gen (P := fun τ => cG c B τ (h_lo (h_lt S (dlt S e (l + 1))) (dlo S e (l + 1))) K) hG7 (fun σ hG8 => ?_)
            refine ZV_goto (tgt := 56) dX11_dropFromLines_36 (by decide) ?_
            refine ZV_iincN_2 (v := 1) (n := 59) dX11_dropFromLines_56 rfl rfl (Nat.le_of_ble_eq_true rfl) rfl ?_
            refine ZV_goto (tgt := 2) dX11_dropFromLines_59 (by decide) ?_
            refine ZV_fg_3 ?_
            exact ih (l + 1) σ (by omega) (by omega) hG8
  refine ZV_iconst (v := nI 0) (n := 1) dX11_dropFromLines_0 rfl rfl ?_
  refine ZV_istore_2 (n := 2) dX11_dropFromLines_1 rfl (Nat.le_of_ble_eq_true rfl) rfl ?_
  exact loop _ 0 σ (Nat.lt_succ_self _) (Nat.zero_le _) (by rw [dlt_0, dlo_0, hg_lt, hg_lo]; exact hG)
theorem cG_rrE {c B : Nat} {σ : ZS} {T : TS} {K : KS} (h : cG c B σ T K) {f : Nat → Nat → Option Nat} (hf : ∀ r j, r < 4 → g_hr T r = true → j < g_rs T r → f r j = g_rr T r j) : cG c B σ (h_rr T f) K := ⟨(cf_sh h :), (cf_B h :), (cf_bd h :), (cf_pk h :), (cf_vk h :), (cf_ek h :), (cf_tk h :), (cf_lk h :), (cf_rk h :), (cf_sk h :), (cf_pai h :), (cf_lai h :), (cf_wai h :), (cf_np h :), (cf_nb h :), (cf_ev h :), (cf_te h :), (cf_le h :), (cf_wm h :), (cf_fo h :), (cf_su h :), (cf_pa h :), (cf_pas h :), (cf_va h :), (cf_vn h :), (cf_vi h :), (cf_ve h :), (cf_vs h :), (cf_vw h :), (cf_vl h :), (cf_ro h :), (cf_be h :), (cf_ea h :), (cf_en h :), (cf_eo h :), (cf_ed h :), (cf_ep h :), (cf_ec h :), (cf_et h :), (cf_es h :), (cf_ei h :), (cf_el h :), (cf_eb h :), (cf_ez h :), (cf_pi h :), (cf_ta h :), (cf_tq h :), (cf_to h :), (cf_t1 h :), (cf_t2 h :), (cf_tn h :), (cf_tm h :), (cf_tu h :), (cf_la h :), (cf_lj h :), (cf_lf h :), (cf_lo h :), (cf_wr h :), (cf_fi h :), (cf_fa h :), (cf_ra h :), (cf_sa h :), (cf_rd h :), (cf_sd h :), (cf_rt h :), (cf_st h :), (fun r j hr hh hj => (cf_rr h r j hr hh hj).trans (congrArg oI (hf r j hr hh hj)).symm), (cf_sr h :)⟩
def drF (S : TS) (e n : Nat) : Nat → Nat → Option Nat := fun r j => if r < n ∧ g_rr S r j = some e then none else g_rr S r j
theorem drF_0 (S : TS) (e : Nat) : drF S e 0 = g_rr S := by funext r j; exact if_neg (by omega)
theorem drF_at (S : TS) (e n : Nat) : drF S e n n = g_rr S n := by funext j; exact if_neg (by omega)
theorem drF_4 (S : TS) (e r j : Nat) (hr : r < 4) : drF S e 4 r j = rrE S e r j := by
  unfold drF rrE
  by_cases q : g_rr S r j = some e
  · rw [if_pos ⟨hr, q⟩, if_pos q]
  · rw [if_neg (fun z => q z.2), if_neg q]
theorem hg_rr2 (T : TS) : h_rr T (g_rr T) = T := hg_rr T
set_option maxHeartbeats 4000000 in
set_option maxRecDepth 100000 in
theorem e_dropFromRacks {c B : Nat} {σ : ZS} {S : TS} {K : KS} (hG : cG c B σ S K) {e : Nat} (he : e < 150) (hrs : ∀ r, r < 4 → g_rs S r ≤ 20) (hrb : ∀ r j f, r < 4 → j < 20 → g_rr S r j = some f → f < 150) : ZC M_X11_dropFromRacks [Ar (some c), Ai (nI e)] σ (fun r9 τ => r9 = none ∧ cG c B τ (h_rr S (drF S e 4)) K) := by
  have hbd := cf_bd hG
  refine ZC_of (ls := [some (Ar (some c)), some (Ai (nI e)), none]) (by decide) (Nat.le_of_ble_eq_true rfl) rfl ?_
  have loop : ∀ (n9 r : Nat) (τ : ZS), 4 - r < n9 → r ≤ 4 → cG c B τ (h_rr S (drF S e r)) K → ZV M_X11_dropFromRacks (fun r9 τ => r9 = none ∧ cG c B τ (h_rr S (drF S e 4)) K) 2 [some (Ar (some c)), some (Ai (nI e)), some (Ai (nI r))] [] τ (zmC M_X11_dropFromRacks) (zmS M_X11_dropFromRacks) := by
    intro n9
    induction n9 with
    | zero => intro r τ hme; exact absurd hme (Nat.not_lt_zero _)
    | succ n9 ih =>
      intro r τ hme hr hG
      refine ZV_iload_n (n := 3) dX11_dropFromRacks_2 rfl rfl rfl ?_
      refine ZV_iconst (v := nI 4) (n := 4) dX11_dropFromRacks_3 rfl rfl ?_
      refine ZV_icmp_geN (tgt := 33) (n := 7) dX11_dropFromRacks_4 (by decide) rfl (by omega) (by omega) (fun h4 => ?_) (fun h4 => ?_)
      · skip
        refine ZV_vret dX11_dropFromRacks_33 rfl ?_
        obtain rfl : r = 4 := by omega
        exact ⟨rfl, hG⟩
      · skip
        refine ZV_aload_n (n := 8) dX11_dropFromRacks_7 rfl rfl rfl ?_
        refine ZV_getRv (n := 11) dX11_dropFromRacks_8 fl_X11_74 rfl rfl rfl (cf_sh hG :).1 (ca_racks (cf_sh hG :)) ?_
        refine ZV_iload_n (n := 12) dX11_dropFromRacks_11 rfl rfl rfl ?_
        rcases hb12 : g_hr S r with _ | _
        · skip
          refine ZV_aaldv (c0 := 5) (w := none) (j := r) (n := 13) dX11_dropFromRacks_12 rfl (by decide) rfl (ck_racks (cf_sh hG :)) rfl (by omega) (Eq.trans (cf_ra hG r (by omega)) (if_neg (show ¬ g_hr S r = true by rw [hb12]; exact Bool.false_ne_true))) ?_
          refine ZV_ifnull_n (tgt := 27) dX11_dropFromRacks_13 (by decide) ?_
          refine ZV_iincN_2 (v := 1) (n := 30) dX11_dropFromRacks_27 rfl rfl (Nat.le_of_ble_eq_true rfl) rfl ?_
          refine ZV_goto (tgt := 2) dX11_dropFromRacks_30 (by decide) ?_
          refine ih (r + 1) τ (by omega) (by omega) ?_
          have hG8 := cG_rrE hG (f := drF S e (r + 1)) (fun y j hy hh hj => ?_)
          · rw [hh_rr] at hG8
            exact hG8
          · rw [gh_rr_rr]
            have hne : y ≠ r := fun z => by have hh : g_hr S y = true := hh; rw [z, hb12] at hh; cases hh
            unfold drF
            simp only [show (y < r + 1) ↔ y < r by omega]
        · skip
          refine ZV_aaldv (c0 := 5) (w := some (k_wa K r)) (j := r) (n := 13) dX11_dropFromRacks_12 rfl (by decide) rfl (ck_racks (cf_sh hG :)) rfl (by omega) (Eq.trans (cf_ra hG r (by omega)) (if_pos (show g_hr S r = true from hb12))) ?_
          refine ZV_ifnull_s (tgt := 27) (n := 16) dX11_dropFromRacks_13 (by decide) rfl ?_
          refine ZV_aload_n (n := 17) dX11_dropFromRacks_16 rfl rfl rfl ?_
          refine ZV_getRv (n := 20) dX11_dropFromRacks_17 fl_X11_74 rfl rfl rfl (cf_sh hG :).1 (ca_racks (cf_sh hG :)) ?_
          refine ZV_iload_n (n := 21) dX11_dropFromRacks_20 rfl rfl rfl ?_
          refine ZV_aaldv (c0 := 5) (w := some (k_wa K r)) (j := r) (n := 22) dX11_dropFromRacks_21 rfl (by decide) rfl (ck_racks (cf_sh hG :)) rfl (by omega) (Eq.trans (cf_ra hG r (by omega)) (if_pos (show g_hr S r = true from hb12))) ?_
          refine ZV_iload_n (n := 23) dX11_dropFromRacks_22 rfl rfl rfl ?_
          refine ZV_iconst (v := -1) (n := 24) dX11_dropFromRacks_23 rfl rfl ?_
          refine call_X11_451 (e_replaceAll hG (r := r) (e := e) (by omega) (show g_hr S r = true from hb12) (hrs r (by omega)) he (fun j f hj hq => by rw [gh_rr_rr, drF_at] at hq; exact hrb r j f (by omega) (by have := hrs r (by omega); have hj : j < g_rs S r := hj; omega) hq)) rfl dX11_dropFromRacks_24 rfl (cf_rk hG r (by omega) (show g_hr S r = true from hb12)).1 (Nat.le_of_ble_eq_true rfl) (Nat.le_of_ble_eq_true rfl) rfl (fun r9 σ9 hp9 => ?_)
          obtain ⟨rfl, hG⟩ := hp9
          refine ZV_iincN_2 (v := 1) (n := 30) dX11_dropFromRacks_27 rfl rfl (Nat.le_of_ble_eq_true rfl) rfl ?_
          refine ZV_goto (tgt := 2) dX11_dropFromRacks_30 (by decide) ?_
          refine ih (r + 1) σ9 (by omega) (by omega) ?_
          have hG8 := cG_rrE hG (f := drF S e (r + 1)) (fun y j hy hh hj => ?_)
          · rw [hh_rr, hh_rr] at hG8
            exact hG8
          · rw [gh_rr_rr, gh_rr_rr, gh_rs_rr]
            by_cases q : y = r
            · subst q
              rw [u2_eq, drF_at]
              unfold ltF rpF drF
              have hj : j < g_rs S y := hj
              rw [if_pos hj]
              by_cases q2 : g_rr S y j = some e
              · rw [if_pos ⟨Nat.lt_succ_self _, q2⟩, if_pos q2]
              · rw [if_neg (fun z => q2 z.2), if_neg q2]
            · rw [u2_ne q]
              unfold drF
              simp only [show (y < r + 1) ↔ y < r by omega]
  refine ZV_iconst (v := nI 0) (n := 1) dX11_dropFromRacks_0 rfl rfl ?_
  refine ZV_istore_2 (n := 2) dX11_dropFromRacks_1 rfl (Nat.le_of_ble_eq_true rfl) rfl ?_
  exact loop _ 0 σ (Nat.lt_succ_self _) (Nat.zero_le _) (by rw [drF_0, hg_rr]; exact hG)
