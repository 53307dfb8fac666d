theorem min100 {a : Nat} (h : a ≤ 5000) : (if nI 100 < nI a then nI 100 else nI a) = nI (if a < 100 then a else 100) := by
  have e : (nI 100 < nI a) ↔ 100 < a := by
    rw [Int32.lt_iff_toInt_lt, nI_toInt (by decide), nI_toInt (by omega)]
    omega
  simp only [e]
  by_cases q : a < 100
  · rw [if_neg (by omega), if_pos q]
  · rw [if_neg q]
    by_cases q2 : a = 100
    · rw [q2, if_neg (by omega)]
    · rw [if_pos (by omega)]
theorem cG_tr {c B : Nat} {σ : ZS} {T : TS} {K : KS} (h : cG c B σ T K) (w : Int64) : cG c B σ (h_tr T w) K := ⟨(cf_sh h :), (cf_B h :), (cf_bd h :), (cf_pk h :), (cf_vk h :), (cf_ek h :), (cf_tk h :), (cf_lk h :), (cf_rk h :), (cf_sk h :), (cf_pai h :), (cf_lai h :), (cf_wai h :), (cf_np h :), (cf_nb h :), (cf_ev h :), (cf_te h :), (cf_le h :), (cf_wm h :), (cf_fo h :), (cf_su h :), (cf_pa h :), (cf_pas h :), (cf_va h :), (cf_vn h :), (cf_vi h :), (cf_ve h :), (cf_vs h :), (cf_vw h :), (cf_vl h :), (cf_ro h :), (cf_be h :), (cf_ea h :), (cf_en h :), (cf_eo h :), (cf_ed h :), (cf_ep h :), (cf_ec h :), (cf_et h :), (cf_es h :), (cf_ei h :), (cf_el h :), (cf_eb h :), (cf_ez h :), (cf_pi h :), (cf_ta h :), (cf_tq h :), (cf_to h :), (cf_t1 h :), (cf_t2 h :), (cf_tn h :), (cf_tm h :), (cf_tu h :), (cf_la h :), (cf_lj h :), (cf_lf h :), (cf_lo h :), (cf_wr h :), (cf_fi h :), (cf_fa h :), (cf_ra h :), (cf_sa h :), (cf_rd h :), (cf_sd h :), (cf_rt h :), (cf_st h :), (cf_rr h :), (cf_sr h :)⟩
theorem cG_pl {c B : Nat} {σ : ZS} {T : TS} {K : KS} (h : cG c B σ T K) (w : Nat → Nat) : cG c B σ (h_pl T w) K := ⟨(cf_sh h :), (cf_B h :), (cf_bd h :), (cf_pk h :), (cf_vk h :), (cf_ek h :), (cf_tk h :), (cf_lk h :), (cf_rk h :), (cf_sk h :), (cf_pai h :), (cf_lai h :), (cf_wai h :), (cf_np h :), (cf_nb h :), (cf_ev h :), (cf_te h :), (cf_le h :), (cf_wm h :), (cf_fo h :), (cf_su h :), (cf_pa h :), (cf_pas h :), (cf_va h :), (cf_vn h :), (cf_vi h :), (cf_ve h :), (cf_vs h :), (cf_vw h :), (cf_vl h :), (cf_ro h :), (cf_be h :), (cf_ea h :), (cf_en h :), (cf_eo h :), (cf_ed h :), (cf_ep h :), (cf_ec h :), (cf_et h :), (cf_es h :), (cf_ei h :), (cf_el h :), (cf_eb h :), (cf_ez h :), (cf_pi h :), (cf_ta h :), (cf_tq h :), (cf_to h :), (cf_t1 h :), (cf_t2 h :), (cf_tn h :), (cf_tm h :), (cf_tu h :), (cf_la h :), (cf_lj h :), (cf_lf h :), (cf_lo h :), (cf_wr h :), (cf_fi h :), (cf_fa h :), (cf_ra h :), (cf_sa h :), (cf_rd h :), (cf_sd h :), (cf_rt h :), (cf_st h :), (cf_rr h :), (cf_sr h :)⟩
theorem asF_lo {f g : Nat → Int64} : ∀ n, (∀ i, i < n → f i = g i) → asF f n = asF g n
  | 0, _ => rfl
  | n + 1, h => by rw [asF, asF, asF_lo n (fun i hi => h i (by omega)), h n (Nat.lt_succ_self _)]
theorem asF_up (f : Nat → Int64) (p : Nat) (x : Int64) : ∀ n, p < n → asF (va_up f p (f p + x)) n = asF f n + x
  | 0, h => absurd h (Nat.not_lt_zero _)
  | n + 1, h => by
    rw [asF, asF]
    by_cases q : p = n
    · subst q
      rw [up_eq, asF_lo p (g := f) (fun i hi => up_ne (by omega)), Int64.add_assoc]
    · rw [up_ne (fun z => q z.symm), asF_up f p x n (by omega), Int64.add_assoc, Int64.add_assoc, Int64.add_comm x]
theorem kI_tr {T : TS} {K : KS} (hK : kI T K) {p : Nat} (hp : p < g_np T) (x : Int64) : kI (h_tr T (g_tr T + x)) (j_as K (va_up (k_as K) p (k_as K p + x))) := by
  have e : kE T (h_tr T (g_tr T)) := ⟨rfl, rfl, rfl, rfl, rfl, rfl, rfl, rfl, rfl, rfl, rfl, rfl, rfl, rfl, rfl, rfl, rfl, rfl, rfl, rfl⟩
  have h := hK
  obtain ⟨k1, k2, k3, k4, k5, k6, k7⟩ := h
  have hb : ∀ v p, bgF (h_tr T (g_tr T + x)) v p = bgF T v p := by
    intro v p
    induction p with
    | zero => rfl
    | succ p ih =>
      rw [bgF, bgF, ih]
      have : ∀ t, tmF (h_tr T (g_tr T + x)) (g_ro T v p) t = tmF T (g_ro T v p) t := by
        intro t
        induction t with
        | zero => rfl
        | succ t iht => rw [tmF, tmF, iht]; rfl
      show _ + tmF (h_tr T (g_tr T + x)) (g_ro T v p) (g_te T) = _ + tmF T (g_ro T v p) (g_te T)
      rw [this]
  have ht : ∀ e t, tmF (h_tr T (g_tr T + x)) e t = tmF T e t := by
    intro e t
    induction t with
    | zero => rfl
    | succ t iht => rw [tmF, tmF, iht]; rfl
  have ha : ∀ b, baF (h_tr T (g_tr T + x)) b = baF T b := by
    intro b
    induction b with
    | zero => rfl
    | succ b ihb => rw [baF, baF, ihb]; rfl
  refine ⟨k1, fun e he hte => (k2 e he hte).trans (hb _ _).symm, fun e he hte => (k3 e he hte).trans (ht e _).symm, fun v hv => (k4 v hv).trans (hb _ _).symm, k5, fun b hb2 => (k6 b hb2).trans (ha _).symm, ?_⟩
  show asF (va_up (k_as K) p (k_as K p + x)) (g_np T) = g_tr T + x
  rw [asF_up _ _ _ _ hp, k7]
theorem vpt {T : TS} (hI : tI T) {e : Nat} (he : e < g_ev T) : g_vo T e / 3 < g_np T := by
  have := ti_vo hI e he
  omega
set_option maxHeartbeats 4000000 in
set_option maxRecDepth 100000 in
theorem q_heard {c : Nat} {σ : ZS} {T : TS} (hR : cR c σ T) (hI : tI T) (e i : Int32) : ZC M_X11_heard [Ar (some c), Ai e, Ai i] σ (fun y0 τ0 => y0 = some (Ai (sp_heard T e i).1) ∧ cR c τ0 (sp_heard T e i).2) := by
  obtain ⟨B, K, hG, hK⟩ := hR
  have hbd := cf_bd hG
  refine ZC_of (ls := [some (Ar (some c)), some (Ai e), some (Ai i), none]) (by decide) (Nat.le_of_ble_eq_true rfl) rfl ?_
  refine ZV_aload_n (n := 1) dX11_heard_0 rfl rfl rfl ?_
  refine ZV_iload_n (n := 2) dX11_heard_1 rfl rfl rfl ?_
  refine call_X11_155 (e_eventOf hG _) rfl dX11_heard_2 rfl (cf_sh hG :).1 (Nat.le_of_ble_eq_true rfl) (Nat.le_of_ble_eq_true rfl) rfl (fun r9 σ9 hp9 => ?_)
  obtain ⟨hs9, hp9⟩ := hp9
  subst σ9
  rcases hp9 with ⟨hv2, hr9⟩ | ⟨e2, he2, ht2, hn2, hr9⟩
  · skip
    subst hr9
    refine ZV_astore_3 (n := 6) dX11_heard_5 rfl (Nat.le_of_ble_eq_true rfl) rfl ?_
    refine ZV_aload_n (n := 7) dX11_heard_6 rfl rfl rfl ?_
    refine ZV_ifnonnull_n (tgt := 20) (n := 10) dX11_heard_7 (by decide) rfl ?_
    refine ZV_aload_n (n := 11) dX11_heard_10 rfl rfl rfl ?_
    refine ZV_bipush (v := -2) (n := 13) dX11_heard_11 rfl rfl ?_
    refine ZV_sipush (v := -2000) (n := 16) dX11_heard_13 rfl rfl ?_
    refine call_X11_203 (e_refuseTelling hG _ _) rfl dX11_heard_16 rfl (cf_sh hG :).1 (Nat.le_of_ble_eq_true rfl) (Nat.le_of_ble_eq_true rfl) rfl (fun r9 σ9 hp9 => ?_)
    obtain ⟨rfl, hG⟩ := hp9
    refine ZV_iret dX11_heard_19 rfl ?_
    exact zlC (v := (-2000, h_su T (-2))) (by simp [sp_heard, hv2]) rfl ⟨B, K, hG, kI_e hK ⟨rfl, rfl, rfl, rfl, rfl, rfl, rfl, rfl, rfl, rfl, rfl, rfl, rfl, rfl, rfl, rfl, rfl, rfl, rfl, rfl⟩⟩
  · skip
    subst hr9
    subst hn2
    have hE2 : evB T (nI e2) = true := evB_nI hI he2 ht2
    have hev2 := ti_ev hI
    have hkd2 := ti_kd hI _ he2
    have hpn2 := ti_pn hI e2
    have hpl2 := ki_pl hK _ he2 ht2
    have hpb2 := pl_b hI hK he2 ht2
    have hvo2 := ti_vo hI _ he2
    have hc2 : (nI e2).toNatClampNeg = e2 := nI_clamp (by omega)
    refine ZV_astore_3 (n := 6) dX11_heard_5 rfl (Nat.le_of_ble_eq_true rfl) rfl ?_
    refine ZV_aload_n (n := 7) dX11_heard_6 rfl rfl rfl ?_
    refine ZV_ifnonnull_s (tgt := 20) dX11_heard_7 (by decide) ?_
    refine ZV_aload_n (n := 21) dX11_heard_20 rfl rfl rfl ?_
    refine call_X11_193 (e_isNote hG he2 hkd2) rfl dX11_heard_21 rfl (cf_ek hG e2 he2).1 (Nat.le_of_ble_eq_true rfl) (Nat.le_of_ble_eq_true rfl) rfl (fun r9 σ9 hp9 => ?_)
    obtain ⟨rfl, hs9⟩ := hp9
    subst σ9
    refine ZV_if_neB (tgt := 37) (n := 27) dX11_heard_24 (by decide) rfl (fun h24 => ?_) (fun h24 => ?_)
    · skip
      refine ZV_aload_n (n := 38) dX11_heard_37 rfl rfl rfl ?_
      refine ZV_iload_n (n := 39) dX11_heard_38 rfl rfl rfl ?_
      refine call_X11_197 (e_hasPitchAt hG he2 hpn2 _) rfl dX11_heard_39 rfl (cf_ek hG e2 he2).1 (Nat.le_of_ble_eq_true rfl) (Nat.le_of_ble_eq_true rfl) rfl (fun r9 σ9 hp9 => ?_)
      obtain ⟨rfl, hs9⟩ := hp9
      subst σ9
      refine ZV_if_neB (tgt := 53) (n := 45) dX11_heard_42 (by decide) rfl (fun h42 => ?_) (fun h42 => ?_)
      · skip
        obtain ⟨j, hj, hj2, rfl⟩ := inB_t h42
        have hcj : (nI j).toNatClampNeg = j := nI_clamp hj2
        have h42 : inB (nI j) (g_pn T e2) = true := h42
        have hpp := vpt hI he2
        refine ZV_aload_n (n := 54) dX11_heard_53 rfl rfl rfl ?_
        refine ZV_aload_n (n := 55) dX11_heard_54 rfl rfl rfl ?_
        refine ZV_getRv (n := 58) dX11_heard_55 fl_X11_162 rfl rfl rfl (cf_ek hG e2 he2).1 (cf_eo hG e2 he2) ?_
        refine ZV_getRv (n := 61) dX11_heard_58 fl_X11_210 rfl rfl rfl (cf_vk hG (g_vo T e2) hvo2).1 (cf_vi hG (g_vo T e2) hvo2) ?_
        refine ZV_aload_n (n := 62) dX11_heard_61 rfl rfl rfl ?_
        refine ZV_getRv (n := 65) dX11_heard_62 fl_X11_200 rfl rfl rfl (cf_ek hG e2 he2).1 (cf_ep hG e2 he2) ?_
        refine ZV_iload_n (n := 66) dX11_heard_65 rfl rfl rfl ?_
        refine ZV_ialdv (j := j) (n := 67) dX11_heard_66 rfl rfl (cf_ek hG e2 he2).2.1 rfl (pitch_len (ti_pnc hI _ he2) hpn2 hj) (cf_pi hG e2 j he2 hj) ?_
        refine call_soundOf (k := g_pk T (g_vo T e2 / 3)) (ti_pk hI _ hpp) (cf_pk hG _ hpp).1 rfl dX11_heard_67 (Nat.le_of_ble_eq_true rfl) (Nat.le_of_ble_eq_true rfl) rfl ?_
        rw [cf_pas hG _ hpp]
        refine ZV_gen (P := fun τ => cG c B τ (h_tr T (g_tr T + trP (g_pk T (g_vo T e2 / 3)))) (j_as K (va_up (k_as K) (g_vo T e2 / 3) (k_as K (g_vo T e2 / 3) + trP (g_pk T (g_vo T e2 / 3)))))) (cG_tr (U_as hG hpp _) _) (fun σ hG => ?_)
        have hK := kI_tr hK hpp (trP (g_pk T (g_vo T e2 / 3)))
        have hI := tI_tr hI (g_tr T + trP (g_pk T (g_vo T e2 / 3)))
        refine ZV_aload_n (n := 71) dX11_heard_70 rfl rfl rfl ?_
        refine ZV_aload_n (n := 72) dX11_heard_71 rfl rfl rfl ?_
        refine call_X11_217 (e_raiseOf hG hI hK he2 ht2) rfl dX11_heard_72 rfl (cf_sh hG :).1 (Nat.le_of_ble_eq_true rfl) (Nat.le_of_ble_eq_true rfl) rfl (fun r9 σ9 hp9 => ?_)
        obtain ⟨rfl, hs9⟩ := hp9
        subst σ9
        refine ZV_iadd (n := 76) dX11_heard_75 rfl ?_
        refine call_X11_98 (e_done hG _) rfl dX11_heard_76 rfl (cf_sh hG :).1 (Nat.le_of_ble_eq_true rfl) (Nat.le_of_ble_eq_true rfl) rfl (fun r9 σ9 hp9 => ?_)
        obtain ⟨rfl, hG⟩ := hp9
        refine ZV_iret dX11_heard_79 rfl ?_
        exact zlC (v := sOk (h_tr T (g_tr T + trP (g_pk T (g_vo T e2 / 3)))) (hdP T e2 j)) (by simp [sp_heard, hE2, hc2, h24, h42, hcj]) rfl ⟨B, _, hG, kI_e hK ⟨rfl, rfl, rfl, rfl, rfl, rfl, rfl, rfl, rfl, rfl, rfl, rfl, rfl, rfl, rfl, rfl, rfl, rfl, rfl, rfl⟩⟩
      · skip
        refine ZV_aload_n (n := 46) dX11_heard_45 rfl rfl rfl ?_
        refine ZV_sipush (v := -1000) (n := 49) dX11_heard_46 rfl rfl ?_
        refine call_X11_98 (e_done hG _) rfl dX11_heard_49 rfl (cf_sh hG :).1 (Nat.le_of_ble_eq_true rfl) (Nat.le_of_ble_eq_true rfl) rfl (fun r9 σ9 hp9 => ?_)
        obtain ⟨rfl, hG⟩ := hp9
        refine ZV_iret dX11_heard_52 rfl ?_
        exact zlC (v := sOk (T) (-1000)) (by simp [sp_heard, hE2, hc2, h24, h42]) rfl ⟨B, K, hG, kI_e hK ⟨rfl, rfl, rfl, rfl, rfl, rfl, rfl, rfl, rfl, rfl, rfl, rfl, rfl, rfl, rfl, rfl, rfl, rfl, rfl, rfl⟩⟩
    · skip
      refine ZV_aload_n (n := 28) dX11_heard_27 rfl rfl rfl ?_
      refine ZV_bipush (v := -13) (n := 30) dX11_heard_28 rfl rfl ?_
      refine ZV_sipush (v := -2001) (n := 33) dX11_heard_30 rfl rfl ?_
      refine call_X11_207 (e_failTelling hG (-13) _ 2 (by decide) rfl) rfl dX11_heard_33 rfl (cf_sh hG :).1 (Nat.le_of_ble_eq_true rfl) (Nat.le_of_ble_eq_true rfl) rfl (fun r9 σ9 hp9 => ?_)
      obtain ⟨rfl, hG⟩ := hp9
      refine ZV_iret dX11_heard_36 rfl ?_
      exact zlC (v := sFl T 2 (-13) (-2001)) (by simp [sp_heard, hE2, hc2, h24]) rfl ⟨B, K, hG, kI_e hK ⟨rfl, rfl, rfl, rfl, rfl, rfl, rfl, rfl, rfl, rfl, rfl, rfl, rfl, rfl, rfl, rfl, rfl, rfl, rfl, rfl⟩⟩
set_option maxHeartbeats 4000000 in
set_option maxRecDepth 100000 in
theorem q_asks {c : Nat} {σ : ZS} {T : TS} (hR : cR c σ T) (hI : tI T) (p w q : Int32) : ZC M_X11_asks [Ar (some c), Ai p, Ai w, Ai q] σ (fun y0 τ0 => y0 = some (Ai (sp_asks T p w q).1) ∧ cR c τ0 (sp_asks T p w q).2) := by
  obtain ⟨B, K, hG, hK⟩ := hR
  have hbd := cf_bd hG
  refine ZC_of (ls := [some (Ar (some c)), some (Ai p), some (Ai w), some (Ai q), none]) (by decide) (Nat.le_of_ble_eq_true rfl) rfl ?_
  refine ZV_iload_n (n := 1) dX11_asks_0 rfl rfl rfl ?_
  refine ZV_if_lt (tgt := 12) (n := 4) dX11_asks_1 (by decide) rfl (fun h1 => ?_) (fun h1 => ?_)
  · skip
    refine ZV_aload_n (n := 13) dX11_asks_12 rfl rfl rfl ?_
    refine ZV_bipush (v := -2) (n := 15) dX11_asks_13 rfl rfl ?_
    refine ZV_sipush (v := -2000) (n := 18) dX11_asks_15 rfl rfl ?_
    refine call_X11_203 (e_refuseTelling hG _ _) rfl dX11_asks_18 rfl (cf_sh hG :).1 (Nat.le_of_ble_eq_true rfl) (Nat.le_of_ble_eq_true rfl) rfl (fun r9 σ9 hp9 => ?_)
    obtain ⟨rfl, hG⟩ := hp9
    refine ZV_iret dX11_asks_21 rfl ?_
    have hi : inB p (g_np T) = false := inB_lt0 _ h1
    exact zlC (v := (-2000, h_su T (-2))) (by simp [sp_asks, hi]) rfl ⟨B, K, hG, kI_e hK ⟨rfl, rfl, rfl, rfl, rfl, rfl, rfl, rfl, rfl, rfl, rfl, rfl, rfl, rfl, rfl, rfl, rfl, rfl, rfl, rfl⟩⟩
  · skip
    refine ZV_iload_n (n := 5) dX11_asks_4 rfl rfl rfl ?_
    refine ZV_aload_n (n := 6) dX11_asks_5 rfl rfl rfl ?_
    refine ZV_getIv (n := 9) dX11_asks_6 fl_X11_15 rfl rfl rfl (cf_sh hG :).1 (cf_np hG :) ?_
    refine ZV_icmp_lt (tgt := 22) (n := 12) dX11_asks_9 (by decide) rfl (fun h9 => ?_) (fun h9 => ?_)
    · skip
      have hi := inB_ok (by omega) h1 h9
      obtain ⟨j, hj, hj2, rfl⟩ := inB_t hi
      have hcj : (nI j).toNatClampNeg = j := nI_clamp hj2
      refine ZV_aload_n (n := 23) dX11_asks_22 rfl rfl rfl ?_
      refine ZV_getRv (n := 26) dX11_asks_23 fl_X11_11 rfl rfl rfl (cf_sh hG :).1 (ca_parts (cf_sh hG :)) ?_
      refine ZV_iload_n (n := 27) dX11_asks_26 rfl rfl rfl ?_
      refine ZV_aaldv (c0 := 0) (j := j) (n := 28) dX11_asks_27 rfl (by decide) rfl (ck_parts (cf_sh hG :)) rfl (by omega) (cf_pa hG j (by omega)) ?_
      refine ZV_astore_4 (n := 30) dX11_asks_28 rfl (Nat.le_of_ble_eq_true rfl) rfl ?_
      refine ZV_iload_n (n := 31) dX11_asks_30 rfl rfl rfl ?_
      by_cases h31_0 : w = nI 0
      · subst h31_0
        refine ZV_tableIn (tgt := 56) dX11_asks_31 (by decide) (by decide) rfl (by decide) ?_
        refine ZV_aload_n (n := 57) dX11_asks_56 rfl rfl rfl ?_
        refine ZV_aload (n := 59) dX11_asks_57 rfl rfl ?_
        refine ZV_iload_n (n := 60) dX11_asks_59 rfl rfl rfl ?_
        refine call_soundOf (k := g_pk T j) (ti_pk hI _ hj) (cf_pk hG _ hj).1 rfl dX11_asks_60 (Nat.le_of_ble_eq_true rfl) (Nat.le_of_ble_eq_true rfl) rfl ?_
        rw [cf_pas hG _ hj]
        refine ZV_gen (P := fun τ => cG c B τ (h_tr T (g_tr T + trP (g_pk T j))) (j_as K (va_up (k_as K) j (k_as K j + trP (g_pk T j))))) (cG_tr (U_as hG hj _) _) (fun σ hG => ?_)
        have hK := kI_tr hK hj (trP (g_pk T j))
        have hI := tI_tr hI (g_tr T + trP (g_pk T j))
        refine call_X11_98 (e_done hG _) rfl dX11_asks_63 rfl (cf_sh hG :).1 (Nat.le_of_ble_eq_true rfl) (Nat.le_of_ble_eq_true rfl) rfl (fun r9 σ9 hp9 => ?_)
        obtain ⟨rfl, hG⟩ := hp9
        refine ZV_iret dX11_asks_66 rfl ?_
        exact zlC (v := sOk (h_tr T (g_tr T + trP (g_pk T j))) (sdP (g_pk T j) q)) (by rw [sp_asks, if_pos ⟨hi, rfl⟩]; simp only [hcj]; rfl) rfl ⟨B, _, hG, kI_e hK ⟨rfl, rfl, rfl, rfl, rfl, rfl, rfl, rfl, rfl, rfl, rfl, rfl, rfl, rfl, rfl, rfl, rfl, rfl, rfl, rfl⟩⟩
      by_cases h31_1 : w = nI 1
      · subst h31_1
        refine ZV_tableIn (tgt := 67) dX11_asks_31 (by decide) (by decide) rfl (by decide) ?_
        refine ZV_aload_n (n := 68) dX11_asks_67 rfl rfl rfl ?_
        refine ZV_aload (n := 70) dX11_asks_68 rfl rfl ?_
        refine call_least (k := g_pk T j) (ti_pk hI _ hj) (cf_pk hG _ hj).1 rfl dX11_asks_70 (Nat.le_of_ble_eq_true rfl) (Nat.le_of_ble_eq_true rfl) rfl ?_
        rw [cf_pas hG _ hj]
        refine ZV_gen (P := fun τ => cG c B τ (h_tr T (g_tr T + leT (g_pk T j))) (j_as K (va_up (k_as K) j (k_as K j + leT (g_pk T j))))) (cG_tr (U_as hG hj _) _) (fun σ hG => ?_)
        have hK := kI_tr hK hj (leT (g_pk T j))
        have hI := tI_tr hI (g_tr T + leT (g_pk T j))
        refine call_X11_98 (e_done hG _) rfl dX11_asks_73 rfl (cf_sh hG :).1 (Nat.le_of_ble_eq_true rfl) (Nat.le_of_ble_eq_true rfl) rfl (fun r9 σ9 hp9 => ?_)
        obtain ⟨rfl, hG⟩ := hp9
        refine ZV_iret dX11_asks_76 rfl ?_
        exact zlC (v := sOk (h_tr T (g_tr T + leT (g_pk T j))) (nI (leP (g_pk T j)))) (by rw [sp_asks, if_pos ⟨hi, rfl⟩]; simp only [hcj]; rfl) rfl ⟨B, _, hG, kI_e hK ⟨rfl, rfl, rfl, rfl, rfl, rfl, rfl, rfl, rfl, rfl, rfl, rfl, rfl, rfl, rfl, rfl, rfl, rfl, rfl, rfl⟩⟩
      by_cases h31_2 : w = nI 2
      · subst h31_2
        refine ZV_tableIn (tgt := 77) dX11_asks_31 (by decide) (by decide) rfl (by decide) ?_
        refine ZV_aload_n (n := 78) dX11_asks_77 rfl rfl rfl ?_
        refine ZV_aload (n := 80) dX11_asks_78 rfl rfl ?_
        refine call_most (k := g_pk T j) (ti_pk hI _ hj) (cf_pk hG _ hj).1 rfl dX11_asks_80 (Nat.le_of_ble_eq_true rfl) (Nat.le_of_ble_eq_true rfl) rfl ?_
        refine call_X11_98 (e_done hG _) rfl dX11_asks_83 rfl (cf_sh hG :).1 (Nat.le_of_ble_eq_true rfl) (Nat.le_of_ble_eq_true rfl) rfl (fun r9 σ9 hp9 => ?_)
        obtain ⟨rfl, hG⟩ := hp9
        refine ZV_iret dX11_asks_86 rfl ?_
        exact zlC (v := sOk T (nI (moP (g_pk T j)))) (by rw [sp_asks, if_pos ⟨hi, rfl⟩]; simp only [hcj]; rfl) rfl ⟨B, _, hG, kI_e hK ⟨rfl, rfl, rfl, rfl, rfl, rfl, rfl, rfl, rfl, rfl, rfl, rfl, rfl, rfl, rfl, rfl, rfl, rfl, rfl, rfl⟩⟩
      have g31_0 := zne_toInt h31_0 (by decide)
      have g31_1 := zne_toInt h31_1 (by decide)
      have g31_2 := zne_toInt h31_2 (by decide)
      refine ZV_tableOut (tgt := 87) dX11_asks_31 (by omega) (by decide) ?_
      have hw9 : inB w 3 = false := decide_eq_false (by omega)
      refine ZV_aload_n (n := 88) dX11_asks_87 rfl rfl rfl ?_
      refine ZV_bipush (v := -2) (n := 90) dX11_asks_88 rfl rfl ?_
      refine ZV_sipush (v := -2000) (n := 93) dX11_asks_90 rfl rfl ?_
      refine call_X11_203 (e_refuseTelling hG _ _) rfl dX11_asks_93 rfl (cf_sh hG :).1 (Nat.le_of_ble_eq_true rfl) (Nat.le_of_ble_eq_true rfl) rfl (fun r9 σ9 hp9 => ?_)
      obtain ⟨rfl, hG⟩ := hp9
      refine ZV_iret dX11_asks_96 rfl ?_
      exact zlC (v := (-2000, h_su T (-2))) (by simp [sp_asks, hw9]) rfl ⟨B, K, hG, kI_e hK ⟨rfl, rfl, rfl, rfl, rfl, rfl, rfl, rfl, rfl, rfl, rfl, rfl, rfl, rfl, rfl, rfl, rfl, rfl, rfl, rfl⟩⟩
    · skip
      refine ZV_aload_n (n := 13) dX11_asks_12 rfl rfl rfl ?_
      refine ZV_bipush (v := -2) (n := 15) dX11_asks_13 rfl rfl ?_
      refine ZV_sipush (v := -2000) (n := 18) dX11_asks_15 rfl rfl ?_
      refine call_X11_203 (e_refuseTelling hG _ _) rfl dX11_asks_18 rfl (cf_sh hG :).1 (Nat.le_of_ble_eq_true rfl) (Nat.le_of_ble_eq_true rfl) rfl (fun r9 σ9 hp9 => ?_)
      obtain ⟨rfl, hG⟩ := hp9
      refine ZV_iret dX11_asks_21 rfl ?_
      have hi : inB p (g_np T) = false := inB_ge (by omega) h9
      exact zlC (v := (-2000, h_su T (-2))) (by simp [sp_asks, hi]) rfl ⟨B, K, hG, kI_e hK ⟨rfl, rfl, rfl, rfl, rfl, rfl, rfl, rfl, rfl, rfl, rfl, rfl, rfl, rfl, rfl, rfl, rfl, rfl, rfl, rfl⟩⟩
theorem ZV_trk {M : ZM} {post : Option Av → ZS → Prop} {pc n : Nat} {ls : Zl} {st : List Av} {σ : ZS} {kc ks : Nat} {idx k b : Nat} {w : Int64} (hd : decode (zmc M) pc = .ok (.getfield 398, 3)) (hn : pc + 3 = n) (hk5 : k ≤ 5) (hk : zk σ b = (1, icl k)) (hv : zL σ 448 b = w) (hown : (zmy M).cls = RX11) (kk : ZV M post n ls (Al w :: st) σ kc ks) : ZV M post pc ls (Ar (some b) :: st) σ kc ks := by
  have h6 : k = 0 ∨ k = 1 ∨ k = 2 ∨ k = 3 ∨ k = 4 ∨ k = 5 := by omega
  rcases h6 with rfl | rfl | rfl | rfl | rfl | rfl
  · exact ZV_getLv (ci := 7) hd (by rw [hown]; exact fl_X11_398_7) rfl hn rfl hk hv kk
  · exact ZV_getLv (ci := 5) hd (by rw [hown]; exact fl_X11_398_5) rfl hn rfl hk hv kk
  · exact ZV_getLv (ci := 0) hd (by rw [hown]; exact fl_X11_398_0) rfl hn rfl hk hv kk
  · exact ZV_getLv (ci := 3) hd (by rw [hown]; exact fl_X11_398_3) rfl hn rfl hk hv kk
  · exact ZV_getLv (ci := 6) hd (by rw [hown]; exact fl_X11_398_6) rfl hn rfl hk hv kk
  · exact ZV_getLv (ci := 1) hd (by rw [hown]; exact fl_X11_398_1) rfl hn rfl hk hv kk
set_option maxHeartbeats 4000000 in
set_option maxRecDepth 100000 in
theorem q_trace {c : Nat} {σ : ZS} {T : TS} (hR : cR c σ T) (hI : tI T)  : ZC M_X11_trace [Ar (some c)] σ (fun y0 τ0 => y0 = some (Al (g_tr T)) ∧ cR c τ0 T) := by
  obtain ⟨B, K, hG, hK⟩ := hR
  have hbd := cf_bd hG
  refine ZC_of (ls := [some (Ar (some c)), none, none, none]) (by decide) (Nat.le_of_ble_eq_true rfl) rfl ?_
  have loop : ∀ (n9 : Nat) (i : Nat), g_np T - i < n9 → i ≤ g_np T → ZV M_X11_trace (fun y0 τ0 => y0 = some (Al (g_tr T)) ∧ cR c τ0 T) 4 [some (Ar (some c)), some (Al (asF (k_as K) i)), none, some (Ai (nI i))] [] σ (zmC M_X11_trace) (zmS M_X11_trace) := by
    intro n9
    induction n9 with
    | zero => intro i hme; exact absurd hme (Nat.not_lt_zero _)
    | succ n9 ih =>
      intro i hme hi
      refine ZV_iload_n (n := 5) dX11_trace_4 rfl rfl rfl ?_
      refine ZV_aload_n (n := 6) dX11_trace_5 rfl rfl rfl ?_
      refine ZV_getIv (n := 9) dX11_trace_6 fl_X11_15 rfl rfl rfl (cf_sh hG :).1 (cf_np hG :) ?_
      refine ZV_icmp_geN (tgt := 30) (n := 12) dX11_trace_9 (by decide) rfl (by omega) (by omega) (fun h9 => ?_) (fun h9 => ?_)
      · skip
        refine ZV_lload_n (n := 31) dX11_trace_30 rfl rfl rfl ?_
        refine ZV_lret dX11_trace_31 rfl ?_
        obtain rfl : i = g_np T := by omega
        exact ⟨by rw [ki_as hK], B, K, hG, hK⟩
      · skip
        refine ZV_lload_n (n := 13) dX11_trace_12 rfl rfl rfl ?_
        refine ZV_aload_n (n := 14) dX11_trace_13 rfl rfl rfl ?_
        refine ZV_getRv (n := 17) dX11_trace_14 fl_X11_11 rfl rfl rfl (cf_sh hG :).1 (ca_parts (cf_sh hG :)) ?_
        refine ZV_iload_n (n := 18) dX11_trace_17 rfl rfl rfl ?_
        refine ZV_aaldv (c0 := 0) (j := i) (n := 19) dX11_trace_18 rfl (by decide) rfl (ck_parts (cf_sh hG :)) rfl (by omega) (cf_pa hG i (by omega)) ?_
        have hpk := cf_pk hG i (by omega)
        have hp5 := ti_pk hI i (by omega)
        have hpa := cf_pas hG i (by omega)
        have h6 : g_pk T i = 0 ∨ g_pk T i = 1 ∨ g_pk T i = 2 ∨ g_pk T i = 3 ∨ g_pk T i = 4 ∨ g_pk T i = 5 := by omega
        refine ZV_trk (idx := 398) (k := g_pk T i) dX11_trace_19 rfl hp5 hpk.1 hpa rfl ?_
        refine ZV_ladd (n := 23) dX11_trace_22 rfl ?_
        refine ZV_lstore_1 (n := 24) dX11_trace_23 rfl (Nat.le_of_ble_eq_true rfl) rfl ?_
        refine ZV_iincN_3 (v := 1) (n := 27) dX11_trace_24 rfl rfl (Nat.le_of_ble_eq_true rfl) rfl ?_
        refine ZV_goto (tgt := 4) dX11_trace_27 (by decide) ?_
        exact ih (i + 1) (by omega) (by omega)
  refine ZV_lconst (v := lN 0) (n := 1) dX11_trace_0 rfl rfl ?_
  refine ZV_lstore_1 (n := 2) dX11_trace_1 rfl (Nat.le_of_ble_eq_true rfl) rfl ?_
  refine ZV_iconst (v := nI 0) (n := 3) dX11_trace_2 rfl rfl ?_
  refine ZV_istore_3 (n := 4) dX11_trace_3 rfl (Nat.le_of_ble_eq_true rfl) rfl ?_
  exact loop _ 0 (Nat.lt_succ_self _) (Nat.zero_le _)
set_option maxHeartbeats 4000000 in
set_option maxRecDepth 100000 in
theorem q_finding {c : Nat} {σ : ZS} {T : TS} (hR : cR c σ T) (hI : tI T) (i w : Int32) : ZC M_X11_finding [Ar (some c), Ai i, Ai w] σ (fun y0 τ0 => y0 = some (Ai (sp_finding T i w).1) ∧ cR c τ0 (sp_finding T i w).2) := by
  obtain ⟨B, K, hG, hK⟩ := hR
  have hbd := cf_bd hG
  have hfo := ti_fo hI
  refine ZC_of (ls := [some (Ar (some c)), some (Ai i), some (Ai w)]) (by decide) (Nat.le_of_ble_eq_true rfl) rfl ?_
  refine ZV_iload_n (n := 1) dX11_finding_0 rfl rfl rfl ?_
  refine ZV_if_lt (tgt := 9) (n := 4) dX11_finding_1 (by decide) rfl (fun h1 => ?_) (fun h1 => ?_)
  · skip
    refine ZV_aload_n (n := 10) dX11_finding_9 rfl rfl rfl ?_
    refine ZV_bipush (v := -2) (n := 12) dX11_finding_10 rfl rfl ?_
    refine call_X11_87 (e_refuse hG _) rfl dX11_finding_12 rfl (cf_sh hG :).1 (Nat.le_of_ble_eq_true rfl) (Nat.le_of_ble_eq_true rfl) rfl (fun r9 σ9 hp9 => ?_)
    obtain ⟨rfl, hG⟩ := hp9
    refine ZV_iret dX11_finding_15 rfl ?_
    have hi : inB w 3 = false := inB_lt0 _ h1
    exact zlC (v := sNo T (-2)) (by simp [sp_finding, hi]) rfl ⟨B, K, hG, kI_e hK ⟨rfl, rfl, rfl, rfl, rfl, rfl, rfl, rfl, rfl, rfl, rfl, rfl, rfl, rfl, rfl, rfl, rfl, rfl, rfl, rfl⟩⟩
  · skip
    refine ZV_iload_n (n := 5) dX11_finding_4 rfl rfl rfl ?_
    refine ZV_iconst (v := nI 3) (n := 6) dX11_finding_5 rfl rfl ?_
    refine ZV_icmp_lt (tgt := 16) (n := 9) dX11_finding_6 (by decide) rfl (fun h6 => ?_) (fun h6 => ?_)
    · skip
      have hw := inB_ok (by decide) h1 h6
      obtain ⟨q, hq, hq2, rfl⟩ := inB_t hw
      have hcq : (nI q).toNatClampNeg = q := nI_clamp hq2
      refine ZV_iload_n (n := 17) dX11_finding_16 rfl rfl rfl ?_
      refine ZV_if_lt (tgt := 33) (n := 20) dX11_finding_17 (by decide) rfl (fun h17 => ?_) (fun h17 => ?_)
      · skip
        refine ZV_aload_n (n := 34) dX11_finding_33 rfl rfl rfl ?_
        refine ZV_iconst (v := -1) (n := 35) dX11_finding_34 rfl rfl ?_
        refine call_X11_98 (e_done hG _) rfl dX11_finding_35 rfl (cf_sh hG :).1 (Nat.le_of_ble_eq_true rfl) (Nat.le_of_ble_eq_true rfl) rfl (fun r9 σ9 hp9 => ?_)
        obtain ⟨rfl, hG⟩ := hp9
        refine ZV_iret dX11_finding_38 rfl ?_
        have hi : inB i (if g_fo T < 100 then g_fo T else 100) = false := inB_lt0 _ h17
        exact zlC (v := sOk T (-1)) (by simp [sp_finding, hw, hi]) rfl ⟨B, K, hG, kI_e hK ⟨rfl, rfl, rfl, rfl, rfl, rfl, rfl, rfl, rfl, rfl, rfl, rfl, rfl, rfl, rfl, rfl, rfl, rfl, rfl, rfl⟩⟩
      · skip
        refine ZV_iload_n (n := 21) dX11_finding_20 rfl rfl rfl ?_
        refine ZV_aload_n (n := 22) dX11_finding_21 rfl rfl rfl ?_
        refine ZV_getIv (n := 25) dX11_finding_22 fl_X11_69 rfl rfl rfl (cf_sh hG :).1 (cf_fo hG :) ?_
        refine ZV_bipush (v := nI 100) (n := 27) dX11_finding_25 rfl rfl ?_
        refine ZV_minI (n := 30) dX11_finding_27 rfl wd_4_7 (Nat.le_of_ble_eq_true rfl) (Nat.le_of_ble_eq_true rfl) ?_
        rw [min100 hfo]
        refine ZV_icmp_lt (tgt := 39) (n := 33) dX11_finding_30 (by decide) rfl (fun h30 => ?_) (fun h30 => ?_)
        · skip
          have hi := inB_ok (by split <;> omega) h17 h30
          obtain ⟨j, hj, hj2, rfl⟩ := inB_t hi
          have hcj : (nI j).toNatClampNeg = j := nI_clamp hj2
          have hj3 : j < 100 := by revert hj; split <;> omega
          refine ZV_aload_n (n := 40) dX11_finding_39 rfl rfl rfl ?_
          refine ZV_aload_n (n := 41) dX11_finding_40 rfl rfl rfl ?_
          refine ZV_getRv (n := 44) dX11_finding_41 fl_X11_66 rfl rfl rfl (cf_sh hG :).1 (ca_findingRow (cf_sh hG :)) ?_
          refine ZV_iload_n (n := 45) dX11_finding_44 rfl rfl rfl ?_
          refine ZV_iconst (v := nI 3) (n := 46) dX11_finding_45 rfl rfl ?_
          refine ZV_imulN (n := 47) dX11_finding_46 rfl ?_
          refine ZV_iload_n (n := 48) dX11_finding_47 rfl rfl rfl ?_
          refine ZV_iaddN (n := 49) dX11_finding_48 rfl ?_
          refine ZV_topi (congrArg nI (show j * 3 + q = 3 * j + q by omega)) ?_
          refine ZV_ialdv (j := 3 * j + q) (n := 50) dX11_finding_49 rfl rfl (ck_findingRow (cf_sh hG :)) rfl (by omega) (cf_fi hG (3 * j + q) (by omega)) ?_
          refine call_X11_98 (e_done hG _) rfl dX11_finding_50 rfl (cf_sh hG :).1 (Nat.le_of_ble_eq_true rfl) (Nat.le_of_ble_eq_true rfl) rfl (fun r9 σ9 hp9 => ?_)
          obtain ⟨rfl, hG⟩ := hp9
          refine ZV_iret dX11_finding_53 rfl ?_
          exact zlC (v := sOk T (g_fi T (3 * j + q))) (by simp [sp_finding, hw, hcq, hi, hcj]) rfl ⟨B, K, hG, kI_e hK ⟨rfl, rfl, rfl, rfl, rfl, rfl, rfl, rfl, rfl, rfl, rfl, rfl, rfl, rfl, rfl, rfl, rfl, rfl, rfl, rfl⟩⟩
        · skip
          refine ZV_aload_n (n := 34) dX11_finding_33 rfl rfl rfl ?_
          refine ZV_iconst (v := -1) (n := 35) dX11_finding_34 rfl rfl ?_
          refine call_X11_98 (e_done hG _) rfl dX11_finding_35 rfl (cf_sh hG :).1 (Nat.le_of_ble_eq_true rfl) (Nat.le_of_ble_eq_true rfl) rfl (fun r9 σ9 hp9 => ?_)
          obtain ⟨rfl, hG⟩ := hp9
          refine ZV_iret dX11_finding_38 rfl ?_
          have hi : inB i (if g_fo T < 100 then g_fo T else 100) = false := inB_ge (by split <;> omega) h30
          exact zlC (v := sOk T (-1)) (by simp [sp_finding, hw, hi]) rfl ⟨B, K, hG, kI_e hK ⟨rfl, rfl, rfl, rfl, rfl, rfl, rfl, rfl, rfl, rfl, rfl, rfl, rfl, rfl, rfl, rfl, rfl, rfl, rfl, rfl⟩⟩
    · skip
      refine ZV_aload_n (n := 10) dX11_finding_9 rfl rfl rfl ?_
      refine ZV_bipush (v := -2) (n := 12) dX11_finding_10 rfl rfl ?_
      refine call_X11_87 (e_refuse hG _) rfl dX11_finding_12 rfl (cf_sh hG :).1 (Nat.le_of_ble_eq_true rfl) (Nat.le_of_ble_eq_true rfl) rfl (fun r9 σ9 hp9 => ?_)
      obtain ⟨rfl, hG⟩ := hp9
      refine ZV_iret dX11_finding_15 rfl ?_
      have hi : inB w 3 = false := inB_ge (by decide) h6
      exact zlC (v := sNo T (-2)) (by simp [sp_finding, hi]) rfl ⟨B, K, hG, kI_e hK ⟨rfl, rfl, rfl, rfl, rfl, rfl, rfl, rfl, rfl, rfl, rfl, rfl, rfl, rfl, rfl, rfl, rfl, rfl, rfl, rfl⟩⟩
