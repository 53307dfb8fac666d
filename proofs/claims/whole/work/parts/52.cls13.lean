def kE (T S : TS) : Prop := g_np S = g_np T ∧ g_ev S = g_ev T ∧ g_th S = g_th T ∧ g_vo S = g_vo T ∧ g_pl S = g_pl T ∧ g_mn S = g_mn T ∧ g_te S = g_te T ∧ g_tt S = g_tt T ∧ g_tv S = g_tv T ∧ g_tf S = g_tf T ∧ g_tl S = g_tl T ∧ g_tn S = g_tn T ∧ g_tm S = g_tm T ∧ g_nb S = g_nb T ∧ g_bt S = g_bt T ∧ g_kd S = g_kd T ∧ g_va S = g_va T ∧ g_dt S = g_dt T ∧ g_ro S = g_ro T ∧ g_tr S = g_tr T
theorem tmF_e {T S : TS} (h : kE T S) (e : Nat) : ∀ t, tmF S e t = tmF T e t
  | 0 => by
    obtain ⟨h0, h1, h2, h3, h4, h5, h6, h7, h8, h9, h10, h11, h12, h13, h14, h15, h16, h17, h18, h19⟩ := h
    unfold tmF wrT
    rw [h15, h16, h17]
  | t + 1 => by
    have ih := tmF_e h e t
    obtain ⟨h0, h1, h2, h3, h4, h5, h6, h7, h8, h9, h10, h11, h12, h13, h14, h15, h16, h17, h18, h19⟩ := h
    rw [tmF, tmF, ih]
    unfold liB
    rw [h3, h4, h7, h8, h9, h10, h11, h12]
theorem tmT_e {T S : TS} (h : kE T S) (e : Nat) : tmT S e = tmT T e := by
  unfold tmT
  rw [tmF_e h, h.2.2.2.2.2.2.1]
theorem bgF_e {T S : TS} (h : kE T S) (v : Nat) : ∀ p, bgF S v p = bgF T v p
  | 0 => rfl
  | p + 1 => by
    rw [bgF, bgF, bgF_e h v p, tmT_e h, h.2.2.2.2.2.2.2.2.2.2.2.2.2.2.2.2.2.2.1]
theorem baF_e {T S : TS} (h : kE T S) : ∀ b, baF S b = baF T b
  | 0 => rfl
  | b + 1 => by rw [baF, baF, baF_e h b, h.2.2.2.2.2.2.2.2.2.2.2.2.2.2.1]
theorem boS_e {T S : TS} (h : kE T S) (t : Nat) : ∀ k b, boS S t k b = boS T t k b
  | 0, _ => rfl
  | k + 1, b => by rw [boS, boS, baF_e h, boS_e h t k]
theorem boF_e {T S : TS} (h : kE T S) (t : Nat) : boF S t = boF T t := by
  unfold boF
  rw [boS_e h, h.2.2.2.2.2.2.2.2.2.2.2.2.2.1]
theorem kI_e {T S : TS} {K : KS} (hK : kI T K) (h : kE T S) : kI S K := by
  have hb := bgF_e h
  have ht := tmT_e h
  have ha := baF_e h
  obtain ⟨h0, h1, h2, h3, h4, h5, h6, h7, h8, h9, h10, h11, h12, h13, h14, h15, h16, h17, h18, h19⟩ := h
  obtain ⟨k1, k2, k3, k4, k5, k6, k7⟩ := hK
  refine ⟨?_, ?_, ?_, ?_, ?_, ?_, ?_⟩
  · rw [h1, h2, h4]; exact k1
  · rw [h1, h2, h3, h4]; intro e he hte; rw [hb]; exact k2 e he hte
  · rw [h1, h2]; intro e he hte; rw [ht]; exact k3 e he hte
  · rw [h0, h5]; intro v hv; rw [hb]; exact k4 v hv
  · unfold kT szT; rw [h6, h7, h4, h9, h10]; exact k5
  · rw [h13]; intro b hb2; rw [ha]; exact k6 b hb2
  · rw [h0, h19]; exact k7
/-- the class at c holds the score T -/
def cR (c : Nat) (σ : ZS) (T : TS) : Prop := ∃ (B : Nat) (K : KS), cG c B σ T K ∧ kI T K
theorem zlC {c : Nat} {τ : ZS} {p v : Int32 × TS} {y : Option Av} (h : p = v) (hy : y = some (Ai v.1)) (hR : cR c τ v.2) : y = some (Ai p.1) ∧ cR c τ p.2 := by
  subst h
  exact ⟨hy, hR⟩
theorem zlCL {c : Nat} {τ : ZS} {p v : Int64 × TS} {y : Option Av} (h : p = v) (hy : y = some (Al v.1)) (hR : cR c τ v.2) : y = some (Al p.1) ∧ cR c τ p.2 := by
  subst h
  exact ⟨hy, hR⟩
theorem bg_lt {T : TS} (hI : tI T) (v p : Nat) (hp : p < g_mn T v) : bgF T v p < 9223372036854775808 := by
  have h1 := bgF_le hI v p
  have h2 := ti_mn hI v
  have h3 : 34443860000000000 * p ≤ 34443860000000000 * 40 := Nat.mul_le_mul_left _ (by omega)
  omega
set_option maxHeartbeats 4000000 in
set_option maxRecDepth 100000 in
theorem q_pitch {c : Nat} {σ : ZS} {T : TS} (hR : cR c σ T) (hI : tI T) (e i : Int32) : ZC M_X11_pitch [Ar (some c), Ai e, Ai i] σ (fun y0 τ0 => y0 = some (Ai (sp_pitch T e i).1) ∧ cR c τ0 (sp_pitch T e i).2) := by
  obtain ⟨B, K, hG, hK⟩ := hR
  have hbd := cf_bd hG
  refine ZC_of (ls := [some (Ar (some c)), some (Ai e), some (Ai i), none]) (by decide) (Nat.le_of_ble_eq_true rfl) rfl ?_
  refine ZV_aload_n (n := 1) dX11_pitch_0 rfl rfl rfl ?_
  refine ZV_iload_n (n := 2) dX11_pitch_1 rfl rfl rfl ?_
  refine call_X11_155 (e_eventOf hG _) rfl dX11_pitch_2 rfl (cf_sh hG :).1 (Nat.le_of_ble_eq_true rfl) (Nat.le_of_ble_eq_true rfl) rfl (fun r9 σ9 hp9 => ?_)
  obtain ⟨hs9, hp9⟩ := hp9
  subst σ9
  rcases hp9 with ⟨hv2, hr9⟩ | ⟨e2, he2, ht2, hn2, hr9⟩
  · skip
    subst hr9
    refine ZV_astore_3 (n := 6) dX11_pitch_5 rfl (Nat.le_of_ble_eq_true rfl) rfl ?_
    refine ZV_aload_n (n := 7) dX11_pitch_6 rfl rfl rfl ?_
    refine ZV_ifnonnull_n (tgt := 17) (n := 10) dX11_pitch_7 (by decide) rfl ?_
    refine ZV_aload_n (n := 11) dX11_pitch_10 rfl rfl rfl ?_
    refine ZV_bipush (v := -2) (n := 13) dX11_pitch_11 rfl rfl ?_
    refine call_X11_87 (e_refuse hG _) rfl dX11_pitch_13 rfl (cf_sh hG :).1 (Nat.le_of_ble_eq_true rfl) (Nat.le_of_ble_eq_true rfl) rfl (fun r9 σ9 hp9 => ?_)
    obtain ⟨rfl, hG⟩ := hp9
    refine ZV_iret dX11_pitch_16 rfl ?_
    exact zlC (v := sNo T (-2)) (by simp [sp_pitch, hv2]) rfl ⟨B, K, hG, kI_e hK ⟨rfl, rfl, rfl, rfl, rfl, rfl, rfl, rfl, rfl, rfl, rfl, rfl, rfl, rfl, rfl, rfl, rfl, rfl, rfl, rfl⟩⟩
  · skip
    subst hr9
    subst hn2
    have hE2 : evB T (nI e2) = true := evB_nI hI he2 ht2
    have hev2 := ti_ev hI
    have hkd2 := ti_kd hI _ he2
    have hpn2 := ti_pn hI e2
    have hpl2 := ki_pl hK _ he2 ht2
    have hpb2 := pl_b hI hK he2 ht2
    have hvo2 := ti_vo hI _ he2
    have hc2 : (nI e2).toNatClampNeg = e2 := nI_clamp (by omega)
    refine ZV_astore_3 (n := 6) dX11_pitch_5 rfl (Nat.le_of_ble_eq_true rfl) rfl ?_
    refine ZV_aload_n (n := 7) dX11_pitch_6 rfl rfl rfl ?_
    refine ZV_ifnonnull_s (tgt := 17) dX11_pitch_7 (by decide) ?_
    refine ZV_aload_n (n := 18) dX11_pitch_17 rfl rfl rfl ?_
    refine call_X11_193 (e_isNote hG he2 hkd2) rfl dX11_pitch_18 rfl (cf_ek hG e2 he2).1 (Nat.le_of_ble_eq_true rfl) (Nat.le_of_ble_eq_true rfl) rfl (fun r9 σ9 hp9 => ?_)
    obtain ⟨rfl, hs9⟩ := hp9
    subst σ9
    refine ZV_if_neB (tgt := 31) (n := 24) dX11_pitch_21 (by decide) rfl (fun h21 => ?_) (fun h21 => ?_)
    · skip
      refine ZV_aload_n (n := 32) dX11_pitch_31 rfl rfl rfl ?_
      refine ZV_aload_n (n := 33) dX11_pitch_32 rfl rfl rfl ?_
      refine ZV_iload_n (n := 34) dX11_pitch_33 rfl rfl rfl ?_
      refine call_X11_197 (e_hasPitchAt hG he2 hpn2 _) rfl dX11_pitch_34 rfl (cf_ek hG e2 he2).1 (Nat.le_of_ble_eq_true rfl) (Nat.le_of_ble_eq_true rfl) rfl (fun r9 σ9 hp9 => ?_)
      obtain ⟨rfl, hs9⟩ := hp9
      subst σ9
      refine ZV_if_eqB (tgt := 49) (n := 40) dX11_pitch_37 (by decide) rfl (fun h37 => ?_) (fun h37 => ?_)
      · skip
        refine ZV_iconst (v := -1) (n := 50) dX11_pitch_49 rfl rfl ?_
        refine call_X11_98 (e_done hG _) rfl dX11_pitch_50 rfl (cf_sh hG :).1 (Nat.le_of_ble_eq_true rfl) (Nat.le_of_ble_eq_true rfl) rfl (fun r9 σ9 hp9 => ?_)
        obtain ⟨rfl, hG⟩ := hp9
        refine ZV_iret dX11_pitch_53 rfl ?_
        exact zlC (v := sOk (T) (-1)) (by simp [sp_pitch, hE2, hc2, h21, h37]) rfl ⟨B, K, hG, kI_e hK ⟨rfl, rfl, rfl, rfl, rfl, rfl, rfl, rfl, rfl, rfl, rfl, rfl, rfl, rfl, rfl, rfl, rfl, rfl, rfl, rfl⟩⟩
      · skip
        obtain ⟨j, hj, hj2, rfl⟩ := inB_t h37
        have hcj : (nI j).toNatClampNeg = j := nI_clamp hj2
        refine ZV_aload_n (n := 41) dX11_pitch_40 rfl rfl rfl ?_
        refine ZV_getRv (n := 44) dX11_pitch_41 fl_X11_200 rfl rfl rfl (cf_ek hG e2 he2).1 (cf_ep hG e2 he2) ?_
        refine ZV_iload_n (n := 45) dX11_pitch_44 rfl rfl rfl ?_
        refine ZV_ialdv (j := j) (n := 46) dX11_pitch_45 rfl rfl (cf_ek hG e2 he2).2.1 rfl (pitch_len (ti_pnc hI _ he2) hpn2 hj) (cf_pi hG e2 j he2 hj) ?_
        refine ZV_goto (tgt := 50) dX11_pitch_46 (by decide) ?_
        refine call_X11_98 (e_done hG _) rfl dX11_pitch_50 rfl (cf_sh hG :).1 (Nat.le_of_ble_eq_true rfl) (Nat.le_of_ble_eq_true rfl) rfl (fun r9 σ9 hp9 => ?_)
        obtain ⟨rfl, hG⟩ := hp9
        refine ZV_iret dX11_pitch_53 rfl ?_
        exact zlC (v := sOk (T) (g_pi T e2 j)) (by simp [sp_pitch, hE2, hc2, h21, h37, hcj]) rfl ⟨B, K, hG, kI_e hK ⟨rfl, rfl, rfl, rfl, rfl, rfl, rfl, rfl, rfl, rfl, rfl, rfl, rfl, rfl, rfl, rfl, rfl, rfl, rfl, rfl⟩⟩
    · skip
      refine ZV_aload_n (n := 25) dX11_pitch_24 rfl rfl rfl ?_
      refine ZV_bipush (v := -13) (n := 27) dX11_pitch_25 rfl rfl ?_
      refine call_X11_180 (e_fail hG (-13) 2 (by decide) rfl) rfl dX11_pitch_27 rfl (cf_sh hG :).1 (Nat.le_of_ble_eq_true rfl) (Nat.le_of_ble_eq_true rfl) rfl (fun r9 σ9 hp9 => ?_)
      obtain ⟨rfl, hG⟩ := hp9
      refine ZV_iret dX11_pitch_30 rfl ?_
      exact zlC (v := sFl T 2 (-13) (-13)) (by simp [sp_pitch, hE2, hc2, h21]) rfl ⟨B, K, hG, kI_e hK ⟨rfl, rfl, rfl, rfl, rfl, rfl, rfl, rfl, rfl, rfl, rfl, rfl, rfl, rfl, rfl, rfl, rfl, rfl, rfl, rfl⟩⟩
set_option maxHeartbeats 4000000 in
set_option maxRecDepth 100000 in
theorem q_event {c : Nat} {σ : ZS} {T : TS} (hR : cR c σ T) (hI : tI T) (v p : Int32) : ZC M_X11_event [Ar (some c), Ai v, Ai p] σ (fun y0 τ0 => y0 = some (Ai (sp_event T v p).1) ∧ cR c τ0 (sp_event T v p).2) := by
  obtain ⟨B, K, hG, hK⟩ := hR
  have hbd := cf_bd hG
  refine ZC_of (ls := [some (Ar (some c)), some (Ai v), some (Ai p), none, none]) (by decide) (Nat.le_of_ble_eq_true rfl) rfl ?_
  refine ZV_aload_n (n := 1) dX11_event_0 rfl rfl rfl ?_
  refine ZV_iload_n (n := 2) dX11_event_1 rfl rfl rfl ?_
  refine call_X11_112 (e_voiceOf hG _) rfl dX11_event_2 rfl (cf_sh hG :).1 (Nat.le_of_ble_eq_true rfl) (Nat.le_of_ble_eq_true rfl) rfl (fun r9 σ9 hp9 => ?_)
  obtain ⟨hs9, hp9⟩ := hp9
  subst σ9
  rcases hp9 with ⟨hv2, hr9⟩ | ⟨v2, he2, hn2, hr9⟩
  · skip
    subst hr9
    refine ZV_astore_3 (n := 6) dX11_event_5 rfl (Nat.le_of_ble_eq_true rfl) rfl ?_
    refine ZV_aload_n (n := 7) dX11_event_6 rfl rfl rfl ?_
    refine ZV_ifnonnull_n (tgt := 17) (n := 10) dX11_event_7 (by decide) rfl ?_
    refine ZV_aload_n (n := 11) dX11_event_10 rfl rfl rfl ?_
    refine ZV_bipush (v := -2) (n := 13) dX11_event_11 rfl rfl ?_
    refine call_X11_87 (e_refuse hG _) rfl dX11_event_13 rfl (cf_sh hG :).1 (Nat.le_of_ble_eq_true rfl) (Nat.le_of_ble_eq_true rfl) rfl (fun r9 σ9 hp9 => ?_)
    obtain ⟨rfl, hG⟩ := hp9
    refine ZV_iret dX11_event_16 rfl ?_
    exact zlC (v := sNo T (-2)) (by simp [sp_event, hv2]) rfl ⟨B, K, hG, kI_e hK ⟨rfl, rfl, rfl, rfl, rfl, rfl, rfl, rfl, rfl, rfl, rfl, rfl, rfl, rfl, rfl, rfl, rfl, rfl, rfl, rfl⟩⟩
  · skip
    subst hr9
    subst hn2
    have hE2 : inB (nI v2) (3 * g_np T) = true := by rw [inB_nI (by omega)]; exact decide_eq_true he2
    have hmn2 := ti_mn hI v2
    have hc2 : (nI v2).toNatClampNeg = v2 := nI_clamp (by omega)
    refine ZV_astore_3 (n := 6) dX11_event_5 rfl (Nat.le_of_ble_eq_true rfl) rfl ?_
    refine ZV_aload_n (n := 7) dX11_event_6 rfl rfl rfl ?_
    refine ZV_ifnonnull_s (tgt := 17) dX11_event_7 (by decide) ?_
    refine ZV_aload_n (n := 18) dX11_event_17 rfl rfl rfl ?_
    refine ZV_iload_n (n := 19) dX11_event_18 rfl rfl rfl ?_
    refine call_X11_265 (e_eventAt hG he2 hmn2 _) rfl dX11_event_19 rfl (cf_vk hG v2 he2).1 (Nat.le_of_ble_eq_true rfl) (Nat.le_of_ble_eq_true rfl) rfl (fun r9 σ9 hp9 => ?_)
    obtain ⟨hs9, hp9⟩ := hp9
    subst σ9
    rcases hp9 with ⟨hw19, hr9⟩ | ⟨j19, hj19, hn19, hr9⟩
    · skip
      subst hr9
      refine ZV_astore_4 (n := 24) dX11_event_22 rfl (Nat.le_of_ble_eq_true rfl) rfl ?_
      refine ZV_aload_n (n := 25) dX11_event_24 rfl rfl rfl ?_
      refine ZV_aload (n := 27) dX11_event_25 rfl rfl ?_
      refine ZV_ifnonnull_n (tgt := 34) (n := 30) dX11_event_27 (by decide) rfl ?_
      refine ZV_iconst (v := -1) (n := 31) dX11_event_30 rfl rfl ?_
      refine ZV_goto (tgt := 39) dX11_event_31 (by decide) ?_
      refine call_X11_98 (e_done hG _) rfl dX11_event_39 rfl (cf_sh hG :).1 (Nat.le_of_ble_eq_true rfl) (Nat.le_of_ble_eq_true rfl) rfl (fun r9 σ9 hp9 => ?_)
      obtain ⟨rfl, hG⟩ := hp9
      refine ZV_iret dX11_event_42 rfl ?_
      exact zlC (v := sOk (T) (-1)) (by simp [sp_event, hE2, hc2, hw19]) rfl ⟨B, K, hG, kI_e hK ⟨rfl, rfl, rfl, rfl, rfl, rfl, rfl, rfl, rfl, rfl, rfl, rfl, rfl, rfl, rfl, rfl, rfl, rfl, rfl, rfl⟩⟩
    · skip
      subst hr9
      subst hn19
      have hro19 := ti_ro hI v2 j19 (by omega) hj19
      have hJ19 : inB (nI j19) (g_mn T v2) = true := by rw [inB_nI (by omega)]; exact decide_eq_true hj19
      have hcj19 : (nI j19).toNatClampNeg = j19 := nI_clamp (by omega)
      refine ZV_astore_4 (n := 24) dX11_event_22 rfl (Nat.le_of_ble_eq_true rfl) rfl ?_
      refine ZV_aload_n (n := 25) dX11_event_24 rfl rfl rfl ?_
      refine ZV_aload (n := 27) dX11_event_25 rfl rfl ?_
      refine ZV_ifnonnull_s (tgt := 34) dX11_event_27 (by decide) ?_
      refine ZV_aload (n := 36) dX11_event_34 rfl rfl ?_
      refine ZV_getIv (n := 39) dX11_event_36 fl_X11_152 rfl rfl rfl (cf_ek hG (g_ro T v2 j19) hro19.1).1 (cf_en hG (g_ro T v2 j19) hro19.1) ?_
      refine call_X11_98 (e_done hG _) rfl dX11_event_39 rfl (cf_sh hG :).1 (Nat.le_of_ble_eq_true rfl) (Nat.le_of_ble_eq_true rfl) rfl (fun r9 σ9 hp9 => ?_)
      obtain ⟨rfl, hG⟩ := hp9
      refine ZV_iret dX11_event_42 rfl ?_
      exact zlC (v := sOk (T) (nI (g_ro T v2 j19))) (by simp [sp_event, hE2, hc2, hJ19, hcj19]) rfl ⟨B, K, hG, kI_e hK ⟨rfl, rfl, rfl, rfl, rfl, rfl, rfl, rfl, rfl, rfl, rfl, rfl, rfl, rfl, rfl, rfl, rfl, rfl, rfl, rfl⟩⟩
set_option maxHeartbeats 4000000 in
set_option maxRecDepth 100000 in
theorem q_tie {c : Nat} {σ : ZS} {T : TS} (hR : cR c σ T) (hI : tI T) (e : Int32) (b : Bool) : ZC M_X11_tie [Ar (some c), Ai e, Ai (bI b)] σ (fun y0 τ0 => y0 = some (Ai (sp_tie T e b).1) ∧ cR c τ0 (sp_tie T e b).2) := by
  obtain ⟨B, K, hG, hK⟩ := hR
  have hbd := cf_bd hG
  refine ZC_of (ls := [some (Ar (some c)), some (Ai e), some (Ai (bI b)), none, none]) (by decide) (Nat.le_of_ble_eq_true rfl) rfl ?_
  refine ZV_aload_n (n := 1) dX11_tie_0 rfl rfl rfl ?_
  refine ZV_iload_n (n := 2) dX11_tie_1 rfl rfl rfl ?_
  refine call_X11_155 (e_eventOf hG _) rfl dX11_tie_2 rfl (cf_sh hG :).1 (Nat.le_of_ble_eq_true rfl) (Nat.le_of_ble_eq_true rfl) rfl (fun r9 σ9 hp9 => ?_)
  obtain ⟨hs9, hp9⟩ := hp9
  subst σ9
  rcases hp9 with ⟨hv2, hr9⟩ | ⟨e2, he2, ht2, hn2, hr9⟩
  · skip
    subst hr9
    refine ZV_astore_3 (n := 6) dX11_tie_5 rfl (Nat.le_of_ble_eq_true rfl) rfl ?_
    refine ZV_aload_n (n := 7) dX11_tie_6 rfl rfl rfl ?_
    refine ZV_ifnonnull_n (tgt := 17) (n := 10) dX11_tie_7 (by decide) rfl ?_
    refine ZV_aload_n (n := 11) dX11_tie_10 rfl rfl rfl ?_
    refine ZV_bipush (v := -2) (n := 13) dX11_tie_11 rfl rfl ?_
    refine call_X11_87 (e_refuse hG _) rfl dX11_tie_13 rfl (cf_sh hG :).1 (Nat.le_of_ble_eq_true rfl) (Nat.le_of_ble_eq_true rfl) rfl (fun r9 σ9 hp9 => ?_)
    obtain ⟨rfl, hG⟩ := hp9
    refine ZV_iret dX11_tie_16 rfl ?_
    exact zlC (v := sNo T (-2)) (by simp [sp_tie, hv2]) rfl ⟨B, K, hG, kI_e hK ⟨rfl, rfl, rfl, rfl, rfl, rfl, rfl, rfl, rfl, rfl, rfl, rfl, rfl, rfl, rfl, rfl, rfl, rfl, rfl, rfl⟩⟩
  · skip
    subst hr9
    subst hn2
    have hE2 : evB T (nI e2) = true := evB_nI hI he2 ht2
    have hev2 := ti_ev hI
    have hkd2 := ti_kd hI _ he2
    have hpn2 := ti_pn hI e2
    have hpl2 := ki_pl hK _ he2 ht2
    have hpb2 := pl_b hI hK he2 ht2
    have hvo2 := ti_vo hI _ he2
    have hc2 : (nI e2).toNatClampNeg = e2 := nI_clamp (by omega)
    refine ZV_astore_3 (n := 6) dX11_tie_5 rfl (Nat.le_of_ble_eq_true rfl) rfl ?_
    refine ZV_aload_n (n := 7) dX11_tie_6 rfl rfl rfl ?_
    refine ZV_ifnonnull_s (tgt := 17) dX11_tie_7 (by decide) ?_
    refine ZV_aload_n (n := 18) dX11_tie_17 rfl rfl rfl ?_
    refine call_X11_193 (e_isNote hG he2 hkd2) rfl dX11_tie_18 rfl (cf_ek hG e2 he2).1 (Nat.le_of_ble_eq_true rfl) (Nat.le_of_ble_eq_true rfl) rfl (fun r9 σ9 hp9 => ?_)
    obtain ⟨rfl, hs9⟩ := hp9
    subst σ9
    refine ZV_if_neB (tgt := 31) (n := 24) dX11_tie_21 (by decide) rfl (fun h21 => ?_) (fun h21 => ?_)
    · skip
      refine ZV_aload_n (n := 32) dX11_tie_31 rfl rfl rfl ?_
      refine ZV_getIv (n := 35) dX11_tie_32 fl_X11_225 rfl rfl rfl (cf_ek hG e2 he2).1 (cf_ei hG e2 he2) ?_
      refine ZV_if_eqB (tgt := 42) (n := 38) dX11_tie_35 (by decide) rfl (fun h35 => ?_) (fun h35 => ?_)
      · skip
        refine ZV_iconst (v := nI 0) (n := 43) dX11_tie_42 rfl rfl ?_
        refine ZV_istore_4 (n := 45) dX11_tie_43 rfl (Nat.le_of_ble_eq_true rfl) rfl ?_
        refine ZV_aload_n (n := 46) dX11_tie_45 rfl rfl rfl ?_
        refine ZV_iload_n (n := 47) dX11_tie_46 rfl rfl rfl ?_
        refine ZV_putI (n := 50) dX11_tie_47 fl_X11_225 rfl (Or.inl rfl) rfl (fun _ => bI_01 b) rfl (cf_ek hG e2 he2).1 ?_
        refine ZV_gen (P := fun τ => cG c B τ _ _) (U_ti hG he2 _) (fun σ hG => ?_)
        refine ZV_aload_n (n := 51) dX11_tie_50 rfl rfl rfl ?_
        refine ZV_iload (n := 53) dX11_tie_51 rfl rfl ?_
        refine call_X11_98 (e_done hG _) rfl dX11_tie_53 rfl (cf_sh hG :).1 (Nat.le_of_ble_eq_true rfl) (Nat.le_of_ble_eq_true rfl) rfl (fun r9 σ9 hp9 => ?_)
        obtain ⟨rfl, hG⟩ := hp9
        refine ZV_iret dX11_tie_56 rfl ?_
        exact zlC (v := sOk (h_ti T (va_up (g_ti T) e2 b)) (bI (g_ti T e2))) (by simp [sp_tie, hE2, hc2, h21, h35]) (by rw [h35]; rfl) ⟨B, K, hG, kI_e hK ⟨rfl, rfl, rfl, rfl, rfl, rfl, rfl, rfl, rfl, rfl, rfl, rfl, rfl, rfl, rfl, rfl, rfl, rfl, rfl, rfl⟩⟩
      · skip
        refine ZV_iconst (v := nI 1) (n := 39) dX11_tie_38 rfl rfl ?_
        refine ZV_goto (tgt := 43) dX11_tie_39 (by decide) ?_
        refine ZV_istore_4 (n := 45) dX11_tie_43 rfl (Nat.le_of_ble_eq_true rfl) rfl ?_
        refine ZV_aload_n (n := 46) dX11_tie_45 rfl rfl rfl ?_
        refine ZV_iload_n (n := 47) dX11_tie_46 rfl rfl rfl ?_
        refine ZV_putI (n := 50) dX11_tie_47 fl_X11_225 rfl (Or.inl rfl) rfl (fun _ => bI_01 b) rfl (cf_ek hG e2 he2).1 ?_
        refine ZV_gen (P := fun τ => cG c B τ _ _) (U_ti hG he2 _) (fun σ hG => ?_)
        refine ZV_aload_n (n := 51) dX11_tie_50 rfl rfl rfl ?_
        refine ZV_iload (n := 53) dX11_tie_51 rfl rfl ?_
        refine call_X11_98 (e_done hG _) rfl dX11_tie_53 rfl (cf_sh hG :).1 (Nat.le_of_ble_eq_true rfl) (Nat.le_of_ble_eq_true rfl) rfl (fun r9 σ9 hp9 => ?_)
        obtain ⟨rfl, hG⟩ := hp9
        refine ZV_iret dX11_tie_56 rfl ?_
        exact zlC (v := sOk (h_ti T (va_up (g_ti T) e2 b)) (bI (g_ti T e2))) (by simp [sp_tie, hE2, hc2, h21, h35]) (by rw [h35]; rfl) ⟨B, K, hG, kI_e hK ⟨rfl, rfl, rfl, rfl, rfl, rfl, rfl, rfl, rfl, rfl, rfl, rfl, rfl, rfl, rfl, rfl, rfl, rfl, rfl, rfl⟩⟩
    · skip
      refine ZV_aload_n (n := 25) dX11_tie_24 rfl rfl rfl ?_
      refine ZV_bipush (v := -13) (n := 27) dX11_tie_25 rfl rfl ?_
      refine call_X11_180 (e_fail hG (-13) 2 (by decide) rfl) rfl dX11_tie_27 rfl (cf_sh hG :).1 (Nat.le_of_ble_eq_true rfl) (Nat.le_of_ble_eq_true rfl) rfl (fun r9 σ9 hp9 => ?_)
      obtain ⟨rfl, hG⟩ := hp9
      refine ZV_iret dX11_tie_30 rfl ?_
      exact zlC (v := sFl T 2 (-13) (-13)) (by simp [sp_tie, hE2, hc2, h21]) rfl ⟨B, K, hG, kI_e hK ⟨rfl, rfl, rfl, rfl, rfl, rfl, rfl, rfl, rfl, rfl, rfl, rfl, rfl, rfl, rfl, rfl, rfl, rfl, rfl, rfl⟩⟩
theorem cmp_hi {T : TS} (hI : tI T) {e j : Nat} (he : e < g_ev T) (hk : g_kd T e = 1) (hj : j < 128) : (if 0 < g_pn T e then g_pi T e (g_pn T e - 1) else -1) < nI j ↔ ¬ j ≤ g_pv T e (g_pn T e - 1) := by
  have hn := ti_pn1 hI e he (by omega)
  have hp := ti_pi hI e (g_pn T e - 1) he (by omega)
  rw [if_pos (by omega), hp.1, Int32.lt_iff_toInt_lt, nI_toInt (by omega), nI_toInt (by omega)]
  omega
set_option maxHeartbeats 4000000 in
set_option maxRecDepth 100000 in
theorem q_chord {c : Nat} {σ : ZS} {T : TS} (hR : cR c σ T) (hI : tI T) (e p : Int32) : ZC M_X11_chord [Ar (some c), Ai e, Ai p] σ (fun y0 τ0 => y0 = some (Ai (sp_chord T e p).1) ∧ cR c τ0 (sp_chord T e p).2) := by
  obtain ⟨B, K, hG, hK⟩ := hR
  have hbd := cf_bd hG
  refine ZC_of (ls := [some (Ar (some c)), some (Ai e), some (Ai p), none]) (by decide) (Nat.le_of_ble_eq_true rfl) rfl ?_
  refine ZV_aload_n (n := 1) dX11_chord_0 rfl rfl rfl ?_
  refine ZV_iload_n (n := 2) dX11_chord_1 rfl rfl rfl ?_
  refine call_X11_155 (e_eventOf hG _) rfl dX11_chord_2 rfl (cf_sh hG :).1 (Nat.le_of_ble_eq_true rfl) (Nat.le_of_ble_eq_true rfl) rfl (fun r9 σ9 hp9 => ?_)
  obtain ⟨hs9, hp9⟩ := hp9
  subst σ9
  rcases hp9 with ⟨hv2, hr9⟩ | ⟨e2, he2, ht2, hn2, hr9⟩
  · skip
    subst hr9
    refine ZV_astore_3 (n := 6) dX11_chord_5 rfl (Nat.le_of_ble_eq_true rfl) rfl ?_
    refine ZV_aload_n (n := 7) dX11_chord_6 rfl rfl rfl ?_
    refine ZV_ifnull_n (tgt := 18) dX11_chord_7 (by decide) ?_
    refine ZV_aload_n (n := 19) dX11_chord_18 rfl rfl rfl ?_
    refine ZV_bipush (v := -2) (n := 21) dX11_chord_19 rfl rfl ?_
    refine call_X11_87 (e_refuse hG _) rfl dX11_chord_21 rfl (cf_sh hG :).1 (Nat.le_of_ble_eq_true rfl) (Nat.le_of_ble_eq_true rfl) rfl (fun r9 σ9 hp9 => ?_)
    obtain ⟨rfl, hG⟩ := hp9
    refine ZV_iret dX11_chord_24 rfl ?_
    exact zlC (v := sNo T (-2)) (by simp [sp_chord, hv2]) rfl ⟨B, K, hG, kI_e hK ⟨rfl, rfl, rfl, rfl, rfl, rfl, rfl, rfl, rfl, rfl, rfl, rfl, rfl, rfl, rfl, rfl, rfl, rfl, rfl, rfl⟩⟩
  · skip
    subst hr9
    subst hn2
    have hE2 : evB T (nI e2) = true := evB_nI hI he2 ht2
    have hev2 := ti_ev hI
    have hkd2 := ti_kd hI _ he2
    have hpn2 := ti_pn hI e2
    have hpl2 := ki_pl hK _ he2 ht2
    have hpb2 := pl_b hI hK he2 ht2
    have hvo2 := ti_vo hI _ he2
    have hc2 : (nI e2).toNatClampNeg = e2 := nI_clamp (by omega)
    refine ZV_astore_3 (n := 6) dX11_chord_5 rfl (Nat.le_of_ble_eq_true rfl) rfl ?_
    refine ZV_aload_n (n := 7) dX11_chord_6 rfl rfl rfl ?_
    refine ZV_ifnull_s (tgt := 18) (n := 10) dX11_chord_7 (by decide) rfl ?_
    refine ZV_iload_n (n := 11) dX11_chord_10 rfl rfl rfl ?_
    refine ZV_i2l (n := 12) dX11_chord_11 rfl ?_
    refine call_X11_123 (e_isPitch _ _) rfl dX11_chord_12 (Nat.le_of_ble_eq_true rfl) (Nat.le_of_ble_eq_true rfl) rfl (fun r9 σ9 hp9 => ?_)
    obtain ⟨rfl, hs9⟩ := hp9
    subst σ9
    rw [show decide (0 ≤ (p.toInt64).toInt ∧ (p.toInt64).toInt ≤ 127) = inB p 128 from by rw [Int32.toInt_toInt64]; exact decide_eq_decide.mpr (by omega)]
    refine ZV_if_neB (tgt := 25) (n := 18) dX11_chord_15 (by decide) rfl (fun h15 => ?_) (fun h15 => ?_)
    · skip
      obtain ⟨j, hj, hj2, rfl⟩ := inB_t h15
      have hcj : (nI j).toNatClampNeg = j := nI_clamp hj2
      have h15 : inB (nI j) 128 = true := h15
      refine ZV_aload_n (n := 26) dX11_chord_25 rfl rfl rfl ?_
      refine ZV_getIv (n := 29) dX11_chord_26 fl_X11_177 rfl rfl rfl (cf_ek hG e2 he2).1 (cf_ed hG e2 he2) ?_
      refine ZV_iconst (v := nI 1) (n := 30) dX11_chord_29 rfl rfl ?_
      refine ZV_icmp_eqN (tgt := 40) (n := 33) dX11_chord_30 (by decide) rfl (by omega) (by omega) (fun h30 => ?_) (fun h30 => ?_)
      · skip
        refine ZV_iload_n (n := 41) dX11_chord_40 rfl rfl rfl ?_
        refine ZV_aload_n (n := 42) dX11_chord_41 rfl rfl rfl ?_
        refine call_X11_183 (e_highest hG he2 hpn2 (ti_pnc hI _ he2)) rfl dX11_chord_42 rfl (cf_ek hG e2 he2).1 (Nat.le_of_ble_eq_true rfl) (Nat.le_of_ble_eq_true rfl) rfl (fun r9 σ9 hp9 => ?_)
        obtain ⟨rfl, hs9⟩ := hp9
        subst σ9
        refine ZV_icmp_gt (tgt := 55) (n := 48) dX11_chord_45 (by decide) rfl (fun h45 => ?_) (fun h45 => ?_)
        · skip
          rw [cmp_hi hI he2 h30 hj] at h45
          refine ZV_aload_n (n := 56) dX11_chord_55 rfl rfl rfl ?_
          refine ZV_iload_n (n := 57) dX11_chord_56 rfl rfl rfl ?_
          refine call_X11_187 (e_addPitch hG he2 h30 hpn2 _) rfl dX11_chord_57 rfl (cf_ek hG _ he2).1 (Nat.le_of_ble_eq_true rfl) (Nat.le_of_ble_eq_true rfl) rfl (fun r9 σ9 hp9 => ?_)
          rcases hp9 with ⟨ha57, hr9, hs9⟩ | ⟨ha57, hr9, hG⟩
          · skip
            subst hr9
            subst σ9
            refine ZV_if_neB (tgt := 70) (n := 63) dX11_chord_60 (by decide) rfl (fun h60 => ?_) (fun h60 => ?_)
            · skip
              cases h60
            · skip
              refine ZV_aload_n (n := 64) dX11_chord_63 rfl rfl rfl ?_
              refine ZV_bipush (v := -4) (n := 66) dX11_chord_64 rfl rfl ?_
              refine call_X11_87 (e_refuse hG _) rfl dX11_chord_66 rfl (cf_sh hG :).1 (Nat.le_of_ble_eq_true rfl) (Nat.le_of_ble_eq_true rfl) rfl (fun r9 σ9 hp9 => ?_)
              obtain ⟨rfl, hG⟩ := hp9
              refine ZV_iret dX11_chord_69 rfl ?_
              exact zlC (v := sNo T (-4)) (by rw [ha57] at h45; simp [sp_chord, hE2, hc2, h15, hcj, h30, h45, ha57]) rfl ⟨B, K, hG, kI_e hK ⟨rfl, rfl, rfl, rfl, rfl, rfl, rfl, rfl, rfl, rfl, rfl, rfl, rfl, rfl, rfl, rfl, rfl, rfl, rfl, rfl⟩⟩
          · skip
            subst hr9
            refine ZV_if_neB (tgt := 70) (n := 63) dX11_chord_60 (by decide) rfl (fun h60 => ?_) (fun h60 => ?_)
            · skip
              refine ZV_aload_n (n := 71) dX11_chord_70 rfl rfl rfl ?_
              refine ZV_aload_n (n := 72) dX11_chord_71 rfl rfl rfl ?_
              refine ZV_getIv (n := 75) dX11_chord_72 fl_X11_190 rfl rfl rfl (cf_ek hG e2 he2).1 (show _ = nI (g_pn T e2 + 1) from (cf_ec hG e2 he2).trans (congrArg nI up_eq)) ?_
              refine call_X11_98 (e_done hG _) rfl dX11_chord_75 rfl (cf_sh hG :).1 (Nat.le_of_ble_eq_true rfl) (Nat.le_of_ble_eq_true rfl) rfl (fun r9 σ9 hp9 => ?_)
              obtain ⟨rfl, hG⟩ := hp9
              refine ZV_iret dX11_chord_78 rfl ?_
              exact zlC (v := sOk (h_pn (h_pi T (va_u2 (g_pi T) e2 (va_up (g_pi T e2) (g_pn T e2) (nI j)))) (va_up (g_pn T) e2 (g_pn T e2 + 1))) (nI (g_pn T e2 + 1))) (by simp [sp_chord, hE2, hc2, h15, hcj, h30, h45, ha57]) rfl ⟨B, K, hG, kI_e hK ⟨rfl, rfl, rfl, rfl, rfl, rfl, rfl, rfl, rfl, rfl, rfl, rfl, rfl, rfl, rfl, rfl, rfl, rfl, rfl, rfl⟩⟩
            · skip
              cases h60
        · skip
          rw [cmp_hi hI he2 h30 hj, Decidable.not_not] at h45
          refine ZV_aload_n (n := 49) dX11_chord_48 rfl rfl rfl ?_
          refine ZV_bipush (v := -3) (n := 51) dX11_chord_49 rfl rfl ?_
          refine call_X11_87 (e_refuse hG _) rfl dX11_chord_51 rfl (cf_sh hG :).1 (Nat.le_of_ble_eq_true rfl) (Nat.le_of_ble_eq_true rfl) rfl (fun r9 σ9 hp9 => ?_)
          obtain ⟨rfl, hG⟩ := hp9
          refine ZV_iret dX11_chord_54 rfl ?_
          exact zlC (v := sNo T (-3)) (by simp [sp_chord, hE2, hc2, h15, h30, h45, hcj]) rfl ⟨B, K, hG, kI_e hK ⟨rfl, rfl, rfl, rfl, rfl, rfl, rfl, rfl, rfl, rfl, rfl, rfl, rfl, rfl, rfl, rfl, rfl, rfl, rfl, rfl⟩⟩
      · skip
        refine ZV_aload_n (n := 34) dX11_chord_33 rfl rfl rfl ?_
        refine ZV_bipush (v := -13) (n := 36) dX11_chord_34 rfl rfl ?_
        refine call_X11_180 (e_fail hG (-13) 2 (by decide) rfl) rfl dX11_chord_36 rfl (cf_sh hG :).1 (Nat.le_of_ble_eq_true rfl) (Nat.le_of_ble_eq_true rfl) rfl (fun r9 σ9 hp9 => ?_)
        obtain ⟨rfl, hG⟩ := hp9
        refine ZV_iret dX11_chord_39 rfl ?_
        exact zlC (v := sFl T 2 (-13) (-13)) (by simp [sp_chord, hE2, hc2, h15, h30, hcj]) rfl ⟨B, K, hG, kI_e hK ⟨rfl, rfl, rfl, rfl, rfl, rfl, rfl, rfl, rfl, rfl, rfl, rfl, rfl, rfl, rfl, rfl, rfl, rfl, rfl, rfl⟩⟩
    · skip
      refine ZV_aload_n (n := 19) dX11_chord_18 rfl rfl rfl ?_
      refine ZV_bipush (v := -2) (n := 21) dX11_chord_19 rfl rfl ?_
      refine call_X11_87 (e_refuse hG _) rfl dX11_chord_21 rfl (cf_sh hG :).1 (Nat.le_of_ble_eq_true rfl) (Nat.le_of_ble_eq_true rfl) rfl (fun r9 σ9 hp9 => ?_)
      obtain ⟨rfl, hG⟩ := hp9
      refine ZV_iret dX11_chord_24 rfl ?_
      exact zlC (v := sNo T (-2)) (by simp [sp_chord, hE2, hc2, h15]) rfl ⟨B, K, hG, kI_e hK ⟨rfl, rfl, rfl, rfl, rfl, rfl, rfl, rfl, rfl, rfl, rfl, rfl, rfl, rfl, rfl, rfl, rfl, rfl, rfl, rfl⟩⟩
set_option maxHeartbeats 4000000 in
set_option maxRecDepth 100000 in
theorem q_shift {c : Nat} {σ : ZS} {T : TS} (hR : cR c σ T) (hI : tI T) (e w : Int32) : ZC M_X11_shift [Ar (some c), Ai e, Ai w] σ (fun y0 τ0 => y0 = some (Ai (sp_shift T e w).1) ∧ cR c τ0 (sp_shift T e w).2) := by
  obtain ⟨B, K, hG, hK⟩ := hR
  have hbd := cf_bd hG
  refine ZC_of (ls := [some (Ar (some c)), some (Ai e), some (Ai w), none]) (by decide) (Nat.le_of_ble_eq_true rfl) rfl ?_
  refine ZV_aload_n (n := 1) dX11_shift_0 rfl rfl rfl ?_
  refine ZV_iload_n (n := 2) dX11_shift_1 rfl rfl rfl ?_
  refine call_X11_155 (e_eventOf hG _) rfl dX11_shift_2 rfl (cf_sh hG :).1 (Nat.le_of_ble_eq_true rfl) (Nat.le_of_ble_eq_true rfl) rfl (fun r9 σ9 hp9 => ?_)
  obtain ⟨hs9, hp9⟩ := hp9
  subst σ9
  rcases hp9 with ⟨hv2, hr9⟩ | ⟨e2, he2, ht2, hn2, hr9⟩
  · skip
    subst hr9
    refine ZV_astore_3 (n := 6) dX11_shift_5 rfl (Nat.le_of_ble_eq_true rfl) rfl ?_
    refine ZV_aload_n (n := 7) dX11_shift_6 rfl rfl rfl ?_
    refine ZV_ifnonnull_n (tgt := 17) (n := 10) dX11_shift_7 (by decide) rfl ?_
    refine ZV_aload_n (n := 11) dX11_shift_10 rfl rfl rfl ?_
    refine ZV_bipush (v := -2) (n := 13) dX11_shift_11 rfl rfl ?_
    refine call_X11_87 (e_refuse hG _) rfl dX11_shift_13 rfl (cf_sh hG :).1 (Nat.le_of_ble_eq_true rfl) (Nat.le_of_ble_eq_true rfl) rfl (fun r9 σ9 hp9 => ?_)
    obtain ⟨rfl, hG⟩ := hp9
    refine ZV_iret dX11_shift_16 rfl ?_
    exact zlC (v := sNo T (-2)) (by simp [sp_shift, hv2]) rfl ⟨B, K, hG, kI_e hK ⟨rfl, rfl, rfl, rfl, rfl, rfl, rfl, rfl, rfl, rfl, rfl, rfl, rfl, rfl, rfl, rfl, rfl, rfl, rfl, rfl⟩⟩
  · skip
    subst hr9
    subst hn2
    have hE2 : evB T (nI e2) = true := evB_nI hI he2 ht2
    have hev2 := ti_ev hI
    have hkd2 := ti_kd hI _ he2
    have hpn2 := ti_pn hI e2
    have hpl2 := ki_pl hK _ he2 ht2
    have hpb2 := pl_b hI hK he2 ht2
    have hvo2 := ti_vo hI _ he2
    have hc2 : (nI e2).toNatClampNeg = e2 := nI_clamp (by omega)
    refine ZV_astore_3 (n := 6) dX11_shift_5 rfl (Nat.le_of_ble_eq_true rfl) rfl ?_
    refine ZV_aload_n (n := 7) dX11_shift_6 rfl rfl rfl ?_
    refine ZV_ifnonnull_s (tgt := 17) dX11_shift_7 (by decide) ?_
    refine ZV_aload_n (n := 18) dX11_shift_17 rfl rfl rfl ?_
    refine call_X11_193 (e_isNote hG he2 hkd2) rfl dX11_shift_18 rfl (cf_ek hG e2 he2).1 (Nat.le_of_ble_eq_true rfl) (Nat.le_of_ble_eq_true rfl) rfl (fun r9 σ9 hp9 => ?_)
    obtain ⟨rfl, hs9⟩ := hp9
    subst σ9
    refine ZV_if_neB (tgt := 31) (n := 24) dX11_shift_21 (by decide) rfl (fun h21 => ?_) (fun h21 => ?_)
    · skip
      refine ZV_aload_n (n := 32) dX11_shift_31 rfl rfl rfl ?_
      refine ZV_iload_n (n := 33) dX11_shift_32 rfl rfl rfl ?_
      refine ZV_i2l (n := 34) dX11_shift_33 rfl ?_
      refine call_X11_221 (e_moveBy hG hI he2 (of_decide_eq_true h21) w.toInt64 (by rw [Int32.toInt_toInt64]; have := w.toInt_lt; have := w.le_toInt; omega)) rfl dX11_shift_34 rfl (cf_ek hG _ he2).1 (Nat.le_of_ble_eq_true rfl) (Nat.le_of_ble_eq_true rfl) rfl (fun r9 σ9 hp9 => ?_)
      rcases hp9 with ⟨hm34, hr9, hs9⟩ | ⟨hm34, hr9, hG⟩
      · skip
        subst hr9
        subst σ9
        rw [Int32.toInt_toInt64] at hm34
        refine ZV_if_neB (tgt := 47) (n := 40) dX11_shift_37 (by decide) rfl (fun h37 => ?_) (fun h37 => ?_)
        · skip
          cases h37
        · skip
          refine ZV_aload_n (n := 41) dX11_shift_40 rfl rfl rfl ?_
          refine ZV_bipush (v := -12) (n := 43) dX11_shift_41 rfl rfl ?_
          refine call_X11_180 (e_fail hG (-12) 1 (by decide) rfl) rfl dX11_shift_43 rfl (cf_sh hG :).1 (Nat.le_of_ble_eq_true rfl) (Nat.le_of_ble_eq_true rfl) rfl (fun r9 σ9 hp9 => ?_)
          obtain ⟨rfl, hG⟩ := hp9
          refine ZV_iret dX11_shift_46 rfl ?_
          exact zlC (v := sFl T 1 (-12) (-12)) (by simp [sp_shift, hE2, hc2, h21, hm34]) rfl ⟨B, K, hG, kI_e hK ⟨rfl, rfl, rfl, rfl, rfl, rfl, rfl, rfl, rfl, rfl, rfl, rfl, rfl, rfl, rfl, rfl, rfl, rfl, rfl, rfl⟩⟩
      · skip
        subst hr9
        rw [Int32.toInt_toInt64] at hm34
        rw [Int32.toInt32_toInt64] at hG
        refine ZV_if_neB (tgt := 47) (n := 40) dX11_shift_37 (by decide) rfl (fun h37 => ?_) (fun h37 => ?_)
        · skip
          refine ZV_aload_n (n := 48) dX11_shift_47 rfl rfl rfl ?_
          refine ZV_aload_n (n := 49) dX11_shift_48 rfl rfl rfl ?_
          refine ZV_getIv (n := 52) dX11_shift_49 fl_X11_190 rfl rfl rfl (cf_ek hG e2 he2).1 (show _ = nI (g_pn T e2) from cf_ec hG e2 he2) ?_
          refine call_X11_98 (e_done hG _) rfl dX11_shift_52 rfl (cf_sh hG :).1 (Nat.le_of_ble_eq_true rfl) (Nat.le_of_ble_eq_true rfl) rfl (fun r9 σ9 hp9 => ?_)
          obtain ⟨rfl, hG⟩ := hp9
          refine ZV_iret dX11_shift_55 rfl ?_
          exact zlC (v := sOk (shT T e2 w) (nI (g_pn T e2))) (by simp [sp_shift, hE2, hc2, h21, hm34]) rfl ⟨B, K, hG, kI_e hK ⟨rfl, rfl, rfl, rfl, rfl, rfl, rfl, rfl, rfl, rfl, rfl, rfl, rfl, rfl, rfl, rfl, rfl, rfl, rfl, rfl⟩⟩
        · skip
          cases h37
    · skip
      refine ZV_aload_n (n := 25) dX11_shift_24 rfl rfl rfl ?_
      refine ZV_bipush (v := -13) (n := 27) dX11_shift_25 rfl rfl ?_
      refine call_X11_180 (e_fail hG (-13) 2 (by decide) rfl) rfl dX11_shift_27 rfl (cf_sh hG :).1 (Nat.le_of_ble_eq_true rfl) (Nat.le_of_ble_eq_true rfl) rfl (fun r9 σ9 hp9 => ?_)
      obtain ⟨rfl, hG⟩ := hp9
      refine ZV_iret dX11_shift_30 rfl ?_
      exact zlC (v := sFl T 2 (-13) (-13)) (by simp [sp_shift, hE2, hc2, h21]) rfl ⟨B, K, hG, kI_e hK ⟨rfl, rfl, rfl, rfl, rfl, rfl, rfl, rfl, rfl, rfl, rfl, rfl, rfl, rfl, rfl, rfl, rfl, rfl, rfl, rfl⟩⟩
set_option maxHeartbeats 4000000 in
set_option maxRecDepth 100000 in
theorem q_at {c : Nat} {σ : ZS} {T : TS} (hR : cR c σ T) (hI : tI T) (e w : Int32) : ZC M_X11_at [Ar (some c), Ai e, Ai w] σ (fun y0 τ0 => y0 = some (Ai (sp_at T e w).1) ∧ cR c τ0 (sp_at T e w).2) := by
  obtain ⟨B, K, hG, hK⟩ := hR
  have hbd := cf_bd hG
  have hb0 := boF_e (T := T) (S := h_su T 0) ⟨rfl, rfl, rfl, rfl, rfl, rfl, rfl, rfl, rfl, rfl, rfl, rfl, rfl, rfl, rfl, rfl, rfl, rfl, rfl, rfl⟩
  have hg0 := bgF_e (T := T) (S := h_su T 0) ⟨rfl, rfl, rfl, rfl, rfl, rfl, rfl, rfl, rfl, rfl, rfl, rfl, rfl, rfl, rfl, rfl, rfl, rfl, rfl, rfl⟩
  refine ZC_of (ls := [some (Ar (some c)), some (Ai e), some (Ai w), none]) (by decide) (Nat.le_of_ble_eq_true rfl) rfl ?_
  refine ZV_aload_n (n := 1) dX11_at_0 rfl rfl rfl ?_
  refine ZV_iload_n (n := 2) dX11_at_1 rfl rfl rfl ?_
  refine call_X11_155 (e_eventOf hG _) rfl dX11_at_2 rfl (cf_sh hG :).1 (Nat.le_of_ble_eq_true rfl) (Nat.le_of_ble_eq_true rfl) rfl (fun r9 σ9 hp9 => ?_)
  obtain ⟨hs9, hp9⟩ := hp9
  subst σ9
  rcases hp9 with ⟨hv2, hr9⟩ | ⟨e2, he2, ht2, hn2, hr9⟩
  · skip
    subst hr9
    refine ZV_astore_3 (n := 6) dX11_at_5 rfl (Nat.le_of_ble_eq_true rfl) rfl ?_
    refine ZV_aload_n (n := 7) dX11_at_6 rfl rfl rfl ?_
    refine ZV_ifnonnull_n (tgt := 17) (n := 10) dX11_at_7 (by decide) rfl ?_
    refine ZV_aload_n (n := 11) dX11_at_10 rfl rfl rfl ?_
    refine ZV_bipush (v := -2) (n := 13) dX11_at_11 rfl rfl ?_
    refine call_X11_87 (e_refuse hG _) rfl dX11_at_13 rfl (cf_sh hG :).1 (Nat.le_of_ble_eq_true rfl) (Nat.le_of_ble_eq_true rfl) rfl (fun r9 σ9 hp9 => ?_)
    obtain ⟨rfl, hG⟩ := hp9
    refine ZV_iret dX11_at_16 rfl ?_
    exact zlC (v := sNo T (-2)) (by simp [sp_at, hv2]) rfl ⟨B, K, hG, kI_e hK ⟨rfl, rfl, rfl, rfl, rfl, rfl, rfl, rfl, rfl, rfl, rfl, rfl, rfl, rfl, rfl, rfl, rfl, rfl, rfl, rfl⟩⟩
  · skip
    subst hr9
    subst hn2
    have hE2 : evB T (nI e2) = true := evB_nI hI he2 ht2
    have hev2 := ti_ev hI
    have hkd2 := ti_kd hI _ he2
    have hpn2 := ti_pn hI e2
    have hpl2 := ki_pl hK _ he2 ht2
    have hpb2 := pl_b hI hK he2 ht2
    have hvo2 := ti_vo hI _ he2
    have hc2 : (nI e2).toNatClampNeg = e2 := nI_clamp (by omega)
    refine ZV_astore_3 (n := 6) dX11_at_5 rfl (Nat.le_of_ble_eq_true rfl) rfl ?_
    refine ZV_aload_n (n := 7) dX11_at_6 rfl rfl rfl ?_
    refine ZV_ifnonnull_s (tgt := 17) dX11_at_7 (by decide) ?_
    refine ZV_iload_n (n := 18) dX11_at_17 rfl rfl rfl ?_
    by_cases h18_0 : w = nI 0
    · subst h18_0
      refine ZV_tableIn (tgt := 68) dX11_at_18 (by decide) (by decide) rfl (by decide) ?_
      refine ZV_aload_n (n := 69) dX11_at_68 rfl rfl rfl ?_
      refine ZV_aload_n (n := 70) dX11_at_69 rfl rfl rfl ?_
      refine ZV_getRv (n := 73) dX11_at_70 fl_X11_162 rfl rfl rfl (cf_ek hG e2 he2).1 (cf_eo hG e2 he2) ?_
      refine ZV_getIv (n := 76) dX11_at_73 fl_X11_235 rfl rfl rfl (cf_vk hG (g_vo T e2) hvo2).1 (cf_vn hG (g_vo T e2) hvo2) ?_
      refine call_X11_98 (e_done hG _) rfl dX11_at_76 rfl (cf_sh hG :).1 (Nat.le_of_ble_eq_true rfl) (Nat.le_of_ble_eq_true rfl) rfl (fun r9 σ9 hp9 => ?_)
      obtain ⟨rfl, hG⟩ := hp9
      refine ZV_iret dX11_at_79 rfl ?_
      exact zlC (v := sOk T (nI (g_vo T e2))) (by rw [sp_at, if_pos ⟨hE2, rfl⟩]; simp only [hc2]; rfl) (rfl) ⟨B, K, hG, kI_e hK ⟨rfl, rfl, rfl, rfl, rfl, rfl, rfl, rfl, rfl, rfl, rfl, rfl, rfl, rfl, rfl, rfl, rfl, rfl, rfl, rfl⟩⟩
    by_cases h18_1 : w = nI 1
    · subst h18_1
      refine ZV_tableIn (tgt := 80) dX11_at_18 (by decide) (by decide) rfl (by decide) ?_
      refine ZV_aload_n (n := 81) dX11_at_80 rfl rfl rfl ?_
      refine ZV_aload_n (n := 82) dX11_at_81 rfl rfl rfl ?_
      refine ZV_getIv (n := 85) dX11_at_82 fl_X11_159 rfl rfl rfl (cf_ek hG e2 he2).1 (cf_el hG e2 he2) ?_
      refine call_X11_98 (e_done hG _) rfl dX11_at_85 rfl (cf_sh hG :).1 (Nat.le_of_ble_eq_true rfl) (Nat.le_of_ble_eq_true rfl) rfl (fun r9 σ9 hp9 => ?_)
      obtain ⟨rfl, hG⟩ := hp9
      refine ZV_iret dX11_at_88 rfl ?_
      exact zlC (v := sOk T (nI (g_pl T e2))) (by rw [sp_at, if_pos ⟨hE2, rfl⟩]; simp only [hc2]; rfl) (by rw [hpl2]; rfl) ⟨B, K, hG, kI_e hK ⟨rfl, rfl, rfl, rfl, rfl, rfl, rfl, rfl, rfl, rfl, rfl, rfl, rfl, rfl, rfl, rfl, rfl, rfl, rfl, rfl⟩⟩
    by_cases h18_2 : w = nI 2
    · subst h18_2
      refine ZV_tableIn (tgt := 89) dX11_at_18 (by decide) (by decide) rfl (by decide) ?_
      refine ZV_aload_n (n := 90) dX11_at_89 rfl rfl rfl ?_
      refine ZV_aload_n (n := 91) dX11_at_90 rfl rfl rfl ?_
      refine ZV_getIv (n := 94) dX11_at_91 fl_X11_177 rfl rfl rfl (cf_ek hG e2 he2).1 (cf_ed hG e2 he2) ?_
      refine call_X11_98 (e_done hG _) rfl dX11_at_94 rfl (cf_sh hG :).1 (Nat.le_of_ble_eq_true rfl) (Nat.le_of_ble_eq_true rfl) rfl (fun r9 σ9 hp9 => ?_)
      obtain ⟨rfl, hG⟩ := hp9
      refine ZV_iret dX11_at_97 rfl ?_
      exact zlC (v := sOk T (nI (g_kd T e2))) (by rw [sp_at, if_pos ⟨hE2, rfl⟩]; simp only [hc2]; rfl) (rfl) ⟨B, K, hG, kI_e hK ⟨rfl, rfl, rfl, rfl, rfl, rfl, rfl, rfl, rfl, rfl, rfl, rfl, rfl, rfl, rfl, rfl, rfl, rfl, rfl, rfl⟩⟩
    by_cases h18_3 : w = nI 3
    · subst h18_3
      refine ZV_tableIn (tgt := 98) dX11_at_18 (by decide) (by decide) rfl (by decide) ?_
      refine ZV_aload_n (n := 99) dX11_at_98 rfl rfl rfl ?_
      refine ZV_aload_n (n := 100) dX11_at_99 rfl rfl rfl ?_
      refine ZV_getIv (n := 103) dX11_at_100 fl_X11_190 rfl rfl rfl (cf_ek hG e2 he2).1 (cf_ec hG e2 he2) ?_
      refine call_X11_98 (e_done hG _) rfl dX11_at_103 rfl (cf_sh hG :).1 (Nat.le_of_ble_eq_true rfl) (Nat.le_of_ble_eq_true rfl) rfl (fun r9 σ9 hp9 => ?_)
      obtain ⟨rfl, hG⟩ := hp9
      refine ZV_iret dX11_at_106 rfl ?_
      exact zlC (v := sOk T (nI (g_pn T e2))) (by rw [sp_at, if_pos ⟨hE2, rfl⟩]; simp only [hc2]; rfl) (rfl) ⟨B, K, hG, kI_e hK ⟨rfl, rfl, rfl, rfl, rfl, rfl, rfl, rfl, rfl, rfl, rfl, rfl, rfl, rfl, rfl, rfl, rfl, rfl, rfl, rfl⟩⟩
    by_cases h18_4 : w = nI 4
    · subst h18_4
      refine ZV_tableIn (tgt := 107) dX11_at_18 (by decide) (by decide) rfl (by decide) ?_
      refine ZV_aload_n (n := 108) dX11_at_107 rfl rfl rfl ?_
      refine ZV_aload_n (n := 109) dX11_at_108 rfl rfl rfl ?_
      refine ZV_getIv (n := 112) dX11_at_109 fl_X11_225 rfl rfl rfl (cf_ek hG e2 he2).1 (cf_ei hG e2 he2) ?_
      refine ZV_if_eqB (tgt := 119) (n := 115) dX11_at_112 (by decide) rfl (fun h112 => ?_) (fun h112 => ?_)
      · skip
        refine ZV_iconst (v := nI 0) (n := 120) dX11_at_119 rfl rfl ?_
        refine call_X11_98 (e_done hG _) rfl dX11_at_120 rfl (cf_sh hG :).1 (Nat.le_of_ble_eq_true rfl) (Nat.le_of_ble_eq_true rfl) rfl (fun r9 σ9 hp9 => ?_)
        obtain ⟨rfl, hG⟩ := hp9
        refine ZV_iret dX11_at_123 rfl ?_
        exact zlC (v := sOk T (bI (g_ti T e2))) (by rw [sp_at, if_pos ⟨hE2, rfl⟩]; simp only [hc2]; rfl) (by rw [h112]; rfl) ⟨B, K, hG, kI_e hK ⟨rfl, rfl, rfl, rfl, rfl, rfl, rfl, rfl, rfl, rfl, rfl, rfl, rfl, rfl, rfl, rfl, rfl, rfl, rfl, rfl⟩⟩
      · skip
        refine ZV_iconst (v := nI 1) (n := 116) dX11_at_115 rfl rfl ?_
        refine ZV_goto (tgt := 120) dX11_at_116 (by decide) ?_
        refine call_X11_98 (e_done hG _) rfl dX11_at_120 rfl (cf_sh hG :).1 (Nat.le_of_ble_eq_true rfl) (Nat.le_of_ble_eq_true rfl) rfl (fun r9 σ9 hp9 => ?_)
        obtain ⟨rfl, hG⟩ := hp9
        refine ZV_iret dX11_at_123 rfl ?_
        exact zlC (v := sOk T (bI (g_ti T e2))) (by rw [sp_at, if_pos ⟨hE2, rfl⟩]; simp only [hc2]; rfl) (by rw [h112]; rfl) ⟨B, K, hG, kI_e hK ⟨rfl, rfl, rfl, rfl, rfl, rfl, rfl, rfl, rfl, rfl, rfl, rfl, rfl, rfl, rfl, rfl, rfl, rfl, rfl, rfl⟩⟩
    by_cases h18_5 : w = nI 5
    · subst h18_5
      refine ZV_tableIn (tgt := 124) dX11_at_18 (by decide) (by decide) rfl (by decide) ?_
      refine ZV_aload_n (n := 125) dX11_at_124 rfl rfl rfl ?_
      refine ZV_aload_n (n := 126) dX11_at_125 rfl rfl rfl ?_
      refine ZV_aload_n (n := 127) dX11_at_126 rfl rfl rfl ?_
      refine ZV_getRv (n := 130) dX11_at_127 fl_X11_162 rfl rfl rfl (cf_ek hG e2 he2).1 (cf_eo hG e2 he2) ?_
      refine ZV_aload_n (n := 131) dX11_at_130 rfl rfl rfl ?_
      refine ZV_getIv (n := 134) dX11_at_131 fl_X11_159 rfl rfl rfl (cf_ek hG e2 he2).1 (cf_el hG e2 he2) ?_
      refine call_X11_236 (e_tupletsOver hG hI hK hvo2 hpb2.2) rfl dX11_at_134 rfl (cf_sh hG :).1 (Nat.le_of_ble_eq_true rfl) (Nat.le_of_ble_eq_true rfl) rfl (fun r9 σ9 hp9 => ?_)
      obtain ⟨rfl, hs9⟩ := hp9
      subst σ9
      refine call_X11_98 (e_done hG _) rfl dX11_at_137 rfl (cf_sh hG :).1 (Nat.le_of_ble_eq_true rfl) (Nat.le_of_ble_eq_true rfl) rfl (fun r9 σ9 hp9 => ?_)
      obtain ⟨rfl, hG⟩ := hp9
      refine ZV_iret dX11_at_140 rfl ?_
      exact zlC (v := sOk T (nI (zcnt (liB T e2) (g_te T)))) (by rw [sp_at, if_pos ⟨hE2, rfl⟩]; simp only [hc2]; rfl) (by rw [hpl2, (ti_pl hI _ he2 ht2).2]; rfl) ⟨B, K, hG, kI_e hK ⟨rfl, rfl, rfl, rfl, rfl, rfl, rfl, rfl, rfl, rfl, rfl, rfl, rfl, rfl, rfl, rfl, rfl, rfl, rfl, rfl⟩⟩
    by_cases h18_6 : w = nI 6
    · subst h18_6
      refine ZV_tableIn (tgt := 141) dX11_at_18 (by decide) (by decide) rfl (by decide) ?_
      refine ZV_aload_n (n := 142) dX11_at_141 rfl rfl rfl ?_
      refine ZV_aload_n (n := 143) dX11_at_142 rfl rfl rfl ?_
      refine ZV_aload_n (n := 144) dX11_at_143 rfl rfl rfl ?_
      refine ZV_getLv (n := 147) dX11_at_144 fl_X11_240 rfl rfl rfl (cf_ek hG e2 he2).1 (cf_eb hG e2 he2) ?_
      refine call_X11_244 (e_barAround hG hI hK (by rw [ki_bg hK _ he2 ht2]; exact bg_lt hI _ _ (ti_pl hI _ he2 ht2).1)) rfl dX11_at_147 rfl (cf_sh hG :).1 (Nat.le_of_ble_eq_true rfl) (Nat.le_of_ble_eq_true rfl) rfl (fun r9 σ9 hp9 => ?_)
      obtain ⟨rfl, hs9⟩ := hp9
      subst σ9
      refine call_X11_98 (e_done hG _) rfl dX11_at_150 rfl (cf_sh hG :).1 (Nat.le_of_ble_eq_true rfl) (Nat.le_of_ble_eq_true rfl) rfl (fun r9 σ9 hp9 => ?_)
      obtain ⟨rfl, hG⟩ := hp9
      refine ZV_iret dX11_at_153 rfl ?_
      exact zlC (v := sOk T (oI (boF T (bgF T (g_vo T e2) (g_pl T e2))))) (by rw [sp_at, if_pos ⟨hE2, rfl⟩, ← hb0, ← hg0]; simp only [hc2]; rfl) (by rw [ki_bg hK _ he2 ht2]; rfl) ⟨B, K, hG, kI_e hK ⟨rfl, rfl, rfl, rfl, rfl, rfl, rfl, rfl, rfl, rfl, rfl, rfl, rfl, rfl, rfl, rfl, rfl, rfl, rfl, rfl⟩⟩
    by_cases h18_7 : w = nI 7
    · subst h18_7
      refine ZV_tableIn (tgt := 154) dX11_at_18 (by decide) (by decide) rfl (by decide) ?_
      refine ZV_aload_n (n := 155) dX11_at_154 rfl rfl rfl ?_
      refine ZV_aload_n (n := 156) dX11_at_155 rfl rfl rfl ?_
      refine ZV_getIv (n := 159) dX11_at_156 fl_X11_229 rfl rfl rfl (cf_ek hG e2 he2).1 (cf_et hG e2 he2) ?_
      refine call_X11_98 (e_done hG _) rfl dX11_at_159 rfl (cf_sh hG :).1 (Nat.le_of_ble_eq_true rfl) (Nat.le_of_ble_eq_true rfl) rfl (fun r9 σ9 hp9 => ?_)
      obtain ⟨rfl, hG⟩ := hp9
      refine ZV_iret dX11_at_162 rfl ?_
      exact zlC (v := sOk T (nI (g_va T e2))) (by rw [sp_at, if_pos ⟨hE2, rfl⟩]; simp only [hc2]; rfl) (rfl) ⟨B, K, hG, kI_e hK ⟨rfl, rfl, rfl, rfl, rfl, rfl, rfl, rfl, rfl, rfl, rfl, rfl, rfl, rfl, rfl, rfl, rfl, rfl, rfl, rfl⟩⟩
    by_cases h18_8 : w = nI 8
    · subst h18_8
      refine ZV_tableIn (tgt := 163) dX11_at_18 (by decide) (by decide) rfl (by decide) ?_
      refine ZV_aload_n (n := 164) dX11_at_163 rfl rfl rfl ?_
      refine ZV_aload_n (n := 165) dX11_at_164 rfl rfl rfl ?_
      refine ZV_getIv (n := 168) dX11_at_165 fl_X11_232 rfl rfl rfl (cf_ek hG e2 he2).1 (cf_es hG e2 he2) ?_
      refine call_X11_98 (e_done hG _) rfl dX11_at_168 rfl (cf_sh hG :).1 (Nat.le_of_ble_eq_true rfl) (Nat.le_of_ble_eq_true rfl) rfl (fun r9 σ9 hp9 => ?_)
      obtain ⟨rfl, hG⟩ := hp9
      refine ZV_iret dX11_at_171 rfl ?_
      exact zlC (v := sOk T (nI (g_dt T e2))) (by rw [sp_at, if_pos ⟨hE2, rfl⟩]; simp only [hc2]; rfl) (rfl) ⟨B, K, hG, kI_e hK ⟨rfl, rfl, rfl, rfl, rfl, rfl, rfl, rfl, rfl, rfl, rfl, rfl, rfl, rfl, rfl, rfl, rfl, rfl, rfl, rfl⟩⟩
    have g18_0 := zne_toInt h18_0 (by decide)
    have g18_1 := zne_toInt h18_1 (by decide)
    have g18_2 := zne_toInt h18_2 (by decide)
    have g18_3 := zne_toInt h18_3 (by decide)
    have g18_4 := zne_toInt h18_4 (by decide)
    have g18_5 := zne_toInt h18_5 (by decide)
    have g18_6 := zne_toInt h18_6 (by decide)
    have g18_7 := zne_toInt h18_7 (by decide)
    have g18_8 := zne_toInt h18_8 (by decide)
    refine ZV_tableOut (tgt := 172) dX11_at_18 (by omega) (by decide) ?_
    have hw9 : inB w 9 = false := decide_eq_false (by omega)
    refine ZV_aload_n (n := 173) dX11_at_172 rfl rfl rfl ?_
    refine ZV_bipush (v := -2) (n := 175) dX11_at_173 rfl rfl ?_
    refine call_X11_87 (e_refuse hG _) rfl dX11_at_175 rfl (cf_sh hG :).1 (Nat.le_of_ble_eq_true rfl) (Nat.le_of_ble_eq_true rfl) rfl (fun r9 σ9 hp9 => ?_)
    obtain ⟨rfl, hG⟩ := hp9
    refine ZV_iret dX11_at_178 rfl ?_
    exact zlC (v := sNo T (-2)) (by simp [sp_at, hE2, hc2, h18_0, h18_1, h18_2, h18_3, h18_4, h18_5, h18_6, h18_7, h18_8, hw9]) rfl ⟨B, K, hG, kI_e hK ⟨rfl, rfl, rfl, rfl, rfl, rfl, rfl, rfl, rfl, rfl, rfl, rfl, rfl, rfl, rfl, rfl, rfl, rfl, rfl, rfl⟩⟩
