/-- alike but for the places of tuplets -/
def kM (K L : KS) : Prop := k_pa L = k_pa K ∧ k_va L = k_va K ∧ k_ea L = k_ea K ∧ k_ta L = k_ta K ∧ k_la L = k_la K ∧ k_wa L = k_wa K ∧ k_pl L = k_pl K ∧ k_bg L = k_bg K ∧ k_ls L = k_ls K ∧ k_vl L = k_vl K ∧ k_be L = k_be K ∧ k_wt L = k_wt K ∧ k_as L = k_as K
theorem kM_rf (K : KS) : kM K K := ⟨rfl, rfl, rfl, rfl, rfl, rfl, rfl, rfl, rfl, rfl, rfl, rfl, rfl⟩
theorem kM_t1 {K L : KS} (h : kM K L) (f : Nat → Nat) : kM K (j_t1 L f) := h
theorem kM_tk {K L : KS} (h : kM K L) (f : Nat → Nat) : kM K (j_tk L f) := h
/-- the tuplets of voice v below n have made room at p -/
def mkR (T : TS) (K0 K : KS) (v p n : Nat) : Prop := kM K0 K ∧ ∀ t, k_t1 K t = (if t < n ∧ g_tt T t = true ∧ g_tv T t = v ∧ p ≤ k_t1 K0 t then k_t1 K0 t + 1 else k_t1 K0 t) ∧ k_tk K t = (if t < n ∧ g_tt T t = true ∧ g_tv T t = v ∧ k_t1 K0 t < p ∧ p < k_t1 K0 t + k_tk K0 t then k_tk K0 t + 1 else k_tk K0 t)
theorem mkR_0 (T : TS) (K : KS) (v p : Nat) : mkR T K K v p 0 := ⟨kM_rf K, fun t => ⟨(if_neg (by omega)).symm, (if_neg (by omega)).symm⟩⟩
theorem mkR_no {T : TS} {K0 K : KS} {v p n : Nat} (h : mkR T K0 K v p n) (hn : ¬ (g_tt T n = true ∧ g_tv T n = v)) : mkR T K0 K v p (n + 1) := by
  refine ⟨h.1, fun t => ?_⟩
  have h1 := h.2 t
  rw [h1.1, h1.2]
  by_cases q : t = n
  · subst q
    rw [if_neg (fun z => hn ⟨z.2.1, z.2.2.1⟩), if_neg (fun z => hn ⟨z.2.1, z.2.2.1⟩), if_neg (fun z => hn ⟨z.2.1, z.2.2.1⟩), if_neg (fun z => hn ⟨z.2.1, z.2.2.1⟩)]
    exact ⟨rfl, rfl⟩
  · simp only [show (t < n + 1) ↔ t < n by omega]
    exact ⟨trivial, trivial⟩
theorem mkR_s {T : TS} {K0 K : KS} {v p n : Nat} (h : mkR T K0 K v p n) (h1 : g_tt T n = true) (h2 : g_tv T n = v) : mkR T K0 (mrK K n p) v p (n + 1) := by
  have e1 : k_t1 K n = k_t1 K0 n := by rw [(h.2 n).1, if_neg (by omega)]
  have e2 : k_tk K n = k_tk K0 n := by rw [(h.2 n).2, if_neg (by omega)]
  have hlow : ∀ t, t ≠ n → (k_t1 K t = (if t < n + 1 ∧ g_tt T t = true ∧ g_tv T t = v ∧ p ≤ k_t1 K0 t then k_t1 K0 t + 1 else k_t1 K0 t) ∧ k_tk K t = (if t < n + 1 ∧ g_tt T t = true ∧ g_tv T t = v ∧ k_t1 K0 t < p ∧ p < k_t1 K0 t + k_tk K0 t then k_tk K0 t + 1 else k_tk K0 t)) := by
    intro t ht
    have h3 := h.2 t
    rw [h3.1, h3.2]
    simp only [show (t < n + 1) ↔ t < n by omega]
    exact ⟨trivial, trivial⟩
  unfold mrK
  rw [e1, e2]
  by_cases q1 : p ≤ k_t1 K0 n
  · rw [if_pos q1]
    refine ⟨kM_t1 h.1 _, fun t => ?_⟩
    show va_up (k_t1 K) n (k_t1 K0 n + 1) t = _ ∧ k_tk K t = _
    by_cases q : t = n
    · subst q
      rw [up_eq, if_pos ⟨Nat.lt_succ_self _, h1, h2, q1⟩, if_neg (by omega), e2]
      exact ⟨rfl, rfl⟩
    · rw [up_ne q]
      exact hlow t q
  · rw [if_neg q1]
    by_cases q2 : p < k_t1 K0 n + k_tk K0 n
    · rw [if_pos q2]
      refine ⟨kM_tk h.1 _, fun t => ?_⟩
      show k_t1 K t = _ ∧ va_up (k_tk K) n (k_tk K0 n + 1) t = _
      by_cases q : t = n
      · subst q
        rw [up_eq, if_neg (by omega), if_pos ⟨Nat.lt_succ_self _, h1, h2, by omega, q2⟩, e1]
        exact ⟨rfl, rfl⟩
      · rw [up_ne q]
        exact hlow t q
    · rw [if_neg q2]
      refine ⟨h.1, fun t => ?_⟩
      by_cases q : t = n
      · subst q
        rw [e1, e2, if_neg (by omega), if_neg (by omega)]
        exact ⟨rfl, rfl⟩
      · exact hlow t q
theorem pt_tm2 {T : TS} (hI : tI T) {v p k : Nat} {q : Int32} {a d e : Nat} (he : e < g_ev T) (hte : g_th T e = true) (hne : g_vo T e ≠ v) : tmT (putT T v p k q a d) e = tmT T e := by
  have ho := pt_old T v p k q a d he hte
  rw [if_neg (fun z => hne z.1)] at ho
  unfold tmT
  rw [pt_te]
  refine tmF_cg ?_ (g_te T) (fun t ht => ?_)
  · unfold wrT
    rw [pt_kd, pt_dt, pt_va, up_ne (by omega), up_ne (by omega), up_ne (by omega)]
  · rw [pt_tn, pt_tm]
    refine ⟨?_, fun _ => ⟨rfl, rfl⟩⟩
    unfold liB
    rw [pt_tt, pt_tv, ho.2.1, ho.2.2, pt_tf, pt_tl]
    cases htt : g_tt T t with
    | false => rfl
    | true =>
      by_cases z : g_tv T t = g_vo T e
      · have h := ti_tp hI t ht htt
        have h1 := pt_old T v p k q a d h.1 h.2.2.1
        have h2 := pt_old T v p k q a d h.2.1 h.2.2.2.1
        rw [h.2.2.2.2.1, if_neg (fun y => hne (z ▸ y.1))] at h1
        rw [h.2.2.2.2.2.1, if_neg (fun y => hne (z ▸ y.1))] at h2
        rw [h1.2.2, h2.2.2]
      · rw [decide_eq_false (fun y => z y.1), decide_eq_false (fun y => z y.1)]
theorem kT_put {T : TS} {K0 K : KS} (hI : tI T) (hK : kT T K0) {v p k : Nat} {q : Int32} {a d : Nat} (h : mkR T K0 K v p (g_te T)) : kT (putT T v p k q a d) K := by
  intro t ht htt
  rw [pt_te] at ht
  rw [pt_tt] at htt
  have hk := hK t ht htt
  have h1 := h.2 t
  have g := ti_tp hI t ht htt
  have g1 := pt_old T v p k q a d g.1 g.2.2.1
  have g2 := pt_old T v p k q a d g.2.1 g.2.2.2.1
  rw [g.2.2.2.2.1] at g1
  rw [g.2.2.2.2.2.1] at g2
  have g7 := g.2.2.2.2.2.2
  rw [h1.1, h1.2, hk.1, hk.2]
  unfold szT
  rw [pt_tf, pt_tl, g1.2.2, g2.2.2]
  by_cases z : g_tv T t = v
  · simp only [ht, htt, z, true_and]
    clear h1 g g1 g2 hk
    split <;> first | omega | (split <;> first | omega | (split <;> omega))
  · simp only [z, false_and, and_false, ite_false]
    exact ⟨trivial, trivial⟩
theorem kI_put {T : TS} {K K1 L : KS} (hI : tI T) (hK : kI T K) {v p k : Nat} {q : Int32} {a d : Nat} (hv : v < 3 * g_np T) (hS : tI (putT T v p k q a d)) (hpl : ∀ e, e ≠ g_ev T → k_pl K1 e = k_pl K e ∧ k_bg K1 e = k_bg K e ∧ k_ls K1 e = k_ls K e) (hvl : k_vl K1 = k_vl K) (hbe : k_be K1 = k_be K) (has : k_as K1 = k_as K) (hkT : kT (putT T v p k q a d) K1) (h : loI (putT T v p k q a d) K1 L v) : kI (putT T v p k q a d) L := by
  have ho := kI_ot (v := v) (S := (putT T v p k q a d)) hI hS hK (pt_np T _ _ _ _ _ _) (fun w hw => by rw [pt_mn, up_ne hw]) (fun w hw => by rw [pt_ro, u2_ne hw]) (fun f hf htf hne => by
    rw [pt_ev] at hf
    have hfn : f ≠ g_ev T := fun z => hne (by rw [z]; exact (pt_new T v p k q a d).2.1)
    rw [pt_th, up_ne hfn] at htf
    have h1 := pt_old T v p k q a d (show f < g_ev T by omega) htf
    rw [h1.2.1] at hne
    rw [if_neg (fun z => hne z.1)] at h1
    exact ⟨by omega, htf, h1.2.1, h1.2.2⟩) (fun f hf htf hne => pt_tm2 hI hf htf hne)
  refine kI_lo hS (by rw [pt_np]; exact hv) h (fun e he hte hne => ?_) (fun w hw hwv => by rw [hvl]; exact ho.2 w hw hwv) hkT ?_ ?_
  · have hfn : e ≠ g_ev T := fun z => hne (by rw [z]; exact (pt_new T v p k q a d).2.1)
    rw [(hpl e hfn).1, (hpl e hfn).2.1, (hpl e hfn).2.2]
    exact ho.1 e he hte hne
  · rw [pt_nb, hbe]
    intro b2 hb2
    exact (ki_be hK b2 hb2).trans (baF_cg _ (fun _ _ => by rw [pt_bt])).symm
  · rw [pt_np, pt_tr, has]
    exact ki_as hK
theorem mrK_e (K : KS) (t p : Nat) : k_va (mrK K t p) = k_va K ∧ k_ea (mrK K t p) = k_ea K := by
  unfold mrK
  split
  · exact ⟨rfl, rfl⟩
  · split
    · exact ⟨rfl, rfl⟩
    · exact ⟨rfl, rfl⟩
set_option maxHeartbeats 4000000 in
set_option maxRecDepth 100000 in
theorem q_put {c : Nat} {σ : ZS} {T : TS} (hR : cR c σ T) (hI : tI T) (v p k q a d : Int32) : ZC M_X11_put [Ar (some c), Ai v, Ai p, Ai k, Ai q, Ai a, Ai d] σ (fun y0 τ0 => y0 = some (Ai (sp_put T v p k q a d).1) ∧ cR c τ0 (sp_put T v p k q a d).2) := by
  obtain ⟨B, K, hG, hK⟩ := hR
  have hbd := cf_bd hG
  refine ZC_of (ls := [some (Ar (some c)), some (Ai v), some (Ai p), some (Ai k), some (Ai q), some (Ai a), some (Ai d), none, none, none, none]) (by decide) (Nat.le_of_ble_eq_true rfl) rfl ?_
  refine ZV_aload_n (n := 1) dX11_put_0 rfl rfl rfl ?_
  refine ZV_iload_n (n := 2) dX11_put_1 rfl rfl rfl ?_
  refine call_X11_112 (e_voiceOf hG _) rfl dX11_put_2 rfl (cf_sh hG :).1 (Nat.le_of_ble_eq_true rfl) (Nat.le_of_ble_eq_true rfl) rfl (fun r9 σ9 hp9 => ?_)
  obtain ⟨hs9, hp9⟩ := hp9
  subst σ9
  rcases hp9 with ⟨hv2, hr9⟩ | ⟨v2, he2, hn2, hr9⟩
  · skip
    subst hr9
    refine ZV_astore_7 (n := 7) dX11_put_5 rfl (Nat.le_of_ble_eq_true rfl) rfl ?_
    refine ZV_aload (n := 9) dX11_put_7 rfl rfl ?_
    refine ZV_ifnull_n (tgt := 34) dX11_put_9 (by decide) ?_
    refine ZV_aload_n (n := 35) dX11_put_34 rfl rfl rfl ?_
    refine ZV_bipush (v := -2) (n := 37) dX11_put_35 rfl rfl ?_
    refine call_X11_87 (e_refuse hG _) rfl dX11_put_37 rfl (cf_sh hG :).1 (Nat.le_of_ble_eq_true rfl) (Nat.le_of_ble_eq_true rfl) rfl (fun r9 σ9 hp9 => ?_)
    obtain ⟨rfl, hG⟩ := hp9
    refine ZV_iret dX11_put_40 rfl ?_
    exact zlC (v := sNo T (-2)) (by rw [sp_put, if_neg (fun z => by rw [hv2] at z; cases z.1)]) rfl ⟨B, K, hG, kI_e hK ⟨rfl, rfl, rfl, rfl, rfl, rfl, rfl, rfl, rfl, rfl, rfl, rfl, rfl, rfl, rfl, rfl, rfl, rfl, rfl, rfl⟩⟩
  · skip
    subst hr9
    subst hn2
    have hE2 : inB (nI v2) (3 * g_np T) = true := by rw [inB_nI (by omega)]; exact decide_eq_true he2
    have hmn2 := ti_mn hI v2
    have hc2 : (nI v2).toNatClampNeg = v2 := nI_clamp (by omega)
    refine ZV_astore_7 (n := 7) dX11_put_5 rfl (Nat.le_of_ble_eq_true rfl) rfl ?_
    refine ZV_aload (n := 9) dX11_put_7 rfl rfl ?_
    refine ZV_ifnull_s (tgt := 34) (n := 12) dX11_put_9 (by decide) rfl ?_
    refine ZV_iload_n (n := 13) dX11_put_12 rfl rfl rfl ?_
    refine ZV_if_lt (tgt := 34) (n := 16) dX11_put_13 (by decide) rfl (fun h13 => ?_) (fun h13 => ?_)
    · skip
      refine ZV_aload_n (n := 35) dX11_put_34 rfl rfl rfl ?_
      refine ZV_bipush (v := -2) (n := 37) dX11_put_35 rfl rfl ?_
      refine call_X11_87 (e_refuse hG _) rfl dX11_put_37 rfl (cf_sh hG :).1 (Nat.le_of_ble_eq_true rfl) (Nat.le_of_ble_eq_true rfl) rfl (fun r9 σ9 hp9 => ?_)
      obtain ⟨rfl, hG⟩ := hp9
      refine ZV_iret dX11_put_40 rfl ?_
      exact zlC (v := sNo T (-2)) (by rw [sp_put, if_neg (fun z => by have y := z.2.1; rw [inB_lt0 _ h13] at y; cases y)]) rfl ⟨B, K, hG, kI_e hK ⟨rfl, rfl, rfl, rfl, rfl, rfl, rfl, rfl, rfl, rfl, rfl, rfl, rfl, rfl, rfl, rfl, rfl, rfl, rfl, rfl⟩⟩
    · skip
      refine ZV_iload_n (n := 17) dX11_put_16 rfl rfl rfl ?_
      refine ZV_aload (n := 19) dX11_put_17 rfl rfl ?_
      refine ZV_getIv (n := 22) dX11_put_19 fl_X11_116 rfl rfl rfl (cf_vk hG v2 he2).1 (cf_vs hG v2 he2) ?_
      refine ZV_icmp_gt (tgt := 34) (n := 25) dX11_put_22 (by decide) rfl (fun h22 => ?_) (fun h22 => ?_)
      · skip
        refine ZV_aload_n (n := 35) dX11_put_34 rfl rfl rfl ?_
        refine ZV_bipush (v := -2) (n := 37) dX11_put_35 rfl rfl ?_
        refine call_X11_87 (e_refuse hG _) rfl dX11_put_37 rfl (cf_sh hG :).1 (Nat.le_of_ble_eq_true rfl) (Nat.le_of_ble_eq_true rfl) rfl (fun r9 σ9 hp9 => ?_)
        obtain ⟨rfl, hG⟩ := hp9
        refine ZV_iret dX11_put_40 rfl ?_
        exact zlC (v := sNo T (-2)) (by rw [sp_put, if_neg (fun z => by have y := z.2.1; rw [hc2, inB_gt (by omega) h22] at y; cases y)]) rfl ⟨B, K, hG, kI_e hK ⟨rfl, rfl, rfl, rfl, rfl, rfl, rfl, rfl, rfl, rfl, rfl, rfl, rfl, rfl, rfl, rfl, rfl, rfl, rfl, rfl⟩⟩
      · skip
        refine ZV_iload_n (n := 26) dX11_put_25 rfl rfl rfl ?_
        refine ZV_if_lt (tgt := 34) (n := 29) dX11_put_26 (by decide) rfl (fun h26 => ?_) (fun h26 => ?_)
        · skip
          refine ZV_aload_n (n := 35) dX11_put_34 rfl rfl rfl ?_
          refine ZV_bipush (v := -2) (n := 37) dX11_put_35 rfl rfl ?_
          refine call_X11_87 (e_refuse hG _) rfl dX11_put_37 rfl (cf_sh hG :).1 (Nat.le_of_ble_eq_true rfl) (Nat.le_of_ble_eq_true rfl) rfl (fun r9 σ9 hp9 => ?_)
          obtain ⟨rfl, hG⟩ := hp9
          refine ZV_iret dX11_put_40 rfl ?_
          exact zlC (v := sNo T (-2)) (by rw [sp_put, if_neg (fun z => by have y := z.2.2.1; rw [inB_lt0 _ h26] at y; cases y)]) rfl ⟨B, K, hG, kI_e hK ⟨rfl, rfl, rfl, rfl, rfl, rfl, rfl, rfl, rfl, rfl, rfl, rfl, rfl, rfl, rfl, rfl, rfl, rfl, rfl, rfl⟩⟩
        · skip
          refine ZV_iload_n (n := 30) dX11_put_29 rfl rfl rfl ?_
          refine ZV_iconst (v := nI 4) (n := 31) dX11_put_30 rfl rfl ?_
          refine ZV_icmp_le (tgt := 41) (n := 34) dX11_put_31 (by decide) rfl (fun h31 => ?_) (fun h31 => ?_)
          · skip
            have hk6 := inB_okl (m := 4) (by decide) h26 (Int32.not_lt.mpr h31)
            obtain ⟨k9, hk9, hk92, rfl⟩ := inB_t hk6
            have hck9 : (nI k9).toNatClampNeg = k9 := nI_clamp hk92
            have hk6 : inB (nI k9) 5 = true := hk6
            have hP9 := inB_okl (m := g_mn T v2) (by omega) h13 h22
            obtain ⟨p9, hp9, hp92, rfl⟩ := inB_t hP9
            have hcp : (nI p9).toNatClampNeg = p9 := nI_clamp hp92
            have hP9 : inB (nI p9) (g_mn T v2 + 1) = true := hP9
            have hcv := hc2
            refine ZV_iload_n (n := 42) dX11_put_41 rfl rfl rfl ?_
            refine call_X11_119 (e_isNoteKind _ _ (by omega)) rfl dX11_put_42 (Nat.le_of_ble_eq_true rfl) (Nat.le_of_ble_eq_true rfl) rfl (fun r9 σ9 hp9 => ?_)
            obtain ⟨rfl, hs9⟩ := hp9
            subst σ9
            refine ZV_if_eqB (tgt := 57) (n := 48) dX11_put_45 (by decide) rfl (fun h45 => ?_) (fun h45 => ?_)
            · skip
              refine ZV_iload (n := 59) dX11_put_57 rfl rfl ?_
              refine call_X11_127 (e_isValue _ _) rfl dX11_put_59 (Nat.le_of_ble_eq_true rfl) (Nat.le_of_ble_eq_true rfl) rfl (fun r9 σ9 hp9 => ?_)
              obtain ⟨rfl, hs9⟩ := hp9
              subst σ9
              refine ZV_if_eqB (tgt := 73) (n := 65) dX11_put_62 (by decide) rfl (fun h62 => ?_) (fun h62 => ?_)
              · skip
                refine ZV_aload_n (n := 74) dX11_put_73 rfl rfl rfl ?_
                refine ZV_bipush (v := -2) (n := 76) dX11_put_74 rfl rfl ?_
                refine call_X11_87 (e_refuse hG _) rfl dX11_put_76 rfl (cf_sh hG :).1 (Nat.le_of_ble_eq_true rfl) (Nat.le_of_ble_eq_true rfl) rfl (fun r9 σ9 hp9 => ?_)
                obtain ⟨rfl, hG⟩ := hp9
                refine ZV_iret dX11_put_79 rfl ?_
                exact zlC (v := sNo T (-2)) (by rw [sp_put, if_neg (fun z => by have y := z.2.2.2.2.1; rw [h62] at y; cases y)]) rfl ⟨B, K, hG, kI_e hK ⟨rfl, rfl, rfl, rfl, rfl, rfl, rfl, rfl, rfl, rfl, rfl, rfl, rfl, rfl, rfl, rfl, rfl, rfl, rfl, rfl⟩⟩
              · skip
                refine ZV_iload (n := 67) dX11_put_65 rfl rfl ?_
                refine call_X11_130 (e_isDots _ _) rfl dX11_put_67 (Nat.le_of_ble_eq_true rfl) (Nat.le_of_ble_eq_true rfl) rfl (fun r9 σ9 hp9 => ?_)
                obtain ⟨rfl, hs9⟩ := hp9
                subst σ9
                refine ZV_if_neB (tgt := 80) (n := 73) dX11_put_70 (by decide) rfl (fun h70 => ?_) (fun h70 => ?_)
                · skip
                  have hk3 := of_decide_eq_false h45
                  have hq6 : (nI k9).toNatClampNeg < 3 → inB q 128 = true := fun z => absurd (hck9 ▸ z) hk3
                  have hqq : k9 < 3 → ∃ j, j ≤ 127 ∧ q = nI j := fun z => absurd z hk3
                  obtain ⟨a9, ha9, ha92, rfl⟩ := inB_t h62
                  have hca9 : (nI a9).toNatClampNeg = a9 := nI_clamp ha92
                  have h62 : inB (nI a9) 6 = true := h62
                  obtain ⟨d9, hd9, hd92, rfl⟩ := inB_t h70
                  have hcd9 : (nI d9).toNatClampNeg = d9 := nI_clamp hd92
                  have h70 : inB (nI d9) 3 = true := h70
                  have hq6 : k9 < 3 → inB q 128 = true := fun z => hq6 (by rw [hck9]; exact z)
                  refine ZV_aload_n (n := 81) dX11_put_80 rfl rfl rfl ?_
                  refine ZV_getIv (n := 84) dX11_put_81 fl_X11_38 rfl rfl rfl (cf_sh hG :).1 (cf_ev hG :) ?_
                  refine ZV_sipush (v := nI 150) (n := 87) dX11_put_84 rfl rfl ?_
                  refine ZV_icmp_geN (tgt := 100) (n := 90) dX11_put_87 (by decide) rfl (by omega) (by omega) (fun h87 => ?_) (fun h87 => ?_)
                  · skip
                    refine ZV_aload_n (n := 101) dX11_put_100 rfl rfl rfl ?_
                    refine ZV_bipush (v := -4) (n := 103) dX11_put_101 rfl rfl ?_
                    refine call_X11_87 (e_refuse hG _) rfl dX11_put_103 rfl (cf_sh hG :).1 (Nat.le_of_ble_eq_true rfl) (Nat.le_of_ble_eq_true rfl) rfl (fun r9 σ9 hp9 => ?_)
                    obtain ⟨rfl, hG⟩ := hp9
                    refine ZV_iret dX11_put_106 rfl ?_
                    exact zlC (v := sNo T (-4)) (by rw [sp_put, hcv, hcp, hck9, if_pos ⟨hE2, hP9, hk6, hq6, h62, h70⟩, if_pos (by omega)]) rfl ⟨B, K, hG, kI_e hK ⟨rfl, rfl, rfl, rfl, rfl, rfl, rfl, rfl, rfl, rfl, rfl, rfl, rfl, rfl, rfl, rfl, rfl, rfl, rfl, rfl⟩⟩
                  · skip
                    refine ZV_aload (n := 92) dX11_put_90 rfl rfl ?_
                    refine ZV_getIv (n := 95) dX11_put_92 fl_X11_116 rfl rfl rfl (cf_vk hG v2 he2).1 (cf_vs hG v2 he2) ?_
                    refine ZV_bipush (v := nI 40) (n := 97) dX11_put_95 rfl rfl ?_
                    refine ZV_icmp_ltN (tgt := 107) (n := 100) dX11_put_97 (by decide) rfl (by omega) (by omega) (fun h97 => ?_) (fun h97 => ?_)
                    · skip
                      have hn150 : g_ev T ≠ 150 := by omega
                      refine ZV_newC (ci := 2) (N := 11) (n := 110) dX11_put_107 rfl (by decide) rfl wd_1_30 wd_2_2 wd_1_11 ?_
                      obtain ⟨b9, hb9⟩ : ∃ b, b = zn σ := ⟨_, rfl⟩
                      rw [← hb9]
                      have hB9 : B ≤ b9 := by rw [hb9]; exact (cf_B hG).2
                      refine ZV_gen (P := fun τ => cG c B τ T K ∧ zk τ b9 = (1, 2) ∧ zn τ = b9 + 1) ⟨cG_ag (zag_new (cf_B hG).2) hG, by rw [hb9]; exact zk_new _ _, by rw [hb9]; rfl⟩ (fun σ hG9 => ?_)
                      clear hb9
                      obtain ⟨hG, hkb, hzb⟩ := hG9
                      refine ZV_dup (n := 111) dX11_put_110 rfl rfl ?_
                      refine ZV_aload_n (n := 112) dX11_put_111 rfl rfl rfl ?_
                      refine ZV_getIv (n := 115) dX11_put_112 fl_X11_38 rfl rfl rfl (cf_sh hG :).1 (cf_ev hG :) ?_
                      refine ZV_aload (n := 117) dX11_put_115 rfl rfl ?_
                      refine ZV_iload_n (n := 118) dX11_put_117 rfl rfl rfl ?_
                      refine ZV_iload (n := 120) dX11_put_118 rfl rfl ?_
                      refine ZV_iload (n := 122) dX11_put_120 rfl rfl ?_
                      refine ZV_iload (n := 124) dX11_put_122 rfl rfl ?_
                      refine call_X11_133 (e_X2_init hkb hzb (g_ev T) (k_va K v2) k9 q a9 d9 (by omega)) rfl dX11_put_124 (Nat.le_of_ble_eq_true rfl) (Nat.le_of_ble_eq_true rfl) rfl (fun r9 σ9 hp9 => ?_)
                      obtain ⟨rfl, hN⟩ := hp9
                      have hG7 := hG
                      have hG := cG_ag (zag_le hB9 hN.1) hG
                      refine ZV_astore_8 (n := 129) dX11_put_127 rfl (Nat.le_of_ble_eq_true rfl) rfl ?_
                      refine ZV_aload_n (n := 130) dX11_put_129 rfl rfl rfl ?_
                      refine ZV_getRv (n := 133) dX11_put_130 fl_X11_34 rfl rfl rfl (cf_sh hG :).1 (ca_events (cf_sh hG :)) ?_
                      refine ZV_aload_n (n := 134) dX11_put_133 rfl rfl rfl ?_
                      refine ZV_getIv (n := 137) dX11_put_134 fl_X11_38 rfl rfl rfl (cf_sh hG :).1 (cf_ev hG :) ?_
                      refine ZV_aload (n := 139) dX11_put_137 rfl rfl ?_
                      refine ZV_aast (c0 := 2) (j := g_ev T) (n := 140) dX11_put_139 rfl (by decide) (fun x9 q9 => by cases q9; exact ⟨2, hN.2.2.1, by decide, Or.inl rfl⟩) rfl (ck_events (cf_sh hG :)) rfl (by omega) ?_
                      refine ZV_aload_n (n := 141) dX11_put_140 rfl rfl rfl ?_
                      refine ZV_dup (n := 142) dX11_put_141 rfl rfl ?_
                      refine ZV_getIv (n := 145) dX11_put_142 fl_X11_38 rfl rfl rfl (cf_sh hG :).1 (cf_ev hG :) ?_
                      refine ZV_iconst (v := nI 1) (n := 146) dX11_put_145 rfl rfl ?_
                      refine ZV_iaddN (n := 147) dX11_put_146 rfl ?_
                      refine ZV_putI (n := 150) dX11_put_147 fl_X11_38 rfl (Or.inl rfl) rfl (fun h => absurd h (by decide)) rfl (cf_sh hG :).1 ?_
                      refine ZV_gen (P := fun τ => cG c _ τ _ _) (U_ev hG7 hB9 hzb hN hn150 (fun u p hu hp => (ti_ro hI u p (by omega) hp).1) (fun l hl hlt => (ti_lf hI l hl hlt).1) (fun l e hl hlt hq => (ti_lo hI l e hl hlt hq).1)) (fun σ hG => ?_)
                      refine ZV_aload (n := 152) dX11_put_150 rfl rfl ?_
                      refine ZV_iload_n (n := 153) dX11_put_152 rfl rfl rfl ?_
                      refine ZV_aload (n := 155) dX11_put_153 rfl rfl ?_
                      obtain ⟨K1, hK1⟩ : ∃ K1, K1 = (j_ls (j_bg (j_pl (j_ea K (va_up (k_ea K) (g_ev T) b9)) (va_up (k_pl K) (g_ev T) 0)) (va_up (k_bg K) (g_ev T) 0)) (va_up (k_ls K) (g_ev T) 0)) := ⟨_, rfl⟩
                      rw [← hK1] at hG
                      have ea1 : k_ea K1 (g_ev T) = b9 := by rw [hK1]; exact up_eq
                      have va1 : k_va K1 = k_va K := by rw [hK1]; rfl
                      rw [← ea1, ← va1]
                      refine call_X11_136 (e_insert hG (v := v2) (p := p9) (e := g_ev T) (by rw [ew_np]; exact he2) (by rw [ew_mn]; omega) (by rw [ew_mn]; omega) (by rw [ew_ev]; omega) (fun i hi => by rw [ew_mn] at hi; rw [ew_ro, ew_ev]; have := (ti_ro hI v2 i (by omega) hi).1; omega)) rfl dX11_put_155 rfl (cf_vk hG v2 (by rw [ew_np]; exact he2)).1 (Nat.le_of_ble_eq_true rfl) (Nat.le_of_ble_eq_true rfl) rfl (fun r9 σ9 hp9 => ?_)
                      obtain ⟨rfl, hG⟩ := hp9
                      have hG := cG_pl hG (fun f => if f = g_ev T then p9 else if g_th T f = true ∧ g_vo T f = v2 ∧ p9 ≤ g_pl T f then g_pl T f + 1 else g_pl T f)
                      rw [ew_ro, ew_mn] at hG
                      change cG c _ _ (putT T v2 p9 k9 q a9 d9) _ at hG
                      have hIP : tI (putT T v2 p9 k9 q a9 d9) := tI_put hI he2 (by omega) (by omega) hqq (by omega) (by omega) hn150 (by omega)
                      refine ZV_iconst (v := nI 0) (n := 159) dX11_put_158 rfl rfl ?_
                      refine ZV_istore_9 (n := 161) dX11_put_159 rfl (Nat.le_of_ble_eq_true rfl) rfl ?_
                      have loop : ∀ (n9 t : Nat) (K2 : KS) (τ : ZS), g_te T - t < n9 → t ≤ g_te T → cG c (b9 + 2) τ (putT T v2 p9 k9 q a9 d9) K2 → mkR T K1 K2 v2 p9 t → ZV M_X11_put (fun y0 τ0 => y0 = some (Ai (sp_put T (nI v2) (nI p9) (nI k9) q (nI a9) (nI d9)).1) ∧ cR c τ0 (sp_put T (nI v2) (nI p9) (nI k9) q (nI a9) (nI d9)).2) 161 [some (Ar (some c)), some (Ai (nI v2)), some (Ai (nI p9)), some (Ai (nI k9)), some (Ai q), some (Ai (nI a9)), some (Ai (nI d9)), some (Ar (some (k_va K2 v2))), some (Ar (some (k_ea K2 (g_ev T)))), some (Ai (nI t)), none] [] τ 0 3 := by
                        intro n9
                        induction n9 with
                        | zero => intro t K2 τ hme; exact absurd hme (Nat.not_lt_zero _)
                        | succ n9 ih =>
                          intro t K2 τ hme ht hG hM
                          refine ZV_iload (n := 163) dX11_put_161 rfl rfl ?_
                          refine ZV_aload_n (n := 164) dX11_put_163 rfl rfl rfl ?_
                          refine ZV_getIv (n := 167) dX11_put_164 fl_X11_47 rfl rfl rfl (cf_sh hG :).1 (show _ = nI (g_te T) from (cf_te hG).trans (congrArg nI (pt_te T _ _ _ _ _ _))) ?_
                          refine ZV_icmp_geN (tgt := 206) (n := 170) dX11_put_167 (by decide) rfl (by omega) (by omega) (fun h167 => ?_) (fun h167 => ?_)
                          · skip
                            refine ZV_aload_n (n := 207) dX11_put_206 rfl rfl rfl ?_
                            refine ZV_aload (n := 209) dX11_put_207 rfl rfl ?_
                            obtain rfl : t = g_te T := by omega
                            have hkT : kT (putT T v2 p9 k9 q a9 d9) K2 := kT_put hI (K0 := K1) (by rw [hK1]; exact ki_kT (K := K) hK) hM
                            refine call_X11_148 (e_layOut hG hIP (v := v2) (by rw [pt_np]; exact he2) hkT) rfl dX11_put_209 rfl (cf_sh hG :).1 (Nat.le_of_ble_eq_true rfl) (Nat.le_of_ble_eq_true rfl) rfl (fun r9 σ9 hp9 => ?_)
                            obtain ⟨rfl, L, hG, hlo⟩ := hp9
                            have eL : k_ea L = k_ea K2 := hlo.1.2.2.1
                            rw [← eL]
                            refine ZV_aload_n (n := 213) dX11_put_212 rfl rfl rfl ?_
                            refine ZV_aload (n := 215) dX11_put_213 rfl rfl ?_
                            refine ZV_getIv (w := nI (g_ev T)) (n := 218) dX11_put_215 fl_X11_152 rfl rfl rfl (cf_ek hG (g_ev T) (by rw [pt_ev]; omega)).1 (cf_en hG (g_ev T) (by rw [pt_ev]; omega)) ?_
                            refine call_X11_98 (e_done hG _) rfl dX11_put_218 rfl (cf_sh hG :).1 (Nat.le_of_ble_eq_true rfl) (Nat.le_of_ble_eq_true rfl) rfl (fun r9 σ9 hp9 => ?_)
                            obtain ⟨rfl, hG⟩ := hp9
                            refine ZV_iret dX11_put_221 rfl ?_
                            have hpl9 : ∀ e, e ≠ g_ev T → k_pl K2 e = k_pl K e ∧ k_bg K2 e = k_bg K e ∧ k_ls K2 e = k_ls K e := by
                              intro e hne
                              have m := hM.1
                              rw [m.2.2.2.2.2.2.1, m.2.2.2.2.2.2.2.1, m.2.2.2.2.2.2.2.2.1, hK1]
                              exact ⟨up_ne hne, up_ne hne, up_ne hne⟩
                            have hvl9 : k_vl K2 = k_vl K := by rw [hM.1.2.2.2.2.2.2.2.2.2.1, hK1]; rfl
                            have hbe9 : k_be K2 = k_be K := by rw [hM.1.2.2.2.2.2.2.2.2.2.2.1, hK1]; rfl
                            have has9 : k_as K2 = k_as K := by rw [hM.1.2.2.2.2.2.2.2.2.2.2.2.2, hK1]; rfl
                            exact zlC (v := sOk (putT T v2 p9 k9 q a9 d9) (nI (g_ev T))) (by rw [sp_put, hcv, hcp, hck9, hca9, hcd9, if_pos ⟨hE2, hP9, hk6, hq6, h62, h70⟩, if_neg (by omega)]) rfl ⟨_, L, hG, kI_e (T := (putT T v2 p9 k9 q a9 d9)) (kI_put hI hK he2 hIP hpl9 hvl9 hbe9 has9 hkT hlo) ⟨rfl, rfl, rfl, rfl, rfl, rfl, rfl, rfl, rfl, rfl, rfl, rfl, rfl, rfl, rfl, rfl, rfl, rfl, rfl, rfl⟩⟩
                          · skip
                            refine ZV_aload_n (n := 171) dX11_put_170 rfl rfl rfl ?_
                            refine ZV_getRv (n := 174) dX11_put_171 fl_X11_43 rfl rfl rfl (cf_sh hG :).1 (ca_tuplets (cf_sh hG :)) ?_
                            refine ZV_iload (n := 176) dX11_put_174 rfl rfl ?_
                            rcases hb176 : g_tt T t with _ | _
                            · skip
                              refine ZV_aaldv (c0 := 3) (w := none) (j := t) (n := 177) dX11_put_176 rfl (by decide) rfl (ck_tuplets (cf_sh hG :)) rfl (by omega) (Eq.trans (cf_ta hG t (by rw [pt_te]; omega)) (if_neg (by rw [pt_tt, hb176]; exact Bool.false_ne_true))) ?_
                              refine ZV_astore_10 (n := 179) dX11_put_177 rfl (Nat.le_of_ble_eq_true rfl) rfl ?_
                              refine ZV_aload (n := 181) dX11_put_179 rfl rfl ?_
                              refine ZV_ifnull_n (tgt := 200) dX11_put_181 (by decide) ?_
                              refine ZV_iincN_9 (v := 1) (n := 203) dX11_put_200 rfl rfl (Nat.le_of_ble_eq_true rfl) rfl ?_
                              refine ZV_goto (tgt := 161) dX11_put_203 (by decide) ?_
                              refine ZV_fg_10 ?_
                              exact ih (t + 1) K2 τ (by omega) (by omega) hG (mkR_no hM (fun z => by rw [hb176] at z; cases z.1))
                            · skip
                              refine ZV_aaldv (c0 := 3) (w := some (k_ta K2 t)) (j := t) (n := 177) dX11_put_176 rfl (by decide) rfl (ck_tuplets (cf_sh hG :)) rfl (by omega) (Eq.trans (cf_ta hG t (by rw [pt_te]; omega)) (if_pos (by rw [pt_tt]; exact hb176))) ?_
                              refine ZV_astore_10 (n := 179) dX11_put_177 rfl (Nat.le_of_ble_eq_true rfl) rfl ?_
                              refine ZV_aload (n := 181) dX11_put_179 rfl rfl ?_
                              refine ZV_ifnull_s (tgt := 200) (n := 184) dX11_put_181 (by decide) rfl ?_
                              refine ZV_aload (n := 186) dX11_put_184 rfl rfl ?_
                              have htv := tv_lt hI (t := t) (by omega) hb176
                              refine ZV_getRv (w := some (k_va K2 (g_tv T t))) (n := 189) dX11_put_186 fl_X11_140 rfl rfl rfl (cf_tk hG t (by rw [pt_te]; omega)).1 ((cf_to hG t (by rw [pt_te]; omega) (by rw [pt_tt]; exact hb176)).trans (by rw [pt_tv])) ?_
                              refine ZV_aload (n := 191) dX11_put_189 rfl rfl ?_
                              refine ZV_acmp_neI (i := g_tv T t) (j := v2) (tgt := 200) (n := 194) dX11_put_191 (by decide) rfl (va_inj hG (by rw [pt_np]; exact htv) (by rw [pt_np]; exact he2)) (fun q => congrArg (k_va K2) q) (fun h191 => ?_) (fun h191 => ?_)
                              · skip
                                refine ZV_iincN_9 (v := 1) (n := 203) dX11_put_200 rfl rfl (Nat.le_of_ble_eq_true rfl) rfl ?_
                                refine ZV_goto (tgt := 161) dX11_put_203 (by decide) ?_
                                refine ZV_fg_10 ?_
                                exact ih (t + 1) K2 τ (by omega) (by omega) hG (mkR_no hM (fun z => h191 z.2))
                              · skip
                                refine ZV_aload (n := 196) dX11_put_194 rfl rfl ?_
                                refine ZV_iload_n (n := 197) dX11_put_196 rfl rfl rfl ?_
                                have hkb9 : k_t1 K2 t ≤ 1000 ∧ k_tk K2 t ≤ 1000 := by
                                  have h8 := hM.2 t
                                  have h7 := kt_b hI hK (t := t) (by omega) hb176
                                  rw [if_neg (by omega)] at h8
                                  rw [if_neg (by omega)] at h8
                                  rw [h8.1, h8.2, hK1]
                                  exact h7
                                refine call_X11_144 (e_makeRoom hG (t := t) (by rw [pt_te]; omega) hkb9 (p := p9) (by omega)) rfl dX11_put_197 rfl (cf_tk hG t (by rw [pt_te]; omega)).1 (Nat.le_of_ble_eq_true rfl) (Nat.le_of_ble_eq_true rfl) rfl (fun r9 σ9 hp9 => ?_)
                                obtain ⟨rfl, hG⟩ := hp9
                                have ek1 : k_va (mrK K2 t p9) = k_va K2 ∧ k_ea (mrK K2 t p9) = k_ea K2 := mrK_e K2 t p9
                                rw [← ek1.1, ← ek1.2]
                                refine ZV_iincN_9 (v := 1) (n := 203) dX11_put_200 rfl rfl (Nat.le_of_ble_eq_true rfl) rfl ?_
                                refine ZV_goto (tgt := 161) dX11_put_203 (by decide) ?_
                                refine ZV_fg_10 ?_
                                exact ih (t + 1) (mrK K2 t p9) σ9 (by omega) (by omega) hG (mkR_s hM hb176 h191)
                      exact loop _ 0 K1 σ9 (Nat.lt_succ_self _) (Nat.zero_le _) hG (mkR_0 T K1 v2 p9)
                    · skip
                      refine ZV_aload_n (n := 101) dX11_put_100 rfl rfl rfl ?_
                      refine ZV_bipush (v := -4) (n := 103) dX11_put_101 rfl rfl ?_
                      refine call_X11_87 (e_refuse hG _) rfl dX11_put_103 rfl (cf_sh hG :).1 (Nat.le_of_ble_eq_true rfl) (Nat.le_of_ble_eq_true rfl) rfl (fun r9 σ9 hp9 => ?_)
                      obtain ⟨rfl, hG⟩ := hp9
                      refine ZV_iret dX11_put_106 rfl ?_
                      exact zlC (v := sNo T (-4)) (by rw [sp_put, hcv, hcp, hck9, if_pos ⟨hE2, hP9, hk6, hq6, h62, h70⟩, if_pos (by omega)]) rfl ⟨B, K, hG, kI_e hK ⟨rfl, rfl, rfl, rfl, rfl, rfl, rfl, rfl, rfl, rfl, rfl, rfl, rfl, rfl, rfl, rfl, rfl, rfl, rfl, rfl⟩⟩
                · skip
                  refine ZV_aload_n (n := 74) dX11_put_73 rfl rfl rfl ?_
                  refine ZV_bipush (v := -2) (n := 76) dX11_put_74 rfl rfl ?_
                  refine call_X11_87 (e_refuse hG _) rfl dX11_put_76 rfl (cf_sh hG :).1 (Nat.le_of_ble_eq_true rfl) (Nat.le_of_ble_eq_true rfl) rfl (fun r9 σ9 hp9 => ?_)
                  obtain ⟨rfl, hG⟩ := hp9
                  refine ZV_iret dX11_put_79 rfl ?_
                  exact zlC (v := sNo T (-2)) (by rw [sp_put, if_neg (fun z => by have y := z.2.2.2.2.2; rw [h70] at y; cases y)]) rfl ⟨B, K, hG, kI_e hK ⟨rfl, rfl, rfl, rfl, rfl, rfl, rfl, rfl, rfl, rfl, rfl, rfl, rfl, rfl, rfl, rfl, rfl, rfl, rfl, rfl⟩⟩
            · skip
              refine ZV_iload (n := 50) dX11_put_48 rfl rfl ?_
              refine ZV_i2l (n := 51) dX11_put_50 rfl ?_
              refine call_X11_123 (e_isPitch _ _) rfl dX11_put_51 (Nat.le_of_ble_eq_true rfl) (Nat.le_of_ble_eq_true rfl) rfl (fun r9 σ9 hp9 => ?_)
              obtain ⟨rfl, hs9⟩ := hp9
              subst σ9
              rw [show decide (0 ≤ (q.toInt64).toInt ∧ (q.toInt64).toInt ≤ 127) = inB q 128 from by rw [Int32.toInt_toInt64]; exact decide_eq_decide.mpr (by omega)]
              refine ZV_if_eqB (tgt := 73) (n := 57) dX11_put_54 (by decide) rfl (fun h54 => ?_) (fun h54 => ?_)
              · skip
                refine ZV_aload_n (n := 74) dX11_put_73 rfl rfl rfl ?_
                refine ZV_bipush (v := -2) (n := 76) dX11_put_74 rfl rfl ?_
                refine call_X11_87 (e_refuse hG _) rfl dX11_put_76 rfl (cf_sh hG :).1 (Nat.le_of_ble_eq_true rfl) (Nat.le_of_ble_eq_true rfl) rfl (fun r9 σ9 hp9 => ?_)
                obtain ⟨rfl, hG⟩ := hp9
                refine ZV_iret dX11_put_79 rfl ?_
                exact zlC (v := sNo T (-2)) (by rw [sp_put, if_neg (fun z => by have y := z.2.2.2.1 (by rw [hck9]; exact of_decide_eq_true h45); rw [h54] at y; cases y)]) rfl ⟨B, K, hG, kI_e hK ⟨rfl, rfl, rfl, rfl, rfl, rfl, rfl, rfl, rfl, rfl, rfl, rfl, rfl, rfl, rfl, rfl, rfl, rfl, rfl, rfl⟩⟩
              · skip
                refine ZV_iload (n := 59) dX11_put_57 rfl rfl ?_
                refine call_X11_127 (e_isValue _ _) rfl dX11_put_59 (Nat.le_of_ble_eq_true rfl) (Nat.le_of_ble_eq_true rfl) rfl (fun r9 σ9 hp9 => ?_)
                obtain ⟨rfl, hs9⟩ := hp9
                subst σ9
                refine ZV_if_eqB (tgt := 73) (n := 65) dX11_put_62 (by decide) rfl (fun h62 => ?_) (fun h62 => ?_)
                · skip
                  refine ZV_aload_n (n := 74) dX11_put_73 rfl rfl rfl ?_
                  refine ZV_bipush (v := -2) (n := 76) dX11_put_74 rfl rfl ?_
                  refine call_X11_87 (e_refuse hG _) rfl dX11_put_76 rfl (cf_sh hG :).1 (Nat.le_of_ble_eq_true rfl) (Nat.le_of_ble_eq_true rfl) rfl (fun r9 σ9 hp9 => ?_)
                  obtain ⟨rfl, hG⟩ := hp9
                  refine ZV_iret dX11_put_79 rfl ?_
                  exact zlC (v := sNo T (-2)) (by rw [sp_put, if_neg (fun z => by have y := z.2.2.2.2.1; rw [h62] at y; cases y)]) rfl ⟨B, K, hG, kI_e hK ⟨rfl, rfl, rfl, rfl, rfl, rfl, rfl, rfl, rfl, rfl, rfl, rfl, rfl, rfl, rfl, rfl, rfl, rfl, rfl, rfl⟩⟩
                · skip
                  refine ZV_iload (n := 67) dX11_put_65 rfl rfl ?_
                  refine call_X11_130 (e_isDots _ _) rfl dX11_put_67 (Nat.le_of_ble_eq_true rfl) (Nat.le_of_ble_eq_true rfl) rfl (fun r9 σ9 hp9 => ?_)
                  obtain ⟨rfl, hs9⟩ := hp9
                  subst σ9
                  refine ZV_if_neB (tgt := 80) (n := 73) dX11_put_70 (by decide) rfl (fun h70 => ?_) (fun h70 => ?_)
                  · skip
                    have hq6 : (nI k9).toNatClampNeg < 3 → inB q 128 = true := fun _ => h54
                    have hqq : k9 < 3 → ∃ j, j ≤ 127 ∧ q = nI j := fun _ => by obtain ⟨j, h7, h8, e⟩ := inB_t h54; exact ⟨j, by omega, e⟩
                    obtain ⟨a9, ha9, ha92, rfl⟩ := inB_t h62
                    have hca9 : (nI a9).toNatClampNeg = a9 := nI_clamp ha92
                    have h62 : inB (nI a9) 6 = true := h62
                    obtain ⟨d9, hd9, hd92, rfl⟩ := inB_t h70
                    have hcd9 : (nI d9).toNatClampNeg = d9 := nI_clamp hd92
                    have h70 : inB (nI d9) 3 = true := h70
                    have hq6 : k9 < 3 → inB q 128 = true := fun z => hq6 (by rw [hck9]; exact z)
                    refine ZV_aload_n (n := 81) dX11_put_80 rfl rfl rfl ?_
                    refine ZV_getIv (n := 84) dX11_put_81 fl_X11_38 rfl rfl rfl (cf_sh hG :).1 (cf_ev hG :) ?_
                    refine ZV_sipush (v := nI 150) (n := 87) dX11_put_84 rfl rfl ?_
                    refine ZV_icmp_geN (tgt := 100) (n := 90) dX11_put_87 (by decide) rfl (by omega) (by omega) (fun h87 => ?_) (fun h87 => ?_)
                    · skip
                      refine ZV_aload_n (n := 101) dX11_put_100 rfl rfl rfl ?_
                      refine ZV_bipush (v := -4) (n := 103) dX11_put_101 rfl rfl ?_
                      refine call_X11_87 (e_refuse hG _) rfl dX11_put_103 rfl (cf_sh hG :).1 (Nat.le_of_ble_eq_true rfl) (Nat.le_of_ble_eq_true rfl) rfl (fun r9 σ9 hp9 => ?_)
                      obtain ⟨rfl, hG⟩ := hp9
                      refine ZV_iret dX11_put_106 rfl ?_
                      exact zlC (v := sNo T (-4)) (by rw [sp_put, hcv, hcp, hck9, if_pos ⟨hE2, hP9, hk6, hq6, h62, h70⟩, if_pos (by omega)]) rfl ⟨B, K, hG, kI_e hK ⟨rfl, rfl, rfl, rfl, rfl, rfl, rfl, rfl, rfl, rfl, rfl, rfl, rfl, rfl, rfl, rfl, rfl, rfl, rfl, rfl⟩⟩
                    · skip
                      refine ZV_aload (n := 92) dX11_put_90 rfl rfl ?_
                      refine ZV_getIv (n := 95) dX11_put_92 fl_X11_116 rfl rfl rfl (cf_vk hG v2 he2).1 (cf_vs hG v2 he2) ?_
                      refine ZV_bipush (v := nI 40) (n := 97) dX11_put_95 rfl rfl ?_
                      refine ZV_icmp_ltN (tgt := 107) (n := 100) dX11_put_97 (by decide) rfl (by omega) (by omega) (fun h97 => ?_) (fun h97 => ?_)
                      · skip
                        have hn150 : g_ev T ≠ 150 := by omega
                        refine ZV_newC (ci := 2) (N := 11) (n := 110) dX11_put_107 rfl (by decide) rfl wd_1_30 wd_2_2 wd_1_11 ?_
                        obtain ⟨b9, hb9⟩ : ∃ b, b = zn σ := ⟨_, rfl⟩
                        rw [← hb9]
                        have hB9 : B ≤ b9 := by rw [hb9]; exact (cf_B hG).2
                        refine ZV_gen (P := fun τ => cG c B τ T K ∧ zk τ b9 = (1, 2) ∧ zn τ = b9 + 1) ⟨cG_ag (zag_new (cf_B hG).2) hG, by rw [hb9]; exact zk_new _ _, by rw [hb9]; rfl⟩ (fun σ hG9 => ?_)
                        clear hb9
                        obtain ⟨hG, hkb, hzb⟩ := hG9
                        refine ZV_dup (n := 111) dX11_put_110 rfl rfl ?_
                        refine ZV_aload_n (n := 112) dX11_put_111 rfl rfl rfl ?_
                        refine ZV_getIv (n := 115) dX11_put_112 fl_X11_38 rfl rfl rfl (cf_sh hG :).1 (cf_ev hG :) ?_
                        refine ZV_aload (n := 117) dX11_put_115 rfl rfl ?_
                        refine ZV_iload_n (n := 118) dX11_put_117 rfl rfl rfl ?_
                        refine ZV_iload (n := 120) dX11_put_118 rfl rfl ?_
                        refine ZV_iload (n := 122) dX11_put_120 rfl rfl ?_
                        refine ZV_iload (n := 124) dX11_put_122 rfl rfl ?_
                        refine call_X11_133 (e_X2_init hkb hzb (g_ev T) (k_va K v2) k9 q a9 d9 (by omega)) rfl dX11_put_124 (Nat.le_of_ble_eq_true rfl) (Nat.le_of_ble_eq_true rfl) rfl (fun r9 σ9 hp9 => ?_)
                        obtain ⟨rfl, hN⟩ := hp9
                        have hG7 := hG
                        have hG := cG_ag (zag_le hB9 hN.1) hG
                        refine ZV_astore_8 (n := 129) dX11_put_127 rfl (Nat.le_of_ble_eq_true rfl) rfl ?_
                        refine ZV_aload_n (n := 130) dX11_put_129 rfl rfl rfl ?_
                        refine ZV_getRv (n := 133) dX11_put_130 fl_X11_34 rfl rfl rfl (cf_sh hG :).1 (ca_events (cf_sh hG :)) ?_
                        refine ZV_aload_n (n := 134) dX11_put_133 rfl rfl rfl ?_
                        refine ZV_getIv (n := 137) dX11_put_134 fl_X11_38 rfl rfl rfl (cf_sh hG :).1 (cf_ev hG :) ?_
                        refine ZV_aload (n := 139) dX11_put_137 rfl rfl ?_
                        refine ZV_aast (c0 := 2) (j := g_ev T) (n := 140) dX11_put_139 rfl (by decide) (fun x9 q9 => by cases q9; exact ⟨2, hN.2.2.1, by decide, Or.inl rfl⟩) rfl (ck_events (cf_sh hG :)) rfl (by omega) ?_
                        refine ZV_aload_n (n := 141) dX11_put_140 rfl rfl rfl ?_
                        refine ZV_dup (n := 142) dX11_put_141 rfl rfl ?_
                        refine ZV_getIv (n := 145) dX11_put_142 fl_X11_38 rfl rfl rfl (cf_sh hG :).1 (cf_ev hG :) ?_
                        refine ZV_iconst (v := nI 1) (n := 146) dX11_put_145 rfl rfl ?_
                        refine ZV_iaddN (n := 147) dX11_put_146 rfl ?_
                        refine ZV_putI (n := 150) dX11_put_147 fl_X11_38 rfl (Or.inl rfl) rfl (fun h => absurd h (by decide)) rfl (cf_sh hG :).1 ?_
                        refine ZV_gen (P := fun τ => cG c _ τ _ _) (U_ev hG7 hB9 hzb hN hn150 (fun u p hu hp => (ti_ro hI u p (by omega) hp).1) (fun l hl hlt => (ti_lf hI l hl hlt).1) (fun l e hl hlt hq => (ti_lo hI l e hl hlt hq).1)) (fun σ hG => ?_)
                        refine ZV_aload (n := 152) dX11_put_150 rfl rfl ?_
                        refine ZV_iload_n (n := 153) dX11_put_152 rfl rfl rfl ?_
                        refine ZV_aload (n := 155) dX11_put_153 rfl rfl ?_
                        obtain ⟨K1, hK1⟩ : ∃ K1, K1 = (j_ls (j_bg (j_pl (j_ea K (va_up (k_ea K) (g_ev T) b9)) (va_up (k_pl K) (g_ev T) 0)) (va_up (k_bg K) (g_ev T) 0)) (va_up (k_ls K) (g_ev T) 0)) := ⟨_, rfl⟩
                        rw [← hK1] at hG
                        have ea1 : k_ea K1 (g_ev T) = b9 := by rw [hK1]; exact up_eq
                        have va1 : k_va K1 = k_va K := by rw [hK1]; rfl
                        rw [← ea1, ← va1]
                        refine call_X11_136 (e_insert hG (v := v2) (p := p9) (e := g_ev T) (by rw [ew_np]; exact he2) (by rw [ew_mn]; omega) (by rw [ew_mn]; omega) (by rw [ew_ev]; omega) (fun i hi => by rw [ew_mn] at hi; rw [ew_ro, ew_ev]; have := (ti_ro hI v2 i (by omega) hi).1; omega)) rfl dX11_put_155 rfl (cf_vk hG v2 (by rw [ew_np]; exact he2)).1 (Nat.le_of_ble_eq_true rfl) (Nat.le_of_ble_eq_true rfl) rfl (fun r9 σ9 hp9 => ?_)
                        obtain ⟨rfl, hG⟩ := hp9
                        have hG := cG_pl hG (fun f => if f = g_ev T then p9 else if g_th T f = true ∧ g_vo T f = v2 ∧ p9 ≤ g_pl T f then g_pl T f + 1 else g_pl T f)
                        rw [ew_ro, ew_mn] at hG
                        change cG c _ _ (putT T v2 p9 k9 q a9 d9) _ at hG
                        have hIP : tI (putT T v2 p9 k9 q a9 d9) := tI_put hI he2 (by omega) (by omega) hqq (by omega) (by omega) hn150 (by omega)
                        refine ZV_iconst (v := nI 0) (n := 159) dX11_put_158 rfl rfl ?_
                        refine ZV_istore_9 (n := 161) dX11_put_159 rfl (Nat.le_of_ble_eq_true rfl) rfl ?_
                        have loop : ∀ (n9 t : Nat) (K2 : KS) (τ : ZS), g_te T - t < n9 → t ≤ g_te T → cG c (b9 + 2) τ (putT T v2 p9 k9 q a9 d9) K2 → mkR T K1 K2 v2 p9 t → ZV M_X11_put (fun y0 τ0 => y0 = some (Ai (sp_put T (nI v2) (nI p9) (nI k9) q (nI a9) (nI d9)).1) ∧ cR c τ0 (sp_put T (nI v2) (nI p9) (nI k9) q (nI a9) (nI d9)).2) 161 [some (Ar (some c)), some (Ai (nI v2)), some (Ai (nI p9)), some (Ai (nI k9)), some (Ai q), some (Ai (nI a9)), some (Ai (nI d9)), some (Ar (some (k_va K2 v2))), some (Ar (some (k_ea K2 (g_ev T)))), some (Ai (nI t)), none] [] τ 0 3 := by
                          intro n9
                          induction n9 with
                          | zero => intro t K2 τ hme; exact absurd hme (Nat.not_lt_zero _)
                          | succ n9 ih =>
                            intro t K2 τ hme ht hG hM
                            refine ZV_iload (n := 163) dX11_put_161 rfl rfl ?_
                            refine ZV_aload_n (n := 164) dX11_put_163 rfl rfl rfl ?_
                            refine ZV_getIv (n := 167) dX11_put_164 fl_X11_47 rfl rfl rfl (cf_sh hG :).1 (show _ = nI (g_te T) from (cf_te hG).trans (congrArg nI (pt_te T _ _ _ _ _ _))) ?_
                            refine ZV_icmp_geN (tgt := 206) (n := 170) dX11_put_167 (by decide) rfl (by omega) (by omega) (fun h167 => ?_) (fun h167 => ?_)
                            · skip
                              refine ZV_aload_n (n := 207) dX11_put_206 rfl rfl rfl ?_
                              refine ZV_aload (n := 209) dX11_put_207 rfl rfl ?_
                              obtain rfl : t = g_te T := by omega
                              have hkT : kT (putT T v2 p9 k9 q a9 d9) K2 := kT_put hI (K0 := K1) (by rw [hK1]; exact ki_kT (K := K) hK) hM
                              refine call_X11_148 (e_layOut hG hIP (v := v2) (by rw [pt_np]; exact he2) hkT) rfl dX11_put_209 rfl (cf_sh hG :).1 (Nat.le_of_ble_eq_true rfl) (Nat.le_of_ble_eq_true rfl) rfl (fun r9 σ9 hp9 => ?_)
                              obtain ⟨rfl, L, hG, hlo⟩ := hp9
                              have eL : k_ea L = k_ea K2 := hlo.1.2.2.1
                              rw [← eL]
                              refine ZV_aload_n (n := 213) dX11_put_212 rfl rfl rfl ?_
                              refine ZV_aload (n := 215) dX11_put_213 rfl rfl ?_
                              refine ZV_getIv (w := nI (g_ev T)) (n := 218) dX11_put_215 fl_X11_152 rfl rfl rfl (cf_ek hG (g_ev T) (by rw [pt_ev]; omega)).1 (cf_en hG (g_ev T) (by rw [pt_ev]; omega)) ?_
                              refine call_X11_98 (e_done hG _) rfl dX11_put_218 rfl (cf_sh hG :).1 (Nat.le_of_ble_eq_true rfl) (Nat.le_of_ble_eq_true rfl) rfl (fun r9 σ9 hp9 => ?_)
                              obtain ⟨rfl, hG⟩ := hp9
                              refine ZV_iret dX11_put_221 rfl ?_
                              have hpl9 : ∀ e, e ≠ g_ev T → k_pl K2 e = k_pl K e ∧ k_bg K2 e = k_bg K e ∧ k_ls K2 e = k_ls K e := by
                                intro e hne
                                have m := hM.1
                                rw [m.2.2.2.2.2.2.1, m.2.2.2.2.2.2.2.1, m.2.2.2.2.2.2.2.2.1, hK1]
                                exact ⟨up_ne hne, up_ne hne, up_ne hne⟩
                              have hvl9 : k_vl K2 = k_vl K := by rw [hM.1.2.2.2.2.2.2.2.2.2.1, hK1]; rfl
                              have hbe9 : k_be K2 = k_be K := by rw [hM.1.2.2.2.2.2.2.2.2.2.2.1, hK1]; rfl
                              have has9 : k_as K2 = k_as K := by rw [hM.1.2.2.2.2.2.2.2.2.2.2.2.2, hK1]; rfl
                              exact zlC (v := sOk (putT T v2 p9 k9 q a9 d9) (nI (g_ev T))) (by rw [sp_put, hcv, hcp, hck9, hca9, hcd9, if_pos ⟨hE2, hP9, hk6, hq6, h62, h70⟩, if_neg (by omega)]) rfl ⟨_, L, hG, kI_e (T := (putT T v2 p9 k9 q a9 d9)) (kI_put hI hK he2 hIP hpl9 hvl9 hbe9 has9 hkT hlo) ⟨rfl, rfl, rfl, rfl, rfl, rfl, rfl, rfl, rfl, rfl, rfl, rfl, rfl, rfl, rfl, rfl, rfl, rfl, rfl, rfl⟩⟩
                            · skip
                              refine ZV_aload_n (n := 171) dX11_put_170 rfl rfl rfl ?_
                              refine ZV_getRv (n := 174) dX11_put_171 fl_X11_43 rfl rfl rfl (cf_sh hG :).1 (ca_tuplets (cf_sh hG :)) ?_
                              refine ZV_iload (n := 176) dX11_put_174 rfl rfl ?_
                              rcases hb176 : g_tt T t with _ | _
                              · skip
                                refine ZV_aaldv (c0 := 3) (w := none) (j := t) (n := 177) dX11_put_176 rfl (by decide) rfl (ck_tuplets (cf_sh hG :)) rfl (by omega) (Eq.trans (cf_ta hG t (by rw [pt_te]; omega)) (if_neg (by rw [pt_tt, hb176]; exact Bool.false_ne_true))) ?_
                                refine ZV_astore_10 (n := 179) dX11_put_177 rfl (Nat.le_of_ble_eq_true rfl) rfl ?_
                                refine ZV_aload (n := 181) dX11_put_179 rfl rfl ?_
                                refine ZV_ifnull_n (tgt := 200) dX11_put_181 (by decide) ?_
                                refine ZV_iincN_9 (v := 1) (n := 203) dX11_put_200 rfl rfl (Nat.le_of_ble_eq_true rfl) rfl ?_
                                refine ZV_goto (tgt := 161) dX11_put_203 (by decide) ?_
                                refine ZV_fg_10 ?_
                                exact ih (t + 1) K2 τ (by omega) (by omega) hG (mkR_no hM (fun z => by rw [hb176] at z; cases z.1))
                              · skip
                                refine ZV_aaldv (c0 := 3) (w := some (k_ta K2 t)) (j := t) (n := 177) dX11_put_176 rfl (by decide) rfl (ck_tuplets (cf_sh hG :)) rfl (by omega) (Eq.trans (cf_ta hG t (by rw [pt_te]; omega)) (if_pos (by rw [pt_tt]; exact hb176))) ?_
                                refine ZV_astore_10 (n := 179) dX11_put_177 rfl (Nat.le_of_ble_eq_true rfl) rfl ?_
                                refine ZV_aload (n := 181) dX11_put_179 rfl rfl ?_
                                refine ZV_ifnull_s (tgt := 200) (n := 184) dX11_put_181 (by decide) rfl ?_
                                refine ZV_aload (n := 186) dX11_put_184 rfl rfl ?_
                                have htv := tv_lt hI (t := t) (by omega) hb176
                                refine ZV_getRv (w := some (k_va K2 (g_tv T t))) (n := 189) dX11_put_186 fl_X11_140 rfl rfl rfl (cf_tk hG t (by rw [pt_te]; omega)).1 ((cf_to hG t (by rw [pt_te]; omega) (by rw [pt_tt]; exact hb176)).trans (by rw [pt_tv])) ?_
                                refine ZV_aload (n := 191) dX11_put_189 rfl rfl ?_
                                refine ZV_acmp_neI (i := g_tv T t) (j := v2) (tgt := 200) (n := 194) dX11_put_191 (by decide) rfl (va_inj hG (by rw [pt_np]; exact htv) (by rw [pt_np]; exact he2)) (fun q => congrArg (k_va K2) q) (fun h191 => ?_) (fun h191 => ?_)
                                · skip
                                  refine ZV_iincN_9 (v := 1) (n := 203) dX11_put_200 rfl rfl (Nat.le_of_ble_eq_true rfl) rfl ?_
                                  refine ZV_goto (tgt := 161) dX11_put_203 (by decide) ?_
                                  refine ZV_fg_10 ?_
                                  exact ih (t + 1) K2 τ (by omega) (by omega) hG (mkR_no hM (fun z => h191 z.2))
                                · skip
                                  refine ZV_aload (n := 196) dX11_put_194 rfl rfl ?_
                                  refine ZV_iload_n (n := 197) dX11_put_196 rfl rfl rfl ?_
                                  have hkb9 : k_t1 K2 t ≤ 1000 ∧ k_tk K2 t ≤ 1000 := by
                                    have h8 := hM.2 t
                                    have h7 := kt_b hI hK (t := t) (by omega) hb176
                                    rw [if_neg (by omega)] at h8
                                    rw [if_neg (by omega)] at h8
                                    rw [h8.1, h8.2, hK1]
                                    exact h7
                                  refine call_X11_144 (e_makeRoom hG (t := t) (by rw [pt_te]; omega) hkb9 (p := p9) (by omega)) rfl dX11_put_197 rfl (cf_tk hG t (by rw [pt_te]; omega)).1 (Nat.le_of_ble_eq_true rfl) (Nat.le_of_ble_eq_true rfl) rfl (fun r9 σ9 hp9 => ?_)
                                  obtain ⟨rfl, hG⟩ := hp9
                                  have ek1 : k_va (mrK K2 t p9) = k_va K2 ∧ k_ea (mrK K2 t p9) = k_ea K2 := mrK_e K2 t p9
                                  rw [← ek1.1, ← ek1.2]
                                  refine ZV_iincN_9 (v := 1) (n := 203) dX11_put_200 rfl rfl (Nat.le_of_ble_eq_true rfl) rfl ?_
                                  refine ZV_goto (tgt := 161) dX11_put_203 (by decide) ?_
                                  refine ZV_fg_10 ?_
                                  exact ih (t + 1) (mrK K2 t p9) σ9 (by omega) (by omega) hG (mkR_s hM hb176 h191)
                        exact loop _ 0 K1 σ9 (Nat.lt_succ_self _) (Nat.zero_le _) hG (mkR_0 T K1 v2 p9)
                      · skip
                        refine ZV_aload_n (n := 101) dX11_put_100 rfl rfl rfl ?_
                        refine ZV_bipush (v := -4) (n := 103) dX11_put_101 rfl rfl ?_
                        refine call_X11_87 (e_refuse hG _) rfl dX11_put_103 rfl (cf_sh hG :).1 (Nat.le_of_ble_eq_true rfl) (Nat.le_of_ble_eq_true rfl) rfl (fun r9 σ9 hp9 => ?_)
                        obtain ⟨rfl, hG⟩ := hp9
                        refine ZV_iret dX11_put_106 rfl ?_
                        exact zlC (v := sNo T (-4)) (by rw [sp_put, hcv, hcp, hck9, if_pos ⟨hE2, hP9, hk6, hq6, h62, h70⟩, if_pos (by omega)]) rfl ⟨B, K, hG, kI_e hK ⟨rfl, rfl, rfl, rfl, rfl, rfl, rfl, rfl, rfl, rfl, rfl, rfl, rfl, rfl, rfl, rfl, rfl, rfl, rfl, rfl⟩⟩
                  · skip
                    refine ZV_aload_n (n := 74) dX11_put_73 rfl rfl rfl ?_
                    refine ZV_bipush (v := -2) (n := 76) dX11_put_74 rfl rfl ?_
                    refine call_X11_87 (e_refuse hG _) rfl dX11_put_76 rfl (cf_sh hG :).1 (Nat.le_of_ble_eq_true rfl) (Nat.le_of_ble_eq_true rfl) rfl (fun r9 σ9 hp9 => ?_)
                    obtain ⟨rfl, hG⟩ := hp9
                    refine ZV_iret dX11_put_79 rfl ?_
                    exact zlC (v := sNo T (-2)) (by rw [sp_put, if_neg (fun z => by have y := z.2.2.2.2.2; rw [h70] at y; cases y)]) rfl ⟨B, K, hG, kI_e hK ⟨rfl, rfl, rfl, rfl, rfl, rfl, rfl, rfl, rfl, rfl, rfl, rfl, rfl, rfl, rfl, rfl, rfl, rfl, rfl, rfl⟩⟩
          · skip
            refine ZV_aload_n (n := 35) dX11_put_34 rfl rfl rfl ?_
            refine ZV_bipush (v := -2) (n := 37) dX11_put_35 rfl rfl ?_
            refine call_X11_87 (e_refuse hG _) rfl dX11_put_37 rfl (cf_sh hG :).1 (Nat.le_of_ble_eq_true rfl) (Nat.le_of_ble_eq_true rfl) rfl (fun r9 σ9 hp9 => ?_)
            obtain ⟨rfl, hG⟩ := hp9
            refine ZV_iret dX11_put_40 rfl ?_
            exact zlC (v := sNo T (-2)) (by rw [sp_put, if_neg (fun z => by have y := z.2.2.1; rw [inB_gt (m := 4) (by decide) (Int32.not_le.mp h31)] at y; cases y)]) rfl ⟨B, K, hG, kI_e hK ⟨rfl, rfl, rfl, rfl, rfl, rfl, rfl, rfl, rfl, rfl, rfl, rfl, rfl, rfl, rfl, rfl, rfl, rfl, rfl, rfl⟩⟩
