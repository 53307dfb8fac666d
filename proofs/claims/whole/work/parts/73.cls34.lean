theorem nw_ev {T : TS} (hI : tI T) {g : Nat → Nat} {n f : Nat} (hn : n ≤ 18) (h : nwF T g n = some f) : f < g_ev T ∧ g_th T f = true := by
  obtain ⟨v, hv, hg, hf, -⟩ := nwF_so T g n f h
  have := ti_ro hI v (g v) (by omega) hg
  rw [hf]
  exact ⟨this.1, this.2.1⟩
theorem bgE_lt {T : TS} (hI : tI T) {e : Nat} (he : e < g_ev T) (ht : g_th T e = true) : bgE T e < 9223372036854775808 := bg_lt hI _ _ (ti_pl hI _ he ht).1
set_option maxHeartbeats 4000000 in
set_option maxRecDepth 100000 in
theorem e_nextToWalk {c B : Nat} {σ : ZS} {T : TS} {K : KS} (hG : cG c B σ T K) (hI : tI T) (hK : kI T K) (hwt : ∀ v, v < 3 * g_np T → k_wt K v ≤ g_mn T v) : ZC M_X11_nextToWalk [Ar (some c), Ai (nI (3 * g_np T))] σ (fun r τ => τ = σ ∧ r = some (Ar ((nwF T (k_wt K) (3 * g_np T)).map (k_ea K)))) := by
  have hbd := cf_bd hG
  refine ZC_of (ls := [some (Ar (some c)), some (Ai (nI (3 * g_np T))), none, none, none]) (by decide) (Nat.le_of_ble_eq_true rfl) rfl ?_
  have loop : ∀ (n9 : Nat) (v : Nat), 3 * g_np T - v < n9 → v ≤ 3 * g_np T → ZV M_X11_nextToWalk (fun r τ => τ = σ ∧ r = some (Ar ((nwF T (k_wt K) (3 * g_np T)).map (k_ea K)))) 4 [some (Ar (some c)), some (Ai (nI (3 * g_np T))), some (Ar ((nwF T (k_wt K) v).map (k_ea K))), some (Ai (nI v)), none] [] σ (zmC M_X11_nextToWalk) (zmS M_X11_nextToWalk) := by
    intro n9
    induction n9 with
    | zero => intro v hme; exact absurd hme (Nat.not_lt_zero _)
    | succ n9 ih =>
      intro v hme hv
      have hmn := ti_mn hI v
      have hwv : v < 3 * g_np T → k_wt K v ≤ g_mn T v := hwt v
      refine ZV_iload_n (n := 5) dX11_nextToWalk_4 rfl rfl rfl ?_
      refine ZV_iload_n (n := 6) dX11_nextToWalk_5 rfl rfl rfl ?_
      refine ZV_icmp_geN (tgt := 60) (n := 9) dX11_nextToWalk_6 (by decide) rfl (by omega) (by omega) (fun h6 => ?_) (fun h6 => ?_)
      · skip
        refine ZV_aload_n (n := 61) dX11_nextToWalk_60 rfl rfl rfl ?_
        refine ZV_aret dX11_nextToWalk_61 rfl ?_
        obtain rfl : v = 3 * g_np T := by omega
        exact ⟨rfl, rfl⟩
      · skip
        refine ZV_aload_n (n := 10) dX11_nextToWalk_9 rfl rfl rfl ?_
        refine ZV_getRv (n := 13) dX11_nextToWalk_10 fl_X11_21 rfl rfl rfl (cf_sh hG :).1 (ca_voices (cf_sh hG :)) ?_
        refine ZV_iload_n (n := 14) dX11_nextToWalk_13 rfl rfl rfl ?_
        refine ZV_aaldv (c0 := 1) (j := v) (n := 15) dX11_nextToWalk_14 rfl (by decide) rfl (ck_voices (cf_sh hG :)) rfl (by omega) (cf_va hG v (by omega)) ?_
        refine ZV_aload_n (n := 16) dX11_nextToWalk_15 rfl rfl rfl ?_
        refine ZV_getRv (n := 19) dX11_nextToWalk_16 fl_X11_21 rfl rfl rfl (cf_sh hG :).1 (ca_voices (cf_sh hG :)) ?_
        refine ZV_iload_n (n := 20) dX11_nextToWalk_19 rfl rfl rfl ?_
        refine ZV_aaldv (c0 := 1) (j := v) (n := 21) dX11_nextToWalk_20 rfl (by decide) rfl (ck_voices (cf_sh hG :)) rfl (by omega) (cf_va hG v (by omega)) ?_
        refine ZV_getIv (n := 24) dX11_nextToWalk_21 fl_X11_325 rfl rfl rfl (cf_vk hG v (by omega)).1 (cf_vw hG v (by omega)) ?_
        refine call_X11_265 (e_eventAt hG (v := v) (by omega) hmn _) rfl dX11_nextToWalk_24 rfl (cf_vk hG v (by omega)).1 (Nat.le_of_ble_eq_true rfl) (Nat.le_of_ble_eq_true rfl) rfl (fun r9 σ9 hp9 => ?_)
        obtain ⟨hs9, hp9⟩ := hp9
        subst σ9
        rcases hp9 with ⟨hw24, hr9⟩ | ⟨j9, hj9, hn24, hr9⟩
        · skip
          subst hr9
          rw [inB_nI (by omega)] at hw24
          have hw24 := of_decide_eq_false hw24
          refine ZV_astore_4 (n := 29) dX11_nextToWalk_27 rfl (Nat.le_of_ble_eq_true rfl) rfl ?_
          refine ZV_aload (n := 31) dX11_nextToWalk_29 rfl rfl ?_
          refine ZV_ifnull_n (tgt := 54) dX11_nextToWalk_31 (by decide) ?_
          refine ZV_iincN_3 (v := 1) (n := 57) dX11_nextToWalk_54 rfl rfl (Nat.le_of_ble_eq_true rfl) rfl ?_
          refine ZV_goto (tgt := 4) dX11_nextToWalk_57 (by decide) ?_
          refine ZV_fg_4 ?_
          rw [show nwF T (k_wt K) v = nwF T (k_wt K) (v + 1) from by rw [nwF, if_neg hw24]]
          exact ih (v + 1) (by omega) (by omega)
        · skip
          subst hr9
          obtain rfl : j9 = k_wt K v := ((nI_eq (by omega) (by omega)).mp hn24).symm
          have hce := ti_ro hI v (k_wt K v) (by omega) hj9
          have hbc := bgE_lt hI hce.1 hce.2.1
          refine ZV_astore_4 (n := 29) dX11_nextToWalk_27 rfl (Nat.le_of_ble_eq_true rfl) rfl ?_
          refine ZV_aload (n := 31) dX11_nextToWalk_29 rfl rfl ?_
          refine ZV_ifnull_s (tgt := 54) (n := 34) dX11_nextToWalk_31 (by decide) rfl ?_
          rcases hn9 : nwF T (k_wt K) v with _ | f9
          · skip
            refine ZV_aload_n (n := 35) (x := none) dX11_nextToWalk_34 rfl rfl rfl ?_
            refine ZV_ifnull_n (tgt := 51) dX11_nextToWalk_35 (by decide) ?_
            refine ZV_aload (n := 53) dX11_nextToWalk_51 rfl rfl ?_
            refine ZV_astore_2 (n := 54) dX11_nextToWalk_53 rfl (Nat.le_of_ble_eq_true rfl) rfl ?_
            refine ZV_iincN_3 (v := 1) (n := 57) dX11_nextToWalk_54 rfl rfl (Nat.le_of_ble_eq_true rfl) rfl ?_
            refine ZV_goto (tgt := 4) dX11_nextToWalk_57 (by decide) ?_
            refine ZV_fg_4 ?_
            have e9 : nwF T (k_wt K) (v + 1) = some (g_ro T v (k_wt K v)) := by rw [nwF, if_pos hj9, hn9]
            have ih9 := ih (v + 1) (by omega) (by omega)
            rw [e9] at ih9
            exact ih9
          · skip
            have hf9 := nw_ev hI (by omega) hn9
            have hbf := bgE_lt hI hf9.1 hf9.2
            refine ZV_aload_n (n := 35) (x := some (k_ea K f9)) dX11_nextToWalk_34 rfl rfl rfl ?_
            refine ZV_ifnull_s (tgt := 51) (n := 38) dX11_nextToWalk_35 (by decide) rfl ?_
            refine ZV_aload (n := 40) dX11_nextToWalk_38 rfl rfl ?_
            refine ZV_getLv (n := 43) dX11_nextToWalk_40 fl_X11_240 rfl rfl rfl (cf_ek hG (g_ro T v (k_wt K v)) hce.1).1 (show _ = lN (bgE T (g_ro T v (k_wt K v))) from (cf_eb hG _ hce.1).trans (congrArg lN (ki_bg hK _ hce.1 hce.2.1))) ?_
            refine ZV_aload_n (n := 44) dX11_nextToWalk_43 rfl rfl rfl ?_
            refine ZV_getLv (n := 47) dX11_nextToWalk_44 fl_X11_240 rfl rfl rfl (cf_ek hG f9 hf9.1).1 (show _ = lN (bgE T (f9)) from (cf_eb hG _ hf9.1).trans (congrArg lN (ki_bg hK _ hf9.1 hf9.2))) ?_
            refine ZV_lcmp_geN (tgt := 54) (pc1 := 48) (n := 51) dX11_nextToWalk_47 rfl dX11_nextToWalk_48 (by decide) rfl (by omega) (by omega) (fun h47 => ?_) (fun h47 => ?_)
            · skip
              refine ZV_iincN_3 (v := 1) (n := 57) dX11_nextToWalk_54 rfl rfl (Nat.le_of_ble_eq_true rfl) rfl ?_
              refine ZV_goto (tgt := 4) dX11_nextToWalk_57 (by decide) ?_
              refine ZV_fg_4 ?_
              have e9 : nwF T (k_wt K) (v + 1) = some f9 := by rw [nwF, if_pos hj9, hn9]; exact if_neg (by omega)
              have ih9 := ih (v + 1) (by omega) (by omega)
              rw [e9] at ih9
              exact ih9
            · skip
              refine ZV_aload (n := 53) dX11_nextToWalk_51 rfl rfl ?_
              refine ZV_astore_2 (n := 54) dX11_nextToWalk_53 rfl (Nat.le_of_ble_eq_true rfl) rfl ?_
              refine ZV_iincN_3 (v := 1) (n := 57) dX11_nextToWalk_54 rfl rfl (Nat.le_of_ble_eq_true rfl) rfl ?_
              refine ZV_goto (tgt := 4) dX11_nextToWalk_57 (by decide) ?_
              refine ZV_fg_4 ?_
              have e9 : nwF T (k_wt K) (v + 1) = some (g_ro T v (k_wt K v)) := by rw [nwF, if_pos hj9, hn9]; exact if_pos h47
              have ih9 := ih (v + 1) (by omega) (by omega)
              rw [e9] at ih9
              exact ih9
  refine ZV_null (n := 1) dX11_nextToWalk_0 rfl ?_
  refine ZV_astore_2 (n := 2) dX11_nextToWalk_1 rfl (Nat.le_of_ble_eq_true rfl) rfl ?_
  refine ZV_iconst (v := nI 0) (n := 3) dX11_nextToWalk_2 rfl rfl ?_
  refine ZV_istore_3 (n := 4) dX11_nextToWalk_3 rfl (Nat.le_of_ble_eq_true rfl) rfl ?_
  exact loop _ 0 (Nat.lt_succ_self _) (Nat.zero_le _)
theorem nwF_w (T : TS) (w : Nat → Nat) (m : Nat) (g : Nat → Nat) : ∀ n, nwF (h_wm (h_wr T w) m) g n = nwF T g n
  | 0 => rfl
  | n + 1 => by
    have hb : ∀ e, bgE (h_wm (h_wr T w) m) e = bgE T e := fun e => bgF_e (T := T) (S := h_wm (h_wr T w) m) ⟨rfl, rfl, rfl, rfl, rfl, rfl, rfl, rfl, rfl, rfl, rfl, rfl, rfl, rfl, rfl, rfl, rfl, rfl, rfl, rfl⟩ _ _
    rw [nwF, nwF, nwF_w T w m g n]
    show (if g n < g_mn T n then _ else _) = _
    by_cases q : g n < g_mn T n
    · rw [if_pos q, if_pos q]
      cases nwF T g n with
      | none => rfl
      | some f =>
        show (if bgE (h_wm (h_wr T w) m) (g_ro T n (g n)) < bgE (h_wm (h_wr T w) m) f then _ else _) = (if bgE T (g_ro T n (g n)) < bgE T f then _ else _)
        rw [hb, hb]
        rfl
    · rw [if_neg q, if_neg q]
theorem kI_wt {T : TS} {K : KS} (h : kI T K) (g : Nat → Nat) : kI T (j_wt K g) := h

theorem cG_wr0 {c B : Nat} {σ : ZS} {T : TS} {K : KS} (h : cG c B σ (h_wm T 0) K) (w : Nat → Nat) : cG c B σ (h_wm (h_wr T w) 0) K := ⟨(cf_sh h :), (cf_B h :), (cf_bd h :), (cf_pk h :), (cf_vk h :), (cf_ek h :), (cf_tk h :), (cf_lk h :), (cf_rk h :), (cf_sk h :), (cf_pai h :), (cf_lai h :), (cf_wai h :), (cf_np h :), (cf_nb h :), (cf_ev h :), (cf_te h :), (cf_le h :), (cf_wm h :), (cf_fo h :), (cf_su h :), (cf_pa h :), (cf_pas h :), (cf_va h :), (cf_vn h :), (cf_vi h :), (cf_ve h :), (cf_vs h :), (cf_vw h :), (cf_vl h :), (cf_ro h :), (cf_be h :), (cf_ea h :), (cf_en h :), (cf_eo h :), (cf_ed h :), (cf_ep h :), (cf_ec h :), (cf_et h :), (cf_es h :), (cf_ei h :), (cf_el h :), (cf_eb h :), (cf_ez h :), (cf_pi h :), (cf_ta h :), (cf_tq h :), (cf_to h :), (cf_t1 h :), (cf_t2 h :), (cf_tn h :), (cf_tm h :), (cf_tu h :), (cf_la h :), (cf_lj h :), (cf_lf h :), (cf_lo h :), (fun i hi => absurd hi (Nat.not_lt_zero _)), (cf_fi h :), (cf_fa h :), (cf_ra h :), (cf_sa h :), (cf_rd h :), (cf_sd h :), (cf_rt h :), (cf_st h :), (cf_rr h :), (cf_sr h :)⟩
theorem e_nextToWalkW {c B : Nat} {σ : ZS} {T : TS} {K : KS} {S : WS} {i : Nat} {g : Nat → Nat} (hG : cG c B σ (h_wm (h_wr T S.2.1) i) (j_wt K g)) (hI : tI T) (hK : kI T K) (hS : wI T S (3 * g_np T) 0) (hi : i ≤ S.1) (h150 : S.1 ≤ 150) (hg : gI T S.2.1 (3 * g_np T) i g) : ZC M_X11_nextToWalk [Ar (some c), Ai (nI (3 * g_np T))] σ (fun r τ => τ = σ ∧ ((i < S.1 ∧ r = some (Ar (some (k_ea K (S.2.1 i))))) ∨ (i = S.1 ∧ r = some (Ar none)))) := by
  have hnp := ti_np hI
  have h := e_nextToWalk hG (tI_wt hI (show i ≤ 150 by omega)) (kI_wt (kI_e (S := h_wm (h_wr T S.2.1) i) hK ⟨rfl, rfl, rfl, rfl, rfl, rfl, rfl, rfl, rfl, rfl, rfl, rfl, rfl, rfl, rfl, rfl, rfl, rfl, rfl, rfl⟩) g) (fun v hv => (hg v hv).1)
  refine ZC.mono h (fun r τ hp => ⟨hp.1, ?_⟩)
  have hr : r = some (Ar ((nwF T g (3 * g_np T)).map (k_ea K))) := by rw [← nwF_w T S.2.1 i]; exact hp.2
  by_cases q : i < S.1
  · rw [gI_nx hI (by omega) hS hg q] at hr
    exact Or.inl ⟨q, hr⟩
  · obtain rfl : i = S.1 := by omega
    rw [gI_end hS hg] at hr
    exact Or.inr ⟨rfl, hr⟩
set_option maxHeartbeats 4000000 in
set_option maxRecDepth 100000 in
theorem q_walk {c : Nat} {σ : ZS} {T : TS} (hR : cR c σ T) (hI : tI T)  : ZC M_X11_walk [Ar (some c)] σ (fun y0 τ0 => y0 = some (Ai (sp_walk T ).1) ∧ cR c τ0 (sp_walk T ).2) := by
  obtain ⟨B, K, hG, hK⟩ := hR
  have hbd := cf_bd hG
  have hnp := ti_np hI
  refine ZC_of (ls := [some (Ar (some c)), none, none, none]) (by decide) (Nat.le_of_ble_eq_true rfl) rfl ?_
  have hS := wI_V hI (3 * g_np T) (by omega)
  have hSn := wkV_n T (3 * g_np T)
  have h150 := smF_le hI (v := 3 * g_np T) (by omega)
  rw [← hSn] at h150
  have hsp : sp_walk T = sOk (h_wm (h_wr T (wkV T (3 * g_np T)).2.1) (wkV T (3 * g_np T)).1) (nI (wkV T (3 * g_np T)).1) := by rw [sp_walk, wkV_su]; rfl
  generalize wkV T (3 * g_np T) = S at hS hSn h150 hsp
  have hlf : ∀ (i : Nat) (g : Nat → Nat) (τ : ZS), i = S.1 → cG c B τ (h_wm (h_wr T S.2.1) i) (j_wt K g) → ZV M_X11_walk (fun y0 τ0 => y0 = some (Ai (sp_walk T ).1) ∧ cR c τ0 (sp_walk T ).2) 96 [some (Ar (some c)), some (Ai (nI (3 * g_np T))), some (Ai (nI i)), none] [] τ (zmC M_X11_walk) (zmS M_X11_walk) := by
    intro i g τ hlt hG
    refine ZV_aload_n (n := 97) dX11_walk_96 rfl rfl rfl ?_
    refine ZV_aload_n (n := 98) dX11_walk_97 rfl rfl rfl ?_
    refine ZV_getIv (n := 101) dX11_walk_98 fl_X11_63 rfl rfl rfl (cf_sh hG :).1 (show _ = nI i from (cf_wm hG :)) ?_
    refine call_X11_98 (e_done hG _) rfl dX11_walk_101 rfl (cf_sh hG :).1 (Nat.le_of_ble_eq_true rfl) (Nat.le_of_ble_eq_true rfl) rfl (fun r9 σ9 hp9 => ?_)
    obtain ⟨rfl, hG⟩ := hp9
    refine ZV_iret dX11_walk_104 rfl ?_
    subst hlt
    rw [hsp]
    exact ⟨rfl, B, _, hG, kI_wt (kI_e (S := (sOk (h_wm (h_wr T S.2.1) S.1) (nI S.1)).2) hK ⟨rfl, rfl, rfl, rfl, rfl, rfl, rfl, rfl, rfl, rfl, rfl, rfl, rfl, rfl, rfl, rfl, rfl, rfl, rfl, rfl⟩) g⟩
  have loop2 : ∀ (n9 : Nat) (i : Nat) (g : Nat → Nat) (τ : ZS), S.1 - i < n9 → i ≤ S.1 → gI T S.2.1 (3 * g_np T) i g → cG c B τ (h_wm (h_wr T S.2.1) i) (j_wt K g) → ZV M_X11_walk (fun y0 τ0 => y0 = some (Ai (sp_walk T ).1) ∧ cR c τ0 (sp_walk T ).2) 37 [some (Ar (some c)), some (Ai (nI (3 * g_np T))), some (Ai (nI i)), none] [] τ (zmC M_X11_walk) (zmS M_X11_walk) := by
    intro n9
    induction n9 with
    | zero => intro i g τ hme; exact absurd hme (Nat.not_lt_zero _)
    | succ n9 ih =>
      intro i g τ hme hi hg hG
      refine ZV_iload_n (n := 38) dX11_walk_37 rfl rfl rfl ?_
      refine ZV_sipush (v := nI 150) (n := 41) dX11_walk_38 rfl rfl ?_
      refine ZV_icmp_geN (tgt := 96) (n := 44) dX11_walk_41 (by decide) rfl (by omega) (by omega) (fun h41 => ?_) (fun h41 => ?_)
      · skip
        refine ZV_fg_3 ?_
        exact hlf i g _ (by omega) hG
      · skip
        refine ZV_aload_n (n := 45) dX11_walk_44 rfl rfl rfl ?_
        refine ZV_iload_n (n := 46) dX11_walk_45 rfl rfl rfl ?_
        refine call_X11_328 (e_nextToWalkW hG hI hK hS hi h150 hg) rfl dX11_walk_46 rfl (cf_sh hG :).1 (Nat.le_of_ble_eq_true rfl) (Nat.le_of_ble_eq_true rfl) rfl (fun r9 σ9 hp9 => ?_)
        obtain ⟨hs9, hp9⟩ := hp9
        subst σ9
        rcases hp9 with ⟨hlt, rfl⟩ | ⟨hlt, rfl⟩
        · skip
          have he := (hS.1 i hlt).1
          have hvi := (gI_at hI (by omega) hS hg hlt).1
          have hgi := (hg _ hvi).1
          have hmn := ti_mn hI (g_vo T (S.2.1 i))
          refine ZV_astore_3 (n := 50) dX11_walk_49 rfl (Nat.le_of_ble_eq_true rfl) rfl ?_
          refine ZV_aload_n (n := 51) dX11_walk_50 rfl rfl rfl ?_
          refine ZV_ifnonnull_s (tgt := 57) dX11_walk_51 (by decide) ?_
          refine ZV_aload_n (n := 58) dX11_walk_57 rfl rfl rfl ?_
          refine ZV_getRv (n := 61) dX11_walk_58 fl_X11_59 rfl rfl rfl (cf_sh hG :).1 (ca_walkRow (cf_sh hG :)) ?_
          refine ZV_iload_n (n := 62) dX11_walk_61 rfl rfl rfl ?_
          refine ZV_aload_n (n := 63) dX11_walk_62 rfl rfl rfl ?_
          refine ZV_getIv (n := 66) dX11_walk_63 fl_X11_152 rfl rfl rfl (cf_ek hG (S.2.1 i) he).1 (show _ = nI (S.2.1 i) from (cf_en hG _ he :)) ?_
          refine ZV_iast (j := i) (n := 67) dX11_walk_66 rfl rfl (ck_walkRow (cf_sh hG :)) rfl (by omega) ?_
          refine ZV_gen (P := fun τ => cG c B τ (h_wm (h_wr T S.2.1) i) (j_wt K g) ∧ zi τ (c + 7) i = nI (S.2.1 i)) ⟨?_, if_pos ⟨rfl, rfl⟩⟩ (fun σ hGz => ?_)
          · have h9 := U_wr hG i (S.2.1 i)
            have e9 : h_wr (h_wm (h_wr T S.2.1) i) (va_up (g_wr (h_wm (h_wr T S.2.1) i)) i (S.2.1 i)) = h_wm (h_wr T S.2.1) i := by
              have e8 : va_up (g_wr (h_wm (h_wr T S.2.1) i)) i (S.2.1 i) = S.2.1 := by
                funext j
                show va_up S.2.1 i (S.2.1 i) j = S.2.1 j
                by_cases q : j = i
                · rw [q, up_eq]
                · rw [up_ne q]
              rw [e8, wT_up]
            rw [e9] at h9
            exact h9
          obtain ⟨hG, hz⟩ := hGz
          refine ZV_aload_n (n := 68) dX11_walk_67 rfl rfl rfl ?_
          refine ZV_getRv (n := 71) dX11_walk_68 fl_X11_162 rfl rfl rfl (cf_ek hG (S.2.1 i) he).1 (show _ = some (k_va K (g_vo T (S.2.1 i))) from (cf_eo hG _ he :)) ?_
          refine ZV_dup (n := 72) dX11_walk_71 rfl rfl ?_
          refine ZV_getIv (n := 75) dX11_walk_72 fl_X11_325 rfl rfl rfl (cf_vk hG (g_vo T (S.2.1 i)) hvi).1 (show _ = nI (g (g_vo T (S.2.1 i))) from (cf_vw hG _ hvi :)) ?_
          refine ZV_iconst (v := nI 1) (n := 76) dX11_walk_75 rfl rfl ?_
          refine ZV_iaddN (n := 77) dX11_walk_76 rfl ?_
          refine ZV_putI (n := 80) dX11_walk_77 fl_X11_325 rfl (Or.inl rfl) rfl (fun h => absurd h (by decide)) rfl (cf_vk hG (g_vo T (S.2.1 i)) hvi).1 ?_
          refine ZV_gen (P := fun τ => cG c B τ (h_wm (h_wr T S.2.1) i) (j_wt K (va_up g (g_vo T (S.2.1 i)) (g (g_vo T (S.2.1 i)) + 1))) ∧ zi τ (c + 7) i = nI (S.2.1 i)) ⟨?_, hz⟩ (fun σ hGz => ?_)
          · have h9 := U_wt hG hvi (g (g_vo T (S.2.1 i)) + 1)
            rw [jj_wt] at h9
            exact h9
          obtain ⟨hG, hz⟩ := hGz
          refine ZV_aload_n (n := 81) dX11_walk_80 rfl rfl rfl ?_
          refine ZV_dup (n := 82) dX11_walk_81 rfl rfl ?_
          refine ZV_getIv (n := 85) dX11_walk_82 fl_X11_63 rfl rfl rfl (cf_sh hG :).1 (show _ = nI i from (cf_wm hG :)) ?_
          refine ZV_iconst (v := nI 1) (n := 86) dX11_walk_85 rfl rfl ?_
          refine ZV_iaddN (n := 87) dX11_walk_86 rfl ?_
          refine ZV_putI (n := 90) dX11_walk_87 fl_X11_63 rfl (Or.inl rfl) rfl (fun h => absurd h (by decide)) rfl (cf_sh hG :).1 ?_
          refine ZV_gen (P := fun τ => cG c B τ _ _) (show cG c B _ (h_wm (h_wr T S.2.1) (i + 1)) (j_wt K (va_up g (g_vo T (S.2.1 i)) (g (g_vo T (S.2.1 i)) + 1))) from by
  have h9 := U_wm hG (n := i + 1) (fun j hj => by
    rcases Nat.lt_succ_iff_lt_or_eq.mp hj with q | q
    · exact cf_wr hG j q
    · rw [q]; exact hz)
  rw [hh_wm] at h9
  exact h9) (fun σ hG => ?_)
          refine ZV_iincN_2 (v := 1) (n := 93) dX11_walk_90 rfl rfl (Nat.le_of_ble_eq_true rfl) rfl ?_
          refine ZV_goto (tgt := 37) dX11_walk_93 (by decide) ?_
          refine ZV_fg_3 ?_
          exact ih (i + 1) (va_up g (g_vo T (S.2.1 i)) (g (g_vo T (S.2.1 i)) + 1)) _ (by omega) (by omega) (gI_st hI (by omega) hS hg hlt) hG
        · skip
          refine ZV_astore_3 (n := 50) dX11_walk_49 rfl (Nat.le_of_ble_eq_true rfl) rfl ?_
          refine ZV_aload_n (n := 51) dX11_walk_50 rfl rfl rfl ?_
          refine ZV_ifnonnull_n (tgt := 57) (n := 54) dX11_walk_51 (by decide) rfl ?_
          refine ZV_goto (tgt := 96) dX11_walk_54 (by decide) ?_
          refine ZV_fg_3 ?_
          exact hlf i g _ (by omega) hG
  have loop1 : ∀ (n9 : Nat) (v : Nat) (g : Nat → Nat) (τ : ZS), 3 * g_np T - v < n9 → v ≤ 3 * g_np T → (∀ u, u < v → g u = 0) → cG c B τ T (j_wt K g) → ZV M_X11_walk (fun y0 τ0 => y0 = some (Ai (sp_walk T ).1) ∧ cR c τ0 (sp_walk T ).2) 9 [some (Ar (some c)), some (Ai (nI (3 * g_np T))), some (Ai (nI v)), none] [] τ (zmC M_X11_walk) (zmS M_X11_walk) := by
    intro n9
    induction n9 with
    | zero => intro v g τ hme; exact absurd hme (Nat.not_lt_zero _)
    | succ n9 ih =>
      intro v g τ hme hv hz hG
      refine ZV_iload_n (n := 10) dX11_walk_9 rfl rfl rfl ?_
      refine ZV_iload_n (n := 11) dX11_walk_10 rfl rfl rfl ?_
      refine ZV_icmp_geN (tgt := 30) (n := 14) dX11_walk_11 (by decide) rfl (by omega) (by omega) (fun h11 => ?_) (fun h11 => ?_)
      · skip
        refine ZV_aload_n (n := 31) dX11_walk_30 rfl rfl rfl ?_
        refine ZV_iconst (v := nI 0) (n := 32) dX11_walk_31 rfl rfl ?_
        refine ZV_putI (n := 35) dX11_walk_32 fl_X11_63 rfl (Or.inl rfl) rfl (fun h => absurd h (by decide)) rfl (cf_sh hG :).1 ?_
        refine ZV_gen (P := fun τ => cG c B τ _ _) (U_wm hG (n := 0) (fun j hj => absurd hj (Nat.not_lt_zero _))) (fun σ hG => ?_)
        refine ZV_iconst (v := nI 0) (n := 36) dX11_walk_35 rfl rfl ?_
        refine ZV_istore_2 (n := 37) dX11_walk_36 rfl (Nat.le_of_ble_eq_true rfl) rfl ?_
        have hG := cG_wr0 hG S.2.1
        exact loop2 _ 0 g _ (Nat.lt_succ_self _) (Nat.zero_le _) (gI_0 (fun u hu => hz u (by omega))) hG
      · skip
        refine ZV_aload_n (n := 15) dX11_walk_14 rfl rfl rfl ?_
        refine ZV_getRv (n := 18) dX11_walk_15 fl_X11_21 rfl rfl rfl (cf_sh hG :).1 (ca_voices (cf_sh hG :)) ?_
        refine ZV_iload_n (n := 19) dX11_walk_18 rfl rfl rfl ?_
        refine ZV_aaldv (c0 := 1) (j := v) (n := 20) dX11_walk_19 rfl (by decide) rfl (ck_voices (cf_sh hG :)) rfl (by omega) (cf_va hG v (show v < 3 * g_np T by omega)) ?_
        refine ZV_iconst (v := nI 0) (n := 21) dX11_walk_20 rfl rfl ?_
        refine ZV_putI (n := 24) dX11_walk_21 fl_X11_325 rfl (Or.inl rfl) rfl (fun h => absurd h (by decide)) rfl (cf_vk hG v (show v < 3 * g_np T by omega)).1 ?_
        refine ZV_gen (P := fun τ => cG c B τ _ _) (show cG c B _ T (j_wt K (va_up g v 0)) from by
  have h9 := U_wt hG (v := v) (show v < 3 * g_np T by omega) 0
  rw [jj_wt] at h9
  exact h9) (fun σ hG => ?_)
        refine ZV_iincN_2 (v := 1) (n := 27) dX11_walk_24 rfl rfl (Nat.le_of_ble_eq_true rfl) rfl ?_
        refine ZV_goto (tgt := 9) dX11_walk_27 (by decide) ?_
        have hz2 : ∀ u, u < v + 1 → va_up g v 0 u = 0 := fun u hu => by
          by_cases q : u = v
          · rw [q, up_eq]
          · rw [up_ne q]
            exact hz u (by omega)
        exact ih (v + 1) _ _ (by omega) (by omega) hz2 hG
  refine ZV_aload_n (n := 1) dX11_walk_0 rfl rfl rfl ?_
  refine ZV_getIv (n := 4) dX11_walk_1 fl_X11_15 rfl rfl rfl (cf_sh hG :).1 (show _ = nI (g_np T) from (cf_np hG :)) ?_
  refine ZV_iconst (v := nI 3) (n := 5) dX11_walk_4 rfl rfl ?_
  refine ZV_imulN (n := 6) dX11_walk_5 rfl ?_
  refine ZV_topi (congrArg nI (Nat.mul_comm _ _)) ?_
  refine ZV_istore_1 (n := 7) dX11_walk_6 rfl (Nat.le_of_ble_eq_true rfl) rfl ?_
  refine ZV_iconst (v := nI 0) (n := 8) dX11_walk_7 rfl rfl ?_
  refine ZV_istore_2 (n := 9) dX11_walk_8 rfl (Nat.le_of_ble_eq_true rfl) rfl ?_
  exact loop1 _ 0 (k_wt K) σ (Nat.lt_succ_self _) (Nat.zero_le _) (fun u hu => absurd hu (Nat.not_lt_zero _)) (by rw [show j_wt K (k_wt K) = K from by unfold j_wt k_wt; rw [up_self]]; exact hG)
