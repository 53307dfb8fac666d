theorem tmF_su (T : TS) (e : Nat) : ∀ t, tmF (h_su T 0) e t = tmF T e t
  | 0 => rfl
  | t + 1 => by
    rw [tmF, tmF, tmF_su T e t]
    rfl
theorem tmT_su (T : TS) (e : Nat) : tmT (h_su T 0) e = tmT T e := tmF_su T e (g_te T)
theorem bgF_su (T : TS) (v : Nat) : ∀ p, bgF (h_su T 0) v p = bgF T v p
  | 0 => rfl
  | p + 1 => by
    rw [bgF, bgF, bgF_su T v p, tmT_su]
    rfl
theorem baF_su (T : TS) : ∀ p, baF (h_su T 0) p = baF T p
  | 0 => rfl
  | p + 1 => by
    rw [baF, baF, baF_su T p]
    rfl
theorem boS_su (T : TS) (t : Nat) : ∀ k b, boS (h_su T 0) t k b = boS T t k b
  | 0, _ => rfl
  | k + 1, b => by rw [boS, boS, boS_su T t k, baF_su]
theorem boF_su (T : TS) (t : Nat) : boF (h_su T 0) t = boF T t := boS_su T t (g_nb T) 0
theorem hpN_su (T : TS) (e : Nat) (p : Int32) : ∀ n, hpN (h_su T 0) e p n = hpN T e p n
  | 0 => rfl
  | n + 1 => by
    rw [hpN, hpN, hpN_su T e p n]
    rfl
theorem hpB_su (T : TS) (e : Nat) (p : Int32) : hpB (h_su T 0) e p = hpB T e p := hpN_su T e p (g_pn T e)
theorem haN_su (T : TS) (f e : Nat) : ∀ n, haN (h_su T 0) f e n = haN T f e n
  | 0 => rfl
  | n + 1 => by
    rw [haN, haN, haN_su T f e n, hpB_su]
    rfl
theorem ntF_su (T : TS) (v : Nat) : ∀ k q, ntF (h_su T 0) v k q = ntF T v k q
  | 0, _ => rfl
  | k + 1, q => by
    rw [ntF, ntF, ntF_su T v k]
    rfl
theorem ntQ_su (T : TS) (v p : Nat) : ntQ (h_su T 0) v p = ntQ T v p := ntF_su T v _ _
theorem twB_su (T : TS) (v p : Nat) : twB (h_su T 0) v p = twB T v p := by
  unfold twB
  rw [haN_su, ntQ_su]
  rfl
theorem ouF_su (T : TS) (e : Nat) : ∀ k i w, ouF (h_su T 0) e k i w = ouF T e k i w
  | 0, _, _ => rfl
  | k + 1, i, w => by
    rw [ouF, ouF, ouF_su T e k]
    rfl
theorem ce1_su (T : TS) (v p : Nat) (F : FS) : ce1 (h_su T 0) v p F = ce1 T v p F := by
  unfold ce1
  rw [bgF_su, boF_su]
  cases boF T (bgF T v p) with
  | none => rfl
  | some b =>
    show (if baF (h_su T 0) (b + 1) < bgF (h_su T 0) v (p + 1) then _ else _) = (if baF T (b + 1) < bgF T v (p + 1) then _ else _)
    rw [baF_su, bgF_su]
    rfl
theorem ce2_su (T : TS) (v p : Nat) (F : FS) : ce2 (h_su T 0) v p F = ce2 T v p F := by
  unfold ce2
  rw [twB_su]
  rfl
theorem oR_su (T : TS) (v p : Nat) (F : FS) : oR (h_su T 0) v p F = oR T v p F := ouF_su T _ _ _ _
theorem ce3_su (T : TS) (v p : Nat) (F : FS) : ce3 (h_su T 0) v p F = ce3 T v p F := by
  unfold ce3
  rw [oR_su]
  rfl
theorem cvN_su (T : TS) (v : Nat) (F : FS) : ∀ p, cvN (h_su T 0) v F p = cvN T v F p
  | 0 => rfl
  | p + 1 => by rw [cvN, cvN, cvN_su T v F p, ce1_su, ce2_su, ce3_su]
theorem cvF_su (T : TS) (v : Nat) (F : FS) : cvF (h_su T 0) v F = cvF T v F := by
  unfold cvF
  rw [show g_mn (h_su T 0) v = g_mn T v from rfl, show g_nb (h_su T 0) = g_nb T from rfl, bgF_su, baF_su, cvN_su]
theorem siF_su (T : TS) (t e : Nat) : ∀ u, siF (h_su T 0) t e u = siF T t e u
  | 0 => rfl
  | u + 1 => by
    rw [siF, siF, siF_su T t e u]
    rfl
theorem ssF_su (T : TS) (t : Nat) : ∀ k, ssF (h_su T 0) t k = ssF T t k
  | 0 => rfl
  | k + 1 => by
    rw [ssF, ssF, ssF_su T t k, siF_su]
    rfl
theorem swB_su (T : TS) (t : Nat) : swB (h_su T 0) t = swB T t := by
  unfold swB
  rw [ssF_su]
  rfl
theorem ckV_su (T : TS) : ∀ v, ckV (h_su T 0) v = ckV T v
  | 0 => rfl
  | v + 1 => by rw [ckV, ckV, ckV_su T v, cvF_su]
theorem ckT_su (T : TS) (F : FS) : ∀ t, ckT (h_su T 0) F t = ckT T F t
  | 0 => rfl
  | t + 1 => by
    rw [ckT, ckT, ckT_su T F t, swB_su]
    rfl
/-- one line's findings -/
def ckS (T : TS) (l : Nat) (F : FS) : FS := match g_lo T l with
  | none => fdF F (nI 6) (nI l) (-1)
  | some e => if bgF T (g_vo T e) (g_pl T e) < bgF T (g_vo T (g_lf T l)) (g_pl T (g_lf T l)) then fdF F (nI 7) (nI l) (-1) else F
theorem ckL_s (T : TS) (F : FS) (l : Nat) : ckL T F (l + 1) = if g_lt T l = true then ckS T l (ckL T F l) else ckL T F l := by
  rw [ckL]
  unfold ckS
  cases g_lo T l <;> rfl
theorem ckS_su (T : TS) (l : Nat) (F : FS) : ckS (h_su T 0) l F = ckS T l F := by
  unfold ckS
  rw [show g_lo (h_su T 0) l = g_lo T l from rfl]
  cases g_lo T l with
  | none => rfl
  | some e =>
    show (if bgF (h_su T 0) _ _ < bgF (h_su T 0) _ _ then _ else _) = (if bgF T _ _ < bgF T _ _ then _ else _)
    rw [bgF_su, bgF_su]
    rfl
theorem ckL_su (T : TS) (F : FS) : ∀ l, ckL (h_su T 0) F l = ckL T F l
  | 0 => rfl
  | l + 1 => by
    rw [ckL_s, ckL_s, ckL_su T F l, ckS_su]
    rfl
theorem ckF_su (T : TS) : ckF (h_su T 0) = ckF T := by
  unfold ckF
  rw [show g_np (h_su T 0) = g_np T from rfl, show g_te (h_su T 0) = g_te T from rfl, show g_le (h_su T 0) = g_le T from rfl, ckV_su, ckT_su, ckL_su]
theorem fiL_ct (T : TS) (F : FS) (l : Nat) : fiL (cT T F) l = cT T (ckS T l F) := by
  unfold fiL ckS
  rw [show g_lo (cT T F) l = g_lo T l from rfl]
  cases g_lo T l with
  | none => exact cT_fd T F _ _ _
  | some e =>
    show (if bgF (cT T F) _ _ < bgF (cT T F) _ _ then _ else _) = cT T (if bgF T _ _ < bgF T _ _ then _ else _)
    rw [bgF_ct, bgF_ct]
    show (if bgF T (g_vo T e) (g_pl T e) < bgF T (g_vo T (g_lf T l)) (g_pl T (g_lf T l)) then _ else _) = _
    split
    · exact cT_fd T F _ _ _
    · rfl
theorem ckS_le (T : TS) (l : Nat) (F : FS) : (ckS T l F).1 ≤ F.1 + 1 := by
  unfold ckS
  split
  · exact Nat.le_refl _
  · split
    · exact Nat.le_refl _
    · omega
set_option maxHeartbeats 4000000 in
set_option maxRecDepth 100000 in
theorem q_check {c : Nat} {σ : ZS} {T : TS} (hR : cR c σ T) (hI : tI T)  : ZC M_X11_check [Ar (some c)] σ (fun y0 τ0 => y0 = some (Ai (sp_check T ).1) ∧ cR c τ0 (sp_check T ).2) := by
  obtain ⟨B, K, hG, hK⟩ := hR
  have hbd := cf_bd hG
  have hnp := ti_np hI
  have hte := ti_te hI
  have hle := ti_le hI
  refine ZC_of (ls := [some (Ar (some c)), none, none]) (by decide) (Nat.le_of_ble_eq_true rfl) rfl ?_
  have loopL : ∀ (n9 : Nat) (l : Nat) (G : FS) (f : Nat → Int64) (τ : ZS), g_le T - l < n9 → l ≤ g_le T → G = ckL T (ckT T (ckV T (3 * g_np T)) (g_te T)) l → cG c B τ (cT T G) (j_as K f) → kI (cT T G) (j_as K f) → ZV M_X11_check (fun y0 τ0 => y0 = some (Ai (sp_check T ).1) ∧ cR c τ0 (sp_check T ).2) 82 [some (Ar (some c)), some (Ai (nI (3 * g_np T))), some (Ai (nI l))] [] τ (zmC M_X11_check) (zmS M_X11_check) := by
    intro n9
    induction n9 with
    | zero => intro l G f τ hme; exact absurd hme (Nat.not_lt_zero _)
    | succ n9 ih =>
      intro l G f τ hme hb hE hG hK
      have hV := ckV_le hI (3 * g_np T)
      have hT := ckT_le T (ckV T (3 * g_np T)) (g_te T)
      have hL := ckL_le T (ckT T (ckV T (3 * g_np T)) (g_te T)) l
      rw [← hE] at hL
      refine ZV_iload_n (n := 83) dX11_check_82 rfl rfl rfl ?_
      refine ZV_aload_n (n := 84) dX11_check_83 rfl rfl rfl ?_
      refine ZV_getIv (n := 87) dX11_check_84 fl_X11_56 rfl rfl rfl (cf_sh hG :).1 (show _ = nI (g_le T) from (cf_le hG :)) ?_
      refine ZV_icmp_geN (tgt := 116) (n := 90) dX11_check_87 (by decide) rfl (by omega) (by omega) (fun h87 => ?_) (fun h87 => ?_)
      · skip
        obtain rfl : l = g_le T := by omega
        refine ZV_aload_n (n := 117) dX11_check_116 rfl rfl rfl ?_
        refine ZV_aload_n (n := 118) dX11_check_117 rfl rfl rfl ?_
        refine ZV_getIv (n := 121) dX11_check_118 fl_X11_69 rfl rfl rfl (cf_sh hG :).1 (show _ = nI G.1 from (cf_fo hG :)) ?_
        refine call_X11_98 (e_done hG _) rfl dX11_check_121 rfl (cf_sh hG :).1 (Nat.le_of_ble_eq_true rfl) (Nat.le_of_ble_eq_true rfl) rfl (fun r9 σ9 hp9 => ?_)
        obtain ⟨rfl, hG⟩ := hp9
        refine ZV_iret dX11_check_124 rfl ?_
        have hF : G = ckF T := hE
        subst hF
        exact zlC (v := sOk (cT T (ckF T)) (nI (ckF T).1)) (by rw [sp_check, ckF_su]; rfl) rfl ⟨B, _, hG, kI_e hK ⟨rfl, rfl, rfl, rfl, rfl, rfl, rfl, rfl, rfl, rfl, rfl, rfl, rfl, rfl, rfl, rfl, rfl, rfl, rfl, rfl⟩⟩
      · skip
        refine ZV_aload_n (n := 91) dX11_check_90 rfl rfl rfl ?_
        refine ZV_getRv (n := 94) dX11_check_91 fl_X11_52 rfl rfl rfl (cf_sh hG :).1 (ca_lines (cf_sh hG :)) ?_
        refine ZV_iload_n (n := 95) dX11_check_94 rfl rfl rfl ?_
        rcases hb95 : g_lt T l with _ | _
        · skip
          refine ZV_aaldv (c0 := 4) (w := none) (j := l) (n := 96) dX11_check_95 rfl (by decide) rfl (ck_lines (cf_sh hG :)) rfl (by omega) (Eq.trans (cf_la hG l (show l < g_le T by omega)) (if_neg (by rw [show g_lt (cT T G) l = false from hb95]; exact Bool.false_ne_true))) ?_
          refine ZV_ifnull_n (tgt := 110) dX11_check_96 (by decide) ?_
          refine ZV_iincN_2 (v := 1) (n := 113) dX11_check_110 rfl rfl (Nat.le_of_ble_eq_true rfl) rfl ?_
          refine ZV_goto (tgt := 82) dX11_check_113 (by decide) ?_
          exact ih (l + 1) G f _ (by omega) (by omega) (by rw [ckL_s, if_neg (by rw [hb95]; decide), ← hE]) hG hK
        · skip
          refine ZV_aaldv (c0 := 4) (w := some (k_la K l)) (j := l) (n := 96) dX11_check_95 rfl (by decide) rfl (ck_lines (cf_sh hG :)) rfl (by omega) (Eq.trans (cf_la hG l (show l < g_le T by omega)) (if_pos hb95)) ?_
          refine ZV_ifnull_s (tgt := 110) (n := 99) dX11_check_96 (by decide) rfl ?_
          refine ZV_aload_n (n := 100) dX11_check_99 rfl rfl rfl ?_
          refine ZV_aload_n (n := 101) dX11_check_100 rfl rfl rfl ?_
          refine ZV_getRv (n := 104) dX11_check_101 fl_X11_52 rfl rfl rfl (cf_sh hG :).1 (ca_lines (cf_sh hG :)) ?_
          refine ZV_iload_n (n := 105) dX11_check_104 rfl rfl rfl ?_
          refine ZV_aaldv (c0 := 4) (w := some (k_la K l)) (j := l) (n := 106) dX11_check_105 rfl (by decide) rfl (ck_lines (cf_sh hG :)) rfl (by omega) (Eq.trans (cf_la hG l (show l < g_le T by omega)) (if_pos hb95)) ?_
          refine ZV_iload_n (n := 107) dX11_check_106 rfl rfl rfl ?_
          refine call_X11_342 (e_findInLine hG (tI_ct hI (by omega)) hK (show l < g_le T by omega) hb95 (show G.1 ≤ 4900 by omega)) rfl dX11_check_107 rfl (cf_sh hG :).1 (Nat.le_of_ble_eq_true rfl) (Nat.le_of_ble_eq_true rfl) rfl (fun r9 σ9 hp9 => ?_)
          obtain ⟨rfl, hG⟩ := hp9
          have hK2 : kI (fiL (cT T G) l) (j_as K f) := by
            unfold fiL
            split
            · exact kI_e hK ⟨rfl, rfl, rfl, rfl, rfl, rfl, rfl, rfl, rfl, rfl, rfl, rfl, rfl, rfl, rfl, rfl, rfl, rfl, rfl, rfl⟩
            · split
              · exact kI_e hK ⟨rfl, rfl, rfl, rfl, rfl, rfl, rfl, rfl, rfl, rfl, rfl, rfl, rfl, rfl, rfl, rfl, rfl, rfl, rfl, rfl⟩
              · exact hK
          rw [fiL_ct] at hG
          refine ZV_iincN_2 (v := 1) (n := 113) dX11_check_110 rfl rfl (Nat.le_of_ble_eq_true rfl) rfl ?_
          refine ZV_goto (tgt := 82) dX11_check_113 (by decide) ?_
          exact ih (l + 1) _ f _ (by omega) (by omega) (by rw [ckL_s, if_pos hb95, ← hE]) hG (by rw [← fiL_ct]; exact hK2)
  have loopT : ∀ (n9 : Nat) (t : Nat) (G : FS) (f : Nat → Int64) (τ : ZS), g_te T - t < n9 → t ≤ g_te T → G = ckT T (ckV T (3 * g_np T)) t → cG c B τ (cT T G) (j_as K f) → kI (cT T G) (j_as K f) → ZV M_X11_check (fun y0 τ0 => y0 = some (Ai (sp_check T ).1) ∧ cR c τ0 (sp_check T ).2) 37 [some (Ar (some c)), some (Ai (nI (3 * g_np T))), some (Ai (nI t))] [] τ (zmC M_X11_check) (zmS M_X11_check) := by
    intro n9
    induction n9 with
    | zero => intro t G f τ hme; exact absurd hme (Nat.not_lt_zero _)
    | succ n9 ih =>
      intro t G f τ hme hb hE hG hK
      have hV := ckV_le hI (3 * g_np T)
      have hT := ckT_le T (ckV T (3 * g_np T)) t
      rw [← hE] at hT
      refine ZV_iload_n (n := 38) dX11_check_37 rfl rfl rfl ?_
      refine ZV_aload_n (n := 39) dX11_check_38 rfl rfl rfl ?_
      refine ZV_getIv (n := 42) dX11_check_39 fl_X11_47 rfl rfl rfl (cf_sh hG :).1 (show _ = nI (g_te T) from (cf_te hG :)) ?_
      refine ZV_icmp_geN (tgt := 80) (n := 45) dX11_check_42 (by decide) rfl (by omega) (by omega) (fun h42 => ?_) (fun h42 => ?_)
      · skip
        refine ZV_iconst (v := nI 0) (n := 81) dX11_check_80 rfl rfl ?_
        refine ZV_istore_2 (n := 82) dX11_check_81 rfl (Nat.le_of_ble_eq_true rfl) rfl ?_
        obtain rfl : t = g_te T := by omega
        exact loopL _ 0 G f τ (Nat.lt_succ_self _) (Nat.zero_le _) hE hG hK
      · skip
        refine ZV_aload_n (n := 46) dX11_check_45 rfl rfl rfl ?_
        refine ZV_getRv (n := 49) dX11_check_46 fl_X11_43 rfl rfl rfl (cf_sh hG :).1 (ca_tuplets (cf_sh hG :)) ?_
        refine ZV_iload_n (n := 50) dX11_check_49 rfl rfl rfl ?_
        rcases hb50 : g_tt T t with _ | _
        · skip
          refine ZV_aaldv (c0 := 3) (w := none) (j := t) (n := 51) dX11_check_50 rfl (by decide) rfl (ck_tuplets (cf_sh hG :)) rfl (by omega) (Eq.trans (cf_ta hG t (show t < g_te T by omega)) (if_neg (by rw [show g_tt (cT T G) t = false from hb50]; exact Bool.false_ne_true))) ?_
          refine ZV_ifnull_n (tgt := 74) dX11_check_51 (by decide) ?_
          refine ZV_iincN_2 (v := 1) (n := 77) dX11_check_74 rfl rfl (Nat.le_of_ble_eq_true rfl) rfl ?_
          refine ZV_goto (tgt := 37) dX11_check_77 (by decide) ?_
          exact ih (t + 1) G f _ (by omega) (by omega) (by rw [ckT, if_neg (fun z => by rw [hb50] at z; cases z.1), ← hE]) hG hK
        · skip
          refine ZV_aaldv (c0 := 3) (w := some (k_ta K t)) (j := t) (n := 51) dX11_check_50 rfl (by decide) rfl (ck_tuplets (cf_sh hG :)) rfl (by omega) (Eq.trans (cf_ta hG t (show t < g_te T by omega)) (if_pos hb50)) ?_
          refine ZV_ifnull_s (tgt := 74) (n := 54) dX11_check_51 (by decide) rfl ?_
          refine ZV_aload_n (n := 55) dX11_check_54 rfl rfl rfl ?_
          refine ZV_aload_n (n := 56) dX11_check_55 rfl rfl rfl ?_
          refine ZV_getRv (n := 59) dX11_check_56 fl_X11_43 rfl rfl rfl (cf_sh hG :).1 (ca_tuplets (cf_sh hG :)) ?_
          refine ZV_iload_n (n := 60) dX11_check_59 rfl rfl rfl ?_
          refine ZV_aaldv (c0 := 3) (w := some (k_ta K t)) (j := t) (n := 61) dX11_check_60 rfl (by decide) rfl (ck_tuplets (cf_sh hG :)) rfl (by omega) (Eq.trans (cf_ta hG t (show t < g_te T by omega)) (if_pos hb50)) ?_
          refine call_X11_334 (e_tupletIsFull hG (tI_ct hI (by omega)) hK (show t < g_te T by omega) hb50) rfl dX11_check_61 rfl (cf_sh hG :).1 (Nat.le_of_ble_eq_true rfl) (Nat.le_of_ble_eq_true rfl) rfl (fun r9 σ9 hp9 => ?_)
          obtain ⟨rfl, hs9⟩ := hp9
          subst σ9
          rw [swB_ct]
          refine ZV_if_neB (tgt := 74) (n := 67) dX11_check_64 (by decide) rfl (fun h64 => ?_) (fun h64 => ?_)
          · skip
            refine ZV_iincN_2 (v := 1) (n := 77) dX11_check_74 rfl rfl (Nat.le_of_ble_eq_true rfl) rfl ?_
            refine ZV_goto (tgt := 37) dX11_check_77 (by decide) ?_
            exact ih (t + 1) G f _ (by omega) (by omega) (by rw [ckT, if_neg (fun z => by rw [z.2] at h64; cases h64), ← hE]) hG hK
          · skip
            refine ZV_aload_n (n := 68) dX11_check_67 rfl rfl rfl ?_
            refine ZV_iconst (v := nI 5) (n := 69) dX11_check_68 rfl rfl ?_
            refine ZV_iload_n (n := 70) dX11_check_69 rfl rfl rfl ?_
            refine ZV_iconst (v := -1) (n := 71) dX11_check_70 rfl rfl ?_
            refine call_X11_338 (e_addFinding hG (show G.1 ≤ 5000 by omega) _ _ _) rfl dX11_check_71 rfl (cf_sh hG :).1 (Nat.le_of_ble_eq_true rfl) (Nat.le_of_ble_eq_true rfl) rfl (fun r9 σ9 hp9 => ?_)
            obtain ⟨rfl, hG⟩ := hp9
            rw [cT_fd] at hG
            refine ZV_iincN_2 (v := 1) (n := 77) dX11_check_74 rfl rfl (Nat.le_of_ble_eq_true rfl) rfl ?_
            refine ZV_goto (tgt := 37) dX11_check_77 (by decide) ?_
            exact ih (t + 1) _ f _ (by omega) (by omega) (by rw [ckT, if_pos ⟨hb50, by simpa using h64⟩, ← hE]) hG (by rw [← cT_fd]; exact kI_e hK ⟨rfl, rfl, rfl, rfl, rfl, rfl, rfl, rfl, rfl, rfl, rfl, rfl, rfl, rfl, rfl, rfl, rfl, rfl, rfl, rfl⟩)
  have loopV : ∀ (n9 : Nat) (v : Nat) (G : FS) (f : Nat → Int64) (τ : ZS), 3 * g_np T - v < n9 → v ≤ 3 * g_np T → G = ckV T v → cG c B τ (cT T G) (j_as K f) → kI (cT T G) (j_as K f) → ZV M_X11_check (fun y0 τ0 => y0 = some (Ai (sp_check T ).1) ∧ cR c τ0 (sp_check T ).2) 14 [some (Ar (some c)), some (Ai (nI (3 * g_np T))), some (Ai (nI v))] [] τ (zmC M_X11_check) (zmS M_X11_check) := by
    intro n9
    induction n9 with
    | zero => intro v G f τ hme; exact absurd hme (Nat.not_lt_zero _)
    | succ n9 ih =>
      intro v G f τ hme hb hE hG hK
      have hV := ckV_le hI v
      rw [← hE] at hV
      refine ZV_iload_n (n := 15) dX11_check_14 rfl rfl rfl ?_
      refine ZV_iload_n (n := 16) dX11_check_15 rfl rfl rfl ?_
      refine ZV_icmp_geN (tgt := 35) (n := 19) dX11_check_16 (by decide) rfl (by omega) (by omega) (fun h16 => ?_) (fun h16 => ?_)
      · skip
        refine ZV_iconst (v := nI 0) (n := 36) dX11_check_35 rfl rfl ?_
        refine ZV_istore_2 (n := 37) dX11_check_36 rfl (Nat.le_of_ble_eq_true rfl) rfl ?_
        obtain rfl : v = 3 * g_np T := by omega
        exact loopT _ 0 G f τ (Nat.lt_succ_self _) (Nat.zero_le _) hE hG hK
      · skip
        refine ZV_aload_n (n := 20) dX11_check_19 rfl rfl rfl ?_
        refine ZV_aload_n (n := 21) dX11_check_20 rfl rfl rfl ?_
        refine ZV_getRv (n := 24) dX11_check_21 fl_X11_21 rfl rfl rfl (cf_sh hG :).1 (ca_voices (cf_sh hG :)) ?_
        refine ZV_iload_n (n := 25) dX11_check_24 rfl rfl rfl ?_
        refine ZV_aaldv (c0 := 1) (j := v) (n := 26) dX11_check_25 rfl (by decide) rfl (ck_voices (cf_sh hG :)) rfl (by omega) (cf_va hG v (show v < 3 * g_np T by omega)) ?_
        refine call_X11_331 (e_findInVoice hG hI hK (by omega) (show v < 3 * g_np T by omega)) rfl dX11_check_26 rfl (cf_sh hG :).1 (Nat.le_of_ble_eq_true rfl) (Nat.le_of_ble_eq_true rfl) rfl (fun r9 σ9 hp9 => ?_)
        obtain ⟨rfl, f9, hG, hK⟩ := hp9
        refine ZV_iincN_2 (v := 1) (n := 32) dX11_check_29 rfl rfl (Nat.le_of_ble_eq_true rfl) rfl ?_
        refine ZV_goto (tgt := 14) dX11_check_32 (by decide) ?_
        exact ih (v + 1) _ f9 _ (by omega) (by omega) (by rw [ckV, ← hE]) hG hK
  refine ZV_aload_n (n := 1) dX11_check_0 rfl rfl rfl ?_
  refine ZV_iconst (v := nI 0) (n := 2) dX11_check_1 rfl rfl ?_
  refine ZV_putI (n := 5) dX11_check_2 fl_X11_69 rfl (Or.inl rfl) rfl (fun h => absurd h (by decide)) rfl (cf_sh hG :).1 ?_
  refine ZV_gen (P := fun τ => cG c B τ _ _) (U_fo hG _) (fun σ hG => ?_)
  refine ZV_aload_n (n := 6) dX11_check_5 rfl rfl rfl ?_
  refine ZV_getIv (n := 9) dX11_check_6 fl_X11_15 rfl rfl rfl (cf_sh hG :).1 (show _ = nI (g_np T) from (cf_np hG :)) ?_
  refine ZV_iconst (v := nI 3) (n := 10) dX11_check_9 rfl rfl ?_
  refine ZV_imulN (n := 11) dX11_check_10 rfl ?_
  refine ZV_topi (congrArg nI (Nat.mul_comm _ _)) ?_
  refine ZV_istore_1 (n := 12) dX11_check_11 rfl (Nat.le_of_ble_eq_true rfl) rfl ?_
  refine ZV_iconst (v := nI 0) (n := 13) dX11_check_12 rfl rfl ?_
  refine ZV_istore_2 (n := 14) dX11_check_13 rfl (Nat.le_of_ble_eq_true rfl) rfl ?_
  rw [← cT_0] at hG
  exact loopV _ 0 (ckV T 0) (k_as K) _ (Nat.lt_succ_self _) (Nat.zero_le _) rfl hG (kI_e hK ⟨rfl, rfl, rfl, rfl, rfl, rfl, rfl, rfl, rfl, rfl, rfl, rfl, rfl, rfl, rfl, rfl, rfl, rfl, rfl, rfl⟩)
