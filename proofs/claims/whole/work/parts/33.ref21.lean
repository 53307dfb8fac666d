theorem dT1_s1 {x : Nat} {σ : ZS} {T : TS} {e n : Nat} (h : rR x σ (dT1 T e n)) : rR x (qi σ (x + 13) n (bI false)) (bT T (va_up (dtt T e n) n false) (dtf T e n) (dtl T e n) (g_cu T - zcnt (dtr T e) n)) := by
  have h1 := rR_isTuplet (j := n) h false
  unfold dT1 at h1
  rw [bT_tt] at h1
  exact h1
theorem dT1_s2 {x : Nat} {σ : ZS} {T : TS} {a : Nat → Bool} {b c : Nat → Nat} {d : Nat} (h : rR x σ (bT T a b c d)) (d2 : Nat) : rR x (pI σ 785 x (nI d2)) (bT T a b c d2) := by
  have h1 := rR_tupletsThere h d2
  rw [bT_cu] at h1
  exact h1
theorem dT1_s3 {x : Nat} {σ : ZS} {T : TS} {e n : Nat} (h : rR x σ (dT1 T e n)) (v : Nat) : rR x (qi σ (x + 15) n (nI v)) (bT T (dtt T e n) (va_up (dtf T e n) n v) (dtl T e n) (g_cu T - zcnt (dtr T e) n)) := by
  have h1 := rR_tupletFirst (j := n) h v
  unfold dT1 at h1
  rw [bT_tf] at h1
  exact h1
theorem dT1_s4 {x : Nat} {σ : ZS} {T : TS} {e n : Nat} (h : rR x σ (dT1 T e n)) (v : Nat) : rR x (qi σ (x + 16) n (nI v)) (bT T (dtt T e n) (dtf T e n) (va_up (dtl T e n) n v) (g_cu T - zcnt (dtr T e) n)) := by
  have h1 := rR_tupletLast (j := n) h v
  unfold dT1 at h1
  rw [bT_tl] at h1
  exact h1
theorem dT2_s1 {x : Nat} {σ : ZS} {T : TS} {e n : Nat} (h : rR x σ (dT2 T e n)) : rR x (qi σ (x + 20) n (bI false)) (lT T (va_up (dlt T e n) n false) (dlo T e n) (g_cl T - zcnt (dlr T e) n)) := by
  have h1 := rR_isLine (j := n) h false
  unfold dT2 at h1
  rw [lT_lt] at h1
  exact h1
theorem dT2_s2 {x : Nat} {σ : ZS} {T : TS} {a : Nat → Bool} {b : Nat → Option Nat} {d : Nat} (h : rR x σ (lT T a b d)) (d2 : Nat) : rR x (pI σ 794 x (nI d2)) (lT T a b d2) := by
  have h1 := rR_linesThere h d2
  rw [lT_cl] at h1
  exact h1
theorem dT2_s3 {x : Nat} {σ : ZS} {T : TS} {e n : Nat} (h : rR x σ (dT2 T e n)) : rR x (qi σ (x + 23) n (oI none)) (lT T (dlt T e n) (va_up (dlo T e n) n none) (g_cl T - zcnt (dlr T e) n)) := by
  have h1 := rR_lineTo (j := n) h none
  unfold dT2 at h1
  rw [lT_lo] at h1
  exact h1
theorem rr_s {x : Nat} {σ : ZS} {T T2 : TS} {e i j : Nat} (h : rR x σ (h_rr T2 (drr T e (20 * i + j)))) (hi : i < 4) (hj : j < 20) (v : Option Nat) (hv : v = if g_rr T i j = some e then none else g_rr T i j) : rR x (qi σ (x + 29) (20 * i + j) (oI v)) (h_rr T2 (drr T e (20 * i + j + 1))) := by
  have h1 := rR_rackRow (i := i) (j := j) h hi hj v
  rw [hh_rr] at h1
  have h2 := rR_rackRowE h1 (f := drr T e (20 * i + j + 1)) (fun a b ha hb => by
    show drr T e (20 * i + j + 1) a b = va_u2 (drr T e (20 * i + j)) i (va_up (drr T e (20 * i + j) i) j v) a b
    unfold va_u2 va_up
    by_cases h1 : a = i
    · subst h1
      rw [if_pos rfl]
      by_cases h2 : b = j
      · subst h2
        rw [if_pos rfl, hv]
        unfold drr
        by_cases h3 : g_rr T a b = some e
        · rw [if_pos ⟨Nat.lt_succ_self _, h3⟩, if_pos h3]
        · rw [if_neg (fun z => h3 z.2), if_neg h3]
      · rw [if_neg h2]
        unfold drr
        simp only [show 20 * a + b < 20 * a + j + 1 ↔ 20 * a + b < 20 * a + j by omega]
    · rw [if_neg h1]
      unfold drr
      simp only [show 20 * a + b < 20 * i + j + 1 ↔ 20 * a + b < 20 * i + j by omega])
  rw [hh_rr] at h2
  exact h2
theorem rr_0 {x : Nat} {σ : ZS} {T T2 : TS} {e : Nat} (h : rR x σ T2) (he : g_rr T2 = g_rr T) : rR x σ (h_rr T2 (drr T e 0)) := rR_rackRowE h (fun a b ha hb => by
  rw [he]
  unfold drr
  rw [if_neg (by omega)])
theorem rr_80 {x : Nat} {σ : ZS} {T T2 : TS} {e : Nat} (h : rR x σ (h_rr T2 (drr T e 80))) : rR x σ (h_rr T2 (rrE T e)) := by
  have h2 := rR_rackRowE h (f := rrE T e) (fun a b ha hb => by
    show rrE T e a b = drr T e 80 a b
    unfold rrE drr
    by_cases h3 : g_rr T a b = some e
    · rw [if_pos h3, if_pos ⟨by omega, h3⟩]
    · rw [if_neg h3, if_neg (fun z => h3 z.2)])
  rw [hh_rr] at h2
  exact h2
theorem row_s {x : Nat} {σ : ZS} {T2 : TS} {r : Nat → Nat → Nat} {v p k : Nat} (h : rR x σ (h_ro T2 (va_u2 r v (upF (r v) p k)))) (hv : v < 18) (hk : k < 40) (hp : p ≤ k) : rR x (qi σ (x + 11) (40 * v + k) (nI (r v (k + 1)))) (h_ro T2 (va_u2 r v (upF (r v) p (k + 1)))) := by
  have h1 := rR_row (i := v) (j := k) h hv hk (r v (k + 1))
  rw [hh_ro, show g_ro (h_ro T2 (va_u2 r v (upF (r v) p k))) = va_u2 r v (upF (r v) p k) from rfl, u2_u2, upF_up _ hp] at h1
  exact h1
theorem row_0 {x : Nat} {σ : ZS} {T2 : TS} {r : Nat → Nat → Nat} {v p : Nat} (h : rR x σ T2) (hr : g_ro T2 = r) : rR x σ (h_ro T2 (va_u2 r v (upF (r v) p p))) := by
  rw [upF_0, u2_self, ← hr, hs_ro]
  exact h
set_option maxHeartbeats 4000000 in
set_option maxRecDepth 100000 in
theorem c_drop {x : Nat} {σ : ZS} {T : TS} (hR : rR x σ T) (hI : tI T) (e : Int32) : ZC M_X12_drop [Ar (some x), Ai e] σ (fun y0 τ0 => y0 = some (Ai (sp_drop T e).1) ∧ rR x τ0 (sp_drop T e).2) := by
  have hsp : sp_drop T e = sp_drop (h_su T 0) e := rfl
  rw [hsp]
  clear hsp
  refine ZC_of (ls := [some (Ar (some x)), some (Ai e), none, none, none]) (by decide) (Nat.le_of_ble_eq_true rfl) rfl ?_
  refine ZV_aload_n (n := 1) dX12_drop_0 rfl rfl rfl ?_
  refine call_X12_144 (c_begin hR) rfl dX12_drop_1 rfl (rf_sh hR :).1 (Nat.le_of_ble_eq_true rfl) (Nat.le_of_ble_eq_true rfl) rfl (fun r9 σ9 hp9 => ?_)
  obtain ⟨rfl, hR⟩ := hp9
  have hI := tI_su hI 0
  have hsu : g_su (h_su T 0) = 0 := rfl
  generalize h_su T 0 = T at hR hI hsu ⊢
  have hnp := ti_np hI
  have hev := ti_ev hI
  have hte := ti_te hI
  have hle := ti_le hI
  have hcu := ti_cu hI
  have hcl := ti_cl hI
  have hct := ti_ct hI
  refine ZV_aload_n (n := 5) dX12_drop_4 rfl rfl rfl ?_
  refine ZV_iload_n (n := 6) dX12_drop_5 rfl rfl rfl ?_
  refine call_X12_193 (c_isEvent hR hI _) rfl dX12_drop_6 rfl (rf_sh hR :).1 (Nat.le_of_ble_eq_true rfl) (Nat.le_of_ble_eq_true rfl) rfl (fun r9 σ9 hp9 => ?_)
  obtain ⟨rfl, rfl⟩ := hp9
  refine ZV_if_neB (tgt := 19) (n := 12) dX12_drop_9 (by decide) rfl (fun h9x => ?_) (fun h9x => ?_)
  · skip
    obtain ⟨e, hj, hjt, rfl⟩ := evB_t hI h9x
    have hjx : e < 2147483648 := by omega
    have hvo := ti_vo hI e hj
    have hpl := ti_pl hI e hj hjt
    have hpl1 := hpl.1
    have hmn := ti_mn hI (g_vo T e)
    have hc1 := zcnt_lt (b := g_th T) (i := e) (n := g_ev T) hjt hj
    refine ZV_aload_n (n := 20) dX12_drop_19 rfl rfl rfl ?_
    refine ZV_getR (n := 23) dX12_drop_20 fl_X12_21 rfl rfl rfl (rf_sh hR :).1 ?_
    refine ZV_iload_n (n := 24) dX12_drop_23 rfl rfl rfl ?_
    refine ZV_ialdv (n := 25) dX12_drop_24 rfl (ra_voiceOf (rf_sh hR :) :) (rk_voiceOf (rf_sh hR :) :) rfl (by omega) (rf_voiceOf hR _ (by omega)) ?_
    refine ZV_istore_2 (n := 26) dX12_drop_25 rfl (Nat.le_of_ble_eq_true rfl) rfl ?_
    refine ZV_aload_n (n := 27) dX12_drop_26 rfl rfl rfl ?_
    refine ZV_iload_n (n := 28) dX12_drop_27 rfl rfl rfl ?_
    refine call_X12_196 (c_placeOf hR hI _ hj hjt) rfl dX12_drop_28 rfl (rf_sh hR :).1 (Nat.le_of_ble_eq_true rfl) (Nat.le_of_ble_eq_true rfl) rfl (fun r9 σ9 hp9 => ?_)
    obtain ⟨rfl, rfl⟩ := hp9
    refine ZV_istore_3 (n := 32) dX12_drop_31 rfl (Nat.le_of_ble_eq_true rfl) rfl ?_
    refine ZV_iconst (v := nI 0) (n := 33) dX12_drop_32 rfl rfl ?_
    refine ZV_istore_4 (n := 35) dX12_drop_33 rfl (Nat.le_of_ble_eq_true rfl) rfl ?_
    obtain ⟨T1, hT1⟩ : ∃ z, z = dT1 T e (g_te T) := ⟨_, rfl⟩
    have f1_lt : g_lt T1 = g_lt T := by rw [hT1]; rfl
    have f1_lf : g_lf T1 = g_lf T := by rw [hT1]; rfl
    have f1_lo : g_lo T1 = g_lo T := by rw [hT1]; rfl
    have f1_le : g_le T1 = g_le T := by rw [hT1]; rfl
    have f1_cl : g_cl T1 = g_cl T := by rw [hT1]; rfl
    have f1_rr : g_rr T1 = g_rr T := by rw [hT1]; rfl
    have f1_ro : g_ro T1 = g_ro T := by rw [hT1]; rfl
    have f1_mn : g_mn T1 = g_mn T := by rw [hT1]; rfl
    have f1_th : g_th T1 = g_th T := by rw [hT1]; rfl
    have f1_ct : g_ct T1 = g_ct T := by rw [hT1]; rfl
    obtain ⟨T2, hT2⟩ : ∃ z, z = dT2 T1 e (g_le T) := ⟨_, rfl⟩
    have f2_rr : g_rr T2 = g_rr T := by rw [hT2, ← f1_rr]; rfl
    have f2_ro : g_ro T2 = g_ro T := by rw [hT2, ← f1_ro]; rfl
    have f2_mn : g_mn T2 = g_mn T := by rw [hT2, ← f1_mn]; rfl
    have f2_th : g_th T2 = g_th T := by rw [hT2, ← f1_th]; rfl
    have f2_ct : g_ct T2 = g_ct T := by rw [hT2, ← f1_ct]; rfl
    have loopR : ∀ (n9 : Nat) (k : Nat) (τ : ZS), g_mn T (g_vo T e) - k < n9 → g_pl T e ≤ k → k + 1 ≤ g_mn T (g_vo T e) → rR x τ (h_ro (h_rr T2 (rrE T e)) (va_u2 (g_ro T) (g_vo T e) (upF (g_ro T (g_vo T e)) (g_pl T e) k))) → ZV M_X12_drop (fun y0 τ0 => y0 = some (Ai (sp_drop T (nI e)).1) ∧ rR x τ0 (sp_drop T (nI e)).2) 325 [some (Ar (some x)), some (Ai (nI e)), some (Ai (nI (g_vo T e))), some (Ai (nI (g_pl T e))), some (Ai (nI k))] [] τ (zmC M_X12_drop) (zmS M_X12_drop) := by
      intro n9
      induction n9 with
      | zero => intro k τ hm; exact absurd hm (Nat.not_lt_zero _)
      | succ n9 ih =>
        intro k τ hm hk1 hk2 hR1
        refine ZV_iload (n := 327) dX12_drop_325 rfl rfl ?_
        refine ZV_iconst (v := nI 1) (n := 328) dX12_drop_327 rfl rfl ?_
        refine ZV_iaddN (n := 329) dX12_drop_328 rfl ?_
        refine ZV_aload_n (n := 330) dX12_drop_329 rfl rfl rfl ?_
        refine ZV_getR (n := 333) dX12_drop_330 fl_X12_45 rfl rfl rfl (rf_sh hR1 :).1 ?_
        refine ZV_iload_n (n := 334) dX12_drop_333 rfl rfl rfl ?_
        refine ZV_ialdv (n := 335) dX12_drop_334 rfl (ra_many (rf_sh hR1 :) :) (rk_many (rf_sh hR1 :) :) rfl (by omega) ((rf_many hR1 (g_vo T e) (by omega)).trans (show nI (g_mn T2 (g_vo T e)) = nI (g_mn T (g_vo T e)) by rw [f2_mn])) ?_
        refine ZV_icmp_geN (tgt := 370) (n := 338) dX12_drop_335 (by decide) rfl (by omega) (by omega) (fun h335 => ?_) (fun h335 => ?_)
        · skip
          obtain rfl : k = g_mn T (g_vo T e) - 1 := by omega
          refine ZV_aload_n (n := 371) dX12_drop_370 rfl rfl rfl ?_
          refine ZV_getR (n := 374) dX12_drop_371 fl_X12_45 rfl rfl rfl (rf_sh hR1 :).1 ?_
          refine ZV_iload_n (n := 375) dX12_drop_374 rfl rfl rfl ?_
          refine ZV_dup2 (n := 376) dX12_drop_375 rfl rfl rfl ?_
          refine ZV_ialdv (n := 377) dX12_drop_376 rfl (ra_many (rf_sh hR1 :) :) (rk_many (rf_sh hR1 :) :) rfl (by omega) ((rf_many hR1 (g_vo T e) (by omega)).trans (show nI (g_mn T2 (g_vo T e)) = nI (g_mn T (g_vo T e)) by rw [f2_mn])) ?_
          refine ZV_iconst (v := nI 1) (n := 378) dX12_drop_377 rfl rfl ?_
          refine ZV_isubN (n := 379) dX12_drop_378 rfl (by omega) ?_
          refine ZV_iast (n := 380) dX12_drop_379 rfl (ra_many (rf_sh hR1 :) :) (rk_many (rf_sh hR1 :) :) rfl (by omega) ?_
          have hR1 := rR_many (j := g_vo T e) hR1 (g_mn T (g_vo T e) - 1)
          rw [show g_mn (h_ro (h_rr T2 (rrE T e)) (va_u2 (g_ro T) (g_vo T e) (upF (g_ro T (g_vo T e)) (g_pl T e) (g_mn T (g_vo T e) - 1)))) = g_mn T from f2_mn] at hR1
          generalize qi τ _ _ _ = τ at hR1 ⊢
          refine ZV_aload_n (n := 381) dX12_drop_380 rfl rfl rfl ?_
          refine ZV_getR (n := 384) dX12_drop_381 fl_X12_17 rfl rfl rfl (rf_sh hR1 :).1 ?_
          refine ZV_iload_n (n := 385) dX12_drop_384 rfl rfl rfl ?_
          refine ZV_iconst (v := nI 0) (n := 386) dX12_drop_385 rfl rfl ?_
          refine ZV_bast (n := 387) dX12_drop_386 rfl (Or.inl rfl) (ra_isThere (rf_sh hR1 :) :) (rk_isThere (rf_sh hR1 :) :) rfl (by omega) ?_
          have hR1 := rR_isThere (j := e) hR1 false
          rw [show g_th (h_mn (h_ro (h_rr T2 (rrE T e)) (va_u2 (g_ro T) (g_vo T e) (upF (g_ro T (g_vo T e)) (g_pl T e) (g_mn T (g_vo T e) - 1)))) (va_up (g_mn T) (g_vo T e) (g_mn T (g_vo T e) - 1))) = g_th T from f2_th] at hR1
          refine ZV_gen (P := fun τ => rR x τ _) hR1 (fun τ hR1 => ?_)
          refine ZV_aload_n (n := 388) dX12_drop_387 rfl rfl rfl ?_
          refine ZV_dup (n := 389) dX12_drop_388 rfl rfl ?_
          refine ZV_getIv (n := 392) dX12_drop_389 fl_X12_190 rfl rfl rfl (rf_sh hR1 :).1 ((rf_there hR1).trans (show nI (g_ct T2) = nI (g_ct T) by rw [f2_ct])) ?_
          refine ZV_iconst (v := nI 1) (n := 393) dX12_drop_392 rfl rfl ?_
          refine ZV_isubN (n := 394) dX12_drop_393 rfl (by omega) ?_
          refine ZV_putI (n := 397) dX12_drop_394 fl_X12_190 rfl (Or.inl rfl) rfl (fun h => absurd h (by decide)) rfl (rf_sh hR1 :).1 ?_
          refine ZV_gen (P := fun τ => rR x τ _) (rR_there hR1 (g_ct T - 1)) (fun σ hR1 => ?_)
          refine ZV_iload_n (n := 398) dX12_drop_397 rfl rfl rfl ?_
          refine ZV_iret dX12_drop_398 rfl ?_
          have h9 := rR_pl hR1 (fun f => if g_th T f = true ∧ g_vo T f = g_vo T e ∧ g_pl T e < g_pl T f then g_pl T f - 1 else g_pl T f)
          subst hT2
          subst hT1
          exact zleaf (v := sOk (dropT T e) (nI (g_pl T e))) (by rw [sp_drop, if_neg (by rw [h9x]; decide), nI_clamp hjx, su0 hsu]) rfl (rR_s0 (by unfold dropT; exact h9) hsu)
        · skip
          refine ZV_aload_n (n := 339) dX12_drop_338 rfl rfl rfl ?_
          refine ZV_getR (n := 342) dX12_drop_339 fl_X12_42 rfl rfl rfl (rf_sh hR1 :).1 ?_
          refine ZV_bipush (v := nI 40) (n := 344) dX12_drop_342 rfl rfl ?_
          refine ZV_iload_n (n := 345) dX12_drop_344 rfl rfl rfl ?_
          refine ZV_imulN (n := 346) dX12_drop_345 rfl ?_
          refine ZV_iload (n := 348) dX12_drop_346 rfl rfl ?_
          refine ZV_iaddN (n := 349) dX12_drop_348 rfl ?_
          refine ZV_aload_n (n := 350) dX12_drop_349 rfl rfl rfl ?_
          refine ZV_getR (n := 353) dX12_drop_350 fl_X12_42 rfl rfl rfl (rf_sh hR1 :).1 ?_
          refine ZV_bipush (v := nI 40) (n := 355) dX12_drop_353 rfl rfl ?_
          refine ZV_iload_n (n := 356) dX12_drop_355 rfl rfl rfl ?_
          refine ZV_imulN (n := 357) dX12_drop_356 rfl ?_
          refine ZV_iload (n := 359) dX12_drop_357 rfl rfl ?_
          refine ZV_iaddN (n := 360) dX12_drop_359 rfl ?_
          refine ZV_iconst (v := nI 1) (n := 361) dX12_drop_360 rfl rfl ?_
          refine ZV_iaddN (n := 362) dX12_drop_361 rfl ?_
          refine ZV_ialdv (n := 363) dX12_drop_362 rfl (ra_row (rf_sh hR1 :) :) (rk_row (rf_sh hR1 :) :) rfl (by omega) (Eq.trans (congrArg _ (show 40 * g_vo T e + k + 1 = 40 * g_vo T e + (k + 1) by omega)) ((rf_row hR1 (g_vo T e) (k + 1) (by omega) (by omega)).trans (show nI (va_u2 _ (g_vo T e) _ (g_vo T e) (k + 1)) = nI (g_ro T (g_vo T e) (k + 1)) by rw [u2_at]; unfold upF; rw [if_neg (by omega)]))) ?_
          refine ZV_iast (n := 364) dX12_drop_363 rfl (ra_row (rf_sh hR1 :) :) (rk_row (rf_sh hR1 :) :) rfl (by omega) ?_
          have hR1 := row_s hR1 (by omega) (by omega) hk1
          generalize qi τ _ _ _ = τ at hR1 ⊢
          refine ZV_iincN_4 (v := 1) (n := 367) dX12_drop_364 rfl rfl (Nat.le_of_ble_eq_true rfl) rfl ?_
          refine ZV_goto (tgt := 325) dX12_drop_367 (by decide) ?_
          exact ih (k + 1) _ (by omega) (by omega) (by omega) hR1
    have loopK : ∀ (n9 : Nat) (k : Nat) (τ : ZS), 80 - k < n9 → k ≤ 80 → rR x τ (h_rr T2 (drr T e k)) → ZV M_X12_drop (fun y0 τ0 => y0 = some (Ai (sp_drop T (nI e)).1) ∧ rR x τ0 (sp_drop T (nI e)).2) 280 [some (Ar (some x)), some (Ai (nI e)), some (Ai (nI (g_vo T e))), some (Ai (nI (g_pl T e))), some (Ai (nI k))] [] τ (zmC M_X12_drop) (zmS M_X12_drop) := by
      intro n9
      induction n9 with
      | zero => intro k τ hm; exact absurd hm (Nat.not_lt_zero _)
      | succ n9 ih =>
        intro k τ hm hk hR1
        refine ZV_iload (n := 282) dX12_drop_280 rfl rfl ?_
        refine ZV_bipush (v := nI 80) (n := 284) dX12_drop_282 rfl rfl ?_
        refine ZV_icmp_geN (tgt := 322) (n := 287) dX12_drop_284 (by decide) rfl (by omega) (by omega) (fun h284 => ?_) (fun h284 => ?_)
        · skip
          refine ZV_iload_n (n := 323) dX12_drop_322 rfl rfl rfl ?_
          refine ZV_istore_4 (n := 325) dX12_drop_323 rfl (Nat.le_of_ble_eq_true rfl) rfl ?_
          obtain rfl : k = 80 := by omega
          exact loopR _ (g_pl T e) _ (Nat.lt_succ_self _) (Nat.le_refl _) (by omega) (row_0 (rr_80 hR1) f2_ro)
        · skip
          obtain ⟨i, j, hij, hi4, hj20⟩ : ∃ i j, k = 20 * i + j ∧ i < 4 ∧ j < 20 := ⟨k / 20, k % 20, by omega, by omega, by omega⟩
          subst hij
          have hoe : oI (g_rr T i j) = nI e ↔ g_rr T i j = some e := oI_eq (fun f q => by have := ti_rrb hI i j f hi4 hj20 q; omega) (by omega)
          refine ZV_aload_n (n := 288) dX12_drop_287 rfl rfl rfl ?_
          refine ZV_getR (n := 291) dX12_drop_288 fl_X12_96 rfl rfl rfl (rf_sh hR1 :).1 ?_
          refine ZV_iload (n := 293) dX12_drop_291 rfl rfl ?_
          refine ZV_aload_n (n := 294) dX12_drop_293 rfl rfl rfl ?_
          refine ZV_getR (n := 297) dX12_drop_294 fl_X12_96 rfl rfl rfl (rf_sh hR1 :).1 ?_
          refine ZV_iload (n := 299) dX12_drop_297 rfl rfl ?_
          refine ZV_ialdv (n := 300) dX12_drop_299 rfl (ra_rackRow (rf_sh hR1 :) :) (rk_rackRow (rf_sh hR1 :) :) rfl (by omega) (Eq.trans (rf_rackRow hR1 i j hi4 hj20) (show oI (drr T e (20 * i + j) i j) = oI (g_rr T i j) by unfold drr; rw [if_neg (by omega)])) ?_
          refine ZV_iload_n (n := 301) dX12_drop_300 rfl rfl rfl ?_
          refine ZV_icmp_ne (tgt := 308) (n := 304) dX12_drop_301 (by decide) rfl (fun h301 => ?_) (fun h301 => ?_)
          · skip
            refine ZV_aload_n (n := 309) dX12_drop_308 rfl rfl rfl ?_
            refine ZV_getR (n := 312) dX12_drop_309 fl_X12_96 rfl rfl rfl (rf_sh hR1 :).1 ?_
            refine ZV_iload (n := 314) dX12_drop_312 rfl rfl ?_
            refine ZV_ialdv (n := 315) dX12_drop_314 rfl (ra_rackRow (rf_sh hR1 :) :) (rk_rackRow (rf_sh hR1 :) :) rfl (by omega) (Eq.trans (rf_rackRow hR1 i j hi4 hj20) (show oI (drr T e (20 * i + j) i j) = oI (g_rr T i j) by unfold drr; rw [if_neg (by omega)])) ?_
            refine ZV_iast (n := 316) dX12_drop_315 rfl (ra_rackRow (rf_sh hR1 :) :) (rk_rackRow (rf_sh hR1 :) :) rfl (by omega) ?_
            first | (refine ZV_gen (P := fun τ => rR x τ _) (rr_s hR1 hi4 hj20 none (by rw [if_pos (hoe.mp h301)])) (fun τ hR1 => ?_)) | (refine ZV_gen (P := fun τ => rR x τ _) (rr_s hR1 hi4 hj20 (g_rr T i j) (by rw [if_neg (fun z => h301 (hoe.mpr z))])) (fun τ hR1 => ?_))
            refine ZV_iincN_4 (v := 1) (n := 319) dX12_drop_316 rfl rfl (Nat.le_of_ble_eq_true rfl) rfl ?_
            refine ZV_goto (tgt := 280) dX12_drop_319 (by decide) ?_
            exact ih (20 * i + j + 1) _ (by omega) (by omega) hR1
          · skip
            refine ZV_iconst (v := -1) (n := 305) dX12_drop_304 rfl rfl ?_
            refine ZV_goto (tgt := 315) dX12_drop_305 (by decide) ?_
            refine ZV_iast (n := 316) dX12_drop_315 rfl (ra_rackRow (rf_sh hR1 :) :) (rk_rackRow (rf_sh hR1 :) :) rfl (by omega) ?_
            first | (refine ZV_gen (P := fun τ => rR x τ _) (rr_s hR1 hi4 hj20 none (by rw [if_pos (hoe.mp h301)])) (fun τ hR1 => ?_)) | (refine ZV_gen (P := fun τ => rR x τ _) (rr_s hR1 hi4 hj20 (g_rr T i j) (by rw [if_neg (fun z => h301 (hoe.mpr z))])) (fun τ hR1 => ?_))
            refine ZV_iincN_4 (v := 1) (n := 319) dX12_drop_316 rfl rfl (Nat.le_of_ble_eq_true rfl) rfl ?_
            refine ZV_goto (tgt := 280) dX12_drop_319 (by decide) ?_
            exact ih (20 * i + j + 1) _ (by omega) (by omega) hR1
    have loopL : ∀ (n9 : Nat) (l : Nat) (τ : ZS), g_le T - l < n9 → l ≤ g_le T → rR x τ (dT2 T1 e l) → ZV M_X12_drop (fun y0 τ0 => y0 = some (Ai (sp_drop T (nI e)).1) ∧ rR x τ0 (sp_drop T (nI e)).2) 191 [some (Ar (some x)), some (Ai (nI e)), some (Ai (nI (g_vo T e))), some (Ai (nI (g_pl T e))), some (Ai (nI l))] [] τ (zmC M_X12_drop) (zmS M_X12_drop) := by
      intro n9
      induction n9 with
      | zero => intro l τ hm; exact absurd hm (Nat.not_lt_zero _)
      | succ n9 ih =>
        intro l τ hm hl hR1
        refine ZV_iload (n := 193) dX12_drop_191 rfl rfl ?_
        refine ZV_aload_n (n := 194) dX12_drop_193 rfl rfl rfl ?_
        refine ZV_getIv (n := 197) dX12_drop_194 fl_X12_205 rfl rfl rfl (rf_sh hR1 :).1 ((rf_linesEver hR1).trans (show nI (g_le T1) = nI (g_le T) by rw [f1_le])) ?_
        refine ZV_icmp_geN (tgt := 277) (n := 200) dX12_drop_197 (by decide) rfl (by omega) (by omega) (fun h197 => ?_) (fun h197 => ?_)
        · skip
          refine ZV_iconst (v := nI 0) (n := 278) dX12_drop_277 rfl rfl ?_
          refine ZV_istore_4 (n := 280) dX12_drop_278 rfl (Nat.le_of_ble_eq_true rfl) rfl ?_
          obtain rfl : l = g_le T := by omega
          rw [← hT2] at hR1
          exact loopK _ 0 _ (Nat.lt_succ_self _) (Nat.zero_le _) (rr_0 hR1 f2_rr)
        · skip
          refine ZV_aload_n (n := 201) dX12_drop_200 rfl rfl rfl ?_
          refine ZV_getR (n := 204) dX12_drop_201 fl_X12_69 rfl rfl rfl (rf_sh hR1 :).1 ?_
          refine ZV_iload (n := 206) dX12_drop_204 rfl rfl ?_
          refine ZV_baldv (n := 207) dX12_drop_206 rfl (ra_isLine (rf_sh hR1 :) :) (rk_isLine (rf_sh hR1 :) :) rfl (by omega) ((rf_isLine hR1 l (by omega)).trans (show bI (dlt T1 e l l) = bI (g_lt T l) by rw [dlt_n, f1_lt])) ?_
          refine ZV_if_eqB (tgt := 242) (n := 210) dX12_drop_207 (by decide) rfl (fun h207 => ?_) (fun h207 => ?_)
          · skip
            have hlt := h207
            refine ZV_aload_n (n := 243) dX12_drop_242 rfl rfl rfl ?_
            refine ZV_getR (n := 246) dX12_drop_243 fl_X12_69 rfl rfl rfl (rf_sh hR1 :).1 ?_
            refine ZV_iload (n := 248) dX12_drop_246 rfl rfl ?_
            refine ZV_baldv (n := 249) dX12_drop_248 rfl (ra_isLine (rf_sh hR1 :) :) (rk_isLine (rf_sh hR1 :) :) rfl (by omega) ((rf_isLine hR1 l (by omega)).trans (show bI (dlt T1 e l l) = bI (g_lt T l) by rw [dlt_n, f1_lt])) ?_
            refine ZV_if_eqB (tgt := 271) (n := 252) dX12_drop_249 (by decide) rfl (fun h249 => ?_) (fun h249 => ?_)
            · skip
              refine ZV_iincN_4 (v := 1) (n := 274) dX12_drop_271 rfl rfl (Nat.le_of_ble_eq_true rfl) rfl ?_
              refine ZV_goto (tgt := 191) dX12_drop_274 (by decide) ?_
              rw [dT2_no (Or.inl (by rw [f1_lt]; exact h207))] at hR1
              exact ih (l + 1) _ (by omega) (by omega) hR1
            · skip
              exact absurd (h207.symm.trans h249) (by decide)
          · skip
            have hlf := ti_lf hI l (by omega) h207
            have hoe : oI (g_lo T l) = nI e ↔ g_lo T l = some e := oI_eq (fun f q => by have := ti_lo hI l f (by omega) h207 q; omega) (by omega)
            refine ZV_aload_n (n := 211) dX12_drop_210 rfl rfl rfl ?_
            refine ZV_getR (n := 214) dX12_drop_211 fl_X12_75 rfl rfl rfl (rf_sh hR1 :).1 ?_
            refine ZV_iload (n := 216) dX12_drop_214 rfl rfl ?_
            refine ZV_ialdv (n := 217) dX12_drop_216 rfl (ra_lineFrom (rf_sh hR1 :) :) (rk_lineFrom (rf_sh hR1 :) :) rfl (by omega) ((rf_lineFrom hR1 l (by omega)).trans (show nI (g_lf T1 l) = nI (g_lf T l) by rw [f1_lf])) ?_
            refine ZV_iload_n (n := 218) dX12_drop_217 rfl rfl rfl ?_
            refine ZV_icmp_neN (tgt := 242) (n := 221) dX12_drop_218 (by decide) rfl (by omega) (by omega) (fun h218 => ?_) (fun h218 => ?_)
            · skip
              refine ZV_aload_n (n := 243) dX12_drop_242 rfl rfl rfl ?_
              refine ZV_getR (n := 246) dX12_drop_243 fl_X12_69 rfl rfl rfl (rf_sh hR1 :).1 ?_
              refine ZV_iload (n := 248) dX12_drop_246 rfl rfl ?_
              refine ZV_baldv (n := 249) dX12_drop_248 rfl (ra_isLine (rf_sh hR1 :) :) (rk_isLine (rf_sh hR1 :) :) rfl (by omega) ((rf_isLine hR1 l (by omega)).trans (show bI (dlt T1 e l l) = bI (g_lt T l) by rw [dlt_n, f1_lt])) ?_
              refine ZV_if_eqB (tgt := 271) (n := 252) dX12_drop_249 (by decide) rfl (fun h249 => ?_) (fun h249 => ?_)
              · skip
                exact absurd (h207.symm.trans h249) (by decide)
              · skip
                refine ZV_aload_n (n := 253) dX12_drop_252 rfl rfl rfl ?_
                refine ZV_getR (n := 256) dX12_drop_253 fl_X12_78 rfl rfl rfl (rf_sh hR1 :).1 ?_
                refine ZV_iload (n := 258) dX12_drop_256 rfl rfl ?_
                refine ZV_ialdv (n := 259) dX12_drop_258 rfl (ra_lineTo (rf_sh hR1 :) :) (rk_lineTo (rf_sh hR1 :) :) rfl (by omega) ((rf_lineTo hR1 l (by omega)).trans (show oI (dlo T1 e l l) = oI (g_lo T l) by rw [dlo_n, f1_lo])) ?_
                refine ZV_iload_n (n := 260) dX12_drop_259 rfl rfl rfl ?_
                refine ZV_icmp_ne (tgt := 271) (n := 263) dX12_drop_260 (by decide) rfl (fun h260 => ?_) (fun h260 => ?_)
                · skip
                  refine ZV_iincN_4 (v := 1) (n := 274) dX12_drop_271 rfl rfl (Nat.le_of_ble_eq_true rfl) rfl ?_
                  refine ZV_goto (tgt := 191) dX12_drop_274 (by decide) ?_
                  rw [dT2_no (Or.inr ⟨by rw [f1_lf]; exact h218, by rw [f1_lo]; exact fun z => h260 (hoe.mpr z)⟩)] at hR1
                  exact ih (l + 1) _ (by omega) (by omega) hR1
                · skip
                  refine ZV_aload_n (n := 264) dX12_drop_263 rfl rfl rfl ?_
                  refine ZV_getR (n := 267) dX12_drop_264 fl_X12_78 rfl rfl rfl (rf_sh hR1 :).1 ?_
                  refine ZV_iload (n := 269) dX12_drop_267 rfl rfl ?_
                  refine ZV_iconst (v := -1) (n := 270) dX12_drop_269 rfl rfl ?_
                  refine ZV_iast (n := 271) dX12_drop_270 rfl (ra_lineTo (rf_sh hR1 :) :) (rk_lineTo (rf_sh hR1 :) :) rfl (by omega) ?_
                  refine ZV_gen (P := fun τ => rR x τ _) (dT2_s3 hR1) (fun τ hR1 => ?_)
                  rw [dT2_op (by rw [f1_lt]; exact h207) (by rw [f1_lf]; exact h218) (by rw [f1_lo]; exact hoe.mp h260)] at hR1
                  refine ZV_iincN_4 (v := 1) (n := 274) dX12_drop_271 rfl rfl (Nat.le_of_ble_eq_true rfl) rfl ?_
                  refine ZV_goto (tgt := 191) dX12_drop_274 (by decide) ?_
                  exact ih (l + 1) _ (by omega) (by omega) hR1
            · skip
              have hzl := zcnt_lt (b := dlr T1 e) (i := l) (n := g_le T) (by unfold dlr; rw [f1_lt, f1_lf, h207, decide_eq_true h218]; rfl) (by omega)
              have hzs := zcnt_sub (a := dlr T1 e) (b := g_lt T) (fun i q => by unfold dlr at q; rw [f1_lt] at q; exact (Bool.and_eq_true_iff.mp q).1) (g_le T)
              refine ZV_aload_n (n := 222) dX12_drop_221 rfl rfl rfl ?_
              refine ZV_getR (n := 225) dX12_drop_222 fl_X12_69 rfl rfl rfl (rf_sh hR1 :).1 ?_
              refine ZV_iload (n := 227) dX12_drop_225 rfl rfl ?_
              refine ZV_iconst (v := nI 0) (n := 228) dX12_drop_227 rfl rfl ?_
              refine ZV_bast (n := 229) dX12_drop_228 rfl (Or.inl rfl) (ra_isLine (rf_sh hR1 :) :) (rk_isLine (rf_sh hR1 :) :) rfl (by omega) ?_
              refine ZV_gen (P := fun τ => rR x τ _) (dT2_s1 hR1) (fun τ hR1 => ?_)
              refine ZV_aload_n (n := 230) dX12_drop_229 rfl rfl rfl ?_
              refine ZV_dup (n := 231) dX12_drop_230 rfl rfl ?_
              refine ZV_getIv (n := 234) dX12_drop_231 fl_X12_208 rfl rfl rfl (rf_sh hR1 :).1 ((rf_linesThere hR1).trans (show nI (g_cl T1 - zcnt (dlr T1 e) l) = nI (g_cl T - zcnt (dlr T1 e) l) by rw [f1_cl])) ?_
              refine ZV_iconst (v := nI 1) (n := 235) dX12_drop_234 rfl rfl ?_
              refine ZV_isubN (n := 236) dX12_drop_235 rfl (by omega) ?_
              refine ZV_putI (n := 239) dX12_drop_236 fl_X12_208 rfl (Or.inl rfl) rfl (fun h => absurd h (by decide)) rfl (rf_sh hR1 :).1 ?_
              refine ZV_gen (P := fun τ => rR x τ _) (dT2_s2 hR1 (g_cl T - zcnt (dlr T1 e) l - 1)) (fun τ hR1 => ?_)
              rw [← f1_cl, dT2_go (by rw [f1_lt]; exact h207) (by rw [f1_lf]; exact h218)] at hR1
              refine ZV_goto (tgt := 271) dX12_drop_239 (by decide) ?_
              refine ZV_iincN_4 (v := 1) (n := 274) dX12_drop_271 rfl rfl (Nat.le_of_ble_eq_true rfl) rfl ?_
              refine ZV_goto (tgt := 191) dX12_drop_274 (by decide) ?_
              exact ih (l + 1) _ (by omega) (by omega) hR1
    have loopT : ∀ (n9 : Nat) (t : Nat) (τ : ZS), g_te T - t < n9 → t ≤ g_te T → rR x τ (dT1 T e t) → ZV M_X12_drop (fun y0 τ0 => y0 = some (Ai (sp_drop T (nI e)).1) ∧ rR x τ0 (sp_drop T (nI e)).2) 35 [some (Ar (some x)), some (Ai (nI e)), some (Ai (nI (g_vo T e))), some (Ai (nI (g_pl T e))), some (Ai (nI t))] [] τ (zmC M_X12_drop) (zmS M_X12_drop) := by
      intro n9
      induction n9 with
      | zero => intro t τ hm; exact absurd hm (Nat.not_lt_zero _)
      | succ n9 ih =>
        intro t τ hm ht hR1
        refine ZV_iload (n := 37) dX12_drop_35 rfl rfl ?_
        refine ZV_aload_n (n := 38) dX12_drop_37 rfl rfl rfl ?_
        refine ZV_getIv (n := 41) dX12_drop_38 fl_X12_199 rfl rfl rfl (rf_sh hR1 :).1 ((rf_tupletsEver hR1).trans (show nI (g_te T) = nI (g_te T) from rfl)) ?_
        refine ZV_icmp_geN (tgt := 188) (n := 44) dX12_drop_41 (by decide) rfl (by omega) (by omega) (fun h41 => ?_) (fun h41 => ?_)
        · skip
          refine ZV_iconst (v := nI 0) (n := 189) dX12_drop_188 rfl rfl ?_
          refine ZV_istore_4 (n := 191) dX12_drop_189 rfl (Nat.le_of_ble_eq_true rfl) rfl ?_
          obtain rfl : t = g_te T := by omega
          rw [← hT1] at hR1
          exact loopL _ 0 _ (Nat.lt_succ_self _) (Nat.zero_le _) (by rw [dT2_0]; exact hR1)
        · skip
          refine ZV_aload_n (n := 45) dX12_drop_44 rfl rfl rfl ?_
          refine ZV_getR (n := 48) dX12_drop_45 fl_X12_48 rfl rfl rfl (rf_sh hR1 :).1 ?_
          refine ZV_iload (n := 50) dX12_drop_48 rfl rfl ?_
          refine ZV_baldv (n := 51) dX12_drop_50 rfl (ra_isTuplet (rf_sh hR1 :) :) (rk_isTuplet (rf_sh hR1 :) :) rfl (by omega) ((rf_isTuplet hR1 t (by omega)).trans (show bI (dtt T e t t) = bI (g_tt T t) by rw [dtt_n])) ?_
          refine ZV_if_eqB (tgt := 97) (n := 54) dX12_drop_51 (by decide) rfl (fun h51 => ?_) (fun h51 => ?_)
          · skip
            have htz := h51
            refine ZV_aload_n (n := 98) dX12_drop_97 rfl rfl rfl ?_
            refine ZV_getR (n := 101) dX12_drop_98 fl_X12_48 rfl rfl rfl (rf_sh hR1 :).1 ?_
            refine ZV_iload (n := 103) dX12_drop_101 rfl rfl ?_
            refine ZV_baldv (n := 104) dX12_drop_103 rfl (ra_isTuplet (rf_sh hR1 :) :) (rk_isTuplet (rf_sh hR1 :) :) rfl (by omega) ((rf_isTuplet hR1 t (by omega)).trans (show bI (dtt T e t t) = bI (g_tt T t) by rw [dtt_n])) ?_
            refine ZV_if_eqB (tgt := 141) (n := 107) dX12_drop_104 (by decide) rfl (fun h104 => ?_) (fun h104 => ?_)
            · skip
              refine ZV_aload_n (n := 142) dX12_drop_141 rfl rfl rfl ?_
              refine ZV_getR (n := 145) dX12_drop_142 fl_X12_48 rfl rfl rfl (rf_sh hR1 :).1 ?_
              refine ZV_iload (n := 147) dX12_drop_145 rfl rfl ?_
              refine ZV_baldv (n := 148) dX12_drop_147 rfl (ra_isTuplet (rf_sh hR1 :) :) (rk_isTuplet (rf_sh hR1 :) :) rfl (by omega) ((rf_isTuplet hR1 t (by omega)).trans (show bI (dtt T e t t) = bI (g_tt T t) by rw [dtt_n])) ?_
              refine ZV_if_eqB (tgt := 182) (n := 151) dX12_drop_148 (by decide) rfl (fun h148 => ?_) (fun h148 => ?_)
              · skip
                refine ZV_iincN_4 (v := 1) (n := 185) dX12_drop_182 rfl rfl (Nat.le_of_ble_eq_true rfl) rfl ?_
                refine ZV_goto (tgt := 35) dX12_drop_185 (by decide) ?_
                rw [dT1_no (Or.inl h51)] at hR1
                exact ih (t + 1) _ (by omega) (by omega) hR1
              · skip
                exact absurd (h51.symm.trans h148) (by decide)
            · skip
              exact absurd (h51.symm.trans h104) (by decide)
          · skip
            have htp := ti_tp hI t (by omega) h51
            have hp1 := ti_pl hI _ htp.1 htp.2.2.1
            have hp2 := ti_pl hI _ htp.2.1 htp.2.2.2.1
            refine ZV_aload_n (n := 55) dX12_drop_54 rfl rfl rfl ?_
            refine ZV_getR (n := 58) dX12_drop_55 fl_X12_54 rfl rfl rfl (rf_sh hR1 :).1 ?_
            refine ZV_iload (n := 60) dX12_drop_58 rfl rfl ?_
            refine ZV_ialdv (n := 61) dX12_drop_60 rfl (ra_tupletFirst (rf_sh hR1 :) :) (rk_tupletFirst (rf_sh hR1 :) :) rfl (by omega) ((rf_tupletFirst hR1 t (by omega)).trans (show nI (dtf T e t t) = nI (g_tf T t) by rw [dtf_n])) ?_
            refine ZV_iload_n (n := 62) dX12_drop_61 rfl rfl rfl ?_
            refine ZV_icmp_neN (tgt := 97) (n := 65) dX12_drop_62 (by decide) rfl (by omega) (by omega) (fun h62 => ?_) (fun h62 => ?_)
            · skip
              refine ZV_aload_n (n := 98) dX12_drop_97 rfl rfl rfl ?_
              refine ZV_getR (n := 101) dX12_drop_98 fl_X12_48 rfl rfl rfl (rf_sh hR1 :).1 ?_
              refine ZV_iload (n := 103) dX12_drop_101 rfl rfl ?_
              refine ZV_baldv (n := 104) dX12_drop_103 rfl (ra_isTuplet (rf_sh hR1 :) :) (rk_isTuplet (rf_sh hR1 :) :) rfl (by omega) ((rf_isTuplet hR1 t (by omega)).trans (show bI (dtt T e t t) = bI (g_tt T t) by rw [dtt_n])) ?_
              refine ZV_if_eqB (tgt := 141) (n := 107) dX12_drop_104 (by decide) rfl (fun h104 => ?_) (fun h104 => ?_)
              · skip
                exact absurd (h51.symm.trans h104) (by decide)
              · skip
                refine ZV_aload_n (n := 108) dX12_drop_107 rfl rfl rfl ?_
                refine ZV_getR (n := 111) dX12_drop_108 fl_X12_54 rfl rfl rfl (rf_sh hR1 :).1 ?_
                refine ZV_iload (n := 113) dX12_drop_111 rfl rfl ?_
                refine ZV_ialdv (n := 114) dX12_drop_113 rfl (ra_tupletFirst (rf_sh hR1 :) :) (rk_tupletFirst (rf_sh hR1 :) :) rfl (by omega) ((rf_tupletFirst hR1 t (by omega)).trans (show nI (dtf T e t t) = nI (g_tf T t) by rw [dtf_n])) ?_
                refine ZV_iload_n (n := 115) dX12_drop_114 rfl rfl rfl ?_
                refine ZV_icmp_neN (tgt := 141) (n := 118) dX12_drop_115 (by decide) rfl (by omega) (by omega) (fun h115 => ?_) (fun h115 => ?_)
                · skip
                  refine ZV_aload_n (n := 142) dX12_drop_141 rfl rfl rfl ?_
                  refine ZV_getR (n := 145) dX12_drop_142 fl_X12_48 rfl rfl rfl (rf_sh hR1 :).1 ?_
                  refine ZV_iload (n := 147) dX12_drop_145 rfl rfl ?_
                  refine ZV_baldv (n := 148) dX12_drop_147 rfl (ra_isTuplet (rf_sh hR1 :) :) (rk_isTuplet (rf_sh hR1 :) :) rfl (by omega) ((rf_isTuplet hR1 t (by omega)).trans (show bI (dtt T e t t) = bI (g_tt T t) by rw [dtt_n])) ?_
                  refine ZV_if_eqB (tgt := 182) (n := 151) dX12_drop_148 (by decide) rfl (fun h148 => ?_) (fun h148 => ?_)
                  · skip
                    exact absurd (h51.symm.trans h148) (by decide)
                  · skip
                    refine ZV_aload_n (n := 152) dX12_drop_151 rfl rfl rfl ?_
                    refine ZV_getR (n := 155) dX12_drop_152 fl_X12_57 rfl rfl rfl (rf_sh hR1 :).1 ?_
                    refine ZV_iload (n := 157) dX12_drop_155 rfl rfl ?_
                    refine ZV_ialdv (n := 158) dX12_drop_157 rfl (ra_tupletLast (rf_sh hR1 :) :) (rk_tupletLast (rf_sh hR1 :) :) rfl (by omega) ((rf_tupletLast hR1 t (by omega)).trans (show nI (dtl T e t t) = nI (g_tl T t) by rw [dtl_n])) ?_
                    refine ZV_iload_n (n := 159) dX12_drop_158 rfl rfl rfl ?_
                    refine ZV_icmp_neN (tgt := 182) (n := 162) dX12_drop_159 (by decide) rfl (by omega) (by omega) (fun h159 => ?_) (fun h159 => ?_)
                    · skip
                      refine ZV_iincN_4 (v := 1) (n := 185) dX12_drop_182 rfl rfl (Nat.le_of_ble_eq_true rfl) rfl ?_
                      refine ZV_goto (tgt := 35) dX12_drop_185 (by decide) ?_
                      rw [dT1_no (Or.inr ⟨h62, h159⟩)] at hR1
                      exact ih (t + 1) _ (by omega) (by omega) hR1
                    · skip
                      have hvv : g_vo T (g_tf T t) = g_vo T e := by rw [htp.2.2.2.2.1, ← htp.2.2.2.2.2.1, h159]
                      have hne : g_pl T (g_tf T t) ≠ g_pl T e := fun z => h62 (by rw [← hp1.2, hvv, z, hpl.2])
                      have hpp := htp.2.2.2.2.2.2
                      rw [h159] at hpp
                      refine ZV_aload_n (n := 163) dX12_drop_162 rfl rfl rfl ?_
                      refine ZV_getR (n := 166) dX12_drop_163 fl_X12_57 rfl rfl rfl (rf_sh hR1 :).1 ?_
                      refine ZV_iload (n := 168) dX12_drop_166 rfl rfl ?_
                      refine ZV_aload_n (n := 169) dX12_drop_168 rfl rfl rfl ?_
                      refine ZV_getR (n := 172) dX12_drop_169 fl_X12_42 rfl rfl rfl (rf_sh hR1 :).1 ?_
                      refine ZV_bipush (v := nI 40) (n := 174) dX12_drop_172 rfl rfl ?_
                      refine ZV_iload_n (n := 175) dX12_drop_174 rfl rfl rfl ?_
                      refine ZV_imulN (n := 176) dX12_drop_175 rfl ?_
                      refine ZV_iload_n (n := 177) dX12_drop_176 rfl rfl rfl ?_
                      refine ZV_iaddN (n := 178) dX12_drop_177 rfl ?_
                      refine ZV_iconst (v := nI 1) (n := 179) dX12_drop_178 rfl rfl ?_
                      refine ZV_isubN (n := 180) dX12_drop_179 rfl (by omega) ?_
                      refine ZV_ialdv (n := 181) dX12_drop_180 rfl (ra_row (rf_sh hR1 :) :) (rk_row (rf_sh hR1 :) :) rfl (by omega) (Eq.trans (congrArg _ (show 40 * g_vo T e + g_pl T e - 1 = 40 * g_vo T e + (g_pl T e - 1) by omega)) ((rf_row hR1 (g_vo T e) (g_pl T e - 1) (by omega) (by omega)).trans (show nI (g_ro T (g_vo T e) (g_pl T e - 1)) = nI (g_ro T (g_vo T e) (g_pl T e - 1)) from rfl))) ?_
                      refine ZV_iast (n := 182) dX12_drop_181 rfl (ra_tupletLast (rf_sh hR1 :) :) (rk_tupletLast (rf_sh hR1 :) :) rfl (by omega) ?_
                      refine ZV_gen (P := fun τ => rR x τ _) (dT1_s4 hR1 (g_ro T (g_vo T e) (g_pl T e - 1))) (fun τ hR1 => ?_)
                      rw [dT1_last h51 h62 h159] at hR1
                      refine ZV_iincN_4 (v := 1) (n := 185) dX12_drop_182 rfl rfl (Nat.le_of_ble_eq_true rfl) rfl ?_
                      refine ZV_goto (tgt := 35) dX12_drop_185 (by decide) ?_
                      exact ih (t + 1) _ (by omega) (by omega) hR1
                · skip
                  exact absurd h115 h62
            · skip
              refine ZV_aload_n (n := 66) dX12_drop_65 rfl rfl rfl ?_
              refine ZV_getR (n := 69) dX12_drop_66 fl_X12_57 rfl rfl rfl (rf_sh hR1 :).1 ?_
              refine ZV_iload (n := 71) dX12_drop_69 rfl rfl ?_
              refine ZV_ialdv (n := 72) dX12_drop_71 rfl (ra_tupletLast (rf_sh hR1 :) :) (rk_tupletLast (rf_sh hR1 :) :) rfl (by omega) ((rf_tupletLast hR1 t (by omega)).trans (show nI (dtl T e t t) = nI (g_tl T t) by rw [dtl_n])) ?_
              refine ZV_iload_n (n := 73) dX12_drop_72 rfl rfl rfl ?_
              refine ZV_icmp_neN (tgt := 97) (n := 76) dX12_drop_73 (by decide) rfl (by omega) (by omega) (fun h73 => ?_) (fun h73 => ?_)
              · skip
                have hvv : g_vo T (g_tl T t) = g_vo T e := by rw [htp.2.2.2.2.2.1, ← htp.2.2.2.2.1, h62]
                have hne : g_pl T (g_tl T t) ≠ g_pl T e := fun z => h73 (by rw [← hp2.2, hvv, z, hpl.2])
                have hpp := htp.2.2.2.2.2.2
                rw [h62] at hpp
                have hp3 := hp2.1
                rw [hvv] at hp3
                refine ZV_aload_n (n := 98) dX12_drop_97 rfl rfl rfl ?_
                refine ZV_getR (n := 101) dX12_drop_98 fl_X12_48 rfl rfl rfl (rf_sh hR1 :).1 ?_
                refine ZV_iload (n := 103) dX12_drop_101 rfl rfl ?_
                refine ZV_baldv (n := 104) dX12_drop_103 rfl (ra_isTuplet (rf_sh hR1 :) :) (rk_isTuplet (rf_sh hR1 :) :) rfl (by omega) ((rf_isTuplet hR1 t (by omega)).trans (show bI (dtt T e t t) = bI (g_tt T t) by rw [dtt_n])) ?_
                refine ZV_if_eqB (tgt := 141) (n := 107) dX12_drop_104 (by decide) rfl (fun h104 => ?_) (fun h104 => ?_)
                · skip
                  exact absurd (h51.symm.trans h104) (by decide)
                · skip
                  refine ZV_aload_n (n := 108) dX12_drop_107 rfl rfl rfl ?_
                  refine ZV_getR (n := 111) dX12_drop_108 fl_X12_54 rfl rfl rfl (rf_sh hR1 :).1 ?_
                  refine ZV_iload (n := 113) dX12_drop_111 rfl rfl ?_
                  refine ZV_ialdv (n := 114) dX12_drop_113 rfl (ra_tupletFirst (rf_sh hR1 :) :) (rk_tupletFirst (rf_sh hR1 :) :) rfl (by omega) ((rf_tupletFirst hR1 t (by omega)).trans (show nI (dtf T e t t) = nI (g_tf T t) by rw [dtf_n])) ?_
                  refine ZV_iload_n (n := 115) dX12_drop_114 rfl rfl rfl ?_
                  refine ZV_icmp_neN (tgt := 141) (n := 118) dX12_drop_115 (by decide) rfl (by omega) (by omega) (fun h115 => ?_) (fun h115 => ?_)
                  · skip
                    exact absurd h62 h115
                  · skip
                    refine ZV_aload_n (n := 119) dX12_drop_118 rfl rfl rfl ?_
                    refine ZV_getR (n := 122) dX12_drop_119 fl_X12_54 rfl rfl rfl (rf_sh hR1 :).1 ?_
                    refine ZV_iload (n := 124) dX12_drop_122 rfl rfl ?_
                    refine ZV_aload_n (n := 125) dX12_drop_124 rfl rfl rfl ?_
                    refine ZV_getR (n := 128) dX12_drop_125 fl_X12_42 rfl rfl rfl (rf_sh hR1 :).1 ?_
                    refine ZV_bipush (v := nI 40) (n := 130) dX12_drop_128 rfl rfl ?_
                    refine ZV_iload_n (n := 131) dX12_drop_130 rfl rfl rfl ?_
                    refine ZV_imulN (n := 132) dX12_drop_131 rfl ?_
                    refine ZV_iload_n (n := 133) dX12_drop_132 rfl rfl rfl ?_
                    refine ZV_iaddN (n := 134) dX12_drop_133 rfl ?_
                    refine ZV_iconst (v := nI 1) (n := 135) dX12_drop_134 rfl rfl ?_
                    refine ZV_iaddN (n := 136) dX12_drop_135 rfl ?_
                    refine ZV_ialdv (n := 137) dX12_drop_136 rfl (ra_row (rf_sh hR1 :) :) (rk_row (rf_sh hR1 :) :) rfl (by omega) (Eq.trans (congrArg _ (show 40 * g_vo T e + g_pl T e + 1 = 40 * g_vo T e + (g_pl T e + 1) by omega)) ((rf_row hR1 (g_vo T e) (g_pl T e + 1) (by omega) (by omega)).trans (show nI (g_ro T (g_vo T e) (g_pl T e + 1)) = nI (g_ro T (g_vo T e) (g_pl T e + 1)) from rfl))) ?_
                    refine ZV_iast (n := 138) dX12_drop_137 rfl (ra_tupletFirst (rf_sh hR1 :) :) (rk_tupletFirst (rf_sh hR1 :) :) rfl (by omega) ?_
                    refine ZV_gen (P := fun τ => rR x τ _) (dT1_s3 hR1 (g_ro T (g_vo T e) (g_pl T e + 1))) (fun τ hR1 => ?_)
                    rw [dT1_first h51 h62 h73] at hR1
                    refine ZV_goto (tgt := 182) dX12_drop_138 (by decide) ?_
                    refine ZV_iincN_4 (v := 1) (n := 185) dX12_drop_182 rfl rfl (Nat.le_of_ble_eq_true rfl) rfl ?_
                    refine ZV_goto (tgt := 35) dX12_drop_185 (by decide) ?_
                    exact ih (t + 1) _ (by omega) (by omega) hR1
              · skip
                have hzl := zcnt_lt (b := dtr T e) (i := t) (n := g_te T) (by unfold dtr; rw [h51, decide_eq_true ⟨h62, h73⟩]; rfl) (by omega)
                have hzs := zcnt_sub (a := dtr T e) (b := g_tt T) (fun i q => by unfold dtr at q; exact (Bool.and_eq_true_iff.mp q).1) (g_te T)
                refine ZV_aload_n (n := 77) dX12_drop_76 rfl rfl rfl ?_
                refine ZV_getR (n := 80) dX12_drop_77 fl_X12_48 rfl rfl rfl (rf_sh hR1 :).1 ?_
                refine ZV_iload (n := 82) dX12_drop_80 rfl rfl ?_
                refine ZV_iconst (v := nI 0) (n := 83) dX12_drop_82 rfl rfl ?_
                refine ZV_bast (n := 84) dX12_drop_83 rfl (Or.inl rfl) (ra_isTuplet (rf_sh hR1 :) :) (rk_isTuplet (rf_sh hR1 :) :) rfl (by omega) ?_
                refine ZV_gen (P := fun τ => rR x τ _) (dT1_s1 hR1) (fun τ hR1 => ?_)
                refine ZV_aload_n (n := 85) dX12_drop_84 rfl rfl rfl ?_
                refine ZV_dup (n := 86) dX12_drop_85 rfl rfl ?_
                refine ZV_getIv (n := 89) dX12_drop_86 fl_X12_202 rfl rfl rfl (rf_sh hR1 :).1 ((rf_tupletsThere hR1).trans (show nI (g_cu T - zcnt (dtr T e) t) = nI (g_cu T - zcnt (dtr T e) t) from rfl)) ?_
                refine ZV_iconst (v := nI 1) (n := 90) dX12_drop_89 rfl rfl ?_
                refine ZV_isubN (n := 91) dX12_drop_90 rfl (by omega) ?_
                refine ZV_putI (n := 94) dX12_drop_91 fl_X12_202 rfl (Or.inl rfl) rfl (fun h => absurd h (by decide)) rfl (rf_sh hR1 :).1 ?_
                refine ZV_gen (P := fun τ => rR x τ _) (dT1_s2 hR1 (g_cu T - zcnt (dtr T e) t - 1)) (fun τ hR1 => ?_)
                rw [dT1_go h51 h62 h73] at hR1
                refine ZV_goto (tgt := 182) dX12_drop_94 (by decide) ?_
                refine ZV_iincN_4 (v := 1) (n := 185) dX12_drop_182 rfl rfl (Nat.le_of_ble_eq_true rfl) rfl ?_
                refine ZV_goto (tgt := 35) dX12_drop_185 (by decide) ?_
                exact ih (t + 1) _ (by omega) (by omega) hR1
    exact loopT _ 0 _ (Nat.lt_succ_self _) (Nat.zero_le _) (by rw [dT1_0]; exact hR)
  · skip
    refine ZV_aload_n (n := 13) dX12_drop_12 rfl rfl rfl ?_
    refine ZV_bipush (v := -2) (n := 15) dX12_drop_13 rfl rfl ?_
    refine call_X12_130 (c_no hR _) rfl dX12_drop_15 rfl (rf_sh hR :).1 (Nat.le_of_ble_eq_true rfl) (Nat.le_of_ble_eq_true rfl) rfl (fun r9 σ9 hp9 => ?_)
    obtain ⟨rfl, hR⟩ := hp9
    refine ZV_iret dX12_drop_18 rfl ?_
    exact zleaf (v := sNo T (-2)) (by simp [sp_drop, h9x]) rfl hR
