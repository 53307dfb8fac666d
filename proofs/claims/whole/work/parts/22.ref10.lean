theorem lsh_lem : ∀ v, v ≤ 5 → lN 5644800 >>> ((nI v).toInt64 &&& 63) = lN (5644800 / 2 ^ v)
  | 0, _ => by decide
  | 1, _ => by decide
  | 2, _ => by decide
  | 3, _ => by decide
  | 4, _ => by decide
  | 5, _ => by decide
  | v + 6, h => absurd h (by omega)
/-- written time -/
def wrT (T : TS) (e : Nat) : Nat := if g_kd T e = 2 ∨ g_kd T e = 4 then 0 else if g_dt T e = 0 then 5644800 / 2 ^ g_va T e else if g_dt T e = 1 then 5644800 / 2 ^ g_va T e / 2 * 3 else 5644800 / 2 ^ g_va T e / 4 * 7
theorem wrT_le (T : TS) (e : Nat) : wrT T e ≤ 9878400 := by
  have h := Nat.div_le_self 5644800 (2 ^ g_va T e)
  unfold wrT
  generalize 5644800 / 2 ^ g_va T e = W at *
  split
  · omega
  · split
    · omega
    · split <;> omega
def liB (T : TS) (e t : Nat) : Bool := g_tt T t && decide (g_tv T t = g_vo T e ∧ g_pl T (g_tf T t) ≤ g_pl T e ∧ g_pl T e ≤ g_pl T (g_tl T t))
def tmF (T : TS) (e : Nat) : Nat → Nat
  | 0 => wrT T e
  | t + 1 => if liB T e t = true then tmF T e t / g_tn T t * g_tm T t else tmF T e t
/-- the time of an event -/
def tmT (T : TS) (e : Nat) : Nat := tmF T e (g_te T)
theorem tmF_le {T : TS} (hI : tI T) (e : Nat) : ∀ t, t ≤ g_te T → tmF T e t ≤ 9878400 * 3 ^ t
  | 0, _ => by simpa [tmF] using wrT_le T e
  | t + 1, h => by
    have ih := tmF_le hI e t (by omega)
    have hn := ti_tn hI t (by omega)
    have hm := ti_tm hI t (by omega)
    rw [tmF, Nat.pow_succ]
    split
    · have h1 : tmF T e t / g_tn T t ≤ tmF T e t / 3 := Nat.div_le_div_left (by omega) (by omega)
      have h2 : tmF T e t / g_tn T t * g_tm T t ≤ tmF T e t / 3 * 8 := Nat.mul_le_mul h1 hm.2
      omega
    · omega
theorem tmT_le {T : TS} (hI : tI T) (e : Nat) : tmT T e ≤ 34443860000000000 := by
  have h1 := tmF_le hI e (g_te T) (Nat.le_refl _)
  have h2 : 3 ^ g_te T ≤ 3 ^ 20 := Nat.pow_le_pow_right (by omega) (ti_te hI)
  unfold tmT
  have h3 : (3 : Nat) ^ 20 = 3486784401 := by decide
  rw [h3] at h2
  omega
def bgF (T : TS) (v : Nat) : Nat → Nat
  | 0 => 0
  | p + 1 => bgF T v p + tmT T (g_ro T v p)
theorem bgF_le {T : TS} (hI : tI T) (v : Nat) : ∀ p, bgF T v p ≤ 34443860000000000 * p
  | 0 => by simp [bgF]
  | p + 1 => by
    have := bgF_le hI v p
    have h2 := tmT_le hI (g_ro T v p)
    rw [bgF]
    omega
def baF (T : TS) : Nat → Nat
  | 0 => 0
  | k + 1 => baF T k + g_bt T k
theorem baF_le {T : TS} (hI : tI T) : ∀ b, b ≤ g_nb T → baF T b ≤ 361267200 * b
  | 0, _ => by simp [baF]
  | b + 1, h => by
    have := baF_le hI b (by omega)
    have h2 := ti_bt hI b (by omega)
    rw [baF]
    omega
def boS (T : TS) (t : Nat) : Nat → Nat → Option Nat
  | 0, _ => none
  | k + 1, b => if t < baF T (b + 1) then some b else boS T t k (b + 1)
/-- the bar in which a time lies -/
def boF (T : TS) (t : Nat) : Option Nat := boS T t (g_nb T) 0
set_option maxHeartbeats 4000000 in
set_option maxRecDepth 100000 in
theorem c_writtenOf {x : Nat} {σ : ZS} {T : TS} (hR : rR x σ T) (hI : tI T) (e : Nat) (he : e < g_ev T) : ZC M_X12_writtenOf [Ar (some x), Ai (nI e)] σ (fun y0 τ0 => y0 = some (Al (lN (wrT T e))) ∧ τ0 = σ) := by
  have hev := ti_ev hI
  have hkd := ti_kd hI e he
  have hva := ti_va hI e he
  have hdt := ti_dt hI e he
  obtain ⟨W0, hW0⟩ : ∃ W, W = 5644800 / 2 ^ g_va T e := ⟨_, rfl⟩
  have hWb : W0 ≤ 5644800 := by rw [hW0]; exact Nat.div_le_self _ _
  refine ZC_of (ls := [some (Ar (some x)), some (Ai (nI e)), none, none]) (by decide) (Nat.le_of_ble_eq_true rfl) rfl ?_
  refine ZV_aload_n (n := 1) dX12_writtenOf_0 rfl rfl rfl ?_
  refine ZV_getR (n := 4) dX12_writtenOf_1 fl_X12_24 rfl rfl rfl (rf_sh hR :).1 ?_
  refine ZV_iload_n (n := 5) dX12_writtenOf_4 rfl rfl rfl ?_
  refine ZV_ialdv (n := 6) dX12_writtenOf_5 rfl (ra_kindOf (rf_sh hR :) :) (rk_kindOf (rf_sh hR :) :) rfl (by omega) (rf_kindOf hR _ (by omega)) ?_
  refine ZV_iconst (v := nI 2) (n := 7) dX12_writtenOf_6 rfl rfl ?_
  refine ZV_icmp_eqN (tgt := 20) (n := 10) dX12_writtenOf_7 (by decide) rfl (by omega) (by omega) (fun h7 => ?_) (fun h7 => ?_)
  · skip
    refine ZV_lconst (v := lN 0) (n := 21) dX12_writtenOf_20 rfl rfl ?_
    refine ZV_lret dX12_writtenOf_21 rfl ?_
    refine ⟨?_, rfl⟩
    unfold wrT
    rw [← hW0]
    simp [h7]
  · skip
    refine ZV_aload_n (n := 11) dX12_writtenOf_10 rfl rfl rfl ?_
    refine ZV_getR (n := 14) dX12_writtenOf_11 fl_X12_24 rfl rfl rfl (rf_sh hR :).1 ?_
    refine ZV_iload_n (n := 15) dX12_writtenOf_14 rfl rfl rfl ?_
    refine ZV_ialdv (n := 16) dX12_writtenOf_15 rfl (ra_kindOf (rf_sh hR :) :) (rk_kindOf (rf_sh hR :) :) rfl (by omega) (rf_kindOf hR _ (by omega)) ?_
    refine ZV_iconst (v := nI 4) (n := 17) dX12_writtenOf_16 rfl rfl ?_
    refine ZV_icmp_neN (tgt := 22) (n := 20) dX12_writtenOf_17 (by decide) rfl (by omega) (by omega) (fun h17 => ?_) (fun h17 => ?_)
    · skip
      refine ZV_ldc2 (v := lN 5644800) (n := 25) dX12_writtenOf_22 wd_5_97 rfl ?_
      refine ZV_aload_n (n := 26) dX12_writtenOf_25 rfl rfl rfl ?_
      refine ZV_getR (n := 29) dX12_writtenOf_26 fl_X12_33 rfl rfl rfl (rf_sh hR :).1 ?_
      refine ZV_iload_n (n := 30) dX12_writtenOf_29 rfl rfl rfl ?_
      refine ZV_ialdv (n := 31) dX12_writtenOf_30 rfl (ra_valueOf (rf_sh hR :) :) (rk_valueOf (rf_sh hR :) :) rfl (by omega) (rf_valueOf hR _ (by omega)) ?_
      refine ZV_lshr (n := 32) dX12_writtenOf_31 rfl ?_
      refine ZV_topl (lsh_lem _ hva) ?_
      rw [← hW0]
      refine ZV_lstore_2 (n := 33) dX12_writtenOf_32 rfl (Nat.le_of_ble_eq_true rfl) rfl ?_
      refine ZV_aload_n (n := 34) dX12_writtenOf_33 rfl rfl rfl ?_
      refine ZV_getR (n := 37) dX12_writtenOf_34 fl_X12_36 rfl rfl rfl (rf_sh hR :).1 ?_
      refine ZV_iload_n (n := 38) dX12_writtenOf_37 rfl rfl rfl ?_
      refine ZV_ialdv (n := 39) dX12_writtenOf_38 rfl (ra_dotsOf (rf_sh hR :) :) (rk_dotsOf (rf_sh hR :) :) rfl (by omega) (rf_dotsOf hR _ (by omega)) ?_
      refine ZV_if_neN (tgt := 46) (n := 42) dX12_writtenOf_39 (by decide) rfl (by omega) (fun h39 => ?_) (fun h39 => ?_)
      · skip
        refine ZV_aload_n (n := 47) dX12_writtenOf_46 rfl rfl rfl ?_
        refine ZV_getR (n := 50) dX12_writtenOf_47 fl_X12_36 rfl rfl rfl (rf_sh hR :).1 ?_
        refine ZV_iload_n (n := 51) dX12_writtenOf_50 rfl rfl rfl ?_
        refine ZV_ialdv (n := 52) dX12_writtenOf_51 rfl (ra_dotsOf (rf_sh hR :) :) (rk_dotsOf (rf_sh hR :) :) rfl (by omega) (rf_dotsOf hR _ (by omega)) ?_
        refine ZV_iconst (v := nI 1) (n := 53) dX12_writtenOf_52 rfl rfl ?_
        refine ZV_icmp_neN (tgt := 68) (n := 56) dX12_writtenOf_53 (by decide) rfl (by omega) (by omega) (fun h53 => ?_) (fun h53 => ?_)
        · skip
          refine ZV_lload_n (n := 69) dX12_writtenOf_68 rfl rfl rfl ?_
          refine ZV_ldc2 (v := lN 4) (n := 72) dX12_writtenOf_69 wd_5_119 rfl ?_
          refine ZV_ldivN (n := 73) dX12_writtenOf_72 rfl (by omega) (by omega) (by omega) ?_
          refine ZV_ldc2 (v := lN 7) (n := 76) dX12_writtenOf_73 wd_5_219 rfl ?_
          refine ZV_lmulN (n := 77) dX12_writtenOf_76 rfl ?_
          refine ZV_lret dX12_writtenOf_77 rfl ?_
          refine ⟨?_, rfl⟩
          unfold wrT
          rw [← hW0]
          simp [h7, h17, h39, h53]
        · skip
          refine ZV_lload_n (n := 57) dX12_writtenOf_56 rfl rfl rfl ?_
          refine ZV_ldc2 (v := lN 2) (n := 60) dX12_writtenOf_57 wd_5_102 rfl ?_
          refine ZV_ldivN (n := 61) dX12_writtenOf_60 rfl (by omega) (by omega) (by omega) ?_
          refine ZV_ldc2 (v := lN 3) (n := 64) dX12_writtenOf_61 wd_5_218 rfl ?_
          refine ZV_lmulN (n := 65) dX12_writtenOf_64 rfl ?_
          refine ZV_goto (tgt := 77) dX12_writtenOf_65 (by decide) ?_
          refine ZV_lret dX12_writtenOf_77 rfl ?_
          refine ⟨?_, rfl⟩
          unfold wrT
          rw [← hW0]
          simp [h7, h17, h39, h53]
      · skip
        refine ZV_lload_n (n := 43) dX12_writtenOf_42 rfl rfl rfl ?_
        refine ZV_goto (tgt := 77) dX12_writtenOf_43 (by decide) ?_
        refine ZV_lret dX12_writtenOf_77 rfl ?_
        refine ⟨?_, rfl⟩
        unfold wrT
        rw [← hW0]
        simp [h7, h17, h39]
    · skip
      refine ZV_lconst (v := lN 0) (n := 21) dX12_writtenOf_20 rfl rfl ?_
      refine ZV_lret dX12_writtenOf_21 rfl ?_
      refine ⟨?_, rfl⟩
      unfold wrT
      rw [← hW0]
      simp [h7, h17]
set_option maxHeartbeats 4000000 in
set_option maxRecDepth 100000 in
theorem c_liesIn {x : Nat} {σ : ZS} {T : TS} (hR : rR x σ T) (hI : tI T) (e t : Nat) (he : e < g_ev T) (hth : g_th T e = true) (ht : t < g_te T) : ZC M_X12_liesIn [Ar (some x), Ai (nI e), Ai (nI t)] σ (fun r τ => r = some (Ai (bI (liB T e t))) ∧ τ = σ) := by
  have hev := ti_ev hI
  have hte := ti_te hI
  have hnp := ti_np hI
  have hvo := ti_vo hI e he
  have hpl := (ti_pl hI e he hth).1
  have hmn := ti_mn hI (g_vo T e)
  refine ZC_of (ls := [some (Ar (some x)), some (Ai (nI e)), some (Ai (nI t)), none]) (by decide) (Nat.le_of_ble_eq_true rfl) rfl ?_
  refine ZV_aload_n (n := 1) dX12_liesIn_0 rfl rfl rfl ?_
  refine ZV_getR (n := 4) dX12_liesIn_1 fl_X12_48 rfl rfl rfl (rf_sh hR :).1 ?_
  refine ZV_iload_n (n := 5) dX12_liesIn_4 rfl rfl rfl ?_
  refine ZV_baldv (n := 6) dX12_liesIn_5 rfl (ra_isTuplet (rf_sh hR :) :) (rk_isTuplet (rf_sh hR :) :) rfl (by omega) (rf_isTuplet hR _ (by omega)) ?_
  refine ZV_if_eqB (tgt := 24) (n := 9) dX12_liesIn_6 (by decide) rfl (fun h6 => ?_) (fun h6 => ?_)
  · skip
    refine ZV_iconst (v := nI 0) (n := 25) dX12_liesIn_24 rfl rfl ?_
    refine ZV_zret dX12_liesIn_25 rfl (by first | exact Or.inl rfl | exact Or.inr rfl) ?_
    refine ⟨?_, rfl⟩
    unfold liB
    rw [h6]
    first | rfl | (rw [decide_eq_true (by omega)]; rfl) | (rw [decide_eq_false (by omega)]; rfl)
  · skip
    have htp := ti_tp hI t ht h6
    have hvf := ti_vo hI _ htp.1
    refine ZV_aload_n (n := 10) dX12_liesIn_9 rfl rfl rfl ?_
    refine ZV_getR (n := 13) dX12_liesIn_10 fl_X12_51 rfl rfl rfl (rf_sh hR :).1 ?_
    refine ZV_iload_n (n := 14) dX12_liesIn_13 rfl rfl rfl ?_
    refine ZV_ialdv (n := 15) dX12_liesIn_14 rfl (ra_tupletVoice (rf_sh hR :) :) (rk_tupletVoice (rf_sh hR :) :) rfl (by omega) (rf_tupletVoice hR _ (by omega)) ?_
    refine ZV_aload_n (n := 16) dX12_liesIn_15 rfl rfl rfl ?_
    refine ZV_getR (n := 19) dX12_liesIn_16 fl_X12_21 rfl rfl rfl (rf_sh hR :).1 ?_
    refine ZV_iload_n (n := 20) dX12_liesIn_19 rfl rfl rfl ?_
    refine ZV_ialdv (n := 21) dX12_liesIn_20 rfl (ra_voiceOf (rf_sh hR :) :) (rk_voiceOf (rf_sh hR :) :) rfl (by omega) (rf_voiceOf hR _ (by omega)) ?_
    refine ZV_icmp_eqN (tgt := 26) (n := 24) dX12_liesIn_21 (by decide) rfl (by omega) (by omega) (fun h21 => ?_) (fun h21 => ?_)
    · skip
      have hp1 := (ti_pl hI _ htp.1 htp.2.2.1).1
      have hp2 := (ti_pl hI _ htp.2.1 htp.2.2.2.1).1
      have hm2 := ti_mn hI (g_vo T (g_tf T t))
      have hm3 := ti_mn hI (g_vo T (g_tl T t))
      refine ZV_aload_n (n := 27) dX12_liesIn_26 rfl rfl rfl ?_
      refine ZV_iload_n (n := 28) dX12_liesIn_27 rfl rfl rfl ?_
      refine call_X12_196 (c_placeOf hR hI _ he hth) rfl dX12_liesIn_28 rfl (rf_sh hR :).1 (Nat.le_of_ble_eq_true rfl) (Nat.le_of_ble_eq_true rfl) rfl (fun r9 σ9 hp9 => ?_)
      obtain ⟨rfl, rfl⟩ := hp9
      refine ZV_istore_3 (n := 32) dX12_liesIn_31 rfl (Nat.le_of_ble_eq_true rfl) rfl ?_
      refine ZV_aload_n (n := 33) dX12_liesIn_32 rfl rfl rfl ?_
      refine ZV_aload_n (n := 34) dX12_liesIn_33 rfl rfl rfl ?_
      refine ZV_getR (n := 37) dX12_liesIn_34 fl_X12_54 rfl rfl rfl (rf_sh hR :).1 ?_
      refine ZV_iload_n (n := 38) dX12_liesIn_37 rfl rfl rfl ?_
      refine ZV_ialdv (n := 39) dX12_liesIn_38 rfl (ra_tupletFirst (rf_sh hR :) :) (rk_tupletFirst (rf_sh hR :) :) rfl (by omega) (rf_tupletFirst hR _ (by omega)) ?_
      refine call_X12_196 (c_placeOf hR hI _ htp.1 htp.2.2.1) rfl dX12_liesIn_39 rfl (rf_sh hR :).1 (Nat.le_of_ble_eq_true rfl) (Nat.le_of_ble_eq_true rfl) rfl (fun r9 σ9 hp9 => ?_)
      obtain ⟨rfl, rfl⟩ := hp9
      refine ZV_iload_n (n := 43) dX12_liesIn_42 rfl rfl rfl ?_
      refine ZV_icmp_gtN (tgt := 64) (n := 46) dX12_liesIn_43 (by decide) rfl (by omega) (by omega) (fun h43 => ?_) (fun h43 => ?_)
      · skip
        refine ZV_iconst (v := nI 0) (n := 65) dX12_liesIn_64 rfl rfl ?_
        refine ZV_zret dX12_liesIn_65 rfl (by first | exact Or.inl rfl | exact Or.inr rfl) ?_
        refine ⟨?_, rfl⟩
        unfold liB
        rw [h6]
        first | rfl | (rw [decide_eq_true (by omega)]; rfl) | (rw [decide_eq_false (by omega)]; rfl)
      · skip
        refine ZV_iload_n (n := 47) dX12_liesIn_46 rfl rfl rfl ?_
        refine ZV_aload_n (n := 48) dX12_liesIn_47 rfl rfl rfl ?_
        refine ZV_aload_n (n := 49) dX12_liesIn_48 rfl rfl rfl ?_
        refine ZV_getR (n := 52) dX12_liesIn_49 fl_X12_57 rfl rfl rfl (rf_sh hR :).1 ?_
        refine ZV_iload_n (n := 53) dX12_liesIn_52 rfl rfl rfl ?_
        refine ZV_ialdv (n := 54) dX12_liesIn_53 rfl (ra_tupletLast (rf_sh hR :) :) (rk_tupletLast (rf_sh hR :) :) rfl (by omega) (rf_tupletLast hR _ (by omega)) ?_
        refine call_X12_196 (c_placeOf hR hI _ htp.2.1 htp.2.2.2.1) rfl dX12_liesIn_54 rfl (rf_sh hR :).1 (Nat.le_of_ble_eq_true rfl) (Nat.le_of_ble_eq_true rfl) rfl (fun r9 σ9 hp9 => ?_)
        obtain ⟨rfl, rfl⟩ := hp9
        refine ZV_icmp_gtN (tgt := 64) (n := 60) dX12_liesIn_57 (by decide) rfl (by omega) (by omega) (fun h57 => ?_) (fun h57 => ?_)
        · skip
          refine ZV_iconst (v := nI 0) (n := 65) dX12_liesIn_64 rfl rfl ?_
          refine ZV_zret dX12_liesIn_65 rfl (by first | exact Or.inl rfl | exact Or.inr rfl) ?_
          refine ⟨?_, rfl⟩
          unfold liB
          rw [h6]
          first | rfl | (rw [decide_eq_true (by omega)]; rfl) | (rw [decide_eq_false (by omega)]; rfl)
        · skip
          refine ZV_iconst (v := nI 1) (n := 61) dX12_liesIn_60 rfl rfl ?_
          refine ZV_goto (tgt := 65) dX12_liesIn_61 (by decide) ?_
          refine ZV_zret dX12_liesIn_65 rfl (by first | exact Or.inl rfl | exact Or.inr rfl) ?_
          refine ⟨?_, rfl⟩
          unfold liB
          rw [h6]
          first | rfl | (rw [decide_eq_true (by omega)]; rfl) | (rw [decide_eq_false (by omega)]; rfl)
    · skip
      refine ZV_iconst (v := nI 0) (n := 25) dX12_liesIn_24 rfl rfl ?_
      refine ZV_zret dX12_liesIn_25 rfl (by first | exact Or.inl rfl | exact Or.inr rfl) ?_
      refine ⟨?_, rfl⟩
      unfold liB
      rw [h6]
      first | rfl | (rw [decide_eq_true (by omega)]; rfl) | (rw [decide_eq_false (by omega)]; rfl)
set_option maxHeartbeats 4000000 in
set_option maxRecDepth 100000 in
theorem c_timeOf {x : Nat} {σ : ZS} {T : TS} (hR : rR x σ T) (hI : tI T) (e : Nat) (he : e < g_ev T) (hth : g_th T e = true) : ZC M_X12_timeOf [Ar (some x), Ai (nI e)] σ (fun y0 τ0 => y0 = some (Al (lN (tmT T e))) ∧ τ0 = σ) := by
  have hev := ti_ev hI
  have hte := ti_te hI
  refine ZC_of (ls := [some (Ar (some x)), some (Ai (nI e)), none, none, none]) (by decide) (Nat.le_of_ble_eq_true rfl) rfl ?_
  have loop : ∀ (n9 : Nat) (t : Nat), g_te T - t < n9 → t ≤ g_te T → ZV M_X12_timeOf (fun y0 τ0 => y0 = some (Al (lN (tmT T e))) ∧ τ0 = σ) 9 [some (Ar (some x)), some (Ai (nI e)), some (Al (lN (tmF T e t))), none, some (Ai (nI t))] [] σ (zmC M_X12_timeOf) (zmS M_X12_timeOf) := by
    intro n9
    induction n9 with
    | zero => intro t hm; exact absurd hm (Nat.not_lt_zero _)
    | succ n9 ih =>
      intro t hm ht
      have hb := tmF_le hI e t ht
      have hb3 : 3 ^ t ≤ 3486784401 := Nat.le_trans (Nat.pow_le_pow_right (by omega) (Nat.le_trans ht hte)) (by decide)
      refine ZV_iload (n := 11) dX12_timeOf_9 rfl rfl ?_
      refine ZV_aload_n (n := 12) dX12_timeOf_11 rfl rfl rfl ?_
      refine ZV_getIv (n := 15) dX12_timeOf_12 fl_X12_199 rfl rfl rfl (rf_sh hR :).1 (rf_tupletsEver hR :) ?_
      refine ZV_icmp_geN (tgt := 58) (n := 18) dX12_timeOf_15 (by decide) rfl (by omega) (by omega) (fun h15 => ?_) (fun h15 => ?_)
      · skip
        refine ZV_lload_n (n := 59) dX12_timeOf_58 rfl rfl rfl ?_
        refine ZV_lret dX12_timeOf_59 rfl ?_
        obtain rfl : t = g_te T := by omega
        exact ⟨rfl, rfl⟩
      · skip
        refine ZV_aload_n (n := 19) dX12_timeOf_18 rfl rfl rfl ?_
        refine ZV_iload_n (n := 20) dX12_timeOf_19 rfl rfl rfl ?_
        refine ZV_iload (n := 22) dX12_timeOf_20 rfl rfl ?_
        refine call_X12_239 (c_liesIn hR hI _ _ he hth (by omega)) rfl dX12_timeOf_22 rfl (rf_sh hR :).1 (Nat.le_of_ble_eq_true rfl) (Nat.le_of_ble_eq_true rfl) rfl (fun r9 σ9 hp9 => ?_)
        obtain ⟨rfl, rfl⟩ := hp9
        refine ZV_if_eqB (tgt := 50) (n := 28) dX12_timeOf_25 (by decide) rfl (fun h25 => ?_) (fun h25 => ?_)
        · skip
          refine ZV_lload_n (n := 51) dX12_timeOf_50 rfl rfl rfl ?_
          refine ZV_lstore_2 (n := 52) dX12_timeOf_51 rfl (Nat.le_of_ble_eq_true rfl) rfl ?_
          refine ZV_iincN_4 (v := 1) (n := 55) dX12_timeOf_52 rfl rfl (Nat.le_of_ble_eq_true rfl) rfl ?_
          refine ZV_goto (tgt := 9) dX12_timeOf_55 (by decide) ?_
          have hq : tmF T e (t + 1) = tmF T e t := by rw [tmF, if_neg (by rw [h25]; decide)]
          rw [← hq]
          exact ih (t + 1) (by omega) (by omega)
        · skip
          have hn := ti_tn hI t (by omega)
          have hm := ti_tm hI t (by omega)
          refine ZV_lload_n (n := 29) dX12_timeOf_28 rfl rfl rfl ?_
          refine ZV_aload_n (n := 30) dX12_timeOf_29 rfl rfl rfl ?_
          refine ZV_getR (n := 33) dX12_timeOf_30 fl_X12_60 rfl rfl rfl (rf_sh hR :).1 ?_
          refine ZV_iload (n := 35) dX12_timeOf_33 rfl rfl ?_
          refine ZV_ialdv (n := 36) dX12_timeOf_35 rfl (ra_tupletN (rf_sh hR :) :) (rk_tupletN (rf_sh hR :) :) rfl (by omega) (rf_tupletN hR _ (by omega)) ?_
          refine ZV_i2lN (n := 37) dX12_timeOf_36 rfl (by omega) ?_
          refine ZV_ldivN (n := 38) dX12_timeOf_37 rfl (by omega) (by omega) (by omega) ?_
          refine ZV_aload_n (n := 39) dX12_timeOf_38 rfl rfl rfl ?_
          refine ZV_getR (n := 42) dX12_timeOf_39 fl_X12_63 rfl rfl rfl (rf_sh hR :).1 ?_
          refine ZV_iload (n := 44) dX12_timeOf_42 rfl rfl ?_
          refine ZV_ialdv (n := 45) dX12_timeOf_44 rfl (ra_tupletM (rf_sh hR :) :) (rk_tupletM (rf_sh hR :) :) rfl (by omega) (rf_tupletM hR _ (by omega)) ?_
          refine ZV_i2lN (n := 46) dX12_timeOf_45 rfl (by omega) ?_
          refine ZV_lmulN (n := 47) dX12_timeOf_46 rfl ?_
          refine ZV_goto (tgt := 51) dX12_timeOf_47 (by decide) ?_
          refine ZV_lstore_2 (n := 52) dX12_timeOf_51 rfl (Nat.le_of_ble_eq_true rfl) rfl ?_
          refine ZV_iincN_4 (v := 1) (n := 55) dX12_timeOf_52 rfl rfl (Nat.le_of_ble_eq_true rfl) rfl ?_
          refine ZV_goto (tgt := 9) dX12_timeOf_55 (by decide) ?_
          have hq : tmF T e (t + 1) = tmF T e t / g_tn T t * g_tm T t := by rw [tmF, if_pos h25]
          rw [← hq]
          exact ih (t + 1) (by omega) (by omega)
  refine ZV_aload_n (n := 1) dX12_timeOf_0 rfl rfl rfl ?_
  refine ZV_iload_n (n := 2) dX12_timeOf_1 rfl rfl rfl ?_
  refine call_X12_235 (c_writtenOf hR hI _ he) rfl dX12_timeOf_2 rfl (rf_sh hR :).1 (Nat.le_of_ble_eq_true rfl) (Nat.le_of_ble_eq_true rfl) rfl (fun r9 σ9 hp9 => ?_)
  obtain ⟨rfl, rfl⟩ := hp9
  refine ZV_lstore_2 (n := 6) dX12_timeOf_5 rfl (Nat.le_of_ble_eq_true rfl) rfl ?_
  refine ZV_iconst (v := nI 0) (n := 7) dX12_timeOf_6 rfl rfl ?_
  refine ZV_istore_4 (n := 9) dX12_timeOf_7 rfl (Nat.le_of_ble_eq_true rfl) rfl ?_
  exact loop _ 0 (Nat.lt_succ_self _) (Nat.zero_le _)
set_option maxHeartbeats 4000000 in
set_option maxRecDepth 100000 in
theorem c_beginOf {x : Nat} {σ : ZS} {T : TS} (hR : rR x σ T) (hI : tI T) (e : Nat) (he : e < g_ev T) (hth : g_th T e = true) : ZC M_X12_beginOf [Ar (some x), Ai (nI e)] σ (fun y0 τ0 => y0 = some (Al (lN (bgF T (g_vo T e) (g_pl T e)))) ∧ τ0 = σ) := by
  have hev := ti_ev hI
  have hnp := ti_np hI
  have hvo := ti_vo hI e he
  have hpl := ti_pl hI e he hth
  have hmn := ti_mn hI (g_vo T e)
  refine ZC_of (ls := [some (Ar (some x)), some (Ai (nI e)), none, none, none, none]) (by decide) (Nat.le_of_ble_eq_true rfl) rfl ?_
  have loop : ∀ (n9 : Nat) (p : Nat), g_pl T e - p < n9 → p ≤ g_pl T e → ZV M_X12_beginOf (fun y0 τ0 => y0 = some (Al (lN (bgF T (g_vo T e) (g_pl T e)))) ∧ τ0 = σ) 13 [some (Ar (some x)), some (Ai (nI e)), some (Al (lN (bgF T (g_vo T e) p))), none, some (Ai (nI (g_vo T e))), some (Ai (nI p))] [] σ (zmC M_X12_beginOf) (zmS M_X12_beginOf) := by
    intro n9
    induction n9 with
    | zero => intro p hm; exact absurd hm (Nat.not_lt_zero _)
    | succ n9 ih =>
      intro p hm hp
      have hro := ti_ro hI (g_vo T e) p (by omega) (by omega)
      refine ZV_aload_n (n := 14) dX12_beginOf_13 rfl rfl rfl ?_
      refine ZV_getR (n := 17) dX12_beginOf_14 fl_X12_42 rfl rfl rfl (rf_sh hR :).1 ?_
      refine ZV_bipush (v := nI 40) (n := 19) dX12_beginOf_17 rfl rfl ?_
      refine ZV_iload (n := 21) dX12_beginOf_19 rfl rfl ?_
      refine ZV_imulN (n := 22) dX12_beginOf_21 rfl ?_
      refine ZV_iload (n := 24) dX12_beginOf_22 rfl rfl ?_
      refine ZV_iaddN (n := 25) dX12_beginOf_24 rfl ?_
      refine ZV_ialdv (n := 26) dX12_beginOf_25 rfl (ra_row (rf_sh hR :) :) (rk_row (rf_sh hR :) :) rfl (by omega) (rf_row hR _ _ (by omega) (by omega)) ?_
      refine ZV_iload_n (n := 27) dX12_beginOf_26 rfl rfl rfl ?_
      refine ZV_icmp_eqN (tgt := 56) (n := 30) dX12_beginOf_27 (by decide) rfl (by omega) (by omega) (fun h27 => ?_) (fun h27 => ?_)
      · skip
        have hq : p = g_pl T e := by rw [← hro.2.2.2, h27]
        refine ZV_lload_n (n := 57) dX12_beginOf_56 rfl rfl rfl ?_
        refine ZV_lret dX12_beginOf_57 rfl ?_
        exact ⟨by rw [hq], rfl⟩
      · skip
        have hq : p ≠ g_pl T e := fun z => h27 (by rw [z]; exact hpl.2)
        refine ZV_lload_n (n := 31) dX12_beginOf_30 rfl rfl rfl ?_
        refine ZV_aload_n (n := 32) dX12_beginOf_31 rfl rfl rfl ?_
        refine ZV_aload_n (n := 33) dX12_beginOf_32 rfl rfl rfl ?_
        refine ZV_getR (n := 36) dX12_beginOf_33 fl_X12_42 rfl rfl rfl (rf_sh hR :).1 ?_
        refine ZV_bipush (v := nI 40) (n := 38) dX12_beginOf_36 rfl rfl ?_
        refine ZV_iload (n := 40) dX12_beginOf_38 rfl rfl ?_
        refine ZV_imulN (n := 41) dX12_beginOf_40 rfl ?_
        refine ZV_iload (n := 43) dX12_beginOf_41 rfl rfl ?_
        refine ZV_iaddN (n := 44) dX12_beginOf_43 rfl ?_
        refine ZV_ialdv (n := 45) dX12_beginOf_44 rfl (ra_row (rf_sh hR :) :) (rk_row (rf_sh hR :) :) rfl (by omega) (rf_row hR _ _ (by omega) (by omega)) ?_
        refine call_X12_243 (c_timeOf hR hI _ hro.1 hro.2.1) rfl dX12_beginOf_45 rfl (rf_sh hR :).1 (Nat.le_of_ble_eq_true rfl) (Nat.le_of_ble_eq_true rfl) rfl (fun r9 σ9 hp9 => ?_)
        obtain ⟨rfl, rfl⟩ := hp9
        refine ZV_laddN (n := 49) dX12_beginOf_48 rfl ?_
        rw [show bgF T (g_vo T e) p + tmT T (g_ro T (g_vo T e) p) = bgF T (g_vo T e) (p + 1) from rfl]
        refine ZV_lstore_2 (n := 50) dX12_beginOf_49 rfl (Nat.le_of_ble_eq_true rfl) rfl ?_
        refine ZV_iincN_5 (v := 1) (n := 53) dX12_beginOf_50 rfl rfl (Nat.le_of_ble_eq_true rfl) rfl ?_
        refine ZV_goto (tgt := 13) dX12_beginOf_53 (by decide) ?_
        exact ih (p + 1) (by omega) (by omega)
  refine ZV_lconst (v := lN 0) (n := 1) dX12_beginOf_0 rfl rfl ?_
  refine ZV_lstore_2 (n := 2) dX12_beginOf_1 rfl (Nat.le_of_ble_eq_true rfl) rfl ?_
  refine ZV_aload_n (n := 3) dX12_beginOf_2 rfl rfl rfl ?_
  refine ZV_getR (n := 6) dX12_beginOf_3 fl_X12_21 rfl rfl rfl (rf_sh hR :).1 ?_
  refine ZV_iload_n (n := 7) dX12_beginOf_6 rfl rfl rfl ?_
  refine ZV_ialdv (n := 8) dX12_beginOf_7 rfl (ra_voiceOf (rf_sh hR :) :) (rk_voiceOf (rf_sh hR :) :) rfl (by omega) (rf_voiceOf hR _ (by omega)) ?_
  refine ZV_istore_4 (n := 10) dX12_beginOf_8 rfl (Nat.le_of_ble_eq_true rfl) rfl ?_
  refine ZV_iconst (v := nI 0) (n := 11) dX12_beginOf_10 rfl rfl ?_
  refine ZV_istore_5 (n := 13) dX12_beginOf_11 rfl (Nat.le_of_ble_eq_true rfl) rfl ?_
  exact loop _ 0 (Nat.lt_succ_self _) (Nat.zero_le _)
set_option maxHeartbeats 4000000 in
set_option maxRecDepth 100000 in
theorem c_lengthOf {x : Nat} {σ : ZS} {T : TS} (hR : rR x σ T) (hI : tI T) (v : Nat) (hv : v < 18) : ZC M_X12_lengthOf [Ar (some x), Ai (nI v)] σ (fun y0 τ0 => y0 = some (Al (lN (bgF T v (g_mn T v)))) ∧ τ0 = σ) := by
  have hmn := ti_mn hI v
  refine ZC_of (ls := [some (Ar (some x)), some (Ai (nI v)), none, none, none]) (by decide) (Nat.le_of_ble_eq_true rfl) rfl ?_
  have loop : ∀ (n9 : Nat) (p : Nat), g_mn T v - p < n9 → p ≤ g_mn T v → ZV M_X12_lengthOf (fun y0 τ0 => y0 = some (Al (lN (bgF T v (g_mn T v)))) ∧ τ0 = σ) 5 [some (Ar (some x)), some (Ai (nI v)), some (Al (lN (bgF T v p))), none, some (Ai (nI p))] [] σ (zmC M_X12_lengthOf) (zmS M_X12_lengthOf) := by
    intro n9
    induction n9 with
    | zero => intro p hm; exact absurd hm (Nat.not_lt_zero _)
    | succ n9 ih =>
      intro p hm hp
      refine ZV_iload (n := 7) dX12_lengthOf_5 rfl rfl ?_
      refine ZV_aload_n (n := 8) dX12_lengthOf_7 rfl rfl rfl ?_
      refine ZV_getR (n := 11) dX12_lengthOf_8 fl_X12_45 rfl rfl rfl (rf_sh hR :).1 ?_
      refine ZV_iload_n (n := 12) dX12_lengthOf_11 rfl rfl rfl ?_
      refine ZV_ialdv (n := 13) dX12_lengthOf_12 rfl (ra_many (rf_sh hR :) :) (rk_many (rf_sh hR :) :) rfl (by omega) (rf_many hR _ (by omega)) ?_
      refine ZV_icmp_geN (tgt := 41) (n := 16) dX12_lengthOf_13 (by decide) rfl (by omega) (by omega) (fun h13 => ?_) (fun h13 => ?_)
      · skip
        refine ZV_lload_n (n := 42) dX12_lengthOf_41 rfl rfl rfl ?_
        refine ZV_lret dX12_lengthOf_42 rfl ?_
        obtain rfl : p = g_mn T v := by omega
        exact ⟨rfl, rfl⟩
      · skip
        have hro := ti_ro hI v p (by omega) (by omega)
        refine ZV_lload_n (n := 17) dX12_lengthOf_16 rfl rfl rfl ?_
        refine ZV_aload_n (n := 18) dX12_lengthOf_17 rfl rfl rfl ?_
        refine ZV_aload_n (n := 19) dX12_lengthOf_18 rfl rfl rfl ?_
        refine ZV_getR (n := 22) dX12_lengthOf_19 fl_X12_42 rfl rfl rfl (rf_sh hR :).1 ?_
        refine ZV_bipush (v := nI 40) (n := 24) dX12_lengthOf_22 rfl rfl ?_
        refine ZV_iload_n (n := 25) dX12_lengthOf_24 rfl rfl rfl ?_
        refine ZV_imulN (n := 26) dX12_lengthOf_25 rfl ?_
        refine ZV_iload (n := 28) dX12_lengthOf_26 rfl rfl ?_
        refine ZV_iaddN (n := 29) dX12_lengthOf_28 rfl ?_
        refine ZV_ialdv (n := 30) dX12_lengthOf_29 rfl (ra_row (rf_sh hR :) :) (rk_row (rf_sh hR :) :) rfl (by omega) (rf_row hR _ _ (by omega) (by omega)) ?_
        refine call_X12_243 (c_timeOf hR hI _ hro.1 hro.2.1) rfl dX12_lengthOf_30 rfl (rf_sh hR :).1 (Nat.le_of_ble_eq_true rfl) (Nat.le_of_ble_eq_true rfl) rfl (fun r9 σ9 hp9 => ?_)
        obtain ⟨rfl, rfl⟩ := hp9
        refine ZV_laddN (n := 34) dX12_lengthOf_33 rfl ?_
        rw [show bgF T v p + tmT T (g_ro T v p) = bgF T v (p + 1) from rfl]
        refine ZV_lstore_2 (n := 35) dX12_lengthOf_34 rfl (Nat.le_of_ble_eq_true rfl) rfl ?_
        refine ZV_iincN_4 (v := 1) (n := 38) dX12_lengthOf_35 rfl rfl (Nat.le_of_ble_eq_true rfl) rfl ?_
        refine ZV_goto (tgt := 5) dX12_lengthOf_38 (by decide) ?_
        exact ih (p + 1) (by omega) (by omega)
  refine ZV_lconst (v := lN 0) (n := 1) dX12_lengthOf_0 rfl rfl ?_
  refine ZV_lstore_2 (n := 2) dX12_lengthOf_1 rfl (Nat.le_of_ble_eq_true rfl) rfl ?_
  refine ZV_iconst (v := nI 0) (n := 3) dX12_lengthOf_2 rfl rfl ?_
  refine ZV_istore_4 (n := 5) dX12_lengthOf_3 rfl (Nat.le_of_ble_eq_true rfl) rfl ?_
  exact loop _ 0 (Nat.lt_succ_self _) (Nat.zero_le _)
set_option maxHeartbeats 4000000 in
set_option maxRecDepth 100000 in
theorem c_barAt {x : Nat} {σ : ZS} {T : TS} (hR : rR x σ T) (hI : tI T) (b : Nat) (hb : b ≤ 24) : ZC M_X12_barAt [Ar (some x), Ai (nI b)] σ (fun y0 τ0 => y0 = some (Al (lN (baF T b))) ∧ τ0 = σ) := by
  refine ZC_of (ls := [some (Ar (some x)), some (Ai (nI b)), none, none, none]) (by decide) (Nat.le_of_ble_eq_true rfl) rfl ?_
  have loop : ∀ (n9 : Nat) (k : Nat), b - k < n9 → k ≤ b → ZV M_X12_barAt (fun y0 τ0 => y0 = some (Al (lN (baF T b))) ∧ τ0 = σ) 5 [some (Ar (some x)), some (Ai (nI b)), some (Al (lN (baF T k))), none, some (Ai (nI k))] [] σ (zmC M_X12_barAt) (zmS M_X12_barAt) := by
    intro n9
    induction n9 with
    | zero => intro k hm; exact absurd hm (Nat.not_lt_zero _)
    | succ n9 ih =>
      intro k hm hk
      refine ZV_iload (n := 7) dX12_barAt_5 rfl rfl ?_
      refine ZV_iload_n (n := 8) dX12_barAt_7 rfl rfl rfl ?_
      refine ZV_icmp_geN (tgt := 27) (n := 11) dX12_barAt_8 (by decide) rfl (by omega) (by omega) (fun h8 => ?_) (fun h8 => ?_)
      · skip
        refine ZV_lload_n (n := 28) dX12_barAt_27 rfl rfl rfl ?_
        refine ZV_lret dX12_barAt_28 rfl ?_
        obtain rfl : k = b := by omega
        exact ⟨rfl, rfl⟩
      · skip
        refine ZV_lload_n (n := 12) dX12_barAt_11 rfl rfl rfl ?_
        refine ZV_aload_n (n := 13) dX12_barAt_12 rfl rfl rfl ?_
        refine ZV_getR (n := 16) dX12_barAt_13 fl_X12_13 rfl rfl rfl (rf_sh hR :).1 ?_
        refine ZV_iload (n := 18) dX12_barAt_16 rfl rfl ?_
        refine ZV_laldv (n := 19) dX12_barAt_18 rfl (ra_barTime (rf_sh hR :) :) (rk_barTime (rf_sh hR :) :) rfl (by omega) (rf_barTime hR _ (by omega)) ?_
        refine ZV_laddN (n := 20) dX12_barAt_19 rfl ?_
        rw [show baF T k + g_bt T k = baF T (k + 1) from rfl]
        refine ZV_lstore_2 (n := 21) dX12_barAt_20 rfl (Nat.le_of_ble_eq_true rfl) rfl ?_
        refine ZV_iincN_4 (v := 1) (n := 24) dX12_barAt_21 rfl rfl (Nat.le_of_ble_eq_true rfl) rfl ?_
        refine ZV_goto (tgt := 5) dX12_barAt_24 (by decide) ?_
        exact ih (k + 1) (by omega) (by omega)
  refine ZV_lconst (v := lN 0) (n := 1) dX12_barAt_0 rfl rfl ?_
  refine ZV_lstore_2 (n := 2) dX12_barAt_1 rfl (Nat.le_of_ble_eq_true rfl) rfl ?_
  refine ZV_iconst (v := nI 0) (n := 3) dX12_barAt_2 rfl rfl ?_
  refine ZV_istore_4 (n := 5) dX12_barAt_3 rfl (Nat.le_of_ble_eq_true rfl) rfl ?_
  exact loop _ 0 (Nat.lt_succ_self _) (Nat.zero_le _)
set_option maxHeartbeats 4000000 in
set_option maxRecDepth 100000 in
theorem c_barOf {x : Nat} {σ : ZS} {T : TS} (hR : rR x σ T) (hI : tI T) (t : Nat) (ht : t < 9223372036854775808) : ZC M_X12_barOf [Ar (some x), Al (lN t)] σ (fun r τ => r = some (Ai (oI (boF T t))) ∧ τ = σ) := by
  have hnb := ti_nb hI
  refine ZC_of (ls := [some (Ar (some x)), some (Al (lN t)), none, none]) (by decide) (Nat.le_of_ble_eq_true rfl) rfl ?_
  have loop : ∀ (n9 : Nat) (k b : Nat), k < n9 → b + k = g_nb T → boS T t k b = boF T t → ZV M_X12_barOf (fun r τ => r = some (Ai (oI (boF T t))) ∧ τ = σ) 2 [some (Ar (some x)), some (Al (lN t)), none, some (Ai (nI b))] [] σ (zmC M_X12_barOf) (zmS M_X12_barOf) := by
    intro n9
    induction n9 with
    | zero => intro k b hm; exact absurd hm (Nat.not_lt_zero _)
    | succ n9 ih =>
      intro k b hm hk hz
      refine ZV_iload_n (n := 3) dX12_barOf_2 rfl rfl rfl ?_
      refine ZV_aload_n (n := 4) dX12_barOf_3 rfl rfl rfl ?_
      refine ZV_getIv (n := 7) dX12_barOf_4 fl_X12_151 rfl rfl rfl (rf_sh hR :).1 (rf_bars hR :) ?_
      refine ZV_icmp_geN (tgt := 28) (n := 10) dX12_barOf_7 (by decide) rfl (by omega) (by omega) (fun h7 => ?_) (fun h7 => ?_)
      · skip
        refine ZV_iload_n (n := 29) dX12_barOf_28 rfl rfl rfl ?_
        refine ZV_aload_n (n := 30) dX12_barOf_29 rfl rfl rfl ?_
        refine ZV_getIv (n := 33) dX12_barOf_30 fl_X12_151 rfl rfl rfl (rf_sh hR :).1 (rf_bars hR :) ?_
        refine ZV_icmp_geN (tgt := 40) (n := 36) dX12_barOf_33 (by decide) rfl (by omega) (by omega) (fun h33 => ?_) (fun h33 => ?_)
        · skip
          refine ZV_iconst (v := -1) (n := 41) dX12_barOf_40 rfl rfl ?_
          refine ZV_iret dX12_barOf_41 rfl ?_
          refine ⟨?_, rfl⟩
          rw [← hz]
          obtain rfl : k = 0 := by omega
          rfl
        · skip
          exfalso; omega
      · skip
        have hbb := baF_le hI (b + 1) (by omega)
        refine ZV_lload_n (n := 11) dX12_barOf_10 rfl rfl rfl ?_
        refine ZV_aload_n (n := 12) dX12_barOf_11 rfl rfl rfl ?_
        refine ZV_iload_n (n := 13) dX12_barOf_12 rfl rfl rfl ?_
        refine ZV_iconst (v := nI 1) (n := 14) dX12_barOf_13 rfl rfl ?_
        refine ZV_iaddN (n := 15) dX12_barOf_14 rfl ?_
        refine call_X12_246 (c_barAt hR hI _ (by omega)) rfl dX12_barOf_15 rfl (rf_sh hR :).1 (Nat.le_of_ble_eq_true rfl) (Nat.le_of_ble_eq_true rfl) rfl (fun r9 σ9 hp9 => ?_)
        obtain ⟨rfl, rfl⟩ := hp9
        refine ZV_lcmp_ltN (tgt := 28) (pc1 := 19) (n := 22) dX12_barOf_18 rfl dX12_barOf_19 (by decide) rfl (by omega) (by omega) (fun h18 => ?_) (fun h18 => ?_)
        · skip
          refine ZV_iload_n (n := 29) dX12_barOf_28 rfl rfl rfl ?_
          refine ZV_aload_n (n := 30) dX12_barOf_29 rfl rfl rfl ?_
          refine ZV_getIv (n := 33) dX12_barOf_30 fl_X12_151 rfl rfl rfl (rf_sh hR :).1 (rf_bars hR :) ?_
          refine ZV_icmp_geN (tgt := 40) (n := 36) dX12_barOf_33 (by decide) rfl (by omega) (by omega) (fun h33 => ?_) (fun h33 => ?_)
          · skip
            exfalso; omega
          · skip
            refine ZV_iload_n (n := 37) dX12_barOf_36 rfl rfl rfl ?_
            refine ZV_goto (tgt := 41) dX12_barOf_37 (by decide) ?_
            refine ZV_iret dX12_barOf_41 rfl ?_
            refine ⟨?_, rfl⟩
            rw [← hz]
            obtain ⟨k, rfl⟩ : ∃ q, k = q + 1 := ⟨k - 1, by omega⟩
            rw [boS, if_pos (by omega)]
            rfl
        · skip
          refine ZV_iincN_3 (v := 1) (n := 25) dX12_barOf_22 rfl rfl (Nat.le_of_ble_eq_true rfl) rfl ?_
          refine ZV_goto (tgt := 2) dX12_barOf_25 (by decide) ?_
          exact ih (k - 1) (b + 1) (by omega) (by omega) (by rw [← hz]; obtain ⟨k, rfl⟩ : ∃ q, k = q + 1 := ⟨k - 1, by omega⟩; rw [boS, if_neg (by omega)]; rfl)
  refine ZV_iconst (v := nI 0) (n := 1) dX12_barOf_0 rfl rfl ?_
  refine ZV_istore_3 (n := 2) dX12_barOf_1 rfl (Nat.le_of_ble_eq_true rfl) rfl ?_
  exact loop _ (g_nb T) 0 (Nat.lt_succ_self _) (by omega) rfl
set_option maxHeartbeats 4000000 in
set_option maxRecDepth 100000 in
theorem c_divisor {σ : ZS} (a b : Nat) (ha : a < 9223372036854775808) (hb : b < 9223372036854775808) : ZC M_X12_divisor [Al (lN a), Al (lN b)] σ (fun y0 τ0 => y0 = some (Al (lN (Nat.gcd a b))) ∧ τ0 = σ) := by
  refine ZC_of (ls := [some (Al (lN a)), none, some (Al (lN b)), none, none, none, none, none, none, none]) (by decide) (Nat.le_of_ble_eq_true rfl) rfl ?_
  have loop : ∀ (n9 : Nat) (X Y : Nat), Y < n9 → X < 9223372036854775808 → Y < 9223372036854775808 → Nat.gcd X Y = Nat.gcd a b → ZV M_X12_divisor (fun y0 τ0 => y0 = some (Al (lN (Nat.gcd a b))) ∧ τ0 = σ) 6 [some (Al (lN a)), none, some (Al (lN b)), none, some (Al (lN X)), none, some (Al (lN Y)), none, none, none] [] σ (zmC M_X12_divisor) (zmS M_X12_divisor) := by
    intro n9
    induction n9 with
    | zero => intro X Y hm; exact absurd hm (Nat.not_lt_zero _)
    | succ n9 ih =>
      intro X Y hm hX hY hg
      refine ZV_lload (n := 8) dX12_divisor_6 rfl rfl ?_
      refine ZV_lconst (v := lN 0) (n := 9) dX12_divisor_8 rfl rfl ?_
      refine ZV_lcmp_eqN (tgt := 31) (pc1 := 10) (n := 13) dX12_divisor_9 rfl dX12_divisor_10 (by decide) rfl (by omega) (by omega) (fun h9 => ?_) (fun h9 => ?_)
      · skip
        refine ZV_lload (n := 33) dX12_divisor_31 rfl rfl ?_
        refine ZV_lret dX12_divisor_33 rfl ?_
        subst h9
        rw [Nat.gcd_zero_right] at hg
        exact ⟨by rw [hg], rfl⟩
      · skip
        refine ZV_lload (n := 15) dX12_divisor_13 rfl rfl ?_
        refine ZV_lload (n := 17) dX12_divisor_15 rfl rfl ?_
        refine ZV_lremN (n := 18) dX12_divisor_17 rfl (by omega) (by omega) (by omega) ?_
        refine ZV_lstore_8 (n := 20) dX12_divisor_18 rfl (Nat.le_of_ble_eq_true rfl) rfl ?_
        refine ZV_lload (n := 22) dX12_divisor_20 rfl rfl ?_
        refine ZV_lstore_4 (n := 24) dX12_divisor_22 rfl (Nat.le_of_ble_eq_true rfl) rfl ?_
        refine ZV_lload (n := 26) dX12_divisor_24 rfl rfl ?_
        refine ZV_lstore_6 (n := 28) dX12_divisor_26 rfl (Nat.le_of_ble_eq_true rfl) rfl ?_
        refine ZV_goto (tgt := 6) dX12_divisor_28 (by decide) ?_
        refine ZV_fg_8 ?_
        have hm2 := Nat.mod_lt X (show 0 < Y by omega)
        exact ih Y (X % Y) (by omega) (by omega) (by omega) (by rw [← hg, Nat.gcd_comm X Y, Nat.gcd_rec Y X, Nat.gcd_comm])
  refine ZV_lload_n (n := 1) dX12_divisor_0 rfl rfl rfl ?_
  refine ZV_lstore_4 (n := 3) dX12_divisor_1 rfl (Nat.le_of_ble_eq_true rfl) rfl ?_
  refine ZV_lload_n (n := 4) dX12_divisor_3 rfl rfl rfl ?_
  refine ZV_lstore_6 (n := 6) dX12_divisor_4 rfl (Nat.le_of_ble_eq_true rfl) rfl ?_
  exact loop _ a b (Nat.lt_succ_self _) ha hb rfl
def frT (t : Nat) (dn : Bool) : Nat := if dn = true then 5644800 / Nat.gcd 5644800 t else t / Nat.gcd 5644800 t
set_option maxHeartbeats 4000000 in
set_option maxRecDepth 100000 in
theorem c_fraction {σ : ZS} (t : Nat) (dn : Bool) (ht : t < 9223372036854775808) : ZC M_X12_fraction [Al (lN t), Ai (bI dn)] σ (fun y0 τ0 => y0 = some (Al (lN (frT t dn))) ∧ τ0 = σ) := by
  refine ZC_of (ls := [some (Al (lN t)), none, some (Ai (bI dn)), none, none]) (by decide) (Nat.le_of_ble_eq_true rfl) rfl ?_
  refine ZV_ldc2 (v := lN 5644800) (n := 3) dX12_fraction_0 wd_5_97 rfl ?_
  refine ZV_lload_n (n := 4) dX12_fraction_3 rfl rfl rfl ?_
  refine call_X12_249 (c_divisor _ _ (by decide) ht) rfl dX12_fraction_4 (Nat.le_of_ble_eq_true rfl) (Nat.le_of_ble_eq_true rfl) rfl (fun r9 σ9 hp9 => ?_)
  obtain ⟨rfl, rfl⟩ := hp9
  have hg0 := Nat.gcd_pos_of_pos_left t (show 0 < 5644800 by decide)
  have hg1 := Nat.gcd_le_left t (show 0 < 5644800 by decide)
  refine ZV_lstore_3 (n := 8) dX12_fraction_7 rfl (Nat.le_of_ble_eq_true rfl) rfl ?_
  refine ZV_iload_n (n := 9) dX12_fraction_8 rfl rfl rfl ?_
  refine ZV_if_eqB (tgt := 20) (n := 12) dX12_fraction_9 (by decide) rfl (fun h9 => ?_) (fun h9 => ?_)
  · skip
    refine ZV_lload_n (n := 21) dX12_fraction_20 rfl rfl rfl ?_
    refine ZV_lload_n (n := 22) dX12_fraction_21 rfl rfl rfl ?_
    refine ZV_ldivN (n := 23) dX12_fraction_22 rfl (by omega) (by omega) (by omega) ?_
    refine ZV_lret dX12_fraction_23 rfl ?_
    exact ⟨by simp [frT, h9], rfl⟩
  · skip
    refine ZV_ldc2 (v := lN 5644800) (n := 15) dX12_fraction_12 wd_5_97 rfl ?_
    refine ZV_lload_n (n := 16) dX12_fraction_15 rfl rfl rfl ?_
    refine ZV_ldivN (n := 17) dX12_fraction_16 rfl (by omega) (by omega) (by omega) ?_
    refine ZV_goto (tgt := 23) dX12_fraction_17 (by decide) ?_
    refine ZV_lret dX12_fraction_23 rfl ?_
    exact ⟨by simp [frT, h9], rfl⟩
