def nuF (T : TS) (v : Nat) : Nat → Nat → Option Nat
  | 0, _ => none
  | k + 1, u => if g_tt T u = true ∧ g_tv T u = v then some u else nuF T v k (u + 1)
/-- the first tuplet of voice v from u on -/
def nuT (T : TS) (v u : Nat) : Option Nat := nuF T v (g_te T - u) u
theorem nuF_some {T : TS} {v t : Nat} : ∀ k u, nuF T v k u = some t → u ≤ t ∧ t < u + k ∧ g_tt T t = true ∧ g_tv T t = v
  | 0, _, h => by simp [nuF] at h
  | k + 1, u, h => by
    rw [nuF] at h
    split at h
    · next h1 =>
      cases h
      exact ⟨Nat.le_refl _, by omega, h1⟩
    · have := nuF_some k (u + 1) h
      exact ⟨by omega, by omega, this.2.2⟩
theorem nuT_some {T : TS} {v u t : Nat} (h : nuT T v u = some t) : u ≤ t ∧ t < g_te T ∧ g_tt T t = true ∧ g_tv T t = v := by
  have := nuF_some _ _ h
  exact ⟨this.1, by omega, this.2.2⟩
def alC (T : TS) (e f : Nat) : Bool := decide (g_kd T e = g_kd T f ∧ g_pn T e = g_pn T f ∧ g_va T e = g_va T f ∧ g_dt T e = g_dt T f ∧ g_ti T e = g_ti T f)
def alN (T : TS) (e f : Nat) : Nat → Bool
  | 0 => true
  | n + 1 => alN T e f n && decide (g_pi T e n = g_pi T f n)
def alB (T : TS) (e f : Nat) : Bool := alC T e f && alN T e f (g_pn T e)
theorem alN_f {T : TS} {e f i : Nat} : ∀ d, alN T e f i = false → alN T e f (i + d) = false
  | 0, h => h
  | d + 1, h => by
    have := alN_f d h
    rw [← Nat.add_assoc, alN, this]
    rfl
def eqN (T : TS) (v w : Nat) : Nat → Bool
  | 0 => true
  | n + 1 => eqN T v w n && alB T (g_ro T v n) (g_ro T w n)
theorem eqN_f {T : TS} {v w i : Nat} : ∀ d, eqN T v w i = false → eqN T v w (i + d) = false
  | 0, h => h
  | d + 1, h => by
    have := eqN_f d h
    rw [← Nat.add_assoc, eqN, this]
    rfl
def tlB (T : TS) (t u : Nat) : Bool := decide (g_pl T (g_tf T t) = g_pl T (g_tf T u) ∧ szT T t = szT T u ∧ g_tn T t = g_tn T u ∧ g_tm T t = g_tm T u ∧ g_tu T t = g_tu T u)
def tqF (T : TS) (v w : Nat) : Nat → Option Nat → Option Nat → Bool
  | 0, _, _ => false
  | k + 1, some t, some u => tlB T t u && tqF T v w k (nuT T v (t + 1)) (nuT T w (u + 1))
  | _ + 1, none, none => true
  | _ + 1, none, some _ => false
  | _ + 1, some _, none => false
def eqB (T : TS) (v w : Nat) : Bool := decide (g_mn T v = g_mn T w) && eqN T v w (g_mn T v)
def sp_equal (T : TS) (v w : Int32) : Int32 × TS := if inB v (3 * g_np T) = true ∧ inB w (3 * g_np T) = true then sOk T (bI (eqB (h_su T 0) v.toNatClampNeg w.toNatClampNeg && tqF (h_su T 0) v.toNatClampNeg w.toNatClampNeg (g_te T + 1) (nuT (h_su T 0) v.toNatClampNeg 0) (nuT (h_su T 0) w.toNatClampNeg 0))) else sNo T (-2)
theorem bI_inj {a b : Bool} : bI a = bI b ↔ a = b := by cases a <;> cases b <;> decide
theorem oI0 : oI none + nI 1 = nI 0 := by decide
theorem oIs (t : Nat) : oI (some t) + nI 1 = nI (t + 1) := nI_add t 1
set_option maxHeartbeats 4000000 in
set_option maxRecDepth 100000 in
theorem c_nextOf {x : Nat} {σ : ZS} {T : TS} (hR : rR x σ T) (hI : tI T) (v : Nat) (hv : v < 18) (o : Int32) (a : Nat) (ha : o + nI 1 = nI a) (hat : a ≤ g_te T) : ZC M_X12_nextOf [Ar (some x), Ai (nI v), Ai o] σ (fun r τ => r = some (Ai (oI (nuT T v a))) ∧ τ = σ) := by
  have hte := ti_te hI
  have hnp := ti_np hI
  refine ZC_of (ls := [some (Ar (some x)), some (Ai (nI v)), some (Ai o), none]) (by decide) (Nat.le_of_ble_eq_true rfl) rfl ?_
  generalize hZ : nuT T v a = Z
  have tail : ∀ u, (if u < g_te T then some u else none) = Z → u ≤ g_te T → ZV M_X12_nextOf (fun r τ => r = some (Ai (oI Z)) ∧ τ = σ) 37 [some (Ar (some x)), some (Ai (nI v)), some (Ai o), some (Ai (nI u))] [] σ (zmC M_X12_nextOf) (zmS M_X12_nextOf) := by
    intro u hz hu
    refine ZV_iload_n (n := 38) dX12_nextOf_37 rfl rfl rfl ?_
    refine ZV_aload_n (n := 39) dX12_nextOf_38 rfl rfl rfl ?_
    refine ZV_getIv (n := 42) dX12_nextOf_39 fl_X12_199 rfl rfl rfl (rf_sh hR :).1 (rf_tupletsEver hR :) ?_
    refine ZV_icmp_geN (tgt := 49) (n := 45) dX12_nextOf_42 (by decide) rfl (by omega) (by omega) (fun h42 => ?_) (fun h42 => ?_)
    · skip
      rw [if_neg (by omega)] at hz
      subst hz
      refine ZV_iconst (v := -1) (n := 50) dX12_nextOf_49 rfl rfl ?_
      refine ZV_iret dX12_nextOf_50 rfl ?_
      exact ⟨rfl, rfl⟩
    · skip
      rw [if_pos h42] at hz
      subst hz
      refine ZV_iload_n (n := 46) dX12_nextOf_45 rfl rfl rfl ?_
      refine ZV_goto (tgt := 50) dX12_nextOf_46 (by decide) ?_
      refine ZV_iret dX12_nextOf_50 rfl ?_
      exact ⟨rfl, rfl⟩
  have loop : ∀ (n9 : Nat) (k u : Nat), k < n9 → u + k = g_te T → nuF T v k u = Z → ZV M_X12_nextOf (fun r τ => r = some (Ai (oI Z)) ∧ τ = σ) 4 [some (Ar (some x)), some (Ai (nI v)), some (Ai o), some (Ai (nI u))] [] σ (zmC M_X12_nextOf) (zmS M_X12_nextOf) := by
    intro n9
    induction n9 with
    | zero => intro k u hm; exact absurd hm (Nat.not_lt_zero _)
    | succ n9 ih =>
      intro k u hm huk hz
      refine ZV_iload_n (n := 5) dX12_nextOf_4 rfl rfl rfl ?_
      refine ZV_aload_n (n := 6) dX12_nextOf_5 rfl rfl rfl ?_
      refine ZV_getIv (n := 9) dX12_nextOf_6 fl_X12_199 rfl rfl rfl (rf_sh hR :).1 (rf_tupletsEver hR :) ?_
      refine ZV_icmp_geN (tgt := 37) (n := 12) dX12_nextOf_9 (by decide) rfl (by omega) (by omega) (fun h9 => ?_) (fun h9 => ?_)
      · skip
        exact tail u (by rw [if_neg (by omega), ← hz, show k = 0 by omega]; rfl) (by omega)
      · skip
        obtain ⟨k, rfl⟩ : ∃ z, k = z + 1 := ⟨k - 1, by omega⟩
        refine ZV_aload_n (n := 13) dX12_nextOf_12 rfl rfl rfl ?_
        refine ZV_getR (n := 16) dX12_nextOf_13 fl_X12_48 rfl rfl rfl (rf_sh hR :).1 ?_
        refine ZV_iload_n (n := 17) dX12_nextOf_16 rfl rfl rfl ?_
        refine ZV_baldv (n := 18) dX12_nextOf_17 rfl (ra_isTuplet (rf_sh hR :) :) (rk_isTuplet (rf_sh hR :) :) rfl (by omega) (rf_isTuplet hR _ (by omega)) ?_
        refine ZV_if_eqB (tgt := 31) (n := 21) dX12_nextOf_18 (by decide) rfl (fun h18 => ?_) (fun h18 => ?_)
        · skip
          refine ZV_iincN_3 (v := 1) (n := 34) dX12_nextOf_31 rfl rfl (Nat.le_of_ble_eq_true rfl) rfl ?_
          refine ZV_goto (tgt := 4) dX12_nextOf_34 (by decide) ?_
          exact ih k (u + 1) (by omega) (by omega) (by rw [← hz, nuF, if_neg (fun z => by rw [h18] at z; exact absurd z.1 (by decide))])
        · skip
          have htp := ti_tp hI u (by omega) h18
          have hvf := ti_vo hI _ htp.1
          refine ZV_aload_n (n := 22) dX12_nextOf_21 rfl rfl rfl ?_
          refine ZV_getR (n := 25) dX12_nextOf_22 fl_X12_51 rfl rfl rfl (rf_sh hR :).1 ?_
          refine ZV_iload_n (n := 26) dX12_nextOf_25 rfl rfl rfl ?_
          refine ZV_ialdv (n := 27) dX12_nextOf_26 rfl (ra_tupletVoice (rf_sh hR :) :) (rk_tupletVoice (rf_sh hR :) :) rfl (by omega) (rf_tupletVoice hR _ (by omega)) ?_
          refine ZV_iload_n (n := 28) dX12_nextOf_27 rfl rfl rfl ?_
          refine ZV_icmp_eqN (tgt := 37) (n := 31) dX12_nextOf_28 (by decide) rfl (by omega) (by omega) (fun h28 => ?_) (fun h28 => ?_)
          · skip
            exact tail u (by rw [if_pos (by omega), ← hz, nuF, if_pos ⟨h18, h28⟩]) (by omega)
          · skip
            refine ZV_iincN_3 (v := 1) (n := 34) dX12_nextOf_31 rfl rfl (Nat.le_of_ble_eq_true rfl) rfl ?_
            refine ZV_goto (tgt := 4) dX12_nextOf_34 (by decide) ?_
            exact ih k (u + 1) (by omega) (by omega) (by rw [← hz, nuF, if_neg (fun z => by exact h28 z.2)])
  refine ZV_iload_n (n := 1) dX12_nextOf_0 rfl rfl rfl ?_
  refine ZV_iconst (v := nI 1) (n := 2) dX12_nextOf_1 rfl rfl ?_
  refine ZV_iadd (n := 3) dX12_nextOf_2 rfl ?_
  refine ZV_topi ha ?_
  refine ZV_istore_3 (n := 4) dX12_nextOf_3 rfl (Nat.le_of_ble_eq_true rfl) rfl ?_
  exact loop _ (g_te T - a) a (Nat.lt_succ_self _) (by omega) hZ
set_option maxHeartbeats 4000000 in
set_option maxRecDepth 100000 in
theorem c_areAlike {x : Nat} {σ : ZS} {T : TS} (hR : rR x σ T) (hI : tI T) (e f : Nat) (he : e < g_ev T) (hf : f < g_ev T) : ZC M_X12_areAlike [Ar (some x), Ai (nI e), Ai (nI f)] σ (fun r τ => r = some (Ai (bI (alB T e f))) ∧ τ = σ) := by
  have hev := ti_ev hI
  have hpe := ti_pn hI e
  have hpf := ti_pn hI f
  have hke := ti_kd hI e he
  have hkf := ti_kd hI f hf
  have hve := ti_va hI e he
  have hvf := ti_va hI f hf
  have hde := ti_dt hI e he
  have hdf := ti_dt hI f hf
  refine ZC_of (ls := [some (Ar (some x)), some (Ai (nI e)), some (Ai (nI f)), none, none]) (by decide) (Nat.le_of_ble_eq_true rfl) rfl ?_
  have loop : ∀ (n9 : Nat) (i : Nat) (b : Bool), g_pn T e - i < n9 → i ≤ g_pn T e → b = (alC T e f && alN T e f i) → ZV M_X12_areAlike (fun r τ => r = some (Ai (bI (alB T e f))) ∧ τ = σ) 84 [some (Ar (some x)), some (Ai (nI e)), some (Ai (nI f)), some (Ai (bI b)), some (Ai (nI i))] [] σ (zmC M_X12_areAlike) (zmS M_X12_areAlike) := by
    intro n9
    induction n9 with
    | zero => intro i b hm; exact absurd hm (Nat.not_lt_zero _)
    | succ n9 ih =>
      intro i b hm hi hb
      refine ZV_iload (n := 86) dX12_areAlike_84 rfl rfl ?_
      refine ZV_aload_n (n := 87) dX12_areAlike_86 rfl rfl rfl ?_
      refine ZV_getR (n := 90) dX12_areAlike_87 fl_X12_27 rfl rfl rfl (rf_sh hR :).1 ?_
      refine ZV_iload_n (n := 91) dX12_areAlike_90 rfl rfl rfl ?_
      refine ZV_ialdv (n := 92) dX12_areAlike_91 rfl (ra_pitches (rf_sh hR :) :) (rk_pitches (rf_sh hR :) :) rfl (by omega) (rf_pitches hR _ (by omega)) ?_
      refine ZV_icmp_geN (tgt := 138) (n := 95) dX12_areAlike_92 (by decide) rfl (by omega) (by omega) (fun h92 => ?_) (fun h92 => ?_)
      · skip
        refine ZV_iload_n (n := 139) dX12_areAlike_138 rfl rfl rfl ?_
        refine ZV_zret dX12_areAlike_139 rfl (bI_01 _) ?_
        refine ⟨?_, rfl⟩
        unfold alB
        rw [hb, show i = g_pn T e by omega]
      · skip
        refine ZV_iload_n (n := 96) dX12_areAlike_95 rfl rfl rfl ?_
        refine ZV_if_eqB (tgt := 138) (n := 99) dX12_areAlike_96 (by decide) rfl (fun h96 => ?_) (fun h96 => ?_)
        · skip
          refine ZV_iload_n (n := 139) dX12_areAlike_138 rfl rfl rfl ?_
          refine ZV_zret dX12_areAlike_139 rfl (bI_01 _) ?_
          refine ⟨?_, rfl⟩
          unfold alB
          rw [hb] at h96
          rw [hb, h96]
          cases hc : alC T e f with
          | false => rfl
          | true =>
            rw [hc, Bool.true_and] at h96
            have hx := alN_f (g_pn T e - i) h96
            rw [show i + (g_pn T e - i) = g_pn T e by omega] at hx
            rw [hx]
            rfl
        · skip
          have hpnf : g_pn T e = g_pn T f := by
            rw [h96] at hb
            exact (of_decide_eq_true (Bool.and_eq_true_iff.mp hb.symm).1).2.1
          refine ZV_aload_n (n := 100) dX12_areAlike_99 rfl rfl rfl ?_
          refine ZV_getR (n := 103) dX12_areAlike_100 fl_X12_30 rfl rfl rfl (rf_sh hR :).1 ?_
          refine ZV_bipush (v := nI 6) (n := 105) dX12_areAlike_103 rfl rfl ?_
          refine ZV_iload_n (n := 106) dX12_areAlike_105 rfl rfl rfl ?_
          refine ZV_imulN (n := 107) dX12_areAlike_106 rfl ?_
          refine ZV_iload (n := 109) dX12_areAlike_107 rfl rfl ?_
          refine ZV_iaddN (n := 110) dX12_areAlike_109 rfl ?_
          refine ZV_ialdv (n := 111) dX12_areAlike_110 rfl (ra_pitchOf (rf_sh hR :) :) (rk_pitchOf (rf_sh hR :) :) rfl (by omega) (rf_pitchOf hR _ _ (by omega) (by omega)) ?_
          refine ZV_aload_n (n := 112) dX12_areAlike_111 rfl rfl rfl ?_
          refine ZV_getR (n := 115) dX12_areAlike_112 fl_X12_30 rfl rfl rfl (rf_sh hR :).1 ?_
          refine ZV_bipush (v := nI 6) (n := 117) dX12_areAlike_115 rfl rfl ?_
          refine ZV_iload_n (n := 118) dX12_areAlike_117 rfl rfl rfl ?_
          refine ZV_imulN (n := 119) dX12_areAlike_118 rfl ?_
          refine ZV_iload (n := 121) dX12_areAlike_119 rfl rfl ?_
          refine ZV_iaddN (n := 122) dX12_areAlike_121 rfl ?_
          refine ZV_ialdv (n := 123) dX12_areAlike_122 rfl (ra_pitchOf (rf_sh hR :) :) (rk_pitchOf (rf_sh hR :) :) rfl (by omega) (rf_pitchOf hR _ _ (by omega) (by omega)) ?_
          refine ZV_icmp_ne (tgt := 130) (n := 126) dX12_areAlike_123 (by decide) rfl (fun h123 => ?_) (fun h123 => ?_)
          · skip
            refine ZV_iconst (v := nI 0) (n := 131) dX12_areAlike_130 rfl rfl ?_
            refine ZV_topi (w := bI (decide (g_pi T e i = g_pi T f i))) (by first | (rw [decide_eq_true h123]; rfl) | (rw [decide_eq_false h123]; rfl)) ?_
            refine ZV_istore_3 (n := 132) dX12_areAlike_131 rfl (Nat.le_of_ble_eq_true rfl) rfl ?_
            refine ZV_iincN_4 (v := 1) (n := 135) dX12_areAlike_132 rfl rfl (Nat.le_of_ble_eq_true rfl) rfl ?_
            refine ZV_goto (tgt := 84) dX12_areAlike_135 (by decide) ?_
            exact ih (i + 1) _ (by omega) (by omega) (by rw [alN, ← Bool.and_assoc, ← hb, h96, Bool.true_and])
          · skip
            refine ZV_iconst (v := nI 1) (n := 127) dX12_areAlike_126 rfl rfl ?_
            refine ZV_goto (tgt := 131) dX12_areAlike_127 (by decide) ?_
            refine ZV_topi (w := bI (decide (g_pi T e i = g_pi T f i))) (by first | (rw [decide_eq_true h123]; rfl) | (rw [decide_eq_false h123]; rfl)) ?_
            refine ZV_istore_3 (n := 132) dX12_areAlike_131 rfl (Nat.le_of_ble_eq_true rfl) rfl ?_
            refine ZV_iincN_4 (v := 1) (n := 135) dX12_areAlike_132 rfl rfl (Nat.le_of_ble_eq_true rfl) rfl ?_
            refine ZV_goto (tgt := 84) dX12_areAlike_135 (by decide) ?_
            exact ih (i + 1) _ (by omega) (by omega) (by rw [alN, ← Bool.and_assoc, ← hb, h96, Bool.true_and])
  refine ZV_aload_n (n := 1) dX12_areAlike_0 rfl rfl rfl ?_
  refine ZV_getR (n := 4) dX12_areAlike_1 fl_X12_24 rfl rfl rfl (rf_sh hR :).1 ?_
  refine ZV_iload_n (n := 5) dX12_areAlike_4 rfl rfl rfl ?_
  refine ZV_ialdv (n := 6) dX12_areAlike_5 rfl (ra_kindOf (rf_sh hR :) :) (rk_kindOf (rf_sh hR :) :) rfl (by omega) (rf_kindOf hR _ (by omega)) ?_
  refine ZV_aload_n (n := 7) dX12_areAlike_6 rfl rfl rfl ?_
  refine ZV_getR (n := 10) dX12_areAlike_7 fl_X12_24 rfl rfl rfl (rf_sh hR :).1 ?_
  refine ZV_iload_n (n := 11) dX12_areAlike_10 rfl rfl rfl ?_
  refine ZV_ialdv (n := 12) dX12_areAlike_11 rfl (ra_kindOf (rf_sh hR :) :) (rk_kindOf (rf_sh hR :) :) rfl (by omega) (rf_kindOf hR _ (by omega)) ?_
  refine ZV_icmp_neN (tgt := 79) (n := 15) dX12_areAlike_12 (by decide) rfl (by omega) (by omega) (fun h12 => ?_) (fun h12 => ?_)
  · skip
    refine ZV_iconst (v := nI 0) (n := 80) dX12_areAlike_79 rfl rfl ?_
    refine ZV_topi (w := bI (alC T e f)) (by first | (rw [show alC T e f = true from decide_eq_true ⟨h12, h27, h42, h57, bI_inj.mp h72⟩]; rfl) | (rw [show alC T e f = false from decide_eq_false (fun z => by first | exact h12 z.1 | exact h27 z.2.1 | exact h42 z.2.2.1 | exact h57 z.2.2.2.1 | exact h72 (by rw [z.2.2.2.2]))]; rfl)) ?_
    refine ZV_istore_3 (n := 81) dX12_areAlike_80 rfl (Nat.le_of_ble_eq_true rfl) rfl ?_
    refine ZV_iconst (v := nI 0) (n := 82) dX12_areAlike_81 rfl rfl ?_
    refine ZV_istore_4 (n := 84) dX12_areAlike_82 rfl (Nat.le_of_ble_eq_true rfl) rfl ?_
    exact loop _ 0 _ (Nat.lt_succ_self _) (Nat.zero_le _) (by rw [alN, Bool.and_true])
  · skip
    refine ZV_aload_n (n := 16) dX12_areAlike_15 rfl rfl rfl ?_
    refine ZV_getR (n := 19) dX12_areAlike_16 fl_X12_27 rfl rfl rfl (rf_sh hR :).1 ?_
    refine ZV_iload_n (n := 20) dX12_areAlike_19 rfl rfl rfl ?_
    refine ZV_ialdv (n := 21) dX12_areAlike_20 rfl (ra_pitches (rf_sh hR :) :) (rk_pitches (rf_sh hR :) :) rfl (by omega) (rf_pitches hR _ (by omega)) ?_
    refine ZV_aload_n (n := 22) dX12_areAlike_21 rfl rfl rfl ?_
    refine ZV_getR (n := 25) dX12_areAlike_22 fl_X12_27 rfl rfl rfl (rf_sh hR :).1 ?_
    refine ZV_iload_n (n := 26) dX12_areAlike_25 rfl rfl rfl ?_
    refine ZV_ialdv (n := 27) dX12_areAlike_26 rfl (ra_pitches (rf_sh hR :) :) (rk_pitches (rf_sh hR :) :) rfl (by omega) (rf_pitches hR _ (by omega)) ?_
    refine ZV_icmp_neN (tgt := 79) (n := 30) dX12_areAlike_27 (by decide) rfl (by omega) (by omega) (fun h27 => ?_) (fun h27 => ?_)
    · skip
      refine ZV_iconst (v := nI 0) (n := 80) dX12_areAlike_79 rfl rfl ?_
      refine ZV_topi (w := bI (alC T e f)) (by first | (rw [show alC T e f = true from decide_eq_true ⟨h12, h27, h42, h57, bI_inj.mp h72⟩]; rfl) | (rw [show alC T e f = false from decide_eq_false (fun z => by first | exact h12 z.1 | exact h27 z.2.1 | exact h42 z.2.2.1 | exact h57 z.2.2.2.1 | exact h72 (by rw [z.2.2.2.2]))]; rfl)) ?_
      refine ZV_istore_3 (n := 81) dX12_areAlike_80 rfl (Nat.le_of_ble_eq_true rfl) rfl ?_
      refine ZV_iconst (v := nI 0) (n := 82) dX12_areAlike_81 rfl rfl ?_
      refine ZV_istore_4 (n := 84) dX12_areAlike_82 rfl (Nat.le_of_ble_eq_true rfl) rfl ?_
      exact loop _ 0 _ (Nat.lt_succ_self _) (Nat.zero_le _) (by rw [alN, Bool.and_true])
    · skip
      refine ZV_aload_n (n := 31) dX12_areAlike_30 rfl rfl rfl ?_
      refine ZV_getR (n := 34) dX12_areAlike_31 fl_X12_33 rfl rfl rfl (rf_sh hR :).1 ?_
      refine ZV_iload_n (n := 35) dX12_areAlike_34 rfl rfl rfl ?_
      refine ZV_ialdv (n := 36) dX12_areAlike_35 rfl (ra_valueOf (rf_sh hR :) :) (rk_valueOf (rf_sh hR :) :) rfl (by omega) (rf_valueOf hR _ (by omega)) ?_
      refine ZV_aload_n (n := 37) dX12_areAlike_36 rfl rfl rfl ?_
      refine ZV_getR (n := 40) dX12_areAlike_37 fl_X12_33 rfl rfl rfl (rf_sh hR :).1 ?_
      refine ZV_iload_n (n := 41) dX12_areAlike_40 rfl rfl rfl ?_
      refine ZV_ialdv (n := 42) dX12_areAlike_41 rfl (ra_valueOf (rf_sh hR :) :) (rk_valueOf (rf_sh hR :) :) rfl (by omega) (rf_valueOf hR _ (by omega)) ?_
      refine ZV_icmp_neN (tgt := 79) (n := 45) dX12_areAlike_42 (by decide) rfl (by omega) (by omega) (fun h42 => ?_) (fun h42 => ?_)
      · skip
        refine ZV_iconst (v := nI 0) (n := 80) dX12_areAlike_79 rfl rfl ?_
        refine ZV_topi (w := bI (alC T e f)) (by first | (rw [show alC T e f = true from decide_eq_true ⟨h12, h27, h42, h57, bI_inj.mp h72⟩]; rfl) | (rw [show alC T e f = false from decide_eq_false (fun z => by first | exact h12 z.1 | exact h27 z.2.1 | exact h42 z.2.2.1 | exact h57 z.2.2.2.1 | exact h72 (by rw [z.2.2.2.2]))]; rfl)) ?_
        refine ZV_istore_3 (n := 81) dX12_areAlike_80 rfl (Nat.le_of_ble_eq_true rfl) rfl ?_
        refine ZV_iconst (v := nI 0) (n := 82) dX12_areAlike_81 rfl rfl ?_
        refine ZV_istore_4 (n := 84) dX12_areAlike_82 rfl (Nat.le_of_ble_eq_true rfl) rfl ?_
        exact loop _ 0 _ (Nat.lt_succ_self _) (Nat.zero_le _) (by rw [alN, Bool.and_true])
      · skip
        refine ZV_aload_n (n := 46) dX12_areAlike_45 rfl rfl rfl ?_
        refine ZV_getR (n := 49) dX12_areAlike_46 fl_X12_36 rfl rfl rfl (rf_sh hR :).1 ?_
        refine ZV_iload_n (n := 50) dX12_areAlike_49 rfl rfl rfl ?_
        refine ZV_ialdv (n := 51) dX12_areAlike_50 rfl (ra_dotsOf (rf_sh hR :) :) (rk_dotsOf (rf_sh hR :) :) rfl (by omega) (rf_dotsOf hR _ (by omega)) ?_
        refine ZV_aload_n (n := 52) dX12_areAlike_51 rfl rfl rfl ?_
        refine ZV_getR (n := 55) dX12_areAlike_52 fl_X12_36 rfl rfl rfl (rf_sh hR :).1 ?_
        refine ZV_iload_n (n := 56) dX12_areAlike_55 rfl rfl rfl ?_
        refine ZV_ialdv (n := 57) dX12_areAlike_56 rfl (ra_dotsOf (rf_sh hR :) :) (rk_dotsOf (rf_sh hR :) :) rfl (by omega) (rf_dotsOf hR _ (by omega)) ?_
        refine ZV_icmp_neN (tgt := 79) (n := 60) dX12_areAlike_57 (by decide) rfl (by omega) (by omega) (fun h57 => ?_) (fun h57 => ?_)
        · skip
          refine ZV_iconst (v := nI 0) (n := 80) dX12_areAlike_79 rfl rfl ?_
          refine ZV_topi (w := bI (alC T e f)) (by first | (rw [show alC T e f = true from decide_eq_true ⟨h12, h27, h42, h57, bI_inj.mp h72⟩]; rfl) | (rw [show alC T e f = false from decide_eq_false (fun z => by first | exact h12 z.1 | exact h27 z.2.1 | exact h42 z.2.2.1 | exact h57 z.2.2.2.1 | exact h72 (by rw [z.2.2.2.2]))]; rfl)) ?_
          refine ZV_istore_3 (n := 81) dX12_areAlike_80 rfl (Nat.le_of_ble_eq_true rfl) rfl ?_
          refine ZV_iconst (v := nI 0) (n := 82) dX12_areAlike_81 rfl rfl ?_
          refine ZV_istore_4 (n := 84) dX12_areAlike_82 rfl (Nat.le_of_ble_eq_true rfl) rfl ?_
          exact loop _ 0 _ (Nat.lt_succ_self _) (Nat.zero_le _) (by rw [alN, Bool.and_true])
        · skip
          refine ZV_aload_n (n := 61) dX12_areAlike_60 rfl rfl rfl ?_
          refine ZV_getR (n := 64) dX12_areAlike_61 fl_X12_39 rfl rfl rfl (rf_sh hR :).1 ?_
          refine ZV_iload_n (n := 65) dX12_areAlike_64 rfl rfl rfl ?_
          refine ZV_baldv (n := 66) dX12_areAlike_65 rfl (ra_isTied (rf_sh hR :) :) (rk_isTied (rf_sh hR :) :) rfl (by omega) (rf_isTied hR _ (by omega)) ?_
          refine ZV_aload_n (n := 67) dX12_areAlike_66 rfl rfl rfl ?_
          refine ZV_getR (n := 70) dX12_areAlike_67 fl_X12_39 rfl rfl rfl (rf_sh hR :).1 ?_
          refine ZV_iload_n (n := 71) dX12_areAlike_70 rfl rfl rfl ?_
          refine ZV_baldv (n := 72) dX12_areAlike_71 rfl (ra_isTied (rf_sh hR :) :) (rk_isTied (rf_sh hR :) :) rfl (by omega) (rf_isTied hR _ (by omega)) ?_
          refine ZV_icmp_ne (tgt := 79) (n := 75) dX12_areAlike_72 (by decide) rfl (fun h72 => ?_) (fun h72 => ?_)
          · skip
            refine ZV_iconst (v := nI 0) (n := 80) dX12_areAlike_79 rfl rfl ?_
            refine ZV_topi (w := bI (alC T e f)) (by first | (rw [show alC T e f = true from decide_eq_true ⟨h12, h27, h42, h57, bI_inj.mp h72⟩]; rfl) | (rw [show alC T e f = false from decide_eq_false (fun z => by first | exact h12 z.1 | exact h27 z.2.1 | exact h42 z.2.2.1 | exact h57 z.2.2.2.1 | exact h72 (by rw [z.2.2.2.2]))]; rfl)) ?_
            refine ZV_istore_3 (n := 81) dX12_areAlike_80 rfl (Nat.le_of_ble_eq_true rfl) rfl ?_
            refine ZV_iconst (v := nI 0) (n := 82) dX12_areAlike_81 rfl rfl ?_
            refine ZV_istore_4 (n := 84) dX12_areAlike_82 rfl (Nat.le_of_ble_eq_true rfl) rfl ?_
            exact loop _ 0 _ (Nat.lt_succ_self _) (Nat.zero_le _) (by rw [alN, Bool.and_true])
          · skip
            refine ZV_iconst (v := nI 1) (n := 76) dX12_areAlike_75 rfl rfl ?_
            refine ZV_goto (tgt := 80) dX12_areAlike_76 (by decide) ?_
            refine ZV_topi (w := bI (alC T e f)) (by first | (rw [show alC T e f = true from decide_eq_true ⟨h12, h27, h42, h57, bI_inj.mp h72⟩]; rfl) | (rw [show alC T e f = false from decide_eq_false (fun z => by first | exact h12 z.1 | exact h27 z.2.1 | exact h42 z.2.2.1 | exact h57 z.2.2.2.1 | exact h72 (by rw [z.2.2.2.2]))]; rfl)) ?_
            refine ZV_istore_3 (n := 81) dX12_areAlike_80 rfl (Nat.le_of_ble_eq_true rfl) rfl ?_
            refine ZV_iconst (v := nI 0) (n := 82) dX12_areAlike_81 rfl rfl ?_
            refine ZV_istore_4 (n := 84) dX12_areAlike_82 rfl (Nat.le_of_ble_eq_true rfl) rfl ?_
            exact loop _ 0 _ (Nat.lt_succ_self _) (Nat.zero_le _) (by rw [alN, Bool.and_true])
set_option maxHeartbeats 4000000 in
set_option maxRecDepth 100000 in
theorem c_equal {x : Nat} {σ : ZS} {T : TS} (hR : rR x σ T) (hI : tI T) (v w : Int32) : ZC M_X12_equal [Ar (some x), Ai v, Ai w] σ (fun y0 τ0 => y0 = some (Ai (sp_equal T v w).1) ∧ rR x τ0 (sp_equal T v w).2) := by
  have hsp : sp_equal T v w = sp_equal (h_su T 0) v w := rfl
  rw [hsp]
  clear hsp
  refine ZC_of (ls := [some (Ar (some x)), some (Ai v), some (Ai w), none, none, none]) (by decide) (Nat.le_of_ble_eq_true rfl) rfl ?_
  refine ZV_aload_n (n := 1) dX12_equal_0 rfl rfl rfl ?_
  refine call_X12_144 (c_begin hR) rfl dX12_equal_1 rfl (rf_sh hR :).1 (Nat.le_of_ble_eq_true rfl) (Nat.le_of_ble_eq_true rfl) rfl (fun r9 σ9 hp9 => ?_)
  obtain ⟨rfl, hR⟩ := hp9
  have hI := tI_su hI 0
  have hsu : g_su (h_su T 0) = 0 := rfl
  generalize h_su T 0 = T at hR hI hsu ⊢
  have hnp := ti_np hI
  have hte := ti_te hI
  have hev := ti_ev hI
  refine ZV_aload_n (n := 5) dX12_equal_4 rfl rfl rfl ?_
  refine ZV_iload_n (n := 6) dX12_equal_5 rfl rfl rfl ?_
  refine call_X12_184 (c_isVoice hR hI _) rfl dX12_equal_6 rfl (rf_sh hR :).1 (Nat.le_of_ble_eq_true rfl) (Nat.le_of_ble_eq_true rfl) rfl (fun r9 σ9 hp9 => ?_)
  obtain ⟨rfl, hs9⟩ := hp9
  subst σ9
  refine ZV_if_eqB (tgt := 20) (n := 12) dX12_equal_9 (by decide) rfl (fun h9 => ?_) (fun h9 => ?_)
  · skip
    refine ZV_aload_n (n := 21) dX12_equal_20 rfl rfl rfl ?_
    refine ZV_bipush (v := -2) (n := 23) dX12_equal_21 rfl rfl ?_
    refine call_X12_130 (c_no hR _) rfl dX12_equal_23 rfl (rf_sh hR :).1 (Nat.le_of_ble_eq_true rfl) (Nat.le_of_ble_eq_true rfl) rfl (fun r9 σ9 hp9 => ?_)
    obtain ⟨rfl, hR⟩ := hp9
    refine ZV_iret dX12_equal_26 rfl ?_
    exact zleaf (v := sNo T (-2)) (by simp [sp_equal, h9]) rfl hR
  · skip
    refine ZV_aload_n (n := 13) dX12_equal_12 rfl rfl rfl ?_
    refine ZV_iload_n (n := 14) dX12_equal_13 rfl rfl rfl ?_
    refine call_X12_184 (c_isVoice hR hI _) rfl dX12_equal_14 rfl (rf_sh hR :).1 (Nat.le_of_ble_eq_true rfl) (Nat.le_of_ble_eq_true rfl) rfl (fun r9 σ9 hp9 => ?_)
    obtain ⟨rfl, hs9⟩ := hp9
    subst σ9
    refine ZV_if_neB (tgt := 27) (n := 20) dX12_equal_17 (by decide) rfl (fun h17 => ?_) (fun h17 => ?_)
    · skip
      obtain ⟨v, hv, hvx, rfl⟩ := inB_t h9
      obtain ⟨w, hw, hwx, rfl⟩ := inB_t h17
      have hmv := ti_mn hI v
      have hmw := ti_mn hI w
      have hZ : sp_equal T (nI v) (nI w) = sOk T (bI (eqB T v w && tqF T v w (g_te T + 1) (nuT T v 0) (nuT T w 0))) := by rw [sp_equal, if_pos ⟨h9, h17⟩, nI_clamp hvx, nI_clamp hwx, su0 hsu]
      rw [hZ]
      generalize hZ0 : (eqB T v w && tqF T v w (g_te T + 1) (nuT T v 0) (nuT T w 0)) = Z
      have tail : ∀ (b : Bool) (o p : Option Nat), (∀ t, o = some t → t < g_te T ∧ g_tt T t = true) → (∀ t, p = some t → t < g_te T ∧ g_tt T t = true) → (b && o.isNone && p.isNone) = Z → ZV M_X12_equal (fun y0 τ0 => y0 = some (Ai (sOk T (bI Z)).1) ∧ rR x τ0 (sOk T (bI Z)).2) 251 [some (Ar (some x)), some (Ai (nI v)), some (Ai (nI w)), some (Ai (bI b)), some (Ai (oI o)), some (Ai (oI p))] [] σ9 (zmC M_X12_equal) (zmS M_X12_equal) := by
        intro b o p ob pb hz
        refine ZV_iload_n (n := 252) dX12_equal_251 rfl rfl rfl ?_
        refine ZV_if_eqB (tgt := 271) (n := 255) dX12_equal_252 (by decide) rfl (fun h252 => ?_) (fun h252 => ?_)
        · skip
          have hF : Z = false := by rw [← hz, h252]; rfl
          refine ZV_iconst (v := nI 0) (n := 272) dX12_equal_271 rfl rfl ?_
          refine ZV_iret dX12_equal_272 rfl ?_
          first | exact zleaf (v := sOk T (bI Z)) rfl (by rw [hF]; rfl) (rR_s0 hR hsu) | exact zleaf (v := sOk T (bI Z)) rfl (by rw [hT]; rfl) (rR_s0 hR hsu)
        · skip
          refine ZV_iload (n := 257) dX12_equal_255 rfl rfl ?_
          refine ZV_iconst (v := -1) (n := 258) dX12_equal_257 rfl rfl ?_
          refine ZV_icmp_ne (tgt := 271) (n := 261) dX12_equal_258 (by decide) rfl (fun h258 => ?_) (fun h258 => ?_)
          · skip
            have hF : Z = false := by
              rw [← hz]
              cases o with
              | none => exact absurd rfl h258
              | some t => cases b <;> rfl
            refine ZV_iconst (v := nI 0) (n := 272) dX12_equal_271 rfl rfl ?_
            refine ZV_iret dX12_equal_272 rfl ?_
            first | exact zleaf (v := sOk T (bI Z)) rfl (by rw [hF]; rfl) (rR_s0 hR hsu) | exact zleaf (v := sOk T (bI Z)) rfl (by rw [hT]; rfl) (rR_s0 hR hsu)
          · skip
            have hn : o = none := (oI_m1 (fun t q => by have := ob t q; omega)).mp h258
            refine ZV_iload (n := 263) dX12_equal_261 rfl rfl ?_
            refine ZV_iconst (v := -1) (n := 264) dX12_equal_263 rfl rfl ?_
            refine ZV_icmp_ne (tgt := 271) (n := 267) dX12_equal_264 (by decide) rfl (fun h264 => ?_) (fun h264 => ?_)
            · skip
              have hF : Z = false := by
                rw [← hz]
                cases p with
                | none => exact absurd rfl h264
                | some t => cases b <;> cases o <;> rfl
              refine ZV_iconst (v := nI 0) (n := 272) dX12_equal_271 rfl rfl ?_
              refine ZV_iret dX12_equal_272 rfl ?_
              first | exact zleaf (v := sOk T (bI Z)) rfl (by rw [hF]; rfl) (rR_s0 hR hsu) | exact zleaf (v := sOk T (bI Z)) rfl (by rw [hT]; rfl) (rR_s0 hR hsu)
            · skip
              have hn2 : p = none := (oI_m1 (fun t q => by have := pb t q; omega)).mp h264
              have hT : Z = true := by rw [← hz, h252, hn, hn2]; rfl
              refine ZV_iconst (v := nI 1) (n := 268) dX12_equal_267 rfl rfl ?_
              refine ZV_goto (tgt := 272) dX12_equal_268 (by decide) ?_
              refine ZV_iret dX12_equal_272 rfl ?_
              first | exact zleaf (v := sOk T (bI Z)) rfl (by rw [hF]; rfl) (rR_s0 hR hsu) | exact zleaf (v := sOk T (bI Z)) rfl (by rw [hT]; rfl) (rR_s0 hR hsu)
      have loopT : ∀ (n9 : Nat) (k : Nat) (b : Bool) (o p : Option Nat), k < n9 → (∀ t, o = some t → t < g_te T ∧ g_tt T t = true) → (∀ t, p = some t → t < g_te T ∧ g_tt T t = true) → 1 ≤ k → (∀ t, o = some t → g_te T + 1 ≤ k + t) → (b && tqF T v w k o p) = Z → ZV M_X12_equal (fun y0 τ0 => y0 = some (Ai (sOk T (bI Z)).1) ∧ rR x τ0 (sOk T (bI Z)).2) 117 [some (Ar (some x)), some (Ai (nI v)), some (Ai (nI w)), some (Ai (bI b)), some (Ai (oI o)), some (Ai (oI p))] [] σ9 (zmC M_X12_equal) (zmS M_X12_equal) := by
        intro n9
        induction n9 with
        | zero => intro k b o p hm; exact absurd hm (Nat.not_lt_zero _)
        | succ n9 ih =>
          intro k b o p hm ob pb hk1 hk2 hz
          refine ZV_iload_n (n := 118) dX12_equal_117 rfl rfl rfl ?_
          refine ZV_if_eqB (tgt := 251) (n := 121) dX12_equal_118 (by decide) rfl (fun h118 => ?_) (fun h118 => ?_)
          · skip
            exact tail _ _ _ ob pb (by rw [← hz, h118]; rfl)
          · skip
            refine ZV_iload (n := 123) dX12_equal_121 rfl rfl ?_
            refine ZV_iconst (v := -1) (n := 124) dX12_equal_123 rfl rfl ?_
            refine ZV_icmp_eq (tgt := 251) (n := 127) dX12_equal_124 (by decide) rfl (fun h124 => ?_) (fun h124 => ?_)
            · skip
              have hn : o = none := (oI_m1 (fun t q => by have := ob t q; omega)).mp h124
              exact tail _ _ _ ob pb (by rw [hn, ← hz, h118, hn, Bool.true_and]; obtain ⟨k, rfl⟩ : ∃ z, k = z + 1 := ⟨k - 1, by omega⟩; cases p <;> rfl)
            · skip
              obtain ⟨t, rfl⟩ : ∃ z, o = some z := by
                cases o with
                | none => exact absurd rfl h124
                | some z => exact ⟨z, rfl⟩
              have htb := ob t rfl
              have htp := ti_tp hI t htb.1 htb.2
              have htq := (ti_pl hI _ htp.1 htp.2.2.1).1
              have htr := (ti_pl hI _ htp.2.1 htp.2.2.2.1).1
              have htm := ti_mn hI (g_vo T (g_tf T t))
              have htn := ti_mn hI (g_vo T (g_tl T t))
              have htx := ti_tn hI t htb.1
              have hty := ti_tm hI t htb.1
              have htz := ti_tu hI t htb.1
              have hts : szT T t = g_pl T (g_tl T t) - g_pl T (g_tf T t) + 1 := rfl
              have hkt := hk2 t rfl
              obtain ⟨k, rfl⟩ : ∃ z, k = z + 1 := ⟨k - 1, by omega⟩
              refine ZV_iload (n := 129) dX12_equal_127 rfl rfl ?_
              refine ZV_iconst (v := -1) (n := 130) dX12_equal_129 rfl rfl ?_
              refine ZV_icmp_eq (tgt := 251) (n := 133) dX12_equal_130 (by decide) rfl (fun h130 => ?_) (fun h130 => ?_)
              · skip
                have hn : p = none := (oI_m1 (fun t q => by have := pb t q; omega)).mp h130
                exact tail _ _ _ (fun t q => by cases q; exact htb) pb (by rw [hn, ← hz, h118, hn, Bool.true_and]; obtain ⟨k, rfl⟩ : ∃ z, k = z + 1 := ⟨k - 1, by omega⟩; rfl)
              · skip
                obtain ⟨u, rfl⟩ : ∃ z, p = some z := by
                  cases p with
                  | none => exact absurd rfl h130
                  | some z => exact ⟨z, rfl⟩
                have hub := pb u rfl
                have hup := ti_tp hI u hub.1 hub.2
                have huq := (ti_pl hI _ hup.1 hup.2.2.1).1
                have hur := (ti_pl hI _ hup.2.1 hup.2.2.2.1).1
                have hum := ti_mn hI (g_vo T (g_tf T u))
                have hun := ti_mn hI (g_vo T (g_tl T u))
                have hux := ti_tn hI u hub.1
                have huy := ti_tm hI u hub.1
                have huz := ti_tu hI u hub.1
                have hus : szT T u = g_pl T (g_tl T u) - g_pl T (g_tf T u) + 1 := rfl
                rw [show oI (some t) = nI t from rfl, show oI (some u) = nI u from rfl]
                refine ZV_aload_n (n := 134) dX12_equal_133 rfl rfl rfl ?_
                refine ZV_aload_n (n := 135) dX12_equal_134 rfl rfl rfl ?_
                refine ZV_getR (n := 138) dX12_equal_135 fl_X12_54 rfl rfl rfl (rf_sh hR :).1 ?_
                refine ZV_iload (n := 140) dX12_equal_138 rfl rfl ?_
                refine ZV_ialdv (n := 141) dX12_equal_140 rfl (ra_tupletFirst (rf_sh hR :) :) (rk_tupletFirst (rf_sh hR :) :) rfl (by omega) (rf_tupletFirst hR _ (by omega)) ?_
                refine call_X12_196 (c_placeOf hR hI _ htp.1 htp.2.2.1) rfl dX12_equal_141 rfl (rf_sh hR :).1 (Nat.le_of_ble_eq_true rfl) (Nat.le_of_ble_eq_true rfl) rfl (fun r9 σ9 hp9 => ?_)
                obtain ⟨rfl, hs9⟩ := hp9
                subst σ9
                refine ZV_aload_n (n := 145) dX12_equal_144 rfl rfl rfl ?_
                refine ZV_aload_n (n := 146) dX12_equal_145 rfl rfl rfl ?_
                refine ZV_getR (n := 149) dX12_equal_146 fl_X12_54 rfl rfl rfl (rf_sh hR :).1 ?_
                refine ZV_iload (n := 151) dX12_equal_149 rfl rfl ?_
                refine ZV_ialdv (n := 152) dX12_equal_151 rfl (ra_tupletFirst (rf_sh hR :) :) (rk_tupletFirst (rf_sh hR :) :) rfl (by omega) (rf_tupletFirst hR _ (by omega)) ?_
                refine call_X12_196 (c_placeOf hR hI _ hup.1 hup.2.2.1) rfl dX12_equal_152 rfl (rf_sh hR :).1 (Nat.le_of_ble_eq_true rfl) (Nat.le_of_ble_eq_true rfl) rfl (fun r9 σ9 hp9 => ?_)
                obtain ⟨rfl, hs9⟩ := hp9
                subst σ9
                refine ZV_icmp_neN (tgt := 228) (n := 158) dX12_equal_155 (by decide) rfl (by omega) (by omega) (fun h155 => ?_) (fun h155 => ?_)
                · skip
                  refine ZV_iconst (v := nI 0) (n := 229) dX12_equal_228 rfl rfl ?_
                  refine ZV_topi (w := bI (tlB T t u)) (by first | (rw [show tlB T t u = true from decide_eq_true ⟨h155, h170, h187, h204, h221⟩]; rfl) | (rw [show tlB T t u = false from decide_eq_false (fun z => by first | exact h155 z.1 | exact h170 z.2.1 | exact h187 z.2.2.1 | exact h204 z.2.2.2.1 | exact h221 z.2.2.2.2)]; rfl)) ?_
                  refine ZV_istore_3 (n := 230) dX12_equal_229 rfl (Nat.le_of_ble_eq_true rfl) rfl ?_
                  refine ZV_aload_n (n := 231) dX12_equal_230 rfl rfl rfl ?_
                  refine ZV_iload_n (n := 232) dX12_equal_231 rfl rfl rfl ?_
                  refine ZV_iload (n := 234) dX12_equal_232 rfl rfl ?_
                  refine call_X12_315 (c_nextOf hR hI v (by omega) _ (t + 1) (oIs t) (by omega)) rfl dX12_equal_234 rfl (rf_sh hR :).1 (Nat.le_of_ble_eq_true rfl) (Nat.le_of_ble_eq_true rfl) rfl (fun r9 σ9 hp9 => ?_)
                  obtain ⟨rfl, hs9⟩ := hp9
                  subst σ9
                  refine ZV_istore_4 (n := 239) dX12_equal_237 rfl (Nat.le_of_ble_eq_true rfl) rfl ?_
                  refine ZV_aload_n (n := 240) dX12_equal_239 rfl rfl rfl ?_
                  refine ZV_iload_n (n := 241) dX12_equal_240 rfl rfl rfl ?_
                  refine ZV_iload (n := 243) dX12_equal_241 rfl rfl ?_
                  refine call_X12_315 (c_nextOf hR hI w (by omega) _ (u + 1) (oIs u) (by omega)) rfl dX12_equal_243 rfl (rf_sh hR :).1 (Nat.le_of_ble_eq_true rfl) (Nat.le_of_ble_eq_true rfl) rfl (fun r9 σ9 hp9 => ?_)
                  obtain ⟨rfl, hs9⟩ := hp9
                  subst σ9
                  refine ZV_istore_5 (n := 248) dX12_equal_246 rfl (Nat.le_of_ble_eq_true rfl) rfl ?_
                  refine ZV_goto (tgt := 117) dX12_equal_248 (by decide) ?_
                  exact ih k _ _ _ (by omega) (fun z q => ⟨(nuT_some q).2.1, (nuT_some q).2.2.1⟩) (fun z q => ⟨(nuT_some q).2.1, (nuT_some q).2.2.1⟩) (by omega) (fun z q => by have := (nuT_some q).1; omega) (by rw [← hz, h118, Bool.true_and, tqF])
                · skip
                  refine ZV_aload_n (n := 159) dX12_equal_158 rfl rfl rfl ?_
                  refine ZV_iload (n := 161) dX12_equal_159 rfl rfl ?_
                  refine call_X12_275 (c_sizeOf hR hI _ htb.1 htb.2) rfl dX12_equal_161 rfl (rf_sh hR :).1 (Nat.le_of_ble_eq_true rfl) (Nat.le_of_ble_eq_true rfl) rfl (fun r9 σ9 hp9 => ?_)
                  obtain ⟨rfl, hs9⟩ := hp9
                  subst σ9
                  refine ZV_aload_n (n := 165) dX12_equal_164 rfl rfl rfl ?_
                  refine ZV_iload (n := 167) dX12_equal_165 rfl rfl ?_
                  refine call_X12_275 (c_sizeOf hR hI _ hub.1 hub.2) rfl dX12_equal_167 rfl (rf_sh hR :).1 (Nat.le_of_ble_eq_true rfl) (Nat.le_of_ble_eq_true rfl) rfl (fun r9 σ9 hp9 => ?_)
                  obtain ⟨rfl, hs9⟩ := hp9
                  subst σ9
                  refine ZV_icmp_neN (tgt := 228) (n := 173) dX12_equal_170 (by decide) rfl (by omega) (by omega) (fun h170 => ?_) (fun h170 => ?_)
                  · skip
                    refine ZV_iconst (v := nI 0) (n := 229) dX12_equal_228 rfl rfl ?_
                    refine ZV_topi (w := bI (tlB T t u)) (by first | (rw [show tlB T t u = true from decide_eq_true ⟨h155, h170, h187, h204, h221⟩]; rfl) | (rw [show tlB T t u = false from decide_eq_false (fun z => by first | exact h155 z.1 | exact h170 z.2.1 | exact h187 z.2.2.1 | exact h204 z.2.2.2.1 | exact h221 z.2.2.2.2)]; rfl)) ?_
                    refine ZV_istore_3 (n := 230) dX12_equal_229 rfl (Nat.le_of_ble_eq_true rfl) rfl ?_
                    refine ZV_aload_n (n := 231) dX12_equal_230 rfl rfl rfl ?_
                    refine ZV_iload_n (n := 232) dX12_equal_231 rfl rfl rfl ?_
                    refine ZV_iload (n := 234) dX12_equal_232 rfl rfl ?_
                    refine call_X12_315 (c_nextOf hR hI v (by omega) _ (t + 1) (oIs t) (by omega)) rfl dX12_equal_234 rfl (rf_sh hR :).1 (Nat.le_of_ble_eq_true rfl) (Nat.le_of_ble_eq_true rfl) rfl (fun r9 σ9 hp9 => ?_)
                    obtain ⟨rfl, hs9⟩ := hp9
                    subst σ9
                    refine ZV_istore_4 (n := 239) dX12_equal_237 rfl (Nat.le_of_ble_eq_true rfl) rfl ?_
                    refine ZV_aload_n (n := 240) dX12_equal_239 rfl rfl rfl ?_
                    refine ZV_iload_n (n := 241) dX12_equal_240 rfl rfl rfl ?_
                    refine ZV_iload (n := 243) dX12_equal_241 rfl rfl ?_
                    refine call_X12_315 (c_nextOf hR hI w (by omega) _ (u + 1) (oIs u) (by omega)) rfl dX12_equal_243 rfl (rf_sh hR :).1 (Nat.le_of_ble_eq_true rfl) (Nat.le_of_ble_eq_true rfl) rfl (fun r9 σ9 hp9 => ?_)
                    obtain ⟨rfl, hs9⟩ := hp9
                    subst σ9
                    refine ZV_istore_5 (n := 248) dX12_equal_246 rfl (Nat.le_of_ble_eq_true rfl) rfl ?_
                    refine ZV_goto (tgt := 117) dX12_equal_248 (by decide) ?_
                    exact ih k _ _ _ (by omega) (fun z q => ⟨(nuT_some q).2.1, (nuT_some q).2.2.1⟩) (fun z q => ⟨(nuT_some q).2.1, (nuT_some q).2.2.1⟩) (by omega) (fun z q => by have := (nuT_some q).1; omega) (by rw [← hz, h118, Bool.true_and, tqF])
                  · skip
                    refine ZV_aload_n (n := 174) dX12_equal_173 rfl rfl rfl ?_
                    refine ZV_getR (n := 177) dX12_equal_174 fl_X12_60 rfl rfl rfl (rf_sh hR :).1 ?_
                    refine ZV_iload (n := 179) dX12_equal_177 rfl rfl ?_
                    refine ZV_ialdv (n := 180) dX12_equal_179 rfl (ra_tupletN (rf_sh hR :) :) (rk_tupletN (rf_sh hR :) :) rfl (by omega) (rf_tupletN hR _ (by omega)) ?_
                    refine ZV_aload_n (n := 181) dX12_equal_180 rfl rfl rfl ?_
                    refine ZV_getR (n := 184) dX12_equal_181 fl_X12_60 rfl rfl rfl (rf_sh hR :).1 ?_
                    refine ZV_iload (n := 186) dX12_equal_184 rfl rfl ?_
                    refine ZV_ialdv (n := 187) dX12_equal_186 rfl (ra_tupletN (rf_sh hR :) :) (rk_tupletN (rf_sh hR :) :) rfl (by omega) (rf_tupletN hR _ (by omega)) ?_
                    refine ZV_icmp_neN (tgt := 228) (n := 190) dX12_equal_187 (by decide) rfl (by omega) (by omega) (fun h187 => ?_) (fun h187 => ?_)
                    · skip
                      refine ZV_iconst (v := nI 0) (n := 229) dX12_equal_228 rfl rfl ?_
                      refine ZV_topi (w := bI (tlB T t u)) (by first | (rw [show tlB T t u = true from decide_eq_true ⟨h155, h170, h187, h204, h221⟩]; rfl) | (rw [show tlB T t u = false from decide_eq_false (fun z => by first | exact h155 z.1 | exact h170 z.2.1 | exact h187 z.2.2.1 | exact h204 z.2.2.2.1 | exact h221 z.2.2.2.2)]; rfl)) ?_
                      refine ZV_istore_3 (n := 230) dX12_equal_229 rfl (Nat.le_of_ble_eq_true rfl) rfl ?_
                      refine ZV_aload_n (n := 231) dX12_equal_230 rfl rfl rfl ?_
                      refine ZV_iload_n (n := 232) dX12_equal_231 rfl rfl rfl ?_
                      refine ZV_iload (n := 234) dX12_equal_232 rfl rfl ?_
                      refine call_X12_315 (c_nextOf hR hI v (by omega) _ (t + 1) (oIs t) (by omega)) rfl dX12_equal_234 rfl (rf_sh hR :).1 (Nat.le_of_ble_eq_true rfl) (Nat.le_of_ble_eq_true rfl) rfl (fun r9 σ9 hp9 => ?_)
                      obtain ⟨rfl, hs9⟩ := hp9
                      subst σ9
                      refine ZV_istore_4 (n := 239) dX12_equal_237 rfl (Nat.le_of_ble_eq_true rfl) rfl ?_
                      refine ZV_aload_n (n := 240) dX12_equal_239 rfl rfl rfl ?_
                      refine ZV_iload_n (n := 241) dX12_equal_240 rfl rfl rfl ?_
                      refine ZV_iload (n := 243) dX12_equal_241 rfl rfl ?_
                      refine call_X12_315 (c_nextOf hR hI w (by omega) _ (u + 1) (oIs u) (by omega)) rfl dX12_equal_243 rfl (rf_sh hR :).1 (Nat.le_of_ble_eq_true rfl) (Nat.le_of_ble_eq_true rfl) rfl (fun r9 σ9 hp9 => ?_)
                      obtain ⟨rfl, hs9⟩ := hp9
                      subst σ9
                      refine ZV_istore_5 (n := 248) dX12_equal_246 rfl (Nat.le_of_ble_eq_true rfl) rfl ?_
                      refine ZV_goto (tgt := 117) dX12_equal_248 (by decide) ?_
                      exact ih k _ _ _ (by omega) (fun z q => ⟨(nuT_some q).2.1, (nuT_some q).2.2.1⟩) (fun z q => ⟨(nuT_some q).2.1, (nuT_some q).2.2.1⟩) (by omega) (fun z q => by have := (nuT_some q).1; omega) (by rw [← hz, h118, Bool.true_and, tqF])
                    · skip
                      refine ZV_aload_n (n := 191) dX12_equal_190 rfl rfl rfl ?_
                      refine ZV_getR (n := 194) dX12_equal_191 fl_X12_63 rfl rfl rfl (rf_sh hR :).1 ?_
                      refine ZV_iload (n := 196) dX12_equal_194 rfl rfl ?_
                      refine ZV_ialdv (n := 197) dX12_equal_196 rfl (ra_tupletM (rf_sh hR :) :) (rk_tupletM (rf_sh hR :) :) rfl (by omega) (rf_tupletM hR _ (by omega)) ?_
                      refine ZV_aload_n (n := 198) dX12_equal_197 rfl rfl rfl ?_
                      refine ZV_getR (n := 201) dX12_equal_198 fl_X12_63 rfl rfl rfl (rf_sh hR :).1 ?_
                      refine ZV_iload (n := 203) dX12_equal_201 rfl rfl ?_
                      refine ZV_ialdv (n := 204) dX12_equal_203 rfl (ra_tupletM (rf_sh hR :) :) (rk_tupletM (rf_sh hR :) :) rfl (by omega) (rf_tupletM hR _ (by omega)) ?_
                      refine ZV_icmp_neN (tgt := 228) (n := 207) dX12_equal_204 (by decide) rfl (by omega) (by omega) (fun h204 => ?_) (fun h204 => ?_)
                      · skip
                        refine ZV_iconst (v := nI 0) (n := 229) dX12_equal_228 rfl rfl ?_
                        refine ZV_topi (w := bI (tlB T t u)) (by first | (rw [show tlB T t u = true from decide_eq_true ⟨h155, h170, h187, h204, h221⟩]; rfl) | (rw [show tlB T t u = false from decide_eq_false (fun z => by first | exact h155 z.1 | exact h170 z.2.1 | exact h187 z.2.2.1 | exact h204 z.2.2.2.1 | exact h221 z.2.2.2.2)]; rfl)) ?_
                        refine ZV_istore_3 (n := 230) dX12_equal_229 rfl (Nat.le_of_ble_eq_true rfl) rfl ?_
                        refine ZV_aload_n (n := 231) dX12_equal_230 rfl rfl rfl ?_
                        refine ZV_iload_n (n := 232) dX12_equal_231 rfl rfl rfl ?_
                        refine ZV_iload (n := 234) dX12_equal_232 rfl rfl ?_
                        refine call_X12_315 (c_nextOf hR hI v (by omega) _ (t + 1) (oIs t) (by omega)) rfl dX12_equal_234 rfl (rf_sh hR :).1 (Nat.le_of_ble_eq_true rfl) (Nat.le_of_ble_eq_true rfl) rfl (fun r9 σ9 hp9 => ?_)
                        obtain ⟨rfl, hs9⟩ := hp9
                        subst σ9
                        refine ZV_istore_4 (n := 239) dX12_equal_237 rfl (Nat.le_of_ble_eq_true rfl) rfl ?_
                        refine ZV_aload_n (n := 240) dX12_equal_239 rfl rfl rfl ?_
                        refine ZV_iload_n (n := 241) dX12_equal_240 rfl rfl rfl ?_
                        refine ZV_iload (n := 243) dX12_equal_241 rfl rfl ?_
                        refine call_X12_315 (c_nextOf hR hI w (by omega) _ (u + 1) (oIs u) (by omega)) rfl dX12_equal_243 rfl (rf_sh hR :).1 (Nat.le_of_ble_eq_true rfl) (Nat.le_of_ble_eq_true rfl) rfl (fun r9 σ9 hp9 => ?_)
                        obtain ⟨rfl, hs9⟩ := hp9
                        subst σ9
                        refine ZV_istore_5 (n := 248) dX12_equal_246 rfl (Nat.le_of_ble_eq_true rfl) rfl ?_
                        refine ZV_goto (tgt := 117) dX12_equal_248 (by decide) ?_
                        exact ih k _ _ _ (by omega) (fun z q => ⟨(nuT_some q).2.1, (nuT_some q).2.2.1⟩) (fun z q => ⟨(nuT_some q).2.1, (nuT_some q).2.2.1⟩) (by omega) (fun z q => by have := (nuT_some q).1; omega) (by rw [← hz, h118, Bool.true_and, tqF])
                      · skip
                        refine ZV_aload_n (n := 208) dX12_equal_207 rfl rfl rfl ?_
                        refine ZV_getR (n := 211) dX12_equal_208 fl_X12_66 rfl rfl rfl (rf_sh hR :).1 ?_
                        refine ZV_iload (n := 213) dX12_equal_211 rfl rfl ?_
                        refine ZV_ialdv (n := 214) dX12_equal_213 rfl (ra_tupletUnit (rf_sh hR :) :) (rk_tupletUnit (rf_sh hR :) :) rfl (by omega) (rf_tupletUnit hR _ (by omega)) ?_
                        refine ZV_aload_n (n := 215) dX12_equal_214 rfl rfl rfl ?_
                        refine ZV_getR (n := 218) dX12_equal_215 fl_X12_66 rfl rfl rfl (rf_sh hR :).1 ?_
                        refine ZV_iload (n := 220) dX12_equal_218 rfl rfl ?_
                        refine ZV_ialdv (n := 221) dX12_equal_220 rfl (ra_tupletUnit (rf_sh hR :) :) (rk_tupletUnit (rf_sh hR :) :) rfl (by omega) (rf_tupletUnit hR _ (by omega)) ?_
                        refine ZV_icmp_neN (tgt := 228) (n := 224) dX12_equal_221 (by decide) rfl (by omega) (by omega) (fun h221 => ?_) (fun h221 => ?_)
                        · skip
                          refine ZV_iconst (v := nI 0) (n := 229) dX12_equal_228 rfl rfl ?_
                          refine ZV_topi (w := bI (tlB T t u)) (by first | (rw [show tlB T t u = true from decide_eq_true ⟨h155, h170, h187, h204, h221⟩]; rfl) | (rw [show tlB T t u = false from decide_eq_false (fun z => by first | exact h155 z.1 | exact h170 z.2.1 | exact h187 z.2.2.1 | exact h204 z.2.2.2.1 | exact h221 z.2.2.2.2)]; rfl)) ?_
                          refine ZV_istore_3 (n := 230) dX12_equal_229 rfl (Nat.le_of_ble_eq_true rfl) rfl ?_
                          refine ZV_aload_n (n := 231) dX12_equal_230 rfl rfl rfl ?_
                          refine ZV_iload_n (n := 232) dX12_equal_231 rfl rfl rfl ?_
                          refine ZV_iload (n := 234) dX12_equal_232 rfl rfl ?_
                          refine call_X12_315 (c_nextOf hR hI v (by omega) _ (t + 1) (oIs t) (by omega)) rfl dX12_equal_234 rfl (rf_sh hR :).1 (Nat.le_of_ble_eq_true rfl) (Nat.le_of_ble_eq_true rfl) rfl (fun r9 σ9 hp9 => ?_)
                          obtain ⟨rfl, hs9⟩ := hp9
                          subst σ9
                          refine ZV_istore_4 (n := 239) dX12_equal_237 rfl (Nat.le_of_ble_eq_true rfl) rfl ?_
                          refine ZV_aload_n (n := 240) dX12_equal_239 rfl rfl rfl ?_
                          refine ZV_iload_n (n := 241) dX12_equal_240 rfl rfl rfl ?_
                          refine ZV_iload (n := 243) dX12_equal_241 rfl rfl ?_
                          refine call_X12_315 (c_nextOf hR hI w (by omega) _ (u + 1) (oIs u) (by omega)) rfl dX12_equal_243 rfl (rf_sh hR :).1 (Nat.le_of_ble_eq_true rfl) (Nat.le_of_ble_eq_true rfl) rfl (fun r9 σ9 hp9 => ?_)
                          obtain ⟨rfl, hs9⟩ := hp9
                          subst σ9
                          refine ZV_istore_5 (n := 248) dX12_equal_246 rfl (Nat.le_of_ble_eq_true rfl) rfl ?_
                          refine ZV_goto (tgt := 117) dX12_equal_248 (by decide) ?_
                          exact ih k _ _ _ (by omega) (fun z q => ⟨(nuT_some q).2.1, (nuT_some q).2.2.1⟩) (fun z q => ⟨(nuT_some q).2.1, (nuT_some q).2.2.1⟩) (by omega) (fun z q => by have := (nuT_some q).1; omega) (by rw [← hz, h118, Bool.true_and, tqF])
                        · skip
                          refine ZV_iconst (v := nI 1) (n := 225) dX12_equal_224 rfl rfl ?_
                          refine ZV_goto (tgt := 229) dX12_equal_225 (by decide) ?_
                          refine ZV_topi (w := bI (tlB T t u)) (by first | (rw [show tlB T t u = true from decide_eq_true ⟨h155, h170, h187, h204, h221⟩]; rfl) | (rw [show tlB T t u = false from decide_eq_false (fun z => by first | exact h155 z.1 | exact h170 z.2.1 | exact h187 z.2.2.1 | exact h204 z.2.2.2.1 | exact h221 z.2.2.2.2)]; rfl)) ?_
                          refine ZV_istore_3 (n := 230) dX12_equal_229 rfl (Nat.le_of_ble_eq_true rfl) rfl ?_
                          refine ZV_aload_n (n := 231) dX12_equal_230 rfl rfl rfl ?_
                          refine ZV_iload_n (n := 232) dX12_equal_231 rfl rfl rfl ?_
                          refine ZV_iload (n := 234) dX12_equal_232 rfl rfl ?_
                          refine call_X12_315 (c_nextOf hR hI v (by omega) _ (t + 1) (oIs t) (by omega)) rfl dX12_equal_234 rfl (rf_sh hR :).1 (Nat.le_of_ble_eq_true rfl) (Nat.le_of_ble_eq_true rfl) rfl (fun r9 σ9 hp9 => ?_)
                          obtain ⟨rfl, hs9⟩ := hp9
                          subst σ9
                          refine ZV_istore_4 (n := 239) dX12_equal_237 rfl (Nat.le_of_ble_eq_true rfl) rfl ?_
                          refine ZV_aload_n (n := 240) dX12_equal_239 rfl rfl rfl ?_
                          refine ZV_iload_n (n := 241) dX12_equal_240 rfl rfl rfl ?_
                          refine ZV_iload (n := 243) dX12_equal_241 rfl rfl ?_
                          refine call_X12_315 (c_nextOf hR hI w (by omega) _ (u + 1) (oIs u) (by omega)) rfl dX12_equal_243 rfl (rf_sh hR :).1 (Nat.le_of_ble_eq_true rfl) (Nat.le_of_ble_eq_true rfl) rfl (fun r9 σ9 hp9 => ?_)
                          obtain ⟨rfl, hs9⟩ := hp9
                          subst σ9
                          refine ZV_istore_5 (n := 248) dX12_equal_246 rfl (Nat.le_of_ble_eq_true rfl) rfl ?_
                          refine ZV_goto (tgt := 117) dX12_equal_248 (by decide) ?_
                          exact ih k _ _ _ (by omega) (fun z q => ⟨(nuT_some q).2.1, (nuT_some q).2.2.1⟩) (fun z q => ⟨(nuT_some q).2.1, (nuT_some q).2.2.1⟩) (by omega) (fun z q => by have := (nuT_some q).1; omega) (by rw [← hz, h118, Bool.true_and, tqF])
      have eqf : ∀ {i}, (decide (g_mn T v = g_mn T w) && eqN T v w i) = false → i ≤ g_mn T v → eqB T v w = false := by
        intro i hq hi
        unfold eqB
        cases hc : decide (g_mn T v = g_mn T w) with
        | false => rfl
        | true =>
          rw [hc, Bool.true_and] at hq
          have hx := eqN_f (g_mn T v - i) hq
          rw [show i + (g_mn T v - i) = g_mn T v by omega] at hx
          rw [hx]
          rfl
      have loop : ∀ (n9 : Nat) (i : Nat) (b : Bool), g_mn T v - i < n9 → i ≤ g_mn T v → b = (decide (g_mn T v = g_mn T w) && eqN T v w i) → ZV M_X12_equal (fun y0 τ0 => y0 = some (Ai (sOk T (bI Z)).1) ∧ rR x τ0 (sOk T (bI Z)).2) 51 [some (Ar (some x)), some (Ai (nI v)), some (Ai (nI w)), some (Ai (bI b)), some (Ai (nI i)), none] [] σ9 (zmC M_X12_equal) (zmS M_X12_equal) := by
        intro n9
        induction n9 with
        | zero => intro i b hm; exact absurd hm (Nat.not_lt_zero _)
        | succ n9 ih =>
          intro i b hm hi hb
          refine ZV_iload (n := 53) dX12_equal_51 rfl rfl ?_
          refine ZV_aload_n (n := 54) dX12_equal_53 rfl rfl rfl ?_
          refine ZV_getR (n := 57) dX12_equal_54 fl_X12_45 rfl rfl rfl (rf_sh hR :).1 ?_
          refine ZV_iload_n (n := 58) dX12_equal_57 rfl rfl rfl ?_
          refine ZV_ialdv (n := 59) dX12_equal_58 rfl (ra_many (rf_sh hR :) :) (rk_many (rf_sh hR :) :) rfl (by omega) (rf_many hR _ (by omega)) ?_
          refine ZV_icmp_geN (tgt := 101) (n := 62) dX12_equal_59 (by decide) rfl (by omega) (by omega) (fun h59 => ?_) (fun h59 => ?_)
          · skip
            refine ZV_aload_n (n := 102) dX12_equal_101 rfl rfl rfl ?_
            refine ZV_iload_n (n := 103) dX12_equal_102 rfl rfl rfl ?_
            refine ZV_iconst (v := -1) (n := 104) dX12_equal_103 rfl rfl ?_
            refine call_X12_315 (c_nextOf hR hI v (by omega) _ 0 oI0 (by omega)) rfl dX12_equal_104 rfl (rf_sh hR :).1 (Nat.le_of_ble_eq_true rfl) (Nat.le_of_ble_eq_true rfl) rfl (fun r9 σ9 hp9 => ?_)
            obtain ⟨rfl, hs9⟩ := hp9
            subst σ9
            refine ZV_istore_4 (n := 109) dX12_equal_107 rfl (Nat.le_of_ble_eq_true rfl) rfl ?_
            refine ZV_aload_n (n := 110) dX12_equal_109 rfl rfl rfl ?_
            refine ZV_iload_n (n := 111) dX12_equal_110 rfl rfl rfl ?_
            refine ZV_iconst (v := -1) (n := 112) dX12_equal_111 rfl rfl ?_
            refine call_X12_315 (c_nextOf hR hI w (by omega) _ 0 oI0 (by omega)) rfl dX12_equal_112 rfl (rf_sh hR :).1 (Nat.le_of_ble_eq_true rfl) (Nat.le_of_ble_eq_true rfl) rfl (fun r9 σ9 hp9 => ?_)
            obtain ⟨rfl, hs9⟩ := hp9
            subst σ9
            refine ZV_istore_5 (n := 117) dX12_equal_115 rfl (Nat.le_of_ble_eq_true rfl) rfl ?_
            exact loopT _ (g_te T + 1) _ _ _ (Nat.lt_succ_self _) (fun z q => ⟨(nuT_some q).2.1, (nuT_some q).2.2.1⟩) (fun z q => ⟨(nuT_some q).2.1, (nuT_some q).2.2.1⟩) (by omega) (fun z q => by omega) (by rw [← hZ0, show b = eqB T v w from by unfold eqB; rw [hb, show i = g_mn T v by omega]])
          · skip
            refine ZV_iload_n (n := 63) dX12_equal_62 rfl rfl rfl ?_
            refine ZV_if_eqB (tgt := 101) (n := 66) dX12_equal_63 (by decide) rfl (fun h63 => ?_) (fun h63 => ?_)
            · skip
              refine ZV_aload_n (n := 102) dX12_equal_101 rfl rfl rfl ?_
              refine ZV_iload_n (n := 103) dX12_equal_102 rfl rfl rfl ?_
              refine ZV_iconst (v := -1) (n := 104) dX12_equal_103 rfl rfl ?_
              refine call_X12_315 (c_nextOf hR hI v (by omega) _ 0 oI0 (by omega)) rfl dX12_equal_104 rfl (rf_sh hR :).1 (Nat.le_of_ble_eq_true rfl) (Nat.le_of_ble_eq_true rfl) rfl (fun r9 σ9 hp9 => ?_)
              obtain ⟨rfl, hs9⟩ := hp9
              subst σ9
              refine ZV_istore_4 (n := 109) dX12_equal_107 rfl (Nat.le_of_ble_eq_true rfl) rfl ?_
              refine ZV_aload_n (n := 110) dX12_equal_109 rfl rfl rfl ?_
              refine ZV_iload_n (n := 111) dX12_equal_110 rfl rfl rfl ?_
              refine ZV_iconst (v := -1) (n := 112) dX12_equal_111 rfl rfl ?_
              refine call_X12_315 (c_nextOf hR hI w (by omega) _ 0 oI0 (by omega)) rfl dX12_equal_112 rfl (rf_sh hR :).1 (Nat.le_of_ble_eq_true rfl) (Nat.le_of_ble_eq_true rfl) rfl (fun r9 σ9 hp9 => ?_)
              obtain ⟨rfl, hs9⟩ := hp9
              subst σ9
              refine ZV_istore_5 (n := 117) dX12_equal_115 rfl (Nat.le_of_ble_eq_true rfl) rfl ?_
              exact loopT _ (g_te T + 1) _ _ _ (Nat.lt_succ_self _) (fun z q => ⟨(nuT_some q).2.1, (nuT_some q).2.2.1⟩) (fun z q => ⟨(nuT_some q).2.1, (nuT_some q).2.2.1⟩) (by omega) (fun z q => by omega) (by rw [← hZ0, show b = eqB T v w from by rw [h63]; exact (eqf (by rw [← hb]; exact h63) hi).symm])
            · skip
              have hmm : g_mn T v = g_mn T w := by
                rw [h63] at hb
                exact of_decide_eq_true (Bool.and_eq_true_iff.mp hb.symm).1
              have hr1 := ti_ro hI v i (by omega) (by omega)
              have hr2 := ti_ro hI w i (by omega) (by omega)
              refine ZV_aload_n (n := 67) dX12_equal_66 rfl rfl rfl ?_
              refine ZV_aload_n (n := 68) dX12_equal_67 rfl rfl rfl ?_
              refine ZV_getR (n := 71) dX12_equal_68 fl_X12_42 rfl rfl rfl (rf_sh hR :).1 ?_
              refine ZV_bipush (v := nI 40) (n := 73) dX12_equal_71 rfl rfl ?_
              refine ZV_iload_n (n := 74) dX12_equal_73 rfl rfl rfl ?_
              refine ZV_imulN (n := 75) dX12_equal_74 rfl ?_
              refine ZV_iload (n := 77) dX12_equal_75 rfl rfl ?_
              refine ZV_iaddN (n := 78) dX12_equal_77 rfl ?_
              refine ZV_ialdv (n := 79) dX12_equal_78 rfl (ra_row (rf_sh hR :) :) (rk_row (rf_sh hR :) :) rfl (by omega) (rf_row hR _ _ (by omega) (by omega)) ?_
              refine ZV_aload_n (n := 80) dX12_equal_79 rfl rfl rfl ?_
              refine ZV_getR (n := 83) dX12_equal_80 fl_X12_42 rfl rfl rfl (rf_sh hR :).1 ?_
              refine ZV_bipush (v := nI 40) (n := 85) dX12_equal_83 rfl rfl ?_
              refine ZV_iload_n (n := 86) dX12_equal_85 rfl rfl rfl ?_
              refine ZV_imulN (n := 87) dX12_equal_86 rfl ?_
              refine ZV_iload (n := 89) dX12_equal_87 rfl rfl ?_
              refine ZV_iaddN (n := 90) dX12_equal_89 rfl ?_
              refine ZV_ialdv (n := 91) dX12_equal_90 rfl (ra_row (rf_sh hR :) :) (rk_row (rf_sh hR :) :) rfl (by omega) (rf_row hR _ _ (by omega) (by omega)) ?_
              refine call_X12_312 (c_areAlike hR hI _ _ hr1.1 hr2.1) rfl dX12_equal_91 rfl (rf_sh hR :).1 (Nat.le_of_ble_eq_true rfl) (Nat.le_of_ble_eq_true rfl) rfl (fun r9 σ9 hp9 => ?_)
              obtain ⟨rfl, hs9⟩ := hp9
              subst σ9
              refine ZV_istore_3 (n := 95) dX12_equal_94 rfl (Nat.le_of_ble_eq_true rfl) rfl ?_
              refine ZV_iincN_4 (v := 1) (n := 98) dX12_equal_95 rfl rfl (Nat.le_of_ble_eq_true rfl) rfl ?_
              refine ZV_goto (tgt := 51) dX12_equal_98 (by decide) ?_
              exact ih (i + 1) _ (by omega) (by omega) (by rw [eqN, ← Bool.and_assoc, ← hb, h63, Bool.true_and])
      refine ZV_aload_n (n := 28) dX12_equal_27 rfl rfl rfl ?_
      refine ZV_getR (n := 31) dX12_equal_28 fl_X12_45 rfl rfl rfl (rf_sh hR :).1 ?_
      refine ZV_iload_n (n := 32) dX12_equal_31 rfl rfl rfl ?_
      refine ZV_ialdv (n := 33) dX12_equal_32 rfl (ra_many (rf_sh hR :) :) (rk_many (rf_sh hR :) :) rfl (by omega) (rf_many hR _ (by omega)) ?_
      refine ZV_aload_n (n := 34) dX12_equal_33 rfl rfl rfl ?_
      refine ZV_getR (n := 37) dX12_equal_34 fl_X12_45 rfl rfl rfl (rf_sh hR :).1 ?_
      refine ZV_iload_n (n := 38) dX12_equal_37 rfl rfl rfl ?_
      refine ZV_ialdv (n := 39) dX12_equal_38 rfl (ra_many (rf_sh hR :) :) (rk_many (rf_sh hR :) :) rfl (by omega) (rf_many hR _ (by omega)) ?_
      refine ZV_icmp_neN (tgt := 46) (n := 42) dX12_equal_39 (by decide) rfl (by omega) (by omega) (fun h39 => ?_) (fun h39 => ?_)
      · skip
        refine ZV_iconst (v := nI 0) (n := 47) dX12_equal_46 rfl rfl ?_
        refine ZV_topi (w := bI (decide (g_mn T v = g_mn T w))) (by first | (rw [decide_eq_true h39]; rfl) | (rw [decide_eq_false h39]; rfl)) ?_
        refine ZV_istore_3 (n := 48) dX12_equal_47 rfl (Nat.le_of_ble_eq_true rfl) rfl ?_
        refine ZV_iconst (v := nI 0) (n := 49) dX12_equal_48 rfl rfl ?_
        refine ZV_istore_4 (n := 51) dX12_equal_49 rfl (Nat.le_of_ble_eq_true rfl) rfl ?_
        exact loop _ 0 _ (Nat.lt_succ_self _) (Nat.zero_le _) (by rw [eqN, Bool.and_true])
      · skip
        refine ZV_iconst (v := nI 1) (n := 43) dX12_equal_42 rfl rfl ?_
        refine ZV_goto (tgt := 47) dX12_equal_43 (by decide) ?_
        refine ZV_topi (w := bI (decide (g_mn T v = g_mn T w))) (by first | (rw [decide_eq_true h39]; rfl) | (rw [decide_eq_false h39]; rfl)) ?_
        refine ZV_istore_3 (n := 48) dX12_equal_47 rfl (Nat.le_of_ble_eq_true rfl) rfl ?_
        refine ZV_iconst (v := nI 0) (n := 49) dX12_equal_48 rfl rfl ?_
        refine ZV_istore_4 (n := 51) dX12_equal_49 rfl (Nat.le_of_ble_eq_true rfl) rfl ?_
        exact loop _ 0 _ (Nat.lt_succ_self _) (Nat.zero_le _) (by rw [eqN, Bool.and_true])
    · skip
      refine ZV_aload_n (n := 21) dX12_equal_20 rfl rfl rfl ?_
      refine ZV_bipush (v := -2) (n := 23) dX12_equal_21 rfl rfl ?_
      refine call_X12_130 (c_no hR _) rfl dX12_equal_23 rfl (rf_sh hR :).1 (Nat.le_of_ble_eq_true rfl) (Nat.le_of_ble_eq_true rfl) rfl (fun r9 σ9 hp9 => ?_)
      obtain ⟨rfl, hR⟩ := hp9
      refine ZV_iret dX12_equal_26 rfl ?_
      exact zleaf (v := sNo T (-2)) (by simp [sp_equal, h9, h17]) rfl hR
