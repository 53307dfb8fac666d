def plZ (T : TS) (s n e : Nat) : Int := (g_sr T s n).toInt - (g_pv T e 0 : Int)
def plW (T : TS) (s n e : Nat) : Int32 := ((g_sr T s n).toInt64 - lN (g_pv T e 0)).toInt32
theorem pl_toInt {a : Int32} {p : Nat} (hp : p ≤ 127) : (a.toInt64 - lN p).toInt = a.toInt - (p : Int) := by
  have h1 := a.toInt_lt
  have h2 := a.le_toInt
  rw [Int64.toInt_sub, Int32.toInt_toInt64, pk_lT (by omega), Int.bmod_eq_of_le (by omega) (by omega)]
theorem i64_32 {b : Int64} (h : -2147483648 ≤ b.toInt ∧ b.toInt < 2147483648) : b.toInt32.toInt = b.toInt := by
  rw [Int64.toInt_toInt32, Int.bmod_eq_of_le (by omega) (by omega)]
theorem plW_ok {T : TS} (hI : tI T) {s n e : Nat} (he : e < g_ev T) (hk : g_kd T e < 3) (hm : mayB T e (plZ T s n e) = true) : mayB T e (plW T s n e).toInt = true := by
  have hp1 := ti_pn1 hI e he hk
  have h0 := (ti_pi hI e 0 he (by omega)).2
  have h1 := (ti_pi hI e (g_pn T e - 1) he (by omega)).2
  have hz := of_decide_eq_true hm
  have e1 : (plW T s n e).toInt = plZ T s n e := by
    unfold plW
    have e2 := pl_toInt (a := g_sr T s n) h0
    rw [i64_32 (by rw [e2]; unfold plZ at hz; omega), e2]
    rfl
  rw [e1]
  exact hm
def plS (s v : Nat) : Nat → Nat → Nat → TS → Nat × TS × Nat
  | 0, _, n, T => (n, T, 0)
  | k + 1, p, n, T => if noB T (g_ro T v p) = true then (if g_hs T s = false then (n, T, 1) else if n = g_ss T s then (n, T, 2) else if mayB T (g_ro T v p) (plZ T s n (g_ro T v p)) = true then plS s v k (p + 1) (n + 1) (shT T (g_ro T v p) (plW T s n (g_ro T v p))) else (n, T, 2)) else plS s v k (p + 1) n T
def plR (R : Nat × TS × Nat) : Int32 × TS := if R.2.2 = 0 then sOk R.2.1 (nI R.1) else if R.2.2 = 1 then sFl R.2.1 0 (-11) (nI R.1) else sFl R.2.1 1 (-12) (nI R.1)
def sp_play (T : TS) (s v : Int32) : Int32 × TS := if inB s 4 = true ∧ inB v (3 * g_np T) = true then plR (plS s.toNatClampNeg v.toNatClampNeg (g_mn T v.toNatClampNeg) 0 0 (h_su T 0)) else sNo T (-2)
set_option maxHeartbeats 4000000 in
set_option maxRecDepth 100000 in
theorem c_play {x : Nat} {σ : ZS} {T : TS} (hR : rR x σ T) (hI : tI T) (s v : Int32) : ZC M_X12_play [Ar (some x), Ai s, Ai v] σ (fun y0 τ0 => y0 = some (Ai (sp_play T s v).1) ∧ rR x τ0 (sp_play T s v).2) := by
  have hsp : sp_play T s v = sp_play (h_su T 0) s v := rfl
  rw [hsp]
  clear hsp
  refine ZC_of (ls := [some (Ar (some x)), some (Ai s), some (Ai v), none, none, none, none, none]) (by decide) (Nat.le_of_ble_eq_true rfl) rfl ?_
  refine ZV_aload_n (n := 1) dX12_play_0 rfl rfl rfl ?_
  refine call_X12_144 (c_begin hR) rfl dX12_play_1 rfl (rf_sh hR :).1 (Nat.le_of_ble_eq_true rfl) (Nat.le_of_ble_eq_true rfl) rfl (fun r9 σ9 hp9 => ?_)
  obtain ⟨rfl, hR⟩ := hp9
  have hI := tI_su hI 0
  have hsu : g_su (h_su T 0) = 0 := rfl
  generalize h_su T 0 = T at hR hI hsu ⊢
  have hnp := ti_np hI
  refine ZV_iload_n (n := 5) dX12_play_4 rfl rfl rfl ?_
  refine ZV_i2l (n := 6) dX12_play_5 rfl ?_
  refine ZV_lconst (v := lN 0) (n := 7) dX12_play_6 rfl rfl ?_
  refine ZV_ldc2 (v := lN 3) (n := 10) dX12_play_7 wd_5_218 rfl ?_
  refine call_X12_137 (c_inC _ s (by decide)) rfl dX12_play_10 (Nat.le_of_ble_eq_true rfl) (Nat.le_of_ble_eq_true rfl) rfl (fun r9 σ9 hp9 => ?_)
  obtain ⟨rfl, rfl⟩ := hp9
  refine ZV_if_eqB (tgt := 24) (n := 16) dX12_play_13 (by decide) rfl (fun h13 => ?_) (fun h13 => ?_)
  · skip
    refine ZV_aload_n (n := 25) dX12_play_24 rfl rfl rfl ?_
    refine ZV_bipush (v := -2) (n := 27) dX12_play_25 rfl rfl ?_
    refine call_X12_130 (c_no hR _) rfl dX12_play_27 rfl (rf_sh hR :).1 (Nat.le_of_ble_eq_true rfl) (Nat.le_of_ble_eq_true rfl) rfl (fun r9 σ9 hp9 => ?_)
    obtain ⟨rfl, hR⟩ := hp9
    refine ZV_iret dX12_play_30 rfl ?_
    exact zleaf (v := sNo T (-2)) (by simp [sp_play, h13]) rfl hR
  · skip
    refine ZV_aload_n (n := 17) dX12_play_16 rfl rfl rfl ?_
    refine ZV_iload_n (n := 18) dX12_play_17 rfl rfl rfl ?_
    refine call_X12_184 (c_isVoice hR hI _) rfl dX12_play_18 rfl (rf_sh hR :).1 (Nat.le_of_ble_eq_true rfl) (Nat.le_of_ble_eq_true rfl) rfl (fun r9 σ9 hp9 => ?_)
    obtain ⟨rfl, rfl⟩ := hp9
    refine ZV_if_neB (tgt := 31) (n := 24) dX12_play_21 (by decide) rfl (fun h21 => ?_) (fun h21 => ?_)
    · skip
      obtain ⟨s, hs4, hsx, rfl⟩ := inB_t h13
      obtain ⟨v, hv, hvx, rfl⟩ := inB_t h21
      have hs4 : s < 4 := hs4
      have hv18 : v < 18 := by omega
      refine ZV_iconst (v := nI 0) (n := 32) dX12_play_31 rfl rfl ?_
      refine ZV_istore_3 (n := 33) dX12_play_32 rfl (Nat.le_of_ble_eq_true rfl) rfl ?_
      refine ZV_iconst (v := nI 0) (n := 34) dX12_play_33 rfl rfl ?_
      refine ZV_istore_4 (n := 36) dX12_play_34 rfl (Nat.le_of_ble_eq_true rfl) rfl ?_
      have hZ : sp_play T (nI s) (nI v) = plR (plS s v (g_mn T v) 0 0 T) := by simp [sp_play, h13, h21, nI_clamp hsx, nI_clamp hvx, su0 hsu]
      rw [hZ]
      generalize hZ0 : plR (plS s v (g_mn T v) 0 0 T) = Z
      have loop : ∀ (n9 : Nat) (k p n : Nat) (T1 : TS) (τ : ZS), k < n9 → p + k = g_mn T1 v → n ≤ p → n ≤ g_ss T1 s → g_su T1 = 0 → tI T1 → rR x τ T1 → plR (plS s v k p n T1) = Z → ZV M_X12_play (fun y0 τ0 => y0 = some (Ai Z.1) ∧ rR x τ0 Z.2) 36 [some (Ar (some x)), some (Ai (nI s)), some (Ai (nI v)), some (Ai (nI n)), some (Ai (nI p)), none, none, none] [] τ (zmC M_X12_play) (zmS M_X12_play) := by
        intro n9
        induction n9 with
        | zero => intro k p n T1 τ hm; exact absurd hm (Nat.not_lt_zero _)
        | succ n9 ih =>
          intro k p n T1 τ hm hpk hnp2 hns hs1 hI1 hR1 hz
          have hmn := ti_mn hI1 v
          have hev := ti_ev hI1
          have hsk := ti_sk hI1 s hs4
          refine ZV_iload (n := 38) dX12_play_36 rfl rfl ?_
          refine ZV_aload_n (n := 39) dX12_play_38 rfl rfl rfl ?_
          refine ZV_getR (n := 42) dX12_play_39 fl_X12_45 rfl rfl rfl (rf_sh hR1 :).1 ?_
          refine ZV_iload_n (n := 43) dX12_play_42 rfl rfl rfl ?_
          refine ZV_ialdv (n := 44) dX12_play_43 rfl (ra_many (rf_sh hR1 :) :) (rk_many (rf_sh hR1 :) :) rfl (by omega) (rf_many hR1 _ (by omega)) ?_
          refine ZV_icmp_geN (tgt := 180) (n := 47) dX12_play_44 (by decide) rfl (by omega) (by omega) (fun h44 => ?_) (fun h44 => ?_)
          · skip
            obtain rfl : k = 0 := by omega
            refine ZV_iload_n (n := 181) dX12_play_180 rfl rfl rfl ?_
            refine ZV_iret dX12_play_181 rfl ?_
            rw [plS] at hz
            subst hz
            exact ⟨rfl, rR_s0 hR1 hs1⟩
          · skip
            obtain ⟨k, rfl⟩ : ∃ q, k = q + 1 := ⟨k - 1, by omega⟩
            have hro := ti_ro hI1 v p (by omega) (by omega)
            refine ZV_aload_n (n := 48) dX12_play_47 rfl rfl rfl ?_
            refine ZV_getR (n := 51) dX12_play_48 fl_X12_42 rfl rfl rfl (rf_sh hR1 :).1 ?_
            refine ZV_bipush (v := nI 40) (n := 53) dX12_play_51 rfl rfl ?_
            refine ZV_iload_n (n := 54) dX12_play_53 rfl rfl rfl ?_
            refine ZV_imulN (n := 55) dX12_play_54 rfl ?_
            refine ZV_iload (n := 57) dX12_play_55 rfl rfl ?_
            refine ZV_iaddN (n := 58) dX12_play_57 rfl ?_
            refine ZV_ialdv (n := 59) dX12_play_58 rfl (ra_row (rf_sh hR1 :) :) (rk_row (rf_sh hR1 :) :) rfl (by omega) (rf_row hR1 _ _ (by omega) (by omega)) ?_
            refine ZV_istore_5 (n := 61) dX12_play_59 rfl (Nat.le_of_ble_eq_true rfl) rfl ?_
            refine ZV_aload_n (n := 62) dX12_play_61 rfl rfl rfl ?_
            refine ZV_iload (n := 64) dX12_play_62 rfl rfl ?_
            refine call_X12_214 (c_isNote hR1 hI1 _ hro.1) rfl dX12_play_64 rfl (rf_sh hR1 :).1 (Nat.le_of_ble_eq_true rfl) (Nat.le_of_ble_eq_true rfl) rfl (fun r9 σ9 hp9 => ?_)
            obtain ⟨rfl, rfl⟩ := hp9
            refine ZV_if_eqB (tgt := 174) (n := 70) dX12_play_67 (by decide) rfl (fun h67 => ?_) (fun h67 => ?_)
            · skip
              refine ZV_iincN_4 (v := 1) (n := 177) dX12_play_174 rfl rfl (Nat.le_of_ble_eq_true rfl) rfl ?_
              refine ZV_goto (tgt := 36) dX12_play_177 (by decide) ?_
              refine ZV_fg_5 ?_
              refine ZV_fg_6 ?_
              exact ih k (p + 1) n T1 _ (by omega) (by show p + 1 + k = g_mn T1 v; omega) (by omega) hns hs1 hI1 hR1 (by rw [← hz, plS, if_neg (by rw [h67]; decide)])
            · skip
              have hkd : g_kd T1 (g_ro T1 v p) < 3 := of_decide_eq_true h67
              have hpn1 := ti_pn1 hI1 (g_ro T1 v p) hro.1 hkd
              have hp0 := ti_pi hI1 (g_ro T1 v p) 0 hro.1 (by omega)
              refine ZV_aload_n (n := 71) dX12_play_70 rfl rfl rfl ?_
              refine ZV_getR (n := 74) dX12_play_71 fl_X12_102 rfl rfl rfl (rf_sh hR1 :).1 ?_
              refine ZV_iload_n (n := 75) dX12_play_74 rfl rfl rfl ?_
              refine ZV_baldv (n := 76) dX12_play_75 rfl (ra_hasShelf (rf_sh hR1 :) :) (rk_hasShelf (rf_sh hR1 :) :) rfl (by omega) (rf_hasShelf hR1 _ (by omega)) ?_
              refine ZV_if_neB (tgt := 91) (n := 79) dX12_play_76 (by decide) rfl (fun h76 => ?_) (fun h76 => ?_)
              · skip
                refine ZV_iload_n (n := 92) dX12_play_91 rfl rfl rfl ?_
                refine ZV_aload_n (n := 93) dX12_play_92 rfl rfl rfl ?_
                refine ZV_getR (n := 96) dX12_play_93 fl_X12_108 rfl rfl rfl (rf_sh hR1 :).1 ?_
                refine ZV_iload_n (n := 97) dX12_play_96 rfl rfl rfl ?_
                refine ZV_ialdv (n := 98) dX12_play_97 rfl (ra_shelfSize (rf_sh hR1 :) :) (rk_shelfSize (rf_sh hR1 :) :) rfl (by omega) (rf_shelfSize hR1 _ (by omega)) ?_
                refine ZV_icmp_neN (tgt := 113) (n := 101) dX12_play_98 (by decide) rfl (by omega) (by omega) (fun h98 => ?_) (fun h98 => ?_)
                · skip
                  refine ZV_aload_n (n := 114) dX12_play_113 rfl rfl rfl ?_
                  refine ZV_getR (n := 117) dX12_play_114 fl_X12_111 rfl rfl rfl (rf_sh hR1 :).1 ?_
                  refine ZV_bipush (v := nI 60) (n := 119) dX12_play_117 rfl rfl ?_
                  refine ZV_iload_n (n := 120) dX12_play_119 rfl rfl rfl ?_
                  refine ZV_imulN (n := 121) dX12_play_120 rfl ?_
                  refine ZV_iload_n (n := 122) dX12_play_121 rfl rfl rfl ?_
                  refine ZV_iaddN (n := 123) dX12_play_122 rfl ?_
                  refine ZV_ialdv (n := 124) dX12_play_123 rfl (ra_shelfRow (rf_sh hR1 :) :) (rk_shelfRow (rf_sh hR1 :) :) rfl (by omega) (rf_shelfRow hR1 _ _ (by omega) (by omega)) ?_
                  refine ZV_i2l (n := 125) dX12_play_124 rfl ?_
                  refine ZV_aload_n (n := 126) dX12_play_125 rfl rfl rfl ?_
                  refine ZV_getR (n := 129) dX12_play_126 fl_X12_30 rfl rfl rfl (rf_sh hR1 :).1 ?_
                  refine ZV_bipush (v := nI 6) (n := 131) dX12_play_129 rfl rfl ?_
                  refine ZV_iload (n := 133) dX12_play_131 rfl rfl ?_
                  refine ZV_imulN (n := 134) dX12_play_133 rfl ?_
                  refine ZV_ialdv (n := 135) dX12_play_134 rfl (ra_pitchOf (rf_sh hR1 :) :) (rk_pitchOf (rf_sh hR1 :) :) rfl (by omega) ((rf_pitchOf hR1 (g_ro T1 v p) 0 (by omega) (by omega)).trans hp0.1) ?_
                  refine ZV_i2lN (n := 136) dX12_play_135 rfl (by omega) ?_
                  refine ZV_lsub (n := 137) dX12_play_136 rfl ?_
                  refine ZV_lstore_6 (n := 139) dX12_play_137 rfl (Nat.le_of_ble_eq_true rfl) rfl ?_
                  refine ZV_aload_n (n := 140) dX12_play_139 rfl rfl rfl ?_
                  refine ZV_iload (n := 142) dX12_play_140 rfl rfl ?_
                  refine ZV_lload (n := 144) dX12_play_142 rfl rfl ?_
                  have hpz := pl_toInt (a := g_sr T1 s n) hp0.2
                  have hz1 := (g_sr T1 s n).toInt_lt
                  have hz2 := (g_sr T1 s n).le_toInt
                  refine call_X12_223 (c_mayShift hR1 hI1 _ hro.1 hkd _ (by rw [hpz]; omega)) rfl dX12_play_144 rfl (rf_sh hR1 :).1 (Nat.le_of_ble_eq_true rfl) (Nat.le_of_ble_eq_true rfl) rfl (fun r9 σ9 hp9 => ?_)
                  obtain ⟨rfl, rfl⟩ := hp9
                  rw [hpz]
                  refine ZV_if_neB (tgt := 162) (n := 150) dX12_play_147 (by decide) rfl (fun h147 => ?_) (fun h147 => ?_)
                  · skip
                    refine ZV_aload_n (n := 163) dX12_play_162 rfl rfl rfl ?_
                    refine ZV_iload (n := 165) dX12_play_163 rfl rfl ?_
                    refine ZV_lload (n := 167) dX12_play_165 rfl rfl ?_
                    refine ZV_l2i (n := 168) dX12_play_167 rfl ?_
                    refine call_X12_227 (c_shifts hR1 hI1 _ hro.1 _) rfl dX12_play_168 rfl (rf_sh hR1 :).1 (Nat.le_of_ble_eq_true rfl) (Nat.le_of_ble_eq_true rfl) rfl (fun r9 σ9 hp9 => ?_)
                    obtain ⟨rfl, hR1⟩ := hp9
                    refine ZV_iincN_3 (v := 1) (n := 174) dX12_play_171 rfl rfl (Nat.le_of_ble_eq_true rfl) rfl ?_
                    refine ZV_iincN_4 (v := 1) (n := 177) dX12_play_174 rfl rfl (Nat.le_of_ble_eq_true rfl) rfl ?_
                    refine ZV_goto (tgt := 36) dX12_play_177 (by decide) ?_
                    refine ZV_fg_5 ?_
                    refine ZV_fg_6 ?_
                    exact ih k (p + 1) (n + 1) (shT T1 (g_ro T1 v p) (plW T1 s n (g_ro T1 v p))) _ (by omega) (by show p + 1 + k = g_mn T1 v; omega) (by omega) (by show n + 1 ≤ g_ss T1 s; omega) hs1 (tI_shT hI1 hro.1 hkd (plW_ok hI1 hro.1 hkd h147)) hR1 (by rw [← hz, plS, if_pos h67, if_neg (by rw [h76]; decide), if_neg h98, if_pos (show mayB T1 (g_ro T1 v p) (plZ T1 s n (g_ro T1 v p)) = true from h147)])
                  · skip
                    refine ZV_aload_n (n := 151) dX12_play_150 rfl rfl rfl ?_
                    refine ZV_aload_n (n := 152) dX12_play_151 rfl rfl rfl ?_
                    refine ZV_bipush (v := -12) (n := 154) dX12_play_152 rfl rfl ?_
                    refine call_X12_211 (c_fails hR1 (-12) 1 (by decide) rfl) rfl dX12_play_154 rfl (rf_sh hR1 :).1 (Nat.le_of_ble_eq_true rfl) (Nat.le_of_ble_eq_true rfl) rfl (fun r9 σ9 hp9 => ?_)
                    obtain ⟨rfl, hR1⟩ := hp9
                    refine ZV_putI (n := 160) dX12_play_157 fl_X12_325 rfl (Or.inl rfl) rfl (fun h => absurd h (by decide)) rfl (rf_sh hR1 :).1 ?_
                    refine ZV_gen (P := fun τ => rR x τ _) (rR_laid hR1 _) (fun σ hR1 => ?_)
                    refine ZV_iload_n (n := 161) dX12_play_160 rfl rfl rfl ?_
                    refine ZV_iret dX12_play_161 rfl ?_
                    rw [plS, if_pos h67, if_neg (by rw [h76]; decide), if_neg h98, if_neg (by unfold plZ; rw [h147]; decide)] at hz
                    subst hz
                    exact ⟨rfl, hR1⟩
                · skip
                  refine ZV_aload_n (n := 102) dX12_play_101 rfl rfl rfl ?_
                  refine ZV_aload_n (n := 103) dX12_play_102 rfl rfl rfl ?_
                  refine ZV_bipush (v := -12) (n := 105) dX12_play_103 rfl rfl ?_
                  refine call_X12_211 (c_fails hR1 (-12) 1 (by decide) rfl) rfl dX12_play_105 rfl (rf_sh hR1 :).1 (Nat.le_of_ble_eq_true rfl) (Nat.le_of_ble_eq_true rfl) rfl (fun r9 σ9 hp9 => ?_)
                  obtain ⟨rfl, hR1⟩ := hp9
                  refine ZV_putI (n := 111) dX12_play_108 fl_X12_325 rfl (Or.inl rfl) rfl (fun h => absurd h (by decide)) rfl (rf_sh hR1 :).1 ?_
                  refine ZV_gen (P := fun τ => rR x τ _) (rR_laid hR1 _) (fun σ hR1 => ?_)
                  refine ZV_iload_n (n := 112) dX12_play_111 rfl rfl rfl ?_
                  refine ZV_iret dX12_play_112 rfl ?_
                  rw [plS, if_pos h67, if_neg (by rw [h76]; decide), if_pos h98] at hz
                  subst hz
                  exact ⟨rfl, hR1⟩
              · skip
                refine ZV_aload_n (n := 80) dX12_play_79 rfl rfl rfl ?_
                refine ZV_aload_n (n := 81) dX12_play_80 rfl rfl rfl ?_
                refine ZV_bipush (v := -11) (n := 83) dX12_play_81 rfl rfl ?_
                refine call_X12_211 (c_fails hR1 (-11) 0 (by decide) rfl) rfl dX12_play_83 rfl (rf_sh hR1 :).1 (Nat.le_of_ble_eq_true rfl) (Nat.le_of_ble_eq_true rfl) rfl (fun r9 σ9 hp9 => ?_)
                obtain ⟨rfl, hR1⟩ := hp9
                refine ZV_putI (n := 89) dX12_play_86 fl_X12_325 rfl (Or.inl rfl) rfl (fun h => absurd h (by decide)) rfl (rf_sh hR1 :).1 ?_
                refine ZV_gen (P := fun τ => rR x τ _) (rR_laid hR1 _) (fun σ hR1 => ?_)
                refine ZV_iload_n (n := 90) dX12_play_89 rfl rfl rfl ?_
                refine ZV_iret dX12_play_90 rfl ?_
                rw [plS, if_pos h67, if_pos h76] at hz
                subst hz
                exact ⟨rfl, hR1⟩
      exact loop _ _ 0 0 T _ (Nat.lt_succ_self _) (by omega) (by omega) (by omega) hsu hI hR hZ0
    · skip
      refine ZV_aload_n (n := 25) dX12_play_24 rfl rfl rfl ?_
      refine ZV_bipush (v := -2) (n := 27) dX12_play_25 rfl rfl ?_
      refine call_X12_130 (c_no hR _) rfl dX12_play_27 rfl (rf_sh hR :).1 (Nat.le_of_ble_eq_true rfl) (Nat.le_of_ble_eq_true rfl) rfl (fun r9 σ9 hp9 => ?_)
      obtain ⟨rfl, hR⟩ := hp9
      refine ZV_iret dX12_play_30 rfl ?_
      exact zleaf (v := sNo T (-2)) (by simp [sp_play, h13, h21]) rfl hR
