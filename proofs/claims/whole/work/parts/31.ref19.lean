def isN (n : Int32) : Bool := decide (n = nI 3 ∨ n = nI 5 ∨ n = nI 6 ∨ n = nI 7)
theorem isN_t {n : Int32} (h : isN n = true) : ∃ j : Nat, n = nI j ∧ (j = 3 ∨ j = 5 ∨ j = 6 ∨ j = 7) := by
  have h1 := of_decide_eq_true h
  rcases h1 with h1 | h1 | h1 | h1
  · exact ⟨3, h1, by omega⟩
  · exact ⟨5, h1, by omega⟩
  · exact ⟨6, h1, by omega⟩
  · exact ⟨7, h1, by omega⟩
def tuA (a k : Int32) (s : Nat) : Bool := decide (0 ≤ a.toInt ∧ 1 ≤ k.toInt ∧ a.toInt + k.toInt ≤ s)
theorem tuA_t {a k : Int32} {s : Nat} (h : tuA a k s = true) : ∃ a2 k2 : Nat, a2 + (k2 + 1) ≤ s ∧ a2 < 2147483648 ∧ k2 + 1 < 2147483648 ∧ a = nI a2 ∧ k = nI (k2 + 1) := by
  have h1 := of_decide_eq_true h
  have hi := a.toInt_lt
  have hn := k.toInt_lt
  refine ⟨a.toInt.toNat, k.toInt.toNat - 1, by omega, by omega, by omega, ?_, ?_⟩
  · apply Int32.toInt_inj.mp
    rw [nI_toInt (by omega)]
    omega
  · apply Int32.toInt_inj.mp
    rw [nI_toInt (by omega)]
    omega
def anyF (b : Nat → Bool) : Nat → Bool
  | 0 => false
  | n + 1 => anyF b n || b n
theorem anyF_t {b : Nat → Bool} {i : Nat} (hi : b i = true) : ∀ n, i < n → anyF b n = true
  | 0, h => absurd h (Nat.not_lt_zero _)
  | n + 1, h => by
    rw [anyF]
    by_cases h2 : i = n
    · rw [← h2, hi, Bool.or_true]
    · rw [anyF_t hi n (by omega)]
      rfl
def crB (T : TS) (v a b t : Nat) : Bool := g_tt T t && decide (g_tv T t = v ∧ ¬ (g_pl T (g_tl T t) < a ∨ b < g_pl T (g_tf T t)) ∧ ¬ (g_pl T (g_tf T t) ≤ a ∧ b ≤ g_pl T (g_tl T t)) ∧ ¬ (a ≤ g_pl T (g_tf T t) ∧ g_pl T (g_tl T t) ≤ b))
def ovB (T : TS) (v a i : Nat) : Bool := decide (1 < zcnt (liB T (g_ro T v (a + i))) (g_te T))
def tupT (T : TS) (v a b n m u : Nat) : TS := h_tu (h_tm (h_tn (h_tl (h_tf (h_tv (h_tt (h_cu (h_te T (g_te T + 1)) (g_cu T + 1)) (va_up (g_tt T) (g_te T) true)) (va_up (g_tv T) (g_te T) v)) (va_up (g_tf T) (g_te T) (g_ro T v a))) (va_up (g_tl T) (g_te T) (g_ro T v b))) (va_up (g_tn T) (g_te T) n)) (va_up (g_tm T) (g_te T) m)) (va_up (g_tu T) (g_te T) u)
def sp_tuplet (T : TS) (v a k n m u : Int32) : Int32 × TS := if inB v (3 * g_np T) = true ∧ tuA a k (g_mn T v.toNatClampNeg) = true ∧ isN n = true ∧ inR m 1 8 = true ∧ inB u 6 = true then (if anyF (crB T v.toNatClampNeg a.toNatClampNeg (a.toNatClampNeg + k.toNatClampNeg - 1)) (g_te T) = true ∨ anyF (ovB T v.toNatClampNeg a.toNatClampNeg) k.toNatClampNeg = true then sNo T (-3) else if g_te T = 20 then sNo T (-4) else sOk (tupT T v.toNatClampNeg a.toNatClampNeg (a.toNatClampNeg + k.toNatClampNeg - 1) n.toNatClampNeg m.toNatClampNeg u.toNatClampNeg) (nI (g_te T))) else sNo T (-2)
set_option maxHeartbeats 4000000 in
set_option maxRecDepth 100000 in
theorem c_tuplet {x : Nat} {σ : ZS} {T : TS} (hR : rR x σ T) (hI : tI T) (v a k n m u : Int32) : ZC M_X12_tuplet [Ar (some x), Ai v, Ai a, Ai k, Ai n, Ai m, Ai u] σ (fun y0 τ0 => y0 = some (Ai (sp_tuplet T v a k n m u).1) ∧ rR x τ0 (sp_tuplet T v a k n m u).2) := by
  have hsp : sp_tuplet T v a k n m u = sp_tuplet (h_su T 0) v a k n m u := rfl
  rw [hsp]
  clear hsp
  refine ZC_of (ls := [some (Ar (some x)), some (Ai v), some (Ai a), some (Ai k), some (Ai n), some (Ai m), some (Ai u), none, none, none, none, none, none]) (by decide) (Nat.le_of_ble_eq_true rfl) rfl ?_
  refine ZV_aload_n (n := 1) dX12_tuplet_0 rfl rfl rfl ?_
  refine call_X12_144 (c_begin hR) rfl dX12_tuplet_1 rfl (rf_sh hR :).1 (Nat.le_of_ble_eq_true rfl) (Nat.le_of_ble_eq_true rfl) rfl (fun r9 σ9 hp9 => ?_)
  obtain ⟨rfl, hR⟩ := hp9
  have hI := tI_su hI 0
  have hsu : g_su (h_su T 0) = 0 := rfl
  generalize h_su T 0 = T at hR hI hsu ⊢
  have hnp := ti_np hI
  have hte := ti_te hI
  have hev := ti_ev hI
  have hcu := ti_cu hI
  have hcn := zcnt_le (g_tt T) (g_te T)
  have tail : ZV M_X12_tuplet (fun y0 τ0 => y0 = some (Ai (sp_tuplet T v a k n m u).1) ∧ rR x τ0 (sp_tuplet T v a k n m u).2) 35 [some (Ar (some x)), some (Ai v), some (Ai a), some (Ai k), some (Ai n), some (Ai m), some (Ai u), none, none, none, none, none, none] [Ai (bI (isN n))] σ9 (zmC M_X12_tuplet) (zmS M_X12_tuplet) := by
    refine ZV_istore_7 (n := 37) dX12_tuplet_35 rfl (Nat.le_of_ble_eq_true rfl) rfl ?_
    refine ZV_aload_n (n := 38) dX12_tuplet_37 rfl rfl rfl ?_
    refine ZV_iload_n (n := 39) dX12_tuplet_38 rfl rfl rfl ?_
    refine call_X12_184 (c_isVoice hR hI _) rfl dX12_tuplet_39 rfl (rf_sh hR :).1 (Nat.le_of_ble_eq_true rfl) (Nat.le_of_ble_eq_true rfl) rfl (fun r9 σ9 hp9 => ?_)
    obtain ⟨rfl, hs9⟩ := hp9
    subst σ9
    refine ZV_if_eqB (tgt := 101) (n := 45) dX12_tuplet_42 (by decide) rfl (fun h42 => ?_) (fun h42 => ?_)
    · skip
      refine ZV_aload_n (n := 102) dX12_tuplet_101 rfl rfl rfl ?_
      refine ZV_bipush (v := -2) (n := 104) dX12_tuplet_102 rfl rfl ?_
      refine call_X12_130 (c_no hR _) rfl dX12_tuplet_104 rfl (rf_sh hR :).1 (Nat.le_of_ble_eq_true rfl) (Nat.le_of_ble_eq_true rfl) rfl (fun r9 σ9 hp9 => ?_)
      obtain ⟨rfl, hR⟩ := hp9
      refine ZV_iret dX12_tuplet_107 rfl ?_
      exact zleaf (v := sNo T (-2)) (by rw [sp_tuplet, if_neg (fun z => by rw [h42] at z; exact absurd z.1 (by decide))]) rfl hR
    · skip
      obtain ⟨v, hv, hvx, rfl⟩ := inB_t h42
      have hmn := ti_mn hI v
      refine ZV_iload_n (n := 46) dX12_tuplet_45 rfl rfl rfl ?_
      refine ZV_if_lt (tgt := 101) (n := 49) dX12_tuplet_46 (by decide) rfl (fun h46 => ?_) (fun h46 => ?_)
      · skip
        refine ZV_aload_n (n := 102) dX12_tuplet_101 rfl rfl rfl ?_
        refine ZV_bipush (v := -2) (n := 104) dX12_tuplet_102 rfl rfl ?_
        refine call_X12_130 (c_no hR _) rfl dX12_tuplet_104 rfl (rf_sh hR :).1 (Nat.le_of_ble_eq_true rfl) (Nat.le_of_ble_eq_true rfl) rfl (fun r9 σ9 hp9 => ?_)
        obtain ⟨rfl, hR⟩ := hp9
        refine ZV_iret dX12_tuplet_107 rfl ?_
        exact zleaf (v := sNo T (-2)) (by rw [sp_tuplet, if_neg (fun z => by have z1 := of_decide_eq_true z.2.1; rw [Int32.lt_iff_toInt_lt, i32_0] at h46; omega)]) rfl hR
      · skip
        refine ZV_iload_n (n := 50) dX12_tuplet_49 rfl rfl rfl ?_
        refine ZV_iconst (v := nI 1) (n := 51) dX12_tuplet_50 rfl rfl ?_
        refine ZV_icmp_lt (tgt := 101) (n := 54) dX12_tuplet_51 (by decide) rfl (fun h51 => ?_) (fun h51 => ?_)
        · skip
          refine ZV_aload_n (n := 102) dX12_tuplet_101 rfl rfl rfl ?_
          refine ZV_bipush (v := -2) (n := 104) dX12_tuplet_102 rfl rfl ?_
          refine call_X12_130 (c_no hR _) rfl dX12_tuplet_104 rfl (rf_sh hR :).1 (Nat.le_of_ble_eq_true rfl) (Nat.le_of_ble_eq_true rfl) rfl (fun r9 σ9 hp9 => ?_)
          obtain ⟨rfl, hR⟩ := hp9
          refine ZV_iret dX12_tuplet_107 rfl ?_
          exact zleaf (v := sNo T (-2)) (by rw [sp_tuplet, if_neg (fun z => by have z1 := of_decide_eq_true z.2.1; rw [Int32.lt_iff_toInt_lt, nI_toInt (by decide)] at h51; omega)]) rfl hR
        · skip
          refine ZV_iload_n (n := 55) dX12_tuplet_54 rfl rfl rfl ?_
          refine ZV_i2l (n := 56) dX12_tuplet_55 rfl ?_
          refine ZV_iload_n (n := 57) dX12_tuplet_56 rfl rfl rfl ?_
          refine ZV_i2l (n := 58) dX12_tuplet_57 rfl ?_
          refine ZV_ladd (n := 59) dX12_tuplet_58 rfl ?_
          refine ZV_aload_n (n := 60) dX12_tuplet_59 rfl rfl rfl ?_
          refine ZV_getR (n := 63) dX12_tuplet_60 fl_X12_45 rfl rfl rfl (rf_sh hR :).1 ?_
          refine ZV_iload_n (n := 64) dX12_tuplet_63 rfl rfl rfl ?_
          refine ZV_ialdv (n := 65) dX12_tuplet_64 rfl (ra_many (rf_sh hR :) :) (rk_many (rf_sh hR :) :) rfl (by omega) (rf_many hR _ (by omega)) ?_
          refine ZV_i2lN (n := 66) dX12_tuplet_65 rfl (by omega) ?_
          refine ZV_lcmp_gt (tgt := 101) (pc1 := 67) (n := 70) dX12_tuplet_66 rfl dX12_tuplet_67 (by decide) rfl (fun h66 => ?_) (fun h66 => ?_)
          · skip
            refine ZV_aload_n (n := 102) dX12_tuplet_101 rfl rfl rfl ?_
            refine ZV_bipush (v := -2) (n := 104) dX12_tuplet_102 rfl rfl ?_
            refine call_X12_130 (c_no hR _) rfl dX12_tuplet_104 rfl (rf_sh hR :).1 (Nat.le_of_ble_eq_true rfl) (Nat.le_of_ble_eq_true rfl) rfl (fun r9 σ9 hp9 => ?_)
            obtain ⟨rfl, hR⟩ := hp9
            refine ZV_iret dX12_tuplet_107 rfl ?_
            exact zleaf (v := sNo T (-2)) (by rw [sp_tuplet, if_neg (fun z => by have z1 := of_decide_eq_true z.2.1; rw [nI_clamp hvx] at z1; simp only [Int64.lt_iff_toInt_lt, i64_sum, pk_lT (n := g_mn T v) (by omega)] at h66; omega)]) rfl hR
          · skip
            refine ZV_iload (n := 72) dX12_tuplet_70 rfl rfl ?_
            refine ZV_if_eqB (tgt := 101) (n := 75) dX12_tuplet_72 (by decide) rfl (fun h72 => ?_) (fun h72 => ?_)
            · skip
              refine ZV_aload_n (n := 102) dX12_tuplet_101 rfl rfl rfl ?_
              refine ZV_bipush (v := -2) (n := 104) dX12_tuplet_102 rfl rfl ?_
              refine call_X12_130 (c_no hR _) rfl dX12_tuplet_104 rfl (rf_sh hR :).1 (Nat.le_of_ble_eq_true rfl) (Nat.le_of_ble_eq_true rfl) rfl (fun r9 σ9 hp9 => ?_)
              obtain ⟨rfl, hR⟩ := hp9
              refine ZV_iret dX12_tuplet_107 rfl ?_
              exact zleaf (v := sNo T (-2)) (by rw [sp_tuplet, if_neg (fun z => by rw [h72] at z; exact absurd z.2.2.1 (by decide))]) rfl hR
            · skip
              refine ZV_iload (n := 77) dX12_tuplet_75 rfl rfl ?_
              refine ZV_i2l (n := 78) dX12_tuplet_77 rfl ?_
              refine ZV_lconst (v := lN 1) (n := 79) dX12_tuplet_78 rfl rfl ?_
              refine ZV_ldc2 (v := lN 8) (n := 82) dX12_tuplet_79 wd_5_197 rfl ?_
              refine call_X12_137 (c_inL _ m (by decide) (by decide)) rfl dX12_tuplet_82 (Nat.le_of_ble_eq_true rfl) (Nat.le_of_ble_eq_true rfl) rfl (fun r9 σ9 hp9 => ?_)
              obtain ⟨rfl, hs9⟩ := hp9
              subst σ9
              refine ZV_if_eqB (tgt := 101) (n := 88) dX12_tuplet_85 (by decide) rfl (fun h85 => ?_) (fun h85 => ?_)
              · skip
                refine ZV_aload_n (n := 102) dX12_tuplet_101 rfl rfl rfl ?_
                refine ZV_bipush (v := -2) (n := 104) dX12_tuplet_102 rfl rfl ?_
                refine call_X12_130 (c_no hR _) rfl dX12_tuplet_104 rfl (rf_sh hR :).1 (Nat.le_of_ble_eq_true rfl) (Nat.le_of_ble_eq_true rfl) rfl (fun r9 σ9 hp9 => ?_)
                obtain ⟨rfl, hR⟩ := hp9
                refine ZV_iret dX12_tuplet_107 rfl ?_
                exact zleaf (v := sNo T (-2)) (by rw [sp_tuplet, if_neg (fun z => by rw [h85] at z; exact absurd z.2.2.2.1 (by decide))]) rfl hR
              · skip
                refine ZV_iload (n := 90) dX12_tuplet_88 rfl rfl ?_
                refine ZV_i2l (n := 91) dX12_tuplet_90 rfl ?_
                refine ZV_lconst (v := lN 0) (n := 92) dX12_tuplet_91 rfl rfl ?_
                refine ZV_ldc2 (v := lN 5) (n := 95) dX12_tuplet_92 wd_5_84 rfl ?_
                refine call_X12_137 (c_inC _ u (by decide)) rfl dX12_tuplet_95 (Nat.le_of_ble_eq_true rfl) (Nat.le_of_ble_eq_true rfl) rfl (fun r9 σ9 hp9 => ?_)
                obtain ⟨rfl, hs9⟩ := hp9
                subst σ9
                refine ZV_if_neB (tgt := 108) (n := 101) dX12_tuplet_98 (by decide) rfl (fun h98 => ?_) (fun h98 => ?_)
                · skip
                  have hA : tuA a k (g_mn T v) = true := by
                    simp only [Int64.lt_iff_toInt_lt, i64_sum, pk_lT (n := g_mn T v) (by omega)] at h66
                    rw [Int32.lt_iff_toInt_lt, i32_0] at h46
                    rw [Int32.lt_iff_toInt_lt, nI_toInt (by decide)] at h51
                    exact decide_eq_true ⟨by omega, by omega, by omega⟩
                  have hN := h72
                  obtain ⟨a, k, hak, hax, hkx, rfl, rfl⟩ := tuA_t hA
                  obtain ⟨n, rfl, hn⟩ := isN_t h72
                  obtain ⟨m, ⟨hm1, hm2⟩, rfl⟩ := inR_t (by decide) h85
                  obtain ⟨u, hu, hux, rfl⟩ := inB_t h98
                  have hnx : n < 2147483648 := by omega
                  have hmx : m < 2147483648 := by omega
                  refine ZV_iload_n (n := 109) dX12_tuplet_108 rfl rfl rfl ?_
                  refine ZV_iload_n (n := 110) dX12_tuplet_109 rfl rfl rfl ?_
                  refine ZV_iaddN (n := 111) dX12_tuplet_110 rfl ?_
                  refine ZV_iconst (v := nI 1) (n := 112) dX12_tuplet_111 rfl rfl ?_
                  refine ZV_isubN (n := 113) dX12_tuplet_112 rfl (by omega) ?_
                  rw [show a + (k + 1) - 1 = a + k by omega]
                  refine ZV_istore_8 (n := 115) dX12_tuplet_113 rfl (Nat.le_of_ble_eq_true rfl) rfl ?_
                  refine ZV_iconst (v := nI 0) (n := 116) dX12_tuplet_115 rfl rfl ?_
                  refine ZV_istore_9 (n := 118) dX12_tuplet_116 rfl (Nat.le_of_ble_eq_true rfl) rfl ?_
                  have hZ : sp_tuplet T (nI v) (nI a) (nI (k + 1)) (nI n) (nI m) (nI u) = if anyF (crB T v a (a + k)) (g_te T) = true ∨ anyF (ovB T v a) (k + 1) = true then sNo T (-3) else if g_te T = 20 then sNo T (-4) else sOk (tupT T v a (a + k) n m u) (nI (g_te T)) := by
                    rw [sp_tuplet, nI_clamp hvx, nI_clamp hax, nI_clamp hkx, nI_clamp hnx, nI_clamp hmx, nI_clamp hux, if_pos ⟨h42, hA, hN, h85, h98⟩, show a + (k + 1) - 1 = a + k by omega]
                  rw [hZ]
                  generalize hZ0 : (if anyF (crB T v a (a + k)) (g_te T) = true ∨ anyF (ovB T v a) (k + 1) = true then sNo T (-3) else if g_te T = 20 then sNo T (-4) else sOk (tupT T v a (a + k) n m u) (nI (g_te T))) = Z
                  have loopP : ∀ (n9 : Nat) (i : Nat), k + 1 - i < n9 → i ≤ k + 1 → anyF (crB T v a (a + k)) (g_te T) = false → anyF (ovB T v a) i = false → ZV M_X12_tuplet (fun y0 τ0 => y0 = some (Ai Z.1) ∧ rR x τ0 Z.2) 241 [some (Ar (some x)), some (Ai (nI v)), some (Ai (nI a)), some (Ai (nI (k + 1))), some (Ai (nI n)), some (Ai (nI m)), some (Ai (nI u)), some (Ai (bI (isN (nI n)))), some (Ai (nI (a + k))), some (Ai (nI (a + i))), none, none, none] [] σ9 (zmC M_X12_tuplet) (zmS M_X12_tuplet) := by
                    intro n9
                    induction n9 with
                    | zero => intro i hm; exact absurd hm (Nat.not_lt_zero _)
                    | succ n9 ih =>
                      intro i hm hi hc ho
                      refine ZV_iload (n := 243) dX12_tuplet_241 rfl rfl ?_
                      refine ZV_iload (n := 245) dX12_tuplet_243 rfl rfl ?_
                      refine ZV_icmp_gtN (tgt := 281) (n := 248) dX12_tuplet_245 (by decide) rfl (by omega) (by omega) (fun h245 => ?_) (fun h245 => ?_)
                      · skip
                        obtain rfl : i = k + 1 := by omega
                        rw [if_neg (by rw [hc, ho]; decide)] at hZ0
                        refine ZV_aload_n (n := 282) dX12_tuplet_281 rfl rfl rfl ?_
                        refine ZV_getIv (n := 285) dX12_tuplet_282 fl_X12_199 rfl rfl rfl (rf_sh hR :).1 (rf_tupletsEver hR :) ?_
                        refine ZV_bipush (v := nI 20) (n := 287) dX12_tuplet_285 rfl rfl ?_
                        refine ZV_icmp_neN (tgt := 297) (n := 290) dX12_tuplet_287 (by decide) rfl (by omega) (by omega) (fun h287 => ?_) (fun h287 => ?_)
                        · skip
                          rw [if_neg h287] at hZ0
                          subst hZ0
                          have hro1 := ti_ro hI v a (by omega) (by omega)
                          have hro2 := ti_ro hI v (a + k) (by omega) (by omega)
                          refine ZV_aload_n (n := 298) dX12_tuplet_297 rfl rfl rfl ?_
                          refine ZV_getIv (n := 301) dX12_tuplet_298 fl_X12_199 rfl rfl rfl (rf_sh hR :).1 (rf_tupletsEver hR :) ?_
                          refine ZV_istore_9 (n := 303) dX12_tuplet_301 rfl (Nat.le_of_ble_eq_true rfl) rfl ?_
                          refine ZV_aload_n (n := 304) dX12_tuplet_303 rfl rfl rfl ?_
                          refine ZV_dup (n := 305) dX12_tuplet_304 rfl rfl ?_
                          refine ZV_getIv (n := 308) dX12_tuplet_305 fl_X12_199 rfl rfl rfl (rf_sh hR :).1 (Eq.trans ((rf_tupletsEver hR :) :) (show _ = nI (g_te T) by first | simp only [gh_te_ct, gh_te_cu, gh_te_cl, gh_te_np, gh_te_pk, gh_te_nb, gh_te_bt, gh_te_ev, gh_te_th, gh_te_vo, gh_te_kd, gh_te_pn, gh_te_pi, gh_te_va, gh_te_dt, gh_te_ti, gh_te_pl, gh_te_mn, gh_te_ro, gh_te_te, gh_te_tt, gh_te_tv, gh_te_tf, gh_te_tl, gh_te_tn, gh_te_tm, gh_te_tu, gh_te_le, gh_te_lt, gh_te_lk, gh_te_lf, gh_te_lo, gh_te_wm, gh_te_wr, gh_te_fo, gh_te_fi, gh_te_hr, gh_te_rk, gh_te_rs, gh_te_rr, gh_te_hs, gh_te_sk, gh_te_ss, gh_te_sr, gh_te_fa, gh_te_su, gh_te_tr] | rfl)) ?_
                          refine ZV_iconst (v := nI 1) (n := 309) dX12_tuplet_308 rfl rfl ?_
                          refine ZV_iaddN (n := 310) dX12_tuplet_309 rfl ?_
                          refine ZV_putI (n := 313) dX12_tuplet_310 fl_X12_199 rfl (Or.inl rfl) rfl (fun h => absurd h (by decide)) rfl (rf_sh hR :).1 ?_
                          refine ZV_gen (P := fun τ => rR x τ _) (rR_tupletsEver hR _) (fun σ hR => ?_)
                          refine ZV_aload_n (n := 314) dX12_tuplet_313 rfl rfl rfl ?_
                          refine ZV_dup (n := 315) dX12_tuplet_314 rfl rfl ?_
                          refine ZV_getIv (n := 318) dX12_tuplet_315 fl_X12_202 rfl rfl rfl (rf_sh hR :).1 (Eq.trans ((rf_tupletsThere hR :) :) (show _ = nI (g_cu T) by first | simp only [gh_cu_ct, gh_cu_cu, gh_cu_cl, gh_cu_np, gh_cu_pk, gh_cu_nb, gh_cu_bt, gh_cu_ev, gh_cu_th, gh_cu_vo, gh_cu_kd, gh_cu_pn, gh_cu_pi, gh_cu_va, gh_cu_dt, gh_cu_ti, gh_cu_pl, gh_cu_mn, gh_cu_ro, gh_cu_te, gh_cu_tt, gh_cu_tv, gh_cu_tf, gh_cu_tl, gh_cu_tn, gh_cu_tm, gh_cu_tu, gh_cu_le, gh_cu_lt, gh_cu_lk, gh_cu_lf, gh_cu_lo, gh_cu_wm, gh_cu_wr, gh_cu_fo, gh_cu_fi, gh_cu_hr, gh_cu_rk, gh_cu_rs, gh_cu_rr, gh_cu_hs, gh_cu_sk, gh_cu_ss, gh_cu_sr, gh_cu_fa, gh_cu_su, gh_cu_tr] | rfl)) ?_
                          refine ZV_iconst (v := nI 1) (n := 319) dX12_tuplet_318 rfl rfl ?_
                          refine ZV_iaddN (n := 320) dX12_tuplet_319 rfl ?_
                          refine ZV_putI (n := 323) dX12_tuplet_320 fl_X12_202 rfl (Or.inl rfl) rfl (fun h => absurd h (by decide)) rfl (rf_sh hR :).1 ?_
                          refine ZV_gen (P := fun τ => rR x τ _) (rR_tupletsThere hR _) (fun σ hR => ?_)
                          refine ZV_aload_n (n := 324) dX12_tuplet_323 rfl rfl rfl ?_
                          refine ZV_getR (n := 327) dX12_tuplet_324 fl_X12_48 rfl rfl rfl (rf_sh hR :).1 ?_
                          refine ZV_iload (n := 329) dX12_tuplet_327 rfl rfl ?_
                          refine ZV_iconst (v := nI 1) (n := 330) dX12_tuplet_329 rfl rfl ?_
                          refine ZV_bast (n := 331) dX12_tuplet_330 rfl (Or.inr rfl) (ra_isTuplet (rf_sh hR :) :) (rk_isTuplet (rf_sh hR :) :) rfl (by omega) ?_
                          refine ZV_gen (P := fun τ => rR x τ _) (rR_isTuplet hR true) (fun σ hR => ?_)
                          try simp only [gh_tt_ct, gh_tt_cu, gh_tt_cl, gh_tt_np, gh_tt_pk, gh_tt_nb, gh_tt_bt, gh_tt_ev, gh_tt_th, gh_tt_vo, gh_tt_kd, gh_tt_pn, gh_tt_pi, gh_tt_va, gh_tt_dt, gh_tt_ti, gh_tt_pl, gh_tt_mn, gh_tt_ro, gh_tt_te, gh_tt_tt, gh_tt_tv, gh_tt_tf, gh_tt_tl, gh_tt_tn, gh_tt_tm, gh_tt_tu, gh_tt_le, gh_tt_lt, gh_tt_lk, gh_tt_lf, gh_tt_lo, gh_tt_wm, gh_tt_wr, gh_tt_fo, gh_tt_fi, gh_tt_hr, gh_tt_rk, gh_tt_rs, gh_tt_rr, gh_tt_hs, gh_tt_sk, gh_tt_ss, gh_tt_sr, gh_tt_fa, gh_tt_su, gh_tt_tr] at hR
                          refine ZV_aload_n (n := 332) dX12_tuplet_331 rfl rfl rfl ?_
                          refine ZV_getR (n := 335) dX12_tuplet_332 fl_X12_51 rfl rfl rfl (rf_sh hR :).1 ?_
                          refine ZV_iload (n := 337) dX12_tuplet_335 rfl rfl ?_
                          refine ZV_iload_n (n := 338) dX12_tuplet_337 rfl rfl rfl ?_
                          refine ZV_iast (n := 339) dX12_tuplet_338 rfl (ra_tupletVoice (rf_sh hR :) :) (rk_tupletVoice (rf_sh hR :) :) rfl (by omega) ?_
                          refine ZV_gen (P := fun τ => rR x τ _) (rR_tupletVoice hR _) (fun σ hR => ?_)
                          try simp only [gh_tv_ct, gh_tv_cu, gh_tv_cl, gh_tv_np, gh_tv_pk, gh_tv_nb, gh_tv_bt, gh_tv_ev, gh_tv_th, gh_tv_vo, gh_tv_kd, gh_tv_pn, gh_tv_pi, gh_tv_va, gh_tv_dt, gh_tv_ti, gh_tv_pl, gh_tv_mn, gh_tv_ro, gh_tv_te, gh_tv_tt, gh_tv_tv, gh_tv_tf, gh_tv_tl, gh_tv_tn, gh_tv_tm, gh_tv_tu, gh_tv_le, gh_tv_lt, gh_tv_lk, gh_tv_lf, gh_tv_lo, gh_tv_wm, gh_tv_wr, gh_tv_fo, gh_tv_fi, gh_tv_hr, gh_tv_rk, gh_tv_rs, gh_tv_rr, gh_tv_hs, gh_tv_sk, gh_tv_ss, gh_tv_sr, gh_tv_fa, gh_tv_su, gh_tv_tr] at hR
                          refine ZV_aload_n (n := 340) dX12_tuplet_339 rfl rfl rfl ?_
                          refine ZV_getR (n := 343) dX12_tuplet_340 fl_X12_54 rfl rfl rfl (rf_sh hR :).1 ?_
                          refine ZV_iload (n := 345) dX12_tuplet_343 rfl rfl ?_
                          refine ZV_aload_n (n := 346) dX12_tuplet_345 rfl rfl rfl ?_
                          refine ZV_getR (n := 349) dX12_tuplet_346 fl_X12_42 rfl rfl rfl (rf_sh hR :).1 ?_
                          refine ZV_bipush (v := nI 40) (n := 351) dX12_tuplet_349 rfl rfl ?_
                          refine ZV_iload_n (n := 352) dX12_tuplet_351 rfl rfl rfl ?_
                          refine ZV_imulN (n := 353) dX12_tuplet_352 rfl ?_
                          refine ZV_iload_n (n := 354) dX12_tuplet_353 rfl rfl rfl ?_
                          refine ZV_iaddN (n := 355) dX12_tuplet_354 rfl ?_
                          refine ZV_ialdv (n := 356) dX12_tuplet_355 rfl (ra_row (rf_sh hR :) :) (rk_row (rf_sh hR :) :) rfl (by omega) (Eq.trans ((rf_row hR v a (by omega) (by omega)) :) (show _ = nI (g_ro T v a) by first | simp only [gh_ro_ct, gh_ro_cu, gh_ro_cl, gh_ro_np, gh_ro_pk, gh_ro_nb, gh_ro_bt, gh_ro_ev, gh_ro_th, gh_ro_vo, gh_ro_kd, gh_ro_pn, gh_ro_pi, gh_ro_va, gh_ro_dt, gh_ro_ti, gh_ro_pl, gh_ro_mn, gh_ro_ro, gh_ro_te, gh_ro_tt, gh_ro_tv, gh_ro_tf, gh_ro_tl, gh_ro_tn, gh_ro_tm, gh_ro_tu, gh_ro_le, gh_ro_lt, gh_ro_lk, gh_ro_lf, gh_ro_lo, gh_ro_wm, gh_ro_wr, gh_ro_fo, gh_ro_fi, gh_ro_hr, gh_ro_rk, gh_ro_rs, gh_ro_rr, gh_ro_hs, gh_ro_sk, gh_ro_ss, gh_ro_sr, gh_ro_fa, gh_ro_su, gh_ro_tr] | rfl)) ?_
                          refine ZV_iast (n := 357) dX12_tuplet_356 rfl (ra_tupletFirst (rf_sh hR :) :) (rk_tupletFirst (rf_sh hR :) :) rfl (by omega) ?_
                          refine ZV_gen (P := fun τ => rR x τ _) (rR_tupletFirst hR _) (fun σ hR => ?_)
                          try simp only [gh_tf_ct, gh_tf_cu, gh_tf_cl, gh_tf_np, gh_tf_pk, gh_tf_nb, gh_tf_bt, gh_tf_ev, gh_tf_th, gh_tf_vo, gh_tf_kd, gh_tf_pn, gh_tf_pi, gh_tf_va, gh_tf_dt, gh_tf_ti, gh_tf_pl, gh_tf_mn, gh_tf_ro, gh_tf_te, gh_tf_tt, gh_tf_tv, gh_tf_tf, gh_tf_tl, gh_tf_tn, gh_tf_tm, gh_tf_tu, gh_tf_le, gh_tf_lt, gh_tf_lk, gh_tf_lf, gh_tf_lo, gh_tf_wm, gh_tf_wr, gh_tf_fo, gh_tf_fi, gh_tf_hr, gh_tf_rk, gh_tf_rs, gh_tf_rr, gh_tf_hs, gh_tf_sk, gh_tf_ss, gh_tf_sr, gh_tf_fa, gh_tf_su, gh_tf_tr] at hR
                          refine ZV_aload_n (n := 358) dX12_tuplet_357 rfl rfl rfl ?_
                          refine ZV_getR (n := 361) dX12_tuplet_358 fl_X12_57 rfl rfl rfl (rf_sh hR :).1 ?_
                          refine ZV_iload (n := 363) dX12_tuplet_361 rfl rfl ?_
                          refine ZV_aload_n (n := 364) dX12_tuplet_363 rfl rfl rfl ?_
                          refine ZV_getR (n := 367) dX12_tuplet_364 fl_X12_42 rfl rfl rfl (rf_sh hR :).1 ?_
                          refine ZV_bipush (v := nI 40) (n := 369) dX12_tuplet_367 rfl rfl ?_
                          refine ZV_iload_n (n := 370) dX12_tuplet_369 rfl rfl rfl ?_
                          refine ZV_imulN (n := 371) dX12_tuplet_370 rfl ?_
                          refine ZV_iload (n := 373) dX12_tuplet_371 rfl rfl ?_
                          refine ZV_iaddN (n := 374) dX12_tuplet_373 rfl ?_
                          refine ZV_ialdv (n := 375) dX12_tuplet_374 rfl (ra_row (rf_sh hR :) :) (rk_row (rf_sh hR :) :) rfl (by omega) (Eq.trans ((rf_row hR v (a + k) (by omega) (by omega)) :) (show _ = nI (g_ro T v (a + k)) by first | simp only [gh_ro_ct, gh_ro_cu, gh_ro_cl, gh_ro_np, gh_ro_pk, gh_ro_nb, gh_ro_bt, gh_ro_ev, gh_ro_th, gh_ro_vo, gh_ro_kd, gh_ro_pn, gh_ro_pi, gh_ro_va, gh_ro_dt, gh_ro_ti, gh_ro_pl, gh_ro_mn, gh_ro_ro, gh_ro_te, gh_ro_tt, gh_ro_tv, gh_ro_tf, gh_ro_tl, gh_ro_tn, gh_ro_tm, gh_ro_tu, gh_ro_le, gh_ro_lt, gh_ro_lk, gh_ro_lf, gh_ro_lo, gh_ro_wm, gh_ro_wr, gh_ro_fo, gh_ro_fi, gh_ro_hr, gh_ro_rk, gh_ro_rs, gh_ro_rr, gh_ro_hs, gh_ro_sk, gh_ro_ss, gh_ro_sr, gh_ro_fa, gh_ro_su, gh_ro_tr] | rfl)) ?_
                          refine ZV_iast (n := 376) dX12_tuplet_375 rfl (ra_tupletLast (rf_sh hR :) :) (rk_tupletLast (rf_sh hR :) :) rfl (by omega) ?_
                          refine ZV_gen (P := fun τ => rR x τ _) (rR_tupletLast hR _) (fun σ hR => ?_)
                          try simp only [gh_tl_ct, gh_tl_cu, gh_tl_cl, gh_tl_np, gh_tl_pk, gh_tl_nb, gh_tl_bt, gh_tl_ev, gh_tl_th, gh_tl_vo, gh_tl_kd, gh_tl_pn, gh_tl_pi, gh_tl_va, gh_tl_dt, gh_tl_ti, gh_tl_pl, gh_tl_mn, gh_tl_ro, gh_tl_te, gh_tl_tt, gh_tl_tv, gh_tl_tf, gh_tl_tl, gh_tl_tn, gh_tl_tm, gh_tl_tu, gh_tl_le, gh_tl_lt, gh_tl_lk, gh_tl_lf, gh_tl_lo, gh_tl_wm, gh_tl_wr, gh_tl_fo, gh_tl_fi, gh_tl_hr, gh_tl_rk, gh_tl_rs, gh_tl_rr, gh_tl_hs, gh_tl_sk, gh_tl_ss, gh_tl_sr, gh_tl_fa, gh_tl_su, gh_tl_tr] at hR
                          refine ZV_aload_n (n := 377) dX12_tuplet_376 rfl rfl rfl ?_
                          refine ZV_getR (n := 380) dX12_tuplet_377 fl_X12_60 rfl rfl rfl (rf_sh hR :).1 ?_
                          refine ZV_iload (n := 382) dX12_tuplet_380 rfl rfl ?_
                          refine ZV_iload (n := 384) dX12_tuplet_382 rfl rfl ?_
                          refine ZV_iast (n := 385) dX12_tuplet_384 rfl (ra_tupletN (rf_sh hR :) :) (rk_tupletN (rf_sh hR :) :) rfl (by omega) ?_
                          refine ZV_gen (P := fun τ => rR x τ _) (rR_tupletN hR _) (fun σ hR => ?_)
                          try simp only [gh_tn_ct, gh_tn_cu, gh_tn_cl, gh_tn_np, gh_tn_pk, gh_tn_nb, gh_tn_bt, gh_tn_ev, gh_tn_th, gh_tn_vo, gh_tn_kd, gh_tn_pn, gh_tn_pi, gh_tn_va, gh_tn_dt, gh_tn_ti, gh_tn_pl, gh_tn_mn, gh_tn_ro, gh_tn_te, gh_tn_tt, gh_tn_tv, gh_tn_tf, gh_tn_tl, gh_tn_tn, gh_tn_tm, gh_tn_tu, gh_tn_le, gh_tn_lt, gh_tn_lk, gh_tn_lf, gh_tn_lo, gh_tn_wm, gh_tn_wr, gh_tn_fo, gh_tn_fi, gh_tn_hr, gh_tn_rk, gh_tn_rs, gh_tn_rr, gh_tn_hs, gh_tn_sk, gh_tn_ss, gh_tn_sr, gh_tn_fa, gh_tn_su, gh_tn_tr] at hR
                          refine ZV_aload_n (n := 386) dX12_tuplet_385 rfl rfl rfl ?_
                          refine ZV_getR (n := 389) dX12_tuplet_386 fl_X12_63 rfl rfl rfl (rf_sh hR :).1 ?_
                          refine ZV_iload (n := 391) dX12_tuplet_389 rfl rfl ?_
                          refine ZV_iload (n := 393) dX12_tuplet_391 rfl rfl ?_
                          refine ZV_iast (n := 394) dX12_tuplet_393 rfl (ra_tupletM (rf_sh hR :) :) (rk_tupletM (rf_sh hR :) :) rfl (by omega) ?_
                          refine ZV_gen (P := fun τ => rR x τ _) (rR_tupletM hR _) (fun σ hR => ?_)
                          try simp only [gh_tm_ct, gh_tm_cu, gh_tm_cl, gh_tm_np, gh_tm_pk, gh_tm_nb, gh_tm_bt, gh_tm_ev, gh_tm_th, gh_tm_vo, gh_tm_kd, gh_tm_pn, gh_tm_pi, gh_tm_va, gh_tm_dt, gh_tm_ti, gh_tm_pl, gh_tm_mn, gh_tm_ro, gh_tm_te, gh_tm_tt, gh_tm_tv, gh_tm_tf, gh_tm_tl, gh_tm_tn, gh_tm_tm, gh_tm_tu, gh_tm_le, gh_tm_lt, gh_tm_lk, gh_tm_lf, gh_tm_lo, gh_tm_wm, gh_tm_wr, gh_tm_fo, gh_tm_fi, gh_tm_hr, gh_tm_rk, gh_tm_rs, gh_tm_rr, gh_tm_hs, gh_tm_sk, gh_tm_ss, gh_tm_sr, gh_tm_fa, gh_tm_su, gh_tm_tr] at hR
                          refine ZV_aload_n (n := 395) dX12_tuplet_394 rfl rfl rfl ?_
                          refine ZV_getR (n := 398) dX12_tuplet_395 fl_X12_66 rfl rfl rfl (rf_sh hR :).1 ?_
                          refine ZV_iload (n := 400) dX12_tuplet_398 rfl rfl ?_
                          refine ZV_iload (n := 402) dX12_tuplet_400 rfl rfl ?_
                          refine ZV_iast (n := 403) dX12_tuplet_402 rfl (ra_tupletUnit (rf_sh hR :) :) (rk_tupletUnit (rf_sh hR :) :) rfl (by omega) ?_
                          refine ZV_gen (P := fun τ => rR x τ _) (rR_tupletUnit hR _) (fun σ hR => ?_)
                          try simp only [gh_tu_ct, gh_tu_cu, gh_tu_cl, gh_tu_np, gh_tu_pk, gh_tu_nb, gh_tu_bt, gh_tu_ev, gh_tu_th, gh_tu_vo, gh_tu_kd, gh_tu_pn, gh_tu_pi, gh_tu_va, gh_tu_dt, gh_tu_ti, gh_tu_pl, gh_tu_mn, gh_tu_ro, gh_tu_te, gh_tu_tt, gh_tu_tv, gh_tu_tf, gh_tu_tl, gh_tu_tn, gh_tu_tm, gh_tu_tu, gh_tu_le, gh_tu_lt, gh_tu_lk, gh_tu_lf, gh_tu_lo, gh_tu_wm, gh_tu_wr, gh_tu_fo, gh_tu_fi, gh_tu_hr, gh_tu_rk, gh_tu_rs, gh_tu_rr, gh_tu_hs, gh_tu_sk, gh_tu_ss, gh_tu_sr, gh_tu_fa, gh_tu_su, gh_tu_tr] at hR
                          refine ZV_iload (n := 405) dX12_tuplet_403 rfl rfl ?_
                          refine ZV_iret dX12_tuplet_405 rfl ?_
                          exact ⟨rfl, rR_s0 (by unfold tupT; exact hR) hsu⟩
                        · skip
                          rw [if_pos h287] at hZ0
                          subst hZ0
                          refine ZV_aload_n (n := 291) dX12_tuplet_290 rfl rfl rfl ?_
                          refine ZV_bipush (v := -4) (n := 293) dX12_tuplet_291 rfl rfl ?_
                          refine call_X12_130 (c_no hR _) rfl dX12_tuplet_293 rfl (rf_sh hR :).1 (Nat.le_of_ble_eq_true rfl) (Nat.le_of_ble_eq_true rfl) rfl (fun r9 σ9 hp9 => ?_)
                          obtain ⟨rfl, hR⟩ := hp9
                          refine ZV_iret dX12_tuplet_296 rfl ?_
                          exact ⟨rfl, hR⟩
                      · skip
                        have hro := ti_ro hI v (a + i) (by omega) (by omega)
                        have hzl := zcnt_le (liB T (g_ro T v (a + i))) (g_te T)
                        refine ZV_aload_n (n := 249) dX12_tuplet_248 rfl rfl rfl ?_
                        refine ZV_aload_n (n := 250) dX12_tuplet_249 rfl rfl rfl ?_
                        refine ZV_getR (n := 253) dX12_tuplet_250 fl_X12_42 rfl rfl rfl (rf_sh hR :).1 ?_
                        refine ZV_bipush (v := nI 40) (n := 255) dX12_tuplet_253 rfl rfl ?_
                        refine ZV_iload_n (n := 256) dX12_tuplet_255 rfl rfl rfl ?_
                        refine ZV_imulN (n := 257) dX12_tuplet_256 rfl ?_
                        refine ZV_iload (n := 259) dX12_tuplet_257 rfl rfl ?_
                        refine ZV_iaddN (n := 260) dX12_tuplet_259 rfl ?_
                        refine ZV_ialdv (n := 261) dX12_tuplet_260 rfl (ra_row (rf_sh hR :) :) (rk_row (rf_sh hR :) :) rfl (by omega) (rf_row hR _ _ (by omega) (by omega)) ?_
                        refine call_X12_255 (c_tupletsOf hR hI _ hro.1 hro.2.1) rfl dX12_tuplet_261 rfl (rf_sh hR :).1 (Nat.le_of_ble_eq_true rfl) (Nat.le_of_ble_eq_true rfl) rfl (fun r9 σ9 hp9 => ?_)
                        obtain ⟨rfl, hs9⟩ := hp9
                        subst σ9
                        refine ZV_iconst (v := nI 1) (n := 265) dX12_tuplet_264 rfl rfl ?_
                        refine ZV_icmp_leN (tgt := 275) (n := 268) dX12_tuplet_265 (by decide) rfl (by omega) (by omega) (fun h265 => ?_) (fun h265 => ?_)
                        · skip
                          refine ZV_iincN_9 (v := 1) (n := 278) dX12_tuplet_275 rfl rfl (Nat.le_of_ble_eq_true rfl) rfl ?_
                          refine ZV_goto (tgt := 241) dX12_tuplet_278 (by decide) ?_
                          exact ih (i + 1) (by omega) (by omega) hc (by rw [anyF, ho]; exact decide_eq_false (by omega))
                        · skip
                          refine ZV_aload_n (n := 269) dX12_tuplet_268 rfl rfl rfl ?_
                          refine ZV_bipush (v := -3) (n := 271) dX12_tuplet_269 rfl rfl ?_
                          refine call_X12_130 (c_no hR _) rfl dX12_tuplet_271 rfl (rf_sh hR :).1 (Nat.le_of_ble_eq_true rfl) (Nat.le_of_ble_eq_true rfl) rfl (fun r9 σ9 hp9 => ?_)
                          obtain ⟨rfl, hR⟩ := hp9
                          refine ZV_iret dX12_tuplet_274 rfl ?_
                          rw [if_pos (Or.inr (anyF_t (i := i) (show ovB T v a i = true from decide_eq_true (by omega)) (k + 1) (by omega)))] at hZ0
                          subst hZ0
                          exact ⟨rfl, hR⟩
                  have loopT : ∀ (n9 : Nat) (t : Nat), g_te T - t < n9 → t ≤ g_te T → anyF (crB T v a (a + k)) t = false → ZV M_X12_tuplet (fun y0 τ0 => y0 = some (Ai Z.1) ∧ rR x τ0 Z.2) 118 [some (Ar (some x)), some (Ai (nI v)), some (Ai (nI a)), some (Ai (nI (k + 1))), some (Ai (nI n)), some (Ai (nI m)), some (Ai (nI u)), some (Ai (bI (isN (nI n)))), some (Ai (nI (a + k))), some (Ai (nI t)), none, none, none] [] σ9 (zmC M_X12_tuplet) (zmS M_X12_tuplet) := by
                    intro n9
                    induction n9 with
                    | zero => intro t hm; exact absurd hm (Nat.not_lt_zero _)
                    | succ n9 ih =>
                      intro t hm ht hc
                      refine ZV_iload (n := 120) dX12_tuplet_118 rfl rfl ?_
                      refine ZV_aload_n (n := 121) dX12_tuplet_120 rfl rfl rfl ?_
                      refine ZV_getIv (n := 124) dX12_tuplet_121 fl_X12_199 rfl rfl rfl (rf_sh hR :).1 (rf_tupletsEver hR :) ?_
                      refine ZV_icmp_geN (tgt := 238) (n := 127) dX12_tuplet_124 (by decide) rfl (by omega) (by omega) (fun h124 => ?_) (fun h124 => ?_)
                      · skip
                        refine ZV_iload_n (n := 239) dX12_tuplet_238 rfl rfl rfl ?_
                        refine ZV_istore_9 (n := 241) dX12_tuplet_239 rfl (Nat.le_of_ble_eq_true rfl) rfl ?_
                        obtain rfl : t = g_te T := by omega
                        exact loopP _ 0 (Nat.lt_succ_self _) (by omega) hc rfl
                      · skip
                        refine ZV_aload_n (n := 128) dX12_tuplet_127 rfl rfl rfl ?_
                        refine ZV_getR (n := 131) dX12_tuplet_128 fl_X12_48 rfl rfl rfl (rf_sh hR :).1 ?_
                        refine ZV_iload (n := 133) dX12_tuplet_131 rfl rfl ?_
                        refine ZV_baldv (n := 134) dX12_tuplet_133 rfl (ra_isTuplet (rf_sh hR :) :) (rk_isTuplet (rf_sh hR :) :) rfl (by omega) (rf_isTuplet hR _ (by omega)) ?_
                        refine ZV_if_eqB (tgt := 232) (n := 137) dX12_tuplet_134 (by decide) rfl (fun h134 => ?_) (fun h134 => ?_)
                        · skip
                          refine ZV_iincN_9 (v := 1) (n := 235) dX12_tuplet_232 rfl rfl (Nat.le_of_ble_eq_true rfl) rfl ?_
                          refine ZV_goto (tgt := 118) dX12_tuplet_235 (by decide) ?_
                          have hcr : crB T v a (a + k) t = false := by
                            unfold crB
                            rw [h134]
                            rfl
                          exact ih (t + 1) (by omega) (by omega) (by rw [anyF, hc, hcr]; rfl)
                        · skip
                          have htp := ti_tp hI t (by omega) h134
                          have hvf := ti_vo hI _ htp.1
                          have hp1 := (ti_pl hI _ htp.1 htp.2.2.1).1
                          have hp2 := (ti_pl hI _ htp.2.1 htp.2.2.2.1).1
                          have hm1 := ti_mn hI (g_vo T (g_tf T t))
                          have hm2 := ti_mn hI (g_vo T (g_tl T t))
                          refine ZV_aload_n (n := 138) dX12_tuplet_137 rfl rfl rfl ?_
                          refine ZV_getR (n := 141) dX12_tuplet_138 fl_X12_51 rfl rfl rfl (rf_sh hR :).1 ?_
                          refine ZV_iload (n := 143) dX12_tuplet_141 rfl rfl ?_
                          refine ZV_ialdv (n := 144) dX12_tuplet_143 rfl (ra_tupletVoice (rf_sh hR :) :) (rk_tupletVoice (rf_sh hR :) :) rfl (by omega) (rf_tupletVoice hR _ (by omega)) ?_
                          refine ZV_iload_n (n := 145) dX12_tuplet_144 rfl rfl rfl ?_
                          refine ZV_icmp_neN (tgt := 232) (n := 148) dX12_tuplet_145 (by decide) rfl (by omega) (by omega) (fun h145 => ?_) (fun h145 => ?_)
                          · skip
                            refine ZV_iincN_9 (v := 1) (n := 235) dX12_tuplet_232 rfl rfl (Nat.le_of_ble_eq_true rfl) rfl ?_
                            refine ZV_goto (tgt := 118) dX12_tuplet_235 (by decide) ?_
                            have hcr : crB T v a (a + k) t = false := by
                              unfold crB
                              rw [h134, Bool.true_and]
                              exact decide_eq_false (fun z => h145 z.1)
                            exact ih (t + 1) (by omega) (by omega) (by rw [anyF, hc, hcr]; rfl)
                          · skip
                            refine ZV_aload_n (n := 149) dX12_tuplet_148 rfl rfl rfl ?_
                            refine ZV_aload_n (n := 150) dX12_tuplet_149 rfl rfl rfl ?_
                            refine ZV_getR (n := 153) dX12_tuplet_150 fl_X12_54 rfl rfl rfl (rf_sh hR :).1 ?_
                            refine ZV_iload (n := 155) dX12_tuplet_153 rfl rfl ?_
                            refine ZV_ialdv (n := 156) dX12_tuplet_155 rfl (ra_tupletFirst (rf_sh hR :) :) (rk_tupletFirst (rf_sh hR :) :) rfl (by omega) (rf_tupletFirst hR _ (by omega)) ?_
                            refine call_X12_196 (c_placeOf hR hI _ htp.1 htp.2.2.1) rfl dX12_tuplet_156 rfl (rf_sh hR :).1 (Nat.le_of_ble_eq_true rfl) (Nat.le_of_ble_eq_true rfl) rfl (fun r9 σ9 hp9 => ?_)
                            obtain ⟨rfl, hs9⟩ := hp9
                            subst σ9
                            refine ZV_istore_10 (n := 161) dX12_tuplet_159 rfl (Nat.le_of_ble_eq_true rfl) rfl ?_
                            refine ZV_aload_n (n := 162) dX12_tuplet_161 rfl rfl rfl ?_
                            refine ZV_aload_n (n := 163) dX12_tuplet_162 rfl rfl rfl ?_
                            refine ZV_getR (n := 166) dX12_tuplet_163 fl_X12_57 rfl rfl rfl (rf_sh hR :).1 ?_
                            refine ZV_iload (n := 168) dX12_tuplet_166 rfl rfl ?_
                            refine ZV_ialdv (n := 169) dX12_tuplet_168 rfl (ra_tupletLast (rf_sh hR :) :) (rk_tupletLast (rf_sh hR :) :) rfl (by omega) (rf_tupletLast hR _ (by omega)) ?_
                            refine call_X12_196 (c_placeOf hR hI _ htp.2.1 htp.2.2.2.1) rfl dX12_tuplet_169 rfl (rf_sh hR :).1 (Nat.le_of_ble_eq_true rfl) (Nat.le_of_ble_eq_true rfl) rfl (fun r9 σ9 hp9 => ?_)
                            obtain ⟨rfl, hs9⟩ := hp9
                            subst σ9
                            refine ZV_istore_11 (n := 174) dX12_tuplet_172 rfl (Nat.le_of_ble_eq_true rfl) rfl ?_
                            refine ZV_iload (n := 176) dX12_tuplet_174 rfl rfl ?_
                            refine ZV_iload_n (n := 177) dX12_tuplet_176 rfl rfl rfl ?_
                            refine ZV_icmp_ltN (tgt := 187) (n := 180) dX12_tuplet_177 (by decide) rfl (by omega) (by omega) (fun h177 => ?_) (fun h177 => ?_)
                            · skip
                              refine ZV_iconst (v := nI 1) (n := 188) dX12_tuplet_187 rfl rfl ?_
                              refine ZV_goto (tgt := 192) dX12_tuplet_188 (by decide) ?_
                              refine ZV_istore_12 (n := 194) dX12_tuplet_192 rfl (Nat.le_of_ble_eq_true rfl) rfl ?_
                              refine ZV_iload (n := 196) dX12_tuplet_194 rfl rfl ?_
                              refine ZV_if_neN (tgt := 232) (n := 199) dX12_tuplet_196 (by decide) rfl (by omega) (fun h196 => ?_) (fun h196 => ?_)
                              · skip
                                refine ZV_iincN_9 (v := 1) (n := 235) dX12_tuplet_232 rfl rfl (Nat.le_of_ble_eq_true rfl) rfl ?_
                                refine ZV_goto (tgt := 118) dX12_tuplet_235 (by decide) ?_
                                refine ZV_fg_10 ?_
                                refine ZV_fg_11 ?_
                                refine ZV_fg_12 ?_
                                have hcr : crB T v a (a + k) t = false := by
                                  unfold crB
                                  rw [h134, Bool.true_and]
                                  exact decide_eq_false (fun z => by omega)
                                exact ih (t + 1) (by omega) (by omega) (by rw [anyF, hc, hcr]; rfl)
                              · skip
                                exact absurd h196 (by decide)
                            · skip
                              refine ZV_iload (n := 182) dX12_tuplet_180 rfl rfl ?_
                              refine ZV_iload (n := 184) dX12_tuplet_182 rfl rfl ?_
                              refine ZV_icmp_leN (tgt := 191) (n := 187) dX12_tuplet_184 (by decide) rfl (by omega) (by omega) (fun h184 => ?_) (fun h184 => ?_)
                              · skip
                                refine ZV_iconst (v := nI 0) (n := 192) dX12_tuplet_191 rfl rfl ?_
                                refine ZV_istore_12 (n := 194) dX12_tuplet_192 rfl (Nat.le_of_ble_eq_true rfl) rfl ?_
                                refine ZV_iload (n := 196) dX12_tuplet_194 rfl rfl ?_
                                refine ZV_if_neN (tgt := 232) (n := 199) dX12_tuplet_196 (by decide) rfl (by omega) (fun h196 => ?_) (fun h196 => ?_)
                                · skip
                                  exact absurd rfl h196
                                · skip
                                  refine ZV_iload (n := 201) dX12_tuplet_199 rfl rfl ?_
                                  refine ZV_iload_n (n := 202) dX12_tuplet_201 rfl rfl rfl ?_
                                  refine ZV_icmp_gtN (tgt := 212) (n := 205) dX12_tuplet_202 (by decide) rfl (by omega) (by omega) (fun h202 => ?_) (fun h202 => ?_)
                                  · skip
                                    refine ZV_iload_n (n := 213) dX12_tuplet_212 rfl rfl rfl ?_
                                    refine ZV_iload (n := 215) dX12_tuplet_213 rfl rfl ?_
                                    refine ZV_icmp_gtN (tgt := 225) (n := 218) dX12_tuplet_215 (by decide) rfl (by omega) (by omega) (fun h215 => ?_) (fun h215 => ?_)
                                    · skip
                                      refine ZV_aload_n (n := 226) dX12_tuplet_225 rfl rfl rfl ?_
                                      refine ZV_bipush (v := -3) (n := 228) dX12_tuplet_226 rfl rfl ?_
                                      refine call_X12_130 (c_no hR _) rfl dX12_tuplet_228 rfl (rf_sh hR :).1 (Nat.le_of_ble_eq_true rfl) (Nat.le_of_ble_eq_true rfl) rfl (fun r9 σ9 hp9 => ?_)
                                      obtain ⟨rfl, hR⟩ := hp9
                                      refine ZV_iret dX12_tuplet_231 rfl ?_
                                      rw [if_pos (Or.inl (anyF_t (i := t) (show crB T v a (a + k) t = true from by unfold crB; rw [h134, Bool.true_and]; exact decide_eq_true ⟨h145, by omega, by omega, by omega⟩) (g_te T) (by omega)))] at hZ0
                                      subst hZ0
                                      exact ⟨rfl, hR⟩
                                    · skip
                                      refine ZV_iload (n := 220) dX12_tuplet_218 rfl rfl ?_
                                      refine ZV_iload (n := 222) dX12_tuplet_220 rfl rfl ?_
                                      refine ZV_icmp_leN (tgt := 232) (n := 225) dX12_tuplet_222 (by decide) rfl (by omega) (by omega) (fun h222 => ?_) (fun h222 => ?_)
                                      · skip
                                        refine ZV_iincN_9 (v := 1) (n := 235) dX12_tuplet_232 rfl rfl (Nat.le_of_ble_eq_true rfl) rfl ?_
                                        refine ZV_goto (tgt := 118) dX12_tuplet_235 (by decide) ?_
                                        refine ZV_fg_10 ?_
                                        refine ZV_fg_11 ?_
                                        refine ZV_fg_12 ?_
                                        have hcr : crB T v a (a + k) t = false := by
                                          unfold crB
                                          rw [h134, Bool.true_and]
                                          exact decide_eq_false (fun z => by omega)
                                        exact ih (t + 1) (by omega) (by omega) (by rw [anyF, hc, hcr]; rfl)
                                      · skip
                                        refine ZV_aload_n (n := 226) dX12_tuplet_225 rfl rfl rfl ?_
                                        refine ZV_bipush (v := -3) (n := 228) dX12_tuplet_226 rfl rfl ?_
                                        refine call_X12_130 (c_no hR _) rfl dX12_tuplet_228 rfl (rf_sh hR :).1 (Nat.le_of_ble_eq_true rfl) (Nat.le_of_ble_eq_true rfl) rfl (fun r9 σ9 hp9 => ?_)
                                        obtain ⟨rfl, hR⟩ := hp9
                                        refine ZV_iret dX12_tuplet_231 rfl ?_
                                        rw [if_pos (Or.inl (anyF_t (i := t) (show crB T v a (a + k) t = true from by unfold crB; rw [h134, Bool.true_and]; exact decide_eq_true ⟨h145, by omega, by omega, by omega⟩) (g_te T) (by omega)))] at hZ0
                                        subst hZ0
                                        exact ⟨rfl, hR⟩
                                  · skip
                                    refine ZV_iload (n := 207) dX12_tuplet_205 rfl rfl ?_
                                    refine ZV_iload (n := 209) dX12_tuplet_207 rfl rfl ?_
                                    refine ZV_icmp_leN (tgt := 232) (n := 212) dX12_tuplet_209 (by decide) rfl (by omega) (by omega) (fun h209 => ?_) (fun h209 => ?_)
                                    · skip
                                      refine ZV_iincN_9 (v := 1) (n := 235) dX12_tuplet_232 rfl rfl (Nat.le_of_ble_eq_true rfl) rfl ?_
                                      refine ZV_goto (tgt := 118) dX12_tuplet_235 (by decide) ?_
                                      refine ZV_fg_10 ?_
                                      refine ZV_fg_11 ?_
                                      refine ZV_fg_12 ?_
                                      have hcr : crB T v a (a + k) t = false := by
                                        unfold crB
                                        rw [h134, Bool.true_and]
                                        exact decide_eq_false (fun z => by omega)
                                      exact ih (t + 1) (by omega) (by omega) (by rw [anyF, hc, hcr]; rfl)
                                    · skip
                                      refine ZV_iload_n (n := 213) dX12_tuplet_212 rfl rfl rfl ?_
                                      refine ZV_iload (n := 215) dX12_tuplet_213 rfl rfl ?_
                                      refine ZV_icmp_gtN (tgt := 225) (n := 218) dX12_tuplet_215 (by decide) rfl (by omega) (by omega) (fun h215 => ?_) (fun h215 => ?_)
                                      · skip
                                        refine ZV_aload_n (n := 226) dX12_tuplet_225 rfl rfl rfl ?_
                                        refine ZV_bipush (v := -3) (n := 228) dX12_tuplet_226 rfl rfl ?_
                                        refine call_X12_130 (c_no hR _) rfl dX12_tuplet_228 rfl (rf_sh hR :).1 (Nat.le_of_ble_eq_true rfl) (Nat.le_of_ble_eq_true rfl) rfl (fun r9 σ9 hp9 => ?_)
                                        obtain ⟨rfl, hR⟩ := hp9
                                        refine ZV_iret dX12_tuplet_231 rfl ?_
                                        rw [if_pos (Or.inl (anyF_t (i := t) (show crB T v a (a + k) t = true from by unfold crB; rw [h134, Bool.true_and]; exact decide_eq_true ⟨h145, by omega, by omega, by omega⟩) (g_te T) (by omega)))] at hZ0
                                        subst hZ0
                                        exact ⟨rfl, hR⟩
                                      · skip
                                        refine ZV_iload (n := 220) dX12_tuplet_218 rfl rfl ?_
                                        refine ZV_iload (n := 222) dX12_tuplet_220 rfl rfl ?_
                                        refine ZV_icmp_leN (tgt := 232) (n := 225) dX12_tuplet_222 (by decide) rfl (by omega) (by omega) (fun h222 => ?_) (fun h222 => ?_)
                                        · skip
                                          refine ZV_iincN_9 (v := 1) (n := 235) dX12_tuplet_232 rfl rfl (Nat.le_of_ble_eq_true rfl) rfl ?_
                                          refine ZV_goto (tgt := 118) dX12_tuplet_235 (by decide) ?_
                                          refine ZV_fg_10 ?_
                                          refine ZV_fg_11 ?_
                                          refine ZV_fg_12 ?_
                                          have hcr : crB T v a (a + k) t = false := by
                                            unfold crB
                                            rw [h134, Bool.true_and]
                                            exact decide_eq_false (fun z => by omega)
                                          exact ih (t + 1) (by omega) (by omega) (by rw [anyF, hc, hcr]; rfl)
                                        · skip
                                          refine ZV_aload_n (n := 226) dX12_tuplet_225 rfl rfl rfl ?_
                                          refine ZV_bipush (v := -3) (n := 228) dX12_tuplet_226 rfl rfl ?_
                                          refine call_X12_130 (c_no hR _) rfl dX12_tuplet_228 rfl (rf_sh hR :).1 (Nat.le_of_ble_eq_true rfl) (Nat.le_of_ble_eq_true rfl) rfl (fun r9 σ9 hp9 => ?_)
                                          obtain ⟨rfl, hR⟩ := hp9
                                          refine ZV_iret dX12_tuplet_231 rfl ?_
                                          rw [if_pos (Or.inl (anyF_t (i := t) (show crB T v a (a + k) t = true from by unfold crB; rw [h134, Bool.true_and]; exact decide_eq_true ⟨h145, by omega, by omega, by omega⟩) (g_te T) (by omega)))] at hZ0
                                          subst hZ0
                                          exact ⟨rfl, hR⟩
                              · skip
                                refine ZV_iconst (v := nI 1) (n := 188) dX12_tuplet_187 rfl rfl ?_
                                refine ZV_goto (tgt := 192) dX12_tuplet_188 (by decide) ?_
                                refine ZV_istore_12 (n := 194) dX12_tuplet_192 rfl (Nat.le_of_ble_eq_true rfl) rfl ?_
                                refine ZV_iload (n := 196) dX12_tuplet_194 rfl rfl ?_
                                refine ZV_if_neN (tgt := 232) (n := 199) dX12_tuplet_196 (by decide) rfl (by omega) (fun h196 => ?_) (fun h196 => ?_)
                                · skip
                                  refine ZV_iincN_9 (v := 1) (n := 235) dX12_tuplet_232 rfl rfl (Nat.le_of_ble_eq_true rfl) rfl ?_
                                  refine ZV_goto (tgt := 118) dX12_tuplet_235 (by decide) ?_
                                  refine ZV_fg_10 ?_
                                  refine ZV_fg_11 ?_
                                  refine ZV_fg_12 ?_
                                  have hcr : crB T v a (a + k) t = false := by
                                    unfold crB
                                    rw [h134, Bool.true_and]
                                    exact decide_eq_false (fun z => by omega)
                                  exact ih (t + 1) (by omega) (by omega) (by rw [anyF, hc, hcr]; rfl)
                                · skip
                                  exact absurd h196 (by decide)
                  exact loopT _ 0 (Nat.lt_succ_self _) (Nat.zero_le _) rfl
                · skip
                  refine ZV_aload_n (n := 102) dX12_tuplet_101 rfl rfl rfl ?_
                  refine ZV_bipush (v := -2) (n := 104) dX12_tuplet_102 rfl rfl ?_
                  refine call_X12_130 (c_no hR _) rfl dX12_tuplet_104 rfl (rf_sh hR :).1 (Nat.le_of_ble_eq_true rfl) (Nat.le_of_ble_eq_true rfl) rfl (fun r9 σ9 hp9 => ?_)
                  obtain ⟨rfl, hR⟩ := hp9
                  refine ZV_iret dX12_tuplet_107 rfl ?_
                  exact zleaf (v := sNo T (-2)) (by rw [sp_tuplet, if_neg (fun z => by rw [h98] at z; exact absurd z.2.2.2.2 (by decide))]) rfl hR
  refine ZV_iload (n := 6) dX12_tuplet_4 rfl rfl ?_
  refine ZV_iconst (v := nI 3) (n := 7) dX12_tuplet_6 rfl rfl ?_
  refine ZV_icmp_eq (tgt := 30) (n := 10) dX12_tuplet_7 (by decide) rfl (fun h7 => ?_) (fun h7 => ?_)
  · skip
    refine ZV_iconst (v := nI 1) (n := 31) dX12_tuplet_30 rfl rfl ?_
    refine ZV_goto (tgt := 35) dX12_tuplet_31 (by decide) ?_
    refine ZV_topi (w := bI (isN n)) (by first | (rw [show isN n = true from decide_eq_true (by first | exact Or.inl h7 | exact Or.inr (Or.inl h13) | exact Or.inr (Or.inr (Or.inl h20)) | exact Or.inr (Or.inr (Or.inr h27)))]; rfl) | (rw [show isN n = false from decide_eq_false (fun z => by rcases z with z | z | z | z; exact h7 z; exact h13 z; exact h20 z; exact h27 z)]; rfl)) ?_
    exact tail
  · skip
    refine ZV_iload (n := 12) dX12_tuplet_10 rfl rfl ?_
    refine ZV_iconst (v := nI 5) (n := 13) dX12_tuplet_12 rfl rfl ?_
    refine ZV_icmp_eq (tgt := 30) (n := 16) dX12_tuplet_13 (by decide) rfl (fun h13 => ?_) (fun h13 => ?_)
    · skip
      refine ZV_iconst (v := nI 1) (n := 31) dX12_tuplet_30 rfl rfl ?_
      refine ZV_goto (tgt := 35) dX12_tuplet_31 (by decide) ?_
      refine ZV_topi (w := bI (isN n)) (by first | (rw [show isN n = true from decide_eq_true (by first | exact Or.inl h7 | exact Or.inr (Or.inl h13) | exact Or.inr (Or.inr (Or.inl h20)) | exact Or.inr (Or.inr (Or.inr h27)))]; rfl) | (rw [show isN n = false from decide_eq_false (fun z => by rcases z with z | z | z | z; exact h7 z; exact h13 z; exact h20 z; exact h27 z)]; rfl)) ?_
      exact tail
    · skip
      refine ZV_iload (n := 18) dX12_tuplet_16 rfl rfl ?_
      refine ZV_bipush (v := nI 6) (n := 20) dX12_tuplet_18 rfl rfl ?_
      refine ZV_icmp_eq (tgt := 30) (n := 23) dX12_tuplet_20 (by decide) rfl (fun h20 => ?_) (fun h20 => ?_)
      · skip
        refine ZV_iconst (v := nI 1) (n := 31) dX12_tuplet_30 rfl rfl ?_
        refine ZV_goto (tgt := 35) dX12_tuplet_31 (by decide) ?_
        refine ZV_topi (w := bI (isN n)) (by first | (rw [show isN n = true from decide_eq_true (by first | exact Or.inl h7 | exact Or.inr (Or.inl h13) | exact Or.inr (Or.inr (Or.inl h20)) | exact Or.inr (Or.inr (Or.inr h27)))]; rfl) | (rw [show isN n = false from decide_eq_false (fun z => by rcases z with z | z | z | z; exact h7 z; exact h13 z; exact h20 z; exact h27 z)]; rfl)) ?_
        exact tail
      · skip
        refine ZV_iload (n := 25) dX12_tuplet_23 rfl rfl ?_
        refine ZV_bipush (v := nI 7) (n := 27) dX12_tuplet_25 rfl rfl ?_
        refine ZV_icmp_ne (tgt := 34) (n := 30) dX12_tuplet_27 (by decide) rfl (fun h27 => ?_) (fun h27 => ?_)
        · skip
          refine ZV_iconst (v := nI 0) (n := 35) dX12_tuplet_34 rfl rfl ?_
          refine ZV_topi (w := bI (isN n)) (by first | (rw [show isN n = true from decide_eq_true (by first | exact Or.inl h7 | exact Or.inr (Or.inl h13) | exact Or.inr (Or.inr (Or.inl h20)) | exact Or.inr (Or.inr (Or.inr h27)))]; rfl) | (rw [show isN n = false from decide_eq_false (fun z => by rcases z with z | z | z | z; exact h7 z; exact h13 z; exact h20 z; exact h27 z)]; rfl)) ?_
          exact tail
        · skip
          refine ZV_iconst (v := nI 1) (n := 31) dX12_tuplet_30 rfl rfl ?_
          refine ZV_goto (tgt := 35) dX12_tuplet_31 (by decide) ?_
          refine ZV_topi (w := bI (isN n)) (by first | (rw [show isN n = true from decide_eq_true (by first | exact Or.inl h7 | exact Or.inr (Or.inl h13) | exact Or.inr (Or.inr (Or.inl h20)) | exact Or.inr (Or.inr (Or.inr h27)))]; rfl) | (rw [show isN n = false from decide_eq_false (fun z => by rcases z with z | z | z | z; exact h7 z; exact h13 z; exact h20 z; exact h27 z)]; rfl)) ?_
          exact tail
