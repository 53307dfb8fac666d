theorem fit_f {a b : Bool} (h : (!a && !b) = false) : b = true ∨ a = true := by cases a <;> cases b <;> simp_all
theorem fit_t {a b : Bool} (h : (!a && !b) = true) : a = false ∧ b = false := by cases a <;> cases b <;> simp_all
theorem fit_n {a b : Bool} (h : (!a && !b) = true) : ¬ (b = true ∨ a = true) := by cases a <;> cases b <;> simp_all
theorem tw_tm2 {T : TS} (hI : tI T) {v a b n m u e : Nat} (he : g_vo T e ≠ v) : tmT (tupT T v a b n m u) e = tmT T e := by
  unfold tmT
  have h0 : ∀ t, t < g_te T → liB (tupT T v a b n m u) e t = liB T e t ∧ (liB T e t = true → g_tn (tupT T v a b n m u) t = g_tn T t ∧ g_tm (tupT T v a b n m u) t = g_tm T t) := by
    intro t ht
    unfold liB
    rw [tw_tt, tw_tv, tw_vo, tw_pl, tw_tf, tw_tl, tw_tn, tw_tm, up_ne (by omega), up_ne (by omega), up_ne (by omega), up_ne (by omega), up_ne (by omega), up_ne (by omega)]
    exact ⟨rfl, fun _ => ⟨rfl, rfl⟩⟩
  have hw : wrT (tupT T v a b n m u) e = wrT T e := by
    unfold wrT
    rw [tw_kd, tw_dt, tw_va]
  have hl : liB (tupT T v a b n m u) e (g_te T) = false := by
    unfold liB
    rw [tw_tv, tw_vo, up_eq, decide_eq_false (fun z => he z.1.symm), Bool.and_false]
  rw [tw_te, tmF, hl, if_neg Bool.false_ne_true, tmF_cg hw (g_te T) h0]
theorem kT_tuplet {T : TS} {K : KS} (hI : tI T) (hK : kI T K) {v a k n m u b : Nat} (hv : v < 3 * g_np T) (hk : 1 ≤ k) (hak : a + k ≤ g_mn T v) : kT (tupT T v a (a + k - 1) n m u) (j_tk (j_t1 (j_ta K (va_up (k_ta K) (g_te T) b)) (va_up (k_t1 K) (g_te T) a)) (va_up (k_tk K) (g_te T) k)) := by
  have hnp := ti_np hI
  have ra := ti_ro hI v a (by omega) (by omega)
  have rb := ti_ro hI v (a + k - 1) (by omega) (by omega)
  intro t ht htt
  unfold szT
  rw [tw_te] at ht
  rw [tw_tt] at htt
  rw [tw_pl, tw_tf, tw_tl]
  show va_up (k_t1 K) (g_te T) a t = _ ∧ va_up (k_tk K) (g_te T) k t = _
  by_cases q : t = g_te T
  · subst q
    rw [up_eq, up_eq, up_eq, up_eq, ra.2.2.2, rb.2.2.2]
    exact ⟨rfl, by omega⟩
  · rw [up_ne q] at htt
    rw [up_ne q, up_ne q, up_ne q, up_ne q]
    exact ki_kT hK t (by omega) htt
theorem kI_tuplet {T : TS} {K L : KS} (hI : tI T) (hK : kI T K) {v a k n m u b : Nat} (hv : v < 3 * g_np T) (hk : 1 ≤ k) (hak : a + k ≤ g_mn T v) (hS : tI (tupT T v a (a + k - 1) n m u)) (h : loI (tupT T v a (a + k - 1) n m u) (j_tk (j_t1 (j_ta K (va_up (k_ta K) (g_te T) b)) (va_up (k_t1 K) (g_te T) a)) (va_up (k_tk K) (g_te T) k)) L v) : kI (tupT T v a (a + k - 1) n m u) L := by
  have ho := kI_ot (v := v) (S := (tupT T v a (a + k - 1) n m u)) hI hS hK (tw_np T _ _ _ _ _ _) (fun w _ => by rw [tw_mn]) (fun w _ => by rw [tw_ro]) (fun f hf htf hne => by
    rw [tw_ev] at hf
    rw [tw_th] at htf
    rw [tw_vo, tw_pl]
    exact ⟨hf, htf, rfl, rfl⟩) (fun f hf htf hne => tw_tm2 hI hne)
  refine kI_lo hS (by rw [tw_np]; exact hv) h ho.1 ho.2 (kT_tuplet hI hK hv hk hak) ?_ ?_
  · rw [tw_nb]
    intro b2 hb2
    exact (ki_be hK b2 hb2).trans (baF_cg _ (fun _ _ => by rw [tw_bt])).symm
  · rw [tw_np, tw_tr]
    exact ki_as (K := K) hK
theorem tuA_f1 {a k : Int32} {s : Nat} (h : a < 0) : tuA a k s = false := by
  rw [Int32.lt_iff_toInt_lt, i32_0] at h
  exact decide_eq_false (by omega)
theorem tuA_f2 {a k : Int32} {s : Nat} (h : k < nI 1) : tuA a k s = false := by
  rw [Int32.lt_iff_toInt_lt, nI_toInt (by decide)] at h
  exact decide_eq_false (by omega)
theorem tuA_c {a k : Int32} {s : Nat} (hs : s ≤ 40) (h0 : ¬ a < 0) (h1 : ¬ k < nI 1) : a ≤ nI s - k ↔ tuA a k s = true := by
  rw [Int32.lt_iff_toInt_lt, i32_0] at h0
  rw [Int32.lt_iff_toInt_lt, nI_toInt (by decide)] at h1
  have h2 := k.toInt_lt
  have h3 : (nI s - k).toInt = (s : Int) - k.toInt := by
    rw [Int32.toInt_sub, nI_toInt (by omega), Int.bmod_eq_of_le (by omega) (by omega)]
  rw [Int32.le_iff_toInt_le, h3]
  unfold tuA
  rw [decide_eq_true_iff]
  omega
set_option maxHeartbeats 4000000 in
set_option maxRecDepth 100000 in
theorem q_tuplet {c : Nat} {σ : ZS} {T : TS} (hR : cR c σ T) (hI : tI T) (v a k n m u : Int32) : ZC M_X11_tuplet [Ar (some c), Ai v, Ai a, Ai k, Ai n, Ai m, Ai u] σ (fun y0 τ0 => y0 = some (Ai (sp_tuplet T v a k n m u).1) ∧ cR c τ0 (sp_tuplet T v a k n m u).2) := by
  obtain ⟨B, K, hG, hK⟩ := hR
  have hbd := cf_bd hG
  refine ZC_of (ls := [some (Ar (some c)), some (Ai v), some (Ai a), some (Ai k), some (Ai n), some (Ai m), some (Ai u), none]) (by decide) (Nat.le_of_ble_eq_true rfl) rfl ?_
  refine ZV_aload_n (n := 1) dX11_tuplet_0 rfl rfl rfl ?_
  refine ZV_iload_n (n := 2) dX11_tuplet_1 rfl rfl rfl ?_
  refine call_X11_112 (e_voiceOf hG _) rfl dX11_tuplet_2 rfl (cf_sh hG :).1 (Nat.le_of_ble_eq_true rfl) (Nat.le_of_ble_eq_true rfl) rfl (fun r9 σ9 hp9 => ?_)
  obtain ⟨hs9, hp9⟩ := hp9
  subst σ9
  rcases hp9 with ⟨hv2, hr9⟩ | ⟨v2, he2, hn2, hr9⟩
  · skip
    subst hr9
    refine ZV_astore_7 (n := 7) dX11_tuplet_5 rfl (Nat.le_of_ble_eq_true rfl) rfl ?_
    refine ZV_aload (n := 9) dX11_tuplet_7 rfl rfl ?_
    refine ZV_ifnull_n (tgt := 32) dX11_tuplet_9 (by decide) ?_
    refine ZV_aload_n (n := 33) dX11_tuplet_32 rfl rfl rfl ?_
    refine ZV_bipush (v := -2) (n := 35) dX11_tuplet_33 rfl rfl ?_
    refine call_X11_87 (e_refuse hG _) rfl dX11_tuplet_35 rfl (cf_sh hG :).1 (Nat.le_of_ble_eq_true rfl) (Nat.le_of_ble_eq_true rfl) rfl (fun r9 σ9 hp9 => ?_)
    obtain ⟨rfl, hG⟩ := hp9
    refine ZV_iret dX11_tuplet_38 rfl ?_
    exact zlC (v := sNo T (-2)) (by rw [sp_tuplet, if_neg (fun z => by rw [hv2] at z; cases z.1)]) rfl ⟨B, K, hG, kI_e hK ⟨rfl, rfl, rfl, rfl, rfl, rfl, rfl, rfl, rfl, rfl, rfl, rfl, rfl, rfl, rfl, rfl, rfl, rfl, rfl, rfl⟩⟩
  · skip
    subst hr9
    subst hn2
    have hE2 : inB (nI v2) (3 * g_np T) = true := by rw [inB_nI (by omega)]; exact decide_eq_true he2
    have hmn2 := ti_mn hI v2
    have hc2 : (nI v2).toNatClampNeg = v2 := nI_clamp (by omega)
    refine ZV_astore_7 (n := 7) dX11_tuplet_5 rfl (Nat.le_of_ble_eq_true rfl) rfl ?_
    refine ZV_aload (n := 9) dX11_tuplet_7 rfl rfl ?_
    refine ZV_ifnull_s (tgt := 32) (n := 12) dX11_tuplet_9 (by decide) rfl ?_
    refine ZV_iload_n (n := 13) dX11_tuplet_12 rfl rfl rfl ?_
    refine ZV_if_lt (tgt := 32) (n := 16) dX11_tuplet_13 (by decide) rfl (fun h13 => ?_) (fun h13 => ?_)
    · skip
      refine ZV_aload_n (n := 33) dX11_tuplet_32 rfl rfl rfl ?_
      refine ZV_bipush (v := -2) (n := 35) dX11_tuplet_33 rfl rfl ?_
      refine call_X11_87 (e_refuse hG _) rfl dX11_tuplet_35 rfl (cf_sh hG :).1 (Nat.le_of_ble_eq_true rfl) (Nat.le_of_ble_eq_true rfl) rfl (fun r9 σ9 hp9 => ?_)
      obtain ⟨rfl, hG⟩ := hp9
      refine ZV_iret dX11_tuplet_38 rfl ?_
      exact zlC (v := sNo T (-2)) (by rw [sp_tuplet, hc2, if_neg (fun z => by have y := z.2.1; rw [show tuA a k (g_mn T v2) = false from tuA_f1 h13] at y; cases y)]) rfl ⟨B, K, hG, kI_e hK ⟨rfl, rfl, rfl, rfl, rfl, rfl, rfl, rfl, rfl, rfl, rfl, rfl, rfl, rfl, rfl, rfl, rfl, rfl, rfl, rfl⟩⟩
    · skip
      refine ZV_iload_n (n := 17) dX11_tuplet_16 rfl rfl rfl ?_
      refine ZV_iconst (v := nI 1) (n := 18) dX11_tuplet_17 rfl rfl ?_
      refine ZV_icmp_lt (tgt := 32) (n := 21) dX11_tuplet_18 (by decide) rfl (fun h18 => ?_) (fun h18 => ?_)
      · skip
        refine ZV_aload_n (n := 33) dX11_tuplet_32 rfl rfl rfl ?_
        refine ZV_bipush (v := -2) (n := 35) dX11_tuplet_33 rfl rfl ?_
        refine call_X11_87 (e_refuse hG _) rfl dX11_tuplet_35 rfl (cf_sh hG :).1 (Nat.le_of_ble_eq_true rfl) (Nat.le_of_ble_eq_true rfl) rfl (fun r9 σ9 hp9 => ?_)
        obtain ⟨rfl, hG⟩ := hp9
        refine ZV_iret dX11_tuplet_38 rfl ?_
        exact zlC (v := sNo T (-2)) (by rw [sp_tuplet, hc2, if_neg (fun z => by have y := z.2.1; rw [show tuA a k (g_mn T v2) = false from tuA_f2 h18] at y; cases y)]) rfl ⟨B, K, hG, kI_e hK ⟨rfl, rfl, rfl, rfl, rfl, rfl, rfl, rfl, rfl, rfl, rfl, rfl, rfl, rfl, rfl, rfl, rfl, rfl, rfl, rfl⟩⟩
      · skip
        refine ZV_iload_n (n := 22) dX11_tuplet_21 rfl rfl rfl ?_
        refine ZV_aload (n := 24) dX11_tuplet_22 rfl rfl ?_
        refine ZV_getIv (n := 27) dX11_tuplet_24 fl_X11_116 rfl rfl rfl (cf_vk hG v2 he2).1 (cf_vs hG v2 he2) ?_
        refine ZV_iload_n (n := 28) dX11_tuplet_27 rfl rfl rfl ?_
        refine ZV_isub (n := 29) dX11_tuplet_28 rfl ?_
        refine ZV_icmp_le (tgt := 39) (n := 32) dX11_tuplet_29 (by decide) rfl (fun h29 => ?_) (fun h29 => ?_)
        · skip
          refine ZV_iload (n := 41) dX11_tuplet_39 rfl rfl ?_
          refine call_X11_274 (e_isTupletN _ _) rfl dX11_tuplet_41 (Nat.le_of_ble_eq_true rfl) (Nat.le_of_ble_eq_true rfl) rfl (fun r9 σ9 hp9 => ?_)
          obtain ⟨rfl, hs9⟩ := hp9
          subst σ9
          refine ZV_if_eqB (tgt := 68) (n := 47) dX11_tuplet_44 (by decide) rfl (fun h44 => ?_) (fun h44 => ?_)
          · skip
            refine ZV_aload_n (n := 69) dX11_tuplet_68 rfl rfl rfl ?_
            refine ZV_bipush (v := -2) (n := 71) dX11_tuplet_69 rfl rfl ?_
            refine call_X11_87 (e_refuse hG _) rfl dX11_tuplet_71 rfl (cf_sh hG :).1 (Nat.le_of_ble_eq_true rfl) (Nat.le_of_ble_eq_true rfl) rfl (fun r9 σ9 hp9 => ?_)
            obtain ⟨rfl, hG⟩ := hp9
            refine ZV_iret dX11_tuplet_74 rfl ?_
            exact zlC (v := sNo T (-2)) (by rw [sp_tuplet, if_neg (fun z => by have y := z.2.2.1; rw [h44] at y; cases y)]) rfl ⟨B, K, hG, kI_e hK ⟨rfl, rfl, rfl, rfl, rfl, rfl, rfl, rfl, rfl, rfl, rfl, rfl, rfl, rfl, rfl, rfl, rfl, rfl, rfl, rfl⟩⟩
          · skip
            refine ZV_iload (n := 49) dX11_tuplet_47 rfl rfl ?_
            refine ZV_iconst (v := nI 1) (n := 50) dX11_tuplet_49 rfl rfl ?_
            refine ZV_icmp_lt (tgt := 68) (n := 53) dX11_tuplet_50 (by decide) rfl (fun h50 => ?_) (fun h50 => ?_)
            · skip
              refine ZV_aload_n (n := 69) dX11_tuplet_68 rfl rfl rfl ?_
              refine ZV_bipush (v := -2) (n := 71) dX11_tuplet_69 rfl rfl ?_
              refine call_X11_87 (e_refuse hG _) rfl dX11_tuplet_71 rfl (cf_sh hG :).1 (Nat.le_of_ble_eq_true rfl) (Nat.le_of_ble_eq_true rfl) rfl (fun r9 σ9 hp9 => ?_)
              obtain ⟨rfl, hG⟩ := hp9
              refine ZV_iret dX11_tuplet_74 rfl ?_
              exact zlC (v := sNo T (-2)) (by rw [sp_tuplet, if_neg (fun z => by have y := z.2.2.2.1; rw [inR_no1 h50] at y; cases y)]) rfl ⟨B, K, hG, kI_e hK ⟨rfl, rfl, rfl, rfl, rfl, rfl, rfl, rfl, rfl, rfl, rfl, rfl, rfl, rfl, rfl, rfl, rfl, rfl, rfl, rfl⟩⟩
            · skip
              refine ZV_iload (n := 55) dX11_tuplet_53 rfl rfl ?_
              refine ZV_bipush (v := nI 8) (n := 57) dX11_tuplet_55 rfl rfl ?_
              refine ZV_icmp_gt (tgt := 68) (n := 60) dX11_tuplet_57 (by decide) rfl (fun h57 => ?_) (fun h57 => ?_)
              · skip
                refine ZV_aload_n (n := 69) dX11_tuplet_68 rfl rfl rfl ?_
                refine ZV_bipush (v := -2) (n := 71) dX11_tuplet_69 rfl rfl ?_
                refine call_X11_87 (e_refuse hG _) rfl dX11_tuplet_71 rfl (cf_sh hG :).1 (Nat.le_of_ble_eq_true rfl) (Nat.le_of_ble_eq_true rfl) rfl (fun r9 σ9 hp9 => ?_)
                obtain ⟨rfl, hG⟩ := hp9
                refine ZV_iret dX11_tuplet_74 rfl ?_
                exact zlC (v := sNo T (-2)) (by rw [sp_tuplet, if_neg (fun z => by have y := z.2.2.2.1; rw [inR_no2 (by decide) h57] at y; cases y)]) rfl ⟨B, K, hG, kI_e hK ⟨rfl, rfl, rfl, rfl, rfl, rfl, rfl, rfl, rfl, rfl, rfl, rfl, rfl, rfl, rfl, rfl, rfl, rfl, rfl, rfl⟩⟩
              · skip
                refine ZV_iload (n := 62) dX11_tuplet_60 rfl rfl ?_
                refine call_X11_127 (e_isValue _ _) rfl dX11_tuplet_62 (Nat.le_of_ble_eq_true rfl) (Nat.le_of_ble_eq_true rfl) rfl (fun r9 σ9 hp9 => ?_)
                obtain ⟨rfl, hs9⟩ := hp9
                subst σ9
                refine ZV_if_neB (tgt := 75) (n := 68) dX11_tuplet_65 (by decide) rfl (fun h65 => ?_) (fun h65 => ?_)
                · skip
                  have hM := inR_ok (by decide) h50 h57
                  obtain ⟨m9, hm9, hm92⟩ := inR_t (by decide) hM
                  subst hm92
                  have hcm : (nI m9).toNatClampNeg = m9 := nI_clamp (by omega)
                  have hM : inR (nI m9) 1 8 = true := hM
                  obtain ⟨n9, hn92, hn9⟩ := isN_t h44
                  subst hn92
                  have hcn : (nI n9).toNatClampNeg = n9 := nI_clamp (by omega)
                  have h44 : isN (nI n9) = true := h44
                  obtain ⟨u9, hu9, hu92, hu93⟩ := inB_t h65
                  subst hu93
                  have hcu : (nI u9).toNatClampNeg = u9 := nI_clamp hu92
                  have h65 : inB (nI u9) 6 = true := h65
                  have hA := (tuA_c hmn2 h13 h18).mp h29
                  obtain ⟨a9, k8, hak8, ha92, hk92, ha93, hk93⟩ := tuA_t hA
                  obtain ⟨k9, hk9⟩ : ∃ q, q = k8 + 1 := ⟨_, rfl⟩
                  rw [← hk9] at hk93 hak8 hk92
                  subst ha93 hk93
                  have hca : (nI a9).toNatClampNeg = a9 := nI_clamp ha92
                  have hck : (nI k9).toNatClampNeg = k9 := nI_clamp hk92
                  have hA : tuA (nI a9) (nI k9) (g_mn T v2) = true := hA
                  have hk1 : 1 ≤ k9 := by omega
                  refine ZV_aload_n (n := 76) dX11_tuplet_75 rfl rfl rfl ?_
                  refine ZV_aload (n := 78) dX11_tuplet_76 rfl rfl ?_
                  refine ZV_iload_n (n := 79) dX11_tuplet_78 rfl rfl rfl ?_
                  refine ZV_iload_n (n := 80) dX11_tuplet_79 rfl rfl rfl ?_
                  refine call_X11_277 (e_tupletFits hG hI hK he2 hk1 (by omega)) rfl dX11_tuplet_80 rfl (cf_sh hG :).1 (Nat.le_of_ble_eq_true rfl) (Nat.le_of_ble_eq_true rfl) rfl (fun r9 σ9 hp9 => ?_)
                  obtain ⟨rfl, hs9⟩ := hp9
                  subst σ9
                  refine ZV_if_neB (tgt := 93) (n := 86) dX11_tuplet_83 (by decide) rfl (fun h83 => ?_) (fun h83 => ?_)
                  · skip
                    have hft := fit_t h83
                    have hov := hft.1
                    have hcr := hft.2
                    refine ZV_aload_n (n := 94) dX11_tuplet_93 rfl rfl rfl ?_
                    refine ZV_getIv (n := 97) dX11_tuplet_94 fl_X11_47 rfl rfl rfl (cf_sh hG :).1 (cf_te hG :) ?_
                    refine ZV_bipush (v := nI 20) (n := 99) dX11_tuplet_97 rfl rfl ?_
                    refine ZV_icmp_ltN (tgt := 109) (n := 102) dX11_tuplet_99 (by decide) rfl (by omega) (by omega) (fun h99 => ?_) (fun h99 => ?_)
                    · skip
                      have hn20 : g_te T ≠ 20 := by omega
                      refine ZV_aload_n (n := 110) dX11_tuplet_109 rfl rfl rfl ?_
                      refine ZV_getRv (n := 113) dX11_tuplet_110 fl_X11_43 rfl rfl rfl (cf_sh hG :).1 (ca_tuplets (cf_sh hG :)) ?_
                      refine ZV_aload_n (n := 114) dX11_tuplet_113 rfl rfl rfl ?_
                      refine ZV_getIv (n := 117) dX11_tuplet_114 fl_X11_47 rfl rfl rfl (cf_sh hG :).1 (cf_te hG :) ?_
                      refine ZV_newC (ci := 9) (N := 7) (n := 120) dX11_tuplet_117 rfl (by decide) rfl wd_1_32 wd_3_89 wd_1_13 ?_
                      obtain ⟨b9, hb9⟩ : ∃ b, b = zn σ := ⟨_, rfl⟩
                      rw [← hb9]
                      have hB9 : B ≤ b9 := by rw [hb9]; exact (cf_B hG).2
                      refine ZV_gen (P := fun τ => cG c B τ T K ∧ zk τ b9 = (1, 9) ∧ zn τ = b9 + 1) ⟨cG_ag (zag_new (cf_B hG).2) hG, by rw [hb9]; exact zk_new _ _, by rw [hb9]; rfl⟩ (fun σ hG9 => ?_)
                      clear hb9
                      obtain ⟨hG, hkb, hzb⟩ := hG9
                      refine ZV_dup (n := 121) dX11_tuplet_120 rfl rfl ?_
                      refine ZV_aload_n (n := 122) dX11_tuplet_121 rfl rfl rfl ?_
                      refine ZV_getIv (n := 125) dX11_tuplet_122 fl_X11_47 rfl rfl rfl (cf_sh hG :).1 (cf_te hG :) ?_
                      refine ZV_aload (n := 127) dX11_tuplet_125 rfl rfl ?_
                      refine ZV_iload_n (n := 128) dX11_tuplet_127 rfl rfl rfl ?_
                      refine ZV_iload_n (n := 129) dX11_tuplet_128 rfl rfl rfl ?_
                      refine ZV_iload (n := 131) dX11_tuplet_129 rfl rfl ?_
                      refine ZV_iload (n := 133) dX11_tuplet_131 rfl rfl ?_
                      refine ZV_iload (n := 135) dX11_tuplet_133 rfl rfl ?_
                      refine call_X11_281 (e_X9_init hkb (by omega) (g_te T) (k_va K v2) a9 k9 n9 m9 u9) rfl dX11_tuplet_135 (Nat.le_of_ble_eq_true rfl) (Nat.le_of_ble_eq_true rfl) rfl (fun r9 σ9 hp9 => ?_)
                      obtain ⟨rfl, hN⟩ := hp9
                      have hG7 := hG
                      have hG := cG_ag (zag_le hB9 hN.1) hG
                      refine ZV_aast (c0 := 3) (j := g_te T) (n := 139) dX11_tuplet_138 rfl (by decide) (fun x9 q9 => by cases q9; exact ⟨9, hN.2.2.1, by decide, Or.inl rfl⟩) rfl (ck_tuplets (cf_sh hG :)) rfl (by omega) ?_
                      refine ZV_aload_n (n := 140) dX11_tuplet_139 rfl rfl rfl ?_
                      refine ZV_dup (n := 141) dX11_tuplet_140 rfl rfl ?_
                      refine ZV_getIv (n := 144) dX11_tuplet_141 fl_X11_47 rfl rfl rfl (cf_sh hG :).1 (cf_te hG :) ?_
                      refine ZV_iconst (v := nI 1) (n := 145) dX11_tuplet_144 rfl rfl ?_
                      refine ZV_iaddN (n := 146) dX11_tuplet_145 rfl ?_
                      refine ZV_putI (n := 149) dX11_tuplet_146 fl_X11_47 rfl (Or.inl rfl) rfl (fun h => absurd h (by decide)) rfl (cf_sh hG :).1 ?_
                      refine ZV_gen (P := fun τ => cG c _ τ _ _) (U_tu (a := a9) hG7 hB9 hzb hN hn20) (fun σ hG => ?_)
                      have hIT : tI (tupT T v2 a9 (a9 + k9 - 1) n9 m9 u9) := tI_tup hI he2 (by omega) (by omega) hn9 hm9 (by omega) hcr (fun i hi => by have := of_decide_eq_false (anyF_f hov (show i < k9 by omega)); omega) hn20
                      refine ZV_aload_n (n := 150) dX11_tuplet_149 rfl rfl rfl ?_
                      refine ZV_aload (n := 152) dX11_tuplet_150 rfl rfl ?_
                      refine call_X11_148 (e_layOut hG hIT (v := v2) (by rw [tw_np]; exact he2) (kT_tuplet hI hK he2 (by omega) (by omega))) rfl dX11_tuplet_152 rfl (cf_sh hG :).1 (Nat.le_of_ble_eq_true rfl) (Nat.le_of_ble_eq_true rfl) rfl (fun r9 σ9 hp9 => ?_)
                      obtain ⟨rfl, L, hG, hlo⟩ := hp9
                      refine ZV_aload_n (n := 156) dX11_tuplet_155 rfl rfl rfl ?_
                      refine ZV_aload_n (n := 157) dX11_tuplet_156 rfl rfl rfl ?_
                      refine ZV_getIv (n := 160) dX11_tuplet_157 fl_X11_47 rfl rfl rfl (cf_sh hG :).1 (show _ = nI (g_te T + 1) from (cf_te hG).trans (congrArg nI (tw_te T _ _ _ _ _ _))) ?_
                      refine ZV_iconst (v := nI 1) (n := 161) dX11_tuplet_160 rfl rfl ?_
                      refine ZV_isubN (n := 162) dX11_tuplet_161 rfl (by omega) ?_
                      refine call_X11_98 (e_done hG _) rfl dX11_tuplet_162 rfl (cf_sh hG :).1 (Nat.le_of_ble_eq_true rfl) (Nat.le_of_ble_eq_true rfl) rfl (fun r9 σ9 hp9 => ?_)
                      obtain ⟨rfl, hG⟩ := hp9
                      refine ZV_iret dX11_tuplet_165 rfl ?_
                      exact zlC (v := sOk (tupT T v2 a9 (a9 + k9 - 1) n9 m9 u9) (nI (g_te T))) (by rw [sp_tuplet, hc2, if_pos ⟨hE2, hA, h44, hM, h65⟩, hca, hck, if_neg (fit_n h83), if_neg hn20, hcn, hcm, hcu]) rfl ⟨_, L, hG, kI_e (T := (tupT T v2 a9 (a9 + k9 - 1) n9 m9 u9)) (kI_tuplet hI hK he2 hk1 (by omega) hIT hlo) ⟨rfl, rfl, rfl, rfl, rfl, rfl, rfl, rfl, rfl, rfl, rfl, rfl, rfl, rfl, rfl, rfl, rfl, rfl, rfl, rfl⟩⟩
                    · skip
                      refine ZV_aload_n (n := 103) dX11_tuplet_102 rfl rfl rfl ?_
                      refine ZV_bipush (v := -4) (n := 105) dX11_tuplet_103 rfl rfl ?_
                      refine call_X11_87 (e_refuse hG _) rfl dX11_tuplet_105 rfl (cf_sh hG :).1 (Nat.le_of_ble_eq_true rfl) (Nat.le_of_ble_eq_true rfl) rfl (fun r9 σ9 hp9 => ?_)
                      obtain ⟨rfl, hG⟩ := hp9
                      refine ZV_iret dX11_tuplet_108 rfl ?_
                      exact zlC (v := sNo T (-4)) (by rw [sp_tuplet, hc2, if_pos ⟨hE2, hA, h44, hM, h65⟩, hca, hck, if_neg (fit_n h83), if_pos (by omega)]) rfl ⟨B, K, hG, kI_e hK ⟨rfl, rfl, rfl, rfl, rfl, rfl, rfl, rfl, rfl, rfl, rfl, rfl, rfl, rfl, rfl, rfl, rfl, rfl, rfl, rfl⟩⟩
                  · skip
                    refine ZV_aload_n (n := 87) dX11_tuplet_86 rfl rfl rfl ?_
                    refine ZV_bipush (v := -3) (n := 89) dX11_tuplet_87 rfl rfl ?_
                    refine call_X11_87 (e_refuse hG _) rfl dX11_tuplet_89 rfl (cf_sh hG :).1 (Nat.le_of_ble_eq_true rfl) (Nat.le_of_ble_eq_true rfl) rfl (fun r9 σ9 hp9 => ?_)
                    obtain ⟨rfl, hG⟩ := hp9
                    refine ZV_iret dX11_tuplet_92 rfl ?_
                    exact zlC (v := sNo T (-3)) (by rw [sp_tuplet, hc2, if_pos ⟨hE2, hA, h44, hM, h65⟩, hca, hck, if_pos (fit_f h83)]) rfl ⟨B, K, hG, kI_e hK ⟨rfl, rfl, rfl, rfl, rfl, rfl, rfl, rfl, rfl, rfl, rfl, rfl, rfl, rfl, rfl, rfl, rfl, rfl, rfl, rfl⟩⟩
                · skip
                  refine ZV_aload_n (n := 69) dX11_tuplet_68 rfl rfl rfl ?_
                  refine ZV_bipush (v := -2) (n := 71) dX11_tuplet_69 rfl rfl ?_
                  refine call_X11_87 (e_refuse hG _) rfl dX11_tuplet_71 rfl (cf_sh hG :).1 (Nat.le_of_ble_eq_true rfl) (Nat.le_of_ble_eq_true rfl) rfl (fun r9 σ9 hp9 => ?_)
                  obtain ⟨rfl, hG⟩ := hp9
                  refine ZV_iret dX11_tuplet_74 rfl ?_
                  exact zlC (v := sNo T (-2)) (by rw [sp_tuplet, if_neg (fun z => by have y := z.2.2.2.2; rw [h65] at y; cases y)]) rfl ⟨B, K, hG, kI_e hK ⟨rfl, rfl, rfl, rfl, rfl, rfl, rfl, rfl, rfl, rfl, rfl, rfl, rfl, rfl, rfl, rfl, rfl, rfl, rfl, rfl⟩⟩
        · skip
          refine ZV_aload_n (n := 33) dX11_tuplet_32 rfl rfl rfl ?_
          refine ZV_bipush (v := -2) (n := 35) dX11_tuplet_33 rfl rfl ?_
          refine call_X11_87 (e_refuse hG _) rfl dX11_tuplet_35 rfl (cf_sh hG :).1 (Nat.le_of_ble_eq_true rfl) (Nat.le_of_ble_eq_true rfl) rfl (fun r9 σ9 hp9 => ?_)
          obtain ⟨rfl, hG⟩ := hp9
          refine ZV_iret dX11_tuplet_38 rfl ?_
          exact zlC (v := sNo T (-2)) (by rw [sp_tuplet, hc2, if_neg (fun z => by have y := z.2.1; rw [show tuA a k (g_mn T v2) = false from (by cases hz : tuA a k (g_mn T v2) with | false => rfl | true => exact absurd ((tuA_c hmn2 h13 h18).mpr hz) h29)] at y; cases y)]) rfl ⟨B, K, hG, kI_e hK ⟨rfl, rfl, rfl, rfl, rfl, rfl, rfl, rfl, rfl, rfl, rfl, rfl, rfl, rfl, rfl, rfl, rfl, rfl, rfl, rfl⟩⟩
