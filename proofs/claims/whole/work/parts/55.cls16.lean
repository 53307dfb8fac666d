theorem enO_n {T : TS} {t : Int32} (h : decide (t = -1 ∨ evB T t = true) = true) (h2 : evB T t = false) : enO t = none ∧ t = -1 := by
  have h3 := of_decide_eq_true h
  rw [h2] at h3
  rcases h3 with h3 | h3
  · exact ⟨by unfold enO; rw [if_pos h3], h3⟩
  · cases h3
theorem enO_s {e : Nat} (h : e < 150) : enO (nI e) = some e := by
  unfold enO
  rw [if_neg (nI_ne_m1 (by omega)), nI_clamp (by omega)]
set_option maxHeartbeats 4000000 in
set_option maxRecDepth 100000 in
theorem q_end {c : Nat} {σ : ZS} {T : TS} (hR : cR c σ T) (hI : tI T) (l t : Int32) : ZC M_X11_end [Ar (some c), Ai l, Ai t] σ (fun y0 τ0 => y0 = some (Ai (sp_end T l t).1) ∧ cR c τ0 (sp_end T l t).2) := by
  obtain ⟨B, K, hG, hK⟩ := hR
  have hbd := cf_bd hG
  refine ZC_of (ls := [some (Ar (some c)), some (Ai l), some (Ai t), none]) (by decide) (Nat.le_of_ble_eq_true rfl) rfl ?_
  refine ZV_aload_n (n := 1) dX11_end_0 rfl rfl rfl ?_
  refine ZV_iload_n (n := 2) dX11_end_1 rfl rfl rfl ?_
  refine call_X11_313 (e_lineOf hG _) rfl dX11_end_2 rfl (cf_sh hG :).1 (Nat.le_of_ble_eq_true rfl) (Nat.le_of_ble_eq_true rfl) rfl (fun r9 σ9 hp9 => ?_)
  obtain ⟨hs9, hp9⟩ := hp9
  subst σ9
  rcases hp9 with ⟨hv2, hr9⟩ | ⟨l2, he2, ht2, hn2, hr9⟩
  · skip
    subst hr9
    refine ZV_astore_3 (n := 6) dX11_end_5 rfl (Nat.le_of_ble_eq_true rfl) rfl ?_
    refine ZV_aload_n (n := 7) dX11_end_6 rfl rfl rfl ?_
    refine ZV_ifnull_n (tgt := 18) dX11_end_7 (by decide) ?_
    refine ZV_aload_n (n := 19) dX11_end_18 rfl rfl rfl ?_
    refine ZV_bipush (v := -2) (n := 21) dX11_end_19 rfl rfl ?_
    refine call_X11_87 (e_refuse hG _) rfl dX11_end_21 rfl (cf_sh hG :).1 (Nat.le_of_ble_eq_true rfl) (Nat.le_of_ble_eq_true rfl) rfl (fun r9 σ9 hp9 => ?_)
    obtain ⟨rfl, hG⟩ := hp9
    refine ZV_iret dX11_end_24 rfl ?_
    exact zlC (v := sNo T (-2)) (by simp [sp_end, hv2]) rfl ⟨B, K, hG, kI_e hK ⟨rfl, rfl, rfl, rfl, rfl, rfl, rfl, rfl, rfl, rfl, rfl, rfl, rfl, rfl, rfl, rfl, rfl, rfl, rfl, rfl⟩⟩
  · skip
    subst hr9
    subst hn2
    have hE2 : lnB T (nI l2) = true := by unfold lnB; rw [inB_nI (by omega), nI_clamp (by omega), decide_eq_true he2, ht2]; rfl
    have hc2 : (nI l2).toNatClampNeg = l2 := nI_clamp (by omega)
    refine ZV_astore_3 (n := 6) dX11_end_5 rfl (Nat.le_of_ble_eq_true rfl) rfl ?_
    refine ZV_aload_n (n := 7) dX11_end_6 rfl rfl rfl ?_
    refine ZV_ifnull_s (tgt := 18) (n := 10) dX11_end_7 (by decide) rfl ?_
    refine ZV_aload_n (n := 11) dX11_end_10 rfl rfl rfl ?_
    refine ZV_iload_n (n := 12) dX11_end_11 rfl rfl rfl ?_
    refine call_X11_307 (e_isLineEnd hG _) rfl dX11_end_12 rfl (cf_sh hG :).1 (Nat.le_of_ble_eq_true rfl) (Nat.le_of_ble_eq_true rfl) rfl (fun r9 σ9 hp9 => ?_)
    obtain ⟨rfl, hs9⟩ := hp9
    subst σ9
    refine ZV_if_neB (tgt := 25) (n := 18) dX11_end_15 (by decide) rfl (fun h15 => ?_) (fun h15 => ?_)
    · skip
      refine ZV_aload_n (n := 26) dX11_end_25 rfl rfl rfl ?_
      refine ZV_aload_n (n := 27) dX11_end_26 rfl rfl rfl ?_
      refine ZV_iload_n (n := 28) dX11_end_27 rfl rfl rfl ?_
      refine call_X11_155 (e_eventOf hG _) rfl dX11_end_28 rfl (cf_sh hG :).1 (Nat.le_of_ble_eq_true rfl) (Nat.le_of_ble_eq_true rfl) rfl (fun r9 σ9 hp9 => ?_)
      obtain ⟨hs9, hp9⟩ := hp9
      subst σ9
      rcases hp9 with ⟨hv28, hr9⟩ | ⟨e28, he28, ht28, hn28, hr9⟩
      · skip
        subst hr9
        refine ZV_putR (n := 34) dX11_end_31 fl_X11_317 rfl (Or.inl rfl) rfl rfl (cf_lk hG l2 he2).1 ?_
        refine ZV_gen (P := fun τ => cG c B τ _ _) (U_lo hG he2 none) (fun σ hG => ?_)
        refine ZV_aload_n (n := 35) dX11_end_34 rfl rfl rfl ?_
        refine ZV_iconst (v := nI 1) (n := 36) dX11_end_35 rfl rfl ?_
        refine call_X11_98 (e_done hG _) rfl dX11_end_36 rfl (cf_sh hG :).1 (Nat.le_of_ble_eq_true rfl) (Nat.le_of_ble_eq_true rfl) rfl (fun r9 σ9 hp9 => ?_)
        obtain ⟨rfl, hG⟩ := hp9
        refine ZV_iret dX11_end_39 rfl ?_
        have hen := enO_n h15 hv28
        exact zlC (v := sOk (h_lo T (va_up (g_lo T) l2 none)) 1) (by rw [sp_end, if_pos ⟨hE2, of_decide_eq_true h15⟩, hc2, hen.1]) rfl ⟨B, K, hG, kI_e hK ⟨rfl, rfl, rfl, rfl, rfl, rfl, rfl, rfl, rfl, rfl, rfl, rfl, rfl, rfl, rfl, rfl, rfl, rfl, rfl, rfl⟩⟩
      · skip
        subst hr9
        subst hn28
        have hE28 : evB T (nI e28) = true := evB_nI hI he28 ht28
        have hev28 := ti_ev hI
        have hkd28 := ti_kd hI _ he28
        have hpn28 := ti_pn hI e28
        have hpl28 := ki_pl hK _ he28 ht28
        have hpb28 := pl_b hI hK he28 ht28
        have hvo28 := ti_vo hI _ he28
        have hc28 : (nI e28).toNatClampNeg = e28 := nI_clamp (by omega)
        refine ZV_putR (n := 34) dX11_end_31 fl_X11_317 rfl (Or.inl rfl) rfl rfl (cf_lk hG l2 he2).1 ?_
        refine ZV_gen (P := fun τ => cG c B τ _ _) (U_lo hG he2 (some e28)) (fun σ hG => ?_)
        refine ZV_aload_n (n := 35) dX11_end_34 rfl rfl rfl ?_
        refine ZV_iconst (v := nI 1) (n := 36) dX11_end_35 rfl rfl ?_
        refine call_X11_98 (e_done hG _) rfl dX11_end_36 rfl (cf_sh hG :).1 (Nat.le_of_ble_eq_true rfl) (Nat.le_of_ble_eq_true rfl) rfl (fun r9 σ9 hp9 => ?_)
        obtain ⟨rfl, hG⟩ := hp9
        refine ZV_iret dX11_end_39 rfl ?_
        have hen := enO_s (e := e28) (by omega)
        exact zlC (v := sOk (h_lo T (va_up (g_lo T) l2 (some e28))) 1) (by rw [sp_end, if_pos ⟨hE2, of_decide_eq_true h15⟩, hc2, hen]) rfl ⟨B, K, hG, kI_e hK ⟨rfl, rfl, rfl, rfl, rfl, rfl, rfl, rfl, rfl, rfl, rfl, rfl, rfl, rfl, rfl, rfl, rfl, rfl, rfl, rfl⟩⟩
    · skip
      refine ZV_aload_n (n := 19) dX11_end_18 rfl rfl rfl ?_
      refine ZV_bipush (v := -2) (n := 21) dX11_end_19 rfl rfl ?_
      refine call_X11_87 (e_refuse hG _) rfl dX11_end_21 rfl (cf_sh hG :).1 (Nat.le_of_ble_eq_true rfl) (Nat.le_of_ble_eq_true rfl) rfl (fun r9 σ9 hp9 => ?_)
      obtain ⟨rfl, hG⟩ := hp9
      refine ZV_iret dX11_end_24 rfl ?_
      exact zlC (v := sNo T (-2)) (by rw [sp_end, if_neg (fun z => of_decide_eq_false h15 z.2)]) rfl ⟨B, K, hG, kI_e hK ⟨rfl, rfl, rfl, rfl, rfl, rfl, rfl, rfl, rfl, rfl, rfl, rfl, rfl, rfl, rfl, rfl, rfl, rfl, rfl, rfl⟩⟩
theorem inB_nI_t {j n : Nat} (hj : j < n) (hn : j < 2147483648) : inB (nI j) n = true := by
  rw [inB_nI hn]
  exact decide_eq_true hj
theorem tne {b : Bool} (h : b = true) : ¬ b = false := by rw [h]; exact fun z => by cases z
set_option maxHeartbeats 4000000 in
set_option maxRecDepth 100000 in
theorem q_held {c : Nat} {σ : ZS} {T : TS} (hR : cR c σ T) (hI : tI T) (r i : Int32) : ZC M_X11_held [Ar (some c), Ai r, Ai i] σ (fun y0 τ0 => y0 = some (Ai (sp_held T r i).1) ∧ cR c τ0 (sp_held T r i).2) := by
  obtain ⟨B, K, hG, hK⟩ := hR
  have hbd := cf_bd hG
  refine ZC_of (ls := [some (Ar (some c)), some (Ai r), some (Ai i), none]) (by decide) (Nat.le_of_ble_eq_true rfl) rfl ?_
  refine ZV_iload_n (n := 1) dX11_held_0 rfl rfl rfl ?_
  refine call_X11_359 (e_isRowNumber _ _) rfl dX11_held_1 (Nat.le_of_ble_eq_true rfl) (Nat.le_of_ble_eq_true rfl) rfl (fun r9 σ9 hp9 => ?_)
  obtain ⟨rfl, hs9⟩ := hp9
  subst σ9
  refine ZV_if_neB (tgt := 14) (n := 7) dX11_held_4 (by decide) rfl (fun h4 => ?_) (fun h4 => ?_)
  · skip
    obtain ⟨a, ha, ha2, rfl⟩ := inB_t h4
    have hca : (nI a).toNatClampNeg = a := nI_clamp ha2
    have hrk := ti_rk hI a ha
    have h4 : inB (nI a) 4 = true := h4
    refine ZV_aload_n (n := 15) dX11_held_14 rfl rfl rfl ?_
    refine ZV_getRv (n := 18) dX11_held_15 fl_X11_74 rfl rfl rfl (cf_sh hG :).1 (ca_racks (cf_sh hG :)) ?_
    refine ZV_iload_n (n := 19) dX11_held_18 rfl rfl rfl ?_
    rcases hb19 : g_hr T a with _ | _
    · skip
      refine ZV_aaldv (c0 := 5) (w := none) (j := a) (n := 20) dX11_held_19 rfl (by decide) rfl (ck_racks (cf_sh hG :)) rfl (by omega) (Eq.trans (cf_ra hG a (by omega)) (if_neg (by rw [hb19]; exact Bool.false_ne_true))) ?_
      refine ZV_astore_3 (n := 21) dX11_held_20 rfl (Nat.le_of_ble_eq_true rfl) rfl ?_
      refine ZV_aload_n (n := 22) dX11_held_21 rfl rfl rfl ?_
      refine ZV_ifnonnull_n (tgt := 32) (n := 25) dX11_held_22 (by decide) rfl ?_
      refine ZV_aload_n (n := 26) dX11_held_25 rfl rfl rfl ?_
      refine ZV_bipush (v := -11) (n := 28) dX11_held_26 rfl rfl ?_
      refine call_X11_180 (e_fail hG (-11) 0 (by decide) rfl) rfl dX11_held_28 rfl (cf_sh hG :).1 (Nat.le_of_ble_eq_true rfl) (Nat.le_of_ble_eq_true rfl) rfl (fun r9 σ9 hp9 => ?_)
      obtain ⟨rfl, hG⟩ := hp9
      refine ZV_iret dX11_held_31 rfl ?_
      exact zlC (v := sFl T 0 (-11) (-11)) (by simp [sp_held, h4, hb19, hca, hb19]) rfl ⟨B, K, hG, kI_e hK ⟨rfl, rfl, rfl, rfl, rfl, rfl, rfl, rfl, rfl, rfl, rfl, rfl, rfl, rfl, rfl, rfl, rfl, rfl, rfl, rfl⟩⟩
    · skip
      refine ZV_aaldv (c0 := 5) (w := some (k_wa K a)) (j := a) (n := 20) dX11_held_19 rfl (by decide) rfl (ck_racks (cf_sh hG :)) rfl (by omega) (Eq.trans (cf_ra hG a (by omega)) (if_pos hb19)) ?_
      refine ZV_astore_3 (n := 21) dX11_held_20 rfl (Nat.le_of_ble_eq_true rfl) rfl ?_
      refine ZV_aload_n (n := 22) dX11_held_21 rfl rfl rfl ?_
      refine ZV_ifnonnull_s (tgt := 32) dX11_held_22 (by decide) ?_
      refine ZV_aload_n (n := 33) dX11_held_32 rfl rfl rfl ?_
      refine ZV_iload_n (n := 34) dX11_held_33 rfl rfl rfl ?_
      refine call_X11_364 (e_hasR hG ha hb19 (by omega) _) rfl dX11_held_34 rfl (cf_rk hG a ha hb19).1 (Nat.le_of_ble_eq_true rfl) (Nat.le_of_ble_eq_true rfl) rfl (fun r9 σ9 hp9 => ?_)
      obtain ⟨rfl, hs9⟩ := hp9
      subst σ9
      refine ZV_if_neB (tgt := 47) (n := 40) dX11_held_37 (by decide) rfl (fun h37 => ?_) (fun h37 => ?_)
      · skip
        obtain ⟨j, hj, hj2, rfl⟩ := inB_t h37
        have hcj : (nI j).toNatClampNeg = j := nI_clamp hj2
        have h37 : inB (nI j) (g_rs T a) = true := h37
        refine ZV_aload_n (n := 48) dX11_held_47 rfl rfl rfl ?_
        refine ZV_getRv (n := 51) dX11_held_48 fl_X11_372 rfl rfl rfl (cf_rk hG a ha hb19).1 (cf_rt hG a ha hb19) ?_
        refine ZV_iload_n (n := 52) dX11_held_51 rfl rfl rfl ?_
        refine ZV_ialdv (j := j) (n := 53) dX11_held_52 rfl rfl (cf_rk hG a ha hb19).2.1 rfl (by omega) (cf_rr hG a j ha hb19 hj) ?_
        refine ZV_iconst (v := -1) (n := 54) dX11_held_53 rfl rfl ?_
        refine ZV_icmp_ne (tgt := 64) (n := 57) dX11_held_54 (by decide) rfl (fun h54 => ?_) (fun h54 => ?_)
        · skip
          cases hrr : g_rr T a j with
          | none => exact absurd (by rw [hrr]; rfl) h54
          | some e9 =>
            refine ZV_aload_n (n := 65) dX11_held_64 rfl rfl rfl ?_
            refine ZV_aload_n (n := 66) dX11_held_65 rfl rfl rfl ?_
            refine ZV_getRv (n := 69) dX11_held_66 fl_X11_372 rfl rfl rfl (cf_rk hG a ha hb19).1 (cf_rt hG a ha hb19) ?_
            refine ZV_iload_n (n := 70) dX11_held_69 rfl rfl rfl ?_
            refine ZV_ialdv (j := j) (n := 71) dX11_held_70 rfl rfl (cf_rk hG a ha hb19).2.1 rfl (by omega) (cf_rr hG a j ha hb19 hj) ?_
            refine call_X11_98 (e_done hG _) rfl dX11_held_71 rfl (cf_sh hG :).1 (Nat.le_of_ble_eq_true rfl) (Nat.le_of_ble_eq_true rfl) rfl (fun r9 σ9 hp9 => ?_)
            obtain ⟨rfl, hG⟩ := hp9
            refine ZV_iret dX11_held_74 rfl ?_
            exact zlC (v := sOk T (nI e9)) (by simp [sp_held, h4, hca, hb19, h37, hcj, hrr]) (by rw [hrr]; rfl) ⟨B, K, hG, kI_e hK ⟨rfl, rfl, rfl, rfl, rfl, rfl, rfl, rfl, rfl, rfl, rfl, rfl, rfl, rfl, rfl, rfl, rfl, rfl, rfl, rfl⟩⟩
        · skip
          have hrr := (oI_m1 (fun e q => by have := ti_rrb hI a j e ha (by omega) q; omega)).mp h54
          refine ZV_aload_n (n := 58) dX11_held_57 rfl rfl rfl ?_
          refine ZV_bipush (v := -11) (n := 60) dX11_held_58 rfl rfl ?_
          refine call_X11_180 (e_fail hG (-11) 0 (by decide) rfl) rfl dX11_held_60 rfl (cf_sh hG :).1 (Nat.le_of_ble_eq_true rfl) (Nat.le_of_ble_eq_true rfl) rfl (fun r9 σ9 hp9 => ?_)
          obtain ⟨rfl, hG⟩ := hp9
          refine ZV_iret dX11_held_63 rfl ?_
          exact zlC (v := sFl T 0 (-11) (-11)) (by simp [sp_held, h4, hb19, h37, h54, hca, hcj, hrr]) rfl ⟨B, K, hG, kI_e hK ⟨rfl, rfl, rfl, rfl, rfl, rfl, rfl, rfl, rfl, rfl, rfl, rfl, rfl, rfl, rfl, rfl, rfl, rfl, rfl, rfl⟩⟩
      · skip
        refine ZV_aload_n (n := 41) dX11_held_40 rfl rfl rfl ?_
        refine ZV_bipush (v := -12) (n := 43) dX11_held_41 rfl rfl ?_
        refine call_X11_180 (e_fail hG (-12) 1 (by decide) rfl) rfl dX11_held_43 rfl (cf_sh hG :).1 (Nat.le_of_ble_eq_true rfl) (Nat.le_of_ble_eq_true rfl) rfl (fun r9 σ9 hp9 => ?_)
        obtain ⟨rfl, hG⟩ := hp9
        refine ZV_iret dX11_held_46 rfl ?_
        exact zlC (v := sFl T 1 (-12) (-12)) (by simp [sp_held, h4, hb19, h37, hca, hb19]) rfl ⟨B, K, hG, kI_e hK ⟨rfl, rfl, rfl, rfl, rfl, rfl, rfl, rfl, rfl, rfl, rfl, rfl, rfl, rfl, rfl, rfl, rfl, rfl, rfl, rfl⟩⟩
  · skip
    refine ZV_aload_n (n := 8) dX11_held_7 rfl rfl rfl ?_
    refine ZV_bipush (v := -2) (n := 10) dX11_held_8 rfl rfl ?_
    refine call_X11_87 (e_refuse hG _) rfl dX11_held_10 rfl (cf_sh hG :).1 (Nat.le_of_ble_eq_true rfl) (Nat.le_of_ble_eq_true rfl) rfl (fun r9 σ9 hp9 => ?_)
    obtain ⟨rfl, hG⟩ := hp9
    refine ZV_iret dX11_held_13 rfl ?_
    exact zlC (v := sNo T (-2)) (by simp [sp_held, h4]) rfl ⟨B, K, hG, kI_e hK ⟨rfl, rfl, rfl, rfl, rfl, rfl, rfl, rfl, rfl, rfl, rfl, rfl, rfl, rfl, rfl, rfl, rfl, rfl, rfl, rfl⟩⟩
set_option maxHeartbeats 4000000 in
set_option maxRecDepth 100000 in
theorem q_item {c : Nat} {σ : ZS} {T : TS} (hR : cR c σ T) (hI : tI T) (r i : Int32) : ZC M_X11_item [Ar (some c), Ai r, Ai i] σ (fun y0 τ0 => y0 = some (Ai (sp_item T r i).1) ∧ cR c τ0 (sp_item T r i).2) := by
  obtain ⟨B, K, hG, hK⟩ := hR
  have hbd := cf_bd hG
  refine ZC_of (ls := [some (Ar (some c)), some (Ai r), some (Ai i), none]) (by decide) (Nat.le_of_ble_eq_true rfl) rfl ?_
  refine ZV_iload_n (n := 1) dX11_item_0 rfl rfl rfl ?_
  refine call_X11_359 (e_isRowNumber _ _) rfl dX11_item_1 (Nat.le_of_ble_eq_true rfl) (Nat.le_of_ble_eq_true rfl) rfl (fun r9 σ9 hp9 => ?_)
  obtain ⟨rfl, hs9⟩ := hp9
  subst σ9
  refine ZV_if_neB (tgt := 17) (n := 7) dX11_item_4 (by decide) rfl (fun h4 => ?_) (fun h4 => ?_)
  · skip
    obtain ⟨a, ha, ha2, rfl⟩ := inB_t h4
    have hca : (nI a).toNatClampNeg = a := nI_clamp ha2
    have hsk := ti_sk hI a ha
    have h4 : inB (nI a) 4 = true := h4
    refine ZV_aload_n (n := 18) dX11_item_17 rfl rfl rfl ?_
    refine ZV_getRv (n := 21) dX11_item_18 fl_X11_78 rfl rfl rfl (cf_sh hG :).1 (ca_shelves (cf_sh hG :)) ?_
    refine ZV_iload_n (n := 22) dX11_item_21 rfl rfl rfl ?_
    rcases hb22 : g_hs T a with _ | _
    · skip
      refine ZV_aaldv (c0 := 5) (w := none) (j := a) (n := 23) dX11_item_22 rfl (by decide) rfl (ck_shelves (cf_sh hG :)) rfl (by omega) (Eq.trans (cf_sa hG a (by omega)) (if_neg (by rw [hb22]; exact Bool.false_ne_true))) ?_
      refine ZV_astore_3 (n := 24) dX11_item_23 rfl (Nat.le_of_ble_eq_true rfl) rfl ?_
      refine ZV_aload_n (n := 25) dX11_item_24 rfl rfl rfl ?_
      refine ZV_ifnonnull_n (tgt := 38) (n := 28) dX11_item_25 (by decide) rfl ?_
      refine ZV_aload_n (n := 29) dX11_item_28 rfl rfl rfl ?_
      refine ZV_bipush (v := -11) (n := 31) dX11_item_29 rfl rfl ?_
      refine ZV_sipush (v := -2001) (n := 34) dX11_item_31 rfl rfl ?_
      refine call_X11_207 (e_failTelling hG (-11) _ 0 (by decide) rfl) rfl dX11_item_34 rfl (cf_sh hG :).1 (Nat.le_of_ble_eq_true rfl) (Nat.le_of_ble_eq_true rfl) rfl (fun r9 σ9 hp9 => ?_)
      obtain ⟨rfl, hG⟩ := hp9
      refine ZV_iret dX11_item_37 rfl ?_
      exact zlC (v := sFl T 0 (-11) (-2001)) (by simp [sp_item, h4, hb22, hca, hb22]) rfl ⟨B, K, hG, kI_e hK ⟨rfl, rfl, rfl, rfl, rfl, rfl, rfl, rfl, rfl, rfl, rfl, rfl, rfl, rfl, rfl, rfl, rfl, rfl, rfl, rfl⟩⟩
    · skip
      refine ZV_aaldv (c0 := 5) (w := some (k_wa K (a + 4))) (j := a) (n := 23) dX11_item_22 rfl (by decide) rfl (ck_shelves (cf_sh hG :)) rfl (by omega) (Eq.trans (cf_sa hG a (by omega)) (if_pos hb22)) ?_
      refine ZV_astore_3 (n := 24) dX11_item_23 rfl (Nat.le_of_ble_eq_true rfl) rfl ?_
      refine ZV_aload_n (n := 25) dX11_item_24 rfl rfl rfl ?_
      refine ZV_ifnonnull_s (tgt := 38) dX11_item_25 (by decide) ?_
      refine ZV_aload_n (n := 39) dX11_item_38 rfl rfl rfl ?_
      refine ZV_iload_n (n := 40) dX11_item_39 rfl rfl rfl ?_
      refine call_X11_364 (e_hasS hG ha hb22 (by omega) _) rfl dX11_item_40 rfl (cf_sk hG a ha hb22).1 (Nat.le_of_ble_eq_true rfl) (Nat.le_of_ble_eq_true rfl) rfl (fun r9 σ9 hp9 => ?_)
      obtain ⟨rfl, hs9⟩ := hp9
      subst σ9
      refine ZV_if_neB (tgt := 56) (n := 46) dX11_item_43 (by decide) rfl (fun h43 => ?_) (fun h43 => ?_)
      · skip
        obtain ⟨j, hj, hj2, rfl⟩ := inB_t h43
        have hcj : (nI j).toNatClampNeg = j := nI_clamp hj2
        have h43 : inB (nI j) (g_ss T a) = true := h43
        refine ZV_aload_n (n := 57) dX11_item_56 rfl rfl rfl ?_
        refine ZV_aload_n (n := 58) dX11_item_57 rfl rfl rfl ?_
        refine ZV_getRv (n := 61) dX11_item_58 fl_X11_372 rfl rfl rfl (cf_sk hG a ha hb22).1 (cf_st hG a ha hb22) ?_
        refine ZV_iload_n (n := 62) dX11_item_61 rfl rfl rfl ?_
        refine ZV_ialdv (j := j) (n := 63) dX11_item_62 rfl rfl (cf_sk hG a ha hb22).2.1 rfl (by omega) (cf_sr hG a j ha hb22 hj) ?_
        refine call_X11_98 (e_done hG _) rfl dX11_item_63 rfl (cf_sh hG :).1 (Nat.le_of_ble_eq_true rfl) (Nat.le_of_ble_eq_true rfl) rfl (fun r9 σ9 hp9 => ?_)
        obtain ⟨rfl, hG⟩ := hp9
        refine ZV_iret dX11_item_66 rfl ?_
        exact zlC (v := sOk T (g_sr T a j)) (by simp [sp_item, h4, hca, hb22, h43, hcj]) rfl ⟨B, K, hG, kI_e hK ⟨rfl, rfl, rfl, rfl, rfl, rfl, rfl, rfl, rfl, rfl, rfl, rfl, rfl, rfl, rfl, rfl, rfl, rfl, rfl, rfl⟩⟩
      · skip
        refine ZV_aload_n (n := 47) dX11_item_46 rfl rfl rfl ?_
        refine ZV_bipush (v := -12) (n := 49) dX11_item_47 rfl rfl ?_
        refine ZV_sipush (v := -2002) (n := 52) dX11_item_49 rfl rfl ?_
        refine call_X11_207 (e_failTelling hG (-12) _ 1 (by decide) rfl) rfl dX11_item_52 rfl (cf_sh hG :).1 (Nat.le_of_ble_eq_true rfl) (Nat.le_of_ble_eq_true rfl) rfl (fun r9 σ9 hp9 => ?_)
        obtain ⟨rfl, hG⟩ := hp9
        refine ZV_iret dX11_item_55 rfl ?_
        exact zlC (v := sFl T 1 (-12) (-2002)) (by simp [sp_item, h4, hb22, h43, hca, hb22]) rfl ⟨B, K, hG, kI_e hK ⟨rfl, rfl, rfl, rfl, rfl, rfl, rfl, rfl, rfl, rfl, rfl, rfl, rfl, rfl, rfl, rfl, rfl, rfl, rfl, rfl⟩⟩
  · skip
    refine ZV_aload_n (n := 8) dX11_item_7 rfl rfl rfl ?_
    refine ZV_bipush (v := -2) (n := 10) dX11_item_8 rfl rfl ?_
    refine ZV_sipush (v := -2000) (n := 13) dX11_item_10 rfl rfl ?_
    refine call_X11_203 (e_refuseTelling hG _ _) rfl dX11_item_13 rfl (cf_sh hG :).1 (Nat.le_of_ble_eq_true rfl) (Nat.le_of_ble_eq_true rfl) rfl (fun r9 σ9 hp9 => ?_)
    obtain ⟨rfl, hG⟩ := hp9
    refine ZV_iret dX11_item_16 rfl ?_
    exact zlC (v := (-2000, h_su T (-2))) (by simp [sp_item, h4]) rfl ⟨B, K, hG, kI_e hK ⟨rfl, rfl, rfl, rfl, rfl, rfl, rfl, rfl, rfl, rfl, rfl, rfl, rfl, rfl, rfl, rfl, rfl, rfl, rfl, rfl⟩⟩
theorem i2c_and (v : Int32) : (v.toUInt32 % 65536).toInt32 = v &&& nI 65535 := by
  apply Int32.toBitVec_inj.mp
  have h : nI 65535 = Int32.ofBitVec 65535#32 := by decide
  rw [h]
  cases v with | ofUInt32 u => cases u with | ofBitVec b =>
  show b % 65536#32 = b &&& 65535#32
  apply BitVec.eq_of_toNat_eq
  rw [BitVec.toNat_umod, BitVec.toNat_and]
  exact (Nat.and_two_pow_sub_one_eq_mod b.toNat 16).symm
set_option maxHeartbeats 4000000 in
set_option maxRecDepth 100000 in
theorem e_lowestBits {σ : ZS} {k : Nat} (hk : k ≤ 3) (v : Int32) : ZC M_X11_lowestBits [Ai (nI k), Ai v] σ (fun y9 τ9 => y9 = some (Ai (lowB k v)) ∧ τ9 = σ) := by
  refine ZC_of (ls := [some (Ai (nI k)), some (Ai v)]) (by decide) (Nat.le_of_ble_eq_true rfl) rfl ?_
  refine ZV_iload_n (n := 1) dX11_lowestBits_0 rfl rfl rfl ?_
  by_cases h1_0 : k = 0
  · subst h1_0
    refine ZV_tableIn (tgt := 28) dX11_lowestBits_1 (by decide) (by decide) rfl (by decide) ?_
    refine ZV_iload_n (n := 29) dX11_lowestBits_28 rfl rfl rfl ?_
    refine ZV_i2b (n := 30) dX11_lowestBits_29 rfl ?_
    refine ZV_iret dX11_lowestBits_30 rfl ?_
    exact ⟨rfl, rfl⟩
  by_cases h1_1 : k = 1
  · subst h1_1
    refine ZV_tableIn (tgt := 31) dX11_lowestBits_1 (by decide) (by decide) rfl (by decide) ?_
    refine ZV_iload_n (n := 32) dX11_lowestBits_31 rfl rfl rfl ?_
    refine ZV_i2s (n := 33) dX11_lowestBits_32 rfl ?_
    refine ZV_iret dX11_lowestBits_33 rfl ?_
    exact ⟨rfl, rfl⟩
  by_cases h1_2 : k = 2
  · subst h1_2
    refine ZV_tableIn (tgt := 34) dX11_lowestBits_1 (by decide) (by decide) rfl (by decide) ?_
    refine ZV_iload_n (n := 35) dX11_lowestBits_34 rfl rfl rfl ?_
    refine ZV_i2c (n := 36) dX11_lowestBits_35 rfl ?_
    refine ZV_iret dX11_lowestBits_36 rfl ?_
    exact ⟨by rw [i2c_and]; rfl, rfl⟩
  refine ZV_tableOut (tgt := 37) dX11_lowestBits_1 (by rw [nI_toInt (by omega)]; omega) (by decide) ?_
  refine ZV_iload_n (n := 38) dX11_lowestBits_37 rfl rfl rfl ?_
  refine ZV_iret dX11_lowestBits_38 rfl ?_
  refine ⟨?_, rfl⟩
  obtain rfl : k = 3 := by omega
  rfl
set_option maxHeartbeats 4000000 in
set_option maxRecDepth 100000 in
theorem q_lift {c : Nat} {σ : ZS} {T : TS} (hR : cR c σ T) (hI : tI T) (r i v : Int32) : ZC M_X11_lift [Ar (some c), Ai r, Ai i, Ai v] σ (fun y0 τ0 => y0 = some (Ai (sp_lift T r i v).1) ∧ cR c τ0 (sp_lift T r i v).2) := by
  obtain ⟨B, K, hG, hK⟩ := hR
  have hbd := cf_bd hG
  refine ZC_of (ls := [some (Ar (some c)), some (Ai r), some (Ai i), some (Ai v), none]) (by decide) (Nat.le_of_ble_eq_true rfl) rfl ?_
  refine ZV_iload_n (n := 1) dX11_lift_0 rfl rfl rfl ?_
  refine call_X11_359 (e_isRowNumber _ _) rfl dX11_lift_1 (Nat.le_of_ble_eq_true rfl) (Nat.le_of_ble_eq_true rfl) rfl (fun r9 σ9 hp9 => ?_)
  obtain ⟨rfl, hs9⟩ := hp9
  subst σ9
  refine ZV_if_neB (tgt := 14) (n := 7) dX11_lift_4 (by decide) rfl (fun h4 => ?_) (fun h4 => ?_)
  · skip
    obtain ⟨a, ha, ha2, rfl⟩ := inB_t h4
    have hca : (nI a).toNatClampNeg = a := nI_clamp ha2
    have hsk := ti_sk hI a ha
    have h4 : inB (nI a) 4 = true := h4
    refine ZV_aload_n (n := 15) dX11_lift_14 rfl rfl rfl ?_
    refine ZV_getRv (n := 18) dX11_lift_15 fl_X11_78 rfl rfl rfl (cf_sh hG :).1 (ca_shelves (cf_sh hG :)) ?_
    refine ZV_iload_n (n := 19) dX11_lift_18 rfl rfl rfl ?_
    rcases hb19 : g_hs T a with _ | _
    · skip
      refine ZV_aaldv (c0 := 5) (w := none) (j := a) (n := 20) dX11_lift_19 rfl (by decide) rfl (ck_shelves (cf_sh hG :)) rfl (by omega) (Eq.trans (cf_sa hG a (by omega)) (if_neg (by rw [hb19]; exact Bool.false_ne_true))) ?_
      refine ZV_astore_4 (n := 22) dX11_lift_20 rfl (Nat.le_of_ble_eq_true rfl) rfl ?_
      refine ZV_aload (n := 24) dX11_lift_22 rfl rfl ?_
      refine ZV_ifnonnull_n (tgt := 34) (n := 27) dX11_lift_24 (by decide) rfl ?_
      refine ZV_aload_n (n := 28) dX11_lift_27 rfl rfl rfl ?_
      refine ZV_bipush (v := -11) (n := 30) dX11_lift_28 rfl rfl ?_
      refine call_X11_180 (e_fail hG (-11) 0 (by decide) rfl) rfl dX11_lift_30 rfl (cf_sh hG :).1 (Nat.le_of_ble_eq_true rfl) (Nat.le_of_ble_eq_true rfl) rfl (fun r9 σ9 hp9 => ?_)
      obtain ⟨rfl, hG⟩ := hp9
      refine ZV_iret dX11_lift_33 rfl ?_
      exact zlC (v := sFl T 0 (-11) (-11)) (by simp [sp_lift, h4, hb19, hca, hb19]) rfl ⟨B, K, hG, kI_e hK ⟨rfl, rfl, rfl, rfl, rfl, rfl, rfl, rfl, rfl, rfl, rfl, rfl, rfl, rfl, rfl, rfl, rfl, rfl, rfl, rfl⟩⟩
    · skip
      refine ZV_aaldv (c0 := 5) (w := some (k_wa K (a + 4))) (j := a) (n := 20) dX11_lift_19 rfl (by decide) rfl (ck_shelves (cf_sh hG :)) rfl (by omega) (Eq.trans (cf_sa hG a (by omega)) (if_pos hb19)) ?_
      refine ZV_astore_4 (n := 22) dX11_lift_20 rfl (Nat.le_of_ble_eq_true rfl) rfl ?_
      refine ZV_aload (n := 24) dX11_lift_22 rfl rfl ?_
      refine ZV_ifnonnull_s (tgt := 34) dX11_lift_24 (by decide) ?_
      refine ZV_aload (n := 36) dX11_lift_34 rfl rfl ?_
      refine ZV_iload_n (n := 37) dX11_lift_36 rfl rfl rfl ?_
      refine call_X11_364 (e_hasS hG ha hb19 (by omega) _) rfl dX11_lift_37 rfl (cf_sk hG a ha hb19).1 (Nat.le_of_ble_eq_true rfl) (Nat.le_of_ble_eq_true rfl) rfl (fun r9 σ9 hp9 => ?_)
      obtain ⟨rfl, hs9⟩ := hp9
      subst σ9
      refine ZV_if_neB (tgt := 50) (n := 43) dX11_lift_40 (by decide) rfl (fun h40 => ?_) (fun h40 => ?_)
      · skip
        obtain ⟨j, hj, hj2, rfl⟩ := inB_t h40
        have hcj : (nI j).toNatClampNeg = j := nI_clamp hj2
        have h40 : inB (nI j) (g_ss T a) = true := h40
        refine ZV_aload (n := 52) dX11_lift_50 rfl rfl ?_
        refine ZV_getRv (n := 55) dX11_lift_52 fl_X11_372 rfl rfl rfl (cf_sk hG a ha hb19).1 (cf_st hG a ha hb19) ?_
        refine ZV_iload_n (n := 56) dX11_lift_55 rfl rfl rfl ?_
        refine ZV_aload (n := 58) dX11_lift_56 rfl rfl ?_
        refine ZV_getIv (n := 61) dX11_lift_58 fl_X11_367 rfl rfl rfl (cf_sk hG a ha hb19).1 (cf_sd hG a ha hb19) ?_
        refine ZV_iload_n (n := 62) dX11_lift_61 rfl rfl rfl ?_
        refine call_X11_392 (e_lowestBits (by omega) _) rfl dX11_lift_62 (Nat.le_of_ble_eq_true rfl) (Nat.le_of_ble_eq_true rfl) rfl (fun r9 σ9 hp9 => ?_)
        obtain ⟨rfl, hs9⟩ := hp9
        subst σ9
        refine ZV_iast (j := j) (n := 66) dX11_lift_65 rfl rfl (cf_sk hG a ha hb19).2.1 rfl (by omega) ?_
        refine ZV_gen (P := fun τ => cG c B τ _ _) (U_sr hG ha hb19 _ _) (fun σ hG => ?_)
        refine ZV_aload_n (n := 67) dX11_lift_66 rfl rfl rfl ?_
        refine ZV_iconst (v := nI 1) (n := 68) dX11_lift_67 rfl rfl ?_
        refine call_X11_98 (e_done hG _) rfl dX11_lift_68 rfl (cf_sh hG :).1 (Nat.le_of_ble_eq_true rfl) (Nat.le_of_ble_eq_true rfl) rfl (fun r9 σ9 hp9 => ?_)
        obtain ⟨rfl, hG⟩ := hp9
        refine ZV_iret dX11_lift_71 rfl ?_
        exact zlC (v := sOk (h_sr T (va_u2 (g_sr T) a (va_up (g_sr T a) j (lowB (g_sk T a) v)))) 1) (by simp [sp_lift, h4, hca, hb19, h40, hcj]) rfl ⟨B, K, hG, kI_e hK ⟨rfl, rfl, rfl, rfl, rfl, rfl, rfl, rfl, rfl, rfl, rfl, rfl, rfl, rfl, rfl, rfl, rfl, rfl, rfl, rfl⟩⟩
      · skip
        refine ZV_aload_n (n := 44) dX11_lift_43 rfl rfl rfl ?_
        refine ZV_bipush (v := -12) (n := 46) dX11_lift_44 rfl rfl ?_
        refine call_X11_180 (e_fail hG (-12) 1 (by decide) rfl) rfl dX11_lift_46 rfl (cf_sh hG :).1 (Nat.le_of_ble_eq_true rfl) (Nat.le_of_ble_eq_true rfl) rfl (fun r9 σ9 hp9 => ?_)
        obtain ⟨rfl, hG⟩ := hp9
        refine ZV_iret dX11_lift_49 rfl ?_
        exact zlC (v := sFl T 1 (-12) (-12)) (by simp [sp_lift, h4, hb19, h40, hca, hb19]) rfl ⟨B, K, hG, kI_e hK ⟨rfl, rfl, rfl, rfl, rfl, rfl, rfl, rfl, rfl, rfl, rfl, rfl, rfl, rfl, rfl, rfl, rfl, rfl, rfl, rfl⟩⟩
  · skip
    refine ZV_aload_n (n := 8) dX11_lift_7 rfl rfl rfl ?_
    refine ZV_bipush (v := -2) (n := 10) dX11_lift_8 rfl rfl ?_
    refine call_X11_87 (e_refuse hG _) rfl dX11_lift_10 rfl (cf_sh hG :).1 (Nat.le_of_ble_eq_true rfl) (Nat.le_of_ble_eq_true rfl) rfl (fun r9 σ9 hp9 => ?_)
    obtain ⟨rfl, hG⟩ := hp9
    refine ZV_iret dX11_lift_13 rfl ?_
    exact zlC (v := sNo T (-2)) (by simp [sp_lift, h4]) rfl ⟨B, K, hG, kI_e hK ⟨rfl, rfl, rfl, rfl, rfl, rfl, rfl, rfl, rfl, rfl, rfl, rfl, rfl, rfl, rfl, rfl, rfl, rfl, rfl, rfl⟩⟩
theorem ofB_0 (T : TS) (e : Nat) : ofB T e 0 = noB T e := decide_eq_decide.mpr (by omega)
theorem ofB_3 (T : TS) (e : Nat) : ofB T e 3 = !noB T e := by
  unfold ofB noB
  by_cases h : g_kd T e < 3
  · rw [decide_eq_true h, decide_eq_false (by omega)]
    rfl
  · rw [decide_eq_false h, decide_eq_true (by omega)]
    rfl
theorem ofB_5 (T : TS) (e : Nat) : ofB T e 5 = true := decide_eq_true (Or.inl rfl)
theorem ofB_d (T : TS) (e : Nat) {k : Nat} (h0 : ¬ k = 0) (h3 : ¬ k = 3) (h5 : ¬ k = 5) : ofB T e k = decide (g_kd T e = k) := decide_eq_decide.mpr (by omega)
set_option maxHeartbeats 4000000 in
set_option maxRecDepth 100000 in
theorem e_rackTakes {c B : Nat} {σ : ZS} {T : TS} {K : KS} (hG : cG c B σ T K) {e k : Nat} (he : e < g_ev T) (hk : k ≤ 5) (hkd : g_kd T e ≤ 4) : ZC M_X11_rackTakes [Ai (nI k), Ar (some (k_ea K e))] σ (fun y9 τ9 => y9 = some (Ai (bI (ofB T e k))) ∧ τ9 = σ) := by
  refine ZC_of (ls := [some (Ai (nI k)), some (Ar (some (k_ea K e)))]) (by decide) (Nat.le_of_ble_eq_true rfl) rfl ?_
  refine ZV_iload_n (n := 1) dX11_rackTakes_0 rfl rfl rfl ?_
  by_cases h1_0 : k = 0
  · subst h1_0
    refine ZV_lookup (tgt := 38) dX11_rackTakes_1 (by decide) (off := 37) (by decide) (by decide) ?_
    refine ZV_aload_n (n := 39) dX11_rackTakes_38 rfl rfl rfl ?_
    refine call_X11_193 (e_isNote hG he hkd) rfl dX11_rackTakes_39 rfl (cf_ek hG e he).1 (Nat.le_of_ble_eq_true rfl) (Nat.le_of_ble_eq_true rfl) rfl (fun r9 σ9 hp9 => ?_)
    obtain ⟨rfl, hs9⟩ := hp9
    subst σ9
    refine ZV_zret dX11_rackTakes_42 rfl (bI_01 _) ?_
    refine ⟨?_, rfl⟩
    rw [ofB_0]
  by_cases h1_3 : k = 3
  · subst h1_3
    refine ZV_lookup (tgt := 43) dX11_rackTakes_1 (by decide) (off := 42) (by decide) (by decide) ?_
    refine ZV_aload_n (n := 44) dX11_rackTakes_43 rfl rfl rfl ?_
    refine call_X11_193 (e_isNote hG he hkd) rfl dX11_rackTakes_44 rfl (cf_ek hG e he).1 (Nat.le_of_ble_eq_true rfl) (Nat.le_of_ble_eq_true rfl) rfl (fun r9 σ9 hp9 => ?_)
    obtain ⟨rfl, hs9⟩ := hp9
    subst σ9
    refine ZV_if_neB (tgt := 54) (n := 50) dX11_rackTakes_47 (by decide) rfl (fun h47 => ?_) (fun h47 => ?_)
    · skip
      refine ZV_iconst (v := nI 0) (n := 55) dX11_rackTakes_54 rfl rfl ?_
      refine ZV_zret dX11_rackTakes_55 rfl (by first | exact Or.inl rfl | exact Or.inr rfl) ?_
      refine ⟨?_, rfl⟩
      rw [ofB_3, h47]
      rfl
    · skip
      refine ZV_iconst (v := nI 1) (n := 51) dX11_rackTakes_50 rfl rfl ?_
      refine ZV_goto (tgt := 55) dX11_rackTakes_51 (by decide) ?_
      refine ZV_zret dX11_rackTakes_55 rfl (by first | exact Or.inl rfl | exact Or.inr rfl) ?_
      refine ⟨?_, rfl⟩
      rw [ofB_3, h47]
      rfl
  by_cases h1_5 : k = 5
  · subst h1_5
    refine ZV_lookup (tgt := 36) dX11_rackTakes_1 (by decide) (off := 35) (by decide) (by decide) ?_
    refine ZV_iconst (v := nI 1) (n := 37) dX11_rackTakes_36 rfl rfl ?_
    refine ZV_zret dX11_rackTakes_37 rfl (by first | exact Or.inl rfl | exact Or.inr rfl) ?_
    refine ⟨?_, rfl⟩
    rw [ofB_5]
    rfl
  have hx0 : ¬ nI k = nI 0 := fun z => h1_0 ((nI_eq (by omega) (by decide)).mp z)
  have hx3 : ¬ nI k = nI 3 := fun z => h1_3 ((nI_eq (by omega) (by decide)).mp z)
  have hx5 : ¬ nI k = nI 5 := fun z => h1_5 ((nI_eq (by omega) (by decide)).mp z)
  refine ZV_lookup (tgt := 56) dX11_rackTakes_1 (by decide) (off := 55) (by rw [lv_osw hx0 (by decide), lv_osw hx3 (by decide), lv_osw hx5 (by decide)]; rfl) (by decide) ?_
  refine ZV_aload_n (n := 57) dX11_rackTakes_56 rfl rfl rfl ?_
  refine ZV_getIv (n := 60) dX11_rackTakes_57 fl_X11_177 rfl rfl rfl (cf_ek hG e he).1 (cf_ed hG e he) ?_
  refine ZV_iload_n (n := 61) dX11_rackTakes_60 rfl rfl rfl ?_
  refine ZV_icmp_neN (tgt := 68) (n := 64) dX11_rackTakes_61 (by decide) rfl (by omega) (by omega) (fun h61 => ?_) (fun h61 => ?_)
  · skip
    refine ZV_iconst (v := nI 0) (n := 69) dX11_rackTakes_68 rfl rfl ?_
    refine ZV_zret dX11_rackTakes_69 rfl (by first | exact Or.inl rfl | exact Or.inr rfl) ?_
    refine ⟨?_, rfl⟩
    have hq : ofB T e k = decide (g_kd T e = k) := ofB_d T e h1_0 h1_3 h1_5
    rw [hq]
    first | (rw [decide_eq_true h61]; rfl) | (rw [decide_eq_false h61]; rfl)
  · skip
    refine ZV_iconst (v := nI 1) (n := 65) dX11_rackTakes_64 rfl rfl ?_
    refine ZV_goto (tgt := 69) dX11_rackTakes_65 (by decide) ?_
    refine ZV_zret dX11_rackTakes_69 rfl (by first | exact Or.inl rfl | exact Or.inr rfl) ?_
    refine ⟨?_, rfl⟩
    have hq : ofB T e k = decide (g_kd T e = k) := ofB_d T e h1_0 h1_3 h1_5
    rw [hq]
    first | (rw [decide_eq_true h61]; rfl) | (rw [decide_eq_false h61]; rfl)
set_option maxHeartbeats 4000000 in
set_option maxRecDepth 100000 in
theorem q_hold {c : Nat} {σ : ZS} {T : TS} (hR : cR c σ T) (hI : tI T) (r i e : Int32) : ZC M_X11_hold [Ar (some c), Ai r, Ai i, Ai e] σ (fun y0 τ0 => y0 = some (Ai (sp_hold T r i e).1) ∧ cR c τ0 (sp_hold T r i e).2) := by
  obtain ⟨B, K, hG, hK⟩ := hR
  have hbd := cf_bd hG
  refine ZC_of (ls := [some (Ar (some c)), some (Ai r), some (Ai i), some (Ai e), none, none]) (by decide) (Nat.le_of_ble_eq_true rfl) rfl ?_
  refine ZV_aload_n (n := 1) dX11_hold_0 rfl rfl rfl ?_
  refine ZV_iload_n (n := 2) dX11_hold_1 rfl rfl rfl ?_
  refine call_X11_155 (e_eventOf hG _) rfl dX11_hold_2 rfl (cf_sh hG :).1 (Nat.le_of_ble_eq_true rfl) (Nat.le_of_ble_eq_true rfl) rfl (fun r9 σ9 hp9 => ?_)
  obtain ⟨hs9, hp9⟩ := hp9
  subst σ9
  rcases hp9 with ⟨hv2, hr9⟩ | ⟨e2, he2, ht2, hn2, hr9⟩
  · skip
    subst hr9
    refine ZV_astore_4 (n := 7) dX11_hold_5 rfl (Nat.le_of_ble_eq_true rfl) rfl ?_
    refine ZV_iload_n (n := 8) dX11_hold_7 rfl rfl rfl ?_
    refine call_X11_359 (e_isRowNumber _ _) rfl dX11_hold_8 (Nat.le_of_ble_eq_true rfl) (Nat.le_of_ble_eq_true rfl) rfl (fun r9 σ9 hp9 => ?_)
    obtain ⟨rfl, hs9⟩ := hp9
    subst σ9
    refine ZV_if_eqB (tgt := 24) (n := 14) dX11_hold_11 (by decide) rfl (fun h11 => ?_) (fun h11 => ?_)
    · skip
      refine ZV_aload_n (n := 25) dX11_hold_24 rfl rfl rfl ?_
      refine ZV_bipush (v := -2) (n := 27) dX11_hold_25 rfl rfl ?_
      refine call_X11_87 (e_refuse hG _) rfl dX11_hold_27 rfl (cf_sh hG :).1 (Nat.le_of_ble_eq_true rfl) (Nat.le_of_ble_eq_true rfl) rfl (fun r9 σ9 hp9 => ?_)
      obtain ⟨rfl, hG⟩ := hp9
      refine ZV_iret dX11_hold_30 rfl ?_
      exact zlC (v := sNo T (-2)) (by rw [sp_hold, if_neg (fun z => by rw [h11] at z; cases z.1)]) rfl ⟨B, K, hG, kI_e hK ⟨rfl, rfl, rfl, rfl, rfl, rfl, rfl, rfl, rfl, rfl, rfl, rfl, rfl, rfl, rfl, rfl, rfl, rfl, rfl, rfl⟩⟩
    · skip
      refine ZV_aload (n := 16) dX11_hold_14 rfl rfl ?_
      refine ZV_ifnonnull_n (tgt := 31) (n := 19) dX11_hold_16 (by decide) rfl ?_
      refine ZV_iload_n (n := 20) dX11_hold_19 rfl rfl rfl ?_
      refine ZV_iconst (v := -1) (n := 21) dX11_hold_20 rfl rfl ?_
      refine ZV_icmp_eq (tgt := 31) (n := 24) dX11_hold_21 (by decide) rfl (fun h21 => ?_) (fun h21 => ?_)
      · skip
        subst h21
        obtain ⟨a, ha, ha2, rfl⟩ := inB_t h11
        have hca : (nI a).toNatClampNeg = a := nI_clamp ha2
        have hrk := ti_rk hI a ha
        have h11 : inB (nI a) 4 = true := h11
        refine ZV_aload_n (n := 32) dX11_hold_31 rfl rfl rfl ?_
        refine ZV_getRv (n := 35) dX11_hold_32 fl_X11_74 rfl rfl rfl (cf_sh hG :).1 (ca_racks (cf_sh hG :)) ?_
        refine ZV_iload_n (n := 36) dX11_hold_35 rfl rfl rfl ?_
        rcases hb36 : g_hr T a with _ | _
        · skip
          refine ZV_aaldv (c0 := 5) (w := none) (j := a) (n := 37) dX11_hold_36 rfl (by decide) rfl (ck_racks (cf_sh hG :)) rfl (by omega) (Eq.trans (cf_ra hG a (by omega)) (if_neg (by rw [hb36]; exact Bool.false_ne_true))) ?_
          refine ZV_astore_5 (n := 39) dX11_hold_37 rfl (Nat.le_of_ble_eq_true rfl) rfl ?_
          refine ZV_aload (n := 41) dX11_hold_39 rfl rfl ?_
          refine ZV_ifnonnull_n (tgt := 51) (n := 44) dX11_hold_41 (by decide) rfl ?_
          refine ZV_aload_n (n := 45) dX11_hold_44 rfl rfl rfl ?_
          refine ZV_bipush (v := -11) (n := 47) dX11_hold_45 rfl rfl ?_
          refine call_X11_180 (e_fail hG (-11) 0 (by decide) rfl) rfl dX11_hold_47 rfl (cf_sh hG :).1 (Nat.le_of_ble_eq_true rfl) (Nat.le_of_ble_eq_true rfl) rfl (fun r9 σ9 hp9 => ?_)
          obtain ⟨rfl, hG⟩ := hp9
          refine ZV_iret dX11_hold_50 rfl ?_
          exact zlC (v := sFl T 0 (-11) (-11)) (by rw [sp_hold, if_pos ⟨h11, Or.inl rfl⟩, hca, if_pos hb36]) rfl ⟨B, K, hG, kI_e hK ⟨rfl, rfl, rfl, rfl, rfl, rfl, rfl, rfl, rfl, rfl, rfl, rfl, rfl, rfl, rfl, rfl, rfl, rfl, rfl, rfl⟩⟩
        · skip
          refine ZV_aaldv (c0 := 5) (w := some (k_wa K a)) (j := a) (n := 37) dX11_hold_36 rfl (by decide) rfl (ck_racks (cf_sh hG :)) rfl (by omega) (Eq.trans (cf_ra hG a (by omega)) (if_pos hb36)) ?_
          refine ZV_astore_5 (n := 39) dX11_hold_37 rfl (Nat.le_of_ble_eq_true rfl) rfl ?_
          refine ZV_aload (n := 41) dX11_hold_39 rfl rfl ?_
          refine ZV_ifnonnull_s (tgt := 51) dX11_hold_41 (by decide) ?_
          refine ZV_aload (n := 53) dX11_hold_51 rfl rfl ?_
          refine ZV_iload_n (n := 54) dX11_hold_53 rfl rfl rfl ?_
          refine call_X11_364 (e_hasR hG ha hb36 (by omega) _) rfl dX11_hold_54 rfl (cf_rk hG a ha hb36).1 (Nat.le_of_ble_eq_true rfl) (Nat.le_of_ble_eq_true rfl) rfl (fun r9 σ9 hp9 => ?_)
          obtain ⟨rfl, hs9⟩ := hp9
          subst σ9
          refine ZV_if_neB (tgt := 67) (n := 60) dX11_hold_57 (by decide) rfl (fun h57 => ?_) (fun h57 => ?_)
          · skip
            obtain ⟨j, hj, hj2, rfl⟩ := inB_t h57
            have hcj : (nI j).toNatClampNeg = j := nI_clamp hj2
            have h57 : inB (nI j) (g_rs T a) = true := h57
            refine ZV_aload (n := 69) dX11_hold_67 rfl rfl ?_
            refine ZV_ifnull_n (tgt := 92) dX11_hold_69 (by decide) ?_
            refine ZV_aload (n := 94) dX11_hold_92 rfl rfl ?_
            refine ZV_getRv (n := 97) dX11_hold_94 fl_X11_372 rfl rfl rfl (cf_rk hG a ha hb36).1 (cf_rt hG a ha hb36) ?_
            refine ZV_iload_n (n := 98) dX11_hold_97 rfl rfl rfl ?_
            refine ZV_iload_n (n := 99) dX11_hold_98 rfl rfl rfl ?_
            refine ZV_iast (j := j) (n := 100) dX11_hold_99 rfl rfl (cf_rk hG a ha hb36).2.1 rfl (by omega) ?_
            refine ZV_gen (P := fun τ => cG c B τ _ _) (U_rr hG ha hb36 j none) (fun σ hG => ?_)
            refine ZV_aload_n (n := 101) dX11_hold_100 rfl rfl rfl ?_
            refine ZV_iconst (v := nI 1) (n := 102) dX11_hold_101 rfl rfl ?_
            refine call_X11_98 (e_done hG _) rfl dX11_hold_102 rfl (cf_sh hG :).1 (Nat.le_of_ble_eq_true rfl) (Nat.le_of_ble_eq_true rfl) rfl (fun r9 σ9 hp9 => ?_)
            obtain ⟨rfl, hG⟩ := hp9
            refine ZV_iret dX11_hold_105 rfl ?_
            exact zlC (v := sOk (h_rr T (va_u2 (g_rr T) a (va_up (g_rr T a) j none))) 1) (by rw [sp_hold, if_pos ⟨h11, Or.inl rfl⟩, hca, if_neg (tne hb36), if_neg (tne h57), if_pos (Or.inl rfl), hcj, if_pos rfl]) rfl ⟨B, K, hG, kI_e hK ⟨rfl, rfl, rfl, rfl, rfl, rfl, rfl, rfl, rfl, rfl, rfl, rfl, rfl, rfl, rfl, rfl, rfl, rfl, rfl, rfl⟩⟩
          · skip
            refine ZV_aload_n (n := 61) dX11_hold_60 rfl rfl rfl ?_
            refine ZV_bipush (v := -12) (n := 63) dX11_hold_61 rfl rfl ?_
            refine call_X11_180 (e_fail hG (-12) 1 (by decide) rfl) rfl dX11_hold_63 rfl (cf_sh hG :).1 (Nat.le_of_ble_eq_true rfl) (Nat.le_of_ble_eq_true rfl) rfl (fun r9 σ9 hp9 => ?_)
            obtain ⟨rfl, hG⟩ := hp9
            refine ZV_iret dX11_hold_66 rfl ?_
            exact zlC (v := sFl T 1 (-12) (-12)) (by rw [sp_hold, if_pos ⟨h11, Or.inl rfl⟩, hca, if_neg (tne hb36), if_pos h57]) rfl ⟨B, K, hG, kI_e hK ⟨rfl, rfl, rfl, rfl, rfl, rfl, rfl, rfl, rfl, rfl, rfl, rfl, rfl, rfl, rfl, rfl, rfl, rfl, rfl, rfl⟩⟩
      · skip
        refine ZV_aload_n (n := 25) dX11_hold_24 rfl rfl rfl ?_
        refine ZV_bipush (v := -2) (n := 27) dX11_hold_25 rfl rfl ?_
        refine call_X11_87 (e_refuse hG _) rfl dX11_hold_27 rfl (cf_sh hG :).1 (Nat.le_of_ble_eq_true rfl) (Nat.le_of_ble_eq_true rfl) rfl (fun r9 σ9 hp9 => ?_)
        obtain ⟨rfl, hG⟩ := hp9
        refine ZV_iret dX11_hold_30 rfl ?_
        exact zlC (v := sNo T (-2)) (by rw [sp_hold, if_neg (fun z => z.2.elim h21 (fun y => by rw [hv2] at y; cases y))]) rfl ⟨B, K, hG, kI_e hK ⟨rfl, rfl, rfl, rfl, rfl, rfl, rfl, rfl, rfl, rfl, rfl, rfl, rfl, rfl, rfl, rfl, rfl, rfl, rfl, rfl⟩⟩
  · skip
    subst hr9
    subst hn2
    have hE2 : evB T (nI e2) = true := evB_nI hI he2 ht2
    have hev2 := ti_ev hI
    have hkd2 := ti_kd hI _ he2
    have hpn2 := ti_pn hI e2
    have hpl2 := ki_pl hK _ he2 ht2
    have hpb2 := pl_b hI hK he2 ht2
    have hvo2 := ti_vo hI _ he2
    have hc2 : (nI e2).toNatClampNeg = e2 := nI_clamp (by omega)
    refine ZV_astore_4 (n := 7) dX11_hold_5 rfl (Nat.le_of_ble_eq_true rfl) rfl ?_
    refine ZV_iload_n (n := 8) dX11_hold_7 rfl rfl rfl ?_
    refine call_X11_359 (e_isRowNumber _ _) rfl dX11_hold_8 (Nat.le_of_ble_eq_true rfl) (Nat.le_of_ble_eq_true rfl) rfl (fun r9 σ9 hp9 => ?_)
    obtain ⟨rfl, hs9⟩ := hp9
    subst σ9
    refine ZV_if_eqB (tgt := 24) (n := 14) dX11_hold_11 (by decide) rfl (fun h11 => ?_) (fun h11 => ?_)
    · skip
      refine ZV_aload_n (n := 25) dX11_hold_24 rfl rfl rfl ?_
      refine ZV_bipush (v := -2) (n := 27) dX11_hold_25 rfl rfl ?_
      refine call_X11_87 (e_refuse hG _) rfl dX11_hold_27 rfl (cf_sh hG :).1 (Nat.le_of_ble_eq_true rfl) (Nat.le_of_ble_eq_true rfl) rfl (fun r9 σ9 hp9 => ?_)
      obtain ⟨rfl, hG⟩ := hp9
      refine ZV_iret dX11_hold_30 rfl ?_
      exact zlC (v := sNo T (-2)) (by rw [sp_hold, if_neg (fun z => by rw [h11] at z; cases z.1)]) rfl ⟨B, K, hG, kI_e hK ⟨rfl, rfl, rfl, rfl, rfl, rfl, rfl, rfl, rfl, rfl, rfl, rfl, rfl, rfl, rfl, rfl, rfl, rfl, rfl, rfl⟩⟩
    · skip
      refine ZV_aload (n := 16) dX11_hold_14 rfl rfl ?_
      refine ZV_ifnonnull_s (tgt := 31) dX11_hold_16 (by decide) ?_
      obtain ⟨a, ha, ha2, rfl⟩ := inB_t h11
      have hca : (nI a).toNatClampNeg = a := nI_clamp ha2
      have hrk := ti_rk hI a ha
      have h11 : inB (nI a) 4 = true := h11
      refine ZV_aload_n (n := 32) dX11_hold_31 rfl rfl rfl ?_
      refine ZV_getRv (n := 35) dX11_hold_32 fl_X11_74 rfl rfl rfl (cf_sh hG :).1 (ca_racks (cf_sh hG :)) ?_
      refine ZV_iload_n (n := 36) dX11_hold_35 rfl rfl rfl ?_
      rcases hb36 : g_hr T a with _ | _
      · skip
        refine ZV_aaldv (c0 := 5) (w := none) (j := a) (n := 37) dX11_hold_36 rfl (by decide) rfl (ck_racks (cf_sh hG :)) rfl (by omega) (Eq.trans (cf_ra hG a (by omega)) (if_neg (by rw [hb36]; exact Bool.false_ne_true))) ?_
        refine ZV_astore_5 (n := 39) dX11_hold_37 rfl (Nat.le_of_ble_eq_true rfl) rfl ?_
        refine ZV_aload (n := 41) dX11_hold_39 rfl rfl ?_
        refine ZV_ifnonnull_n (tgt := 51) (n := 44) dX11_hold_41 (by decide) rfl ?_
        refine ZV_aload_n (n := 45) dX11_hold_44 rfl rfl rfl ?_
        refine ZV_bipush (v := -11) (n := 47) dX11_hold_45 rfl rfl ?_
        refine call_X11_180 (e_fail hG (-11) 0 (by decide) rfl) rfl dX11_hold_47 rfl (cf_sh hG :).1 (Nat.le_of_ble_eq_true rfl) (Nat.le_of_ble_eq_true rfl) rfl (fun r9 σ9 hp9 => ?_)
        obtain ⟨rfl, hG⟩ := hp9
        refine ZV_iret dX11_hold_50 rfl ?_
        exact zlC (v := sFl T 0 (-11) (-11)) (by rw [sp_hold, if_pos ⟨h11, Or.inr hE2⟩, hca, if_pos hb36]) rfl ⟨B, K, hG, kI_e hK ⟨rfl, rfl, rfl, rfl, rfl, rfl, rfl, rfl, rfl, rfl, rfl, rfl, rfl, rfl, rfl, rfl, rfl, rfl, rfl, rfl⟩⟩
      · skip
        refine ZV_aaldv (c0 := 5) (w := some (k_wa K a)) (j := a) (n := 37) dX11_hold_36 rfl (by decide) rfl (ck_racks (cf_sh hG :)) rfl (by omega) (Eq.trans (cf_ra hG a (by omega)) (if_pos hb36)) ?_
        refine ZV_astore_5 (n := 39) dX11_hold_37 rfl (Nat.le_of_ble_eq_true rfl) rfl ?_
        refine ZV_aload (n := 41) dX11_hold_39 rfl rfl ?_
        refine ZV_ifnonnull_s (tgt := 51) dX11_hold_41 (by decide) ?_
        refine ZV_aload (n := 53) dX11_hold_51 rfl rfl ?_
        refine ZV_iload_n (n := 54) dX11_hold_53 rfl rfl rfl ?_
        refine call_X11_364 (e_hasR hG ha hb36 (by omega) _) rfl dX11_hold_54 rfl (cf_rk hG a ha hb36).1 (Nat.le_of_ble_eq_true rfl) (Nat.le_of_ble_eq_true rfl) rfl (fun r9 σ9 hp9 => ?_)
        obtain ⟨rfl, hs9⟩ := hp9
        subst σ9
        refine ZV_if_neB (tgt := 67) (n := 60) dX11_hold_57 (by decide) rfl (fun h57 => ?_) (fun h57 => ?_)
        · skip
          obtain ⟨j, hj, hj2, rfl⟩ := inB_t h57
          have hcj : (nI j).toNatClampNeg = j := nI_clamp hj2
          have h57 : inB (nI j) (g_rs T a) = true := h57
          refine ZV_aload (n := 69) dX11_hold_67 rfl rfl ?_
          refine ZV_ifnull_s (tgt := 92) (n := 72) dX11_hold_69 (by decide) rfl ?_
          refine ZV_aload (n := 74) dX11_hold_72 rfl rfl ?_
          refine ZV_getIv (n := 77) dX11_hold_74 fl_X11_367 rfl rfl rfl (cf_rk hG a ha hb36).1 (cf_rd hG a ha hb36) ?_
          refine ZV_aload (n := 79) dX11_hold_77 rfl rfl ?_
          refine call_X11_368 (e_rackTakes hG he2 (by omega) hkd2) rfl dX11_hold_79 (Nat.le_of_ble_eq_true rfl) (Nat.le_of_ble_eq_true rfl) rfl (fun r9 σ9 hp9 => ?_)
          obtain ⟨rfl, hs9⟩ := hp9
          subst σ9
          refine ZV_if_neB (tgt := 92) (n := 85) dX11_hold_82 (by decide) rfl (fun h82 => ?_) (fun h82 => ?_)
          · skip
            refine ZV_aload (n := 94) dX11_hold_92 rfl rfl ?_
            refine ZV_getRv (n := 97) dX11_hold_94 fl_X11_372 rfl rfl rfl (cf_rk hG a ha hb36).1 (cf_rt hG a ha hb36) ?_
            refine ZV_iload_n (n := 98) dX11_hold_97 rfl rfl rfl ?_
            refine ZV_iload_n (n := 99) dX11_hold_98 rfl rfl rfl ?_
            refine ZV_iast (j := j) (n := 100) dX11_hold_99 rfl rfl (cf_rk hG a ha hb36).2.1 rfl (by omega) ?_
            refine ZV_gen (P := fun τ => cG c B τ _ _) (U_rr hG ha hb36 j (some e2)) (fun σ hG => ?_)
            refine ZV_aload_n (n := 101) dX11_hold_100 rfl rfl rfl ?_
            refine ZV_iconst (v := nI 1) (n := 102) dX11_hold_101 rfl rfl ?_
            refine call_X11_98 (e_done hG _) rfl dX11_hold_102 rfl (cf_sh hG :).1 (Nat.le_of_ble_eq_true rfl) (Nat.le_of_ble_eq_true rfl) rfl (fun r9 σ9 hp9 => ?_)
            obtain ⟨rfl, hG⟩ := hp9
            refine ZV_iret dX11_hold_105 rfl ?_
            exact zlC (v := sOk (h_rr T (va_u2 (g_rr T) a (va_up (g_rr T a) j (some e2)))) 1) (by rw [sp_hold, if_pos ⟨h11, Or.inr hE2⟩, hca, if_neg (tne hb36), if_neg (tne h57), hc2, if_pos (Or.inr h82), hcj, if_neg (nI_ne_m1 (by omega))]) rfl ⟨B, K, hG, kI_e hK ⟨rfl, rfl, rfl, rfl, rfl, rfl, rfl, rfl, rfl, rfl, rfl, rfl, rfl, rfl, rfl, rfl, rfl, rfl, rfl, rfl⟩⟩
          · skip
            refine ZV_aload_n (n := 86) dX11_hold_85 rfl rfl rfl ?_
            refine ZV_bipush (v := -14) (n := 88) dX11_hold_86 rfl rfl ?_
            refine call_X11_180 (e_fail hG (-14) 3 (by decide) rfl) rfl dX11_hold_88 rfl (cf_sh hG :).1 (Nat.le_of_ble_eq_true rfl) (Nat.le_of_ble_eq_true rfl) rfl (fun r9 σ9 hp9 => ?_)
            obtain ⟨rfl, hG⟩ := hp9
            refine ZV_iret dX11_hold_91 rfl ?_
            exact zlC (v := sFl T 3 (-14) (-14)) (by rw [sp_hold, if_pos ⟨h11, Or.inr hE2⟩, hca, if_neg (tne hb36), if_neg (tne h57), hc2, if_neg (fun z => z.elim (nI_ne_m1 (by omega)) (by rw [h82]; exact Bool.false_ne_true))]) rfl ⟨B, K, hG, kI_e hK ⟨rfl, rfl, rfl, rfl, rfl, rfl, rfl, rfl, rfl, rfl, rfl, rfl, rfl, rfl, rfl, rfl, rfl, rfl, rfl, rfl⟩⟩
        · skip
          refine ZV_aload_n (n := 61) dX11_hold_60 rfl rfl rfl ?_
          refine ZV_bipush (v := -12) (n := 63) dX11_hold_61 rfl rfl ?_
          refine call_X11_180 (e_fail hG (-12) 1 (by decide) rfl) rfl dX11_hold_63 rfl (cf_sh hG :).1 (Nat.le_of_ble_eq_true rfl) (Nat.le_of_ble_eq_true rfl) rfl (fun r9 σ9 hp9 => ?_)
          obtain ⟨rfl, hG⟩ := hp9
          refine ZV_iret dX11_hold_66 rfl ?_
          exact zlC (v := sFl T 1 (-12) (-12)) (by rw [sp_hold, if_pos ⟨h11, Or.inr hE2⟩, hca, if_neg (tne hb36), if_pos h57]) rfl ⟨B, K, hG, kI_e hK ⟨rfl, rfl, rfl, rfl, rfl, rfl, rfl, rfl, rfl, rfl, rfl, rfl, rfl, rfl, rfl, rfl, rfl, rfl, rfl, rfl⟩⟩
