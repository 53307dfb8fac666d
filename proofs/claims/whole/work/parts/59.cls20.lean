def shX (x y : Int32) : Int32 := (x.toUInt32 >>> (y.toUInt32 &&& Int32.toUInt32 31)).toInt32
def bc1 (x : Int32) : Int32 := x - (shX x (nI 1) &&& nI 1431655765)
def bc2 (x : Int32) : Int32 := (bc1 x &&& nI 858993459) + (shX (bc1 x) (nI 2) &&& nI 858993459)
def bc3 (x : Int32) : Int32 := (bc2 x + shX (bc2 x) (nI 4)) &&& nI 252645135
def bc4 (x : Int32) : Int32 := bc3 x + shX (bc3 x) (nI 8)
def bc5 (x : Int32) : Int32 := bc4 x + shX (bc4 x) (nI 16)
def bcX (x : Int32) : Int32 := bc5 x &&& nI 63
theorem bc_d {j : Nat} (h : j ≤ 32) : (bcX (nI j) = nI 1) ↔ isD (nI j) = true := by
  have h0 : ∀ q : Fin 33, decide (bcX (nI q.1) = nI 1) = isD (nI q.1) := by decide +kernel
  have h1 := h0 ⟨j, by omega⟩
  constructor
  · intro z
    rw [← h1]
    exact decide_eq_true z
  · intro z
    rw [← h1] at z
    exact of_decide_eq_true z
theorem isD_le {d : Int32} (h : isD d = true) : ∃ j : Nat, 1 ≤ j ∧ j ≤ 32 ∧ d = nI j := by
  have h1 := of_decide_eq_true h
  rcases h1 with h1 | h1 | h1 | h1 | h1 | h1
  · exact ⟨1, by decide, by decide, h1⟩
  · exact ⟨2, by decide, by decide, h1⟩
  · exact ⟨4, by decide, by decide, h1⟩
  · exact ⟨8, by decide, by decide, h1⟩
  · exact ⟨16, by decide, by decide, h1⟩
  · exact ⟨32, by decide, by decide, h1⟩
set_option maxHeartbeats 4000000 in
set_option maxRecDepth 100000 in
theorem e_bitCount (σ : ZS) (x : Int32) : ZC M_J6_bitCount_0f7a4 [Ai x] σ (fun y9 τ9 => y9 = some (Ai (bcX x)) ∧ τ9 = σ) := by
  refine ZC_of (ls := [some (Ai x)]) (by decide) (Nat.le_of_ble_eq_true rfl) rfl ?_
  refine ZV_iload_n (n := 1) dJ6_bitCount_0f7a4_0 rfl rfl rfl ?_
  refine ZV_iload_n (n := 2) dJ6_bitCount_0f7a4_1 rfl rfl rfl ?_
  refine ZV_iconst (v := nI 1) (n := 3) dJ6_bitCount_0f7a4_2 rfl rfl ?_
  refine ZV_iushr (n := 4) dJ6_bitCount_0f7a4_3 rfl ?_
  refine ZV_ldcw (v := nI 1431655765) (n := 7) dJ6_bitCount_0f7a4_4 wd_1_213 rfl ?_
  refine ZV_iand (n := 8) dJ6_bitCount_0f7a4_7 rfl ?_
  refine ZV_isub (n := 9) dJ6_bitCount_0f7a4_8 rfl ?_
  refine ZV_istore_0 (n := 10) dJ6_bitCount_0f7a4_9 rfl (Nat.le_of_ble_eq_true rfl) ?_
  refine ZV_iload_n (n := 11) dJ6_bitCount_0f7a4_10 rfl rfl rfl ?_
  refine ZV_ldcw (v := nI 858993459) (n := 14) dJ6_bitCount_0f7a4_11 wd_1_214 rfl ?_
  refine ZV_iand (n := 15) dJ6_bitCount_0f7a4_14 rfl ?_
  refine ZV_iload_n (n := 16) dJ6_bitCount_0f7a4_15 rfl rfl rfl ?_
  refine ZV_iconst (v := nI 2) (n := 17) dJ6_bitCount_0f7a4_16 rfl rfl ?_
  refine ZV_iushr (n := 18) dJ6_bitCount_0f7a4_17 rfl ?_
  refine ZV_ldcw (v := nI 858993459) (n := 21) dJ6_bitCount_0f7a4_18 wd_1_214 rfl ?_
  refine ZV_iand (n := 22) dJ6_bitCount_0f7a4_21 rfl ?_
  refine ZV_iadd (n := 23) dJ6_bitCount_0f7a4_22 rfl ?_
  refine ZV_istore_0 (n := 24) dJ6_bitCount_0f7a4_23 rfl (Nat.le_of_ble_eq_true rfl) ?_
  refine ZV_iload_n (n := 25) dJ6_bitCount_0f7a4_24 rfl rfl rfl ?_
  refine ZV_iload_n (n := 26) dJ6_bitCount_0f7a4_25 rfl rfl rfl ?_
  refine ZV_iconst (v := nI 4) (n := 27) dJ6_bitCount_0f7a4_26 rfl rfl ?_
  refine ZV_iushr (n := 28) dJ6_bitCount_0f7a4_27 rfl ?_
  refine ZV_iadd (n := 29) dJ6_bitCount_0f7a4_28 rfl ?_
  refine ZV_ldcw (v := nI 252645135) (n := 32) dJ6_bitCount_0f7a4_29 wd_1_215 rfl ?_
  refine ZV_iand (n := 33) dJ6_bitCount_0f7a4_32 rfl ?_
  refine ZV_istore_0 (n := 34) dJ6_bitCount_0f7a4_33 rfl (Nat.le_of_ble_eq_true rfl) ?_
  refine ZV_iload_n (n := 35) dJ6_bitCount_0f7a4_34 rfl rfl rfl ?_
  refine ZV_iload_n (n := 36) dJ6_bitCount_0f7a4_35 rfl rfl rfl ?_
  refine ZV_bipush (v := nI 8) (n := 38) dJ6_bitCount_0f7a4_36 rfl rfl ?_
  refine ZV_iushr (n := 39) dJ6_bitCount_0f7a4_38 rfl ?_
  refine ZV_iadd (n := 40) dJ6_bitCount_0f7a4_39 rfl ?_
  refine ZV_istore_0 (n := 41) dJ6_bitCount_0f7a4_40 rfl (Nat.le_of_ble_eq_true rfl) ?_
  refine ZV_iload_n (n := 42) dJ6_bitCount_0f7a4_41 rfl rfl rfl ?_
  refine ZV_iload_n (n := 43) dJ6_bitCount_0f7a4_42 rfl rfl rfl ?_
  refine ZV_bipush (v := nI 16) (n := 45) dJ6_bitCount_0f7a4_43 rfl rfl ?_
  refine ZV_iushr (n := 46) dJ6_bitCount_0f7a4_45 rfl ?_
  refine ZV_iadd (n := 47) dJ6_bitCount_0f7a4_46 rfl ?_
  refine ZV_istore_0 (n := 48) dJ6_bitCount_0f7a4_47 rfl (Nat.le_of_ble_eq_true rfl) ?_
  refine ZV_iload_n (n := 49) dJ6_bitCount_0f7a4_48 rfl rfl rfl ?_
  refine ZV_bipush (v := nI 63) (n := 51) dJ6_bitCount_0f7a4_49 rfl rfl ?_
  refine ZV_iand (n := 52) dJ6_bitCount_0f7a4_51 rfl ?_
  refine ZV_iret dJ6_bitCount_0f7a4_52 rfl ?_
  exact ⟨rfl, rfl⟩
theorem U_bar {c B : Nat} {σ : ZS} {T : TS} {K : KS} (h : cG c B σ T K) (hn : g_nb T ≠ 24) (x w : Nat) : cG c B (pI (ql σ (c + 3) (g_nb T) (lN w)) 708 c (nI (g_nb T + 1))) (h_nb (h_bt T (va_up (g_bt T) (g_nb T) x)) (g_nb T + 1)) (j_be K (va_up (k_be K) (g_nb T) w)) := ⟨(cf_sh h :), (cf_B h :), (have z := cf_bd h; ⟨z.1, z.2.1, z.2.2.1, z.2.2.2.1, by show g_nb T + 1 ≤ 24; omega⟩), (cf_pk h :), (cf_vk h :), (cf_ek h :), (cf_tk h :), (cf_lk h :), (cf_rk h :), (cf_sk h :), (cf_pai h :), (cf_lai h :), (cf_wai h :), (cf_np h :), (if_pos ⟨rfl, rfl⟩), (cf_ev h :), (cf_te h :), (cf_le h :), (cf_wm h :), (cf_fo h :), (cf_su h :), (cf_pa h :), (cf_pas h :), (cf_va h :), (cf_vn h :), (cf_vi h :), (cf_ve h :), (cf_vs h :), (cf_vw h :), (cf_vl h :), (cf_ro h :), (fun b hb => by
  have hb : b < g_nb T + 1 := hb
  show zl (ql σ (c + 3) (g_nb T) (lN w)) (c + 3) b = lN (va_up (k_be K) (g_nb T) w b)
  by_cases q : b = g_nb T
  · subst q
    rw [up_eq]
    exact if_pos ⟨rfl, rfl⟩
  · rw [up_ne q]
    exact Eq.trans (if_neg (fun z => q z.2)) (cf_be h b (by omega))), (cf_ea h :), (cf_en h :), (cf_eo h :), (cf_ed h :), (cf_ep h :), (cf_ec h :), (cf_et h :), (cf_es h :), (cf_ei h :), (cf_el h :), (cf_eb h :), (cf_ez h :), (cf_pi h :), (cf_ta h :), (cf_tq h :), (cf_to h :), (cf_t1 h :), (cf_t2 h :), (cf_tn h :), (cf_tm h :), (cf_tu h :), (cf_la h :), (cf_lj h :), (cf_lf h :), (cf_lo h :), (cf_wr h :), (cf_fi h :), (cf_fa h :), (cf_ra h :), (cf_sa h :), (cf_rd h :), (cf_sd h :), (cf_rt h :), (cf_st h :), (cf_rr h :), (cf_sr h :)⟩
theorem kI_bar {T : TS} {K : KS} (hI : tI T) (hK : kI T K) (x : Nat) : kI (h_nb (h_bt T (va_up (g_bt T) (g_nb T) x)) (g_nb T + 1)) (j_be K (va_up (k_be K) (g_nb T) (baF T (g_nb T) + x))) := by
  have hb : ∀ w p, bgF (h_nb (h_bt T (va_up (g_bt T) (g_nb T) x)) (g_nb T + 1)) w p = bgF T w p := by
    intro w p
    refine bgF_cg (T := T) (S := (h_nb (h_bt T (va_up (g_bt T) (g_nb T) x)) (g_nb T + 1))) p (fun q _ => ⟨rfl, ?_⟩)
    exact tmF_cg (T := T) (S := (h_nb (h_bt T (va_up (g_bt T) (g_nb T) x)) (g_nb T + 1))) rfl (g_te T) (fun _ _ => ⟨rfl, fun _ => ⟨rfl, rfl⟩⟩)
  have ht : ∀ e, tmT (h_nb (h_bt T (va_up (g_bt T) (g_nb T) x)) (g_nb T + 1)) e = tmT T e := fun e => tmF_cg (T := T) (S := (h_nb (h_bt T (va_up (g_bt T) (g_nb T) x)) (g_nb T + 1))) rfl (g_te T) (fun _ _ => ⟨rfl, fun _ => ⟨rfl, rfl⟩⟩)
  refine ⟨ki_pl (T := T) (K := K) hK, fun e he hte => (ki_bg (T := T) hK e he hte).trans (hb _ _).symm, fun e he hte => (ki_ls (T := T) hK e he hte).trans (ht e).symm, fun v hv => (ki_vl (T := T) hK v hv).trans (hb _ _).symm, ki_kT (T := T) (K := K) hK, fun b hb2 => ?_, ki_as (T := T) (K := K) hK⟩
  have hb2 : b < g_nb T + 1 := hb2
  have hlow : ∀ b, b ≤ g_nb T → baF (h_nb (h_bt T (va_up (g_bt T) (g_nb T) x)) (g_nb T + 1)) b = baF T b := fun b hbl => baF_cg (T := T) (S := (h_nb (h_bt T (va_up (g_bt T) (g_nb T) x)) (g_nb T + 1))) b (fun i hi => by
    show va_up (g_bt T) (g_nb T) x i = g_bt T i
    exact up_ne (by omega))
  show va_up (k_be K) (g_nb T) (baF T (g_nb T) + x) b = _
  by_cases q : b = g_nb T
  · subst q
    rw [up_eq, baF, hlow _ (Nat.le_refl _)]
    show _ = _ + va_up (g_bt T) (g_nb T) x (g_nb T)
    rw [up_eq]
  · rw [up_ne q, hlow (b + 1) (by omega)]
    exact ki_be (T := T) hK b (by omega)
theorem inR_no1 {u : Int32} {b : Nat} (h : u < nI 1) : inR u 1 b = false := by
  rw [Int32.lt_iff_toInt_lt, nI_toInt (by decide)] at h
  exact decide_eq_false (by omega)
theorem inR_no2 {u : Int32} {a b : Nat} (hb : b < 2147483648) (h : nI b < u) : inR u a b = false := by
  rw [Int32.lt_iff_toInt_lt, nI_toInt hb] at h
  exact decide_eq_false (by omega)
theorem inR_ok {u : Int32} {b : Nat} (hb : b < 2147483648) (h1 : ¬ u < nI 1) (h2 : ¬ nI b < u) : inR u 1 b = true := by
  rw [Int32.lt_iff_toInt_lt, nI_toInt (by decide)] at h1
  rw [Int32.lt_iff_toInt_lt, nI_toInt hb] at h2
  exact decide_eq_true (by omega)
theorem isD_no1 {d : Int32} (h : d < nI 1) : isD d = false := by
  cases hd : isD d with
  | false => rfl
  | true =>
    obtain ⟨j, h1, h2, rfl⟩ := isD_le hd
    rw [Int32.lt_iff_toInt_lt, nI_toInt (by omega), nI_toInt (by decide)] at h
    omega
theorem isD_no2 {d : Int32} (h : nI 32 < d) : isD d = false := by
  cases hd : isD d with
  | false => rfl
  | true =>
    obtain ⟨j, h1, h2, rfl⟩ := isD_le hd
    rw [Int32.lt_iff_toInt_lt, nI_toInt (by decide), nI_toInt (by omega)] at h
    omega
set_option maxHeartbeats 4000000 in
set_option maxRecDepth 100000 in
theorem q_bar {c : Nat} {σ : ZS} {T : TS} (hR : cR c σ T) (hI : tI T) (u d : Int32) : ZC M_X11_bar [Ar (some c), Ai u, Ai d] σ (fun y0 τ0 => y0 = some (Ai (sp_bar T u d).1) ∧ cR c τ0 (sp_bar T u d).2) := by
  obtain ⟨B, K, hG, hK⟩ := hR
  have hbd := cf_bd hG
  refine ZC_of (ls := [some (Ar (some c)), some (Ai u), some (Ai d), none]) (by decide) (Nat.le_of_ble_eq_true rfl) rfl ?_
  refine ZV_iload_n (n := 1) dX11_bar_0 rfl rfl rfl ?_
  refine ZV_iconst (v := nI 1) (n := 2) dX11_bar_1 rfl rfl ?_
  refine ZV_icmp_lt (tgt := 23) (n := 5) dX11_bar_2 (by decide) rfl (fun h2 => ?_) (fun h2 => ?_)
  · skip
    have hD : isD d = false := isD_no1 h2
    refine ZV_iconst (v := nI 0) (n := 24) dX11_bar_23 rfl rfl ?_
    refine ZV_istore_3 (n := 25) dX11_bar_24 rfl (Nat.le_of_ble_eq_true rfl) rfl ?_
    refine ZV_iload_n (n := 26) dX11_bar_25 rfl rfl rfl ?_
    refine ZV_iconst (v := nI 1) (n := 27) dX11_bar_26 rfl rfl ?_
    refine ZV_icmp_lt (tgt := 40) (n := 30) dX11_bar_27 (by decide) rfl (fun h27 => ?_) (fun h27 => ?_)
    · skip
      refine ZV_aload_n (n := 41) dX11_bar_40 rfl rfl rfl ?_
      refine ZV_bipush (v := -2) (n := 43) dX11_bar_41 rfl rfl ?_
      refine call_X11_87 (e_refuse hG _) rfl dX11_bar_43 rfl (cf_sh hG :).1 (Nat.le_of_ble_eq_true rfl) (Nat.le_of_ble_eq_true rfl) rfl (fun r9 σ9 hp9 => ?_)
      obtain ⟨rfl, hG⟩ := hp9
      refine ZV_iret dX11_bar_46 rfl ?_
      exact zlC (v := sNo T (-2)) (by simp [sp_bar, inR_no1 h27]) rfl ⟨B, K, hG, kI_e hK ⟨rfl, rfl, rfl, rfl, rfl, rfl, rfl, rfl, rfl, rfl, rfl, rfl, rfl, rfl, rfl, rfl, rfl, rfl, rfl, rfl⟩⟩
    · skip
      refine ZV_iload_n (n := 31) dX11_bar_30 rfl rfl rfl ?_
      refine ZV_bipush (v := nI 64) (n := 33) dX11_bar_31 rfl rfl ?_
      refine ZV_icmp_gt (tgt := 40) (n := 36) dX11_bar_33 (by decide) rfl (fun h33 => ?_) (fun h33 => ?_)
      · skip
        refine ZV_aload_n (n := 41) dX11_bar_40 rfl rfl rfl ?_
        refine ZV_bipush (v := -2) (n := 43) dX11_bar_41 rfl rfl ?_
        refine call_X11_87 (e_refuse hG _) rfl dX11_bar_43 rfl (cf_sh hG :).1 (Nat.le_of_ble_eq_true rfl) (Nat.le_of_ble_eq_true rfl) rfl (fun r9 σ9 hp9 => ?_)
        obtain ⟨rfl, hG⟩ := hp9
        refine ZV_iret dX11_bar_46 rfl ?_
        exact zlC (v := sNo T (-2)) (by simp [sp_bar, inR_no2 (a := 1) (show 64 < 2147483648 by decide) h33]) rfl ⟨B, K, hG, kI_e hK ⟨rfl, rfl, rfl, rfl, rfl, rfl, rfl, rfl, rfl, rfl, rfl, rfl, rfl, rfl, rfl, rfl, rfl, rfl, rfl, rfl⟩⟩
      · skip
        refine ZV_iload_n (n := 37) dX11_bar_36 rfl rfl rfl ?_
        refine ZV_if_neN (tgt := 47) (n := 40) dX11_bar_37 (by decide) rfl (by omega) (fun h37 => ?_) (fun h37 => ?_)
        · skip
          exact absurd h37 (by decide)
        · skip
          refine ZV_aload_n (n := 41) dX11_bar_40 rfl rfl rfl ?_
          refine ZV_bipush (v := -2) (n := 43) dX11_bar_41 rfl rfl ?_
          refine call_X11_87 (e_refuse hG _) rfl dX11_bar_43 rfl (cf_sh hG :).1 (Nat.le_of_ble_eq_true rfl) (Nat.le_of_ble_eq_true rfl) rfl (fun r9 σ9 hp9 => ?_)
          obtain ⟨rfl, hG⟩ := hp9
          refine ZV_iret dX11_bar_46 rfl ?_
          exact zlC (v := sNo T (-2)) (by simp [sp_bar, hD]) rfl ⟨B, K, hG, kI_e hK ⟨rfl, rfl, rfl, rfl, rfl, rfl, rfl, rfl, rfl, rfl, rfl, rfl, rfl, rfl, rfl, rfl, rfl, rfl, rfl, rfl⟩⟩
  · skip
    refine ZV_iload_n (n := 6) dX11_bar_5 rfl rfl rfl ?_
    refine ZV_bipush (v := nI 32) (n := 8) dX11_bar_6 rfl rfl ?_
    refine ZV_icmp_gt (tgt := 23) (n := 11) dX11_bar_8 (by decide) rfl (fun h8 => ?_) (fun h8 => ?_)
    · skip
      have hD : isD d = false := isD_no2 h8
      refine ZV_iconst (v := nI 0) (n := 24) dX11_bar_23 rfl rfl ?_
      refine ZV_istore_3 (n := 25) dX11_bar_24 rfl (Nat.le_of_ble_eq_true rfl) rfl ?_
      refine ZV_iload_n (n := 26) dX11_bar_25 rfl rfl rfl ?_
      refine ZV_iconst (v := nI 1) (n := 27) dX11_bar_26 rfl rfl ?_
      refine ZV_icmp_lt (tgt := 40) (n := 30) dX11_bar_27 (by decide) rfl (fun h27 => ?_) (fun h27 => ?_)
      · skip
        refine ZV_aload_n (n := 41) dX11_bar_40 rfl rfl rfl ?_
        refine ZV_bipush (v := -2) (n := 43) dX11_bar_41 rfl rfl ?_
        refine call_X11_87 (e_refuse hG _) rfl dX11_bar_43 rfl (cf_sh hG :).1 (Nat.le_of_ble_eq_true rfl) (Nat.le_of_ble_eq_true rfl) rfl (fun r9 σ9 hp9 => ?_)
        obtain ⟨rfl, hG⟩ := hp9
        refine ZV_iret dX11_bar_46 rfl ?_
        exact zlC (v := sNo T (-2)) (by simp [sp_bar, inR_no1 h27]) rfl ⟨B, K, hG, kI_e hK ⟨rfl, rfl, rfl, rfl, rfl, rfl, rfl, rfl, rfl, rfl, rfl, rfl, rfl, rfl, rfl, rfl, rfl, rfl, rfl, rfl⟩⟩
      · skip
        refine ZV_iload_n (n := 31) dX11_bar_30 rfl rfl rfl ?_
        refine ZV_bipush (v := nI 64) (n := 33) dX11_bar_31 rfl rfl ?_
        refine ZV_icmp_gt (tgt := 40) (n := 36) dX11_bar_33 (by decide) rfl (fun h33 => ?_) (fun h33 => ?_)
        · skip
          refine ZV_aload_n (n := 41) dX11_bar_40 rfl rfl rfl ?_
          refine ZV_bipush (v := -2) (n := 43) dX11_bar_41 rfl rfl ?_
          refine call_X11_87 (e_refuse hG _) rfl dX11_bar_43 rfl (cf_sh hG :).1 (Nat.le_of_ble_eq_true rfl) (Nat.le_of_ble_eq_true rfl) rfl (fun r9 σ9 hp9 => ?_)
          obtain ⟨rfl, hG⟩ := hp9
          refine ZV_iret dX11_bar_46 rfl ?_
          exact zlC (v := sNo T (-2)) (by simp [sp_bar, inR_no2 (a := 1) (show 64 < 2147483648 by decide) h33]) rfl ⟨B, K, hG, kI_e hK ⟨rfl, rfl, rfl, rfl, rfl, rfl, rfl, rfl, rfl, rfl, rfl, rfl, rfl, rfl, rfl, rfl, rfl, rfl, rfl, rfl⟩⟩
        · skip
          refine ZV_iload_n (n := 37) dX11_bar_36 rfl rfl rfl ?_
          refine ZV_if_neN (tgt := 47) (n := 40) dX11_bar_37 (by decide) rfl (by omega) (fun h37 => ?_) (fun h37 => ?_)
          · skip
            exact absurd h37 (by decide)
          · skip
            refine ZV_aload_n (n := 41) dX11_bar_40 rfl rfl rfl ?_
            refine ZV_bipush (v := -2) (n := 43) dX11_bar_41 rfl rfl ?_
            refine call_X11_87 (e_refuse hG _) rfl dX11_bar_43 rfl (cf_sh hG :).1 (Nat.le_of_ble_eq_true rfl) (Nat.le_of_ble_eq_true rfl) rfl (fun r9 σ9 hp9 => ?_)
            obtain ⟨rfl, hG⟩ := hp9
            refine ZV_iret dX11_bar_46 rfl ?_
            exact zlC (v := sNo T (-2)) (by simp [sp_bar, hD]) rfl ⟨B, K, hG, kI_e hK ⟨rfl, rfl, rfl, rfl, rfl, rfl, rfl, rfl, rfl, rfl, rfl, rfl, rfl, rfl, rfl, rfl, rfl, rfl, rfl, rfl⟩⟩
    · skip
      obtain ⟨d9, hd9, hd92⟩ : ∃ j : Nat, (1 ≤ j ∧ j ≤ 32) ∧ d = nI j := inR_t (by decide) (inR_ok (by decide) h2 h8)
      subst hd92
      have hcd : (nI d9).toNatClampNeg = d9 := nI_clamp (by omega)
      refine ZV_iload_n (n := 12) dX11_bar_11 rfl rfl rfl ?_
      refine call_X11_101 (e_bitCount _ _) rfl dX11_bar_12 (Nat.le_of_ble_eq_true rfl) (Nat.le_of_ble_eq_true rfl) rfl (fun r9 σ9 hp9 => ?_)
      obtain ⟨rfl, hs9⟩ := hp9
      subst σ9
      refine ZV_iconst (v := nI 1) (n := 16) dX11_bar_15 rfl rfl ?_
      refine ZV_icmp_ne (tgt := 23) (n := 19) dX11_bar_16 (by decide) rfl (fun h16 => ?_) (fun h16 => ?_)
      · skip
        have hD : isD (nI d9) = false := by cases hz : isD (nI d9)
    with | false => rfl | true => exact absurd ((bc_d (by omega)).mpr hz) h16
        refine ZV_iconst (v := nI 0) (n := 24) dX11_bar_23 rfl rfl ?_
        refine ZV_istore_3 (n := 25) dX11_bar_24 rfl (Nat.le_of_ble_eq_true rfl) rfl ?_
        refine ZV_iload_n (n := 26) dX11_bar_25 rfl rfl rfl ?_
        refine ZV_iconst (v := nI 1) (n := 27) dX11_bar_26 rfl rfl ?_
        refine ZV_icmp_lt (tgt := 40) (n := 30) dX11_bar_27 (by decide) rfl (fun h27 => ?_) (fun h27 => ?_)
        · skip
          refine ZV_aload_n (n := 41) dX11_bar_40 rfl rfl rfl ?_
          refine ZV_bipush (v := -2) (n := 43) dX11_bar_41 rfl rfl ?_
          refine call_X11_87 (e_refuse hG _) rfl dX11_bar_43 rfl (cf_sh hG :).1 (Nat.le_of_ble_eq_true rfl) (Nat.le_of_ble_eq_true rfl) rfl (fun r9 σ9 hp9 => ?_)
          obtain ⟨rfl, hG⟩ := hp9
          refine ZV_iret dX11_bar_46 rfl ?_
          exact zlC (v := sNo T (-2)) (by simp [sp_bar, inR_no1 h27]) rfl ⟨B, K, hG, kI_e hK ⟨rfl, rfl, rfl, rfl, rfl, rfl, rfl, rfl, rfl, rfl, rfl, rfl, rfl, rfl, rfl, rfl, rfl, rfl, rfl, rfl⟩⟩
        · skip
          refine ZV_iload_n (n := 31) dX11_bar_30 rfl rfl rfl ?_
          refine ZV_bipush (v := nI 64) (n := 33) dX11_bar_31 rfl rfl ?_
          refine ZV_icmp_gt (tgt := 40) (n := 36) dX11_bar_33 (by decide) rfl (fun h33 => ?_) (fun h33 => ?_)
          · skip
            refine ZV_aload_n (n := 41) dX11_bar_40 rfl rfl rfl ?_
            refine ZV_bipush (v := -2) (n := 43) dX11_bar_41 rfl rfl ?_
            refine call_X11_87 (e_refuse hG _) rfl dX11_bar_43 rfl (cf_sh hG :).1 (Nat.le_of_ble_eq_true rfl) (Nat.le_of_ble_eq_true rfl) rfl (fun r9 σ9 hp9 => ?_)
            obtain ⟨rfl, hG⟩ := hp9
            refine ZV_iret dX11_bar_46 rfl ?_
            exact zlC (v := sNo T (-2)) (by simp [sp_bar, inR_no2 (a := 1) (show 64 < 2147483648 by decide) h33]) rfl ⟨B, K, hG, kI_e hK ⟨rfl, rfl, rfl, rfl, rfl, rfl, rfl, rfl, rfl, rfl, rfl, rfl, rfl, rfl, rfl, rfl, rfl, rfl, rfl, rfl⟩⟩
          · skip
            refine ZV_iload_n (n := 37) dX11_bar_36 rfl rfl rfl ?_
            refine ZV_if_neN (tgt := 47) (n := 40) dX11_bar_37 (by decide) rfl (by omega) (fun h37 => ?_) (fun h37 => ?_)
            · skip
              exact absurd h37 (by decide)
            · skip
              refine ZV_aload_n (n := 41) dX11_bar_40 rfl rfl rfl ?_
              refine ZV_bipush (v := -2) (n := 43) dX11_bar_41 rfl rfl ?_
              refine call_X11_87 (e_refuse hG _) rfl dX11_bar_43 rfl (cf_sh hG :).1 (Nat.le_of_ble_eq_true rfl) (Nat.le_of_ble_eq_true rfl) rfl (fun r9 σ9 hp9 => ?_)
              obtain ⟨rfl, hG⟩ := hp9
              refine ZV_iret dX11_bar_46 rfl ?_
              exact zlC (v := sNo T (-2)) (by simp [sp_bar, hD]) rfl ⟨B, K, hG, kI_e hK ⟨rfl, rfl, rfl, rfl, rfl, rfl, rfl, rfl, rfl, rfl, rfl, rfl, rfl, rfl, rfl, rfl, rfl, rfl, rfl, rfl⟩⟩
      · skip
        have hD : isD (nI d9) = true := (bc_d (by omega)).mp h16
        refine ZV_iconst (v := nI 1) (n := 20) dX11_bar_19 rfl rfl ?_
        refine ZV_goto (tgt := 24) dX11_bar_20 (by decide) ?_
        refine ZV_istore_3 (n := 25) dX11_bar_24 rfl (Nat.le_of_ble_eq_true rfl) rfl ?_
        refine ZV_iload_n (n := 26) dX11_bar_25 rfl rfl rfl ?_
        refine ZV_iconst (v := nI 1) (n := 27) dX11_bar_26 rfl rfl ?_
        refine ZV_icmp_lt (tgt := 40) (n := 30) dX11_bar_27 (by decide) rfl (fun h27 => ?_) (fun h27 => ?_)
        · skip
          refine ZV_aload_n (n := 41) dX11_bar_40 rfl rfl rfl ?_
          refine ZV_bipush (v := -2) (n := 43) dX11_bar_41 rfl rfl ?_
          refine call_X11_87 (e_refuse hG _) rfl dX11_bar_43 rfl (cf_sh hG :).1 (Nat.le_of_ble_eq_true rfl) (Nat.le_of_ble_eq_true rfl) rfl (fun r9 σ9 hp9 => ?_)
          obtain ⟨rfl, hG⟩ := hp9
          refine ZV_iret dX11_bar_46 rfl ?_
          exact zlC (v := sNo T (-2)) (by simp [sp_bar, inR_no1 h27]) rfl ⟨B, K, hG, kI_e hK ⟨rfl, rfl, rfl, rfl, rfl, rfl, rfl, rfl, rfl, rfl, rfl, rfl, rfl, rfl, rfl, rfl, rfl, rfl, rfl, rfl⟩⟩
        · skip
          refine ZV_iload_n (n := 31) dX11_bar_30 rfl rfl rfl ?_
          refine ZV_bipush (v := nI 64) (n := 33) dX11_bar_31 rfl rfl ?_
          refine ZV_icmp_gt (tgt := 40) (n := 36) dX11_bar_33 (by decide) rfl (fun h33 => ?_) (fun h33 => ?_)
          · skip
            refine ZV_aload_n (n := 41) dX11_bar_40 rfl rfl rfl ?_
            refine ZV_bipush (v := -2) (n := 43) dX11_bar_41 rfl rfl ?_
            refine call_X11_87 (e_refuse hG _) rfl dX11_bar_43 rfl (cf_sh hG :).1 (Nat.le_of_ble_eq_true rfl) (Nat.le_of_ble_eq_true rfl) rfl (fun r9 σ9 hp9 => ?_)
            obtain ⟨rfl, hG⟩ := hp9
            refine ZV_iret dX11_bar_46 rfl ?_
            exact zlC (v := sNo T (-2)) (by simp [sp_bar, inR_no2 (a := 1) (show 64 < 2147483648 by decide) h33]) rfl ⟨B, K, hG, kI_e hK ⟨rfl, rfl, rfl, rfl, rfl, rfl, rfl, rfl, rfl, rfl, rfl, rfl, rfl, rfl, rfl, rfl, rfl, rfl, rfl, rfl⟩⟩
          · skip
            refine ZV_iload_n (n := 37) dX11_bar_36 rfl rfl rfl ?_
            refine ZV_if_neN (tgt := 47) (n := 40) dX11_bar_37 (by decide) rfl (by omega) (fun h37 => ?_) (fun h37 => ?_)
            · skip
              have hR9 := inR_ok (by decide) h27 h33
              obtain ⟨u9, hu9, hu92⟩ := inR_t (by decide) hR9
              subst hu92
              have hcu : (nI u9).toNatClampNeg = u9 := nI_clamp (by omega)
              have hR9 : inR (nI u9) 1 64 = true := hR9
              refine ZV_aload_n (n := 48) dX11_bar_47 rfl rfl rfl ?_
              refine ZV_getIv (n := 51) dX11_bar_48 fl_X11_29 rfl rfl rfl (cf_sh hG :).1 (cf_nb hG :) ?_
              refine ZV_bipush (v := nI 24) (n := 53) dX11_bar_51 rfl rfl ?_
              refine ZV_icmp_ltN (tgt := 63) (n := 56) dX11_bar_53 (by decide) rfl (by omega) (by omega) (fun h53 => ?_) (fun h53 => ?_)
              · skip
                have hba := baF_le hI (g_nb T) (Nat.le_refl _)
                have hn24 : g_nb T ≠ 24 := by omega
                have hdd : 5644800 / d9 ≤ 5644800 := Nat.div_le_self _ _
                refine ZV_aload_n (n := 64) dX11_bar_63 rfl rfl rfl ?_
                refine ZV_getRv (n := 67) dX11_bar_64 fl_X11_25 rfl rfl rfl (cf_sh hG :).1 (ca_barEnds (cf_sh hG :)) ?_
                refine ZV_aload_n (n := 68) dX11_bar_67 rfl rfl rfl ?_
                refine ZV_getIv (n := 71) dX11_bar_68 fl_X11_29 rfl rfl rfl (cf_sh hG :).1 (cf_nb hG :) ?_
                refine ZV_aload_n (n := 72) dX11_bar_71 rfl rfl rfl ?_
                refine ZV_aload_n (n := 73) dX11_bar_72 rfl rfl rfl ?_
                refine ZV_getIv (n := 76) dX11_bar_73 fl_X11_29 rfl rfl rfl (cf_sh hG :).1 (cf_nb hG :) ?_
                refine call_X11_106 (e_barBegin hG hI hK (by omega)) rfl dX11_bar_76 rfl (cf_sh hG :).1 (Nat.le_of_ble_eq_true rfl) (Nat.le_of_ble_eq_true rfl) rfl (fun r9 σ9 hp9 => ?_)
                obtain ⟨rfl, hs9⟩ := hp9
                subst σ9
                refine ZV_iload_n (n := 80) dX11_bar_79 rfl rfl rfl ?_
                refine ZV_i2lN (n := 81) dX11_bar_80 rfl (by omega) ?_
                refine ZV_ldc2 (v := lN 5644800) (n := 84) dX11_bar_81 wd_1_220 rfl ?_
                refine ZV_iload_n (n := 85) dX11_bar_84 rfl rfl rfl ?_
                refine ZV_i2lN (n := 86) dX11_bar_85 rfl (by omega) ?_
                refine ZV_ldivN (n := 87) dX11_bar_86 rfl (by omega) (by omega) (by omega) ?_
                refine ZV_lmulN (n := 88) dX11_bar_87 rfl ?_
                refine ZV_laddN (n := 89) dX11_bar_88 rfl ?_
                refine ZV_last (j := g_nb T) (n := 90) dX11_bar_89 rfl rfl (ck_barEnds (cf_sh hG :)) rfl (by omega) ?_
                refine ZV_aload_n (n := 91) dX11_bar_90 rfl rfl rfl ?_
                refine ZV_dup (n := 92) dX11_bar_91 rfl rfl ?_
                refine ZV_getIv (n := 95) dX11_bar_92 fl_X11_29 rfl rfl rfl (cf_sh hG :).1 (cf_nb hG :) ?_
                refine ZV_iconst (v := nI 1) (n := 96) dX11_bar_95 rfl rfl ?_
                refine ZV_iaddN (n := 97) dX11_bar_96 rfl ?_
                refine ZV_putI (n := 100) dX11_bar_97 fl_X11_29 rfl (Or.inl rfl) rfl (fun h => absurd h (by decide)) rfl (cf_sh hG :).1 ?_
                refine ZV_gen (P := fun τ => cG c B τ _ _) (U_bar hG hn24 (5644800 / d9 * u9) (baF T (g_nb T) + u9 * (5644800 / d9))) (fun σ hG => ?_)
                refine ZV_aload_n (n := 101) dX11_bar_100 rfl rfl rfl ?_
                refine ZV_aload_n (n := 102) dX11_bar_101 rfl rfl rfl ?_
                refine ZV_getIv (n := 105) dX11_bar_102 fl_X11_29 rfl rfl rfl (cf_sh hG :).1 (show _ = nI (g_nb T + 1) from cf_nb hG) ?_
                refine ZV_iconst (v := nI 1) (n := 106) dX11_bar_105 rfl rfl ?_
                refine ZV_isubN (n := 107) dX11_bar_106 rfl (by omega) ?_
                refine call_X11_98 (e_done hG _) rfl dX11_bar_107 rfl (cf_sh hG :).1 (Nat.le_of_ble_eq_true rfl) (Nat.le_of_ble_eq_true rfl) rfl (fun r9 σ9 hp9 => ?_)
                obtain ⟨rfl, hG⟩ := hp9
                refine ZV_iret dX11_bar_110 rfl ?_
                exact zlC (v := sOk (h_nb (h_bt T (va_up (g_bt T) (g_nb T) (5644800 / d9 * u9))) (g_nb T + 1)) (nI (g_nb T))) (by rw [sp_bar, if_pos ⟨hD, hR9⟩, if_neg hn24, hcd, hcu]) rfl ⟨B, _, hG, kI_e (T := h_nb (h_bt T (va_up (g_bt T) (g_nb T) (5644800 / d9 * u9))) (g_nb T + 1)) (by rw [Nat.mul_comm u9]; exact kI_bar hI hK (5644800 / d9 * u9)) ⟨rfl, rfl, rfl, rfl, rfl, rfl, rfl, rfl, rfl, rfl, rfl, rfl, rfl, rfl, rfl, rfl, rfl, rfl, rfl, rfl⟩⟩
              · skip
                refine ZV_aload_n (n := 57) dX11_bar_56 rfl rfl rfl ?_
                refine ZV_bipush (v := -4) (n := 59) dX11_bar_57 rfl rfl ?_
                refine call_X11_87 (e_refuse hG _) rfl dX11_bar_59 rfl (cf_sh hG :).1 (Nat.le_of_ble_eq_true rfl) (Nat.le_of_ble_eq_true rfl) rfl (fun r9 σ9 hp9 => ?_)
                obtain ⟨rfl, hG⟩ := hp9
                refine ZV_iret dX11_bar_62 rfl ?_
                exact zlC (v := sNo T (-4)) (by rw [sp_bar, if_pos ⟨hD, hR9⟩, if_pos (by omega)]) rfl ⟨B, K, hG, kI_e hK ⟨rfl, rfl, rfl, rfl, rfl, rfl, rfl, rfl, rfl, rfl, rfl, rfl, rfl, rfl, rfl, rfl, rfl, rfl, rfl, rfl⟩⟩
            · skip
              exact absurd h37 (by decide)
theorem alN_su (T : TS) (e f : Nat) : ∀ n, alN (h_su T 0) e f n = alN T e f n
  | 0 => rfl
  | n + 1 => by rw [alN, alN, alN_su T e f n]; rfl
theorem eqN_su (T : TS) (v w : Nat) : ∀ n, eqN (h_su T 0) v w n = eqN T v w n
  | 0 => rfl
  | n + 1 => by
    rw [eqN, eqN, eqN_su T v w n]
    unfold alB
    rw [alN_su]
    rfl
theorem nuF_su (T : TS) (v : Nat) : ∀ k u, nuF (h_su T 0) v k u = nuF T v k u
  | 0, _ => rfl
  | k + 1, u => by rw [nuF, nuF, nuF_su T v k]; rfl
theorem nuT_su (T : TS) (v u : Nat) : nuT (h_su T 0) v u = nuT T v u := nuF_su T v _ _
theorem tqF_su (T : TS) (v w : Nat) : ∀ k a b, tqF (h_su T 0) v w k a b = tqF T v w k a b
  | 0, _, _ => rfl
  | k + 1, some t, some u => by
    rw [tqF, tqF, tqF_su T v w k, nuT_su, nuT_su]
    rfl
  | _ + 1, none, none => rfl
  | _ + 1, none, some _ => rfl
  | _ + 1, some _, none => rfl
theorem tl_k {T : TS} {K : KS} (hK : kI T K) {t u : Nat} (ht : t < g_te T) (htt : g_tt T t = true) (hu : u < g_te T) (huu : g_tt T u = true) : decide (g_tn T t = g_tn T u ∧ g_tm T t = g_tm T u ∧ g_tu T t = g_tu T u ∧ k_t1 K t = k_t1 K u ∧ k_tk K t = k_tk K u) = tlB T t u := by
  have h1 := ki_kT hK t ht htt
  have h2 := ki_kT hK u hu huu
  rw [h1.1, h1.2, h2.1, h2.2]
  unfold tlB
  apply decide_eq_decide.mpr
  constructor
  · rintro ⟨a, b, c, d, e⟩
    exact ⟨d, e, a, b, c⟩
  · rintro ⟨a, b, c, d, e⟩
    exact ⟨c, d, e, a, b⟩
set_option maxHeartbeats 4000000 in
set_option maxRecDepth 100000 in
theorem e_tupletsAlike {c B : Nat} {σ : ZS} {T : TS} {K : KS} (hG : cG c B σ T K) (hI : tI T) (hK : kI T K) {v w : Nat} (hv : v < 3 * g_np T) (hw : w < 3 * g_np T) : ZC M_X11_tupletsAlike [Ar (some c), Ar (some (k_va K v)), Ar (some (k_va K w))] σ (fun y9 τ9 => y9 = some (Ai (bI (tqF T v w (g_te T + 1) (nuT T v 0) (nuT T w 0)))) ∧ τ9 = σ) := by
  have hbd := cf_bd hG
  refine ZC_of (ls := [some (Ar (some c)), some (Ar (some (k_va K v))), some (Ar (some (k_va K w))), none, none, none]) (by decide) (Nat.le_of_ble_eq_true rfl) rfl ?_
  generalize hZ : tqF T v w (g_te T + 1) (nuT T v 0) (nuT T w 0) = Z
  have loop : ∀ (n9 p a b : Nat), g_te T - p < n9 → p ≤ a → p ≤ b → a ≤ g_te T → b ≤ g_te T → tqF T v w (g_te T - p + 1) (nuT T v a) (nuT T w b) = Z → ZV M_X11_tupletsAlike (fun y9 τ9 => y9 = some (Ai (bI Z)) ∧ τ9 = σ) 18 [some (Ar (some c)), some (Ar (some (k_va K v))), some (Ar (some (k_va K w))), some (Ai (nI ((nuT T v a).getD (g_te T)))), some (Ai (nI ((nuT T w b).getD (g_te T)))), some (Ai (nI p))] [] σ (zmC M_X11_tupletsAlike) (zmS M_X11_tupletsAlike) := by
    intro n9
    induction n9 with
    | zero => intro p a b hme; exact absurd hme (Nat.not_lt_zero _)
    | succ n9 ih =>
      intro p a b hme hpa hpb ha hb hX
      rcases hA : nuT T v a with _ | t
      · skip
        rcases hB : nuT T w b with _ | u
        · skip
          rw [hA, hB] at hX
          show ZV _ _ _ [some (Ar (some c)), some (Ar (some (k_va K v))), some (Ar (some (k_va K w))), some (Ai (nI (g_te T))), some (Ai (nI (g_te T))), some (Ai (nI p))] _ _ _ _
          refine ZV_iload (n := 20) dX11_tupletsAlike_18 rfl rfl ?_
          refine ZV_bipush (v := nI 20) (n := 22) dX11_tupletsAlike_20 rfl rfl ?_
          refine ZV_icmp_geN (tgt := 89) (n := 25) dX11_tupletsAlike_22 (by decide) rfl (by omega) (by omega) (fun h22 => ?_) (fun h22 => ?_)
          · skip
            refine ZV_iload_n (n := 90) dX11_tupletsAlike_89 rfl rfl rfl ?_
            refine ZV_aload_n (n := 91) dX11_tupletsAlike_90 rfl rfl rfl ?_
            refine ZV_getIv (n := 94) dX11_tupletsAlike_91 fl_X11_47 rfl rfl rfl (cf_sh hG :).1 (cf_te hG :) ?_
            refine ZV_icmp_ltN (tgt := 110) (n := 97) dX11_tupletsAlike_94 (by decide) rfl (by omega) (by omega) (fun h94 => ?_) (fun h94 => ?_)
            · skip
              exfalso; omega
            · skip
              refine ZV_iload (n := 99) dX11_tupletsAlike_97 rfl rfl ?_
              refine ZV_aload_n (n := 100) dX11_tupletsAlike_99 rfl rfl rfl ?_
              refine ZV_getIv (n := 103) dX11_tupletsAlike_100 fl_X11_47 rfl rfl rfl (cf_sh hG :).1 (cf_te hG :) ?_
              refine ZV_icmp_ltN (tgt := 110) (n := 106) dX11_tupletsAlike_103 (by decide) rfl (by omega) (by omega) (fun h103 => ?_) (fun h103 => ?_)
              · skip
                exfalso; omega
              · skip
                refine ZV_iconst (v := nI 1) (n := 107) dX11_tupletsAlike_106 rfl rfl ?_
                refine ZV_goto (tgt := 111) dX11_tupletsAlike_107 (by decide) ?_
                refine ZV_zret dX11_tupletsAlike_111 rfl (by first | exact Or.inl rfl | exact Or.inr rfl) ?_
                refine ⟨?_, rfl⟩
                rw [← hX]
                rfl
          · skip
            refine ZV_iload_n (n := 26) dX11_tupletsAlike_25 rfl rfl rfl ?_
            refine ZV_aload_n (n := 27) dX11_tupletsAlike_26 rfl rfl rfl ?_
            refine ZV_getIv (n := 30) dX11_tupletsAlike_27 fl_X11_47 rfl rfl rfl (cf_sh hG :).1 (cf_te hG :) ?_
            refine ZV_icmp_geN (tgt := 89) (n := 33) dX11_tupletsAlike_30 (by decide) rfl (by omega) (by omega) (fun h30 => ?_) (fun h30 => ?_)
            · skip
              refine ZV_iload_n (n := 90) dX11_tupletsAlike_89 rfl rfl rfl ?_
              refine ZV_aload_n (n := 91) dX11_tupletsAlike_90 rfl rfl rfl ?_
              refine ZV_getIv (n := 94) dX11_tupletsAlike_91 fl_X11_47 rfl rfl rfl (cf_sh hG :).1 (cf_te hG :) ?_
              refine ZV_icmp_ltN (tgt := 110) (n := 97) dX11_tupletsAlike_94 (by decide) rfl (by omega) (by omega) (fun h94 => ?_) (fun h94 => ?_)
              · skip
                exfalso; omega
              · skip
                refine ZV_iload (n := 99) dX11_tupletsAlike_97 rfl rfl ?_
                refine ZV_aload_n (n := 100) dX11_tupletsAlike_99 rfl rfl rfl ?_
                refine ZV_getIv (n := 103) dX11_tupletsAlike_100 fl_X11_47 rfl rfl rfl (cf_sh hG :).1 (cf_te hG :) ?_
                refine ZV_icmp_ltN (tgt := 110) (n := 106) dX11_tupletsAlike_103 (by decide) rfl (by omega) (by omega) (fun h103 => ?_) (fun h103 => ?_)
                · skip
                  exfalso; omega
                · skip
                  refine ZV_iconst (v := nI 1) (n := 107) dX11_tupletsAlike_106 rfl rfl ?_
                  refine ZV_goto (tgt := 111) dX11_tupletsAlike_107 (by decide) ?_
                  refine ZV_zret dX11_tupletsAlike_111 rfl (by first | exact Or.inl rfl | exact Or.inr rfl) ?_
                  refine ⟨?_, rfl⟩
                  rw [← hX]
                  rfl
            · skip
              exfalso; omega
        · have hB1 := nuF_some _ _ hB
          have hB2 : u < g_te T ∧ g_tt T u = true := ⟨by omega, hB1.2.2.1⟩
          rw [hA, hB] at hX
          show ZV _ _ _ [some (Ar (some c)), some (Ar (some (k_va K v))), some (Ar (some (k_va K w))), some (Ai (nI (g_te T))), some (Ai (nI (u))), some (Ai (nI p))] _ _ _ _
          refine ZV_iload (n := 20) dX11_tupletsAlike_18 rfl rfl ?_
          refine ZV_bipush (v := nI 20) (n := 22) dX11_tupletsAlike_20 rfl rfl ?_
          refine ZV_icmp_geN (tgt := 89) (n := 25) dX11_tupletsAlike_22 (by decide) rfl (by omega) (by omega) (fun h22 => ?_) (fun h22 => ?_)
          · skip
            exfalso; omega
          · skip
            refine ZV_iload_n (n := 26) dX11_tupletsAlike_25 rfl rfl rfl ?_
            refine ZV_aload_n (n := 27) dX11_tupletsAlike_26 rfl rfl rfl ?_
            refine ZV_getIv (n := 30) dX11_tupletsAlike_27 fl_X11_47 rfl rfl rfl (cf_sh hG :).1 (cf_te hG :) ?_
            refine ZV_icmp_geN (tgt := 89) (n := 33) dX11_tupletsAlike_30 (by decide) rfl (by omega) (by omega) (fun h30 => ?_) (fun h30 => ?_)
            · skip
              refine ZV_iload_n (n := 90) dX11_tupletsAlike_89 rfl rfl rfl ?_
              refine ZV_aload_n (n := 91) dX11_tupletsAlike_90 rfl rfl rfl ?_
              refine ZV_getIv (n := 94) dX11_tupletsAlike_91 fl_X11_47 rfl rfl rfl (cf_sh hG :).1 (cf_te hG :) ?_
              refine ZV_icmp_ltN (tgt := 110) (n := 97) dX11_tupletsAlike_94 (by decide) rfl (by omega) (by omega) (fun h94 => ?_) (fun h94 => ?_)
              · skip
                exfalso; omega
              · skip
                refine ZV_iload (n := 99) dX11_tupletsAlike_97 rfl rfl ?_
                refine ZV_aload_n (n := 100) dX11_tupletsAlike_99 rfl rfl rfl ?_
                refine ZV_getIv (n := 103) dX11_tupletsAlike_100 fl_X11_47 rfl rfl rfl (cf_sh hG :).1 (cf_te hG :) ?_
                refine ZV_icmp_ltN (tgt := 110) (n := 106) dX11_tupletsAlike_103 (by decide) rfl (by omega) (by omega) (fun h103 => ?_) (fun h103 => ?_)
                · skip
                  refine ZV_iconst (v := nI 0) (n := 111) dX11_tupletsAlike_110 rfl rfl ?_
                  refine ZV_zret dX11_tupletsAlike_111 rfl (by first | exact Or.inl rfl | exact Or.inr rfl) ?_
                  refine ⟨?_, rfl⟩
                  rw [← hX]
                  rfl
                · skip
                  exfalso; omega
            · skip
              exfalso; omega
      · have hA1 := nuF_some _ _ hA
        have hA2 : t < g_te T ∧ g_tt T t = true := ⟨by omega, hA1.2.2.1⟩
        rcases hB : nuT T w b with _ | u
        · skip
          rw [hA, hB] at hX
          show ZV _ _ _ [some (Ar (some c)), some (Ar (some (k_va K v))), some (Ar (some (k_va K w))), some (Ai (nI (t))), some (Ai (nI (g_te T))), some (Ai (nI p))] _ _ _ _
          refine ZV_iload (n := 20) dX11_tupletsAlike_18 rfl rfl ?_
          refine ZV_bipush (v := nI 20) (n := 22) dX11_tupletsAlike_20 rfl rfl ?_
          refine ZV_icmp_geN (tgt := 89) (n := 25) dX11_tupletsAlike_22 (by decide) rfl (by omega) (by omega) (fun h22 => ?_) (fun h22 => ?_)
          · skip
            exfalso; omega
          · skip
            refine ZV_iload_n (n := 26) dX11_tupletsAlike_25 rfl rfl rfl ?_
            refine ZV_aload_n (n := 27) dX11_tupletsAlike_26 rfl rfl rfl ?_
            refine ZV_getIv (n := 30) dX11_tupletsAlike_27 fl_X11_47 rfl rfl rfl (cf_sh hG :).1 (cf_te hG :) ?_
            refine ZV_icmp_geN (tgt := 89) (n := 33) dX11_tupletsAlike_30 (by decide) rfl (by omega) (by omega) (fun h30 => ?_) (fun h30 => ?_)
            · skip
              exfalso; omega
            · skip
              refine ZV_iload (n := 35) dX11_tupletsAlike_33 rfl rfl ?_
              refine ZV_aload_n (n := 36) dX11_tupletsAlike_35 rfl rfl rfl ?_
              refine ZV_getIv (n := 39) dX11_tupletsAlike_36 fl_X11_47 rfl rfl rfl (cf_sh hG :).1 (cf_te hG :) ?_
              refine ZV_icmp_geN (tgt := 89) (n := 42) dX11_tupletsAlike_39 (by decide) rfl (by omega) (by omega) (fun h39 => ?_) (fun h39 => ?_)
              · skip
                refine ZV_iload_n (n := 90) dX11_tupletsAlike_89 rfl rfl rfl ?_
                refine ZV_aload_n (n := 91) dX11_tupletsAlike_90 rfl rfl rfl ?_
                refine ZV_getIv (n := 94) dX11_tupletsAlike_91 fl_X11_47 rfl rfl rfl (cf_sh hG :).1 (cf_te hG :) ?_
                refine ZV_icmp_ltN (tgt := 110) (n := 97) dX11_tupletsAlike_94 (by decide) rfl (by omega) (by omega) (fun h94 => ?_) (fun h94 => ?_)
                · skip
                  refine ZV_iconst (v := nI 0) (n := 111) dX11_tupletsAlike_110 rfl rfl ?_
                  refine ZV_zret dX11_tupletsAlike_111 rfl (by first | exact Or.inl rfl | exact Or.inr rfl) ?_
                  refine ⟨?_, rfl⟩
                  rw [← hX]
                  rfl
                · skip
                  exfalso; omega
              · skip
                exfalso; omega
        · have hB1 := nuF_some _ _ hB
          have hB2 : u < g_te T ∧ g_tt T u = true := ⟨by omega, hB1.2.2.1⟩
          rw [hA, hB] at hX
          show ZV _ _ _ [some (Ar (some c)), some (Ar (some (k_va K v))), some (Ar (some (k_va K w))), some (Ai (nI (t))), some (Ai (nI (u))), some (Ai (nI p))] _ _ _ _
          refine ZV_iload (n := 20) dX11_tupletsAlike_18 rfl rfl ?_
          refine ZV_bipush (v := nI 20) (n := 22) dX11_tupletsAlike_20 rfl rfl ?_
          refine ZV_icmp_geN (tgt := 89) (n := 25) dX11_tupletsAlike_22 (by decide) rfl (by omega) (by omega) (fun h22 => ?_) (fun h22 => ?_)
          · skip
            exfalso; omega
          · skip
            refine ZV_iload_n (n := 26) dX11_tupletsAlike_25 rfl rfl rfl ?_
            refine ZV_aload_n (n := 27) dX11_tupletsAlike_26 rfl rfl rfl ?_
            refine ZV_getIv (n := 30) dX11_tupletsAlike_27 fl_X11_47 rfl rfl rfl (cf_sh hG :).1 (cf_te hG :) ?_
            refine ZV_icmp_geN (tgt := 89) (n := 33) dX11_tupletsAlike_30 (by decide) rfl (by omega) (by omega) (fun h30 => ?_) (fun h30 => ?_)
            · skip
              exfalso; omega
            · skip
              refine ZV_iload (n := 35) dX11_tupletsAlike_33 rfl rfl ?_
              refine ZV_aload_n (n := 36) dX11_tupletsAlike_35 rfl rfl rfl ?_
              refine ZV_getIv (n := 39) dX11_tupletsAlike_36 fl_X11_47 rfl rfl rfl (cf_sh hG :).1 (cf_te hG :) ?_
              refine ZV_icmp_geN (tgt := 89) (n := 42) dX11_tupletsAlike_39 (by decide) rfl (by omega) (by omega) (fun h39 => ?_) (fun h39 => ?_)
              · skip
                exfalso; omega
              · skip
                refine ZV_aload_n (n := 43) dX11_tupletsAlike_42 rfl rfl rfl ?_
                refine ZV_getRv (n := 46) dX11_tupletsAlike_43 fl_X11_43 rfl rfl rfl (cf_sh hG :).1 (ca_tuplets (cf_sh hG :)) ?_
                refine ZV_iload_n (n := 47) dX11_tupletsAlike_46 rfl rfl rfl ?_
                refine ZV_aaldv (c0 := 3) (w := some (k_ta K t)) (j := t) (n := 48) dX11_tupletsAlike_47 rfl (by decide) rfl (ck_tuplets (cf_sh hG :)) rfl (by omega) (Eq.trans (cf_ta hG t (by omega)) (if_pos hA2.2)) ?_
                refine ZV_aload_n (n := 49) dX11_tupletsAlike_48 rfl rfl rfl ?_
                refine ZV_getRv (n := 52) dX11_tupletsAlike_49 fl_X11_43 rfl rfl rfl (cf_sh hG :).1 (ca_tuplets (cf_sh hG :)) ?_
                refine ZV_iload (n := 54) dX11_tupletsAlike_52 rfl rfl ?_
                refine ZV_aaldv (c0 := 3) (w := some (k_ta K u)) (j := u) (n := 55) dX11_tupletsAlike_54 rfl (by decide) rfl (ck_tuplets (cf_sh hG :)) rfl (by omega) (Eq.trans (cf_ta hG u (by omega)) (if_pos hB2.2)) ?_
                refine call_X11_478 (e_tuLike hG hA2.1 hB2.1 (kt_b hI hK hA2.1 hA2.2) (kt_b hI hK hB2.1 hB2.2) (by have := ti_tn hI t hA2.1; have := ti_tn hI u hB2.1; omega) ⟨(ti_tm hI t hA2.1).2, (ti_tm hI u hB2.1).2⟩ ⟨ti_tu hI t hA2.1, ti_tu hI u hB2.1⟩) rfl dX11_tupletsAlike_55 rfl (cf_tk hG t hA2.1).1 (Nat.le_of_ble_eq_true rfl) (Nat.le_of_ble_eq_true rfl) rfl (fun r9 σ9 hp9 => ?_)
                obtain ⟨rfl, hs9⟩ := hp9
                subst σ9
                refine ZV_if_neB (tgt := 63) (n := 61) dX11_tupletsAlike_58 (by decide) rfl (fun h58 => ?_) (fun h58 => ?_)
                · skip
                  refine ZV_aload_n (n := 64) dX11_tupletsAlike_63 rfl rfl rfl ?_
                  refine ZV_aload_n (n := 65) dX11_tupletsAlike_64 rfl rfl rfl ?_
                  refine ZV_iload_n (n := 66) dX11_tupletsAlike_65 rfl rfl rfl ?_
                  refine ZV_iconst (v := nI 1) (n := 67) dX11_tupletsAlike_66 rfl rfl ?_
                  refine ZV_iaddN (n := 68) dX11_tupletsAlike_67 rfl ?_
                  refine call_X11_475 (e_nextTuplet hG hI hK hv (a := t + 1) (by omega)) rfl dX11_tupletsAlike_68 rfl (cf_sh hG :).1 (Nat.le_of_ble_eq_true rfl) (Nat.le_of_ble_eq_true rfl) rfl (fun r9 σ9 hp9 => ?_)
                  obtain ⟨rfl, hs9⟩ := hp9
                  subst σ9
                  refine ZV_istore_3 (n := 72) dX11_tupletsAlike_71 rfl (Nat.le_of_ble_eq_true rfl) rfl ?_
                  refine ZV_aload_n (n := 73) dX11_tupletsAlike_72 rfl rfl rfl ?_
                  refine ZV_aload_n (n := 74) dX11_tupletsAlike_73 rfl rfl rfl ?_
                  refine ZV_iload (n := 76) dX11_tupletsAlike_74 rfl rfl ?_
                  refine ZV_iconst (v := nI 1) (n := 77) dX11_tupletsAlike_76 rfl rfl ?_
                  refine ZV_iaddN (n := 78) dX11_tupletsAlike_77 rfl ?_
                  refine call_X11_475 (e_nextTuplet hG hI hK hw (a := u + 1) (by omega)) rfl dX11_tupletsAlike_78 rfl (cf_sh hG :).1 (Nat.le_of_ble_eq_true rfl) (Nat.le_of_ble_eq_true rfl) rfl (fun r9 σ9 hp9 => ?_)
                  obtain ⟨rfl, hs9⟩ := hp9
                  subst σ9
                  refine ZV_istore_4 (n := 83) dX11_tupletsAlike_81 rfl (Nat.le_of_ble_eq_true rfl) rfl ?_
                  refine ZV_iincN_5 (v := 1) (n := 86) dX11_tupletsAlike_83 rfl rfl (Nat.le_of_ble_eq_true rfl) rfl ?_
                  refine ZV_goto (tgt := 18) dX11_tupletsAlike_86 (by decide) ?_
                  exact ih (p + 1) (t + 1) (u + 1) (by omega) (by omega) (by omega) (by omega) (by omega) (by rw [← hX, tqF, ← tl_k hK hA2.1 hA2.2 hB2.1 hB2.2, h58, Bool.true_and, show g_te T - p = (g_te T - (p + 1)) + 1 by omega])
                · skip
                  refine ZV_iconst (v := nI 0) (n := 62) dX11_tupletsAlike_61 rfl rfl ?_
                  refine ZV_zret dX11_tupletsAlike_62 rfl (by first | exact Or.inl rfl | exact Or.inr rfl) ?_
                  refine ⟨?_, rfl⟩
                  rw [← hX, tqF, ← tl_k hK hA2.1 hA2.2 hB2.1 hB2.2, h58]
                  rfl
  refine ZV_aload_n (n := 1) dX11_tupletsAlike_0 rfl rfl rfl ?_
  refine ZV_aload_n (n := 2) dX11_tupletsAlike_1 rfl rfl rfl ?_
  refine ZV_iconst (v := nI 0) (n := 3) dX11_tupletsAlike_2 rfl rfl ?_
  refine call_X11_475 (e_nextTuplet hG hI hK hv (a := 0) (Nat.zero_le _)) rfl dX11_tupletsAlike_3 rfl (cf_sh hG :).1 (Nat.le_of_ble_eq_true rfl) (Nat.le_of_ble_eq_true rfl) rfl (fun r9 σ9 hp9 => ?_)
  obtain ⟨rfl, hs9⟩ := hp9
  subst σ9
  refine ZV_istore_3 (n := 7) dX11_tupletsAlike_6 rfl (Nat.le_of_ble_eq_true rfl) rfl ?_
  refine ZV_aload_n (n := 8) dX11_tupletsAlike_7 rfl rfl rfl ?_
  refine ZV_aload_n (n := 9) dX11_tupletsAlike_8 rfl rfl rfl ?_
  refine ZV_iconst (v := nI 0) (n := 10) dX11_tupletsAlike_9 rfl rfl ?_
  refine call_X11_475 (e_nextTuplet hG hI hK hw (a := 0) (Nat.zero_le _)) rfl dX11_tupletsAlike_10 rfl (cf_sh hG :).1 (Nat.le_of_ble_eq_true rfl) (Nat.le_of_ble_eq_true rfl) rfl (fun r9 σ9 hp9 => ?_)
  obtain ⟨rfl, hs9⟩ := hp9
  subst σ9
  refine ZV_istore_4 (n := 15) dX11_tupletsAlike_13 rfl (Nat.le_of_ble_eq_true rfl) rfl ?_
  refine ZV_iconst (v := nI 0) (n := 16) dX11_tupletsAlike_15 rfl rfl ?_
  refine ZV_istore_5 (n := 18) dX11_tupletsAlike_16 rfl (Nat.le_of_ble_eq_true rfl) rfl ?_
  exact loop _ 0 0 0 (Nat.lt_succ_self _) (Nat.le_refl _) (Nat.le_refl _) (Nat.zero_le _) (Nat.zero_le _) hZ
set_option maxHeartbeats 4000000 in
set_option maxRecDepth 100000 in
theorem q_equal {c : Nat} {σ : ZS} {T : TS} (hR : cR c σ T) (hI : tI T) (v w : Int32) : ZC M_X11_equal [Ar (some c), Ai v, Ai w] σ (fun y0 τ0 => y0 = some (Ai (sp_equal T v w).1) ∧ cR c τ0 (sp_equal T v w).2) := by
  obtain ⟨B, K, hG, hK⟩ := hR
  have hbd := cf_bd hG
  refine ZC_of (ls := [some (Ar (some c)), some (Ai v), some (Ai w), none, none]) (by decide) (Nat.le_of_ble_eq_true rfl) rfl ?_
  refine ZV_aload_n (n := 1) dX11_equal_0 rfl rfl rfl ?_
  refine ZV_iload_n (n := 2) dX11_equal_1 rfl rfl rfl ?_
  refine call_X11_112 (e_voiceOf hG _) rfl dX11_equal_2 rfl (cf_sh hG :).1 (Nat.le_of_ble_eq_true rfl) (Nat.le_of_ble_eq_true rfl) rfl (fun r9 σ9 hp9 => ?_)
  obtain ⟨hs9, hp9⟩ := hp9
  subst σ9
  rcases hp9 with ⟨hv2, hr9⟩ | ⟨v2, he2, hn2, hr9⟩
  · skip
    subst hr9
    refine ZV_astore_3 (n := 6) dX11_equal_5 rfl (Nat.le_of_ble_eq_true rfl) rfl ?_
    refine ZV_aload_n (n := 7) dX11_equal_6 rfl rfl rfl ?_
    refine ZV_iload_n (n := 8) dX11_equal_7 rfl rfl rfl ?_
    refine call_X11_112 (e_voiceOf hG _) rfl dX11_equal_8 rfl (cf_sh hG :).1 (Nat.le_of_ble_eq_true rfl) (Nat.le_of_ble_eq_true rfl) rfl (fun r9 σ9 hp9 => ?_)
    obtain ⟨hs9, hp9⟩ := hp9
    subst σ9
    rcases hp9 with ⟨hv8, hr9⟩ | ⟨v8, he8, hn8, hr9⟩
    · skip
      subst hr9
      refine ZV_astore_4 (n := 13) dX11_equal_11 rfl (Nat.le_of_ble_eq_true rfl) rfl ?_
      refine ZV_aload_n (n := 14) dX11_equal_13 rfl rfl rfl ?_
      refine ZV_ifnull_n (tgt := 22) dX11_equal_14 (by decide) ?_
      refine ZV_aload_n (n := 23) dX11_equal_22 rfl rfl rfl ?_
      refine ZV_bipush (v := -2) (n := 25) dX11_equal_23 rfl rfl ?_
      refine call_X11_87 (e_refuse hG _) rfl dX11_equal_25 rfl (cf_sh hG :).1 (Nat.le_of_ble_eq_true rfl) (Nat.le_of_ble_eq_true rfl) rfl (fun r9 σ9 hp9 => ?_)
      obtain ⟨rfl, hG⟩ := hp9
      refine ZV_iret dX11_equal_28 rfl ?_
      exact zlC (v := sNo T (-2)) (by simp [sp_equal, hv2]) rfl ⟨B, K, hG, kI_e hK ⟨rfl, rfl, rfl, rfl, rfl, rfl, rfl, rfl, rfl, rfl, rfl, rfl, rfl, rfl, rfl, rfl, rfl, rfl, rfl, rfl⟩⟩
    · skip
      subst hr9
      subst hn8
      have hE8 : inB (nI v8) (3 * g_np T) = true := by rw [inB_nI (by omega)]; exact decide_eq_true he8
      have hmn8 := ti_mn hI v8
      have hc8 : (nI v8).toNatClampNeg = v8 := nI_clamp (by omega)
      refine ZV_astore_4 (n := 13) dX11_equal_11 rfl (Nat.le_of_ble_eq_true rfl) rfl ?_
      refine ZV_aload_n (n := 14) dX11_equal_13 rfl rfl rfl ?_
      refine ZV_ifnull_n (tgt := 22) dX11_equal_14 (by decide) ?_
      refine ZV_aload_n (n := 23) dX11_equal_22 rfl rfl rfl ?_
      refine ZV_bipush (v := -2) (n := 25) dX11_equal_23 rfl rfl ?_
      refine call_X11_87 (e_refuse hG _) rfl dX11_equal_25 rfl (cf_sh hG :).1 (Nat.le_of_ble_eq_true rfl) (Nat.le_of_ble_eq_true rfl) rfl (fun r9 σ9 hp9 => ?_)
      obtain ⟨rfl, hG⟩ := hp9
      refine ZV_iret dX11_equal_28 rfl ?_
      exact zlC (v := sNo T (-2)) (by simp [sp_equal, hv2]) rfl ⟨B, K, hG, kI_e hK ⟨rfl, rfl, rfl, rfl, rfl, rfl, rfl, rfl, rfl, rfl, rfl, rfl, rfl, rfl, rfl, rfl, rfl, rfl, rfl, rfl⟩⟩
  · skip
    subst hr9
    subst hn2
    have hE2 : inB (nI v2) (3 * g_np T) = true := by rw [inB_nI (by omega)]; exact decide_eq_true he2
    have hmn2 := ti_mn hI v2
    have hc2 : (nI v2).toNatClampNeg = v2 := nI_clamp (by omega)
    refine ZV_astore_3 (n := 6) dX11_equal_5 rfl (Nat.le_of_ble_eq_true rfl) rfl ?_
    refine ZV_aload_n (n := 7) dX11_equal_6 rfl rfl rfl ?_
    refine ZV_iload_n (n := 8) dX11_equal_7 rfl rfl rfl ?_
    refine call_X11_112 (e_voiceOf hG _) rfl dX11_equal_8 rfl (cf_sh hG :).1 (Nat.le_of_ble_eq_true rfl) (Nat.le_of_ble_eq_true rfl) rfl (fun r9 σ9 hp9 => ?_)
    obtain ⟨hs9, hp9⟩ := hp9
    subst σ9
    rcases hp9 with ⟨hv8, hr9⟩ | ⟨v8, he8, hn8, hr9⟩
    · skip
      subst hr9
      refine ZV_astore_4 (n := 13) dX11_equal_11 rfl (Nat.le_of_ble_eq_true rfl) rfl ?_
      refine ZV_aload_n (n := 14) dX11_equal_13 rfl rfl rfl ?_
      refine ZV_ifnull_s (tgt := 22) (n := 17) dX11_equal_14 (by decide) rfl ?_
      refine ZV_aload (n := 19) dX11_equal_17 rfl rfl ?_
      refine ZV_ifnonnull_n (tgt := 29) (n := 22) dX11_equal_19 (by decide) rfl ?_
      refine ZV_aload_n (n := 23) dX11_equal_22 rfl rfl rfl ?_
      refine ZV_bipush (v := -2) (n := 25) dX11_equal_23 rfl rfl ?_
      refine call_X11_87 (e_refuse hG _) rfl dX11_equal_25 rfl (cf_sh hG :).1 (Nat.le_of_ble_eq_true rfl) (Nat.le_of_ble_eq_true rfl) rfl (fun r9 σ9 hp9 => ?_)
      obtain ⟨rfl, hG⟩ := hp9
      refine ZV_iret dX11_equal_28 rfl ?_
      exact zlC (v := sNo T (-2)) (by simp [sp_equal, hv8]) rfl ⟨B, K, hG, kI_e hK ⟨rfl, rfl, rfl, rfl, rfl, rfl, rfl, rfl, rfl, rfl, rfl, rfl, rfl, rfl, rfl, rfl, rfl, rfl, rfl, rfl⟩⟩
    · skip
      subst hr9
      subst hn8
      have hE8 : inB (nI v8) (3 * g_np T) = true := by rw [inB_nI (by omega)]; exact decide_eq_true he8
      have hmn8 := ti_mn hI v8
      have hc8 : (nI v8).toNatClampNeg = v8 := nI_clamp (by omega)
      refine ZV_astore_4 (n := 13) dX11_equal_11 rfl (Nat.le_of_ble_eq_true rfl) rfl ?_
      refine ZV_aload_n (n := 14) dX11_equal_13 rfl rfl rfl ?_
      refine ZV_ifnull_s (tgt := 22) (n := 17) dX11_equal_14 (by decide) rfl ?_
      refine ZV_aload (n := 19) dX11_equal_17 rfl rfl ?_
      refine ZV_ifnonnull_s (tgt := 29) dX11_equal_19 (by decide) ?_
      refine ZV_aload_n (n := 30) dX11_equal_29 rfl rfl rfl ?_
      refine ZV_aload_n (n := 31) dX11_equal_30 rfl rfl rfl ?_
      refine ZV_aload (n := 33) dX11_equal_31 rfl rfl ?_
      refine call_X11_351 (e_hasEventsLike hG he2 he8 hI) rfl dX11_equal_33 rfl (cf_vk hG v2 he2).1 (Nat.le_of_ble_eq_true rfl) (Nat.le_of_ble_eq_true rfl) rfl (fun r9 σ9 hp9 => ?_)
      obtain ⟨rfl, hs9⟩ := hp9
      subst σ9
      refine ZV_if_eqB (tgt := 53) (n := 39) dX11_equal_36 (by decide) rfl (fun h36 => ?_) (fun h36 => ?_)
      · skip
        refine ZV_iconst (v := nI 0) (n := 54) dX11_equal_53 rfl rfl ?_
        refine call_X11_98 (e_done hG _) rfl dX11_equal_54 rfl (cf_sh hG :).1 (Nat.le_of_ble_eq_true rfl) (Nat.le_of_ble_eq_true rfl) rfl (fun r9 σ9 hp9 => ?_)
        obtain ⟨rfl, hG⟩ := hp9
        refine ZV_iret dX11_equal_57 rfl ?_
        exact zlC (v := sOk T (bI (eqB T v2 v8 && tqF T v2 v8 (g_te T + 1) (nuT T v2 0) (nuT T v8 0)))) (by rw [sp_equal, if_pos ⟨hE2, hE8⟩, hc2, hc8, nuT_su, nuT_su, tqF_su]; unfold eqB; rw [eqN_su]; rfl) (by rw [h36]; rfl) ⟨B, K, hG, kI_e hK ⟨rfl, rfl, rfl, rfl, rfl, rfl, rfl, rfl, rfl, rfl, rfl, rfl, rfl, rfl, rfl, rfl, rfl, rfl, rfl, rfl⟩⟩
      · skip
        refine ZV_aload_n (n := 40) dX11_equal_39 rfl rfl rfl ?_
        refine ZV_aload_n (n := 41) dX11_equal_40 rfl rfl rfl ?_
        refine ZV_aload (n := 43) dX11_equal_41 rfl rfl ?_
        refine call_X11_355 (e_tupletsAlike hG hI hK he2 he8) rfl dX11_equal_43 rfl (cf_sh hG :).1 (Nat.le_of_ble_eq_true rfl) (Nat.le_of_ble_eq_true rfl) rfl (fun r9 σ9 hp9 => ?_)
        obtain ⟨rfl, hs9⟩ := hp9
        subst σ9
        refine ZV_if_eqB (tgt := 53) (n := 49) dX11_equal_46 (by decide) rfl (fun h46 => ?_) (fun h46 => ?_)
        · skip
          refine ZV_iconst (v := nI 0) (n := 54) dX11_equal_53 rfl rfl ?_
          refine call_X11_98 (e_done hG _) rfl dX11_equal_54 rfl (cf_sh hG :).1 (Nat.le_of_ble_eq_true rfl) (Nat.le_of_ble_eq_true rfl) rfl (fun r9 σ9 hp9 => ?_)
          obtain ⟨rfl, hG⟩ := hp9
          refine ZV_iret dX11_equal_57 rfl ?_
          exact zlC (v := sOk T (bI (eqB T v2 v8 && tqF T v2 v8 (g_te T + 1) (nuT T v2 0) (nuT T v8 0)))) (by rw [sp_equal, if_pos ⟨hE2, hE8⟩, hc2, hc8, nuT_su, nuT_su, tqF_su]; unfold eqB; rw [eqN_su]; rfl) (by rw [h36, h46]; rfl) ⟨B, K, hG, kI_e hK ⟨rfl, rfl, rfl, rfl, rfl, rfl, rfl, rfl, rfl, rfl, rfl, rfl, rfl, rfl, rfl, rfl, rfl, rfl, rfl, rfl⟩⟩
        · skip
          refine ZV_iconst (v := nI 1) (n := 50) dX11_equal_49 rfl rfl ?_
          refine ZV_goto (tgt := 54) dX11_equal_50 (by decide) ?_
          refine call_X11_98 (e_done hG _) rfl dX11_equal_54 rfl (cf_sh hG :).1 (Nat.le_of_ble_eq_true rfl) (Nat.le_of_ble_eq_true rfl) rfl (fun r9 σ9 hp9 => ?_)
          obtain ⟨rfl, hG⟩ := hp9
          refine ZV_iret dX11_equal_57 rfl ?_
          exact zlC (v := sOk T (bI (eqB T v2 v8 && tqF T v2 v8 (g_te T + 1) (nuT T v2 0) (nuT T v8 0)))) (by rw [sp_equal, if_pos ⟨hE2, hE8⟩, hc2, hc8, nuT_su, nuT_su, tqF_su]; unfold eqB; rw [eqN_su]; rfl) (by rw [h36, h46]; rfl) ⟨B, K, hG, kI_e hK ⟨rfl, rfl, rfl, rfl, rfl, rfl, rfl, rfl, rfl, rfl, rfl, rfl, rfl, rfl, rfl, rfl, rfl, rfl, rfl, rfl⟩⟩
