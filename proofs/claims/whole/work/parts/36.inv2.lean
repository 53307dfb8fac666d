theorem tr_f {b : Bool} (h : ¬ b = false) : b = true := by
  cases b with
  | false => exact absurd rfl h
  | true => rfl
theorem ki_part {T : TS} (hI : tI T) (k : Int32) : tI (sp_part T k).2 := by
  unfold sp_part
  split
  · exact tI_no hI _
  · next h =>
    split
    · exact tI_no hI _
    · next h2 =>
      have h := clamp_nI (tr_f h)
      exact tI_ok (tI_part hI (by omega) h2) _
theorem ki_bar {T : TS} (hI : tI T) (u d : Int32) : tI (sp_bar T u d).2 := by
  unfold sp_bar
  split
  · next h =>
    split
    · exact tI_no hI _
    · next h2 =>
      obtain ⟨j, h3, rfl⟩ := inR_t (by decide) h.2
      have hd : 5644800 / d.toNatClampNeg ≤ 5644800 := Nat.div_le_self _ _
      have hu : (nI j).toNatClampNeg ≤ 64 := by rw [nI_clamp (by omega)]; exact h3.2
      refine tI_ok (tI_bar hI ?_ h2) _
      calc _ ≤ 5644800 * 64 := Nat.mul_le_mul hd hu
        _ = _ := by decide
  · exact tI_no hI _
theorem ki_pitch {T : TS} (hI : tI T) (e i : Int32) : tI (sp_pitch T e i).2 := by
  unfold sp_pitch
  repeat' (first | exact hI | split)
theorem ki_event {T : TS} (hI : tI T) (v p : Int32) : tI (sp_event T v p).2 := by
  unfold sp_event
  repeat' (first | exact hI | split)
theorem ki_walked {T : TS} (hI : tI T) (i : Int32) : tI (sp_walked T i).2 := by
  unfold sp_walked
  repeat' (first | exact hI | split)
theorem ki_finding {T : TS} (hI : tI T) (i w : Int32) : tI (sp_finding T i w).2 := by
  unfold sp_finding
  repeat' (first | exact hI | split)
theorem ki_lineAt {T : TS} (hI : tI T) (l w : Int32) : tI (sp_lineAt T l w).2 := by
  unfold sp_lineAt
  repeat' (first | exact hI | split)
theorem ki_at {T : TS} (hI : tI T) (e w : Int32) : tI (sp_at T e w).2 := by
  unfold sp_at
  repeat' (first | exact hI | split)
theorem ki_tupletAt {T : TS} (hI : tI T) (t w : Int32) : tI (sp_tupletAt T t w).2 := by
  unfold sp_tupletAt
  repeat' (first | exact hI | split)
theorem ki_time {T : TS} (hI : tI T) (e w : Int32) : tI (sp_time T e w).2 := by
  unfold sp_time
  repeat' (first | exact hI | split)
theorem ki_length {T : TS} (hI : tI T) (v w : Int32) : tI (sp_length T v w).2 := by
  unfold sp_length
  repeat' (first | exact hI | split)
theorem ki_equal {T : TS} (hI : tI T) (v w : Int32) : tI (sp_equal T v w).2 := by
  unfold sp_equal
  repeat' (first | exact hI | split)
theorem ki_item {T : TS} (hI : tI T) (r i : Int32) : tI (sp_item T r i).2 := by
  unfold sp_item
  repeat' (first | exact hI | split)
theorem ki_held {T : TS} (hI : tI T) (r i : Int32) : tI (sp_held T r i).2 := by
  unfold sp_held
  repeat' (first | exact hI | split)
theorem ki_heard {T : TS} (hI : tI T) (e i : Int32) : tI (sp_heard T e i).2 := by
  unfold sp_heard
  repeat' (first | exact hI | split)
theorem ki_asks {T : TS} (hI : tI T) (p w q : Int32) : tI (sp_asks T p w q).2 := by
  unfold sp_asks
  repeat' (first | exact hI | split)
theorem ki_lift {T : TS} (hI : tI T) (r i v : Int32) : tI (sp_lift T r i v).2 := by
  unfold sp_lift
  repeat' (first | exact hI | split)
theorem ki_copy {T : TS} (hI : tI T) (s i o j n : Int32) : tI (sp_copy T s i o j n).2 := by
  unfold sp_copy
  repeat' (first | exact hI | split)
theorem ki_tie {T : TS} (hI : tI T) (e : Int32) (b : Bool) : tI (sp_tie T e b).2 := by
  unfold sp_tie
  split
  · exact tI_no hI _
  · split
    · exact tI_fl hI _ _ _
    · next h => exact tI_ok (tI_tie hI (of_decide_eq_true (tr_f h)) b) _
theorem ki_value {T : TS} (hI : tI T) (e v d : Int32) : tI (sp_value T e v d).2 := by
  unfold sp_value
  split
  · exact tI_no hI _
  · next h =>
    have h := tr_f h
    rw [Bool.and_eq_true, Bool.and_eq_true] at h
    have h1 := clamp_nI h.1.2
    have h2 := clamp_nI h.2
    exact tI_ok (tI_value hI (by omega) (by omega)) _
theorem ki_chord {T : TS} (hI : tI T) (e p : Int32) : tI (sp_chord T e p).2 := by
  unfold sp_chord
  split
  · exact tI_no hI _
  · next h =>
    have h := tr_f h
    rw [Bool.and_eq_true] at h
    have h1 := clamp_ev hI h.1
    obtain ⟨j, h2, h3, rfl⟩ := inB_t h.2
    rw [nI_clamp h3]
    split
    · exact tI_fl hI _ _ _
    · next h4 =>
      split
      · exact tI_no hI _
      · next h5 =>
        split
        · exact tI_no hI _
        · next h6 => exact tI_ok (tI_chord hI h1.1 (Decidable.not_not.mp h4) (by omega) (by omega) h6) _
theorem ki_untuplet {T : TS} (hI : tI T) (t : Int32) : tI (sp_untuplet T t).2 := by
  unfold sp_untuplet
  split
  · exact tI_no hI _
  · next h =>
    obtain ⟨j, h1, h2, rfl⟩ := tpB_t hI (tr_f h)
    have := ti_te hI
    rw [nI_clamp (by omega)]
    exact tI_ok (tI_untuplet hI h1 h2) _
theorem enO_ok {T : TS} (hI : tI T) {t : Int32} (h : t = -1 ∨ evB T t = true) : ∀ e, enO t = some e → e < g_ev T ∧ g_th T e = true := by
  intro e he
  unfold enO at he
  split at he
  · cases he
  · next h2 =>
    cases he
    exact clamp_ev hI (h.resolve_left h2)
theorem ki_line {T : TS} (hI : tI T) (k f t : Int32) : tI (sp_line T k f t).2 := by
  unfold sp_line
  split
  · next h =>
    split
    · exact tI_no hI _
    · next h2 =>
      have h3 := clamp_nI h.1
      exact tI_ok (tI_line hI (by omega) (clamp_ev hI h.2.1) (enO_ok hI h.2.2) h2) _
  · exact tI_no hI _
theorem ki_end {T : TS} (hI : tI T) (l t : Int32) : tI (sp_end T l t).2 := by
  unfold sp_end
  split
  · next h => exact tI_ok (tI_end hI (enO_ok hI h.2)) _
  · exact tI_no hI _
theorem clamp_le {n : Int32} {m : Nat} (hm : m < 2147483648) (h : n ≤ nI m) : n.toNatClampNeg ≤ m := by
  rw [Int32.le_iff_toInt_le, nI_toInt hm] at h
  show n.toInt.toNat ≤ m
  omega
theorem ki_rack {T : TS} (hI : tI T) (r k n : Int32) : tI (sp_rack T r k n).2 := by
  unfold sp_rack
  split
  · next h =>
    have h1 := clamp_nI h.2.1
    split
    · exact tI_ok (tI_rack hI (by omega) (clamp_le (by decide) h.2.2)) _
    · exact tI_fl hI _ _ _
  · exact tI_no hI _
theorem ki_shelf {T : TS} (hI : tI T) (r k n : Int32) : tI (sp_shelf T r k n).2 := by
  unfold sp_shelf
  split
  · next h =>
    have h1 := clamp_nI h.2.1
    split
    · exact tI_ok (tI_shelf hI (by omega) (clamp_le (by decide) h.2.2)) _
    · exact tI_fl hI _ _ _
  · exact tI_no hI _
theorem ki_hold {T : TS} (hI : tI T) (r i e : Int32) : tI (sp_hold T r i e).2 := by
  unfold sp_hold
  split
  · next h =>
    split
    · exact tI_fl hI _ _ _
    · split
      · exact tI_fl hI _ _ _
      · next h3 =>
        split
        · refine tI_ok (tI_rrw hI ?_ ?_) _
          · intro a b c ha hb hc hd
            unfold va_u2 va_up at hd
            by_cases h4 : a = r.toNatClampNeg
            · rw [if_pos h4] at hd
              by_cases h5 : b = i.toNatClampNeg
              · rw [if_pos h5] at hd
                exact enO_ok hI h.2 c hd
              · rw [if_neg h5, ← h4] at hd
                exact ti_rr hI a b c ha hb hc hd
            · rw [if_neg h4] at hd
              exact ti_rr hI a b c ha hb hc hd
          · intro a b c ha hb hd
            unfold va_u2 va_up at hd
            by_cases h4 : a = r.toNatClampNeg
            · rw [if_pos h4] at hd
              by_cases h5 : b = i.toNatClampNeg
              · rw [if_pos h5] at hd
                have h6 := enO_ok hI h.2 c hd
                have := ti_ev hI
                omega
              · rw [if_neg h5, ← h4] at hd
                exact ti_rrb hI a b c ha hb hd
            · rw [if_neg h4] at hd
              exact ti_rrb hI a b c ha hb hd
        · exact tI_fl hI _ _ _
  · exact tI_no hI _
theorem ki_slide {T : TS} (hI : tI T) (r i j n : Int32) : tI (sp_slide T r i j n).2 := by
  unfold sp_slide
  split
  · exact tI_no hI _
  · split
    · exact tI_fl hI _ _ _
    · next h2 =>
      split
      · next h3 =>
        obtain ⟨a, k, h4, h5, h6, rfl, rfl⟩ := thB_t h3.1
        obtain ⟨b, k2, h7, h8, h9, rfl, e2⟩ := thB_t h3.2
        have e2 : k = k2 := (nI_eq h6 h9).mp e2
        subst e2
        rw [nI_clamp h5, nI_clamp h6, nI_clamp h8]
        have hr4 : r.toNatClampNeg < 4 := clamp_nI (tr_f (by assumption))
        have hrs := ti_rk hI _ hr4
        refine tI_ok (tI_rrw hI ?_ ?_) _
        · intro x y c hx hy hz hd
          unfold va_u2 cpF at hd
          by_cases q1 : x = r.toNatClampNeg
          · rw [if_pos q1] at hd
            subst q1
            by_cases q2 : b ≤ y ∧ y < b + k
            · rw [if_pos q2] at hd
              exact ti_rr hI _ _ c hx hy (by omega) hd
            · rw [if_neg q2] at hd
              exact ti_rr hI _ _ c hx hy hz hd
          · rw [if_neg q1] at hd
            exact ti_rr hI _ _ c hx hy hz hd
        · intro x y c hx hz hd
          unfold va_u2 cpF at hd
          by_cases q1 : x = r.toNatClampNeg
          · rw [if_pos q1] at hd
            subst q1
            by_cases q2 : b ≤ y ∧ y < b + k
            · rw [if_pos q2] at hd
              exact ti_rrb hI _ _ c hx (by omega) hd
            · rw [if_neg q2] at hd
              exact ti_rrb hI _ _ c hx hz hd
          · rw [if_neg q1] at hd
            exact ti_rrb hI _ _ c hx hz hd
      · exact tI_fl hI _ _ _
theorem ki_shift {T : TS} (hI : tI T) (e w : Int32) : tI (sp_shift T e w).2 := by
  unfold sp_shift
  split
  · exact tI_no hI _
  · next h =>
    split
    · exact tI_fl hI _ _ _
    · next h2 =>
      split
      · exact tI_fl hI _ _ _
      · next h3 => exact tI_ok (tI_shT hI (clamp_ev hI (tr_f h)).1 (of_decide_eq_true (tr_f h2)) (tr_f h3)) _
theorem ki_trS (w : Int32) (v : Nat) (hv : v < 18) : ∀ k p n T, tI T → p + k ≤ g_mn T v → tI (trS w v k p n T).2.1
  | 0, _, _, _, h, _ => h
  | k + 1, p, n, T, h, hp => by
    rw [trS]
    split
    · next h1 =>
      split
      · next h2 =>
        have h3 := ti_ro h v p hv (by omega)
        exact ki_trS w v hv k (p + 1) (n + 1) _ (tI_shT h h3.1 (of_decide_eq_true h1) h2) (by show p + 1 + k ≤ g_mn T v; omega)
      · exact h
    · exact ki_trS w v hv k (p + 1) n T h (by omega)
theorem plW_i {T : TS} (hI : tI T) {s n e : Nat} (he : e < g_ev T) (hk : g_kd T e < 3) (h : mayB T e (plZ T s n e) = true) : (plW T s n e).toInt = plZ T s n e := by
  have h0 := ti_pi hI e 0 he (ti_pn1 hI e he hk)
  have h1 := of_decide_eq_true h
  have h2 := (g_sr T s n).toInt_lt
  have h3 := (g_sr T s n).le_toInt
  have hl := ti_pn1 hI e he hk
  have hq := ti_pi hI e (g_pn T e - 1) he (by omega)
  have e1 : ((g_sr T s n).toInt64 - lN (g_pv T e 0)).toInt = plZ T s n e := pl_toInt h0.2
  unfold plW
  rw [Int64.toInt_toInt32, e1, Int.bmod_eq_of_le]
  · omega
  · omega
theorem ki_plS (s v : Nat) (hv : v < 18) : ∀ k p n T, tI T → p + k ≤ g_mn T v → tI (plS s v k p n T).2.1
  | 0, _, _, _, h, _ => h
  | k + 1, p, n, T, h, hp => by
    rw [plS]
    split
    · next h1 =>
      split
      · exact h
      · split
        · exact h
        · split
          · next h2 =>
            have h3 := ti_ro h v p hv (by omega)
            exact ki_plS s v hv k (p + 1) (n + 1) _ (tI_shT h h3.1 (of_decide_eq_true h1) (by rw [plW_i h h3.1 (of_decide_eq_true h1) h2]; exact h2)) (by show p + 1 + k ≤ g_mn T v; omega)
          · exact h
    · exact ki_plS s v hv k (p + 1) n T h (by omega)
theorem clamp_vo {T : TS} (hI : tI T) {v : Int32} (h : inB v (3 * g_np T) = true) : v.toNatClampNeg < 18 := by
  have h1 := clamp_nI h
  have h2 := ti_np hI
  omega
theorem ki_transpose {T : TS} (hI : tI T) (v w : Int32) : tI (sp_transpose T v w).2 := by
  unfold sp_transpose
  split
  · exact tI_no hI _
  · next h =>
    have h1 := ki_trS w v.toNatClampNeg (clamp_vo hI (tr_f h)) (g_mn T v.toNatClampNeg) 0 0 (h_su T 0) (tI_su hI 0) (by rw [Nat.zero_add]; exact Nat.le_refl _)
    unfold trR
    split
    · exact tI_ok h1 _
    · exact tI_fl h1 _ _ _
theorem ki_play {T : TS} (hI : tI T) (s v : Int32) : tI (sp_play T s v).2 := by
  unfold sp_play
  split
  · next h =>
    have h1 := ki_plS s.toNatClampNeg v.toNatClampNeg (clamp_vo hI h.2) (g_mn T v.toNatClampNeg) 0 0 (h_su T 0) (tI_su hI 0) (by rw [Nat.zero_add]; exact Nat.le_refl _)
    unfold plR
    split
    · exact tI_ok h1 _
    · split
      · exact tI_fl h1 _ _ _
      · exact tI_fl h1 _ _ _
  · exact tI_no hI _
theorem ki_lays {T : TS} (hI : tI T) (o : Option Nat) (s : Nat) (p : Int) : tI (sp_lays T o s p).2 := by
  unfold sp_lays
  split
  · exact hI
  · split
    · exact hI
    · split
      · exact hI
      · split
        · exact tI_sr hI _
        · exact hI
theorem ki_lyS (f : Nat → Option Nat) (s : Nat) (a : Int32) : ∀ k q T, tI T → tI (lyS f s a k q T).2
  | 0, _, _, h => tI_ok h _
  | k + 1, q, T, h => by
    rw [lyS]
    split
    · exact ki_lyS f s a k (q + 1) _ (ki_lays h _ _ _)
    · exact ki_lays h _ _ _
theorem ki_lay {T : TS} (hI : tI T) (v : Int32) (b : Bool) (s a : Int32) : tI (sp_lay T v b s a).2 := by
  unfold sp_lay
  by_cases hc : (if b = true then inB v 4 else inB v (3 * g_np T)) = true ∧ inB s 4 = true
  · rw [if_pos hc]
    split
    · split
      · exact tI_fl hI _ _ _
      · exact ki_lyS _ _ _ _ _ _ (tI_su hI 0)
    · exact ki_lyS _ _ _ _ _ _ (tI_su hI 0)
  · rw [if_neg hc]
    exact tI_no hI _
theorem ki_walk {T : TS} (hI : tI T) : tI (sp_walk T).2 := by
  have h := ti_np hI
  have h1 := smF_le hI (v := 3 * g_np T) (by omega)
  refine tI_ok (tI_wt (tI_su hI 0) ?_) _
  rw [wkV_n]
  exact h1
theorem ki_check {T : TS} (hI : tI T) : tI (sp_check T).2 := by
  have hI := tI_su hI 0
  have h := ti_np hI
  have h2 := ti_te hI
  have h3 := ti_le hI
  have h4 := ckV_le hI (3 * g_np (h_su T 0))
  have h5 := ckT_le (h_su T 0) (ckV (h_su T 0) (3 * g_np (h_su T 0))) (g_te (h_su T 0))
  have h6 := ckL_le (h_su T 0) (ckT (h_su T 0) (ckV (h_su T 0) (3 * g_np (h_su T 0))) (g_te (h_su T 0))) (g_le (h_su T 0))
  refine tI_ok (tI_ct hI ?_) _
  unfold ckF
  omega
