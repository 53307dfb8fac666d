theorem tI_no {T : TS} (h : tI T) (c : Int32) : tI (sNo T c).2 := h
theorem tI_fl {T : TS} (h : tI T) (i : Nat) (c r : Int32) : tI (sFl T i c r).2 := h
theorem tI_ok {T : TS} (h : tI T) (r : Int32) : tI (sOk T r).2 := h
theorem zcnt_cong {a b : Nat → Bool} : ∀ n, (∀ i, i < n → a i = b i) → zcnt a n = zcnt b n
  | 0, _ => rfl
  | n + 1, h => by rw [zcnt, zcnt, zcnt_cong n (fun i hi => h i (by omega)), h n (Nat.lt_succ_self _)]
theorem zcnt_set (b : Nat → Bool) (n : Nat) : zcnt (va_up b n true) (n + 1) = zcnt b n + 1 := by
  rw [zcnt, zcnt_cong n (b := b) (fun i hi => by unfold va_up; rw [if_neg (by omega)])]
  unfold va_up
  rw [if_pos rfl]
  rfl
theorem zcnt_clr {b : Nat → Bool} {i : Nat} (hi : b i = true) : ∀ n, i < n → zcnt (va_up b i false) n + 1 = zcnt b n
  | 0, h => absurd h (Nat.not_lt_zero _)
  | n + 1, h => by
    rw [zcnt, zcnt]
    by_cases h2 : i = n
    · subst h2
      rw [zcnt_cong i (b := b) (fun j hj => by unfold va_up; rw [if_neg (by omega)]), hi]
      unfold va_up
      rw [if_pos rfl]
      rfl
    · have := zcnt_clr hi n (by omega)
      rw [show va_up b i false n = b n from by unfold va_up; rw [if_neg (by omega)]]
      omega
theorem up_t {b : Nat → Bool} {i j : Nat} (h : va_up b i false j = true) : j ≠ i ∧ b j = true := by
  unfold va_up at h
  split at h
  · exact absurd h Bool.false_ne_true
  · exact ⟨by assumption, h⟩
theorem clamp_nI {i : Int32} {n : Nat} (h : inB i n = true) : i.toNatClampNeg < n := by
  obtain ⟨j, h1, h2, rfl⟩ := inB_t h
  rw [nI_clamp h2]
  exact h1
theorem clamp_ev {T : TS} (hI : tI T) {e : Int32} (h : evB T e = true) : e.toNatClampNeg < g_ev T ∧ g_th T e.toNatClampNeg = true := by
  obtain ⟨j, h1, h2, rfl⟩ := evB_t hI h
  have := ti_ev hI
  rw [nI_clamp (by omega)]
  exact ⟨h1, h2⟩
theorem tI_part {T : TS} (hI : tI T) {j : Nat} (hj : j ≤ 5) (hn : g_np T ≠ 6) : tI (h_np (h_pk T (va_up (g_pk T) (g_np T) j)) (g_np T + 1)) := ⟨(ti_ct hI :), (ti_cu hI :), (ti_cl hI :), (by have := ti_np hI; show g_np T + 1 ≤ 6; omega), (fun i hi => by
  have hi : i < g_np T + 1 := hi
  show va_up (g_pk T) (g_np T) j i ≤ 5
  unfold va_up
  split
  · exact hj
  · exact ti_pk hI i (by omega)), (ti_nb hI :), (ti_bt hI :), (ti_ev hI :), (fun e he => by have := ti_vo hI e he; show g_vo T e < 3 * (g_np T + 1); omega), (ti_kd hI :), (ti_pn hI :), (ti_pn1 hI :), (ti_pn0 hI :), (ti_pnc hI :), (ti_pi hI :), (ti_pim hI :), (ti_va hI :), (ti_dt hI :), (ti_mn hI :), (fun v hv => ti_mn0 hI v (by have hv : 3 * (g_np T + 1) ≤ v := hv; omega)), (ti_ro hI :), (ti_pl hI :), (ti_te hI :), (ti_tn hI :), (ti_tm hI :), (ti_tu hI :), (ti_tp hI :), (ti_tnest hI :), (ti_tover hI :), (ti_le hI :), (ti_lk hI :), (ti_lf hI :), (ti_lo hI :), (ti_wm hI :), (ti_fo hI :), (ti_rk hI :), (ti_rr hI :), (ti_sk hI :), (ti_tied hI :), (ti_sm hI :), (ti_rrb hI :)⟩
theorem tI_bar {T : TS} (hI : tI T) {w : Nat} (hw : w ≤ 361267200) (hn : g_nb T ≠ 24) : tI (h_nb (h_bt T (va_up (g_bt T) (g_nb T) w)) (g_nb T + 1)) := ⟨(ti_ct hI :), (ti_cu hI :), (ti_cl hI :), (ti_np hI :), (ti_pk hI :), (by have := ti_nb hI; show g_nb T + 1 ≤ 24; omega), (fun i hi => by
  have hi : i < g_nb T + 1 := hi
  show va_up (g_bt T) (g_nb T) w i ≤ 361267200
  unfold va_up
  split
  · exact hw
  · exact ti_bt hI i (by omega)), (ti_ev hI :), (ti_vo hI :), (ti_kd hI :), (ti_pn hI :), (ti_pn1 hI :), (ti_pn0 hI :), (ti_pnc hI :), (ti_pi hI :), (ti_pim hI :), (ti_va hI :), (ti_dt hI :), (ti_mn hI :), (ti_mn0 hI :), (ti_ro hI :), (ti_pl hI :), (ti_te hI :), (ti_tn hI :), (ti_tm hI :), (ti_tu hI :), (ti_tp hI :), (ti_tnest hI :), (ti_tover hI :), (ti_le hI :), (ti_lk hI :), (ti_lf hI :), (ti_lo hI :), (ti_wm hI :), (ti_fo hI :), (ti_rk hI :), (ti_rr hI :), (ti_sk hI :), (ti_tied hI :), (ti_sm hI :), (ti_rrb hI :)⟩
theorem tI_tie {T : TS} (hI : tI T) {e : Nat} (hk : g_kd T e < 3) (b : Bool) : tI (h_ti T (va_up (g_ti T) e b)) := ⟨(ti_ct hI :), (ti_cu hI :), (ti_cl hI :), (ti_np hI :), (ti_pk hI :), (ti_nb hI :), (ti_bt hI :), (ti_ev hI :), (ti_vo hI :), (ti_kd hI :), (ti_pn hI :), (ti_pn1 hI :), (ti_pn0 hI :), (ti_pnc hI :), (ti_pi hI :), (ti_pim hI :), (ti_va hI :), (ti_dt hI :), (ti_mn hI :), (ti_mn0 hI :), (ti_ro hI :), (ti_pl hI :), (ti_te hI :), (ti_tn hI :), (ti_tm hI :), (ti_tu hI :), (ti_tp hI :), (ti_tnest hI :), (ti_tover hI :), (ti_le hI :), (ti_lk hI :), (ti_lf hI :), (ti_lo hI :), (ti_wm hI :), (ti_fo hI :), (ti_rk hI :), (ti_rr hI :), (ti_sk hI :), (fun f hf h => by
  have h : va_up (g_ti T) e b f = true := h
  unfold va_up at h
  split at h
  · next z => rw [z]; exact hk
  · exact ti_tied hI f hf h), (ti_sm hI :), (ti_rrb hI :)⟩
theorem tI_value {T : TS} (hI : tI T) {e v d : Nat} (hv : v ≤ 5) (hd : d ≤ 2) : tI (h_dt (h_va T (va_up (g_va T) e v)) (va_up (g_dt T) e d)) := ⟨(ti_ct hI :), (ti_cu hI :), (ti_cl hI :), (ti_np hI :), (ti_pk hI :), (ti_nb hI :), (ti_bt hI :), (ti_ev hI :), (ti_vo hI :), (ti_kd hI :), (ti_pn hI :), (ti_pn1 hI :), (ti_pn0 hI :), (ti_pnc hI :), (ti_pi hI :), (ti_pim hI :), (fun f hf => by
  show va_up (g_va T) e v f ≤ 5
  unfold va_up
  split
  · exact hv
  · exact ti_va hI f hf), (fun f hf => by
  show va_up (g_dt T) e d f ≤ 2
  unfold va_up
  split
  · exact hd
  · exact ti_dt hI f hf), (ti_mn hI :), (ti_mn0 hI :), (ti_ro hI :), (ti_pl hI :), (ti_te hI :), (ti_tn hI :), (ti_tm hI :), (ti_tu hI :), (ti_tp hI :), (ti_tnest hI :), (ti_tover hI :), (ti_le hI :), (ti_lk hI :), (ti_lf hI :), (ti_lo hI :), (ti_wm hI :), (ti_fo hI :), (ti_rk hI :), (ti_rr hI :), (ti_sk hI :), (ti_tied hI :), (ti_sm hI :), (ti_rrb hI :)⟩
theorem tI_chord {T : TS} (hI : tI T) {e p : Nat} (he : e < g_ev T) (hk : g_kd T e = 1) (hp : p ≤ 127) (hl : g_pv T e (g_pn T e - 1) < p) (hn : g_pn T e ≠ 6) : tI (h_pn (h_pi T (va_u2 (g_pi T) e (va_up (g_pi T e) (g_pn T e) (nI p)))) (va_up (g_pn T) e (g_pn T e + 1))) := ⟨(ti_ct hI :), (ti_cu hI :), (ti_cl hI :), (ti_np hI :), (ti_pk hI :), (ti_nb hI :), (ti_bt hI :), (ti_ev hI :), (ti_vo hI :), (ti_kd hI :), (fun f => by
  have h1 := ti_pn hI f
  have h2 := ti_pn hI e
  show va_up (g_pn T) e (g_pn T e + 1) f ≤ 6
  unfold va_up
  split <;> omega), (fun f hf h => by
  have h1 := ti_pn1 hI f hf h
  show 1 ≤ va_up (g_pn T) e (g_pn T e + 1) f
  unfold va_up
  split <;> omega), (fun f hf h => by
  have h : 3 ≤ g_kd T f := h
  have h1 := ti_pn0 hI f hf h
  show va_up (g_pn T) e (g_pn T e + 1) f = 0
  unfold va_up
  split
  · next z => rw [z, hk] at h; omega
  · exact h1), (fun f hf h => by
  have h1 := ti_pnc hI f hf h
  show va_up (g_pn T) e (g_pn T e + 1) f ≤ 1
  unfold va_up
  split
  · next z => rw [z] at h; exact absurd hk h
  · exact h1), (fun f j hf hj => by
  have hj : j < va_up (g_pn T) e (g_pn T e + 1) f := hj
  show va_u2 (g_pi T) e (va_up (g_pi T e) (g_pn T e) (nI p)) f j = nI (va_u2 (g_pi T) e (va_up (g_pi T e) (g_pn T e) (nI p)) f j).toNatClampNeg ∧ (va_u2 (g_pi T) e (va_up (g_pi T e) (g_pn T e) (nI p)) f j).toNatClampNeg ≤ 127
  unfold va_u2
  unfold va_up at hj ⊢
  by_cases h1 : f = e
  · subst h1
    rw [if_pos rfl] at hj ⊢
    by_cases h2 : j = g_pn T f
    · rw [if_pos h2, nI_clamp (by omega)]
      exact ⟨rfl, hp⟩
    · rw [if_neg h2]
      exact ti_pi hI f j hf (by omega)
  · rw [if_neg h1] at hj ⊢
    exact ti_pi hI f j hf hj), (fun f j hf hj => by
  have hj : j + 1 < va_up (g_pn T) e (g_pn T e + 1) f := hj
  show (va_u2 (g_pi T) e (va_up (g_pi T e) (g_pn T e) (nI p)) f j).toNatClampNeg < (va_u2 (g_pi T) e (va_up (g_pi T e) (g_pn T e) (nI p)) f (j + 1)).toNatClampNeg
  unfold va_u2
  unfold va_up at hj ⊢
  by_cases h1 : f = e
  · subst h1
    rw [if_pos rfl] at hj ⊢
    rw [if_neg (show ¬ j = g_pn T f by omega)]
    by_cases h2 : j + 1 = g_pn T f
    · rw [if_pos h2, nI_clamp (by omega)]
      rw [show g_pn T f - 1 = j by omega] at hl
      exact hl
    · rw [if_neg h2]
      exact ti_pim hI f j hf (by omega)
  · rw [if_neg h1] at hj ⊢
    exact ti_pim hI f j hf hj), (ti_va hI :), (ti_dt hI :), (ti_mn hI :), (ti_mn0 hI :), (ti_ro hI :), (ti_pl hI :), (ti_te hI :), (ti_tn hI :), (ti_tm hI :), (ti_tu hI :), (ti_tp hI :), (ti_tnest hI :), (ti_tover hI :), (ti_le hI :), (ti_lk hI :), (ti_lf hI :), (ti_lo hI :), (ti_wm hI :), (ti_fo hI :), (ti_rk hI :), (ti_rr hI :), (ti_sk hI :), (ti_tied hI :), (ti_sm hI :), (ti_rrb hI :)⟩
theorem tI_untuplet {T : TS} (hI : tI T) {t : Nat} (ht : t < g_te T) (htt : g_tt T t = true) : tI (h_cu (h_tt T (va_up (g_tt T) t false)) (g_cu T - 1)) := ⟨(ti_ct hI :), (by
  have h1 := zcnt_clr htt (g_te T) ht
  have h2 := ti_cu hI
  show g_cu T - 1 = zcnt (va_up (g_tt T) t false) (g_te T)
  omega), (ti_cl hI :), (ti_np hI :), (ti_pk hI :), (ti_nb hI :), (ti_bt hI :), (ti_ev hI :), (ti_vo hI :), (ti_kd hI :), (ti_pn hI :), (ti_pn1 hI :), (ti_pn0 hI :), (ti_pnc hI :), (ti_pi hI :), (ti_pim hI :), (ti_va hI :), (ti_dt hI :), (ti_mn hI :), (ti_mn0 hI :), (ti_ro hI :), (ti_pl hI :), (ti_te hI :), (ti_tn hI :), (ti_tm hI :), (ti_tu hI :), (fun u hu h => ti_tp hI u hu (up_t h).2), (fun a b ha hb h1 h2 => ti_tnest hI a b ha hb (up_t h1).2 (up_t h2).2), (fun v p => Nat.le_trans (zcnt_sub (fun u hu => by
  have hu := Bool.and_eq_true_iff.mp hu
  exact Bool.and_eq_true_iff.mpr ⟨(up_t hu.1).2, hu.2⟩) _) (ti_tover hI v p)), (ti_le hI :), (ti_lk hI :), (ti_lf hI :), (ti_lo hI :), (ti_wm hI :), (ti_fo hI :), (ti_rk hI :), (ti_rr hI :), (ti_sk hI :), (ti_tied hI :), (ti_sm hI :), (ti_rrb hI :)⟩
theorem tI_line {T : TS} (hI : tI T) {k f : Nat} {o : Option Nat} (hk : k ≤ 3) (hf : f < g_ev T ∧ g_th T f = true) (ho : ∀ e, o = some e → e < g_ev T ∧ g_th T e = true) (hn : g_le T ≠ 30) : tI (h_cl (h_le (h_lo (h_lf (h_lk (h_lt T (va_up (g_lt T) (g_le T) true)) (va_up (g_lk T) (g_le T) k)) (va_up (g_lf T) (g_le T) f)) (va_up (g_lo T) (g_le T) o)) (g_le T + 1)) (g_cl T + 1)) := ⟨(ti_ct hI :), (ti_cu hI :), (by
  show g_cl T + 1 = zcnt (va_up (g_lt T) (g_le T) true) (g_le T + 1)
  rw [zcnt_set, ti_cl hI]), (ti_np hI :), (ti_pk hI :), (ti_nb hI :), (ti_bt hI :), (ti_ev hI :), (ti_vo hI :), (ti_kd hI :), (ti_pn hI :), (ti_pn1 hI :), (ti_pn0 hI :), (ti_pnc hI :), (ti_pi hI :), (ti_pim hI :), (ti_va hI :), (ti_dt hI :), (ti_mn hI :), (ti_mn0 hI :), (ti_ro hI :), (ti_pl hI :), (ti_te hI :), (ti_tn hI :), (ti_tm hI :), (ti_tu hI :), (ti_tp hI :), (ti_tnest hI :), (ti_tover hI :), (by have := ti_le hI; show g_le T + 1 ≤ 30; omega), (fun l hl => by
  have hl : l < g_le T + 1 := hl
  show va_up (g_lk T) (g_le T) k l ≤ 3
  unfold va_up
  split
  · exact hk
  · exact ti_lk hI l (by omega)), (fun l hl h => by
  have hl : l < g_le T + 1 := hl
  have h : va_up (g_lt T) (g_le T) true l = true := h
  show va_up (g_lf T) (g_le T) f l < g_ev T ∧ g_th T (va_up (g_lf T) (g_le T) f l) = true
  unfold va_up at h ⊢
  by_cases h1 : l = g_le T
  · rw [if_pos h1]; exact hf
  · rw [if_neg h1] at h ⊢; exact ti_lf hI l (by omega) h), (fun l e hl h h3 => by
  have hl : l < g_le T + 1 := hl
  have h : va_up (g_lt T) (g_le T) true l = true := h
  have h3 : va_up (g_lo T) (g_le T) o l = some e := h3
  unfold va_up at h h3
  by_cases h1 : l = g_le T
  · rw [if_pos h1] at h3; exact ho e h3
  · rw [if_neg h1] at h h3; exact ti_lo hI l e (by omega) h h3), (ti_wm hI :), (ti_fo hI :), (ti_rk hI :), (ti_rr hI :), (ti_sk hI :), (ti_tied hI :), (ti_sm hI :), (ti_rrb hI :)⟩
theorem tI_end {T : TS} (hI : tI T) {l : Nat} {o : Option Nat} (ho : ∀ e, o = some e → e < g_ev T ∧ g_th T e = true) : tI (h_lo T (va_up (g_lo T) l o)) := ⟨(ti_ct hI :), (ti_cu hI :), (ti_cl hI :), (ti_np hI :), (ti_pk hI :), (ti_nb hI :), (ti_bt hI :), (ti_ev hI :), (ti_vo hI :), (ti_kd hI :), (ti_pn hI :), (ti_pn1 hI :), (ti_pn0 hI :), (ti_pnc hI :), (ti_pi hI :), (ti_pim hI :), (ti_va hI :), (ti_dt hI :), (ti_mn hI :), (ti_mn0 hI :), (ti_ro hI :), (ti_pl hI :), (ti_te hI :), (ti_tn hI :), (ti_tm hI :), (ti_tu hI :), (ti_tp hI :), (ti_tnest hI :), (ti_tover hI :), (ti_le hI :), (ti_lk hI :), (ti_lf hI :), (fun k e hl h h3 => by
  have h3 : va_up (g_lo T) l o k = some e := h3
  unfold va_up at h3
  by_cases h1 : k = l
  · rw [if_pos h1] at h3; exact ho e h3
  · rw [if_neg h1] at h3; exact ti_lo hI k e hl h h3), (ti_wm hI :), (ti_fo hI :), (ti_rk hI :), (ti_rr hI :), (ti_sk hI :), (ti_tied hI :), (ti_sm hI :), (ti_rrb hI :)⟩
theorem tI_rack {T : TS} (hI : tI T) {r k n : Nat} (hk : k ≤ 5) (hn : n ≤ 20) : tI (h_rr (h_rs (h_rk (h_hr T (va_up (g_hr T) r true)) (va_up (g_rk T) r k)) (va_up (g_rs T) r n)) (va_u2 (g_rr T) r (fun _ => none))) := ⟨(ti_ct hI :), (ti_cu hI :), (ti_cl hI :), (ti_np hI :), (ti_pk hI :), (ti_nb hI :), (ti_bt hI :), (ti_ev hI :), (ti_vo hI :), (ti_kd hI :), (ti_pn hI :), (ti_pn1 hI :), (ti_pn0 hI :), (ti_pnc hI :), (ti_pi hI :), (ti_pim hI :), (ti_va hI :), (ti_dt hI :), (ti_mn hI :), (ti_mn0 hI :), (ti_ro hI :), (ti_pl hI :), (ti_te hI :), (ti_tn hI :), (ti_tm hI :), (ti_tu hI :), (ti_tp hI :), (ti_tnest hI :), (ti_tover hI :), (ti_le hI :), (ti_lk hI :), (ti_lf hI :), (ti_lo hI :), (ti_wm hI :), (ti_fo hI :), (fun i hi => by
  show va_up (g_rk T) r k i ≤ 5 ∧ va_up (g_rs T) r n i ≤ 20
  unfold va_up
  by_cases h1 : i = r
  · rw [if_pos h1, if_pos h1]; exact ⟨hk, hn⟩
  · rw [if_neg h1, if_neg h1]; exact ti_rk hI i hi), (fun i j e hi h hj h3 => by
  have h : va_up (g_hr T) r true i = true := h
  have hj : j < va_up (g_rs T) r n i := hj
  have h3 : va_u2 (g_rr T) r (fun _ => none) i j = some e := h3
  unfold va_u2 at h3
  unfold va_up at h hj
  by_cases h1 : i = r
  · rw [if_pos h1] at h3; cases h3
  · rw [if_neg h1] at h hj h3; exact ti_rr hI i j e hi h hj h3), (ti_sk hI :), (ti_tied hI :), (ti_sm hI :), (fun i j e hi hj h3 => by
  have h3 : va_u2 (g_rr T) r (fun _ => none) i j = some e := h3
  unfold va_u2 at h3
  by_cases h1 : i = r
  · rw [if_pos h1] at h3; cases h3
  · rw [if_neg h1] at h3; exact ti_rrb hI i j e hi hj h3)⟩
theorem tI_rrw {T : TS} (hI : tI T) {f : Nat → Nat → Option Nat} (h1 : ∀ i j e, i < 4 → g_hr T i = true → j < g_rs T i → f i j = some e → e < g_ev T ∧ g_th T e = true) (h2 : ∀ i j e, i < 4 → j < 20 → f i j = some e → e < 150) : tI (h_rr T f) := ⟨(ti_ct hI :), (ti_cu hI :), (ti_cl hI :), (ti_np hI :), (ti_pk hI :), (ti_nb hI :), (ti_bt hI :), (ti_ev hI :), (ti_vo hI :), (ti_kd hI :), (ti_pn hI :), (ti_pn1 hI :), (ti_pn0 hI :), (ti_pnc hI :), (ti_pi hI :), (ti_pim hI :), (ti_va hI :), (ti_dt hI :), (ti_mn hI :), (ti_mn0 hI :), (ti_ro hI :), (ti_pl hI :), (ti_te hI :), (ti_tn hI :), (ti_tm hI :), (ti_tu hI :), (ti_tp hI :), (ti_tnest hI :), (ti_tover hI :), (ti_le hI :), (ti_lk hI :), (ti_lf hI :), (ti_lo hI :), (ti_wm hI :), (ti_fo hI :), (ti_rk hI :), h1, (ti_sk hI :), (ti_tied hI :), (ti_sm hI :), h2⟩
theorem tI_shelf {T : TS} (hI : tI T) {r k n : Nat} (hk : k ≤ 3) (hn : n ≤ 60) : tI (h_sr (h_ss (h_sk (h_hs T (va_up (g_hs T) r true)) (va_up (g_sk T) r k)) (va_up (g_ss T) r n)) (va_u2 (g_sr T) r (fun _ => 0))) := ⟨(ti_ct hI :), (ti_cu hI :), (ti_cl hI :), (ti_np hI :), (ti_pk hI :), (ti_nb hI :), (ti_bt hI :), (ti_ev hI :), (ti_vo hI :), (ti_kd hI :), (ti_pn hI :), (ti_pn1 hI :), (ti_pn0 hI :), (ti_pnc hI :), (ti_pi hI :), (ti_pim hI :), (ti_va hI :), (ti_dt hI :), (ti_mn hI :), (ti_mn0 hI :), (ti_ro hI :), (ti_pl hI :), (ti_te hI :), (ti_tn hI :), (ti_tm hI :), (ti_tu hI :), (ti_tp hI :), (ti_tnest hI :), (ti_tover hI :), (ti_le hI :), (ti_lk hI :), (ti_lf hI :), (ti_lo hI :), (ti_wm hI :), (ti_fo hI :), (ti_rk hI :), (ti_rr hI :), (fun i hi => by
  show va_up (g_sk T) r k i ≤ 3 ∧ va_up (g_ss T) r n i ≤ 60
  unfold va_up
  by_cases h1 : i = r
  · rw [if_pos h1, if_pos h1]; exact ⟨hk, hn⟩
  · rw [if_neg h1, if_neg h1]; exact ti_sk hI i hi), (ti_tied hI :), (ti_sm hI :), (ti_rrb hI :)⟩
