/-- v is one of 0 .. n - 1 -/
def inB (v : Int32) (n : Nat) : Bool := decide (0 ≤ v.toInt ∧ v.toInt < n)
theorem inB_nI {a n : Nat} (ha : a < 2147483648) : inB (nI a) n = decide (a < n) := by
  unfold inB
  rw [nI_toInt ha]
  simp
theorem inB_t {v : Int32} {n : Nat} (h : inB v n = true) : ∃ j : Nat, j < n ∧ j < 2147483648 ∧ v = nI j := by
  have h1 := of_decide_eq_true h
  refine ⟨v.toInt.toNat, by omega, ?_, ?_⟩
  · have := v.toInt_lt
    omega
  · apply Int32.toInt_inj.mp
    have := v.toInt_lt
    rw [nI_toInt (by omega)]
    omega
theorem lN_0 : lN 0 = 0 := rfl
theorem i64_le (a b : Int64) : a ≤ b ↔ a.toInt ≤ b.toInt := Int64.le_iff_toInt_le
theorem nI_m1_toInt {n : Nat} (h : n < 2147483648) : (nI n - nI 1).toInt = (n : Int) - 1 := by
  rw [Int32.toInt_sub, nI_toInt h, nI_toInt (by decide)]
  rw [Int.bmod_eq_of_le] <;> omega
theorem c_inS (σ : ZS) (v : Int32) {n : Nat} (hn : n < 2147483648) : ZC M_X12_in [Al v.toInt64, Al (lN 0), Al ((nI n - nI 1).toInt64)] σ (fun r τ => r = some (Ai (bI (inB v n))) ∧ τ = σ) := by
  have h := c_in σ v.toInt64 (lN 0) ((nI n - nI 1).toInt64)
  have e : decide (lN 0 ≤ v.toInt64 ∧ v.toInt64 ≤ (nI n - nI 1).toInt64) = inB v n := by
    unfold inB
    apply decide_eq_decide.mpr
    rw [i64_le, i64_le, Int32.toInt_toInt64, Int32.toInt_toInt64, nI_m1_toInt hn, pk_lT (by decide)]
    omega
  rw [e] at h
  exact h
theorem c_inC (σ : ZS) (v : Int32) {n : Nat} (hn : n < 2147483648) : ZC M_X12_in [Al v.toInt64, Al (lN 0), Al (lN n)] σ (fun r τ => r = some (Ai (bI (inB v (n + 1)))) ∧ τ = σ) := by
  have h := c_in σ v.toInt64 (lN 0) (lN n)
  have e : decide (lN 0 ≤ v.toInt64 ∧ v.toInt64 ≤ lN n) = inB v (n + 1) := by
    unfold inB
    apply decide_eq_decide.mpr
    rw [i64_le, i64_le, Int32.toInt_toInt64, pk_lT (n := 0) (by decide), pk_lT (by omega)]
    omega
  rw [e] at h
  exact h
def inR (v : Int32) (a b : Nat) : Bool := decide ((a : Int) ≤ v.toInt ∧ v.toInt ≤ b)
theorem inR_t {v : Int32} {a b : Nat} (hb : b < 2147483648) (h : inR v a b = true) : ∃ j : Nat, (a ≤ j ∧ j ≤ b) ∧ v = nI j := by
  have h1 := of_decide_eq_true h
  refine ⟨v.toInt.toNat, by omega, ?_⟩
  apply Int32.toInt_inj.mp
  rw [nI_toInt (by omega)]
  omega
theorem c_inL (σ : ZS) (v : Int32) {a b : Nat} (ha : a < 2147483648) (hb : b < 2147483648) : ZC M_X12_in [Al v.toInt64, Al (lN a), Al (lN b)] σ (fun r τ => r = some (Ai (bI (inR v a b))) ∧ τ = σ) := by
  have h := c_in σ v.toInt64 (lN a) (lN b)
  have e : decide (lN a ≤ v.toInt64 ∧ v.toInt64 ≤ lN b) = inR v a b := by
    unfold inR
    apply decide_eq_decide.mpr
    rw [i64_le, i64_le, Int32.toInt_toInt64, pk_lT (n := a) (by omega), pk_lT (by omega)]
  rw [e] at h
  exact h
/-- the sum of the first n -/
def smF (f : Nat → Nat) : Nat → Nat
  | 0 => 0
  | n + 1 => smF f n + f n
/-- a pitch as a number -/
def g_pv (T : TS) (e j : Nat) : Nat := (g_pi T e j).toNatClampNeg
/-- what holds of every score that comes to be -/
def tI (T : TS) : Prop :=
  g_ct T = zcnt (g_th T) (g_ev T) ∧
  g_cu T = zcnt (g_tt T) (g_te T) ∧
  g_cl T = zcnt (g_lt T) (g_le T) ∧
  g_np T ≤ 6 ∧
  (∀ i, i < g_np T → g_pk T i ≤ 5) ∧
  g_nb T ≤ 24 ∧
  (∀ i, i < g_nb T → g_bt T i ≤ 361267200) ∧
  g_ev T ≤ 150 ∧
  (∀ e, e < g_ev T → g_vo T e < 3 * g_np T) ∧
  (∀ e, e < g_ev T → g_kd T e ≤ 4) ∧
  (∀ e, g_pn T e ≤ 6) ∧
  (∀ e, e < g_ev T → g_kd T e < 3 → 1 ≤ g_pn T e) ∧
  (∀ e, e < g_ev T → 3 ≤ g_kd T e → g_pn T e = 0) ∧
  (∀ e, e < g_ev T → g_kd T e ≠ 1 → g_pn T e ≤ 1) ∧
  (∀ e j, e < g_ev T → j < g_pn T e → g_pi T e j = nI (g_pv T e j) ∧ g_pv T e j ≤ 127) ∧
  (∀ e j, e < g_ev T → j + 1 < g_pn T e → g_pv T e j < g_pv T e (j + 1)) ∧
  (∀ e, e < g_ev T → g_va T e ≤ 5) ∧
  (∀ e, e < g_ev T → g_dt T e ≤ 2) ∧
  (∀ v, g_mn T v ≤ 40) ∧
  (∀ v, 3 * g_np T ≤ v → g_mn T v = 0) ∧
  (∀ v p, v < 18 → p < g_mn T v → g_ro T v p < g_ev T ∧ g_th T (g_ro T v p) = true ∧ g_vo T (g_ro T v p) = v ∧ g_pl T (g_ro T v p) = p) ∧
  (∀ e, e < g_ev T → g_th T e = true → g_pl T e < g_mn T (g_vo T e) ∧ g_ro T (g_vo T e) (g_pl T e) = e) ∧
  g_te T ≤ 20 ∧
  (∀ t, t < g_te T → g_tn T t = 3 ∨ g_tn T t = 5 ∨ g_tn T t = 6 ∨ g_tn T t = 7) ∧
  (∀ t, t < g_te T → 1 ≤ g_tm T t ∧ g_tm T t ≤ 8) ∧
  (∀ t, t < g_te T → g_tu T t ≤ 5) ∧
  (∀ t, t < g_te T → g_tt T t = true → g_tf T t < g_ev T ∧ g_tl T t < g_ev T ∧ g_th T (g_tf T t) = true ∧ g_th T (g_tl T t) = true ∧ g_vo T (g_tf T t) = g_tv T t ∧ g_vo T (g_tl T t) = g_tv T t ∧ g_pl T (g_tf T t) ≤ g_pl T (g_tl T t)) ∧
  (∀ t u, t < g_te T → u < g_te T → g_tt T t = true → g_tt T u = true → g_tv T t = g_tv T u → (g_pl T (g_tl T t) < g_pl T (g_tf T u) ∨ g_pl T (g_tl T u) < g_pl T (g_tf T t)) ∨ (g_pl T (g_tf T u) ≤ g_pl T (g_tf T t) ∧ g_pl T (g_tl T t) ≤ g_pl T (g_tl T u)) ∨ (g_pl T (g_tf T t) ≤ g_pl T (g_tf T u) ∧ g_pl T (g_tl T u) ≤ g_pl T (g_tl T t))) ∧
  (∀ v p, zcnt (fun t => g_tt T t && decide (g_tv T t = v ∧ g_pl T (g_tf T t) ≤ p ∧ p ≤ g_pl T (g_tl T t))) (g_te T) ≤ 2) ∧
  g_le T ≤ 30 ∧
  (∀ l, l < g_le T → g_lk T l ≤ 3) ∧
  (∀ l, l < g_le T → g_lt T l = true → g_lf T l < g_ev T ∧ g_th T (g_lf T l) = true) ∧
  (∀ l e, l < g_le T → g_lt T l = true → g_lo T l = some e → e < g_ev T ∧ g_th T e = true) ∧
  g_wm T ≤ 150 ∧
  g_fo T ≤ 5000 ∧
  (∀ i, i < 4 → g_rk T i ≤ 5 ∧ g_rs T i ≤ 20) ∧
  (∀ i j e, i < 4 → g_hr T i = true → j < g_rs T i → g_rr T i j = some e → e < g_ev T ∧ g_th T e = true) ∧
  (∀ i, i < 4 → g_sk T i ≤ 3 ∧ g_ss T i ≤ 60) ∧
  (∀ e, e < g_ev T → g_ti T e = true → g_kd T e < 3) ∧
  smF (g_mn T) 18 = g_ct T ∧
  (∀ i j e, i < 4 → j < 20 → g_rr T i j = some e → e < 150)
theorem ti_ct {T : TS} (h : tI T) : g_ct T = zcnt (g_th T) (g_ev T) := h.1
theorem ti_cu {T : TS} (h : tI T) : g_cu T = zcnt (g_tt T) (g_te T) := h.2.1
theorem ti_cl {T : TS} (h : tI T) : g_cl T = zcnt (g_lt T) (g_le T) := h.2.2.1
theorem ti_np {T : TS} (h : tI T) : g_np T ≤ 6 := h.2.2.2.1
theorem ti_pk {T : TS} (h : tI T) : ∀ i, i < g_np T → g_pk T i ≤ 5 := h.2.2.2.2.1
theorem ti_nb {T : TS} (h : tI T) : g_nb T ≤ 24 := h.2.2.2.2.2.1
theorem ti_bt {T : TS} (h : tI T) : ∀ i, i < g_nb T → g_bt T i ≤ 361267200 := h.2.2.2.2.2.2.1
theorem ti_ev {T : TS} (h : tI T) : g_ev T ≤ 150 := h.2.2.2.2.2.2.2.1
theorem ti_vo {T : TS} (h : tI T) : ∀ e, e < g_ev T → g_vo T e < 3 * g_np T := h.2.2.2.2.2.2.2.2.1
theorem ti_kd {T : TS} (h : tI T) : ∀ e, e < g_ev T → g_kd T e ≤ 4 := h.2.2.2.2.2.2.2.2.2.1
theorem ti_pn {T : TS} (h : tI T) : ∀ e, g_pn T e ≤ 6 := h.2.2.2.2.2.2.2.2.2.2.1
theorem ti_pn1 {T : TS} (h : tI T) : ∀ e, e < g_ev T → g_kd T e < 3 → 1 ≤ g_pn T e := h.2.2.2.2.2.2.2.2.2.2.2.1
theorem ti_pn0 {T : TS} (h : tI T) : ∀ e, e < g_ev T → 3 ≤ g_kd T e → g_pn T e = 0 := h.2.2.2.2.2.2.2.2.2.2.2.2.1
theorem ti_pnc {T : TS} (h : tI T) : ∀ e, e < g_ev T → g_kd T e ≠ 1 → g_pn T e ≤ 1 := h.2.2.2.2.2.2.2.2.2.2.2.2.2.1
theorem ti_pi {T : TS} (h : tI T) : ∀ e j, e < g_ev T → j < g_pn T e → g_pi T e j = nI (g_pv T e j) ∧ g_pv T e j ≤ 127 := h.2.2.2.2.2.2.2.2.2.2.2.2.2.2.1
theorem ti_pim {T : TS} (h : tI T) : ∀ e j, e < g_ev T → j + 1 < g_pn T e → g_pv T e j < g_pv T e (j + 1) := h.2.2.2.2.2.2.2.2.2.2.2.2.2.2.2.1
theorem ti_va {T : TS} (h : tI T) : ∀ e, e < g_ev T → g_va T e ≤ 5 := h.2.2.2.2.2.2.2.2.2.2.2.2.2.2.2.2.1
theorem ti_dt {T : TS} (h : tI T) : ∀ e, e < g_ev T → g_dt T e ≤ 2 := h.2.2.2.2.2.2.2.2.2.2.2.2.2.2.2.2.2.1
theorem ti_mn {T : TS} (h : tI T) : ∀ v, g_mn T v ≤ 40 := h.2.2.2.2.2.2.2.2.2.2.2.2.2.2.2.2.2.2.1
theorem ti_mn0 {T : TS} (h : tI T) : ∀ v, 3 * g_np T ≤ v → g_mn T v = 0 := h.2.2.2.2.2.2.2.2.2.2.2.2.2.2.2.2.2.2.2.1
theorem ti_ro {T : TS} (h : tI T) : ∀ v p, v < 18 → p < g_mn T v → g_ro T v p < g_ev T ∧ g_th T (g_ro T v p) = true ∧ g_vo T (g_ro T v p) = v ∧ g_pl T (g_ro T v p) = p := h.2.2.2.2.2.2.2.2.2.2.2.2.2.2.2.2.2.2.2.2.1
theorem ti_pl {T : TS} (h : tI T) : ∀ e, e < g_ev T → g_th T e = true → g_pl T e < g_mn T (g_vo T e) ∧ g_ro T (g_vo T e) (g_pl T e) = e := h.2.2.2.2.2.2.2.2.2.2.2.2.2.2.2.2.2.2.2.2.2.1
theorem ti_te {T : TS} (h : tI T) : g_te T ≤ 20 := h.2.2.2.2.2.2.2.2.2.2.2.2.2.2.2.2.2.2.2.2.2.2.1
theorem ti_tn {T : TS} (h : tI T) : ∀ t, t < g_te T → g_tn T t = 3 ∨ g_tn T t = 5 ∨ g_tn T t = 6 ∨ g_tn T t = 7 := h.2.2.2.2.2.2.2.2.2.2.2.2.2.2.2.2.2.2.2.2.2.2.2.1
theorem ti_tm {T : TS} (h : tI T) : ∀ t, t < g_te T → 1 ≤ g_tm T t ∧ g_tm T t ≤ 8 := h.2.2.2.2.2.2.2.2.2.2.2.2.2.2.2.2.2.2.2.2.2.2.2.2.1
theorem ti_tu {T : TS} (h : tI T) : ∀ t, t < g_te T → g_tu T t ≤ 5 := h.2.2.2.2.2.2.2.2.2.2.2.2.2.2.2.2.2.2.2.2.2.2.2.2.2.1
theorem ti_tp {T : TS} (h : tI T) : ∀ t, t < g_te T → g_tt T t = true → g_tf T t < g_ev T ∧ g_tl T t < g_ev T ∧ g_th T (g_tf T t) = true ∧ g_th T (g_tl T t) = true ∧ g_vo T (g_tf T t) = g_tv T t ∧ g_vo T (g_tl T t) = g_tv T t ∧ g_pl T (g_tf T t) ≤ g_pl T (g_tl T t) := h.2.2.2.2.2.2.2.2.2.2.2.2.2.2.2.2.2.2.2.2.2.2.2.2.2.2.1
theorem ti_tnest {T : TS} (h : tI T) : ∀ t u, t < g_te T → u < g_te T → g_tt T t = true → g_tt T u = true → g_tv T t = g_tv T u → (g_pl T (g_tl T t) < g_pl T (g_tf T u) ∨ g_pl T (g_tl T u) < g_pl T (g_tf T t)) ∨ (g_pl T (g_tf T u) ≤ g_pl T (g_tf T t) ∧ g_pl T (g_tl T t) ≤ g_pl T (g_tl T u)) ∨ (g_pl T (g_tf T t) ≤ g_pl T (g_tf T u) ∧ g_pl T (g_tl T u) ≤ g_pl T (g_tl T t)) := h.2.2.2.2.2.2.2.2.2.2.2.2.2.2.2.2.2.2.2.2.2.2.2.2.2.2.2.1
theorem ti_tover {T : TS} (h : tI T) : ∀ v p, zcnt (fun t => g_tt T t && decide (g_tv T t = v ∧ g_pl T (g_tf T t) ≤ p ∧ p ≤ g_pl T (g_tl T t))) (g_te T) ≤ 2 := h.2.2.2.2.2.2.2.2.2.2.2.2.2.2.2.2.2.2.2.2.2.2.2.2.2.2.2.2.1
theorem ti_le {T : TS} (h : tI T) : g_le T ≤ 30 := h.2.2.2.2.2.2.2.2.2.2.2.2.2.2.2.2.2.2.2.2.2.2.2.2.2.2.2.2.2.1
theorem ti_lk {T : TS} (h : tI T) : ∀ l, l < g_le T → g_lk T l ≤ 3 := h.2.2.2.2.2.2.2.2.2.2.2.2.2.2.2.2.2.2.2.2.2.2.2.2.2.2.2.2.2.2.1
theorem ti_lf {T : TS} (h : tI T) : ∀ l, l < g_le T → g_lt T l = true → g_lf T l < g_ev T ∧ g_th T (g_lf T l) = true := h.2.2.2.2.2.2.2.2.2.2.2.2.2.2.2.2.2.2.2.2.2.2.2.2.2.2.2.2.2.2.2.1
theorem ti_lo {T : TS} (h : tI T) : ∀ l e, l < g_le T → g_lt T l = true → g_lo T l = some e → e < g_ev T ∧ g_th T e = true := h.2.2.2.2.2.2.2.2.2.2.2.2.2.2.2.2.2.2.2.2.2.2.2.2.2.2.2.2.2.2.2.2.1
theorem ti_wm {T : TS} (h : tI T) : g_wm T ≤ 150 := h.2.2.2.2.2.2.2.2.2.2.2.2.2.2.2.2.2.2.2.2.2.2.2.2.2.2.2.2.2.2.2.2.2.1
theorem ti_fo {T : TS} (h : tI T) : g_fo T ≤ 5000 := h.2.2.2.2.2.2.2.2.2.2.2.2.2.2.2.2.2.2.2.2.2.2.2.2.2.2.2.2.2.2.2.2.2.2.1
theorem ti_rk {T : TS} (h : tI T) : ∀ i, i < 4 → g_rk T i ≤ 5 ∧ g_rs T i ≤ 20 := h.2.2.2.2.2.2.2.2.2.2.2.2.2.2.2.2.2.2.2.2.2.2.2.2.2.2.2.2.2.2.2.2.2.2.2.1
theorem ti_rr {T : TS} (h : tI T) : ∀ i j e, i < 4 → g_hr T i = true → j < g_rs T i → g_rr T i j = some e → e < g_ev T ∧ g_th T e = true := h.2.2.2.2.2.2.2.2.2.2.2.2.2.2.2.2.2.2.2.2.2.2.2.2.2.2.2.2.2.2.2.2.2.2.2.2.1
theorem ti_sk {T : TS} (h : tI T) : ∀ i, i < 4 → g_sk T i ≤ 3 ∧ g_ss T i ≤ 60 := h.2.2.2.2.2.2.2.2.2.2.2.2.2.2.2.2.2.2.2.2.2.2.2.2.2.2.2.2.2.2.2.2.2.2.2.2.2.1
theorem ti_tied {T : TS} (h : tI T) : ∀ e, e < g_ev T → g_ti T e = true → g_kd T e < 3 := h.2.2.2.2.2.2.2.2.2.2.2.2.2.2.2.2.2.2.2.2.2.2.2.2.2.2.2.2.2.2.2.2.2.2.2.2.2.2.1
theorem ti_sm {T : TS} (h : tI T) : smF (g_mn T) 18 = g_ct T := h.2.2.2.2.2.2.2.2.2.2.2.2.2.2.2.2.2.2.2.2.2.2.2.2.2.2.2.2.2.2.2.2.2.2.2.2.2.2.2.1
theorem ti_rrb {T : TS} (h : tI T) : ∀ i j e, i < 4 → j < 20 → g_rr T i j = some e → e < 150 := h.2.2.2.2.2.2.2.2.2.2.2.2.2.2.2.2.2.2.2.2.2.2.2.2.2.2.2.2.2.2.2.2.2.2.2.2.2.2.2.2
theorem rR_s0 {x : Nat} {σ : ZS} {T : TS} (h : rR x σ T) (hs : g_su T = 0) : rR x σ (h_su T 0) := ⟨(rf_sh h :), (rf_parts h :), (rf_partKind h :), (rf_bars h :), (rf_barTime h :), (rf_ever h :), (rf_there h :), (rf_isThere h :), (rf_voiceOf h :), (rf_kindOf h :), (rf_pitches h :), (rf_pitchOf h :), (rf_valueOf h :), (rf_dotsOf h :), (rf_isTied h :), (rf_many h :), (rf_row h :), (rf_tupletsEver h :), (rf_tupletsThere h :), (rf_isTuplet h :), (rf_tupletVoice h :), (rf_tupletFirst h :), (rf_tupletLast h :), (rf_tupletN h :), (rf_tupletM h :), (rf_tupletUnit h :), (rf_linesEver h :), (rf_linesThere h :), (rf_isLine h :), (rf_lineKind h :), (rf_lineFrom h :), (rf_lineTo h :), (rf_walkMany h :), (rf_walkRow h :), (rf_found h :), (rf_findings h :), (rf_hasRack h :), (rf_rackKind h :), (rf_rackSize h :), (rf_rackRow h :), (rf_hasShelf h :), (rf_shelfKind h :), (rf_shelfSize h :), (rf_shelfRow h :), (rf_failed h :), (rf_status h).trans hs, (rf_trace h :)⟩
theorem tI_su {T : TS} (h : tI T) (v : Int32) : tI (h_su T v) := h
def evB (T : TS) (e : Int32) : Bool := inB e (g_ev T) && g_th T e.toNatClampNeg
theorem evB_t {T : TS} {e : Int32} (hI : tI T) (h : evB T e = true) : ∃ j : Nat, j < g_ev T ∧ g_th T j = true ∧ e = nI j := by
  unfold evB at h
  rw [Bool.and_eq_true] at h
  obtain ⟨j, h1, h2, rfl⟩ := inB_t h.1
  exact ⟨j, h1, by rw [← nI_clamp h2]; exact h.2, rfl⟩
theorem evB_nI {T : TS} {j : Nat} (hI : tI T) (h1 : j < g_ev T) (h2 : g_th T j = true) : evB T (nI j) = true := by
  have := ti_ev hI
  unfold evB
  rw [inB_nI (by omega), nI_clamp (by omega), decide_eq_true h1, h2]
  rfl
set_option maxHeartbeats 4000000 in
set_option maxRecDepth 100000 in
theorem c_isVoice {x : Nat} {σ : ZS} {T : TS} (hR : rR x σ T) (hI : tI T) (v : Int32) : ZC M_X12_isVoice [Ar (some x), Ai v] σ (fun r τ => r = some (Ai (bI (inB v (3 * g_np T)))) ∧ τ = σ) := by
  have hnp := ti_np hI
  refine ZC_of (ls := [some (Ar (some x)), some (Ai v)]) (by decide) (Nat.le_of_ble_eq_true rfl) rfl ?_
  refine ZV_iload_n (n := 1) dX12_isVoice_0 rfl rfl rfl ?_
  refine ZV_i2l (n := 2) dX12_isVoice_1 rfl ?_
  refine ZV_lconst (v := lN 0) (n := 3) dX12_isVoice_2 rfl rfl ?_
  refine ZV_iconst (v := nI 3) (n := 4) dX12_isVoice_3 rfl rfl ?_
  refine ZV_aload_n (n := 5) dX12_isVoice_4 rfl rfl rfl ?_
  refine ZV_getIv (n := 8) dX12_isVoice_5 fl_X12_134 rfl rfl rfl (rf_sh hR :).1 (rf_parts hR :) ?_
  refine ZV_imulN (n := 9) dX12_isVoice_8 rfl ?_
  refine ZV_iconst (v := nI 1) (n := 10) dX12_isVoice_9 rfl rfl ?_
  refine ZV_isub (n := 11) dX12_isVoice_10 rfl ?_
  refine ZV_i2l (n := 12) dX12_isVoice_11 rfl ?_
  refine call_X12_137 (c_inS _ v (by omega)) rfl dX12_isVoice_12 (Nat.le_of_ble_eq_true rfl) (Nat.le_of_ble_eq_true rfl) rfl (fun r9 σ9 hp9 => ?_)
  obtain ⟨rfl, rfl⟩ := hp9
  refine ZV_zret dX12_isVoice_15 rfl (bI_01 _) ?_
  exact ⟨rfl, rfl⟩
set_option maxHeartbeats 4000000 in
set_option maxRecDepth 100000 in
theorem c_isEvent {x : Nat} {σ : ZS} {T : TS} (hR : rR x σ T) (hI : tI T) (e : Int32) : ZC M_X12_isEvent [Ar (some x), Ai e] σ (fun r τ => r = some (Ai (bI (evB T e))) ∧ τ = σ) := by
  have hev := ti_ev hI
  refine ZC_of (ls := [some (Ar (some x)), some (Ai e)]) (by decide) (Nat.le_of_ble_eq_true rfl) rfl ?_
  refine ZV_iload_n (n := 1) dX12_isEvent_0 rfl rfl rfl ?_
  refine ZV_i2l (n := 2) dX12_isEvent_1 rfl ?_
  refine ZV_lconst (v := lN 0) (n := 3) dX12_isEvent_2 rfl rfl ?_
  refine ZV_aload_n (n := 4) dX12_isEvent_3 rfl rfl rfl ?_
  refine ZV_getIv (n := 7) dX12_isEvent_4 fl_X12_141 rfl rfl rfl (rf_sh hR :).1 (rf_ever hR :) ?_
  refine ZV_iconst (v := nI 1) (n := 8) dX12_isEvent_7 rfl rfl ?_
  refine ZV_isub (n := 9) dX12_isEvent_8 rfl ?_
  refine ZV_i2l (n := 10) dX12_isEvent_9 rfl ?_
  refine call_X12_137 (c_inS _ e (by omega)) rfl dX12_isEvent_10 (Nat.le_of_ble_eq_true rfl) (Nat.le_of_ble_eq_true rfl) rfl (fun r9 σ9 hp9 => ?_)
  obtain ⟨rfl, rfl⟩ := hp9
  refine ZV_if_eqB (tgt := 29) (n := 16) dX12_isEvent_13 (by decide) rfl (fun h13 => ?_) (fun h13 => ?_)
  · skip
    refine ZV_iconst (v := nI 0) (n := 30) dX12_isEvent_29 rfl rfl ?_
    refine ZV_zret dX12_isEvent_30 rfl (by first | exact Or.inl rfl | exact Or.inr rfl) ?_
    refine ⟨?_, rfl⟩
    unfold evB
    first | (rw [h13]; rfl) | (rw [h13, nI_clamp hj2, h22]; rfl)
  · skip
    refine ZV_aload_n (n := 17) dX12_isEvent_16 rfl rfl rfl ?_
    refine ZV_getR (n := 20) dX12_isEvent_17 fl_X12_17 rfl rfl rfl (rf_sh hR :).1 ?_
    refine ZV_iload_n (n := 21) dX12_isEvent_20 rfl rfl rfl ?_
    obtain ⟨j, hj, hj2, rfl⟩ := inB_t h13
    refine ZV_baldv (n := 22) dX12_isEvent_21 rfl (ra_isThere (rf_sh hR :) :) (rk_isThere (rf_sh hR :) :) rfl (by omega) (rf_isThere hR _ (by omega)) ?_
    refine ZV_if_eqB (tgt := 29) (n := 25) dX12_isEvent_22 (by decide) rfl (fun h22 => ?_) (fun h22 => ?_)
    · skip
      refine ZV_iconst (v := nI 0) (n := 30) dX12_isEvent_29 rfl rfl ?_
      refine ZV_zret dX12_isEvent_30 rfl (by first | exact Or.inl rfl | exact Or.inr rfl) ?_
      refine ⟨?_, rfl⟩
      unfold evB
      first | (rw [h13]; rfl) | (rw [h13, nI_clamp hj2, h22]; rfl)
    · skip
      refine ZV_iconst (v := nI 1) (n := 26) dX12_isEvent_25 rfl rfl ?_
      refine ZV_goto (tgt := 30) dX12_isEvent_26 (by decide) ?_
      refine ZV_zret dX12_isEvent_30 rfl (by first | exact Or.inl rfl | exact Or.inr rfl) ?_
      refine ⟨?_, rfl⟩
      unfold evB
      first | (rw [h13]; rfl) | (rw [h13, nI_clamp hj2, h22]; rfl)
def noB (T : TS) (e : Nat) : Bool := decide (g_kd T e < 3)
set_option maxHeartbeats 4000000 in
set_option maxRecDepth 100000 in
theorem c_isNote {x : Nat} {σ : ZS} {T : TS} (hR : rR x σ T) (hI : tI T) (e : Nat) (he : e < g_ev T) : ZC M_X12_isNote [Ar (some x), Ai (nI e)] σ (fun r τ => r = some (Ai (bI (noB T e))) ∧ τ = σ) := by
  have hev := ti_ev hI
  have hkd := ti_kd hI e he
  refine ZC_of (ls := [some (Ar (some x)), some (Ai (nI e))]) (by decide) (Nat.le_of_ble_eq_true rfl) rfl ?_
  refine ZV_aload_n (n := 1) dX12_isNote_0 rfl rfl rfl ?_
  refine ZV_getR (n := 4) dX12_isNote_1 fl_X12_24 rfl rfl rfl (rf_sh hR :).1 ?_
  refine ZV_iload_n (n := 5) dX12_isNote_4 rfl rfl rfl ?_
  refine ZV_ialdv (n := 6) dX12_isNote_5 rfl (ra_kindOf (rf_sh hR :) :) (rk_kindOf (rf_sh hR :) :) rfl (by omega) (rf_kindOf hR _ (by omega)) ?_
  refine ZV_iconst (v := nI 3) (n := 7) dX12_isNote_6 rfl rfl ?_
  refine ZV_icmp_geN (tgt := 14) (n := 10) dX12_isNote_7 (by decide) rfl (by omega) (by omega) (fun h7 => ?_) (fun h7 => ?_)
  · skip
    refine ZV_iconst (v := nI 0) (n := 15) dX12_isNote_14 rfl rfl ?_
    refine ZV_zret dX12_isNote_15 rfl (by first | exact Or.inl rfl | exact Or.inr rfl) ?_
    refine ⟨?_, rfl⟩
    unfold noB
    first | (rw [decide_eq_true (by omega)]; rfl) | (rw [decide_eq_false (by omega)]; rfl)
  · skip
    refine ZV_iconst (v := nI 1) (n := 11) dX12_isNote_10 rfl rfl ?_
    refine ZV_goto (tgt := 15) dX12_isNote_11 (by decide) ?_
    refine ZV_zret dX12_isNote_15 rfl (by first | exact Or.inl rfl | exact Or.inr rfl) ?_
    refine ⟨?_, rfl⟩
    unfold noB
    first | (rw [decide_eq_true (by omega)]; rfl) | (rw [decide_eq_false (by omega)]; rfl)
set_option maxHeartbeats 4000000 in
set_option maxRecDepth 100000 in
theorem c_placeOf {x : Nat} {σ : ZS} {T : TS} (hR : rR x σ T) (hI : tI T) (e : Nat) (he : e < g_ev T) (ht : g_th T e = true) : ZC M_X12_placeOf [Ar (some x), Ai (nI e)] σ (fun r τ => r = some (Ai (nI (g_pl T e))) ∧ τ = σ) := by
  have hev := ti_ev hI
  have hnp := ti_np hI
  have hvo := ti_vo hI e he
  have hpl := ti_pl hI e he ht
  have hmn := ti_mn hI (g_vo T e)
  refine ZC_of (ls := [some (Ar (some x)), some (Ai (nI e)), none, none]) (by decide) (Nat.le_of_ble_eq_true rfl) rfl ?_
  have loop : ∀ (n9 : Nat) (p : Nat), g_pl T e - p < n9 → p ≤ g_pl T e → ZV M_X12_placeOf (fun r τ => r = some (Ai (nI (g_pl T e))) ∧ τ = σ) 9 [some (Ar (some x)), some (Ai (nI e)), some (Ai (nI (g_vo T e))), some (Ai (nI p))] [] σ (zmC M_X12_placeOf) (zmS M_X12_placeOf) := by
    intro n9
    induction n9 with
    | zero => intro p hm; exact absurd hm (Nat.not_lt_zero _)
    | succ n9 ih =>
      intro p hm hp
      refine ZV_aload_n (n := 10) dX12_placeOf_9 rfl rfl rfl ?_
      refine ZV_getR (n := 13) dX12_placeOf_10 fl_X12_42 rfl rfl rfl (rf_sh hR :).1 ?_
      refine ZV_bipush (v := nI 40) (n := 15) dX12_placeOf_13 rfl rfl ?_
      refine ZV_iload_n (n := 16) dX12_placeOf_15 rfl rfl rfl ?_
      refine ZV_imulN (n := 17) dX12_placeOf_16 rfl ?_
      refine ZV_iload_n (n := 18) dX12_placeOf_17 rfl rfl rfl ?_
      refine ZV_iaddN (n := 19) dX12_placeOf_18 rfl ?_
      refine ZV_ialdv (n := 20) dX12_placeOf_19 rfl (ra_row (rf_sh hR :) :) (rk_row (rf_sh hR :) :) rfl (by omega) (rf_row hR _ _ (by omega) (by omega)) ?_
      refine ZV_iload_n (n := 21) dX12_placeOf_20 rfl rfl rfl ?_
      have hro := ti_ro hI (g_vo T e) p (by omega) (by omega)
      refine ZV_icmp_eqN (tgt := 30) (n := 24) dX12_placeOf_21 (by decide) rfl (by omega) (by omega) (fun h21 => ?_) (fun h21 => ?_)
      · skip
        have hq : p = g_pl T e := by rw [← hro.2.2.2, h21]
        refine ZV_iload_n (n := 31) dX12_placeOf_30 rfl rfl rfl ?_
        refine ZV_iret dX12_placeOf_31 rfl ?_
        exact ⟨by rw [hq], rfl⟩
      · skip
        have hq : p ≠ g_pl T e := fun z => h21 (by rw [z]; exact hpl.2)
        refine ZV_iincN_3 (v := 1) (n := 27) dX12_placeOf_24 rfl rfl (Nat.le_of_ble_eq_true rfl) rfl ?_
        refine ZV_goto (tgt := 9) dX12_placeOf_27 (by decide) ?_
        exact ih (p + 1) (by omega) (by omega)
  refine ZV_aload_n (n := 1) dX12_placeOf_0 rfl rfl rfl ?_
  refine ZV_getR (n := 4) dX12_placeOf_1 fl_X12_21 rfl rfl rfl (rf_sh hR :).1 ?_
  refine ZV_iload_n (n := 5) dX12_placeOf_4 rfl rfl rfl ?_
  refine ZV_ialdv (n := 6) dX12_placeOf_5 rfl (ra_voiceOf (rf_sh hR :) :) (rk_voiceOf (rf_sh hR :) :) rfl (by omega) (rf_voiceOf hR _ (by omega)) ?_
  refine ZV_istore_2 (n := 7) dX12_placeOf_6 rfl (Nat.le_of_ble_eq_true rfl) rfl ?_
  refine ZV_iconst (v := nI 0) (n := 8) dX12_placeOf_7 rfl rfl ?_
  refine ZV_istore_3 (n := 9) dX12_placeOf_8 rfl (Nat.le_of_ble_eq_true rfl) rfl ?_
  exact loop _ 0 (Nat.lt_succ_self _) (Nat.zero_le _)
