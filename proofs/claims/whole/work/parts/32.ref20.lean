theorem up_comm {α : Type} (f : Nat → α) {i j : Nat} (h : i ≠ j) (a b : α) : va_up (va_up f i a) j b = va_up (va_up f j b) i a := by
  funext k
  unfold va_up
  by_cases h1 : k = j
  · rw [if_pos h1, if_neg (by omega), if_pos h1]
  · rw [if_neg h1, if_neg h1]
theorem hc_tf_tl (T : TS) (b c : Nat → Nat) : h_tf (h_tl T c) b = h_tl (h_tf T b) c := by
  unfold h_tf h_tl
  simp only
  rw [up_comm _ (by decide)]
theorem zcnt_sub {a b : Nat → Bool} (h : ∀ i, a i = true → b i = true) : ∀ n, zcnt a n ≤ zcnt b n
  | 0 => Nat.le_refl _
  | n + 1 => by
    have := zcnt_sub h n
    rw [zcnt, zcnt]
    cases ha : a n with
    | false => simp only [Bool.false_eq_true, ite_false]; omega
    | true =>
      rw [h n ha]
      simp only [ite_true]
      omega
theorem zcnt_mono (b : Nat → Bool) (n : Nat) : ∀ d, zcnt b n ≤ zcnt b (n + d)
  | 0 => Nat.le_refl _
  | d + 1 => by
    have := zcnt_mono b n d
    rw [← Nat.add_assoc, zcnt]
    omega
theorem zcnt_lt {b : Nat → Bool} {i n : Nat} (hi : b i = true) (h : i < n) : zcnt b i + 1 ≤ zcnt b n := by
  have h1 := zcnt_mono b (i + 1) (n - (i + 1))
  rw [show i + 1 + (n - (i + 1)) = n by omega, zcnt, hi] at h1
  simpa using h1
theorem oI_eq {o : Option Nat} {e : Nat} (h : ∀ f, o = some f → f < 2147483648) (he : e < 2147483648) : oI o = nI e ↔ o = some e := by
  cases o with
  | none =>
    constructor
    · intro z
      exact absurd z.symm (nI_ne_m1 he)
    · intro z
      cases z
  | some f =>
    show nI f = nI e ↔ _
    rw [nI_eq (h f rfl) he]
    simp
def dtr (T : TS) (e : Nat) (t : Nat) : Bool := g_tt T t && decide (g_tf T t = e ∧ g_tl T t = e)
def dtt (T : TS) (e n : Nat) : Nat → Bool := fun t => if t < n ∧ g_tf T t = e ∧ g_tl T t = e then false else g_tt T t
def dtf (T : TS) (e n : Nat) : Nat → Nat := fun t => if t < n ∧ g_tt T t = true ∧ g_tf T t = e ∧ g_tl T t ≠ e then g_ro T (g_vo T e) (g_pl T e + 1) else g_tf T t
def dtl (T : TS) (e n : Nat) : Nat → Nat := fun t => if t < n ∧ g_tt T t = true ∧ g_tf T t ≠ e ∧ g_tl T t = e then g_ro T (g_vo T e) (g_pl T e - 1) else g_tl T t
def bT (T : TS) (a : Nat → Bool) (b c : Nat → Nat) (d : Nat) : TS := h_cu (h_tl (h_tf (h_tt T a) b) c) d
theorem bT_tt (T : TS) (a a2 : Nat → Bool) (b c : Nat → Nat) (d : Nat) : h_tt (bT T a b c d) a2 = bT T a2 b c d := by
  show h_cu (h_tl (h_tf (h_tt (h_tt T a) a2) b) c) d = _
  rw [hh_tt]
  rfl
theorem bT_tf (T : TS) (a : Nat → Bool) (b b2 c : Nat → Nat) (d : Nat) : h_tf (bT T a b c d) b2 = bT T a b2 c d := by
  show h_cu (h_tf (h_tl (h_tf (h_tt T a) b) c) b2) d = _
  rw [hc_tf_tl, hh_tf]
  rfl
theorem bT_tl (T : TS) (a : Nat → Bool) (b c c2 : Nat → Nat) (d : Nat) : h_tl (bT T a b c d) c2 = bT T a b c2 d := by
  show h_cu (h_tl (h_tl (h_tf (h_tt T a) b) c) c2) d = _
  rw [hh_tl]
  rfl
theorem bT_cu (T : TS) (a : Nat → Bool) (b c : Nat → Nat) (d d2 : Nat) : h_cu (bT T a b c d) d2 = bT T a b c d2 := by
  unfold bT
  rw [hh_cu]
def dT1 (T : TS) (e n : Nat) : TS := bT T (dtt T e n) (dtf T e n) (dtl T e n) (g_cu T - zcnt (dtr T e) n)
theorem dT1_0 (T : TS) (e : Nat) : dT1 T e 0 = T := by
  have h1 : dtt T e 0 = g_tt T := by funext t; unfold dtt; rw [if_neg (by omega)]
  have h2 : dtf T e 0 = g_tf T := by funext t; unfold dtf; rw [if_neg (by omega)]
  have h3 : dtl T e 0 = g_tl T := by funext t; unfold dtl; rw [if_neg (by omega)]
  unfold dT1 bT
  rw [h1, h2, h3, zcnt, Nat.sub_zero]
  unfold h_cu h_tl h_tf h_tt g_cu g_tl g_tf g_tt
  simp only [up_self]
theorem up_if {α : Type} {f g : Nat → α} {n : Nat} {v : α} (h1 : g n = v) (h2 : ∀ t, t ≠ n → g t = f t) : va_up f n v = g := by
  funext t
  unfold va_up
  by_cases h : t = n
  · rw [if_pos h, h, h1]
  · rw [if_neg h, h2 t h]
theorem dtt_n (T : TS) (e n : Nat) : dtt T e n n = g_tt T n := by unfold dtt; rw [if_neg (by omega)]
theorem dtf_n (T : TS) (e n : Nat) : dtf T e n n = g_tf T n := by unfold dtf; rw [if_neg (by omega)]
theorem dtl_n (T : TS) (e n : Nat) : dtl T e n n = g_tl T n := by unfold dtl; rw [if_neg (by omega)]
theorem dtt_ne (T : TS) (e n : Nat) : ∀ t, t ≠ n → dtt T e (n + 1) t = dtt T e n t := by
  intro t h
  unfold dtt
  simp only [show t < n + 1 ↔ t < n by omega]
theorem dtf_ne (T : TS) (e n : Nat) : ∀ t, t ≠ n → dtf T e (n + 1) t = dtf T e n t := by
  intro t h
  unfold dtf
  simp only [show t < n + 1 ↔ t < n by omega]
theorem dtl_ne (T : TS) (e n : Nat) : ∀ t, t ≠ n → dtl T e (n + 1) t = dtl T e n t := by
  intro t h
  unfold dtl
  simp only [show t < n + 1 ↔ t < n by omega]
theorem fn_ext {α : Type} {f g : Nat → α} {n : Nat} (h1 : g n = f n) (h2 : ∀ t, t ≠ n → g t = f t) : f = g := by
  funext t
  by_cases h : t = n
  · rw [h, h1]
  · rw [h2 t h]
/-- a tuplet that goes -/
theorem dT1_go {T : TS} {e n : Nat} (ht : g_tt T n = true) (hf : g_tf T n = e) (hl : g_tl T n = e) : bT T (va_up (dtt T e n) n false) (dtf T e n) (dtl T e n) (g_cu T - zcnt (dtr T e) n - 1) = dT1 T e (n + 1) := by
  have h1 : va_up (dtt T e n) n false = dtt T e (n + 1) := up_if (by unfold dtt; rw [if_pos ⟨Nat.lt_succ_self _, hf, hl⟩]) (dtt_ne T e n)
  have h2 : dtf T e n = dtf T e (n + 1) := fn_ext (by rw [dtf_n]; unfold dtf; rw [if_neg (fun z => z.2.2.2 hl)]) (dtf_ne T e n)
  have h3 : dtl T e n = dtl T e (n + 1) := fn_ext (by rw [dtl_n]; unfold dtl; rw [if_neg (fun z => z.2.2.1 hf)]) (dtl_ne T e n)
  have h4 : dtr T e n = true := by unfold dtr; rw [ht, decide_eq_true ⟨hf, hl⟩]; rfl
  unfold dT1
  rw [h1, h2, h3, zcnt, h4]
  congr 1
theorem dT1_first {T : TS} {e n : Nat} (ht : g_tt T n = true) (hf : g_tf T n = e) (hl : g_tl T n ≠ e) : bT T (dtt T e n) (va_up (dtf T e n) n (g_ro T (g_vo T e) (g_pl T e + 1))) (dtl T e n) (g_cu T - zcnt (dtr T e) n) = dT1 T e (n + 1) := by
  have h1 : dtt T e n = dtt T e (n + 1) := fn_ext (by rw [dtt_n]; unfold dtt; rw [if_neg (fun z => hl z.2.2)]) (dtt_ne T e n)
  have h2 : va_up (dtf T e n) n (g_ro T (g_vo T e) (g_pl T e + 1)) = dtf T e (n + 1) := up_if (by unfold dtf; rw [if_pos ⟨Nat.lt_succ_self _, ht, hf, hl⟩]) (dtf_ne T e n)
  have h3 : dtl T e n = dtl T e (n + 1) := fn_ext (by rw [dtl_n]; unfold dtl; rw [if_neg (fun z => z.2.2.1 hf)]) (dtl_ne T e n)
  have h4 : dtr T e n = false := by unfold dtr; rw [decide_eq_false (fun z => hl z.2)]; exact Bool.and_false _
  unfold dT1
  rw [h1, h2, h3, zcnt, h4]
  rfl
theorem dT1_last {T : TS} {e n : Nat} (ht : g_tt T n = true) (hf : g_tf T n ≠ e) (hl : g_tl T n = e) : bT T (dtt T e n) (dtf T e n) (va_up (dtl T e n) n (g_ro T (g_vo T e) (g_pl T e - 1))) (g_cu T - zcnt (dtr T e) n) = dT1 T e (n + 1) := by
  have h1 : dtt T e n = dtt T e (n + 1) := fn_ext (by rw [dtt_n]; unfold dtt; rw [if_neg (fun z => hf z.2.1)]) (dtt_ne T e n)
  have h2 : dtf T e n = dtf T e (n + 1) := fn_ext (by rw [dtf_n]; unfold dtf; rw [if_neg (fun z => hf z.2.2.1)]) (dtf_ne T e n)
  have h3 : va_up (dtl T e n) n (g_ro T (g_vo T e) (g_pl T e - 1)) = dtl T e (n + 1) := up_if (by unfold dtl; rw [if_pos ⟨Nat.lt_succ_self _, ht, hf, hl⟩]) (dtl_ne T e n)
  have h4 : dtr T e n = false := by unfold dtr; rw [decide_eq_false (fun z => hf z.1)]; exact Bool.and_false _
  unfold dT1
  rw [h1, h2, h3, zcnt, h4]
  rfl
theorem dT1_no {T : TS} {e n : Nat} (h : g_tt T n = false ∨ (g_tf T n ≠ e ∧ g_tl T n ≠ e)) : dT1 T e n = dT1 T e (n + 1) := by
  have h1 : dtt T e n = dtt T e (n + 1) := fn_ext (by
    rw [dtt_n]
    unfold dtt
    split
    · next z =>
      rcases h with h | h
      · rw [h]
      · exact absurd z.2.1 h.1
    · rfl) (dtt_ne T e n)
  have h2 : dtf T e n = dtf T e (n + 1) := fn_ext (by rw [dtf_n]; unfold dtf; rw [if_neg (fun z => by rcases h with h | h; (rw [h] at z; exact absurd z.2.1 (by decide)); exact h.1 z.2.2.1)]) (dtf_ne T e n)
  have h3 : dtl T e n = dtl T e (n + 1) := fn_ext (by rw [dtl_n]; unfold dtl; rw [if_neg (fun z => by rcases h with h | h; (rw [h] at z; exact absurd z.2.1 (by decide)); exact h.2 z.2.2.2)]) (dtl_ne T e n)
  have h4 : dtr T e n = false := by
    unfold dtr
    rcases h with h | h
    · rw [h]; rfl
    · rw [decide_eq_false (fun z => h.1 z.1)]; exact Bool.and_false _
  unfold dT1
  rw [h1, h2, h3, zcnt, h4]
  rfl
def dlr (T : TS) (e : Nat) (l : Nat) : Bool := g_lt T l && decide (g_lf T l = e)
def dlt (T : TS) (e n : Nat) : Nat → Bool := fun l => if l < n ∧ g_lf T l = e then false else g_lt T l
def dlo (T : TS) (e n : Nat) : Nat → Option Nat := fun l => if l < n ∧ g_lt T l = true ∧ g_lf T l ≠ e ∧ g_lo T l = some e then none else g_lo T l
def lT (T : TS) (a : Nat → Bool) (b : Nat → Option Nat) (c : Nat) : TS := h_cl (h_lo (h_lt T a) b) c
theorem lT_lt (T : TS) (a a2 : Nat → Bool) (b : Nat → Option Nat) (c : Nat) : h_lt (lT T a b c) a2 = lT T a2 b c := by
  show h_cl (h_lo (h_lt (h_lt T a) a2) b) c = _
  rw [hh_lt]
  rfl
theorem lT_lo (T : TS) (a : Nat → Bool) (b b2 : Nat → Option Nat) (c : Nat) : h_lo (lT T a b c) b2 = lT T a b2 c := by
  show h_cl (h_lo (h_lo (h_lt T a) b) b2) c = _
  rw [hh_lo]
  rfl
theorem lT_cl (T : TS) (a : Nat → Bool) (b : Nat → Option Nat) (c c2 : Nat) : h_cl (lT T a b c) c2 = lT T a b c2 := by
  unfold lT
  rw [hh_cl]
def dT2 (T : TS) (e n : Nat) : TS := lT T (dlt T e n) (dlo T e n) (g_cl T - zcnt (dlr T e) n)
theorem dT2_0 (T : TS) (e : Nat) : dT2 T e 0 = T := by
  have h1 : dlt T e 0 = g_lt T := by funext t; unfold dlt; rw [if_neg (by omega)]
  have h2 : dlo T e 0 = g_lo T := by funext t; unfold dlo; rw [if_neg (by omega)]
  unfold dT2 lT
  rw [h1, h2, zcnt, Nat.sub_zero]
  unfold h_cl h_lo h_lt g_cl g_lo g_lt
  simp only [up_self]
theorem dlt_n (T : TS) (e n : Nat) : dlt T e n n = g_lt T n := by unfold dlt; rw [if_neg (by omega)]
theorem dlo_n (T : TS) (e n : Nat) : dlo T e n n = g_lo T n := by unfold dlo; rw [if_neg (by omega)]
theorem dlt_ne (T : TS) (e n : Nat) : ∀ t, t ≠ n → dlt T e (n + 1) t = dlt T e n t := by
  intro t h
  unfold dlt
  simp only [show t < n + 1 ↔ t < n by omega]
theorem dlo_ne (T : TS) (e n : Nat) : ∀ t, t ≠ n → dlo T e (n + 1) t = dlo T e n t := by
  intro t h
  unfold dlo
  simp only [show t < n + 1 ↔ t < n by omega]
theorem dT2_go {T : TS} {e n : Nat} (ht : g_lt T n = true) (hf : g_lf T n = e) : lT T (va_up (dlt T e n) n false) (dlo T e n) (g_cl T - zcnt (dlr T e) n - 1) = dT2 T e (n + 1) := by
  have h1 : va_up (dlt T e n) n false = dlt T e (n + 1) := up_if (by unfold dlt; rw [if_pos ⟨Nat.lt_succ_self _, hf⟩]) (dlt_ne T e n)
  have h2 : dlo T e n = dlo T e (n + 1) := fn_ext (by rw [dlo_n]; unfold dlo; rw [if_neg (fun z => z.2.2.1 hf)]) (dlo_ne T e n)
  have h4 : dlr T e n = true := by unfold dlr; rw [ht, decide_eq_true hf]; rfl
  unfold dT2
  rw [h1, h2, zcnt, h4]
  congr 1
theorem dT2_op {T : TS} {e n : Nat} (ht : g_lt T n = true) (hf : g_lf T n ≠ e) (hl : g_lo T n = some e) : lT T (dlt T e n) (va_up (dlo T e n) n none) (g_cl T - zcnt (dlr T e) n) = dT2 T e (n + 1) := by
  have h1 : dlt T e n = dlt T e (n + 1) := fn_ext (by rw [dlt_n]; unfold dlt; rw [if_neg (fun z => hf z.2)]) (dlt_ne T e n)
  have h2 : va_up (dlo T e n) n none = dlo T e (n + 1) := up_if (by unfold dlo; rw [if_pos ⟨Nat.lt_succ_self _, ht, hf, hl⟩]) (dlo_ne T e n)
  have h4 : dlr T e n = false := by unfold dlr; rw [decide_eq_false hf]; exact Bool.and_false _
  unfold dT2
  rw [h1, h2, zcnt, h4]
  rfl
theorem dT2_no {T : TS} {e n : Nat} (h : g_lt T n = false ∨ (g_lf T n ≠ e ∧ g_lo T n ≠ some e)) : dT2 T e n = dT2 T e (n + 1) := by
  have h1 : dlt T e n = dlt T e (n + 1) := fn_ext (by
    rw [dlt_n]
    unfold dlt
    split
    · next z =>
      rcases h with h | h
      · rw [h]
      · exact absurd z.2 h.1
    · rfl) (dlt_ne T e n)
  have h2 : dlo T e n = dlo T e (n + 1) := fn_ext (by rw [dlo_n]; unfold dlo; rw [if_neg (fun z => by rcases h with h | h; (rw [h] at z; exact absurd z.2.1 (by decide)); exact h.2 z.2.2.2)]) (dlo_ne T e n)
  have h4 : dlr T e n = false := by
    unfold dlr
    rcases h with h | h
    · rw [h]; rfl
    · rw [decide_eq_false h.1]; exact Bool.and_false _
  unfold dT2
  rw [h1, h2, zcnt, h4]
  rfl
def drr (T : TS) (e n : Nat) : Nat → Nat → Option Nat := fun i j => if 20 * i + j < n ∧ g_rr T i j = some e then none else g_rr T i j
def rrE (T : TS) (e : Nat) : Nat → Nat → Option Nat := fun i j => if g_rr T i j = some e then none else g_rr T i j
/-- what lay behind p lies one further ahead, as far as q -/
def upF {α : Type} (f : Nat → α) (p q : Nat) : Nat → α := fun i => if p ≤ i ∧ i < q then f (i + 1) else f i
theorem upF_0 {α : Type} (f : Nat → α) (p : Nat) : upF f p p = f := by
  funext i
  unfold upF
  rw [if_neg (by omega)]
theorem upF_up {α : Type} (f : Nat → α) {p q : Nat} (h : p ≤ q) : va_up (upF f p q) q (f (q + 1)) = upF f p (q + 1) := by
  funext i
  unfold va_up upF
  by_cases h1 : i = q
  · rw [if_pos h1, if_pos (by omega), h1]
  · rw [if_neg h1]
    by_cases h2 : p ≤ i ∧ i < q
    · rw [if_pos h2, if_pos (by omega)]
    · rw [if_neg h2, if_neg (by omega)]
def dropT (T : TS) (e : Nat) : TS := h_pl (h_ct (h_th (h_mn (h_ro (h_rr (dT2 (dT1 T e (g_te T)) e (g_le T)) (rrE T e)) (va_u2 (g_ro T) (g_vo T e) (upF (g_ro T (g_vo T e)) (g_pl T e) (g_mn T (g_vo T e) - 1)))) (va_up (g_mn T) (g_vo T e) (g_mn T (g_vo T e) - 1))) (va_up (g_th T) e false)) (g_ct T - 1)) (fun f => if g_th T f = true ∧ g_vo T f = g_vo T e ∧ g_pl T e < g_pl T f then g_pl T f - 1 else g_pl T f)
def sp_drop (T : TS) (e : Int32) : Int32 × TS := if evB T e = false then sNo T (-2) else sOk (dropT (h_su T 0) e.toNatClampNeg) (nI (g_pl T e.toNatClampNeg))
