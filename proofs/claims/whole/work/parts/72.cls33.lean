/-- where an event begins -/
def bgE (T : TS) (e : Nat) : Nat := bgF T (g_vo T e) (g_pl T e)
/-- the order of the walk -/
def kl (T : TS) (e f : Nat) : Prop := bgE T e < bgE T f ∨ (bgE T e = bgE T f ∧ (g_vo T e < g_vo T f ∨ (g_vo T e = g_vo T f ∧ g_pl T e < g_pl T f)))
theorem bgF_mono (T : TS) (v : Nat) : ∀ d p, bgF T v p ≤ bgF T v (p + d)
  | 0, _ => Nat.le_refl _
  | d + 1, p => by
    have h := bgF_mono T v d p
    rw [← Nat.add_assoc, bgF]
    omega
theorem bgF_mle (T : TS) (v : Nat) {p q : Nat} (h : p ≤ q) : bgF T v p ≤ bgF T v q := by
  have := bgF_mono T v (q - p) p
  rw [show p + (q - p) = q by omega] at this
  exact this
theorem bgE_ro {T : TS} (hI : tI T) {v p : Nat} (hv : v < 18) (hp : p < g_mn T v) : bgE T (g_ro T v p) = bgF T v p := by
  have h := ti_ro hI v p hv hp
  unfold bgE
  rw [h.2.2.1, h.2.2.2]
theorem kl_ro {T : TS} (hI : tI T) {v p q : Nat} (hv : v < 18) (hq : q < g_mn T v) (h : p < q) : kl T (g_ro T v p) (g_ro T v q) := by
  have h1 := ti_ro hI v p hv (by omega)
  have h2 := ti_ro hI v q hv hq
  have h3 := bgF_mle T v (Nat.le_of_lt h)
  unfold kl
  rw [bgE_ro hI hv (show p < g_mn T v by omega), bgE_ro hI hv hq, h1.2.2.1, h2.2.2.1, h1.2.2.2, h2.2.2.2]
  omega
theorem kl_ir {T : TS} {e : Nat} : ¬ kl T e e := by
  unfold kl
  omega
theorem kl_as {T : TS} {e f : Nat} (h : kl T e f) : ¬ kl T f e := by
  unfold kl at *
  omega
/-- what the reference's row holds: the events ahead of voice v's place p, in order -/
def wI (T : TS) (S : WS) (v p : Nat) : Prop :=
  (∀ i, i < S.1 → S.2.1 i < g_ev T ∧ g_th T (S.2.1 i) = true ∧ (g_vo T (S.2.1 i) < v ∨ (g_vo T (S.2.1 i) = v ∧ g_pl T (S.2.1 i) < p)) ∧ S.2.2 i = bgE T (S.2.1 i)) ∧
  (∀ i j, i < j → j < S.1 → kl T (S.2.1 i) (S.2.1 j)) ∧
  (∀ u q, (u < v ∧ q < g_mn T u) ∨ (u = v ∧ q < p) → ∃ i, i < S.1 ∧ S.2.1 i = g_ro T u q)
theorem kF_hi (m : Nat → Nat) (t : Nat) : ∀ k j, kF m t k ≤ j → j < k → t < m j
  | 0, _, _, h => absurd h (Nat.not_lt_zero _)
  | k + 1, j, h1, h2 => by
    rw [kF] at h1
    by_cases q : t < m k
    · rw [if_pos q] at h1
      by_cases q2 : j = k
      · rw [q2]; exact q
      · exact kF_hi m t k j h1 (by omega)
    · rw [if_neg q] at h1
      omega
theorem kF_lo (m : Nat → Nat) (t : Nat) : ∀ k, kF m t k = 0 ∨ m (kF m t k - 1) ≤ t
  | 0 => Or.inl rfl
  | k + 1 => by
    rw [kF]
    by_cases q : t < m k
    · rw [if_pos q]
      exact kF_lo m t k
    · rw [if_neg q]
      exact Or.inr (by rw [Nat.add_sub_cancel]; omega)
theorem ins_at (w : Nat → Nat) (n k e i : Nat) : va_up (hoF w n k) k e i = if i = k then e else if k < i ∧ i ≤ n then w (i - 1) else w i := rfl
theorem wI_ins {T : TS} (hI : tI T) {S : WS} {v p : Nat} (hv : v < 18) (hp : p < g_mn T v) (h : wI T S v p) : wI T (wkI S (bgF T v p) (g_ro T v p)) v (p + 1) := by
  obtain ⟨h1, h2, h3⟩ := h
  have hr := ti_ro hI v p hv hp
  have hb := bgE_ro hI hv hp
  have hkl := kF_le S.2.2 (bgF T v p) S.1
  have hkh := kF_hi S.2.2 (bgF T v p) S.1
  have hko := kF_lo S.2.2 (bgF T v p) S.1
  generalize hk : kF S.2.2 (bgF T v p) S.1 = k at hkl hkh hko
  -- those ahead of the place come first
  have hA : ∀ i, i < k → kl T (S.2.1 i) (g_ro T v p) := by
    intro i hi
    have hi1 := h1 i (by omega)
    have hk1 := h1 (k - 1) (by omega)
    have hle : bgE T (S.2.1 i) ≤ bgE T (S.2.1 (k - 1)) := by
      by_cases q : i = k - 1
      · rw [q]; exact Nat.le_refl _
      · have := h2 i (k - 1) (by omega) (by omega)
        unfold kl at this
        omega
    have hle2 : S.2.2 (k - 1) ≤ bgF T v p := by
      rcases hko with q | q
      · omega
      · exact q
    rw [hk1.2.2.2] at hle2
    unfold kl
    rw [hb, hr.2.2.1, hr.2.2.2]
    omega
  have hB : ∀ i, k ≤ i → i < S.1 → kl T (g_ro T v p) (S.2.1 i) := by
    intro i hi hi2
    have h4 := hkh i hi hi2
    rw [(h1 i hi2).2.2.2] at h4
    unfold kl
    rw [hb]
    omega
  have eW : ∀ i, (wkI S (bgF T v p) (g_ro T v p)).2.1 i = if i = k then g_ro T v p else if k < i ∧ i ≤ S.1 then S.2.1 (i - 1) else S.2.1 i := by
    intro i
    show va_up (hoF S.2.1 S.1 (kF S.2.2 (bgF T v p) S.1)) (kF S.2.2 (bgF T v p) S.1) (g_ro T v p) i = _
    rw [hk]
    exact ins_at _ _ _ _ _
  have eM : ∀ i, (wkI S (bgF T v p) (g_ro T v p)).2.2 i = if i = k then bgF T v p else if k < i ∧ i ≤ S.1 then S.2.2 (i - 1) else S.2.2 i := by
    intro i
    show va_up (hoF S.2.2 S.1 (kF S.2.2 (bgF T v p) S.1)) (kF S.2.2 (bgF T v p) S.1) (bgF T v p) i = _
    rw [hk]
    exact ins_at _ _ _ _ _
  have eN : (wkI S (bgF T v p) (g_ro T v p)).1 = S.1 + 1 := rfl
  unfold wI
  rw [eN]
  refine ⟨?_, ?_, ?_⟩
  · intro i hi
    rw [eW, eM]
    by_cases q1 : i = k
    · rw [if_pos q1, if_pos q1]
      exact ⟨hr.1, hr.2.1, Or.inr ⟨hr.2.2.1, by rw [hr.2.2.2]; omega⟩, hb.symm⟩
    · rw [if_neg q1, if_neg q1]
      by_cases q2 : k < i ∧ i ≤ S.1
      · rw [if_pos q2, if_pos q2]
        have := h1 (i - 1) (by omega)
        exact ⟨this.1, this.2.1, by omega, this.2.2.2⟩
      · rw [if_neg q2, if_neg q2]
        have := h1 i (by omega)
        exact ⟨this.1, this.2.1, by omega, this.2.2.2⟩
  · intro i j hij hj
    rw [eW, eW]
    by_cases q1 : i = k
    · rw [if_pos q1, if_neg (show ¬ j = k by omega), if_pos (show k < j ∧ j ≤ S.1 by omega)]
      exact hB _ (by omega) (by omega)
    · rw [if_neg q1]
      by_cases q2 : k < i ∧ i ≤ S.1
      · rw [if_pos q2, if_neg (show ¬ j = k by omega), if_pos (show k < j ∧ j ≤ S.1 by omega)]
        exact h2 _ _ (by omega) (by omega)
      · rw [if_neg q2]
        by_cases q3 : j = k
        · rw [if_pos q3]
          exact hA _ (by omega)
        · rw [if_neg q3]
          by_cases q4 : k < j ∧ j ≤ S.1
          · rw [if_pos q4]
            exact h2 _ _ (by omega) (by omega)
          · rw [if_neg q4]
            exact h2 _ _ (by omega) (by omega)
  · intro u q hq
    by_cases q0 : u = v ∧ q = p
    · refine ⟨k, by omega, ?_⟩
      rw [eW, if_pos rfl, q0.1, q0.2]
    · obtain ⟨i, hi, hw⟩ := h3 u q (by omega)
      by_cases q1 : i < k
      · refine ⟨i, by omega, ?_⟩
        rw [eW, if_neg (by omega), if_neg (by omega)]
        exact hw
      · refine ⟨i + 1, by omega, ?_⟩
        rw [eW, if_neg (by omega), if_pos (by omega), Nat.add_sub_cancel]
        exact hw
theorem wI_N {T : TS} (hI : tI T) {S : WS} {v : Nat} (hv : v < 18) (h : wI T S v 0) : ∀ p, p ≤ g_mn T v → wI T (wkN T v S p) v p
  | 0, _ => h
  | p + 1, hp => wI_ins hI hv (by omega) (wI_N hI hv h p (by omega))
theorem wI_nx {T : TS} {S : WS} {v : Nat} (h : wI T S v (g_mn T v)) : wI T S (v + 1) 0 := by
  obtain ⟨h1, h2, h3⟩ := h
  refine ⟨fun i hi => ?_, h2, fun u q hq => ?_⟩
  · have := h1 i hi
    exact ⟨this.1, this.2.1, by omega, this.2.2.2⟩
  · by_cases q0 : u = v
    · subst q0
      exact h3 u q (Or.inr ⟨rfl, by omega⟩)
    · exact h3 u q (Or.inl (by omega))
theorem wI_V {T : TS} (hI : tI T) : ∀ v, v ≤ 18 → wI T (wkV T v) v 0
  | 0, _ => ⟨fun i hi => absurd hi (Nat.not_lt_zero _), fun i j _ hj => absurd hj (Nat.not_lt_zero _), fun u q hq => by omega⟩
  | v + 1, hv => wI_nx (wI_N hI (by omega) (wI_V hI v (by omega)) _ (Nat.le_refl _))
/-- the class's next event: the first voice's whose next begins first -/
def nwF (T : TS) (g : Nat → Nat) : Nat → Option Nat
  | 0 => none
  | v + 1 => if g v < g_mn T v then (match nwF T g v with
    | none => some (g_ro T v (g v))
    | some f => if bgE T (g_ro T v (g v)) < bgE T f then some (g_ro T v (g v)) else some f) else nwF T g v
theorem nwF_no (T : TS) (g : Nat → Nat) : ∀ n, nwF T g n = none → ∀ v, v < n → ¬ g v < g_mn T v
  | 0, _, v, hv => absurd hv (Nat.not_lt_zero _)
  | n + 1, h, v, hv => by
    rw [nwF] at h
    by_cases q : g n < g_mn T n
    · rw [if_pos q] at h
      cases hn : nwF T g n with
      | none => rw [hn] at h; cases h
      | some f =>
        rw [hn] at h
        simp only at h
        split at h <;> cases h
    · rw [if_neg q] at h
      by_cases q2 : v = n
      · rw [q2]; exact q
      · exact nwF_no T g n h v (by omega)
theorem nwF_so (T : TS) (g : Nat → Nat) : ∀ n f, nwF T g n = some f → ∃ v, v < n ∧ g v < g_mn T v ∧ f = g_ro T v (g v) ∧ ∀ u, u < n → g u < g_mn T u → bgE T f ≤ bgE T (g_ro T u (g u)) ∧ (u < v → bgE T f < bgE T (g_ro T u (g u)))
  | 0, _, h => by cases h
  | n + 1, f, h => by
    rw [nwF] at h
    by_cases q : g n < g_mn T n
    · rw [if_pos q] at h
      cases hn : nwF T g n with
      | none =>
        rw [hn] at h
        injection h with h
        refine ⟨n, by omega, q, h.symm, fun u hu hgu => ?_⟩
        by_cases q2 : u = n
        · subst q2
          rw [h]
          exact ⟨Nat.le_refl _, fun z => absurd z (Nat.lt_irrefl _)⟩
        · exact absurd hgu (nwF_no T g n hn u (by omega))
      | some f0 =>
        obtain ⟨v, hv, hg, hf, hm⟩ := nwF_so T g n f0 hn
        rw [hn] at h
        simp only at h
        by_cases q3 : bgE T (g_ro T n (g n)) < bgE T f0
        · rw [if_pos q3] at h
          injection h with h
          refine ⟨n, by omega, q, h.symm, fun u hu hgu => ?_⟩
          by_cases q2 : u = n
          · subst q2
            rw [h]
            exact ⟨Nat.le_refl _, fun z => absurd z (Nat.lt_irrefl _)⟩
          · have := hm u (by omega) hgu
            rw [← h]
            exact ⟨by omega, fun _ => by omega⟩
        · rw [if_neg q3] at h
          injection h with h
          subst h
          refine ⟨v, by omega, hg, hf, fun u hu hgu => ?_⟩
          by_cases q2 : u = n
          · subst q2
            exact ⟨by omega, fun z => by omega⟩
          · exact hm u (by omega) hgu
    · rw [if_neg q] at h
      obtain ⟨v, hv, hg, hf, hm⟩ := nwF_so T g n f h
      refine ⟨v, by omega, hg, hf, fun u hu hgu => ?_⟩
      by_cases q2 : u = n
      · subst q2
        exact absurd hgu q
      · exact hm u (by omega) hgu
/-- i events are walked: those of voice v whose place is below g v -/
def gI (T : TS) (w : Nat → Nat) (V i : Nat) (g : Nat → Nat) : Prop := ∀ v, v < V → g v ≤ g_mn T v ∧ ∀ p, p < g_mn T v → (p < g v ↔ ∃ j, j < i ∧ w j = g_ro T v p)
theorem gI_end {T : TS} {S : WS} {V : Nat} (hS : wI T S V 0) {g : Nat → Nat} (h : gI T S.2.1 V S.1 g) : nwF T g V = none := by
  cases hn : nwF T g V with
  | none => rfl
  | some f =>
    obtain ⟨v, hv, hg, -, -⟩ := nwF_so T g V f hn
    have h1 := ((h v hv).2 (g v) hg).mpr (hS.2.2 v (g v) (Or.inl ⟨hv, hg⟩))
    omega
theorem w_inj {T : TS} {S : WS} {V i j : Nat} (hS : wI T S V 0) (hi : i < S.1) (hj : j < S.1) (h : S.2.1 i = S.2.1 j) : i = j := by
  rcases Nat.lt_trichotomy i j with q | q | q
  · have := hS.2.1 i j q hj
    rw [h] at this
    exact absurd this kl_ir
  · exact q
  · have := hS.2.1 j i q hi
    rw [h] at this
    exact absurd this kl_ir
theorem gI_at {T : TS} (hI : tI T) {S : WS} {V i : Nat} (hV : V ≤ 18) (hS : wI T S V 0) {g : Nat → Nat} (h : gI T S.2.1 V i g) (hi : i < S.1) : g_vo T (S.2.1 i) < V ∧ g (g_vo T (S.2.1 i)) = g_pl T (S.2.1 i) := by
  have h1 := hS.1 i hi
  have hv : g_vo T (S.2.1 i) < V := by omega
  have hpl := ti_pl hI _ h1.1 h1.2.1
  refine ⟨hv, ?_⟩
  have hg := h _ hv
  have h2 : ¬ g_pl T (S.2.1 i) < g (g_vo T (S.2.1 i)) := fun z => by
    obtain ⟨j, hj, hw⟩ := (hg.2 _ hpl.1).mp z
    rw [hpl.2] at hw
    have := w_inj hS (by omega) hi hw
    omega
  by_cases q : g (g_vo T (S.2.1 i)) < g_pl T (S.2.1 i)
  · have hlt : g (g_vo T (S.2.1 i)) < g_mn T (g_vo T (S.2.1 i)) := by omega
    obtain ⟨j, hj, hw⟩ := hS.2.2 (g_vo T (S.2.1 i)) (g (g_vo T (S.2.1 i))) (Or.inl ⟨hv, hlt⟩)
    have hkl := kl_ro hI (show g_vo T (S.2.1 i) < 18 by omega) hpl.1 q
    rw [hpl.2, ← hw] at hkl
    have hji : ¬ j < i := fun z => by
      have := (hg.2 _ hlt).mpr ⟨j, z, hw⟩
      omega
    by_cases q2 : j = i
    · rw [q2] at hkl
      exact absurd hkl kl_ir
    · exact absurd (hS.2.1 i j (by omega) hj) (kl_as hkl)
  · omega
theorem gI_nx {T : TS} (hI : tI T) {S : WS} {V i : Nat} (hV : V ≤ 18) (hS : wI T S V 0) {g : Nat → Nat} (h : gI T S.2.1 V i g) (hi : i < S.1) : nwF T g V = some (S.2.1 i) := by
  obtain ⟨hv, hgp⟩ := gI_at hI hV hS h hi
  have h1 := hS.1 i hi
  have hpl := ti_pl hI _ h1.1 h1.2.1
  cases hn : nwF T g V with
  | none =>
    have := nwF_no T g V hn _ hv
    omega
  | some f =>
    obtain ⟨u, hu, hg, hf, hm⟩ := nwF_so T g V f hn
    have hm1 := hm _ hv (by omega)
    rw [hgp, hpl.2] at hm1
    by_cases q : u = g_vo T (S.2.1 i)
    · rw [hf, q, hgp, hpl.2]
    · have hr := ti_ro hI u (g u) (by omega) hg
      obtain ⟨j, hj, hw⟩ := hS.2.2 u (g u) (Or.inl ⟨hu, hg⟩)
      have hji : ¬ j < i := fun z => by
        have := ((h u hu).2 _ hg).mpr ⟨j, z, hw⟩
        omega
      have hjn : j ≠ i := fun z => q (by rw [← z, hw]; exact hr.2.2.1.symm)
      have hk := hS.2.1 i j (by omega) hj
      rw [hw, ← hf] at hk
      unfold kl at hk
      rw [hf, hr.2.2.1] at hk
      rw [hf] at hm1
      omega
theorem gI_st {T : TS} (hI : tI T) {S : WS} {V i : Nat} (hV : V ≤ 18) (hS : wI T S V 0) {g : Nat → Nat} (h : gI T S.2.1 V i g) (hi : i < S.1) : gI T S.2.1 V (i + 1) (va_up g (g_vo T (S.2.1 i)) (g (g_vo T (S.2.1 i)) + 1)) := by
  obtain ⟨hv, hgp⟩ := gI_at hI hV hS h hi
  have h1 := hS.1 i hi
  have hpl := ti_pl hI _ h1.1 h1.2.1
  intro u hu
  have hg := h u hu
  by_cases q : u = g_vo T (S.2.1 i)
  · subst q
    rw [up_eq, hgp]
    refine ⟨by omega, fun p hp => ?_⟩
    have hgq := hg.2 p hp
    rw [hgp] at hgq
    constructor
    · intro hlt
      by_cases q2 : p = g_pl T (S.2.1 i)
      · exact ⟨i, by omega, by rw [q2]; exact hpl.2.symm⟩
      · obtain ⟨j, hj, hw⟩ := hgq.mp (by omega)
        exact ⟨j, by omega, hw⟩
    · rintro ⟨j, hj, hw⟩
      by_cases q2 : j = i
      · subst q2
        have := (ti_ro hI (g_vo T (S.2.1 j)) p (by omega) hp).2.2.2
        rw [← hw] at this
        omega
      · have := hgq.mpr ⟨j, by omega, hw⟩
        omega
  · rw [up_ne q]
    refine ⟨hg.1, fun p hp => ?_⟩
    rw [hg.2 p hp]
    constructor
    · rintro ⟨j, hj, hw⟩
      exact ⟨j, by omega, hw⟩
    · rintro ⟨j, hj, hw⟩
      by_cases q2 : j = i
      · subst q2
        have := (ti_ro hI u p (by omega) hp).2.2.1
        rw [← hw] at this
        exact absurd this.symm q
      · exact ⟨j, by omega, hw⟩
theorem gI_0 {T : TS} {w : Nat → Nat} {V : Nat} {g : Nat → Nat} (h : ∀ v, v < V → g v = 0) : gI T w V 0 g := by
  intro v hv
  rw [h v hv]
  exact ⟨Nat.zero_le _, fun p _ => ⟨fun z => absurd z (Nat.not_lt_zero _), fun ⟨j, hj, _⟩ => absurd hj (Nat.not_lt_zero _)⟩⟩
theorem wkN_su (T : TS) (v : Nat) (S : WS) : ∀ p, wkN (h_su T 0) v S p = wkN T v S p
  | 0 => rfl
  | p + 1 => by
    rw [wkN, wkN, wkN_su T v S p, bgF_su]
    rfl
theorem wkV_su (T : TS) : ∀ v, wkV (h_su T 0) v = wkV T v
  | 0 => rfl
  | v + 1 => by
    rw [wkV, wkV, wkV_su T v, wkN_su]
    rfl
