/-! the heap as maps: kinds; int, long, reference fields by field and cell; int (and boolean), long, reference arrays by cell and place; the next cell -/
abbrev ZS : Type := (Nat → Nat × Nat) × (Nat → Nat → Int32) × (Nat → Nat → Int64) × (Nat → Nat → Option Nat) × (Nat → Nat → Int32) × (Nat → Nat → Int64) × (Nat → Nat → Option Nat) × Nat
def zk (σ : ZS) (a : Nat) : Nat × Nat := σ.1 a
def zI (σ : ZS) (f a : Nat) : Int32 := σ.2.1 f a
def zL (σ : ZS) (f a : Nat) : Int64 := σ.2.2.1 f a
def zR (σ : ZS) (f a : Nat) : Option Nat := σ.2.2.2.1 f a
def zi (σ : ZS) (a j : Nat) : Int32 := σ.2.2.2.2.1 a j
def zl (σ : ZS) (a j : Nat) : Int64 := σ.2.2.2.2.2.1 a j
def zr (σ : ZS) (a j : Nat) : Option Nat := σ.2.2.2.2.2.2.1 a j
def zn (σ : ZS) : Nat := σ.2.2.2.2.2.2.2
def z2 {α : Type} (f : Nat → Nat → α) (i a : Nat) (v : α) : Nat → Nat → α := fun j b => if j = i ∧ b = a then v else f j b
def pI (σ : ZS) (f a : Nat) (v : Int32) : ZS := (σ.1, z2 σ.2.1 f a v, σ.2.2)
def pL (σ : ZS) (f a : Nat) (v : Int64) : ZS := (σ.1, σ.2.1, z2 σ.2.2.1 f a v, σ.2.2.2)
def pR (σ : ZS) (f a : Nat) (v : Option Nat) : ZS := (σ.1, σ.2.1, σ.2.2.1, z2 σ.2.2.2.1 f a v, σ.2.2.2.2)
def qi (σ : ZS) (a j : Nat) (v : Int32) : ZS := (σ.1, σ.2.1, σ.2.2.1, σ.2.2.2.1, z2 σ.2.2.2.2.1 a j v, σ.2.2.2.2.2)
def ql (σ : ZS) (a j : Nat) (v : Int64) : ZS := (σ.1, σ.2.1, σ.2.2.1, σ.2.2.2.1, σ.2.2.2.2.1, z2 σ.2.2.2.2.2.1 a j v, σ.2.2.2.2.2.2)
def qr (σ : ZS) (a j : Nat) (v : Option Nat) : ZS := (σ.1, σ.2.1, σ.2.2.1, σ.2.2.2.1, σ.2.2.2.2.1, σ.2.2.2.2.2.1, z2 σ.2.2.2.2.2.2.1 a j v, σ.2.2.2.2.2.2.2)
def zNew (σ : ZS) (k : Nat × Nat) : ZS := (va_up σ.1 (zn σ) k, (fun f b => if b = zn σ then 0 else zI σ f b), (fun f b => if b = zn σ then 0 else zL σ f b), (fun f b => if b = zn σ then none else zR σ f b), (fun a j => if a = zn σ then 0 else zi σ a j), (fun a j => if a = zn σ then 0 else zl σ a j), (fun a j => if a = zn σ then none else zr σ a j), zn σ + 1)
/-- the fields of a class: type (0 int, 1 long, 2 reference) and number -/
def zF : Nat → List (Nat × Nat) := fun ci => match ci with
  | 0 => [(1, 448)]
  | 1 => [(1, 448)]
  | 2 => [(0, 128), (2, 129), (0, 130), (2, 131), (0, 132), (0, 133), (0, 134), (0, 135), (0, 136), (1, 137), (1, 138)]
  | 3 => [(1, 448)]
  | 4 => [(0, 256), (2, 257), (2, 258)]
  | 5 => [(1, 448)]
  | 6 => [(1, 448)]
  | 7 => [(1, 448)]
  | 8 => [(0, 512), (2, 513)]
  | 9 => [(0, 576), (2, 577), (0, 578), (0, 579), (0, 580), (0, 581), (0, 582)]
  | 10 => [(0, 640), (2, 641), (2, 642), (0, 643), (0, 644), (1, 645)]
  | 11 => [(2, 704), (0, 705), (2, 706), (2, 707), (0, 708), (2, 709), (0, 710), (2, 711), (0, 712), (2, 713), (0, 714), (2, 715), (0, 716), (2, 717), (0, 718), (2, 719), (2, 720), (2, 721), (0, 722)]
  | 12 => [(0, 768), (2, 769), (0, 770), (2, 771), (0, 772), (0, 773), (2, 774), (2, 775), (2, 776), (2, 777), (2, 778), (2, 779), (2, 780), (2, 781), (2, 782), (2, 783), (0, 784), (0, 785), (2, 786), (2, 787), (2, 788), (2, 789), (2, 790), (2, 791), (2, 792), (0, 793), (0, 794), (2, 795), (2, 796), (2, 797), (2, 798), (0, 799), (2, 800), (0, 801), (2, 802), (2, 803), (2, 804), (2, 805), (2, 806), (2, 807), (2, 808), (2, 809), (2, 810), (2, 811), (2, 812), (2, 813), (0, 814), (1, 815), (0, 816), (2, 817), (0, 818)]
  | _ => []
def zV1 (σ : ZS) (q : Nat × Nat) (a : Nat) : Value := match q.1 with
  | 0 => .int (zI σ q.2 a)
  | 1 => .long (zL σ q.2 a)
  | _ => va_rf (zR σ q.2 a)
def zVs (σ : ZS) (ci a : Nat) : List Value := (zF ci).map fun q => zV1 σ q a
/-- what lies in a cell -/
def zE (dA : Nat → ClassId) (σ : ZS) (a : Nat) : Option va_E := match zk σ a with
  | (0, _) => none
  | (1, ci) => some (.inr (ci, zVs σ ci a))
  | (2, n) => some (.inl (dA 0, n, .inl (zi σ a)))
  | (3, n) => some (.inl (dA 1, n, .inl (zi σ a)))
  | (4, n) => some (.inl (dA 2, n, .inr (.inl (zl σ a))))
  | (j + 5, n) => some (.inl (dA (j + 3), n, .inr (.inr (.inr (.inr (zr σ a))))))
def zP (D : va_G) (dA : Nat → ClassId) (σ : ZS) (H : Heap) : Prop := zn σ = H.size ∧ ∀ (a : Nat) (x : va_E), zE dA σ a = some x → va_at D vwCl (a, x) H
def zTys (dA : Nat → ClassId) : List (ClassId × FieldType) := [(dA 0, .int), (dA 1, .boolean), (dA 2, .long), (dA 3, .object RX7), (dA 4, .object RX10), (dA 5, .object RX2), (dA 6, .object RX9), (dA 7, .object RX4), (dA 8, .object RX8)]
def zX (U : State) : Prop := ∀ w ∈ zx, va_Nw w U
theorem zx_obj {ty : FieldType} (hw : Cond.arrayOver ty ∈ zx) : ∃ C, ty = .object C := by
  have h3 : zx.all (fun w => match w with | .arrayOver (.object _) => true | .arrayOver _ => false | _ => true) = true := by decide +kernel
  have h4 := List.all_eq_true.mp h3 _ hw
  cases ty <;> first | exact ⟨_, rfl⟩ | (simp at h4)
theorem zX.warm {s U : State} (hW : s.WarmedH U.vm) (h : zX s) : zX U := by
  intro w hw
  have h1 := h w hw
  have h2 := (List.mem_filter.mp hw).2
  cases w <;> (try (simp [zExtra] at h2; done))
  all_goals first | exact va_Nw.warmM hW h1 | exact va_Nw.warmC hW h1 | exact va_Nw.warmD hW h1 | skip
  rename_i ty
  obtain ⟨C, hC⟩ := zx_obj hw
  subst hC
  exact va_AO.moved hW.alike h1
theorem zX.same {s U : State} (hv : s.vm = U.vm) (h : zX s) : zX U := by
  intro w hw
  have h1 := h w hw
  have h2 := (List.mem_filter.mp hw).2
  cases w <;> (try (simp [zExtra] at h2; done))
  all_goals first | exact va_Nw.same rfl hv h1 | skip
  rename_i ty
  obtain ⟨C, hC⟩ := zx_obj hw
  subst hC
  exact va_AO.moved (u := s) (U := U) (hv ▸ Vm.Alike.refl s.vm) h1
/-- values: int, long, reference or null -/
abbrev Av : Type := Int32 ⊕ Int64 ⊕ Option Nat
abbrev Ai (x : Int32) : Av := .inl x
abbrev Al (x : Int64) : Av := .inr (.inl x)
abbrev Ar (o : Option Nat) : Av := .inr (.inr o)
def vv (v : Av) : Value := match v with
  | .inl x => .int x
  | .inr (.inl x) => .long x
  | .inr (.inr o) => va_rf o
def zW2 (v : Av) : Bool := match v with
  | .inr (.inl _) => true
  | _ => false
theorem vv_cat1 {v : Av} (h : zW2 v = false) : (vv v).category = 1 := by
  rcases v with x | x | o
  · rfl
  · simp [zW2] at h
  · cases o <;> rfl
theorem vv_cat2 {v : Av} (h : zW2 v = true) : (vv v).category = 2 := by
  rcases v with x | x | o
  · simp [zW2] at h
  · rfl
  · simp [zW2] at h
/-- locals: what is known of each -/
abbrev Zl : Type := List (Option Av)
def zH (arr : Array Slot) (nL : Nat) (ls : Zl) : Prop := arr.size = nL ∧ lv_wf arr ∧ ∀ (i : Nat) (v : Av), ls[i]? = some (some v) → arr[i]? = some (.val (vv v))
def zlL : Nat → Zl → List (Nat × Value)
  | _, [] => []
  | k, none :: r => zlL (k + 1) r
  | k, some v :: r => (k, vv v) :: zlL (k + 1) r
theorem zlL_mem : ∀ (ls : Zl) (k : Nat) (q : Nat × Value), q ∈ zlL k ls ↔ ∃ (j : Nat) (v : Av), q.1 = k + j ∧ ls[j]? = some (some v) ∧ q.2 = vv v
  | [], k, q => by simp [zlL]
  | none :: r, k, q => by
    rw [zlL, zlL_mem r (k + 1) q]
    constructor
    · rintro ⟨j, v, h1, h2, h3⟩
      exact ⟨j + 1, v, by omega, by simpa using h2, h3⟩
    · rintro ⟨j, v, h1, h2, h3⟩
      cases j with
      | zero => simp at h2
      | succ j => exact ⟨j, v, by omega, by simpa using h2, h3⟩
  | some w :: r, k, q => by
    rw [zlL, List.mem_cons, zlL_mem r (k + 1) q]
    constructor
    · rintro (h | ⟨j, v, h1, h2, h3⟩)
      · exact ⟨0, w, by rw [h]; rfl, rfl, by rw [h]⟩
      · exact ⟨j + 1, v, by omega, by simpa using h2, h3⟩
    · rintro ⟨j, v, h1, h2, h3⟩
      cases j with
      | zero =>
        simp at h2
        left
        obtain ⟨q1, q2⟩ := q
        simp only at h1 h3
        subst h2
        simp [h1, h3]
      | succ j => exact Or.inr ⟨j, v, by omega, by simpa using h2, h3⟩
theorem zH_has {arr : Array Slot} {nL : Nat} {ls : Zl} : zH arr nL ls ↔ lv_has arr nL (zlL 0 ls) := by
  constructor
  · rintro ⟨h1, h2, h3⟩
    refine ⟨h1, h2, fun q hq => ?_⟩
    obtain ⟨j, v, e1, e2, e3⟩ := (zlL_mem ls 0 q).mp hq
    rw [e1, e3, Nat.zero_add]
    exact h3 j v e2
  · rintro ⟨h1, h2, h3⟩
    exact ⟨h1, h2, fun i v h => h3 (i, vv v) ((zlL_mem ls 0 _).mpr ⟨i, v, by simp, h, rfl⟩)⟩
def zNL (o : Option Av) : Bool := match o with
  | some v => !zW2 v
  | none => true
theorem zH_set1 {arr' : Array Slot} {nL i : Nat} {ls : Zl} {v : Av} (h : lv_has arr' nL ((i, vv v) :: (zlL 0 ls).filter (fun q => !(q.1 == i) && !(q.1 + 1 == i && q.2.category == 2)))) (hok : ∀ (j : Nat) (w : Option Av), i = j + 1 → ls[j]? = some w → zNL w = true) : zH arr' nL (ls.set i (some v)) := by
  refine ⟨h.1, h.2.1, fun k w hk => ?_⟩
  by_cases hki : i = k
  · subst hki
    rw [List.getElem?_set_self' ] at hk
    cases hli : ls[i]? with
    | none => rw [hli] at hk; simp at hk
    | some z =>
      rw [hli] at hk
      simp at hk
      subst hk
      exact h.2.2 (i, vv v) List.mem_cons_self
  · rw [List.getElem?_set_ne hki] at hk
    refine h.2.2 (k, vv w) (List.mem_cons_of_mem _ (List.mem_filter.mpr ⟨(zlL_mem ls 0 _).mpr ⟨k, w, by simp, hk, rfl⟩, ?_⟩))
    simp only [Bool.and_eq_true, Bool.not_eq_true', beq_eq_false_iff_ne, ne_eq, Bool.and_eq_false_iff]
    refine ⟨fun q => hki q.symm, ?_⟩
    by_cases hk1 : k + 1 = i
    · right
      have := hok k (some w) hk1.symm hk
      simp only [zNL, Bool.not_eq_true'] at this
      rw [vv_cat1 this]
      decide
    · left; exact hk1
theorem zH_set2 {arr' : Array Slot} {nL i : Nat} {ls : Zl} {v : Av} (h : lv_has arr' nL ((i, vv v) :: (zlL 0 ls).filter (fun q => !(q.1 == i) && (!(q.1 == i + 1) && !(q.1 + 1 == i && q.2.category == 2))))) (hok : ∀ (j : Nat) (w : Option Av), i = j + 1 → ls[j]? = some w → zNL w = true) : zH arr' nL ((ls.set i (some v)).set (i + 1) none) := by
  refine ⟨h.1, h.2.1, fun k w hk => ?_⟩
  by_cases hki1 : i + 1 = k
  · subst hki1
    rw [List.getElem?_set_self'] at hk
    cases hli : (ls.set i (some v))[i + 1]? with
    | none => rw [hli] at hk; simp at hk
    | some z => rw [hli] at hk; simp at hk
  rw [List.getElem?_set_ne hki1] at hk
  by_cases hki : i = k
  · subst hki
    rw [List.getElem?_set_self' ] at hk
    cases hli : ls[i]? with
    | none => rw [hli] at hk; simp at hk
    | some z =>
      rw [hli] at hk
      simp at hk
      subst hk
      exact h.2.2 (i, vv v) List.mem_cons_self
  · rw [List.getElem?_set_ne hki] at hk
    refine h.2.2 (k, vv w) (List.mem_cons_of_mem _ (List.mem_filter.mpr ⟨(zlL_mem ls 0 _).mpr ⟨k, w, by simp, hk, rfl⟩, ?_⟩))
    simp only [Bool.and_eq_true, Bool.not_eq_true', beq_eq_false_iff_ne, ne_eq, Bool.and_eq_false_iff]
    refine ⟨fun q => hki q.symm, fun q => hki1 q.symm, ?_⟩
    by_cases hk1 : k + 1 = i
    · right
      have := hok k (some w) hk1.symm hk
      simp only [zNL, Bool.not_eq_true'] at this
      rw [vv_cat1 this]
      decide
    · left; exact hk1
/-- fewer known locals -/
theorem zH.weak {arr : Array Slot} {nL : Nat} {ls ls' : Zl} (h : zH arr nL ls) (hs : ∀ (i : Nat) (v : Av), ls'[i]? = some (some v) → ls[i]? = some (some v)) : zH arr nL ls' := ⟨h.1, h.2.1, fun i v hv => h.2.2 i v (hs i v hv)⟩
/-- the locals with which a method begins -/
def zEnt : List Av → Zl
  | [] => []
  | v :: r => if zW2 v then some v :: none :: zEnt r else some v :: zEnt r
theorem zEnt_args : ∀ (As : List Av) (k i : Nat) (v : Av), (zEnt As)[i]? = some (some v) → (k + i, vv v) ∈ lv_args k (As.map vv)
  | [], k, i, v, h => by simp [zEnt] at h
  | w :: r, k, i, v, h => by
    rw [List.map_cons, lv_args]
    by_cases hw : zW2 w = true
    · rw [zEnt, if_pos hw] at h
      rw [if_pos (vv_cat2 hw)]
      match i, h with
      | 0, h => simp at h; subst h; exact List.mem_cons_self
      | 1, h => simp at h
      | i + 2, h =>
        have := zEnt_args r (k + 2) i v (by simpa using h)
        exact List.mem_cons_of_mem _ (by rw [show k + (i + 2) = k + 2 + i by omega]; exact this)
    · rw [zEnt, if_neg hw] at h
      rw [if_neg (by rw [vv_cat1 (by simpa using hw)]; decide)]
      match i, h with
      | 0, h => simp at h; subst h; exact List.mem_cons_self
      | i + 1, h =>
        have := zEnt_args r (k + 1) i v (by simpa using h)
        exact List.mem_cons_of_mem _ (by rw [show k + (i + 1) = k + 1 + i by omega]; exact this)
theorem zH_entry {As : List Av} {n : Nat} {ls : Zl} (h : (lg_sl (As.map vv)).length ≤ n) (hls : zEnt As ++ List.replicate (n - (zEnt As).length) none = ls) : zH ((lg_sl (As.map vv) ++ List.replicate (n - (lg_sl (As.map vv)).length) Slot.unset).toArray) n ls := by
  obtain ⟨h1, h2, h3⟩ := lv_entry (As.map vv) h
  refine ⟨h1, h2, fun i v hv => ?_⟩
  subst hls
  have hi : (zEnt As)[i]? = some (some v) := by
    rw [List.getElem?_append] at hv
    split at hv
    · exact hv
    · rw [List.getElem?_replicate] at hv
      split at hv <;> simp at hv
  have := h3 _ (zEnt_args As 0 i v hi)
  simpa using this
