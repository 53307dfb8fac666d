def zPs (r : Option Av) (rest : List Av) : List Av := match r with
  | none => rest
  | some v => v :: rest
/-- a call's run, for every context -/
def ZRun (M : ZM) (pc : Nat) (st rest : List Av) (σ : ZS) (M' : ZM) (post' : Option Av → ZS → Prop) : Prop :=
  ∀ (p : Program) (l : Launch) (e : Env) (R : Room) (s : State) (m : MethodId) (args : Array Value) (below : List Frame) (meth : Method) (c : Code) (D : va_G) (dA : Nat → ClassId), ZX M p R s m args meth c D dA →
  ∀ (H : Heap) (locs : List Loc) (cells slots : Nat) (arr : Array Slot), zP D dA σ H → arr.size = zmn M → cells + zmC M' ≤ zmC M → slots + zmS M' ≤ zmS M → ∃ a : Array Value, va_Run p l e R s m args below meth c H locs cells slots (zmC M') (zmS M') (F0 m pc arr (st.map vv)) (rest.map vv) (zQc D dA σ post' a) (zdom σ)
set_option maxHeartbeats 1000000 in
theorem ZV_run {M : ZM} {post : Option Av → ZS → Prop} {pc n : Nat} {ls : Zl} {st : List Av} {σ : ZS} {kc ks : Nat} {rest : List Av} {M' : ZM} {post' : Option Av → ZS → Prop} {kc' ks' : Nat} (h : ZRun M pc st rest σ M' post') (hkc : kc' + zmC M' = kc) (hks : ks' + zmS M' = ks) (hn : pc + 3 = n) (k : ∀ (r : Option Av) (σ' : ZS), post' r σ' → ZV M post n ls (zPs r rest) σ' kc' ks') : ZV M post pc ls st σ kc ks := by
  intro p l e R s m args below meth c Q D dA A hC hA hT H locs cells slots arr hP hS hD hc hs hl
  subst hn
  obtain ⟨a, hr⟩ := h p l e R s m args below meth c D dA hC H locs cells slots arr hP hl.1 (by omega) (by omega)
  intro T hTH X
  obtain ⟨v, st₀, t, T', L, h0, X', hL, e1, e2, ⟨r, σ', hv, hp, hP', hdm, hF1, hF2⟩, go⟩ := hr T hTH X
  have hz : ∀ q, zdom σ q → A q := fun q hq => by
    rcases hq with hq | hq
    · exact hD q hq
    · exact hA q (Nat.le_trans hS.1 (by rw [← hP.1]; exact hq))
  rw [h0] at hF1 hF2
  have W' := k r σ' hp p l e R s m args below meth c Q D dA A hC hA hT T'.heap (locs ++ L) (cells + zmC M') (slots + zmS M') arr (by rw [e1]; exact hP')
    ⟨by rw [e1]; exact Nat.le_trans hS.1 hF1, fun q h1 h2 => by rw [e1, hF2 q (Nat.lt_of_lt_of_le h1 hS.1) (fun z => h2 (hz q z))]; exact hS.2.1 q h1 h2, fun q hq => by
      rcases List.mem_append.mp hq with h | h
      · exact hS.2.2 q h
      · exact hz _ (hL q h)⟩ (fun b hb => hz b (hdm b hb)) (by omega) (by omega) hl
  obtain ⟨t2, a1, b1⟩ := W' T' rfl X'
  refine ⟨t2, go t2 ?_, b1⟩
  have hv' : v = r.map vv := by cases hv; rfl
  subst hv'
  cases r with
  | none => exact a1
  | some v => exact a1
theorem zGood {ws : List Cond} (h : ∀ w ∈ ws, w ∈ zw) : GoodIn zw ws := fun w hw => ⟨h w hw, good_of_word (zw_good w (h w hw))⟩
theorem zws_in {M : ZM} (h : Cond.code (zmy M) (zmc M) (zmn M) (zmr M) ∈ zw) : ∀ w ∈ zws M, w ∈ zw := fun w hw => by
  rcases List.mem_cons.mp hw with rfl | hw
  · exact h
  · exact hw
/-- what every call needs of the callee -/
def zCb (M' : ZM) (n : Nat) : Prop := Cond.code (zmy M') (zmc M') (zmn M') (zmr M') ∈ zw ∧ Cond.initialized (zmy M').cls ∈ zw ∧ (zmy M').cls ≠ "java/lang/invoke/MethodHandle" ∧ (zmy M').cls ≠ "java/lang/invoke/VarHandle" ∧ (parseMethodDescriptor (zmy M').desc).map (fun d => d.parameters.length) = some n ∧ zmn M' ≤ 20
theorem zRoom {M M' : ZM} {p : Program} {R : Room} {s : State} {m : MethodId} {args : Array Value} {meth : Method} {c : Code} {D : va_G} {dA : Nat → ClassId} (hC : ZX M p R s m args meth c D dA) (hn : zmn M' ≤ 20) (hd : zmd M' + 1 ≤ zmd M) : (zrm M').frames + 1 ≤ R.frames ∧ 8 + (zmn M' + 11) + (zrm M').locals ≤ R.locals := by
  obtain ⟨-, -, -, -, -, -, -, h1, h2, -, -⟩ := hC
  refine ⟨Nat.le_trans hd h1, ?_⟩
  show 8 + (zmn M' + 11) + 39 * zmd M' ≤ R.locals
  omega
theorem zMr {st : List Av} {m : MethodId} {pc : Nat} {arr : Array Slot} {st2 : List Value} (h : (st.map fun v => if zW2 v then 2 else 1).sum ≤ 8) : 2 * (F0 m pc arr st2).monitorRoom + ((st.map vv).map fun v => v.category).sum ≤ 8 := by
  refine lv_room ?_
  have : ((st.map vv).map fun v => v.category) = st.map fun v => if zW2 v then 2 else 1 := by
    rw [List.map_map]
    apply List.map_congr_left
    intro v _
    by_cases hv : zW2 v = true
    · simp [hv, vv_cat2 hv]
    · simp [hv, vv_cat1 (by simpa using hv)]
  rw [this]
  exact h
theorem zmap_rev (As rest : List Av) : ((As.reverse ++ rest).map vv) = (As.map vv).reverse ++ rest.map vv := by simp
set_option maxHeartbeats 1000000 in
/-- invokevirtual of the receiver's own class's method -/
theorem ZRun_V {M M' : ZM} {pc : Nat} {As rest : List Av} {σ : ZS} {post' : Option Av → ZS → Prop} {idx n b ci : Nat} (hM : ZC M' (Ar (some b) :: As) σ post') (hb : zCb M' n) (hl : Cond.methodLink (zmy M).cls idx (zmy M') ∈ zw) (hi : Cond.instanceMethod (zmy M') ∈ zw) (hse : Cond.selects (zmy M').cls (zmy M') (zmy M') ∈ zw) (hk : zk σ b = (1, ci)) (hci : ci < 13) (hcl : (zcl ci).1 = (zmy M').cls) (hn : As.length = n) (hd : decode (zmc M) pc = .ok (.invokevirtual idx, 3)) (hdep : zmd M' + 1 ≤ zmd M) (hr : (rest.map fun v => if zW2 v then 2 else 1).sum ≤ 8) : ZRun M pc (As.reverse ++ Ar (some b) :: rest) rest σ M' post' := by
  intro p l e R s m args below meth c D dA hC H locs cells slots arr hP harr hc hs
  obtain ⟨b1, b2, b3, b4, b5, b6⟩ := hb
  have hts := hC.2.2.2.2.1
  have hrc := hP.2 b _ (zE_obj hk)
  refine ⟨(Value.ref b :: As.map vv).toArray, va_runV (As := As.map vv) (rest := rest.map vv) ⟨hC.1, hC.2.1, hC.2.2.1, hC.2.2.2.1, hts⟩ (hM l D dA) (cwV n hts (zGood (fun w hw => ?_)) rfl rfl rfl ⟨rfl, b3, b4, b5⟩ (zRoom hC b6 hdep)) ⟨zPc_blind, ?_, fun U hU hW => ⟨rfl, by rw [hU]; exact hP, hC.2.2.2.2.2.1.warm hW⟩⟩ rfl (by rw [List.length_map]; exact hn) harr (zmap_rev As (Ar (some b) :: rest)) (zMr hr) hd ⟨Nat.le_trans hc hC.2.2.2.2.2.2.2.2.2.1, Nat.le_trans hs hC.2.2.2.2.2.2.2.2.2.2⟩⟩
  · unfold wsV at hw
    rcases List.mem_append.mp hw with hw | hw
    · simp only [List.mem_cons, List.not_mem_nil, or_false] at hw
      rcases hw with rfl | rfl | rfl | rfl
      · exact hl
      · exact hi
      · exact hse
      · exact b2
    · exact zws_in b1 w hw
  · obtain ⟨r, h1, cell, g1, g2, g3, -⟩ := hrc
    exact ⟨cell, g1, by rw [g3]; rfl, by rw [g2, ← hcl]; exact (hC.2.2.2.2.2.1.1.1 ci (zcl ci) (zcl_at ci hci)).2.1⟩
set_option maxHeartbeats 1000000 in
/-- invokestatic -/
theorem ZRun_S {M M' : ZM} {pc : Nat} {As rest : List Av} {σ : ZS} {post' : Option Av → ZS → Prop} {idx n : Nat} (hM : ZC M' As σ post') (hb : zCb M' n) (hl : Cond.methodLink (zmy M).cls idx (zmy M') ∈ zw) (hst : Cond.static (zmy M') ∈ zw) (hn : As.length = n) (hd : decode (zmc M) pc = .ok (.invokestatic idx, 3)) (hdep : zmd M' + 1 ≤ zmd M) (hr : (rest.map fun v => if zW2 v then 2 else 1).sum ≤ 8) : ZRun M pc (As.reverse ++ rest) rest σ M' post' := by
  intro p l e R s m args below meth c D dA hC H locs cells slots arr hP harr hc hs
  obtain ⟨b1, b2, b3, b4, b5, b6⟩ := hb
  have hts := hC.2.2.2.2.1
  exact ⟨(As.map vv).toArray, va_runS (As := As.map vv) (rest := rest.map vv) ⟨hC.1, hC.2.1, hC.2.2.1, hC.2.2.2.1, hts⟩ (hM l D dA) ⟨callB_of n hts (zGood (zws_in b1)) rfl rfl rfl (hts _ b2) (hts _ hl) ⟨b3, b4, b5⟩ (zRoom hC b6 hdep), hts _ hst⟩ ⟨zPc_blind, fun U hU hW => ⟨rfl, by rw [hU]; exact hP, hC.2.2.2.2.2.1.warm hW⟩⟩ rfl (by rw [List.length_map]; exact hn) harr (zmap_rev As rest) (zMr hr) hd ⟨Nat.le_trans hc hC.2.2.2.2.2.2.2.2.2.1, Nat.le_trans hs hC.2.2.2.2.2.2.2.2.2.2⟩⟩
set_option maxHeartbeats 1000000 in
/-- invokestatic of a private method of a nest mate -/
theorem ZRun_SN {M M' : ZM} {pc : Nat} {As rest : List Av} {σ : ZS} {post' : Option Av → ZS → Prop} {idx n : Nat} {host : String} (hM : ZC M' As σ post') (hb : zCb M' n) (hl : Cond.methodLinkNest (zmy M).cls idx (zmy M') host ∈ zx) (hst : Cond.static (zmy M') ∈ zw) (hn : As.length = n) (hd : decode (zmc M) pc = .ok (.invokestatic idx, 3)) (hdep : zmd M' + 1 ≤ zmd M) (hr : (rest.map fun v => if zW2 v then 2 else 1).sum ≤ 8) : ZRun M pc (As.reverse ++ rest) rest σ M' post' := by
  intro p l e R s m args below meth c D dA hC H locs cells slots arr hP harr hc hs
  obtain ⟨b1, b2, b3, b4, b5, b6⟩ := hb
  have hts := hC.2.2.2.2.1
  exact ⟨(As.map vv).toArray, va_runSN (As := As.map vv) (rest := rest.map vv) ⟨hC.1, hC.2.1, hC.2.2.1, hC.2.2.2.1, hts⟩ (hM l D dA) ⟨va_cnB n hts (zGood (zws_in b1)) rfl rfl rfl (hC.2.2.2.2.2.1.2 _ hl) (hts _ b2) ⟨b3, b4, b5⟩ (zRoom hC b6 hdep), hts _ hst, trivial⟩ ⟨zPc_blind, fun U hU hW => ⟨rfl, by rw [hU]; exact hP, hC.2.2.2.2.2.1.warm hW⟩⟩ rfl (by rw [List.length_map]; exact hn) harr (zmap_rev As rest) (zMr hr) hd ⟨Nat.le_trans hc hC.2.2.2.2.2.2.2.2.2.1, Nat.le_trans hs hC.2.2.2.2.2.2.2.2.2.2⟩⟩
set_option maxHeartbeats 1000000 in
/-- invokespecial of a constructor -/
theorem ZRun_I {M M' : ZM} {pc : Nat} {As rest : List Av} {σ : ZS} {post' : Option Av → ZS → Prop} {idx n b : Nat} (hM : ZC M' (Ar (some b) :: As) σ post') (hb : zCb M' n) (hr0 : zmr M' = none) (hl : Cond.methodLink (zmy M).cls idx (zmy M') ∈ zw) (hi : Cond.instanceMethod (zmy M') ∈ zw) (hnm : (zmy M').name = "<init>") (hn : As.length = n) (hd : decode (zmc M) pc = .ok (.invokespecial idx, 3)) (hdep : zmd M' + 1 ≤ zmd M) (hr : (rest.map fun v => if zW2 v then 2 else 1).sum ≤ 8) : ZRun M pc (As.reverse ++ Ar (some b) :: rest) rest σ M' post' := by
  intro p l e R s m args below meth c D dA hC H locs cells slots arr hP harr hc hs
  obtain ⟨b1, b2, b3, b4, b5, b6⟩ := hb
  have hts := hC.2.2.2.2.1
  exact ⟨(Value.ref b :: As.map vv).toArray, va_runI (As := As.map vv) (rest := rest.map vv) ⟨hC.1, hC.2.1, hC.2.2.1, hC.2.2.2.1, hts⟩ (hM l D dA) ⟨callB_of (ret := none) n hts (zGood (zws_in b1)) (by rw [zws, hr0]) rfl rfl (hts _ b2) (hts _ hl) ⟨b3, b4, b5⟩ (zRoom hC b6 hdep), hnm, hts _ hi⟩ ⟨zPc_blind, fun U hU hW => ⟨rfl, by rw [hU]; exact hP, hC.2.2.2.2.2.1.warm hW⟩⟩ rfl (by rw [List.length_map]; exact hn) harr (zmap_rev As (Ar (some b) :: rest)) (zMr hr) hd ⟨Nat.le_trans hc hC.2.2.2.2.2.2.2.2.2.1, Nat.le_trans hs hC.2.2.2.2.2.2.2.2.2.2⟩⟩
set_option maxHeartbeats 1000000 in
/-- invokespecial of a private constructor of a nest mate -/
theorem ZRun_IN {M M' : ZM} {pc : Nat} {As rest : List Av} {σ : ZS} {post' : Option Av → ZS → Prop} {idx n b : Nat} {host : String} (hM : ZC M' (Ar (some b) :: As) σ post') (hb : zCb M' n) (hr0 : zmr M' = none) (hl : Cond.methodLinkNest (zmy M).cls idx (zmy M') host ∈ zx) (hi : Cond.instanceMethod (zmy M') ∈ zw) (hnm : (zmy M').name = "<init>") (hn : As.length = n) (hd : decode (zmc M) pc = .ok (.invokespecial idx, 3)) (hdep : zmd M' + 1 ≤ zmd M) (hr : (rest.map fun v => if zW2 v then 2 else 1).sum ≤ 8) : ZRun M pc (As.reverse ++ Ar (some b) :: rest) rest σ M' post' := by
  intro p l e R s m args below meth c D dA hC H locs cells slots arr hP harr hc hs
  obtain ⟨b1, b2, b3, b4, b5, b6⟩ := hb
  have hts := hC.2.2.2.2.1
  exact ⟨(Value.ref b :: As.map vv).toArray, va_runIN (As := As.map vv) (rest := rest.map vv) ⟨hC.1, hC.2.1, hC.2.2.1, hC.2.2.2.1, hts⟩ (hM l D dA) ⟨va_cnB (ret := none) n hts (zGood (zws_in b1)) (by rw [zws, hr0]) rfl rfl (hC.2.2.2.2.2.1.2 _ hl) (hts _ b2) ⟨b3, b4, b5⟩ (zRoom hC b6 hdep), hnm, hts _ hi⟩ ⟨zPc_blind, fun U hU hW => ⟨rfl, by rw [hU]; exact hP, hC.2.2.2.2.2.1.warm hW⟩⟩ rfl (by rw [List.length_map]; exact hn) harr (zmap_rev As (Ar (some b) :: rest)) (zMr hr) hd ⟨Nat.le_trans hc hC.2.2.2.2.2.2.2.2.2.1, Nat.le_trans hs hC.2.2.2.2.2.2.2.2.2.2⟩⟩
theorem ZV_objInit {M : ZM} {post : Option Av → ZS → Prop} {pc n : Nat} {ls : Zl} {st : List Av} {σ : ZS} {kc ks : Nat} {idx a : Nat} (hd : decode (zmc M) pc = .ok (.invokespecial idx, 3)) (hl : Cond.methodLink (zmy M).cls idx objectInit ∈ zw) (hi : Cond.instanceMethod objectInit ∈ zw) (hco : Cond.code objectInit ⟨#[0xb1]⟩ 1 none ∈ zw) (hdep : 1 ≤ zmd M) (hr : (st.map fun v => if zW2 v then 2 else 1).sum ≤ 8) (hn : pc + 3 = n) (k : ZV M post n ls st σ kc ks) : ZV M post pc ls (Ar (some a) :: st) σ kc ks := by
  intro p l e R s m args below meth c Q D dA A hC hA hT H locs cells slots arr hP hS hD hc hs hl'
  subst hn
  have hts := hC.2.2.2.2.1
  refine W.objInit hC.1 hC.2.1 hC.2.2.2.1 (hts _ hl) (hts _ hi) (hts _ hco) rfl (by rw [hC.2.2.1]; exact hl'.1) rfl hd (Nat.le_trans hdep hC.2.2.2.2.2.2.2.1) (Nat.le_trans (by have := zMr (m := m) (pc := pc) (arr := arr) (st2 := []) hr; simp only at this ⊢; omega) hC.2.2.2.2.2.2.2.2.1) ?_
  exact k p l e R s m args below meth c Q D dA A hC hA hT H locs cells slots arr hP hS hD hc hs hl'
def M_X0_init : ZM := (yX0_init, cX0_init, 1, none, 2, 0, 0)
theorem cb_X0_init : zCb M_X0_init 0 := ⟨wd_1_139, wd_1_5, by decide, by decide, by decide +kernel, by decide⟩
def M_X0_least : ZM := (yX0_least, cX0_least, 1, (some .int), 0, 0, 0)
theorem cb_X0_least : zCb M_X0_least 0 := ⟨wd_3_49, wd_1_5, by decide, by decide, by decide +kernel, by decide⟩
def M_X0_most : ZM := (yX0_most, cX0_most, 1, (some .int), 1, 0, 0)
theorem cb_X0_most : zCb M_X0_most 0 := ⟨wd_3_67, wd_1_5, by decide, by decide, by decide +kernel, by decide⟩
def M_X1_init : ZM := (yX1_init, cX1_init, 1, none, 2, 0, 0)
theorem cb_X1_init : zCb M_X1_init 0 := ⟨wd_1_163, wd_1_8, by decide, by decide, by decide +kernel, by decide⟩
def M_X1_soundOf : ZM := (yX1_soundOf, cX1_soundOf, 2, (some .int), 0, 0, 0)
theorem cb_X1_soundOf : zCb M_X1_soundOf 1 := ⟨wd_2_179, wd_1_8, by decide, by decide, by decide +kernel, by decide⟩
def M_X2_init : ZM := (yX2_init, cX2_init, 7, none, 1, 1, 6)
theorem cb_X2_init : zCb M_X2_init 6 := ⟨wd_2_5, wd_1_11, by decide, by decide, by decide +kernel, by decide⟩
def M_X2_isNote : ZM := (yX2_isNote, cX2_isNote, 1, (some .boolean), 1, 0, 0)
theorem cb_X2_isNote : zCb M_X2_isNote 0 := ⟨wd_2_163, wd_1_11, by decide, by decide, by decide +kernel, by decide⟩
def M_X2_isWithoutTime : ZM := (yX2_isWithoutTime, cX2_isWithoutTime, 1, (some .boolean), 0, 0, 0)
theorem cb_X2_isWithoutTime : zCb M_X2_isWithoutTime 0 := ⟨wd_2_86, wd_1_11, by decide, by decide, by decide +kernel, by decide⟩
def M_X2_writtenTime : ZM := (yX2_writtenTime, cX2_writtenTime, 3, (some .long), 1, 0, 0)
theorem cb_X2_writtenTime : zCb M_X2_writtenTime 0 := ⟨wd_2_82, wd_1_11, by decide, by decide, by decide +kernel, by decide⟩
def M_X2_hasPitchAt : ZM := (yX2_hasPitchAt, cX2_hasPitchAt, 2, (some .boolean), 0, 0, 0)
theorem cb_X2_hasPitchAt : zCb M_X2_hasPitchAt 1 := ⟨wd_2_167, wd_1_11, by decide, by decide, by decide +kernel, by decide⟩
def M_X2_lowest : ZM := (yX2_lowest, cX2_lowest, 1, (some .int), 0, 0, 0)
theorem cb_X2_lowest : zCb M_X2_lowest 0 := ⟨wd_2_218, wd_1_11, by decide, by decide, by decide +kernel, by decide⟩
def M_X2_highest : ZM := (yX2_highest, cX2_highest, 1, (some .int), 0, 0, 0)
theorem cb_X2_highest : zCb M_X2_highest 0 := ⟨wd_2_151, wd_1_11, by decide, by decide, by decide +kernel, by decide⟩
def M_X2_addPitch : ZM := (yX2_addPitch, cX2_addPitch, 2, (some .boolean), 0, 0, 0)
theorem cb_X2_addPitch : zCb M_X2_addPitch 1 := ⟨wd_2_155, wd_1_11, by decide, by decide, by decide +kernel, by decide⟩
def M_X2_moveBy : ZM := (yX2_moveBy, cX2_moveBy, 4, (some .boolean), 1, 0, 0)
theorem cb_X2_moveBy : zCb M_X2_moveBy 1 := ⟨wd_2_214, wd_1_11, by decide, by decide, by decide +kernel, by decide⟩
def M_X2_hasPitch : ZM := (yX2_hasPitch, cX2_hasPitch, 3, (some .boolean), 0, 0, 0)
theorem cb_X2_hasPitch : zCb M_X2_hasPitch 1 := ⟨wd_3_224, wd_1_11, by decide, by decide, by decide +kernel, by decide⟩
def M_X2_hasAllPitchesOf : ZM := (yX2_hasAllPitchesOf, cX2_hasAllPitchesOf, 3, (some .boolean), 1, 0, 0)
theorem cb_X2_hasAllPitchesOf : zCb M_X2_hasAllPitchesOf 1 := ⟨wd_3_220, wd_1_11, by decide, by decide, by decide +kernel, by decide⟩
def M_X2_looksLike : ZM := (yX2_looksLike, cX2_looksLike, 2, (some .boolean), 2, 0, 0)
theorem cb_X2_looksLike : zCb M_X2_looksLike 1 := ⟨wd_4_21, wd_1_11, by decide, by decide, by decide +kernel, by decide⟩
def M_X3_init : ZM := (yX3_init, cX3_init, 1, none, 3, 0, 0)
theorem cb_X3_init : zCb M_X3_init 0 := ⟨wd_1_147, wd_1_6, by decide, by decide, by decide +kernel, by decide⟩
def M_X3_soundOf : ZM := (yX3_soundOf, cX3_soundOf, 2, (some .int), 1, 0, 0)
theorem cb_X3_soundOf : zCb M_X3_soundOf 1 := ⟨wd_2_183, wd_1_6, by decide, by decide, by decide +kernel, by decide⟩
def M_X4_init : ZM := (yX4_init, cX4_init, 4, none, 1, 0, 0)
theorem cb_X4_init : zCb M_X4_init 3 := ⟨wd_3_153, wd_1_14, by decide, by decide, by decide +kernel, by decide⟩
def M_X4_raises : ZM := (yX4_raises, cX4_raises, 2, (some .boolean), 0, 0, 0)
theorem cb_X4_raises : zCb M_X4_raises 1 := ⟨wd_2_206, wd_1_14, by decide, by decide, by decide +kernel, by decide⟩
def M_X5_init : ZM := (yX5_init, cX5_init, 1, none, 2, 0, 0)
theorem cb_X5_init : zCb M_X5_init 0 := ⟨wd_1_117, wd_1_4, by decide, by decide, by decide +kernel, by decide⟩
def M_X5_soundOf : ZM := (yX5_soundOf, cX5_soundOf, 2, (some .int), 1, 0, 0)
theorem cb_X5_soundOf : zCb M_X5_soundOf 1 := ⟨wd_2_190, wd_1_4, by decide, by decide, by decide +kernel, by decide⟩
def M_X6_init : ZM := (yX6_init, cX6_init, 1, none, 4, 0, 0)
theorem cb_X6_init : zCb M_X6_init 0 := ⟨wd_1_155, wd_1_7, by decide, by decide, by decide +kernel, by decide⟩
def M_X6_soundOf : ZM := (yX6_soundOf, cX6_soundOf, 2, (some .int), 2, 0, 0)
theorem cb_X6_soundOf : zCb M_X6_soundOf 1 := ⟨wd_2_195, wd_1_7, by decide, by decide, by decide +kernel, by decide⟩
def M_X6_least : ZM := (yX6_least, cX6_least, 1, (some .int), 1, 0, 0)
theorem cb_X6_least : zCb M_X6_least 0 := ⟨wd_3_55, wd_1_7, by decide, by decide, by decide +kernel, by decide⟩
def M_X7_init : ZM := (yX7_init, cX7_init, 1, none, 1, 0, 0)
theorem cb_X7_init : zCb M_X7_init 0 := ⟨wd_1_120, wd_1_3, by decide, by decide, by decide +kernel, by decide⟩
def M_X7_soundOf : ZM := (yX7_soundOf, cX7_soundOf, 2, (some .int), 0, 0, 0)
theorem cb_X7_soundOf : zCb M_X7_soundOf 1 := ⟨wd_2_198, wd_1_3, by decide, by decide, by decide +kernel, by decide⟩
def M_X7_least : ZM := (yX7_least, cX7_least, 1, (some .int), 0, 0, 0)
theorem cb_X7_least : zCb M_X7_least 0 := ⟨wd_3_60, wd_1_3, by decide, by decide, by decide +kernel, by decide⟩
def M_X7_most : ZM := (yX7_most, cX7_most, 1, (some .int), 0, 0, 0)
theorem cb_X7_most : zCb M_X7_most 0 := ⟨wd_3_73, wd_1_3, by decide, by decide, by decide +kernel, by decide⟩
def M_X8_init : ZM := (yX8_init, cX8_init, 4, none, 1, 1, 60)
theorem cb_X8_init : zCb M_X8_init 3 := ⟨wd_4_45, wd_1_15, by decide, by decide, by decide +kernel, by decide⟩
def M_X8_has : ZM := (yX8_has, cX8_has, 2, (some .boolean), 0, 0, 0)
theorem cb_X8_has : zCb M_X8_has 1 := ⟨wd_4_69, wd_1_15, by decide, by decide, by decide +kernel, by decide⟩
def M_X8_hasAll : ZM := (yX8_hasAll, cX8_hasAll, 3, (some .boolean), 0, 0, 0)
theorem cb_X8_hasAll : zCb M_X8_hasAll 2 := ⟨wd_4_84, wd_1_15, by decide, by decide, by decide +kernel, by decide⟩
def M_X8_replaceAll : ZM := (yX8_replaceAll, cX8_replaceAll, 4, none, 0, 0, 0)
theorem cb_X8_replaceAll : zCb M_X8_replaceAll 2 := ⟨wd_2_135, wd_1_15, by decide, by decide, by decide +kernel, by decide⟩
def M_X9_init : ZM := (yX9_init, cX9_init, 8, none, 1, 0, 0)
theorem cb_X9_init : zCb M_X9_init 7 := ⟨wd_3_92, wd_1_13, by decide, by decide, by decide +kernel, by decide⟩
def M_X9_covers : ZM := (yX9_covers, cX9_covers, 2, (some .boolean), 0, 0, 0)
theorem cb_X9_covers : zCb M_X9_covers 1 := ⟨wd_2_70, wd_1_13, by decide, by decide, by decide +kernel, by decide⟩
def M_X9_liesIn : ZM := (yX9_liesIn, cX9_liesIn, 3, (some .boolean), 0, 0, 0)
theorem cb_X9_liesIn : zCb M_X9_liesIn 1 := ⟨wd_3_141, wd_1_13, by decide, by decide, by decide +kernel, by decide⟩
def M_X9_crosses : ZM := (yX9_crosses, cX9_crosses, 8, (some .boolean), 0, 0, 0)
theorem cb_X9_crosses : zCb M_X9_crosses 2 := ⟨wd_3_88, wd_1_13, by decide, by decide, by decide +kernel, by decide⟩
def M_X9_makeRoom : ZM := (yX9_makeRoom, cX9_makeRoom, 2, none, 1, 0, 0)
theorem cb_X9_makeRoom : zCb M_X9_makeRoom 1 := ⟨wd_2_66, wd_1_13, by decide, by decide, by decide +kernel, by decide⟩
def M_X9_closeUp : ZM := (yX9_closeUp, cX9_closeUp, 2, none, 1, 0, 0)
theorem cb_X9_closeUp : zCb M_X9_closeUp 1 := ⟨wd_2_123, wd_1_13, by decide, by decide, by decide +kernel, by decide⟩
def M_X9_squeezed : ZM := (yX9_squeezed, cX9_squeezed, 3, (some .long), 0, 0, 0)
theorem cb_X9_squeezed : zCb M_X9_squeezed 1 := ⟨wd_2_99, wd_1_13, by decide, by decide, by decide +kernel, by decide⟩
def M_X9_squeezeEvents : ZM := (yX9_squeezeEvents, cX9_squeezeEvents, 3, none, 1, 0, 0)
theorem cb_X9_squeezeEvents : zCb M_X9_squeezeEvents 0 := ⟨wd_2_91, wd_1_13, by decide, by decide, by decide +kernel, by decide⟩
def M_X9_looksLike : ZM := (yX9_looksLike, cX9_looksLike, 2, (some .boolean), 0, 0, 0)
theorem cb_X9_looksLike : zCb M_X9_looksLike 1 := ⟨wd_4_34, wd_1_13, by decide, by decide, by decide +kernel, by decide⟩
def M_X10_init : ZM := (yX10_init, cX10_init, 3, none, 1, 1, 40)
theorem cb_X10_init : zCb M_X10_init 2 := ⟨wd_1_174, wd_1_9, by decide, by decide, by decide +kernel, by decide⟩
def M_X10_eventAt : ZM := (yX10_eventAt, cX10_eventAt, 2, (some (.object "StaveScore$Event")), 0, 0, 0)
theorem cb_X10_eventAt : zCb M_X10_eventAt 1 := ⟨wd_2_95, wd_1_9, by decide, by decide, by decide +kernel, by decide⟩
def M_X10_insert : ZM := (yX10_insert, cX10_insert, 4, none, 0, 0, 0)
theorem cb_X10_insert : zCb M_X10_insert 2 := ⟨wd_2_62, wd_1_9, by decide, by decide, by decide +kernel, by decide⟩
def M_X10_remove : ZM := (yX10_remove, cX10_remove, 3, none, 0, 0, 0)
theorem cb_X10_remove : zCb M_X10_remove 1 := ⟨wd_2_115, wd_1_9, by decide, by decide, by decide +kernel, by decide⟩
def M_X10_numberPlaces : ZM := (yX10_numberPlaces, cX10_numberPlaces, 2, none, 2, 0, 0)
theorem cb_X10_numberPlaces : zCb M_X10_numberPlaces 0 := ⟨wd_2_78, wd_1_9, by decide, by decide, by decide +kernel, by decide⟩
def M_X10_sumTimes : ZM := (yX10_sumTimes, cX10_sumTimes, 2, none, 0, 0, 0)
theorem cb_X10_sumTimes : zCb M_X10_sumTimes 0 := ⟨wd_2_103, wd_1_9, by decide, by decide, by decide +kernel, by decide⟩
def M_X10_nextForTie : ZM := (yX10_nextForTie, cX10_nextForTie, 4, (some (.object "StaveScore$Event")), 1, 0, 0)
theorem cb_X10_nextForTie : zCb M_X10_nextForTie 1 := ⟨wd_3_214, wd_1_9, by decide, by decide, by decide +kernel, by decide⟩
def M_X10_hasEventsLike : ZM := (yX10_hasEventsLike, cX10_hasEventsLike, 3, (some .boolean), 3, 0, 0)
theorem cb_X10_hasEventsLike : zCb M_X10_hasEventsLike 1 := ⟨wd_4_17, wd_1_9, by decide, by decide, by decide +kernel, by decide⟩
def M_X11_init : ZM := (yX11_init, cX11_init, 1, none, 1, 11, 800)
theorem cb_X11_init : zCb M_X11_init 0 := ⟨wd_1_22, wd_1_1, by decide, by decide, by decide +kernel, by decide⟩
def M_X11_part : ZM := (yX11_part, cX11_part, 5, (some .int), 6, 8, 200)
theorem cb_X11_part : zCb M_X11_part 1 := ⟨wd_1_101, wd_1_1, by decide, by decide, by decide +kernel, by decide⟩
def M_X11_bar : ZM := (yX11_bar, cX11_bar, 4, (some .int), 2, 0, 0)
theorem cb_X11_bar : zCb M_X11_bar 2 := ⟨wd_1_209, wd_1_1, by decide, by decide, by decide +kernel, by decide⟩
def M_X11_put : ZM := (yX11_put, cX11_put, 11, (some .int), 4, 2, 20)
theorem cb_X11_put : zCb M_X11_put 6 := ⟨wd_1_224, wd_1_1, by decide, by decide, by decide +kernel, by decide⟩
def M_X11_drop : ZM := (yX11_drop, cX11_drop, 4, (some .int), 4, 0, 0)
theorem cb_X11_drop : zCb M_X11_drop 1 := ⟨wd_2_107, wd_1_1, by decide, by decide, by decide +kernel, by decide⟩
def M_X11_chord : ZM := (yX11_chord, cX11_chord, 4, (some .int), 3, 0, 0)
theorem cb_X11_chord : zCb M_X11_chord 2 := ⟨wd_2_139, wd_1_1, by decide, by decide, by decide +kernel, by decide⟩
def M_X11_pitch : ZM := (yX11_pitch, cX11_pitch, 4, (some .int), 3, 0, 0)
theorem cb_X11_pitch : zCb M_X11_pitch 2 := ⟨wd_2_159, wd_1_1, by decide, by decide, by decide +kernel, by decide⟩
def M_X11_heard : ZM := (yX11_heard, cX11_heard, 4, (some .int), 3, 0, 0)
theorem cb_X11_heard : zCb M_X11_heard 2 := ⟨wd_2_171, wd_1_1, by decide, by decide, by decide +kernel, by decide⟩
def M_X11_shift : ZM := (yX11_shift, cX11_shift, 4, (some .int), 3, 0, 0)
theorem cb_X11_shift : zCb M_X11_shift 2 := ⟨wd_2_210, wd_1_1, by decide, by decide, by decide +kernel, by decide⟩
def M_X11_transpose : ZM := (yX11_transpose, cX11_transpose, 7, (some .int), 2, 0, 0)
theorem cb_X11_transpose : zCb M_X11_transpose 2 := ⟨wd_2_224, wd_1_1, by decide, by decide, by decide +kernel, by decide⟩
def M_X11_tie : ZM := (yX11_tie, cX11_tie, 5, (some .int), 3, 0, 0)
theorem cb_X11_tie : zCb M_X11_tie 2 := ⟨wd_2_228, wd_1_1, by decide, by decide, by decide +kernel, by decide⟩
def M_X11_value : ZM := (yX11_value, cX11_value, 5, (some .int), 4, 0, 0)
theorem cb_X11_value : zCb M_X11_value 3 := ⟨wd_2_232, wd_1_1, by decide, by decide, by decide +kernel, by decide⟩
def M_X11_at : ZM := (yX11_at, cX11_at, 4, (some .int), 2, 0, 0)
theorem cb_X11_at : zCb M_X11_at 2 := ⟨wd_2_236, wd_1_1, by decide, by decide, by decide +kernel, by decide⟩
def M_X11_time : ZM := (yX11_time, cX11_time, 4, (some .long), 3, 0, 0)
theorem cb_X11_time : zCb M_X11_time 2 := ⟨wd_3_9, wd_1_1, by decide, by decide, by decide +kernel, by decide⟩
def M_X11_length : ZM := (yX11_length, cX11_length, 4, (some .long), 3, 0, 0)
theorem cb_X11_length : zCb M_X11_length 2 := ⟨wd_3_33, wd_1_1, by decide, by decide, by decide +kernel, by decide⟩
def M_X11_event : ZM := (yX11_event, cX11_event, 5, (some .int), 2, 0, 0)
theorem cb_X11_event : zCb M_X11_event 2 := ⟨wd_3_37, wd_1_1, by decide, by decide, by decide +kernel, by decide⟩
def M_X11_asks : ZM := (yX11_asks, cX11_asks, 5, (some .int), 3, 0, 0)
theorem cb_X11_asks : zCb M_X11_asks 3 := ⟨wd_3_42, wd_1_1, by decide, by decide, by decide +kernel, by decide⟩
def M_X11_tuplet : ZM := (yX11_tuplet, cX11_tuplet, 8, (some .int), 4, 1, 7)
theorem cb_X11_tuplet : zCb M_X11_tuplet 6 := ⟨wd_3_77, wd_1_1, by decide, by decide, by decide +kernel, by decide⟩
def M_X11_untuplet : ZM := (yX11_untuplet, cX11_untuplet, 3, (some .int), 4, 0, 0)
theorem cb_X11_untuplet : zCb M_X11_untuplet 1 := ⟨wd_3_125, wd_1_1, by decide, by decide, by decide +kernel, by decide⟩
def M_X11_tupletAt : ZM := (yX11_tupletAt, cX11_tupletAt, 4, (some .int), 2, 0, 0)
theorem cb_X11_tupletAt : zCb M_X11_tupletAt 2 := ⟨wd_3_133, wd_1_1, by decide, by decide, by decide +kernel, by decide⟩
def M_X11_line : ZM := (yX11_line, cX11_line, 5, (some .int), 2, 1, 3)
theorem cb_X11_line : zCb M_X11_line 3 := ⟨wd_3_145, wd_1_1, by decide, by decide, by decide +kernel, by decide⟩
def M_X11_end : ZM := (yX11_end, cX11_end, 4, (some .int), 2, 0, 0)
theorem cb_X11_end : zCb M_X11_end 2 := ⟨wd_3_171, wd_1_1, by decide, by decide, by decide +kernel, by decide⟩
def M_X11_lineAt : ZM := (yX11_lineAt, cX11_lineAt, 4, (some .int), 2, 0, 0)
theorem cb_X11_lineAt : zCb M_X11_lineAt 2 := ⟨wd_3_179, wd_1_1, by decide, by decide, by decide +kernel, by decide⟩
def M_X11_walk : ZM := (yX11_walk, cX11_walk, 4, (some .int), 2, 0, 0)
theorem cb_X11_walk : zCb M_X11_walk 0 := ⟨wd_3_183, wd_1_1, by decide, by decide, by decide +kernel, by decide⟩
def M_X11_walked : ZM := (yX11_walked, cX11_walked, 2, (some .int), 1, 0, 0)
theorem cb_X11_walked : zCb M_X11_walked 1 := ⟨wd_3_191, wd_1_1, by decide, by decide, by decide +kernel, by decide⟩
def M_X11_check : ZM := (yX11_check, cX11_check, 3, (some .int), 6, 0, 0)
theorem cb_X11_check : zCb M_X11_check 0 := ⟨wd_3_195, wd_1_1, by decide, by decide, by decide +kernel, by decide⟩
def M_X11_finding : ZM := (yX11_finding, cX11_finding, 3, (some .int), 2, 0, 0)
theorem cb_X11_finding : zCb M_X11_finding 2 := ⟨wd_4_6, wd_1_1, by decide, by decide, by decide +kernel, by decide⟩
def M_X11_equal : ZM := (yX11_equal, cX11_equal, 5, (some .int), 4, 0, 0)
theorem cb_X11_equal : zCb M_X11_equal 2 := ⟨wd_4_13, wd_1_1, by decide, by decide, by decide +kernel, by decide⟩
def M_X11_rack : ZM := (yX11_rack, cX11_rack, 4, (some .int), 3, 2, 62)
theorem cb_X11_rack : zCb M_X11_rack 3 := ⟨wd_4_38, wd_1_1, by decide, by decide, by decide +kernel, by decide⟩
def M_X11_hold : ZM := (yX11_hold, cX11_hold, 6, (some .int), 3, 0, 0)
theorem cb_X11_hold : zCb M_X11_hold 3 := ⟨wd_4_65, wd_1_1, by decide, by decide, by decide +kernel, by decide⟩
def M_X11_held : ZM := (yX11_held, cX11_held, 4, (some .int), 3, 0, 0)
theorem cb_X11_held : zCb M_X11_held 2 := ⟨wd_4_76, wd_1_1, by decide, by decide, by decide +kernel, by decide⟩
def M_X11_slide : ZM := (yX11_slide, cX11_slide, 6, (some .int), 3, 0, 0)
theorem cb_X11_slide : zCb M_X11_slide 4 := ⟨wd_4_80, wd_1_1, by decide, by decide, by decide +kernel, by decide⟩
def M_X11_shelf : ZM := (yX11_shelf, cX11_shelf, 4, (some .int), 3, 2, 62)
theorem cb_X11_shelf : zCb M_X11_shelf 3 := ⟨wd_4_91, wd_1_1, by decide, by decide, by decide +kernel, by decide⟩
def M_X11_lay : ZM := (yX11_lay, cX11_lay, 5, (some .int), 4, 0, 0)
theorem cb_X11_lay : zCb M_X11_lay 4 := ⟨wd_4_95, wd_1_1, by decide, by decide, by decide +kernel, by decide⟩
def M_X11_item : ZM := (yX11_item, cX11_item, 4, (some .int), 2, 0, 0)
theorem cb_X11_item : zCb M_X11_item 2 := ⟨wd_4_114, wd_1_1, by decide, by decide, by decide +kernel, by decide⟩
def M_X11_lift : ZM := (yX11_lift, cX11_lift, 5, (some .int), 3, 0, 0)
theorem cb_X11_lift : zCb M_X11_lift 3 := ⟨wd_4_118, wd_1_1, by decide, by decide, by decide +kernel, by decide⟩
def M_X11_copy : ZM := (yX11_copy, cX11_copy, 8, (some .int), 3, 0, 0)
theorem cb_X11_copy : zCb M_X11_copy 5 := ⟨wd_4_122, wd_1_1, by decide, by decide, by decide +kernel, by decide⟩
def M_X11_play : ZM := (yX11_play, cX11_play, 8, (some .int), 2, 0, 0)
theorem cb_X11_play : zCb M_X11_play 2 := ⟨wd_4_126, wd_1_1, by decide, by decide, by decide +kernel, by decide⟩
def M_X11_failures : ZM := (yX11_failures, cX11_failures, 2, (some .int), 0, 0, 0)
theorem cb_X11_failures : zCb M_X11_failures 1 := ⟨wd_4_130, wd_1_1, by decide, by decide, by decide +kernel, by decide⟩
def M_X11_status : ZM := (yX11_status, cX11_status, 1, (some .int), 0, 0, 0)
theorem cb_X11_status : zCb M_X11_status 0 := ⟨wd_4_134, wd_1_1, by decide, by decide, by decide +kernel, by decide⟩
def M_X11_trace : ZM := (yX11_trace, cX11_trace, 4, (some .long), 0, 0, 0)
theorem cb_X11_trace : zCb M_X11_trace 0 := ⟨wd_4_138, wd_1_1, by decide, by decide, by decide +kernel, by decide⟩
def M_X11_count : ZM := (yX11_count, cX11_count, 2, (some .int), 1, 0, 0)
theorem cb_X11_count : zCb M_X11_count 1 := ⟨wd_4_142, wd_1_1, by decide, by decide, by decide +kernel, by decide⟩
def M_X11_done : ZM := (yX11_done, cX11_done, 2, (some .int), 0, 0, 0)
theorem cb_X11_done : zCb M_X11_done 1 := ⟨wd_1_205, wd_1_1, by decide, by decide, by decide +kernel, by decide⟩
def M_X11_doneLong : ZM := (yX11_doneLong, cX11_doneLong, 3, (some .long), 0, 0, 0)
theorem cb_X11_doneLong : zCb M_X11_doneLong 1 := ⟨wd_3_22, wd_1_1, by decide, by decide, by decide +kernel, by decide⟩
def M_X11_refuse : ZM := (yX11_refuse, cX11_refuse, 2, (some .int), 1, 0, 0)
theorem cb_X11_refuse : zCb M_X11_refuse 1 := ⟨wd_1_105, wd_1_1, by decide, by decide, by decide +kernel, by decide⟩
def M_X11_refuseTelling : ZM := (yX11_refuseTelling, cX11_refuseTelling, 3, (some .int), 0, 0, 0)
theorem cb_X11_refuseTelling : zCb M_X11_refuseTelling 2 := ⟨wd_1_109, wd_1_1, by decide, by decide, by decide +kernel, by decide⟩
def M_X11_fail : ZM := (yX11_fail, cX11_fail, 2, (some .int), 2, 0, 0)
theorem cb_X11_fail : zCb M_X11_fail 1 := ⟨wd_2_143, wd_1_1, by decide, by decide, by decide +kernel, by decide⟩
def M_X11_failTelling : ZM := (yX11_failTelling, cX11_failTelling, 4, (some .int), 1, 0, 0)
theorem cb_X11_failTelling : zCb M_X11_failTelling 2 := ⟨wd_2_147, wd_1_1, by decide, by decide, by decide +kernel, by decide⟩
def M_X11_isNoteKind : ZM := (yX11_isNoteKind, cX11_isNoteKind, 1, (some .boolean), 0, 0, 0)
theorem cb_X11_isNoteKind : zCb M_X11_isNoteKind 1 := ⟨wd_1_231, wd_1_1, by decide, by decide, by decide +kernel, by decide⟩
def M_X11_isPitch : ZM := (yX11_isPitch, cX11_isPitch, 2, (some .boolean), 0, 0, 0)
theorem cb_X11_isPitch : zCb M_X11_isPitch 1 := ⟨wd_1_234, wd_1_1, by decide, by decide, by decide +kernel, by decide⟩
def M_X11_isValue : ZM := (yX11_isValue, cX11_isValue, 1, (some .boolean), 0, 0, 0)
theorem cb_X11_isValue : zCb M_X11_isValue 1 := ⟨wd_1_238, wd_1_1, by decide, by decide, by decide +kernel, by decide⟩
def M_X11_isDots : ZM := (yX11_isDots, cX11_isDots, 1, (some .boolean), 0, 0, 0)
theorem cb_X11_isDots : zCb M_X11_isDots 1 := ⟨wd_2_1, wd_1_1, by decide, by decide, by decide +kernel, by decide⟩
def M_X11_isTupletN : ZM := (yX11_isTupletN, cX11_isTupletN, 1, (some .boolean), 0, 0, 0)
theorem cb_X11_isTupletN : zCb M_X11_isTupletN 1 := ⟨wd_3_80, wd_1_1, by decide, by decide, by decide +kernel, by decide⟩
def M_X11_isRowNumber : ZM := (yX11_isRowNumber, cX11_isRowNumber, 1, (some .boolean), 0, 0, 0)
theorem cb_X11_isRowNumber : zCb M_X11_isRowNumber 1 := ⟨wd_4_41, wd_1_1, by decide, by decide, by decide +kernel, by decide⟩
def M_X11_isLineEnd : ZM := (yX11_isLineEnd, cX11_isLineEnd, 2, (some .boolean), 1, 0, 0)
theorem cb_X11_isLineEnd : zCb M_X11_isLineEnd 1 := ⟨wd_3_149, wd_1_1, by decide, by decide, by decide +kernel, by decide⟩
def M_X11_voiceOf : ZM := (yX11_voiceOf, cX11_voiceOf, 2, (some (.object "StaveScore$Voice")), 0, 0, 0)
theorem cb_X11_voiceOf : zCb M_X11_voiceOf 1 := ⟨wd_1_228, wd_1_1, by decide, by decide, by decide +kernel, by decide⟩
def M_X11_eventOf : ZM := (yX11_eventOf, cX11_eventOf, 2, (some (.object "StaveScore$Event")), 0, 0, 0)
theorem cb_X11_eventOf : zCb M_X11_eventOf 1 := ⟨wd_2_111, wd_1_1, by decide, by decide, by decide +kernel, by decide⟩
def M_X11_tupletOf : ZM := (yX11_tupletOf, cX11_tupletOf, 2, (some (.object "StaveScore$Tuplet")), 0, 0, 0)
theorem cb_X11_tupletOf : zCb M_X11_tupletOf 1 := ⟨wd_3_129, wd_1_1, by decide, by decide, by decide +kernel, by decide⟩
def M_X11_lineOf : ZM := (yX11_lineOf, cX11_lineOf, 2, (some (.object "StaveScore$Line")), 0, 0, 0)
theorem cb_X11_lineOf : zCb M_X11_lineOf 1 := ⟨wd_3_175, wd_1_1, by decide, by decide, by decide +kernel, by decide⟩
def M_X11_eventsThere : ZM := (yX11_eventsThere, cX11_eventsThere, 3, (some .int), 0, 0, 0)
theorem cb_X11_eventsThere : zCb M_X11_eventsThere 0 := ⟨wd_4_146, wd_1_1, by decide, by decide, by decide +kernel, by decide⟩
def M_X11_tupletsThere : ZM := (yX11_tupletsThere, cX11_tupletsThere, 3, (some .int), 0, 0, 0)
theorem cb_X11_tupletsThere : zCb M_X11_tupletsThere 0 := ⟨wd_4_150, wd_1_1, by decide, by decide, by decide +kernel, by decide⟩
def M_X11_linesThere : ZM := (yX11_linesThere, cX11_linesThere, 3, (some .int), 0, 0, 0)
theorem cb_X11_linesThere : zCb M_X11_linesThere 0 := ⟨wd_4_154, wd_1_1, by decide, by decide, by decide +kernel, by decide⟩
def M_X11_newInstrument : ZM := (yX11_newInstrument, cX11_newInstrument, 1, (some (.object "StaveScore$Plain")), 5, 1, 1)
theorem cb_X11_newInstrument : zCb M_X11_newInstrument 1 := ⟨wd_1_112, wd_1_1, by decide, by decide, by decide +kernel, by decide⟩
def M_X11_raiseOf : ZM := (yX11_raiseOf, cX11_raiseOf, 4, (some .int), 1, 0, 0)
theorem cb_X11_raiseOf : zCb M_X11_raiseOf 1 := ⟨wd_2_202, wd_1_1, by decide, by decide, by decide +kernel, by decide⟩
def M_X11_layOut : ZM := (yX11_layOut, cX11_layOut, 3, none, 3, 0, 0)
theorem cb_X11_layOut : zCb M_X11_layOut 1 := ⟨wd_2_74, wd_1_1, by decide, by decide, by decide +kernel, by decide⟩
def M_X11_barBegin : ZM := (yX11_barBegin, cX11_barBegin, 2, (some .long), 0, 0, 0)
theorem cb_X11_barBegin : zCb M_X11_barBegin 1 := ⟨wd_1_219, wd_1_1, by decide, by decide, by decide +kernel, by decide⟩
def M_X11_barAround : ZM := (yX11_barAround, cX11_barAround, 4, (some .int), 0, 0, 0)
theorem cb_X11_barAround : zCb M_X11_barAround 1 := ⟨wd_3_5, wd_1_1, by decide, by decide, by decide +kernel, by decide⟩
def M_X11_sinceBar : ZM := (yX11_sinceBar, cX11_sinceBar, 4, (some .long), 1, 0, 0)
theorem cb_X11_sinceBar : zCb M_X11_sinceBar 1 := ⟨wd_3_29, wd_1_1, by decide, by decide, by decide +kernel, by decide⟩
def M_X11_upOf : ZM := (yX11_upOf, cX11_upOf, 2, (some .long), 2, 0, 0)
theorem cb_X11_upOf : zCb M_X11_upOf 1 := ⟨wd_3_12, wd_1_1, by decide, by decide, by decide +kernel, by decide⟩
def M_X11_downOf : ZM := (yX11_downOf, cX11_downOf, 2, (some .long), 2, 0, 0)
theorem cb_X11_downOf : zCb M_X11_downOf 1 := ⟨wd_3_25, wd_1_1, by decide, by decide, by decide +kernel, by decide⟩
def M_X11_divisorOf : ZM := (yX11_divisorOf, cX11_divisorOf, 9, (some .long), 1, 0, 0)
theorem cb_X11_divisorOf : zCb M_X11_divisorOf 1 := ⟨wd_3_15, wd_1_1, by decide, by decide, by decide +kernel, by decide⟩
def M_X11_dropFromTuplets : ZM := (yX11_dropFromTuplets, cX11_dropFromTuplets, 5, none, 2, 0, 0)
theorem cb_X11_dropFromTuplets : zCb M_X11_dropFromTuplets 2 := ⟨wd_2_119, wd_1_1, by decide, by decide, by decide +kernel, by decide⟩
def M_X11_dropFromLines : ZM := (yX11_dropFromLines, cX11_dropFromLines, 4, none, 0, 0, 0)
theorem cb_X11_dropFromLines : zCb M_X11_dropFromLines 1 := ⟨wd_2_127, wd_1_1, by decide, by decide, by decide +kernel, by decide⟩
def M_X11_dropFromRacks : ZM := (yX11_dropFromRacks, cX11_dropFromRacks, 3, none, 1, 0, 0)
theorem cb_X11_dropFromRacks : zCb M_X11_dropFromRacks 1 := ⟨wd_2_131, wd_1_1, by decide, by decide, by decide +kernel, by decide⟩
def M_X11_tupletsOver : ZM := (yX11_tupletsOver, cX11_tupletsOver, 6, (some .int), 1, 0, 0)
theorem cb_X11_tupletsOver : zCb M_X11_tupletsOver 2 := ⟨wd_3_0, wd_1_1, by decide, by decide, by decide +kernel, by decide⟩
def M_X11_tupletsAround : ZM := (yX11_tupletsAround, cX11_tupletsAround, 4, (some .int), 1, 0, 0)
theorem cb_X11_tupletsAround : zCb M_X11_tupletsAround 1 := ⟨wd_3_137, wd_1_1, by decide, by decide, by decide +kernel, by decide⟩
def M_X11_tupletFits : ZM := (yX11_tupletFits, cX11_tupletFits, 5, (some .boolean), 2, 0, 0)
theorem cb_X11_tupletFits : zCb M_X11_tupletFits 3 := ⟨wd_3_84, wd_1_1, by decide, by decide, by decide +kernel, by decide⟩
def M_X11_innerAt : ZM := (yX11_innerAt, cX11_innerAt, 4, (some (.object "StaveScore$Tuplet")), 1, 0, 0)
theorem cb_X11_innerAt : zCb M_X11_innerAt 2 := ⟨wd_3_236, wd_1_1, by decide, by decide, by decide +kernel, by decide⟩
def M_X11_tupletIsFull : ZM := (yX11_tupletIsFull, cX11_tupletIsFull, 7, (some .boolean), 2, 0, 0)
theorem cb_X11_tupletIsFull : zCb M_X11_tupletIsFull 1 := ⟨wd_3_232, wd_1_1, by decide, by decide, by decide +kernel, by decide⟩
def M_X11_tupletsAlike : ZM := (yX11_tupletsAlike, cX11_tupletsAlike, 6, (some .boolean), 1, 0, 0)
theorem cb_X11_tupletsAlike : zCb M_X11_tupletsAlike 2 := ⟨wd_4_26, wd_1_1, by decide, by decide, by decide +kernel, by decide⟩
def M_X11_nextTuplet : ZM := (yX11_nextTuplet, cX11_nextTuplet, 4, (some .int), 0, 0, 0)
theorem cb_X11_nextTuplet : zCb M_X11_nextTuplet 2 := ⟨wd_4_30, wd_1_1, by decide, by decide, by decide +kernel, by decide⟩
def M_X11_nextToWalk : ZM := (yX11_nextToWalk, cX11_nextToWalk, 5, (some (.object "StaveScore$Event")), 1, 0, 0)
theorem cb_X11_nextToWalk : zCb M_X11_nextToWalk 1 := ⟨wd_3_187, wd_1_1, by decide, by decide, by decide +kernel, by decide⟩
def M_X11_findInVoice : ZM := (yX11_findInVoice, cX11_findInVoice, 3, none, 5, 0, 0)
theorem cb_X11_findInVoice : zCb M_X11_findInVoice 1 := ⟨wd_3_199, wd_1_1, by decide, by decide, by decide +kernel, by decide⟩
def M_X11_findInEvent : ZM := (yX11_findInEvent, cX11_findInEvent, 3, none, 4, 0, 0)
theorem cb_X11_findInEvent : zCb M_X11_findInEvent 1 := ⟨wd_3_203, wd_1_1, by decide, by decide, by decide +kernel, by decide⟩
def M_X11_tieIsMet : ZM := (yX11_tieIsMet, cX11_tieIsMet, 2, (some .boolean), 2, 0, 0)
theorem cb_X11_tieIsMet : zCb M_X11_tieIsMet 1 := ⟨wd_3_210, wd_1_1, by decide, by decide, by decide +kernel, by decide⟩
def M_X11_isOutOfRange : ZM := (yX11_isOutOfRange, cX11_isOutOfRange, 6, (some .boolean), 3, 0, 0)
theorem cb_X11_isOutOfRange : zCb M_X11_isOutOfRange 1 := ⟨wd_3_228, wd_1_1, by decide, by decide, by decide +kernel, by decide⟩
def M_X11_findInLine : ZM := (yX11_findInLine, cX11_findInLine, 3, none, 1, 0, 0)
theorem cb_X11_findInLine : zCb M_X11_findInLine 2 := ⟨wd_4_2, wd_1_1, by decide, by decide, by decide +kernel, by decide⟩
def M_X11_addFinding : ZM := (yX11_addFinding, cX11_addFinding, 5, none, 0, 0, 0)
theorem cb_X11_addFinding : zCb M_X11_addFinding 3 := ⟨wd_3_207, wd_1_1, by decide, by decide, by decide +kernel, by decide⟩
def M_X11_rackTakes : ZM := (yX11_rackTakes, cX11_rackTakes, 2, (some .boolean), 2, 0, 0)
theorem cb_X11_rackTakes : zCb M_X11_rackTakes 2 := ⟨wd_4_72, wd_1_1, by decide, by decide, by decide +kernel, by decide⟩
def M_X11_lowestBits : ZM := (yX11_lowestBits, cX11_lowestBits, 2, (some .int), 0, 0, 0)
theorem cb_X11_lowestBits : zCb M_X11_lowestBits 2 := ⟨wd_4_106, wd_1_1, by decide, by decide, by decide +kernel, by decide⟩
def M_X11_layVoice : ZM := (yX11_layVoice, cX11_layVoice, 7, (some .int), 3, 0, 0)
theorem cb_X11_layVoice : zCb M_X11_layVoice 3 := ⟨wd_4_110, wd_1_1, by decide, by decide, by decide +kernel, by decide⟩
def M_X11_layRack : ZM := (yX11_layRack, cX11_layRack, 7, (some .int), 3, 0, 0)
theorem cb_X11_layRack : zCb M_X11_layRack 3 := ⟨wd_4_99, wd_1_1, by decide, by decide, by decide +kernel, by decide⟩
def M_X11_layOne : ZM := (yX11_layOne, cX11_layOne, 3, (some .int), 2, 0, 0)
theorem cb_X11_layOne : zCb M_X11_layOne 3 := ⟨wd_4_102, wd_1_1, by decide, by decide, by decide +kernel, by decide⟩
def M_X12_init : ZM := (yX12_init, cX12_init, 1, none, 1, 60, 5000)
theorem cb_X12_init : zCb M_X12_init 0 := ⟨wd_4_159, wd_1_2, by decide, by decide, by decide +kernel, by decide⟩
def M_X12_in : ZM := (yX12_in, cX12_in, 6, (some .boolean), 0, 0, 0)
theorem cb_X12_in : zCb M_X12_in 3 := ⟨wd_5_87, wd_1_2, by decide, by decide, by decide +kernel, by decide⟩
def M_X12_begin : ZM := (yX12_begin, cX12_begin, 1, none, 0, 0, 0)
theorem cb_X12_begin : zCb M_X12_begin 0 := ⟨wd_5_83, wd_1_2, by decide, by decide, by decide +kernel, by decide⟩
def M_X12_no : ZM := (yX12_no, cX12_no, 2, (some .int), 0, 0, 0)
theorem cb_X12_no : zCb M_X12_no 1 := ⟨wd_5_91, wd_1_2, by decide, by decide, by decide +kernel, by decide⟩
def M_X12_fails : ZM := (yX12_fails, cX12_fails, 2, (some .int), 1, 0, 0)
theorem cb_X12_fails : zCb M_X12_fails 1 := ⟨wd_5_148, wd_1_2, by decide, by decide, by decide +kernel, by decide⟩
def M_X12_isVoice : ZM := (yX12_isVoice, cX12_isVoice, 2, (some .boolean), 1, 0, 0)
theorem cb_X12_isVoice : zCb M_X12_isVoice 1 := ⟨wd_5_127, wd_1_2, by decide, by decide, by decide +kernel, by decide⟩
def M_X12_isEvent : ZM := (yX12_isEvent, cX12_isEvent, 2, (some .boolean), 1, 0, 0)
theorem cb_X12_isEvent : zCb M_X12_isEvent 1 := ⟨wd_5_136, wd_1_2, by decide, by decide, by decide +kernel, by decide⟩
def M_X12_isNote : ZM := (yX12_isNote, cX12_isNote, 2, (some .boolean), 0, 0, 0)
theorem cb_X12_isNote : zCb M_X12_isNote 1 := ⟨wd_5_156, wd_1_2, by decide, by decide, by decide +kernel, by decide⟩
def M_X12_placeOf : ZM := (yX12_placeOf, cX12_placeOf, 4, (some .int), 0, 0, 0)
theorem cb_X12_placeOf : zCb M_X12_placeOf 1 := ⟨wd_5_140, wd_1_2, by decide, by decide, by decide +kernel, by decide⟩
def M_X12_part : ZM := (yX12_part, cX12_part, 2, (some .int), 1, 0, 0)
theorem cb_X12_part : zCb M_X12_part 1 := ⟨wd_5_79, wd_1_2, by decide, by decide, by decide +kernel, by decide⟩
def M_X12_bar : ZM := (yX12_bar, cX12_bar, 4, (some .int), 1, 0, 0)
theorem cb_X12_bar : zCb M_X12_bar 2 := ⟨wd_5_95, wd_1_2, by decide, by decide, by decide +kernel, by decide⟩
def M_X12_sounds : ZM := (yX12_sounds, cX12_sounds, 3, (some .int), 0, 0, 0)
theorem cb_X12_sounds : zCb M_X12_sounds 2 := ⟨wd_5_106, wd_1_2, by decide, by decide, by decide +kernel, by decide⟩
def M_X12_leastOf : ZM := (yX12_leastOf, cX12_leastOf, 2, (some .int), 0, 0, 0)
theorem cb_X12_leastOf : zCb M_X12_leastOf 1 := ⟨wd_5_114, wd_1_2, by decide, by decide, by decide +kernel, by decide⟩
def M_X12_mostOf : ZM := (yX12_mostOf, cX12_mostOf, 1, (some .int), 1, 0, 0)
theorem cb_X12_mostOf : zCb M_X12_mostOf 1 := ⟨wd_5_118, wd_1_2, by decide, by decide, by decide +kernel, by decide⟩
def M_X12_asks : ZM := (yX12_asks, cX12_asks, 5, (some .int), 2, 0, 0)
theorem cb_X12_asks : zCb M_X12_asks 3 := ⟨wd_5_101, wd_1_2, by decide, by decide, by decide +kernel, by decide⟩
def M_X12_put : ZM := (yX12_put, cX12_put, 9, (some .int), 2, 0, 0)
theorem cb_X12_put : zCb M_X12_put 6 := ⟨wd_5_123, wd_1_2, by decide, by decide, by decide +kernel, by decide⟩
def M_X12_drop : ZM := (yX12_drop, cX12_drop, 5, (some .int), 2, 0, 0)
theorem cb_X12_drop : zCb M_X12_drop 1 := ⟨wd_5_132, wd_1_2, by decide, by decide, by decide +kernel, by decide⟩
def M_X12_chord : ZM := (yX12_chord, cX12_chord, 4, (some .int), 2, 0, 0)
theorem cb_X12_chord : zCb M_X12_chord 2 := ⟨wd_5_144, wd_1_2, by decide, by decide, by decide +kernel, by decide⟩
def M_X12_pitch : ZM := (yX12_pitch, cX12_pitch, 3, (some .int), 2, 0, 0)
theorem cb_X12_pitch : zCb M_X12_pitch 2 := ⟨wd_5_152, wd_1_2, by decide, by decide, by decide +kernel, by decide⟩
def M_X12_liftOf : ZM := (yX12_liftOf, cX12_liftOf, 5, (some .int), 1, 0, 0)
theorem cb_X12_liftOf : zCb M_X12_liftOf 1 := ⟨wd_5_168, wd_1_2, by decide, by decide, by decide +kernel, by decide⟩
def M_X12_heardOf : ZM := (yX12_heardOf, cX12_heardOf, 3, (some .int), 2, 0, 0)
theorem cb_X12_heardOf : zCb M_X12_heardOf 2 := ⟨wd_5_164, wd_1_2, by decide, by decide, by decide +kernel, by decide⟩
def M_X12_heard : ZM := (yX12_heard, cX12_heard, 4, (some .int), 3, 0, 0)
theorem cb_X12_heard : zCb M_X12_heard 2 := ⟨wd_5_160, wd_1_2, by decide, by decide, by decide +kernel, by decide⟩
def M_X12_mayShift : ZM := (yX12_mayShift, cX12_mayShift, 4, (some .boolean), 0, 0, 0)
theorem cb_X12_mayShift : zCb M_X12_mayShift 2 := ⟨wd_5_176, wd_1_2, by decide, by decide, by decide +kernel, by decide⟩
def M_X12_shifts : ZM := (yX12_shifts, cX12_shifts, 4, none, 0, 0, 0)
theorem cb_X12_shifts : zCb M_X12_shifts 2 := ⟨wd_5_180, wd_1_2, by decide, by decide, by decide +kernel, by decide⟩
def M_X12_shift : ZM := (yX12_shift, cX12_shift, 3, (some .int), 2, 0, 0)
theorem cb_X12_shift : zCb M_X12_shift 2 := ⟨wd_5_172, wd_1_2, by decide, by decide, by decide +kernel, by decide⟩
def M_X12_transpose : ZM := (yX12_transpose, cX12_transpose, 7, (some .int), 2, 0, 0)
theorem cb_X12_transpose : zCb M_X12_transpose 2 := ⟨wd_5_184, wd_1_2, by decide, by decide, by decide +kernel, by decide⟩
def M_X12_tie : ZM := (yX12_tie, cX12_tie, 4, (some .int), 2, 0, 0)
theorem cb_X12_tie : zCb M_X12_tie 2 := ⟨wd_5_188, wd_1_2, by decide, by decide, by decide +kernel, by decide⟩
def M_X12_value : ZM := (yX12_value, cX12_value, 4, (some .int), 2, 0, 0)
theorem cb_X12_value : zCb M_X12_value 3 := ⟨wd_5_192, wd_1_2, by decide, by decide, by decide +kernel, by decide⟩
def M_X12_writtenOf : ZM := (yX12_writtenOf, cX12_writtenOf, 4, (some .long), 0, 0, 0)
theorem cb_X12_writtenOf : zCb M_X12_writtenOf 1 := ⟨wd_5_217, wd_1_2, by decide, by decide, by decide +kernel, by decide⟩
def M_X12_liesIn : ZM := (yX12_liesIn, cX12_liesIn, 4, (some .boolean), 1, 0, 0)
theorem cb_X12_liesIn : zCb M_X12_liesIn 2 := ⟨wd_5_205, wd_1_2, by decide, by decide, by decide +kernel, by decide⟩
def M_X12_timeOf : ZM := (yX12_timeOf, cX12_timeOf, 5, (some .long), 2, 0, 0)
theorem cb_X12_timeOf : zCb M_X12_timeOf 1 := ⟨wd_5_213, wd_1_2, by decide, by decide, by decide +kernel, by decide⟩
def M_X12_beginOf : ZM := (yX12_beginOf, cX12_beginOf, 6, (some .long), 3, 0, 0)
theorem cb_X12_beginOf : zCb M_X12_beginOf 1 := ⟨wd_5_209, wd_1_2, by decide, by decide, by decide +kernel, by decide⟩
def M_X12_lengthOf : ZM := (yX12_lengthOf, cX12_lengthOf, 5, (some .long), 3, 0, 0)
theorem cb_X12_lengthOf : zCb M_X12_lengthOf 1 := ⟨wd_6_5, wd_1_2, by decide, by decide, by decide +kernel, by decide⟩
def M_X12_barAt : ZM := (yX12_barAt, cX12_barAt, 5, (some .long), 0, 0, 0)
theorem cb_X12_barAt : zCb M_X12_barAt 1 := ⟨wd_5_227, wd_1_2, by decide, by decide, by decide +kernel, by decide⟩
def M_X12_barOf : ZM := (yX12_barOf, cX12_barOf, 4, (some .int), 1, 0, 0)
theorem cb_X12_barOf : zCb M_X12_barOf 1 := ⟨wd_5_223, wd_1_2, by decide, by decide, by decide +kernel, by decide⟩
def M_X12_divisor : ZM := (yX12_divisor, cX12_divisor, 10, (some .long), 0, 0, 0)
theorem cb_X12_divisor : zCb M_X12_divisor 2 := ⟨wd_5_237, wd_1_2, by decide, by decide, by decide +kernel, by decide⟩
def M_X12_fraction : ZM := (yX12_fraction, cX12_fraction, 5, (some .long), 1, 0, 0)
theorem cb_X12_fraction : zCb M_X12_fraction 2 := ⟨wd_5_234, wd_1_2, by decide, by decide, by decide +kernel, by decide⟩
def M_X12_at : ZM := (yX12_at, cX12_at, 3, (some .int), 4, 0, 0)
theorem cb_X12_at : zCb M_X12_at 2 := ⟨wd_5_196, wd_1_2, by decide, by decide, by decide +kernel, by decide⟩
def M_X12_tupletsOf : ZM := (yX12_tupletsOf, cX12_tupletsOf, 4, (some .int), 2, 0, 0)
theorem cb_X12_tupletsOf : zCb M_X12_tupletsOf 1 := ⟨wd_5_201, wd_1_2, by decide, by decide, by decide +kernel, by decide⟩
def M_X12_time : ZM := (yX12_time, cX12_time, 8, (some .long), 4, 0, 0)
theorem cb_X12_time : zCb M_X12_time 2 := ⟨wd_5_231, wd_1_2, by decide, by decide, by decide +kernel, by decide⟩
def M_X12_length : ZM := (yX12_length, cX12_length, 3, (some .long), 4, 0, 0)
theorem cb_X12_length : zCb M_X12_length 2 := ⟨wd_6_1, wd_1_2, by decide, by decide, by decide +kernel, by decide⟩
def M_X12_event : ZM := (yX12_event, cX12_event, 3, (some .int), 2, 0, 0)
theorem cb_X12_event : zCb M_X12_event 2 := ⟨wd_6_9, wd_1_2, by decide, by decide, by decide +kernel, by decide⟩
def M_X12_tuplet : ZM := (yX12_tuplet, cX12_tuplet, 13, (some .int), 3, 0, 0)
theorem cb_X12_tuplet : zCb M_X12_tuplet 6 := ⟨wd_6_13, wd_1_2, by decide, by decide, by decide +kernel, by decide⟩
def M_X12_hasTuplet : ZM := (yX12_hasTuplet, cX12_hasTuplet, 2, (some .boolean), 1, 0, 0)
theorem cb_X12_hasTuplet : zCb M_X12_hasTuplet 1 := ⟨wd_6_21, wd_1_2, by decide, by decide, by decide +kernel, by decide⟩
def M_X12_sizeOf : ZM := (yX12_sizeOf, cX12_sizeOf, 2, (some .int), 1, 0, 0)
theorem cb_X12_sizeOf : zCb M_X12_sizeOf 1 := ⟨wd_6_25, wd_1_2, by decide, by decide, by decide +kernel, by decide⟩
def M_X12_untuplet : ZM := (yX12_untuplet, cX12_untuplet, 3, (some .int), 2, 0, 0)
theorem cb_X12_untuplet : zCb M_X12_untuplet 1 := ⟨wd_6_17, wd_1_2, by decide, by decide, by decide +kernel, by decide⟩
def M_X12_isInner : ZM := (yX12_isInner, cX12_isInner, 4, (some .boolean), 2, 0, 0)
theorem cb_X12_isInner : zCb M_X12_isInner 2 := ⟨wd_6_34, wd_1_2, by decide, by decide, by decide +kernel, by decide⟩
def M_X12_tupletAt : ZM := (yX12_tupletAt, cX12_tupletAt, 5, (some .int), 3, 0, 0)
theorem cb_X12_tupletAt : zCb M_X12_tupletAt 2 := ⟨wd_6_29, wd_1_2, by decide, by decide, by decide +kernel, by decide⟩
def M_X12_hasLine : ZM := (yX12_hasLine, cX12_hasLine, 2, (some .boolean), 1, 0, 0)
theorem cb_X12_hasLine : zCb M_X12_hasLine 1 := ⟨wd_6_46, wd_1_2, by decide, by decide, by decide +kernel, by decide⟩
def M_X12_line : ZM := (yX12_line, cX12_line, 4, (some .int), 2, 0, 0)
theorem cb_X12_line : zCb M_X12_line 3 := ⟨wd_6_38, wd_1_2, by decide, by decide, by decide +kernel, by decide⟩
def M_X12_end : ZM := (yX12_end, cX12_end, 3, (some .int), 2, 0, 0)
theorem cb_X12_end : zCb M_X12_end 2 := ⟨wd_6_42, wd_1_2, by decide, by decide, by decide +kernel, by decide⟩
def M_X12_lineAt : ZM := (yX12_lineAt, cX12_lineAt, 3, (some .int), 2, 0, 0)
theorem cb_X12_lineAt : zCb M_X12_lineAt 2 := ⟨wd_6_50, wd_1_2, by decide, by decide, by decide +kernel, by decide⟩
def M_X12_walk : ZM := (yX12_walk, cX12_walk, 7, (some .int), 3, 0, 0)
theorem cb_X12_walk : zCb M_X12_walk 0 := ⟨wd_6_54, wd_1_2, by decide, by decide, by decide +kernel, by decide⟩
def M_X12_walked : ZM := (yX12_walked, cX12_walked, 2, (some .int), 1, 0, 0)
theorem cb_X12_walked : zCb M_X12_walked 1 := ⟨wd_6_58, wd_1_2, by decide, by decide, by decide +kernel, by decide⟩
def M_X12_finds : ZM := (yX12_finds, cX12_finds, 4, none, 0, 0, 0)
theorem cb_X12_finds : zCb M_X12_finds 3 := ⟨wd_6_70, wd_1_2, by decide, by decide, by decide +kernel, by decide⟩
def M_X12_hasPitch : ZM := (yX12_hasPitch, cX12_hasPitch, 5, (some .boolean), 0, 0, 0)
theorem cb_X12_hasPitch : zCb M_X12_hasPitch 2 := ⟨wd_6_78, wd_1_2, by decide, by decide, by decide +kernel, by decide⟩
def M_X12_isTieWrong : ZM := (yX12_isTieWrong, cX12_isTieWrong, 8, (some .boolean), 1, 0, 0)
theorem cb_X12_isTieWrong : zCb M_X12_isTieWrong 2 := ⟨wd_6_74, wd_1_2, by decide, by decide, by decide +kernel, by decide⟩
def M_X12_isOut : ZM := (yX12_isOut, cX12_isOut, 5, (some .boolean), 3, 0, 0)
theorem cb_X12_isOut : zCb M_X12_isOut 1 := ⟨wd_6_82, wd_1_2, by decide, by decide, by decide +kernel, by decide⟩
def M_X12_checkVoice : ZM := (yX12_checkVoice, cX12_checkVoice, 9, none, 4, 0, 0)
theorem cb_X12_checkVoice : zCb M_X12_checkVoice 2 := ⟨wd_6_66, wd_1_2, by decide, by decide, by decide +kernel, by decide⟩
def M_X12_isSumWrong : ZM := (yX12_isSumWrong, cX12_isSumWrong, 11, (some .boolean), 3, 0, 0)
theorem cb_X12_isSumWrong : zCb M_X12_isSumWrong 1 := ⟨wd_6_86, wd_1_2, by decide, by decide, by decide +kernel, by decide⟩
def M_X12_check : ZM := (yX12_check, cX12_check, 4, (some .int), 5, 0, 0)
theorem cb_X12_check : zCb M_X12_check 0 := ⟨wd_6_62, wd_1_2, by decide, by decide, by decide +kernel, by decide⟩
def M_X12_finding : ZM := (yX12_finding, cX12_finding, 3, (some .int), 1, 0, 0)
theorem cb_X12_finding : zCb M_X12_finding 2 := ⟨wd_6_90, wd_1_2, by decide, by decide, by decide +kernel, by decide⟩
def M_X12_nextOf : ZM := (yX12_nextOf, cX12_nextOf, 4, (some .int), 0, 0, 0)
theorem cb_X12_nextOf : zCb M_X12_nextOf 2 := ⟨wd_6_102, wd_1_2, by decide, by decide, by decide +kernel, by decide⟩
def M_X12_areAlike : ZM := (yX12_areAlike, cX12_areAlike, 5, (some .boolean), 0, 0, 0)
theorem cb_X12_areAlike : zCb M_X12_areAlike 2 := ⟨wd_6_98, wd_1_2, by decide, by decide, by decide +kernel, by decide⟩
def M_X12_equal : ZM := (yX12_equal, cX12_equal, 6, (some .int), 2, 0, 0)
theorem cb_X12_equal : zCb M_X12_equal 2 := ⟨wd_6_94, wd_1_2, by decide, by decide, by decide +kernel, by decide⟩
def M_X12_rack : ZM := (yX12_rack, cX12_rack, 5, (some .int), 2, 0, 0)
theorem cb_X12_rack : zCb M_X12_rack 3 := ⟨wd_6_106, wd_1_2, by decide, by decide, by decide +kernel, by decide⟩
def M_X12_isOf : ZM := (yX12_isOf, cX12_isOf, 3, (some .boolean), 1, 0, 0)
theorem cb_X12_isOf : zCb M_X12_isOf 2 := ⟨wd_6_114, wd_1_2, by decide, by decide, by decide +kernel, by decide⟩
def M_X12_hold : ZM := (yX12_hold, cX12_hold, 4, (some .int), 2, 0, 0)
theorem cb_X12_hold : zCb M_X12_hold 3 := ⟨wd_6_110, wd_1_2, by decide, by decide, by decide +kernel, by decide⟩
def M_X12_held : ZM := (yX12_held, cX12_held, 4, (some .int), 2, 0, 0)
theorem cb_X12_held : zCb M_X12_held 2 := ⟨wd_6_118, wd_1_2, by decide, by decide, by decide +kernel, by decide⟩
def M_X12_areThere : ZM := (yX12_areThere, cX12_areThere, 3, (some .boolean), 0, 0, 0)
theorem cb_X12_areThere : zCb M_X12_areThere 3 := ⟨wd_6_125, wd_1_2, by decide, by decide, by decide +kernel, by decide⟩
def M_X12_slide : ZM := (yX12_slide, cX12_slide, 6, (some .int), 2, 0, 0)
theorem cb_X12_slide : zCb M_X12_slide 4 := ⟨wd_6_122, wd_1_2, by decide, by decide, by decide +kernel, by decide⟩
def M_X12_shelf : ZM := (yX12_shelf, cX12_shelf, 5, (some .int), 2, 0, 0)
theorem cb_X12_shelf : zCb M_X12_shelf 3 := ⟨wd_6_129, wd_1_2, by decide, by decide, by decide +kernel, by decide⟩
def M_X12_lays : ZM := (yX12_lays, cX12_lays, 5, (some .boolean), 2, 0, 0)
theorem cb_X12_lays : zCb M_X12_lays 3 := ⟨wd_6_137, wd_1_2, by decide, by decide, by decide +kernel, by decide⟩
def M_X12_lay : ZM := (yX12_lay, cX12_lay, 7, (some .int), 3, 0, 0)
theorem cb_X12_lay : zCb M_X12_lay 4 := ⟨wd_6_133, wd_1_2, by decide, by decide, by decide +kernel, by decide⟩
def M_X12_item : ZM := (yX12_item, cX12_item, 3, (some .int), 2, 0, 0)
theorem cb_X12_item : zCb M_X12_item 2 := ⟨wd_6_141, wd_1_2, by decide, by decide, by decide +kernel, by decide⟩
def M_X12_lift : ZM := (yX12_lift, cX12_lift, 5, (some .int), 2, 0, 0)
theorem cb_X12_lift : zCb M_X12_lift 3 := ⟨wd_6_145, wd_1_2, by decide, by decide, by decide +kernel, by decide⟩
def M_X12_copy : ZM := (yX12_copy, cX12_copy, 7, (some .int), 2, 0, 0)
theorem cb_X12_copy : zCb M_X12_copy 5 := ⟨wd_6_150, wd_1_2, by decide, by decide, by decide +kernel, by decide⟩
def M_X12_play : ZM := (yX12_play, cX12_play, 8, (some .int), 2, 0, 0)
theorem cb_X12_play : zCb M_X12_play 2 := ⟨wd_6_154, wd_1_2, by decide, by decide, by decide +kernel, by decide⟩
def M_X12_failures : ZM := (yX12_failures, cX12_failures, 2, (some .int), 1, 0, 0)
theorem cb_X12_failures : zCb M_X12_failures 1 := ⟨wd_6_158, wd_1_2, by decide, by decide, by decide +kernel, by decide⟩
def M_X12_status : ZM := (yX12_status, cX12_status, 1, (some .int), 0, 0, 0)
theorem cb_X12_status : zCb M_X12_status 0 := ⟨wd_6_162, wd_1_2, by decide, by decide, by decide +kernel, by decide⟩
def M_X12_trace : ZM := (yX12_trace, cX12_trace, 1, (some .long), 0, 0, 0)
theorem cb_X12_trace : zCb M_X12_trace 0 := ⟨wd_6_166, wd_1_2, by decide, by decide, by decide +kernel, by decide⟩
def M_X12_count : ZM := (yX12_count, cX12_count, 2, (some .int), 0, 0, 0)
theorem cb_X12_count : zCb M_X12_count 1 := ⟨wd_6_170, wd_1_2, by decide, by decide, by decide +kernel, by decide⟩
def M_J6_bitCount_0f7a4 : ZM := (yJ6_bitCount_0f7a4, cJ6_bitCount_0f7a4, 1, (some .int), 0, 0, 0)
theorem cb_J6_bitCount_0f7a4 : zCb M_J6_bitCount_0f7a4 1 := ⟨wd_1_212, wd_1_10, by decide, by decide, by decide +kernel, by decide⟩
def M_J9_max_7cf53 : ZM := (yJ9_max_7cf53, cJ9_max_7cf53, 2, (some .int), 0, 0, 0)
theorem cb_J9_max_7cf53 : zCb M_J9_max_7cf53 2 := ⟨wd_4_49, wd_1_12, by decide, by decide, by decide +kernel, by decide⟩
def M_J9_max_f86c9 : ZM := (yJ9_max_f86c9, cJ9_max_f86c9, 4, (some .long), 0, 0, 0)
theorem cb_J9_max_f86c9 : zCb M_J9_max_f86c9 2 := ⟨wd_3_18, wd_1_12, by decide, by decide, by decide +kernel, by decide⟩
def M_J9_min_7cf53 : ZM := (yJ9_min_7cf53, cJ9_min_7cf53, 2, (some .int), 0, 0, 0)
theorem cb_J9_min_7cf53 : zCb M_J9_min_7cf53 2 := ⟨wd_4_9, wd_1_12, by decide, by decide, by decide +kernel, by decide⟩
def M_J7_fill_53178 : ZM := (yJ7_fill_53178, cJ7_fill_53178, 4, none, 0, 0, 0)
theorem cb_J7_fill_53178 : zCb M_J7_fill_53178 2 := ⟨wd_4_52, wd_1_16, by decide, by decide, by decide +kernel, by decide⟩
