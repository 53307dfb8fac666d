def zcl (ci : Nat) : vw_C := vwCl.getD ci (RX0, TX0, 0)
def zty (ci : Nat) : Nat → FieldType := match ci with
  | 0 => tyX0
  | 1 => tyX1
  | 2 => tyX2
  | 3 => tyX3
  | 4 => tyX4
  | 5 => tyX5
  | 6 => tyX6
  | 7 => tyX7
  | 8 => tyX8
  | 9 => tyX9
  | 10 => tyX10
  | 11 => tyX11
  | _ => tyX12
theorem zcl_at : ∀ ci, ci < 13 → vwCl[ci]? = some (zcl ci)
  | 0, _ => rfl
  | 1, _ => rfl
  | 2, _ => rfl
  | 3, _ => rfl
  | 4, _ => rfl
  | 5, _ => rfl
  | 6, _ => rfl
  | 7, _ => rfl
  | 8, _ => rfl
  | 9, _ => rfl
  | 10, _ => rfl
  | 11, _ => rfl
  | 12, _ => rfl
  | ci + 13, h => absurd h (by omega)
theorem zcl_in0 : ∀ k, k < 1 → u_lay RX0 TX0 k ∈ zw
  | 0, _ => wd_1_141
  | k + 1, h => absurd h (by omega)
theorem zcl_in1 : ∀ k, k < 1 → u_lay RX1 TX1 k ∈ zw
  | 0, _ => wd_1_165
  | k + 1, h => absurd h (by omega)
theorem zcl_in2 : ∀ k, k < 11 → u_lay RX2 TX2 k ∈ zw
  | 0, _ => wd_2_36
  | 1, _ => wd_2_38
  | 2, _ => wd_2_40
  | 3, _ => wd_2_42
  | 4, _ => wd_2_44
  | 5, _ => wd_2_46
  | 6, _ => wd_2_48
  | 7, _ => wd_2_50
  | 8, _ => wd_2_52
  | 9, _ => wd_2_54
  | 10, _ => wd_2_56
  | k + 11, h => absurd h (by omega)
theorem zcl_in3 : ∀ k, k < 1 → u_lay RX3 TX3 k ∈ zw
  | 0, _ => wd_1_149
  | k + 1, h => absurd h (by omega)
theorem zcl_in4 : ∀ k, k < 3 → u_lay RX4 TX4 k ∈ zw
  | 0, _ => wd_3_161
  | 1, _ => wd_3_163
  | 2, _ => wd_3_165
  | k + 3, h => absurd h (by omega)
theorem zcl_in5 : ∀ k, k < 1 → u_lay RX5 TX5 k ∈ zw
  | 0, _ => wd_1_132
  | k + 1, h => absurd h (by omega)
theorem zcl_in6 : ∀ k, k < 1 → u_lay RX6 TX6 k ∈ zw
  | 0, _ => wd_1_157
  | k + 1, h => absurd h (by omega)
theorem zcl_in7 : ∀ k, k < 1 → u_lay RX7 TX7 k ∈ zw
  | 0, _ => wd_1_169
  | k + 1, h => absurd h (by omega)
theorem zcl_in8 : ∀ k, k < 2 → u_lay RX8 TX8 k ∈ zw
  | 0, _ => wd_4_57
  | 1, _ => wd_4_59
  | k + 2, h => absurd h (by omega)
theorem zcl_in9 : ∀ k, k < 7 → u_lay RX9 TX9 k ∈ zw
  | 0, _ => wd_3_107
  | 1, _ => wd_3_109
  | 2, _ => wd_3_111
  | 3, _ => wd_3_113
  | 4, _ => wd_3_115
  | 5, _ => wd_3_117
  | 6, _ => wd_3_119
  | k + 7, h => absurd h (by omega)
theorem zcl_in10 : ∀ k, k < 6 → u_lay RX10 TX10 k ∈ zw
  | 0, _ => wd_1_189
  | 1, _ => wd_1_191
  | 2, _ => wd_1_193
  | 3, _ => wd_1_195
  | 4, _ => wd_1_197
  | 5, _ => wd_1_199
  | k + 6, h => absurd h (by omega)
theorem zcl_in11 : ∀ k, k < 19 → u_lay RX11 TX11 k ∈ zw
  | 0, _ => wd_1_57
  | 1, _ => wd_1_59
  | 2, _ => wd_1_61
  | 3, _ => wd_1_63
  | 4, _ => wd_1_65
  | 5, _ => wd_1_67
  | 6, _ => wd_1_69
  | 7, _ => wd_1_71
  | 8, _ => wd_1_73
  | 9, _ => wd_1_75
  | 10, _ => wd_1_77
  | 11, _ => wd_1_79
  | 12, _ => wd_1_81
  | 13, _ => wd_1_83
  | 14, _ => wd_1_85
  | 15, _ => wd_1_87
  | 16, _ => wd_1_89
  | 17, _ => wd_1_91
  | 18, _ => wd_1_93
  | k + 19, h => absurd h (by omega)
theorem zcl_in12 : ∀ k, k < 51 → u_lay RX12 TX12 k ∈ zw
  | 0, _ => wd_4_212
  | 1, _ => wd_4_214
  | 2, _ => wd_4_216
  | 3, _ => wd_4_218
  | 4, _ => wd_4_220
  | 5, _ => wd_4_222
  | 6, _ => wd_4_224
  | 7, _ => wd_4_226
  | 8, _ => wd_4_228
  | 9, _ => wd_4_230
  | 10, _ => wd_4_232
  | 11, _ => wd_4_234
  | 12, _ => wd_4_236
  | 13, _ => wd_4_238
  | 14, _ => wd_5_0
  | 15, _ => wd_5_2
  | 16, _ => wd_5_4
  | 17, _ => wd_5_6
  | 18, _ => wd_5_8
  | 19, _ => wd_5_10
  | 20, _ => wd_5_12
  | 21, _ => wd_5_14
  | 22, _ => wd_5_16
  | 23, _ => wd_5_18
  | 24, _ => wd_5_20
  | 25, _ => wd_5_22
  | 26, _ => wd_5_24
  | 27, _ => wd_5_26
  | 28, _ => wd_5_28
  | 29, _ => wd_5_30
  | 30, _ => wd_5_32
  | 31, _ => wd_5_34
  | 32, _ => wd_5_36
  | 33, _ => wd_5_38
  | 34, _ => wd_5_40
  | 35, _ => wd_5_42
  | 36, _ => wd_5_44
  | 37, _ => wd_5_46
  | 38, _ => wd_5_48
  | 39, _ => wd_5_50
  | 40, _ => wd_5_52
  | 41, _ => wd_5_54
  | 42, _ => wd_5_56
  | 43, _ => wd_5_58
  | 44, _ => wd_5_60
  | 45, _ => wd_5_62
  | 46, _ => wd_5_64
  | 47, _ => wd_5_66
  | 48, _ => wd_5_68
  | 49, _ => wd_5_70
  | 50, _ => wd_5_72
  | k + 51, h => absurd h (by omega)
theorem zcl_in : ∀ ci, ci < 13 → ∀ w ∈ u_ws (zcl ci).1 (zcl ci).2.1 (zcl ci).2.2, w ∈ zw
  | 0, _ => fun w h => by
    obtain ⟨k, hk, rfl⟩ := List.mem_map.mp h
    exact zcl_in0 k (List.mem_range.mp hk)
  | 1, _ => fun w h => by
    obtain ⟨k, hk, rfl⟩ := List.mem_map.mp h
    exact zcl_in1 k (List.mem_range.mp hk)
  | 2, _ => fun w h => by
    obtain ⟨k, hk, rfl⟩ := List.mem_map.mp h
    exact zcl_in2 k (List.mem_range.mp hk)
  | 3, _ => fun w h => by
    obtain ⟨k, hk, rfl⟩ := List.mem_map.mp h
    exact zcl_in3 k (List.mem_range.mp hk)
  | 4, _ => fun w h => by
    obtain ⟨k, hk, rfl⟩ := List.mem_map.mp h
    exact zcl_in4 k (List.mem_range.mp hk)
  | 5, _ => fun w h => by
    obtain ⟨k, hk, rfl⟩ := List.mem_map.mp h
    exact zcl_in5 k (List.mem_range.mp hk)
  | 6, _ => fun w h => by
    obtain ⟨k, hk, rfl⟩ := List.mem_map.mp h
    exact zcl_in6 k (List.mem_range.mp hk)
  | 7, _ => fun w h => by
    obtain ⟨k, hk, rfl⟩ := List.mem_map.mp h
    exact zcl_in7 k (List.mem_range.mp hk)
  | 8, _ => fun w h => by
    obtain ⟨k, hk, rfl⟩ := List.mem_map.mp h
    exact zcl_in8 k (List.mem_range.mp hk)
  | 9, _ => fun w h => by
    obtain ⟨k, hk, rfl⟩ := List.mem_map.mp h
    exact zcl_in9 k (List.mem_range.mp hk)
  | 10, _ => fun w h => by
    obtain ⟨k, hk, rfl⟩ := List.mem_map.mp h
    exact zcl_in10 k (List.mem_range.mp hk)
  | 11, _ => fun w h => by
    obtain ⟨k, hk, rfl⟩ := List.mem_map.mp h
    exact zcl_in11 k (List.mem_range.mp hk)
  | 12, _ => fun w h => by
    obtain ⟨k, hk, rfl⟩ := List.mem_map.mp h
    exact zcl_in12 k (List.mem_range.mp hk)
  | ci + 13, h => absurd h (by omega)
theorem zcl_ty : ∀ ci, ci < 13 → ∀ k, k < (zcl ci).2.2 → parseFieldDescriptor ((zcl ci).2.1 k).2.2.1 = some (zty ci k)
  | 0, _ => tyX0_ok
  | 1, _ => tyX1_ok
  | 2, _ => tyX2_ok
  | 3, _ => tyX3_ok
  | 4, _ => tyX4_ok
  | 5, _ => tyX5_ok
  | 6, _ => tyX6_ok
  | 7, _ => tyX7_ok
  | 8, _ => tyX8_ok
  | 9, _ => tyX9_ok
  | 10, _ => tyX10_ok
  | 11, _ => tyX11_ok
  | 12, _ => tyX12_ok
  | ci + 13, h => absurd h (by omega)
theorem zcl_nm : ∀ ci, ci < 13 → ∀ a, a < (zcl ci).2.2 → ∀ b, b < (zcl ci).2.2 → a ≠ b → ((zcl ci).2.1 a).2.1 ≠ ((zcl ci).2.1 b).2.1
  | 0, _ => nmX0
  | 1, _ => nmX1
  | 2, _ => nmX2
  | 3, _ => nmX3
  | 4, _ => nmX4
  | 5, _ => nmX5
  | 6, _ => nmX6
  | 7, _ => nmX7
  | 8, _ => nmX8
  | 9, _ => nmX9
  | 10, _ => nmX10
  | 11, _ => nmX11
  | 12, _ => nmX12
  | ci + 13, h => absurd h (by omega)
def zFc (t : Nat) (ty : FieldType) : Bool := match t, ty with
  | 0, .int => true
  | 0, .boolean => true
  | 1, .long => true
  | 2, .object _ => true
  | 2, .array _ => true
  | _, _ => false
theorem zF_len : ∀ ci, ci < 13 → (zF ci).length = (zcl ci).2.2 := by decide +kernel
theorem zF_nd : ∀ ci, ci < 13 → (zF ci).Nodup := by decide +kernel
theorem zF_chk : ∀ ci, ci < 13 → ∀ k, k < (zcl ci).2.2 → zFc ((zF ci).getD k (9, 9)).1 (zty ci k) = true := by decide +kernel
theorem zF_lt {ci j : Nat} {q : Nat × Nat} (h : (zF ci)[j]? = some q) : ci < 13 ∧ j < (zcl ci).2.2 := by
  have h1 : ci < 13 := by
    rcases Nat.lt_or_ge ci 13 with z | z
    · exact z
    · exfalso
      have : zF ci = [] := by
        unfold zF
        split <;> first | omega | rfl
      rw [this] at h
      simp at h
  exact ⟨h1, by rw [← zF_len ci h1]; exact (List.getElem?_eq_some_iff.mp h).1⟩
theorem zF_c {ci j : Nat} {q : Nat × Nat} (h : (zF ci)[j]? = some q) : zFc q.1 (zty ci j) = true := by
  have := zF_chk ci (zF_lt h).1 j (zF_lt h).2
  rw [List.getD_eq_getElem?_getD, h] at this
  exact this
theorem zF_2 {ci j : Nat} {q : Nat × Nat} (h : (zF ci)[j]? = some q) : q.1 ≤ 2 := by
  have := zF_c h
  rcases Nat.lt_or_ge 2 q.1 with z | z
  · exfalso
    obtain ⟨t, ht⟩ : ∃ t, q.1 = t + 3 := ⟨q.1 - 3, by omega⟩
    rw [ht] at this
    cases hz : zty ci j <;> rw [hz] at this <;> simp [zFc] at this
  · exact z
theorem zF_one {ci i j : Nat} {q : Nat × Nat} (hi : (zF ci)[i]? = some q) (hj : (zF ci)[j]? = some q) : i = j := by
  have hn := zF_nd ci (zF_lt hi).1
  have := (List.getElem?_inj (List.getElem?_eq_some_iff.mp hi).1 hn).mp (hi.trans hj.symm)
  exact this
/-- a class's pool entry idx is the field j of the class ci -/
def zFl (own : String) (idx ci j : Nat) : Prop := ∃ ref : String, Cond.fieldLink own idx ref ((zcl ci).2.1 j).2.1 ((zcl ci).2.1 j).2.2.1 ∈ zw ∧ (ref = ((zcl ci).2.1 j).1 ∨ Cond.sameField ref ((zcl ci).2.1 j).1 ((zcl ci).2.1 j).2.1 ((zcl ci).2.1 j).2.2.1 ∈ zw)
theorem zFl.same {own : String} {idx ci j : Nat} {s : State} {args : Array Value} (hts : ∀ w ∈ zw, w.before args s = true) (h : zFl own idx ci j) : ∃ ref : String, (Cond.fieldLink own idx ref ((zcl ci).2.1 j).2.1 ((zcl ci).2.1 j).2.2.1).before args s = true ∧ ∀ x, s.fieldFound? ((zcl ci).2.1 j).1 ((zcl ci).2.1 j).2.1 ((zcl ci).2.1 j).2.2.1 = some x → s.fieldFound? ref ((zcl ci).2.1 j).2.1 ((zcl ci).2.1 j).2.2.1 = some x := by
  obtain ⟨ref, h1, h2⟩ := h
  refine ⟨ref, hts _ h1, fun x hx => ?_⟩
  rcases h2 with h2 | h2
  · rw [h2]; exact hx
  · exact u_same (hts _ h2) x hx
theorem zE_obj {dA : Nat → ClassId} {σ : ZS} {a ci : Nat} (h : zk σ a = (1, ci)) : zE dA σ a = some (.inr (ci, zVs σ ci a)) := by
  simp [zE, h]
theorem va_P1 {D : va_G} {a : Nat} {x : va_E} {H : Heap} (h : va_at D vwCl (a, x) H) : va_P D vwCl [(a, x)] H := by
  intro k q hq
  cases k with
  | zero => simp at hq; subst hq; exact h
  | succ k => simp at hq
theorem zVs_at {σ : ZS} {ci a j : Nat} {q : Nat × Nat} (h : (zF ci)[j]? = some q) : (zVs σ ci a)[j]? = some (zV1 σ q a) := by
  simp [zVs, h]
theorem ZV_getG {M : ZM} {post : Option Av → ZS → Prop} {pc n : Nat} {ls : Zl} {st : List Av} {σ : ZS} {kc ks : Nat} {idx ci j a : Nat} {q : Nat × Nat} {o : Option Nat} {v : Av} (hd : decode (zmc M) pc = .ok (.getfield idx, 3)) (hF : zFl (zmy M).cls idx ci j) (hf : (zF ci)[j]? = some q) (ho : o = some a) (hk : zk σ a = (1, ci)) (hv : zV1 σ q a = vv v) (hn : pc + 3 = n) (k : ZV M post n ls (v :: st) σ kc ks) : ZV M post pc ls (Ar o :: st) σ kc ks := by
  intro p l e R s m args below meth c Q D dA A hC hA hT H locs cells slots arr hP hS hD hc hs hl
  subst hn
  subst ho
  have hts := hC.2.2.2.2.1
  have hlt := zF_lt hf
  obtain ⟨ref, h1, h2⟩ := hF.same hts
  have hP1 := va_P1 (hP.2 a _ (zE_obj hk))
  exact va_get (D := D) (cl := vwCl) (ci := ci) (v := vv v) hC.1 hC.2.1 hts (zcl_in ci hlt.1) hC.2.2.2.1 hC.2.2.2.2.2.1.1 hP1 0 rfl (zcl_at ci hlt.1) j hlt.2 h1 h2 (by rw [zVs_at hf, hv]) hd (k p l e R s m args below meth c Q D dA A hC hA hT H locs cells slots arr hP hS hD hc hs hl)
theorem ZV_getI {M : ZM} {post : Option Av → ZS → Prop} {pc n : Nat} {ls : Zl} {st : List Av} {σ : ZS} {kc ks : Nat} {idx ci j f a : Nat} {o : Option Nat} (hd : decode (zmc M) pc = .ok (.getfield idx, 3)) (hF : zFl (zmy M).cls idx ci j) (hf : (zF ci)[j]? = some (0, f)) (hn : pc + 3 = n) (ho : o = some a) (hk : zk σ a = (1, ci)) (k : ZV M post n ls (Ai (zI σ f a) :: st) σ kc ks) : ZV M post pc ls (Ar o :: st) σ kc ks := ZV_getG hd hF hf ho hk rfl hn k
theorem ZV_getL {M : ZM} {post : Option Av → ZS → Prop} {pc n : Nat} {ls : Zl} {st : List Av} {σ : ZS} {kc ks : Nat} {idx ci j f a : Nat} {o : Option Nat} (hd : decode (zmc M) pc = .ok (.getfield idx, 3)) (hF : zFl (zmy M).cls idx ci j) (hf : (zF ci)[j]? = some (1, f)) (hn : pc + 3 = n) (ho : o = some a) (hk : zk σ a = (1, ci)) (k : ZV M post n ls (Al (zL σ f a) :: st) σ kc ks) : ZV M post pc ls (Ar o :: st) σ kc ks := ZV_getG hd hF hf ho hk rfl hn k
theorem ZV_getR {M : ZM} {post : Option Av → ZS → Prop} {pc n : Nat} {ls : Zl} {st : List Av} {σ : ZS} {kc ks : Nat} {idx ci j f a : Nat} {o : Option Nat} (hd : decode (zmc M) pc = .ok (.getfield idx, 3)) (hF : zFl (zmy M).cls idx ci j) (hf : (zF ci)[j]? = some (2, f)) (hn : pc + 3 = n) (ho : o = some a) (hk : zk σ a = (1, ci)) (k : ZV M post n ls (Ar (zR σ f a) :: st) σ kc ks) : ZV M post pc ls (Ar o :: st) σ kc ks := ZV_getG hd hF hf ho hk rfl hn k
/-- one cell is written -/
def zPut (σ σ' : ZS) (a : Nat) : Prop := (∀ b, zk σ' b = zk σ b) ∧ zn σ' = zn σ ∧ ∀ (dA : Nat → ClassId) (b : Nat), b ≠ a → zE dA σ' b = zE dA σ b
theorem zP.put {D : va_G} {dA : Nat → ClassId} {σ σ' : ZS} {a : Nat} {H H1 : Heap} (h : zP D dA σ H) (hp : zPut σ σ' a) (hz : H1.size = H.size) (ho : ∀ q : Nat, q ≠ a → H1[q]? = H[q]?) (ha : ∀ x, zE dA σ' a = some x → va_at D vwCl (a, x) H1) : zP D dA σ' H1 := by
  refine ⟨by rw [hp.2.1, hz]; exact h.1, fun b x hb => ?_⟩
  by_cases hba : b = a
  · subst hba; exact ha x hb
  · rw [hp.2.2 dA b hba] at hb
    exact (h.2 b x hb).kept (ho b hba)
theorem zVs_set {σ σ' : ZS} {ci a j : Nat} {q : Nat × Nat} {v : Value} (hf : (zF ci)[j]? = some q) (hv : zV1 σ' q a = v) (hne : ∀ q' : Nat × Nat, q'.1 ≤ 2 → q' ≠ q → zV1 σ' q' a = zV1 σ q' a) (i : Nat) : updV (vp_V (zVs σ ci a)) j v i = vp_V (zVs σ' ci a) i := by
  unfold updV vp_V
  by_cases hij : i = j
  · subst hij
    rw [if_pos rfl, List.getD_eq_getElem?_getD, zVs_at hf, hv]
    rfl
  · rw [if_neg hij, List.getD_eq_getElem?_getD, List.getD_eq_getElem?_getD]
    cases hi : (zF ci)[i]? with
    | none => simp [zVs, hi]
    | some q' =>
      rw [zVs_at hi, zVs_at hi, hne q' (zF_2 hi) (fun z => hij (by rw [z] at hi; exact zF_one hi hf))]
set_option maxHeartbeats 1000000 in
theorem ZV_putG {M : ZM} {post : Option Av → ZS → Prop} {pc n : Nat} {ls : Zl} {st : List Av} {σ : ZS} {kc ks : Nat} {idx ci j a : Nat} {q : Nat × Nat} {o : Option Nat} {v : Av} {σ' : ZS} (hd : decode (zmc M) pc = .ok (.putfield idx, 3)) (hF : zFl (zmy M).cls idx ci j) (hf : (zF ci)[j]? = some q) (hfin : ((zcl ci).2.1 j).2.2.2 = false ∨ (((zcl ci).2.1 j).2.2.2 = true ∧ (zmy M).name = "<init>" ∧ ((zcl ci).2.1 j).1 = (zmy M).cls)) (ho : o = some a) (hk : zk σ a = (1, ci)) (hnar : narrow (zty ci j) (vv v) = vv v) (hfit : fits (zty ci j) (vv v) = true) (hput : zPut σ σ' a) (hv : zV1 σ' q a = vv v) (hne : ∀ q' : Nat × Nat, q'.1 ≤ 2 → q' ≠ q → zV1 σ' q' a = zV1 σ q' a) (hn : pc + 3 = n) (k : ZV M post n ls st σ' kc ks) : ZV M post pc ls (v :: Ar o :: st) σ kc ks := by
  intro p l e R s m args below meth c Q D dA A hC hA hT H locs cells slots arr hP hS hD hc hs hl
  subst hn
  subst ho
  have hts := hC.2.2.2.2.1
  have hlt := zF_lt hf
  have hK := hC.2.2.2.2.2.1.1
  have hin := zcl_in ci hlt.1
  have hc0 := zcl_at ci hlt.1
  obtain ⟨ref, h1, h2⟩ := hF.same hts
  have hap := va_apart (own := (zmy M).cls) hts hin (zty ci) (zcl_ty ci hlt.1) (zcl_nm ci hlt.1) hK hc0
  obtain ⟨r, hr1, cell, q1, q2, q3, q4⟩ := hP.2 a _ (zE_obj hk)
  have hr : r = zcl ci := Option.some.inj (hr1.symm.trans hc0)
  subst hr
  obtain ⟨hSl, hfc, kC, hkC, hkind⟩ := hK.1 ci _ hc0
  obtain ⟨cf, kf, fi, f, hi, hsl⟩ := hSl j hlt.2
  have hst := (u_facts hfc hkC (u_lays hts hin hlt.2) hi).1
  have hty := zcl_ty ci hlt.1 j hlt.2
  have hdA : A a := hD a (by rw [hk]; simp)
  have key : ∀ H1 : Heap, H1[a]? = some (cell.setSlot (D.2 ci j) (vv v)) → H1.size = H.size → (∀ q, q ≠ a → H1[q]? = H[q]?) → W p l e R s m args below meth c H1 (locs ++ [⟨a, D.2 ci j⟩]) cells slots Q (F0 m (pc + 3) arr (st.map vv)) := by
    intro H1 e1 e2 e3
    refine k p l e R s m args below meth c Q D dA A hC hA hT H1 _ cells slots arr (hP.put hput e2 e3 (fun x hx => ?_)) (hS.put e2 e3 hdA) (fun b hb => hD b (by rw [← hput.1 b]; exact hb)) hc hs hl
    rw [zE_obj (by rw [hput.1 a]; exact hk)] at hx
    cases hx
    exact ⟨_, hc0, t_OB.to (V := updV (vp_V (zVs σ ci a)) j (vv v)) ⟨_, e1, q2, q3, t_set q4 hap hlt.2 (vv v)⟩ (fun i _ => zVs_set hf hv hne i)⟩
  rcases hfin with hfin | ⟨hfin, hinit, hown⟩
  · have hlay := hts _ (hin _ (u_in_lay hlt.2))
    unfold u_lay at hlay
    rw [if_neg (by rw [hfin]; decide)] at hlay
    have h6 := u_store hfc hkC hkind hlay hi hty hnar hfit
    refine W.putK hC.1 hC.2.1 (f := f) ⟨hC.2.2.2.1, h1, ⟨_, _, _, h2 _ hi⟩, hst⟩ (by rw [q2]; exact h6) q1 q3 (by rw [hsl]; exact k2_hasslot (q4 j hlt.2)) rfl rfl hd fun H' e1 e2 e3 => ?_
    rw [hsl] at e1 ⊢
    exact key H' e1 e2 e3
  · have hlay := hts _ (hin _ (u_in_lay hlt.2))
    unfold u_lay at hlay
    rw [if_pos hfin] at hlay
    have hcf : m.cls = cf := by
      obtain ⟨_, _, c', _, _, _, -, -, hf', -, -, -, hown2, -⟩ := Cond.laysFinal_spec hlay
      have e1 : c' = cf := by have := hi.symm.trans hf'; simp at this; exact this.1.symm
      rw [hown] at hown2
      rw [← e1]; exact Option.some.inj (hC.2.2.2.1.symm.trans hown2)
    have h6 := u_fits hfc hkC hkind (Or.inr hlay) hi hty hnar hfit
    refine W.putFinK hC.1 hC.2.1 hC.2.2.2.1 h1 (h2 _ hi) hst hcf (hC.2.2.2.2.2.2.1.trans hinit) (by rw [q2]; exact h6) q1 q3 (by rw [hsl]; exact k2_hasslot (q4 j hlt.2)) rfl rfl hd fun H' e1 e2 e3 => ?_
    rw [hsl] at e1 ⊢
    exact key H' e1 e2 e3
theorem zPut_pI (σ : ZS) (f a : Nat) (v : Int32) : zPut σ (pI σ f a v) a := ⟨fun _ => rfl, rfl, fun dA b hb => by
  have h4 : ∀ ci, zVs (pI σ f a v) ci b = zVs σ ci b := by
    intro ci
    unfold zVs
    apply List.map_congr_left
    intro q _
    have e1 : zI (pI σ f a v) q.2 b = zI σ q.2 b := by simp [zI, pI, z2, hb]
    unfold zV1
    rw [e1]
    rfl
  unfold zE
  simp only [h4]
  rfl⟩
theorem zPut_pL (σ : ZS) (f a : Nat) (v : Int64) : zPut σ (pL σ f a v) a := ⟨fun _ => rfl, rfl, fun dA b hb => by
  have h4 : ∀ ci, zVs (pL σ f a v) ci b = zVs σ ci b := by
    intro ci
    unfold zVs
    apply List.map_congr_left
    intro q _
    have e1 : zL (pL σ f a v) q.2 b = zL σ q.2 b := by simp [zL, pL, z2, hb]
    unfold zV1
    rw [e1]
    rfl
  unfold zE
  simp only [h4]
  rfl⟩
theorem zPut_pR (σ : ZS) (f a : Nat) (v : Option Nat) : zPut σ (pR σ f a v) a := ⟨fun _ => rfl, rfl, fun dA b hb => by
  have h4 : ∀ ci, zVs (pR σ f a v) ci b = zVs σ ci b := by
    intro ci
    unfold zVs
    apply List.map_congr_left
    intro q _
    have e1 : zR (pR σ f a v) q.2 b = zR σ q.2 b := by simp [zR, pR, z2, hb]
    unfold zV1
    rw [e1]
    rfl
  unfold zE
  simp only [h4]
  rfl⟩
theorem zfit_i {ty : FieldType} {v : Int32} (h : zFc 0 ty = true) (hv : ty = .boolean → v = 0 ∨ v = 1) : narrow ty (.int v) = .int v ∧ fits ty (.int v) = true := by
  cases ty <;> simp [zFc] at h
  · exact ⟨rfl, rfl⟩
  · rcases hv rfl with rfl | rfl <;> exact ⟨rfl, rfl⟩
theorem zfit_r {ty : FieldType} {v : Option Nat} (h : zFc 2 ty = true) : narrow ty (va_rf v) = va_rf v ∧ fits ty (va_rf v) = true := by
  cases ty <;> simp [zFc] at h <;> cases v <;> exact ⟨rfl, rfl⟩
theorem ZV_putI {M : ZM} {post : Option Av → ZS → Prop} {pc n : Nat} {ls : Zl} {st : List Av} {σ : ZS} {kc ks : Nat} {idx ci j f a : Nat} {o : Option Nat} {v : Int32} (hd : decode (zmc M) pc = .ok (.putfield idx, 3)) (hF : zFl (zmy M).cls idx ci j) (hf : (zF ci)[j]? = some (0, f)) (hfin : ((zcl ci).2.1 j).2.2.2 = false ∨ (((zcl ci).2.1 j).2.2.2 = true ∧ (zmy M).name = "<init>" ∧ ((zcl ci).2.1 j).1 = (zmy M).cls)) (hn : pc + 3 = n) (hb : zty ci j = .boolean → v = 0 ∨ v = 1) (ho : o = some a) (hk : zk σ a = (1, ci)) (k : ZV M post n ls st (pI σ f a v) kc ks) : ZV M post pc ls (Ai v :: Ar o :: st) σ kc ks :=
  ZV_putG hd hF hf hfin ho hk (zfit_i (zF_c hf) hb).1 (zfit_i (zF_c hf) hb).2 (zPut_pI σ f a v) (by simp [zV1, pI, zI, z2, vv]) (fun q' hq2 hq => by
    obtain ⟨t, f'⟩ := q'
    simp only at hq2
    rcases (show t = 0 ∨ t = 1 ∨ t = 2 by omega) with rfl | rfl | rfl
    · skip
      show Value.int (if f' = f ∧ a = a then v else zI σ f' a) = .int (zI σ f' a)
      rw [if_neg]
      rintro ⟨rfl, -⟩
      exact hq rfl
    · rfl

    · rfl) hn k
theorem ZV_putL {M : ZM} {post : Option Av → ZS → Prop} {pc n : Nat} {ls : Zl} {st : List Av} {σ : ZS} {kc ks : Nat} {idx ci j f a : Nat} {o : Option Nat} {v : Int64} (hd : decode (zmc M) pc = .ok (.putfield idx, 3)) (hF : zFl (zmy M).cls idx ci j) (hf : (zF ci)[j]? = some (1, f)) (hfin : ((zcl ci).2.1 j).2.2.2 = false ∨ (((zcl ci).2.1 j).2.2.2 = true ∧ (zmy M).name = "<init>" ∧ ((zcl ci).2.1 j).1 = (zmy M).cls)) (hn : pc + 3 = n) (ho : o = some a) (hk : zk σ a = (1, ci)) (k : ZV M post n ls st (pL σ f a v) kc ks) : ZV M post pc ls (Al v :: Ar o :: st) σ kc ks :=
  ZV_putG hd hF hf hfin ho hk (by have := zF_c hf; cases h : zty ci j <;> rw [h] at this <;> simp [zFc] at this <;> rfl) (by have := zF_c hf; cases h : zty ci j <;> rw [h] at this <;> simp [zFc] at this <;> rfl) (zPut_pL σ f a v) (by simp [zV1, pL, zL, z2, vv]) (fun q' hq2 hq => by
    obtain ⟨t, f'⟩ := q'
    simp only at hq2
    rcases (show t = 0 ∨ t = 1 ∨ t = 2 by omega) with rfl | rfl | rfl
    · rfl

    · skip
      show Value.long (if f' = f ∧ a = a then v else zL σ f' a) = .long (zL σ f' a)
      rw [if_neg]
      rintro ⟨rfl, -⟩
      exact hq rfl
    · rfl) hn k
theorem ZV_putR {M : ZM} {post : Option Av → ZS → Prop} {pc n : Nat} {ls : Zl} {st : List Av} {σ : ZS} {kc ks : Nat} {idx ci j f a : Nat} {o : Option Nat} {v : Option Nat} (hd : decode (zmc M) pc = .ok (.putfield idx, 3)) (hF : zFl (zmy M).cls idx ci j) (hf : (zF ci)[j]? = some (2, f)) (hfin : ((zcl ci).2.1 j).2.2.2 = false ∨ (((zcl ci).2.1 j).2.2.2 = true ∧ (zmy M).name = "<init>" ∧ ((zcl ci).2.1 j).1 = (zmy M).cls)) (hn : pc + 3 = n) (ho : o = some a) (hk : zk σ a = (1, ci)) (k : ZV M post n ls st (pR σ f a v) kc ks) : ZV M post pc ls (Ar v :: Ar o :: st) σ kc ks :=
  ZV_putG hd hF hf hfin ho hk (zfit_r (zF_c hf)).1 (zfit_r (zF_c hf)).2 (zPut_pR σ f a v) (by simp [zV1, pR, zR, z2, vv]) (fun q' hq2 hq => by
    obtain ⟨t, f'⟩ := q'
    simp only at hq2
    rcases (show t = 0 ∨ t = 1 ∨ t = 2 by omega) with rfl | rfl | rfl
    · rfl
    · rfl
    · show va_rf (if f' = f ∧ a = a then v else zR σ f' a) = va_rf (zR σ f' a)
      rw [if_neg]
      rintro ⟨rfl, -⟩
      exact hq rfl) hn k
