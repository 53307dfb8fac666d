def bI (b : Bool) : Int32 := match b with
  | true => 1
  | false => 0
theorem bI_01 (b : Bool) : bI b = 0 ∨ bI b = 1 := by cases b <;> simp [bI]
theorem bI_t : bI true = 1 := rfl
theorem bI_f : bI false = 0 := rfl
theorem bI_0 (b : Bool) : bI b = 0 ↔ b = false := by cases b <;> simp [bI]
theorem ZV_iaddN {M : ZM} {post : Option Av → ZS → Prop} {pc n : Nat} {ls : Zl} {st : List Av} {σ : ZS} {kc ks : Nat} {a b : Nat} (hd : decode (zmc M) pc = .ok (.iadd, 1)) (hn : pc + 1 = n)  (k : ZV M post n ls (Ai (nI (a + b)) :: st) σ kc ks) : ZV M post pc ls (Ai (nI b) :: Ai (nI a) :: st) σ kc ks := ZV_iadd hd hn (by rw [nI_add]; exact k)
theorem ZV_imulN {M : ZM} {post : Option Av → ZS → Prop} {pc n : Nat} {ls : Zl} {st : List Av} {σ : ZS} {kc ks : Nat} {a b : Nat} (hd : decode (zmc M) pc = .ok (.imul, 1)) (hn : pc + 1 = n)  (k : ZV M post n ls (Ai (nI (a * b)) :: st) σ kc ks) : ZV M post pc ls (Ai (nI b) :: Ai (nI a) :: st) σ kc ks := ZV_imul hd hn (by rw [pk_mul]; exact k)
theorem ZV_isubN {M : ZM} {post : Option Av → ZS → Prop} {pc n : Nat} {ls : Zl} {st : List Av} {σ : ZS} {kc ks : Nat} {a b : Nat} (hd : decode (zmc M) pc = .ok (.isub, 1)) (hn : pc + 1 = n) (h : b ≤ a) (k : ZV M post n ls (Ai (nI (a - b)) :: st) σ kc ks) : ZV M post pc ls (Ai (nI b) :: Ai (nI a) :: st) σ kc ks := ZV_isub hd hn (by rw [pk_sub h]; exact k)
theorem ZV_i2lN {M : ZM} {post : Option Av → ZS → Prop} {pc n : Nat} {ls : Zl} {st : List Av} {σ : ZS} {kc ks : Nat} {a : Nat} (hd : decode (zmc M) pc = .ok (.i2l, 1)) (hn : pc + 1 = n) (h : a < 2147483648) (k : ZV M post n ls (Al (lN a) :: st) σ kc ks) : ZV M post pc ls (Ai (nI a) :: st) σ kc ks := ZV_i2l hd hn (by rw [nI_l h]; exact k)
theorem ZV_l2iN {M : ZM} {post : Option Av → ZS → Prop} {pc n : Nat} {ls : Zl} {st : List Av} {σ : ZS} {kc ks : Nat} {a : Nat} (hd : decode (zmc M) pc = .ok (.l2i, 1)) (hn : pc + 1 = n)  (k : ZV M post n ls (Ai (nI a) :: st) σ kc ks) : ZV M post pc ls (Al (lN a) :: st) σ kc ks := ZV_l2i hd hn (by rw [lN_i]; exact k)
theorem ZV_laddN {M : ZM} {post : Option Av → ZS → Prop} {pc n : Nat} {ls : Zl} {st : List Av} {σ : ZS} {kc ks : Nat} {a b : Nat} (hd : decode (zmc M) pc = .ok (.ladd, 1)) (hn : pc + 1 = n)  (k : ZV M post n ls (Al (lN (a + b)) :: st) σ kc ks) : ZV M post pc ls (Al (lN b) :: Al (lN a) :: st) σ kc ks := ZV_ladd hd hn (by rw [lN_add]; exact k)
theorem ZV_lmulN {M : ZM} {post : Option Av → ZS → Prop} {pc n : Nat} {ls : Zl} {st : List Av} {σ : ZS} {kc ks : Nat} {a b : Nat} (hd : decode (zmc M) pc = .ok (.lmul, 1)) (hn : pc + 1 = n)  (k : ZV M post n ls (Al (lN (a * b)) :: st) σ kc ks) : ZV M post pc ls (Al (lN b) :: Al (lN a) :: st) σ kc ks := ZV_lmul hd hn (by rw [lN_mul]; exact k)
theorem ZV_lsubN {M : ZM} {post : Option Av → ZS → Prop} {pc n : Nat} {ls : Zl} {st : List Av} {σ : ZS} {kc ks : Nat} {a b : Nat} (hd : decode (zmc M) pc = .ok (.lsub, 1)) (hn : pc + 1 = n) (h : b ≤ a) (k : ZV M post n ls (Al (lN (a - b)) :: st) σ kc ks) : ZV M post pc ls (Al (lN b) :: Al (lN a) :: st) σ kc ks := ZV_lsub hd hn (by rw [lN_sub h]; exact k)
theorem lN_ne0 {b : Nat} (h0 : 0 < b) (hb : b < 9223372036854775808) : ¬ lN b = 0 := by
  intro h
  have := (pk_lEQ (a := b) (b := 0) hb (by decide)).mp h
  omega
theorem ZV_ldivN {M : ZM} {post : Option Av → ZS → Prop} {pc n : Nat} {ls : Zl} {st : List Av} {σ : ZS} {kc ks : Nat} {a b : Nat} (hd : decode (zmc M) pc = .ok (.ldiv, 1)) (hn : pc + 1 = n) (ha : a < 9223372036854775808) (h0 : 0 < b) (hb : b < 9223372036854775808) (k : ZV M post n ls (Al (lN (a / b)) :: st) σ kc ks) : ZV M post pc ls (Al (lN b) :: Al (lN a) :: st) σ kc ks := ZV_ldiv hd (lN_ne0 h0 hb) hn (by rw [pk_lDiv ha h0 hb]; exact k)
theorem ZV_lremN {M : ZM} {post : Option Av → ZS → Prop} {pc n : Nat} {ls : Zl} {st : List Av} {σ : ZS} {kc ks : Nat} {a b : Nat} (hd : decode (zmc M) pc = .ok (.lrem, 1)) (hn : pc + 1 = n) (ha : a < 9223372036854775808) (h0 : 0 < b) (hb : b < 9223372036854775808) (k : ZV M post n ls (Al (lN (a % b)) :: st) σ kc ks) : ZV M post pc ls (Al (lN b) :: Al (lN a) :: st) σ kc ks := ZV_lrem hd (lN_ne0 h0 hb) hn (by rw [pk_lRem ha h0 hb]; exact k)
theorem ZV_idivN {M : ZM} {post : Option Av → ZS → Prop} {pc n : Nat} {ls : Zl} {st : List Av} {σ : ZS} {kc ks : Nat} {a b : Nat} (hd : decode (zmc M) pc = .ok (.idiv, 1)) (hn : pc + 1 = n) (ha : a < 2147483648) (h0 : 0 < b) (hb : b < 2147483648) (k : ZV M post n ls (Ai (nI (a / b)) :: st) σ kc ks) : ZV M post pc ls (Ai (nI b) :: Ai (nI a) :: st) σ kc ks := ZV_idiv hd (nI_ne0 h0 hb) hn (by rw [pk_div ha h0 hb]; exact k)
theorem ZV_iremN {M : ZM} {post : Option Av → ZS → Prop} {pc n : Nat} {ls : Zl} {st : List Av} {σ : ZS} {kc ks : Nat} {a b : Nat} (hd : decode (zmc M) pc = .ok (.irem, 1)) (hn : pc + 1 = n) (ha : a < 2147483648) (h0 : 0 < b) (hb : b < 2147483648) (k : ZV M post n ls (Ai (nI (a % b)) :: st) σ kc ks) : ZV M post pc ls (Ai (nI b) :: Ai (nI a) :: st) σ kc ks := ZV_irem hd (nI_ne0 h0 hb) hn (by rw [pk_rem ha h0 hb]; exact k)
theorem ZV_icmp_eqN {M : ZM} {post : Option Av → ZS → Prop} {pc n : Nat} {ls : Zl} {st : List Av} {σ : ZS} {kc ks : Nat} {a b : Nat} {off : Int} {tgt : Nat} (hd : decode (zmc M) pc = .ok (.if_icmp .eq off, 3)) (ht : (pc : Int) + off = (tgt : Int)) (hn : pc + 3 = n) (ha : a < 2147483648) (hb : b < 2147483648) (kt : a = b → ZV M post tgt ls st σ kc ks) (kf : a ≠ b → ZV M post n ls st σ kc ks) : ZV M post pc ls (Ai (nI b) :: Ai (nI a) :: st) σ kc ks := ZV_icmp_eq hd ht hn (fun q => kt ((nI_eq ha hb).mp q)) (fun q => kf (by have h9 := nI_eq ha hb; first | omega | (rw [h9] at q; omega) | (have q2 := fun z => q (h9.mpr z); omega) | (have q2 := (nI_eq ha hb).mp q; omega)))
theorem ZV_lcmp_eqN {M : ZM} {post : Option Av → ZS → Prop} {pc n : Nat} {ls : Zl} {st : List Av} {σ : ZS} {kc ks : Nat} {a b : Nat} {off : Int} {tgt pc1 : Nat} (hd : decode (zmc M) pc = .ok (.lcmp, 1)) (hn1 : pc + 1 = pc1) (hd2 : decode (zmc M) pc1 = .ok (.ifCond .eq off, 3)) (ht : (pc1 : Int) + off = (tgt : Int)) (hn : pc1 + 3 = n) (ha : a < 9223372036854775808) (hb : b < 9223372036854775808) (kt : a = b → ZV M post tgt ls st σ kc ks) (kf : a ≠ b → ZV M post n ls st σ kc ks) : ZV M post pc ls (Al (lN b) :: Al (lN a) :: st) σ kc ks := ZV_lcmp_eq hd hn1 hd2 ht hn (fun q => kt ((pk_lEQ ha hb).mp q)) (fun q => kf (by have h9 := pk_lEQ ha hb; have q2 : ¬ (a = b) := fun z => q (h9.mpr z); omega))
theorem ZV_icmp_neN {M : ZM} {post : Option Av → ZS → Prop} {pc n : Nat} {ls : Zl} {st : List Av} {σ : ZS} {kc ks : Nat} {a b : Nat} {off : Int} {tgt : Nat} (hd : decode (zmc M) pc = .ok (.if_icmp .ne off, 3)) (ht : (pc : Int) + off = (tgt : Int)) (hn : pc + 3 = n) (ha : a < 2147483648) (hb : b < 2147483648) (kt : a ≠ b → ZV M post tgt ls st σ kc ks) (kf : a = b → ZV M post n ls st σ kc ks) : ZV M post pc ls (Ai (nI b) :: Ai (nI a) :: st) σ kc ks := ZV_icmp_ne hd ht hn (fun q => kt ((not_congr (nI_eq ha hb)).mp q)) (fun q => kf (by have h9 := not_congr (nI_eq ha hb); first | omega | (rw [h9] at q; omega) | (have q2 := fun z => q (h9.mpr z); omega) | (have q2 := (nI_eq ha hb).mp q; omega)))
theorem ZV_lcmp_neN {M : ZM} {post : Option Av → ZS → Prop} {pc n : Nat} {ls : Zl} {st : List Av} {σ : ZS} {kc ks : Nat} {a b : Nat} {off : Int} {tgt pc1 : Nat} (hd : decode (zmc M) pc = .ok (.lcmp, 1)) (hn1 : pc + 1 = pc1) (hd2 : decode (zmc M) pc1 = .ok (.ifCond .ne off, 3)) (ht : (pc1 : Int) + off = (tgt : Int)) (hn : pc1 + 3 = n) (ha : a < 9223372036854775808) (hb : b < 9223372036854775808) (kt : a ≠ b → ZV M post tgt ls st σ kc ks) (kf : a = b → ZV M post n ls st σ kc ks) : ZV M post pc ls (Al (lN b) :: Al (lN a) :: st) σ kc ks := ZV_lcmp_ne hd hn1 hd2 ht hn (fun q => kt ((not_congr (pk_lEQ ha hb)).mp q)) (fun q => kf (by have h9 := not_congr (pk_lEQ ha hb); have q2 : ¬ (a ≠ b) := fun z => q (h9.mpr z); omega))
theorem ZV_icmp_ltN {M : ZM} {post : Option Av → ZS → Prop} {pc n : Nat} {ls : Zl} {st : List Av} {σ : ZS} {kc ks : Nat} {a b : Nat} {off : Int} {tgt : Nat} (hd : decode (zmc M) pc = .ok (.if_icmp .lt off, 3)) (ht : (pc : Int) + off = (tgt : Int)) (hn : pc + 3 = n) (ha : a < 2147483648) (hb : b < 2147483648) (kt : a < b → ZV M post tgt ls st σ kc ks) (kf : b ≤ a → ZV M post n ls st σ kc ks) : ZV M post pc ls (Ai (nI b) :: Ai (nI a) :: st) σ kc ks := ZV_icmp_lt hd ht hn (fun q => kt ((nI_ltI ha hb).mp q)) (fun q => kf (by have h9 := nI_ltI ha hb; first | omega | (rw [h9] at q; omega) | (have q2 := fun z => q (h9.mpr z); omega) | (have q2 := (nI_eq ha hb).mp q; omega)))
theorem ZV_lcmp_ltN {M : ZM} {post : Option Av → ZS → Prop} {pc n : Nat} {ls : Zl} {st : List Av} {σ : ZS} {kc ks : Nat} {a b : Nat} {off : Int} {tgt pc1 : Nat} (hd : decode (zmc M) pc = .ok (.lcmp, 1)) (hn1 : pc + 1 = pc1) (hd2 : decode (zmc M) pc1 = .ok (.ifCond .lt off, 3)) (ht : (pc1 : Int) + off = (tgt : Int)) (hn : pc1 + 3 = n) (ha : a < 9223372036854775808) (hb : b < 9223372036854775808) (kt : a < b → ZV M post tgt ls st σ kc ks) (kf : b ≤ a → ZV M post n ls st σ kc ks) : ZV M post pc ls (Al (lN b) :: Al (lN a) :: st) σ kc ks := ZV_lcmp_lt hd hn1 hd2 ht hn (fun q => kt ((pk_lLT ha hb).mp q)) (fun q => kf (by have h9 := pk_lLT ha hb; have q2 : ¬ (a < b) := fun z => q (h9.mpr z); omega))
theorem ZV_icmp_geN {M : ZM} {post : Option Av → ZS → Prop} {pc n : Nat} {ls : Zl} {st : List Av} {σ : ZS} {kc ks : Nat} {a b : Nat} {off : Int} {tgt : Nat} (hd : decode (zmc M) pc = .ok (.if_icmp .ge off, 3)) (ht : (pc : Int) + off = (tgt : Int)) (hn : pc + 3 = n) (ha : a < 2147483648) (hb : b < 2147483648) (kt : b ≤ a → ZV M post tgt ls st σ kc ks) (kf : a < b → ZV M post n ls st σ kc ks) : ZV M post pc ls (Ai (nI b) :: Ai (nI a) :: st) σ kc ks := ZV_icmp_ge hd ht hn (fun q => kt ((nI_leI hb ha).mp q)) (fun q => kf (by have h9 := nI_leI hb ha; first | omega | (rw [h9] at q; omega) | (have q2 := fun z => q (h9.mpr z); omega) | (have q2 := (nI_eq ha hb).mp q; omega)))
theorem ZV_lcmp_geN {M : ZM} {post : Option Av → ZS → Prop} {pc n : Nat} {ls : Zl} {st : List Av} {σ : ZS} {kc ks : Nat} {a b : Nat} {off : Int} {tgt pc1 : Nat} (hd : decode (zmc M) pc = .ok (.lcmp, 1)) (hn1 : pc + 1 = pc1) (hd2 : decode (zmc M) pc1 = .ok (.ifCond .ge off, 3)) (ht : (pc1 : Int) + off = (tgt : Int)) (hn : pc1 + 3 = n) (ha : a < 9223372036854775808) (hb : b < 9223372036854775808) (kt : b ≤ a → ZV M post tgt ls st σ kc ks) (kf : a < b → ZV M post n ls st σ kc ks) : ZV M post pc ls (Al (lN b) :: Al (lN a) :: st) σ kc ks := ZV_lcmp_ge hd hn1 hd2 ht hn (fun q => kt ((pk_lLE hb ha).mp q)) (fun q => kf (by have h9 := pk_lLE hb ha; have q2 : ¬ (b ≤ a) := fun z => q (h9.mpr z); omega))
theorem ZV_icmp_gtN {M : ZM} {post : Option Av → ZS → Prop} {pc n : Nat} {ls : Zl} {st : List Av} {σ : ZS} {kc ks : Nat} {a b : Nat} {off : Int} {tgt : Nat} (hd : decode (zmc M) pc = .ok (.if_icmp .gt off, 3)) (ht : (pc : Int) + off = (tgt : Int)) (hn : pc + 3 = n) (ha : a < 2147483648) (hb : b < 2147483648) (kt : b < a → ZV M post tgt ls st σ kc ks) (kf : a ≤ b → ZV M post n ls st σ kc ks) : ZV M post pc ls (Ai (nI b) :: Ai (nI a) :: st) σ kc ks := ZV_icmp_gt hd ht hn (fun q => kt ((nI_ltI hb ha).mp q)) (fun q => kf (by have h9 := nI_ltI hb ha; first | omega | (rw [h9] at q; omega) | (have q2 := fun z => q (h9.mpr z); omega) | (have q2 := (nI_eq ha hb).mp q; omega)))
theorem ZV_lcmp_gtN {M : ZM} {post : Option Av → ZS → Prop} {pc n : Nat} {ls : Zl} {st : List Av} {σ : ZS} {kc ks : Nat} {a b : Nat} {off : Int} {tgt pc1 : Nat} (hd : decode (zmc M) pc = .ok (.lcmp, 1)) (hn1 : pc + 1 = pc1) (hd2 : decode (zmc M) pc1 = .ok (.ifCond .gt off, 3)) (ht : (pc1 : Int) + off = (tgt : Int)) (hn : pc1 + 3 = n) (ha : a < 9223372036854775808) (hb : b < 9223372036854775808) (kt : b < a → ZV M post tgt ls st σ kc ks) (kf : a ≤ b → ZV M post n ls st σ kc ks) : ZV M post pc ls (Al (lN b) :: Al (lN a) :: st) σ kc ks := ZV_lcmp_gt hd hn1 hd2 ht hn (fun q => kt ((pk_lLT hb ha).mp q)) (fun q => kf (by have h9 := pk_lLT hb ha; have q2 : ¬ (b < a) := fun z => q (h9.mpr z); omega))
theorem ZV_icmp_leN {M : ZM} {post : Option Av → ZS → Prop} {pc n : Nat} {ls : Zl} {st : List Av} {σ : ZS} {kc ks : Nat} {a b : Nat} {off : Int} {tgt : Nat} (hd : decode (zmc M) pc = .ok (.if_icmp .le off, 3)) (ht : (pc : Int) + off = (tgt : Int)) (hn : pc + 3 = n) (ha : a < 2147483648) (hb : b < 2147483648) (kt : a ≤ b → ZV M post tgt ls st σ kc ks) (kf : b < a → ZV M post n ls st σ kc ks) : ZV M post pc ls (Ai (nI b) :: Ai (nI a) :: st) σ kc ks := ZV_icmp_le hd ht hn (fun q => kt ((nI_leI ha hb).mp q)) (fun q => kf (by have h9 := nI_leI ha hb; first | omega | (rw [h9] at q; omega) | (have q2 := fun z => q (h9.mpr z); omega) | (have q2 := (nI_eq ha hb).mp q; omega)))
theorem ZV_lcmp_leN {M : ZM} {post : Option Av → ZS → Prop} {pc n : Nat} {ls : Zl} {st : List Av} {σ : ZS} {kc ks : Nat} {a b : Nat} {off : Int} {tgt pc1 : Nat} (hd : decode (zmc M) pc = .ok (.lcmp, 1)) (hn1 : pc + 1 = pc1) (hd2 : decode (zmc M) pc1 = .ok (.ifCond .le off, 3)) (ht : (pc1 : Int) + off = (tgt : Int)) (hn : pc1 + 3 = n) (ha : a < 9223372036854775808) (hb : b < 9223372036854775808) (kt : a ≤ b → ZV M post tgt ls st σ kc ks) (kf : b < a → ZV M post n ls st σ kc ks) : ZV M post pc ls (Al (lN b) :: Al (lN a) :: st) σ kc ks := ZV_lcmp_le hd hn1 hd2 ht hn (fun q => kt ((pk_lLE ha hb).mp q)) (fun q => kf (by have h9 := pk_lLE ha hb; have q2 : ¬ (a ≤ b) := fun z => q (h9.mpr z); omega))
theorem nI_z {a : Nat} (ha : a < 2147483648) : nI a = 0 ↔ a = 0 := nI_eq (b := 0) ha (by decide)
theorem ZV_if_eqN {M : ZM} {post : Option Av → ZS → Prop} {pc n : Nat} {ls : Zl} {st : List Av} {σ : ZS} {kc ks : Nat} {a : Nat} {off : Int} {tgt : Nat} (hd : decode (zmc M) pc = .ok (.ifCond .eq off, 3)) (ht : (pc : Int) + off = (tgt : Int)) (hn : pc + 3 = n) (ha : a < 2147483648) (kt : a = 0 → ZV M post tgt ls st σ kc ks) (kf : a ≠ 0 → ZV M post n ls st σ kc ks) : ZV M post pc ls (Ai (nI a) :: st) σ kc ks := ZV_if_eq hd ht hn (fun q => kt ((nI_z ha).mp q)) (fun q => kf (fun z => q ((nI_z ha).mpr z)))
theorem ZV_if_neN {M : ZM} {post : Option Av → ZS → Prop} {pc n : Nat} {ls : Zl} {st : List Av} {σ : ZS} {kc ks : Nat} {a : Nat} {off : Int} {tgt : Nat} (hd : decode (zmc M) pc = .ok (.ifCond .ne off, 3)) (ht : (pc : Int) + off = (tgt : Int)) (hn : pc + 3 = n) (ha : a < 2147483648) (kt : a ≠ 0 → ZV M post tgt ls st σ kc ks) (kf : a = 0 → ZV M post n ls st σ kc ks) : ZV M post pc ls (Ai (nI a) :: st) σ kc ks := ZV_if_ne hd ht hn (fun q => kt (fun z => q ((nI_z ha).mpr z))) (fun q => kf ((nI_z ha).mp q))
theorem ZV_if_gtN {M : ZM} {post : Option Av → ZS → Prop} {pc n : Nat} {ls : Zl} {st : List Av} {σ : ZS} {kc ks : Nat} {a : Nat} {off : Int} {tgt : Nat} (hd : decode (zmc M) pc = .ok (.ifCond .gt off, 3)) (ht : (pc : Int) + off = (tgt : Int)) (hn : pc + 3 = n) (ha : a < 2147483648) (kt : 0 < a → ZV M post tgt ls st σ kc ks) (kf : a = 0 → ZV M post n ls st σ kc ks) : ZV M post pc ls (Ai (nI a) :: st) σ kc ks := ZV_if_gt hd ht hn (fun q => kt ((nI_ltI (a := 0) (by decide) ha).mp q)) (fun q => kf (by have h9 := nI_ltI (a := 0) (b := a) (by decide) ha; have q2 : ¬ (0 < a) := fun z => q (h9.mpr z); omega))
theorem ZV_if_leN {M : ZM} {post : Option Av → ZS → Prop} {pc n : Nat} {ls : Zl} {st : List Av} {σ : ZS} {kc ks : Nat} {a : Nat} {off : Int} {tgt : Nat} (hd : decode (zmc M) pc = .ok (.ifCond .le off, 3)) (ht : (pc : Int) + off = (tgt : Int)) (hn : pc + 3 = n) (ha : a < 2147483648) (kt : a = 0 → ZV M post tgt ls st σ kc ks) (kf : 0 < a → ZV M post n ls st σ kc ks) : ZV M post pc ls (Ai (nI a) :: st) σ kc ks := ZV_if_le hd ht hn (fun q => kt (by have h9 := (nI_leI (b := 0) ha (by decide)).mp q; omega)) (fun q => kf (by have h9 := nI_leI (a := a) (b := 0) ha (by decide); have q2 : ¬ (a ≤ 0) := fun z => q (h9.mpr z); omega))
theorem ZV_if_eqB {M : ZM} {post : Option Av → ZS → Prop} {pc n : Nat} {ls : Zl} {st : List Av} {σ : ZS} {kc ks : Nat} {b : Bool} {off : Int} {tgt : Nat} (hd : decode (zmc M) pc = .ok (.ifCond .eq off, 3)) (ht : (pc : Int) + off = (tgt : Int)) (hn : pc + 3 = n) (kt : b = false → ZV M post tgt ls st σ kc ks) (kf : b = true → ZV M post n ls st σ kc ks) : ZV M post pc ls (Ai (bI b) :: st) σ kc ks := ZV_if_eq hd ht hn (fun q => kt ((bI_0 b).mp q)) (fun q => kf (by cases b with | true => rfl | false => exact absurd rfl q))
theorem ZV_if_neB {M : ZM} {post : Option Av → ZS → Prop} {pc n : Nat} {ls : Zl} {st : List Av} {σ : ZS} {kc ks : Nat} {b : Bool} {off : Int} {tgt : Nat} (hd : decode (zmc M) pc = .ok (.ifCond .ne off, 3)) (ht : (pc : Int) + off = (tgt : Int)) (hn : pc + 3 = n) (kt : b = true → ZV M post tgt ls st σ kc ks) (kf : b = false → ZV M post n ls st σ kc ks) : ZV M post pc ls (Ai (bI b) :: st) σ kc ks := ZV_if_ne hd ht hn (fun q => kt (by cases b with | true => rfl | false => exact absurd rfl q)) (fun q => kf ((bI_0 b).mp q))
theorem ZV_iincN_0 {M : ZM} {post : Option Av → ZS → Prop} {pc n : Nat} {st : List Av} {σ : ZS} {kc ks : Nat} {r : Zl} {q : Int} {x v : Nat} (hd : decode (zmc M) pc = .ok (.iinc 0 q, 3)) (hv : Int32.ofInt q = nI v) (hn : pc + 3 = n) (hL : 0 < zmn M) (k : ZV M post n (some (Ai (nI (x + v))) :: r) st σ kc ks) : ZV M post pc (some (Ai (nI x)) :: r) st σ kc ks := ZV_iinc_0 hd hv hn hL (by rw [nI_add]; exact k)
theorem ZV_iincN_1 {M : ZM} {post : Option Av → ZS → Prop} {pc n : Nat} {st : List Av} {σ : ZS} {kc ks : Nat} {a0 : Option Av} {r : Zl} {q : Int} {x v : Nat} (hd : decode (zmc M) pc = .ok (.iinc 1 q, 3)) (hv : Int32.ofInt q = nI v) (hn : pc + 3 = n) (hL : 1 < zmn M) (hok : zNL a0 = true) (k : ZV M post n (a0 :: some (Ai (nI (x + v))) :: r) st σ kc ks) : ZV M post pc (a0 :: some (Ai (nI x)) :: r) st σ kc ks := ZV_iinc_1 hd hv hn hL hok (by rw [nI_add]; exact k)
theorem ZV_iincN_2 {M : ZM} {post : Option Av → ZS → Prop} {pc n : Nat} {st : List Av} {σ : ZS} {kc ks : Nat} {a0 a1 : Option Av} {r : Zl} {q : Int} {x v : Nat} (hd : decode (zmc M) pc = .ok (.iinc 2 q, 3)) (hv : Int32.ofInt q = nI v) (hn : pc + 3 = n) (hL : 2 < zmn M) (hok : zNL a1 = true) (k : ZV M post n (a0 :: a1 :: some (Ai (nI (x + v))) :: r) st σ kc ks) : ZV M post pc (a0 :: a1 :: some (Ai (nI x)) :: r) st σ kc ks := ZV_iinc_2 hd hv hn hL hok (by rw [nI_add]; exact k)
theorem ZV_iincN_3 {M : ZM} {post : Option Av → ZS → Prop} {pc n : Nat} {st : List Av} {σ : ZS} {kc ks : Nat} {a0 a1 a2 : Option Av} {r : Zl} {q : Int} {x v : Nat} (hd : decode (zmc M) pc = .ok (.iinc 3 q, 3)) (hv : Int32.ofInt q = nI v) (hn : pc + 3 = n) (hL : 3 < zmn M) (hok : zNL a2 = true) (k : ZV M post n (a0 :: a1 :: a2 :: some (Ai (nI (x + v))) :: r) st σ kc ks) : ZV M post pc (a0 :: a1 :: a2 :: some (Ai (nI x)) :: r) st σ kc ks := ZV_iinc_3 hd hv hn hL hok (by rw [nI_add]; exact k)
theorem ZV_iincN_4 {M : ZM} {post : Option Av → ZS → Prop} {pc n : Nat} {st : List Av} {σ : ZS} {kc ks : Nat} {a0 a1 a2 a3 : Option Av} {r : Zl} {q : Int} {x v : Nat} (hd : decode (zmc M) pc = .ok (.iinc 4 q, 3)) (hv : Int32.ofInt q = nI v) (hn : pc + 3 = n) (hL : 4 < zmn M) (hok : zNL a3 = true) (k : ZV M post n (a0 :: a1 :: a2 :: a3 :: some (Ai (nI (x + v))) :: r) st σ kc ks) : ZV M post pc (a0 :: a1 :: a2 :: a3 :: some (Ai (nI x)) :: r) st σ kc ks := ZV_iinc_4 hd hv hn hL hok (by rw [nI_add]; exact k)
theorem ZV_iincN_5 {M : ZM} {post : Option Av → ZS → Prop} {pc n : Nat} {st : List Av} {σ : ZS} {kc ks : Nat} {a0 a1 a2 a3 a4 : Option Av} {r : Zl} {q : Int} {x v : Nat} (hd : decode (zmc M) pc = .ok (.iinc 5 q, 3)) (hv : Int32.ofInt q = nI v) (hn : pc + 3 = n) (hL : 5 < zmn M) (hok : zNL a4 = true) (k : ZV M post n (a0 :: a1 :: a2 :: a3 :: a4 :: some (Ai (nI (x + v))) :: r) st σ kc ks) : ZV M post pc (a0 :: a1 :: a2 :: a3 :: a4 :: some (Ai (nI x)) :: r) st σ kc ks := ZV_iinc_5 hd hv hn hL hok (by rw [nI_add]; exact k)
theorem ZV_iincN_6 {M : ZM} {post : Option Av → ZS → Prop} {pc n : Nat} {st : List Av} {σ : ZS} {kc ks : Nat} {a0 a1 a2 a3 a4 a5 : Option Av} {r : Zl} {q : Int} {x v : Nat} (hd : decode (zmc M) pc = .ok (.iinc 6 q, 3)) (hv : Int32.ofInt q = nI v) (hn : pc + 3 = n) (hL : 6 < zmn M) (hok : zNL a5 = true) (k : ZV M post n (a0 :: a1 :: a2 :: a3 :: a4 :: a5 :: some (Ai (nI (x + v))) :: r) st σ kc ks) : ZV M post pc (a0 :: a1 :: a2 :: a3 :: a4 :: a5 :: some (Ai (nI x)) :: r) st σ kc ks := ZV_iinc_6 hd hv hn hL hok (by rw [nI_add]; exact k)
theorem ZV_iincN_7 {M : ZM} {post : Option Av → ZS → Prop} {pc n : Nat} {st : List Av} {σ : ZS} {kc ks : Nat} {a0 a1 a2 a3 a4 a5 a6 : Option Av} {r : Zl} {q : Int} {x v : Nat} (hd : decode (zmc M) pc = .ok (.iinc 7 q, 3)) (hv : Int32.ofInt q = nI v) (hn : pc + 3 = n) (hL : 7 < zmn M) (hok : zNL a6 = true) (k : ZV M post n (a0 :: a1 :: a2 :: a3 :: a4 :: a5 :: a6 :: some (Ai (nI (x + v))) :: r) st σ kc ks) : ZV M post pc (a0 :: a1 :: a2 :: a3 :: a4 :: a5 :: a6 :: some (Ai (nI x)) :: r) st σ kc ks := ZV_iinc_7 hd hv hn hL hok (by rw [nI_add]; exact k)
theorem ZV_iincN_8 {M : ZM} {post : Option Av → ZS → Prop} {pc n : Nat} {st : List Av} {σ : ZS} {kc ks : Nat} {a0 a1 a2 a3 a4 a5 a6 a7 : Option Av} {r : Zl} {q : Int} {x v : Nat} (hd : decode (zmc M) pc = .ok (.iinc 8 q, 3)) (hv : Int32.ofInt q = nI v) (hn : pc + 3 = n) (hL : 8 < zmn M) (hok : zNL a7 = true) (k : ZV M post n (a0 :: a1 :: a2 :: a3 :: a4 :: a5 :: a6 :: a7 :: some (Ai (nI (x + v))) :: r) st σ kc ks) : ZV M post pc (a0 :: a1 :: a2 :: a3 :: a4 :: a5 :: a6 :: a7 :: some (Ai (nI x)) :: r) st σ kc ks := ZV_iinc_8 hd hv hn hL hok (by rw [nI_add]; exact k)
theorem ZV_iincN_9 {M : ZM} {post : Option Av → ZS → Prop} {pc n : Nat} {st : List Av} {σ : ZS} {kc ks : Nat} {a0 a1 a2 a3 a4 a5 a6 a7 a8 : Option Av} {r : Zl} {q : Int} {x v : Nat} (hd : decode (zmc M) pc = .ok (.iinc 9 q, 3)) (hv : Int32.ofInt q = nI v) (hn : pc + 3 = n) (hL : 9 < zmn M) (hok : zNL a8 = true) (k : ZV M post n (a0 :: a1 :: a2 :: a3 :: a4 :: a5 :: a6 :: a7 :: a8 :: some (Ai (nI (x + v))) :: r) st σ kc ks) : ZV M post pc (a0 :: a1 :: a2 :: a3 :: a4 :: a5 :: a6 :: a7 :: a8 :: some (Ai (nI x)) :: r) st σ kc ks := ZV_iinc_9 hd hv hn hL hok (by rw [nI_add]; exact k)
theorem ZV_iincN_10 {M : ZM} {post : Option Av → ZS → Prop} {pc n : Nat} {st : List Av} {σ : ZS} {kc ks : Nat} {a0 a1 a2 a3 a4 a5 a6 a7 a8 a9 : Option Av} {r : Zl} {q : Int} {x v : Nat} (hd : decode (zmc M) pc = .ok (.iinc 10 q, 3)) (hv : Int32.ofInt q = nI v) (hn : pc + 3 = n) (hL : 10 < zmn M) (hok : zNL a9 = true) (k : ZV M post n (a0 :: a1 :: a2 :: a3 :: a4 :: a5 :: a6 :: a7 :: a8 :: a9 :: some (Ai (nI (x + v))) :: r) st σ kc ks) : ZV M post pc (a0 :: a1 :: a2 :: a3 :: a4 :: a5 :: a6 :: a7 :: a8 :: a9 :: some (Ai (nI x)) :: r) st σ kc ks := ZV_iinc_10 hd hv hn hL hok (by rw [nI_add]; exact k)
theorem ZV_iincN_11 {M : ZM} {post : Option Av → ZS → Prop} {pc n : Nat} {st : List Av} {σ : ZS} {kc ks : Nat} {a0 a1 a2 a3 a4 a5 a6 a7 a8 a9 a10 : Option Av} {r : Zl} {q : Int} {x v : Nat} (hd : decode (zmc M) pc = .ok (.iinc 11 q, 3)) (hv : Int32.ofInt q = nI v) (hn : pc + 3 = n) (hL : 11 < zmn M) (hok : zNL a10 = true) (k : ZV M post n (a0 :: a1 :: a2 :: a3 :: a4 :: a5 :: a6 :: a7 :: a8 :: a9 :: a10 :: some (Ai (nI (x + v))) :: r) st σ kc ks) : ZV M post pc (a0 :: a1 :: a2 :: a3 :: a4 :: a5 :: a6 :: a7 :: a8 :: a9 :: a10 :: some (Ai (nI x)) :: r) st σ kc ks := ZV_iinc_11 hd hv hn hL hok (by rw [nI_add]; exact k)
theorem ZV_iincN_12 {M : ZM} {post : Option Av → ZS → Prop} {pc n : Nat} {st : List Av} {σ : ZS} {kc ks : Nat} {a0 a1 a2 a3 a4 a5 a6 a7 a8 a9 a10 a11 : Option Av} {r : Zl} {q : Int} {x v : Nat} (hd : decode (zmc M) pc = .ok (.iinc 12 q, 3)) (hv : Int32.ofInt q = nI v) (hn : pc + 3 = n) (hL : 12 < zmn M) (hok : zNL a11 = true) (k : ZV M post n (a0 :: a1 :: a2 :: a3 :: a4 :: a5 :: a6 :: a7 :: a8 :: a9 :: a10 :: a11 :: some (Ai (nI (x + v))) :: r) st σ kc ks) : ZV M post pc (a0 :: a1 :: a2 :: a3 :: a4 :: a5 :: a6 :: a7 :: a8 :: a9 :: a10 :: a11 :: some (Ai (nI x)) :: r) st σ kc ks := ZV_iinc_12 hd hv hn hL hok (by rw [nI_add]; exact k)
theorem ZV_iincN_13 {M : ZM} {post : Option Av → ZS → Prop} {pc n : Nat} {st : List Av} {σ : ZS} {kc ks : Nat} {a0 a1 a2 a3 a4 a5 a6 a7 a8 a9 a10 a11 a12 : Option Av} {r : Zl} {q : Int} {x v : Nat} (hd : decode (zmc M) pc = .ok (.iinc 13 q, 3)) (hv : Int32.ofInt q = nI v) (hn : pc + 3 = n) (hL : 13 < zmn M) (hok : zNL a12 = true) (k : ZV M post n (a0 :: a1 :: a2 :: a3 :: a4 :: a5 :: a6 :: a7 :: a8 :: a9 :: a10 :: a11 :: a12 :: some (Ai (nI (x + v))) :: r) st σ kc ks) : ZV M post pc (a0 :: a1 :: a2 :: a3 :: a4 :: a5 :: a6 :: a7 :: a8 :: a9 :: a10 :: a11 :: a12 :: some (Ai (nI x)) :: r) st σ kc ks := ZV_iinc_13 hd hv hn hL hok (by rw [nI_add]; exact k)
theorem ZV_iincN_14 {M : ZM} {post : Option Av → ZS → Prop} {pc n : Nat} {st : List Av} {σ : ZS} {kc ks : Nat} {a0 a1 a2 a3 a4 a5 a6 a7 a8 a9 a10 a11 a12 a13 : Option Av} {r : Zl} {q : Int} {x v : Nat} (hd : decode (zmc M) pc = .ok (.iinc 14 q, 3)) (hv : Int32.ofInt q = nI v) (hn : pc + 3 = n) (hL : 14 < zmn M) (hok : zNL a13 = true) (k : ZV M post n (a0 :: a1 :: a2 :: a3 :: a4 :: a5 :: a6 :: a7 :: a8 :: a9 :: a10 :: a11 :: a12 :: a13 :: some (Ai (nI (x + v))) :: r) st σ kc ks) : ZV M post pc (a0 :: a1 :: a2 :: a3 :: a4 :: a5 :: a6 :: a7 :: a8 :: a9 :: a10 :: a11 :: a12 :: a13 :: some (Ai (nI x)) :: r) st σ kc ks := ZV_iinc_14 hd hv hn hL hok (by rw [nI_add]; exact k)
theorem ZV_iincN_15 {M : ZM} {post : Option Av → ZS → Prop} {pc n : Nat} {st : List Av} {σ : ZS} {kc ks : Nat} {a0 a1 a2 a3 a4 a5 a6 a7 a8 a9 a10 a11 a12 a13 a14 : Option Av} {r : Zl} {q : Int} {x v : Nat} (hd : decode (zmc M) pc = .ok (.iinc 15 q, 3)) (hv : Int32.ofInt q = nI v) (hn : pc + 3 = n) (hL : 15 < zmn M) (hok : zNL a14 = true) (k : ZV M post n (a0 :: a1 :: a2 :: a3 :: a4 :: a5 :: a6 :: a7 :: a8 :: a9 :: a10 :: a11 :: a12 :: a13 :: a14 :: some (Ai (nI (x + v))) :: r) st σ kc ks) : ZV M post pc (a0 :: a1 :: a2 :: a3 :: a4 :: a5 :: a6 :: a7 :: a8 :: a9 :: a10 :: a11 :: a12 :: a13 :: a14 :: some (Ai (nI x)) :: r) st σ kc ks := ZV_iinc_15 hd hv hn hL hok (by rw [nI_add]; exact k)
theorem nI_dec {x : Nat} (hx : 0 < x) : nI x + (-1) = nI (x - 1) := by
  obtain ⟨y, rfl⟩ : ∃ y, x = y + 1 := ⟨x - 1, by omega⟩
  rw [pk_m1]
  simp
theorem ZV_iincM_0 {M : ZM} {post : Option Av → ZS → Prop} {pc n : Nat} {st : List Av} {σ : ZS} {kc ks : Nat} {r : Zl} {q : Int} {x : Nat} (hd : decode (zmc M) pc = .ok (.iinc 0 q, 3)) (hv : Int32.ofInt q = -1) (hn : pc + 3 = n) (hL : 0 < zmn M) (hx : 0 < x) (k : ZV M post n (some (Ai (nI (x - 1))) :: r) st σ kc ks) : ZV M post pc (some (Ai (nI x)) :: r) st σ kc ks := ZV_iinc_0 hd hv hn hL (by rw [nI_dec hx]; exact k)
theorem ZV_iincM_1 {M : ZM} {post : Option Av → ZS → Prop} {pc n : Nat} {st : List Av} {σ : ZS} {kc ks : Nat} {a0 : Option Av} {r : Zl} {q : Int} {x : Nat} (hd : decode (zmc M) pc = .ok (.iinc 1 q, 3)) (hv : Int32.ofInt q = -1) (hn : pc + 3 = n) (hL : 1 < zmn M) (hok : zNL a0 = true) (hx : 0 < x) (k : ZV M post n (a0 :: some (Ai (nI (x - 1))) :: r) st σ kc ks) : ZV M post pc (a0 :: some (Ai (nI x)) :: r) st σ kc ks := ZV_iinc_1 hd hv hn hL hok (by rw [nI_dec hx]; exact k)
theorem ZV_iincM_2 {M : ZM} {post : Option Av → ZS → Prop} {pc n : Nat} {st : List Av} {σ : ZS} {kc ks : Nat} {a0 a1 : Option Av} {r : Zl} {q : Int} {x : Nat} (hd : decode (zmc M) pc = .ok (.iinc 2 q, 3)) (hv : Int32.ofInt q = -1) (hn : pc + 3 = n) (hL : 2 < zmn M) (hok : zNL a1 = true) (hx : 0 < x) (k : ZV M post n (a0 :: a1 :: some (Ai (nI (x - 1))) :: r) st σ kc ks) : ZV M post pc (a0 :: a1 :: some (Ai (nI x)) :: r) st σ kc ks := ZV_iinc_2 hd hv hn hL hok (by rw [nI_dec hx]; exact k)
theorem ZV_iincM_3 {M : ZM} {post : Option Av → ZS → Prop} {pc n : Nat} {st : List Av} {σ : ZS} {kc ks : Nat} {a0 a1 a2 : Option Av} {r : Zl} {q : Int} {x : Nat} (hd : decode (zmc M) pc = .ok (.iinc 3 q, 3)) (hv : Int32.ofInt q = -1) (hn : pc + 3 = n) (hL : 3 < zmn M) (hok : zNL a2 = true) (hx : 0 < x) (k : ZV M post n (a0 :: a1 :: a2 :: some (Ai (nI (x - 1))) :: r) st σ kc ks) : ZV M post pc (a0 :: a1 :: a2 :: some (Ai (nI x)) :: r) st σ kc ks := ZV_iinc_3 hd hv hn hL hok (by rw [nI_dec hx]; exact k)
theorem ZV_iincM_4 {M : ZM} {post : Option Av → ZS → Prop} {pc n : Nat} {st : List Av} {σ : ZS} {kc ks : Nat} {a0 a1 a2 a3 : Option Av} {r : Zl} {q : Int} {x : Nat} (hd : decode (zmc M) pc = .ok (.iinc 4 q, 3)) (hv : Int32.ofInt q = -1) (hn : pc + 3 = n) (hL : 4 < zmn M) (hok : zNL a3 = true) (hx : 0 < x) (k : ZV M post n (a0 :: a1 :: a2 :: a3 :: some (Ai (nI (x - 1))) :: r) st σ kc ks) : ZV M post pc (a0 :: a1 :: a2 :: a3 :: some (Ai (nI x)) :: r) st σ kc ks := ZV_iinc_4 hd hv hn hL hok (by rw [nI_dec hx]; exact k)
theorem ZV_iincM_5 {M : ZM} {post : Option Av → ZS → Prop} {pc n : Nat} {st : List Av} {σ : ZS} {kc ks : Nat} {a0 a1 a2 a3 a4 : Option Av} {r : Zl} {q : Int} {x : Nat} (hd : decode (zmc M) pc = .ok (.iinc 5 q, 3)) (hv : Int32.ofInt q = -1) (hn : pc + 3 = n) (hL : 5 < zmn M) (hok : zNL a4 = true) (hx : 0 < x) (k : ZV M post n (a0 :: a1 :: a2 :: a3 :: a4 :: some (Ai (nI (x - 1))) :: r) st σ kc ks) : ZV M post pc (a0 :: a1 :: a2 :: a3 :: a4 :: some (Ai (nI x)) :: r) st σ kc ks := ZV_iinc_5 hd hv hn hL hok (by rw [nI_dec hx]; exact k)
theorem ZV_iincM_6 {M : ZM} {post : Option Av → ZS → Prop} {pc n : Nat} {st : List Av} {σ : ZS} {kc ks : Nat} {a0 a1 a2 a3 a4 a5 : Option Av} {r : Zl} {q : Int} {x : Nat} (hd : decode (zmc M) pc = .ok (.iinc 6 q, 3)) (hv : Int32.ofInt q = -1) (hn : pc + 3 = n) (hL : 6 < zmn M) (hok : zNL a5 = true) (hx : 0 < x) (k : ZV M post n (a0 :: a1 :: a2 :: a3 :: a4 :: a5 :: some (Ai (nI (x - 1))) :: r) st σ kc ks) : ZV M post pc (a0 :: a1 :: a2 :: a3 :: a4 :: a5 :: some (Ai (nI x)) :: r) st σ kc ks := ZV_iinc_6 hd hv hn hL hok (by rw [nI_dec hx]; exact k)
theorem ZV_iincM_7 {M : ZM} {post : Option Av → ZS → Prop} {pc n : Nat} {st : List Av} {σ : ZS} {kc ks : Nat} {a0 a1 a2 a3 a4 a5 a6 : Option Av} {r : Zl} {q : Int} {x : Nat} (hd : decode (zmc M) pc = .ok (.iinc 7 q, 3)) (hv : Int32.ofInt q = -1) (hn : pc + 3 = n) (hL : 7 < zmn M) (hok : zNL a6 = true) (hx : 0 < x) (k : ZV M post n (a0 :: a1 :: a2 :: a3 :: a4 :: a5 :: a6 :: some (Ai (nI (x - 1))) :: r) st σ kc ks) : ZV M post pc (a0 :: a1 :: a2 :: a3 :: a4 :: a5 :: a6 :: some (Ai (nI x)) :: r) st σ kc ks := ZV_iinc_7 hd hv hn hL hok (by rw [nI_dec hx]; exact k)
theorem ZV_iincM_8 {M : ZM} {post : Option Av → ZS → Prop} {pc n : Nat} {st : List Av} {σ : ZS} {kc ks : Nat} {a0 a1 a2 a3 a4 a5 a6 a7 : Option Av} {r : Zl} {q : Int} {x : Nat} (hd : decode (zmc M) pc = .ok (.iinc 8 q, 3)) (hv : Int32.ofInt q = -1) (hn : pc + 3 = n) (hL : 8 < zmn M) (hok : zNL a7 = true) (hx : 0 < x) (k : ZV M post n (a0 :: a1 :: a2 :: a3 :: a4 :: a5 :: a6 :: a7 :: some (Ai (nI (x - 1))) :: r) st σ kc ks) : ZV M post pc (a0 :: a1 :: a2 :: a3 :: a4 :: a5 :: a6 :: a7 :: some (Ai (nI x)) :: r) st σ kc ks := ZV_iinc_8 hd hv hn hL hok (by rw [nI_dec hx]; exact k)
theorem ZV_iincM_9 {M : ZM} {post : Option Av → ZS → Prop} {pc n : Nat} {st : List Av} {σ : ZS} {kc ks : Nat} {a0 a1 a2 a3 a4 a5 a6 a7 a8 : Option Av} {r : Zl} {q : Int} {x : Nat} (hd : decode (zmc M) pc = .ok (.iinc 9 q, 3)) (hv : Int32.ofInt q = -1) (hn : pc + 3 = n) (hL : 9 < zmn M) (hok : zNL a8 = true) (hx : 0 < x) (k : ZV M post n (a0 :: a1 :: a2 :: a3 :: a4 :: a5 :: a6 :: a7 :: a8 :: some (Ai (nI (x - 1))) :: r) st σ kc ks) : ZV M post pc (a0 :: a1 :: a2 :: a3 :: a4 :: a5 :: a6 :: a7 :: a8 :: some (Ai (nI x)) :: r) st σ kc ks := ZV_iinc_9 hd hv hn hL hok (by rw [nI_dec hx]; exact k)
theorem ZV_iincM_10 {M : ZM} {post : Option Av → ZS → Prop} {pc n : Nat} {st : List Av} {σ : ZS} {kc ks : Nat} {a0 a1 a2 a3 a4 a5 a6 a7 a8 a9 : Option Av} {r : Zl} {q : Int} {x : Nat} (hd : decode (zmc M) pc = .ok (.iinc 10 q, 3)) (hv : Int32.ofInt q = -1) (hn : pc + 3 = n) (hL : 10 < zmn M) (hok : zNL a9 = true) (hx : 0 < x) (k : ZV M post n (a0 :: a1 :: a2 :: a3 :: a4 :: a5 :: a6 :: a7 :: a8 :: a9 :: some (Ai (nI (x - 1))) :: r) st σ kc ks) : ZV M post pc (a0 :: a1 :: a2 :: a3 :: a4 :: a5 :: a6 :: a7 :: a8 :: a9 :: some (Ai (nI x)) :: r) st σ kc ks := ZV_iinc_10 hd hv hn hL hok (by rw [nI_dec hx]; exact k)
theorem ZV_iincM_11 {M : ZM} {post : Option Av → ZS → Prop} {pc n : Nat} {st : List Av} {σ : ZS} {kc ks : Nat} {a0 a1 a2 a3 a4 a5 a6 a7 a8 a9 a10 : Option Av} {r : Zl} {q : Int} {x : Nat} (hd : decode (zmc M) pc = .ok (.iinc 11 q, 3)) (hv : Int32.ofInt q = -1) (hn : pc + 3 = n) (hL : 11 < zmn M) (hok : zNL a10 = true) (hx : 0 < x) (k : ZV M post n (a0 :: a1 :: a2 :: a3 :: a4 :: a5 :: a6 :: a7 :: a8 :: a9 :: a10 :: some (Ai (nI (x - 1))) :: r) st σ kc ks) : ZV M post pc (a0 :: a1 :: a2 :: a3 :: a4 :: a5 :: a6 :: a7 :: a8 :: a9 :: a10 :: some (Ai (nI x)) :: r) st σ kc ks := ZV_iinc_11 hd hv hn hL hok (by rw [nI_dec hx]; exact k)
theorem ZV_iincM_12 {M : ZM} {post : Option Av → ZS → Prop} {pc n : Nat} {st : List Av} {σ : ZS} {kc ks : Nat} {a0 a1 a2 a3 a4 a5 a6 a7 a8 a9 a10 a11 : Option Av} {r : Zl} {q : Int} {x : Nat} (hd : decode (zmc M) pc = .ok (.iinc 12 q, 3)) (hv : Int32.ofInt q = -1) (hn : pc + 3 = n) (hL : 12 < zmn M) (hok : zNL a11 = true) (hx : 0 < x) (k : ZV M post n (a0 :: a1 :: a2 :: a3 :: a4 :: a5 :: a6 :: a7 :: a8 :: a9 :: a10 :: a11 :: some (Ai (nI (x - 1))) :: r) st σ kc ks) : ZV M post pc (a0 :: a1 :: a2 :: a3 :: a4 :: a5 :: a6 :: a7 :: a8 :: a9 :: a10 :: a11 :: some (Ai (nI x)) :: r) st σ kc ks := ZV_iinc_12 hd hv hn hL hok (by rw [nI_dec hx]; exact k)
theorem ZV_iincM_13 {M : ZM} {post : Option Av → ZS → Prop} {pc n : Nat} {st : List Av} {σ : ZS} {kc ks : Nat} {a0 a1 a2 a3 a4 a5 a6 a7 a8 a9 a10 a11 a12 : Option Av} {r : Zl} {q : Int} {x : Nat} (hd : decode (zmc M) pc = .ok (.iinc 13 q, 3)) (hv : Int32.ofInt q = -1) (hn : pc + 3 = n) (hL : 13 < zmn M) (hok : zNL a12 = true) (hx : 0 < x) (k : ZV M post n (a0 :: a1 :: a2 :: a3 :: a4 :: a5 :: a6 :: a7 :: a8 :: a9 :: a10 :: a11 :: a12 :: some (Ai (nI (x - 1))) :: r) st σ kc ks) : ZV M post pc (a0 :: a1 :: a2 :: a3 :: a4 :: a5 :: a6 :: a7 :: a8 :: a9 :: a10 :: a11 :: a12 :: some (Ai (nI x)) :: r) st σ kc ks := ZV_iinc_13 hd hv hn hL hok (by rw [nI_dec hx]; exact k)
theorem ZV_iincM_14 {M : ZM} {post : Option Av → ZS → Prop} {pc n : Nat} {st : List Av} {σ : ZS} {kc ks : Nat} {a0 a1 a2 a3 a4 a5 a6 a7 a8 a9 a10 a11 a12 a13 : Option Av} {r : Zl} {q : Int} {x : Nat} (hd : decode (zmc M) pc = .ok (.iinc 14 q, 3)) (hv : Int32.ofInt q = -1) (hn : pc + 3 = n) (hL : 14 < zmn M) (hok : zNL a13 = true) (hx : 0 < x) (k : ZV M post n (a0 :: a1 :: a2 :: a3 :: a4 :: a5 :: a6 :: a7 :: a8 :: a9 :: a10 :: a11 :: a12 :: a13 :: some (Ai (nI (x - 1))) :: r) st σ kc ks) : ZV M post pc (a0 :: a1 :: a2 :: a3 :: a4 :: a5 :: a6 :: a7 :: a8 :: a9 :: a10 :: a11 :: a12 :: a13 :: some (Ai (nI x)) :: r) st σ kc ks := ZV_iinc_14 hd hv hn hL hok (by rw [nI_dec hx]; exact k)
theorem ZV_iincM_15 {M : ZM} {post : Option Av → ZS → Prop} {pc n : Nat} {st : List Av} {σ : ZS} {kc ks : Nat} {a0 a1 a2 a3 a4 a5 a6 a7 a8 a9 a10 a11 a12 a13 a14 : Option Av} {r : Zl} {q : Int} {x : Nat} (hd : decode (zmc M) pc = .ok (.iinc 15 q, 3)) (hv : Int32.ofInt q = -1) (hn : pc + 3 = n) (hL : 15 < zmn M) (hok : zNL a14 = true) (hx : 0 < x) (k : ZV M post n (a0 :: a1 :: a2 :: a3 :: a4 :: a5 :: a6 :: a7 :: a8 :: a9 :: a10 :: a11 :: a12 :: a13 :: a14 :: some (Ai (nI (x - 1))) :: r) st σ kc ks) : ZV M post pc (a0 :: a1 :: a2 :: a3 :: a4 :: a5 :: a6 :: a7 :: a8 :: a9 :: a10 :: a11 :: a12 :: a13 :: a14 :: some (Ai (nI x)) :: r) st σ kc ks := ZV_iinc_15 hd hv hn hL hok (by rw [nI_dec hx]; exact k)
theorem ZV_fg_0 {M : ZM} {post : Option Av → ZS → Prop} {pc : Nat} {st : List Av} {σ : ZS} {kc ks : Nat} {a0 : Option Av} {r : Zl} (k : ZV M post pc (none :: r) st σ kc ks) : ZV M post pc (a0 :: r) st σ kc ks := ZV_weak (fun i v h => by
    match i, h with
    | 0, h => simp at h
    | i + 1, h => exact h) k
theorem ZV_fg_1 {M : ZM} {post : Option Av → ZS → Prop} {pc : Nat} {st : List Av} {σ : ZS} {kc ks : Nat} {a0 a1 : Option Av} {r : Zl} (k : ZV M post pc (a0 :: none :: r) st σ kc ks) : ZV M post pc (a0 :: a1 :: r) st σ kc ks := ZV_weak (fun i v h => by
    match i, h with
    | 0, h => exact h
    | 1, h => simp at h
    | i + 2, h => exact h) k
theorem ZV_fg_2 {M : ZM} {post : Option Av → ZS → Prop} {pc : Nat} {st : List Av} {σ : ZS} {kc ks : Nat} {a0 a1 a2 : Option Av} {r : Zl} (k : ZV M post pc (a0 :: a1 :: none :: r) st σ kc ks) : ZV M post pc (a0 :: a1 :: a2 :: r) st σ kc ks := ZV_weak (fun i v h => by
    match i, h with
    | 0, h => exact h
    | 1, h => exact h
    | 2, h => simp at h
    | i + 3, h => exact h) k
theorem ZV_fg_3 {M : ZM} {post : Option Av → ZS → Prop} {pc : Nat} {st : List Av} {σ : ZS} {kc ks : Nat} {a0 a1 a2 a3 : Option Av} {r : Zl} (k : ZV M post pc (a0 :: a1 :: a2 :: none :: r) st σ kc ks) : ZV M post pc (a0 :: a1 :: a2 :: a3 :: r) st σ kc ks := ZV_weak (fun i v h => by
    match i, h with
    | 0, h => exact h
    | 1, h => exact h
    | 2, h => exact h
    | 3, h => simp at h
    | i + 4, h => exact h) k
theorem ZV_fg_4 {M : ZM} {post : Option Av → ZS → Prop} {pc : Nat} {st : List Av} {σ : ZS} {kc ks : Nat} {a0 a1 a2 a3 a4 : Option Av} {r : Zl} (k : ZV M post pc (a0 :: a1 :: a2 :: a3 :: none :: r) st σ kc ks) : ZV M post pc (a0 :: a1 :: a2 :: a3 :: a4 :: r) st σ kc ks := ZV_weak (fun i v h => by
    match i, h with
    | 0, h => exact h
    | 1, h => exact h
    | 2, h => exact h
    | 3, h => exact h
    | 4, h => simp at h
    | i + 5, h => exact h) k
theorem ZV_fg_5 {M : ZM} {post : Option Av → ZS → Prop} {pc : Nat} {st : List Av} {σ : ZS} {kc ks : Nat} {a0 a1 a2 a3 a4 a5 : Option Av} {r : Zl} (k : ZV M post pc (a0 :: a1 :: a2 :: a3 :: a4 :: none :: r) st σ kc ks) : ZV M post pc (a0 :: a1 :: a2 :: a3 :: a4 :: a5 :: r) st σ kc ks := ZV_weak (fun i v h => by
    match i, h with
    | 0, h => exact h
    | 1, h => exact h
    | 2, h => exact h
    | 3, h => exact h
    | 4, h => exact h
    | 5, h => simp at h
    | i + 6, h => exact h) k
theorem ZV_fg_6 {M : ZM} {post : Option Av → ZS → Prop} {pc : Nat} {st : List Av} {σ : ZS} {kc ks : Nat} {a0 a1 a2 a3 a4 a5 a6 : Option Av} {r : Zl} (k : ZV M post pc (a0 :: a1 :: a2 :: a3 :: a4 :: a5 :: none :: r) st σ kc ks) : ZV M post pc (a0 :: a1 :: a2 :: a3 :: a4 :: a5 :: a6 :: r) st σ kc ks := ZV_weak (fun i v h => by
    match i, h with
    | 0, h => exact h
    | 1, h => exact h
    | 2, h => exact h
    | 3, h => exact h
    | 4, h => exact h
    | 5, h => exact h
    | 6, h => simp at h
    | i + 7, h => exact h) k
theorem ZV_fg_7 {M : ZM} {post : Option Av → ZS → Prop} {pc : Nat} {st : List Av} {σ : ZS} {kc ks : Nat} {a0 a1 a2 a3 a4 a5 a6 a7 : Option Av} {r : Zl} (k : ZV M post pc (a0 :: a1 :: a2 :: a3 :: a4 :: a5 :: a6 :: none :: r) st σ kc ks) : ZV M post pc (a0 :: a1 :: a2 :: a3 :: a4 :: a5 :: a6 :: a7 :: r) st σ kc ks := ZV_weak (fun i v h => by
    match i, h with
    | 0, h => exact h
    | 1, h => exact h
    | 2, h => exact h
    | 3, h => exact h
    | 4, h => exact h
    | 5, h => exact h
    | 6, h => exact h
    | 7, h => simp at h
    | i + 8, h => exact h) k
theorem ZV_fg_8 {M : ZM} {post : Option Av → ZS → Prop} {pc : Nat} {st : List Av} {σ : ZS} {kc ks : Nat} {a0 a1 a2 a3 a4 a5 a6 a7 a8 : Option Av} {r : Zl} (k : ZV M post pc (a0 :: a1 :: a2 :: a3 :: a4 :: a5 :: a6 :: a7 :: none :: r) st σ kc ks) : ZV M post pc (a0 :: a1 :: a2 :: a3 :: a4 :: a5 :: a6 :: a7 :: a8 :: r) st σ kc ks := ZV_weak (fun i v h => by
    match i, h with
    | 0, h => exact h
    | 1, h => exact h
    | 2, h => exact h
    | 3, h => exact h
    | 4, h => exact h
    | 5, h => exact h
    | 6, h => exact h
    | 7, h => exact h
    | 8, h => simp at h
    | i + 9, h => exact h) k
theorem ZV_fg_9 {M : ZM} {post : Option Av → ZS → Prop} {pc : Nat} {st : List Av} {σ : ZS} {kc ks : Nat} {a0 a1 a2 a3 a4 a5 a6 a7 a8 a9 : Option Av} {r : Zl} (k : ZV M post pc (a0 :: a1 :: a2 :: a3 :: a4 :: a5 :: a6 :: a7 :: a8 :: none :: r) st σ kc ks) : ZV M post pc (a0 :: a1 :: a2 :: a3 :: a4 :: a5 :: a6 :: a7 :: a8 :: a9 :: r) st σ kc ks := ZV_weak (fun i v h => by
    match i, h with
    | 0, h => exact h
    | 1, h => exact h
    | 2, h => exact h
    | 3, h => exact h
    | 4, h => exact h
    | 5, h => exact h
    | 6, h => exact h
    | 7, h => exact h
    | 8, h => exact h
    | 9, h => simp at h
    | i + 10, h => exact h) k
theorem ZV_fg_10 {M : ZM} {post : Option Av → ZS → Prop} {pc : Nat} {st : List Av} {σ : ZS} {kc ks : Nat} {a0 a1 a2 a3 a4 a5 a6 a7 a8 a9 a10 : Option Av} {r : Zl} (k : ZV M post pc (a0 :: a1 :: a2 :: a3 :: a4 :: a5 :: a6 :: a7 :: a8 :: a9 :: none :: r) st σ kc ks) : ZV M post pc (a0 :: a1 :: a2 :: a3 :: a4 :: a5 :: a6 :: a7 :: a8 :: a9 :: a10 :: r) st σ kc ks := ZV_weak (fun i v h => by
    match i, h with
    | 0, h => exact h
    | 1, h => exact h
    | 2, h => exact h
    | 3, h => exact h
    | 4, h => exact h
    | 5, h => exact h
    | 6, h => exact h
    | 7, h => exact h
    | 8, h => exact h
    | 9, h => exact h
    | 10, h => simp at h
    | i + 11, h => exact h) k
theorem ZV_fg_11 {M : ZM} {post : Option Av → ZS → Prop} {pc : Nat} {st : List Av} {σ : ZS} {kc ks : Nat} {a0 a1 a2 a3 a4 a5 a6 a7 a8 a9 a10 a11 : Option Av} {r : Zl} (k : ZV M post pc (a0 :: a1 :: a2 :: a3 :: a4 :: a5 :: a6 :: a7 :: a8 :: a9 :: a10 :: none :: r) st σ kc ks) : ZV M post pc (a0 :: a1 :: a2 :: a3 :: a4 :: a5 :: a6 :: a7 :: a8 :: a9 :: a10 :: a11 :: r) st σ kc ks := ZV_weak (fun i v h => by
    match i, h with
    | 0, h => exact h
    | 1, h => exact h
    | 2, h => exact h
    | 3, h => exact h
    | 4, h => exact h
    | 5, h => exact h
    | 6, h => exact h
    | 7, h => exact h
    | 8, h => exact h
    | 9, h => exact h
    | 10, h => exact h
    | 11, h => simp at h
    | i + 12, h => exact h) k
theorem ZV_fg_12 {M : ZM} {post : Option Av → ZS → Prop} {pc : Nat} {st : List Av} {σ : ZS} {kc ks : Nat} {a0 a1 a2 a3 a4 a5 a6 a7 a8 a9 a10 a11 a12 : Option Av} {r : Zl} (k : ZV M post pc (a0 :: a1 :: a2 :: a3 :: a4 :: a5 :: a6 :: a7 :: a8 :: a9 :: a10 :: a11 :: none :: r) st σ kc ks) : ZV M post pc (a0 :: a1 :: a2 :: a3 :: a4 :: a5 :: a6 :: a7 :: a8 :: a9 :: a10 :: a11 :: a12 :: r) st σ kc ks := ZV_weak (fun i v h => by
    match i, h with
    | 0, h => exact h
    | 1, h => exact h
    | 2, h => exact h
    | 3, h => exact h
    | 4, h => exact h
    | 5, h => exact h
    | 6, h => exact h
    | 7, h => exact h
    | 8, h => exact h
    | 9, h => exact h
    | 10, h => exact h
    | 11, h => exact h
    | 12, h => simp at h
    | i + 13, h => exact h) k
theorem ZV_fg_13 {M : ZM} {post : Option Av → ZS → Prop} {pc : Nat} {st : List Av} {σ : ZS} {kc ks : Nat} {a0 a1 a2 a3 a4 a5 a6 a7 a8 a9 a10 a11 a12 a13 : Option Av} {r : Zl} (k : ZV M post pc (a0 :: a1 :: a2 :: a3 :: a4 :: a5 :: a6 :: a7 :: a8 :: a9 :: a10 :: a11 :: a12 :: none :: r) st σ kc ks) : ZV M post pc (a0 :: a1 :: a2 :: a3 :: a4 :: a5 :: a6 :: a7 :: a8 :: a9 :: a10 :: a11 :: a12 :: a13 :: r) st σ kc ks := ZV_weak (fun i v h => by
    match i, h with
    | 0, h => exact h
    | 1, h => exact h
    | 2, h => exact h
    | 3, h => exact h
    | 4, h => exact h
    | 5, h => exact h
    | 6, h => exact h
    | 7, h => exact h
    | 8, h => exact h
    | 9, h => exact h
    | 10, h => exact h
    | 11, h => exact h
    | 12, h => exact h
    | 13, h => simp at h
    | i + 14, h => exact h) k
theorem ZV_fg_14 {M : ZM} {post : Option Av → ZS → Prop} {pc : Nat} {st : List Av} {σ : ZS} {kc ks : Nat} {a0 a1 a2 a3 a4 a5 a6 a7 a8 a9 a10 a11 a12 a13 a14 : Option Av} {r : Zl} (k : ZV M post pc (a0 :: a1 :: a2 :: a3 :: a4 :: a5 :: a6 :: a7 :: a8 :: a9 :: a10 :: a11 :: a12 :: a13 :: none :: r) st σ kc ks) : ZV M post pc (a0 :: a1 :: a2 :: a3 :: a4 :: a5 :: a6 :: a7 :: a8 :: a9 :: a10 :: a11 :: a12 :: a13 :: a14 :: r) st σ kc ks := ZV_weak (fun i v h => by
    match i, h with
    | 0, h => exact h
    | 1, h => exact h
    | 2, h => exact h
    | 3, h => exact h
    | 4, h => exact h
    | 5, h => exact h
    | 6, h => exact h
    | 7, h => exact h
    | 8, h => exact h
    | 9, h => exact h
    | 10, h => exact h
    | 11, h => exact h
    | 12, h => exact h
    | 13, h => exact h
    | 14, h => simp at h
    | i + 15, h => exact h) k
theorem ZV_fg_15 {M : ZM} {post : Option Av → ZS → Prop} {pc : Nat} {st : List Av} {σ : ZS} {kc ks : Nat} {a0 a1 a2 a3 a4 a5 a6 a7 a8 a9 a10 a11 a12 a13 a14 a15 : Option Av} {r : Zl} (k : ZV M post pc (a0 :: a1 :: a2 :: a3 :: a4 :: a5 :: a6 :: a7 :: a8 :: a9 :: a10 :: a11 :: a12 :: a13 :: a14 :: none :: r) st σ kc ks) : ZV M post pc (a0 :: a1 :: a2 :: a3 :: a4 :: a5 :: a6 :: a7 :: a8 :: a9 :: a10 :: a11 :: a12 :: a13 :: a14 :: a15 :: r) st σ kc ks := ZV_weak (fun i v h => by
    match i, h with
    | 0, h => exact h
    | 1, h => exact h
    | 2, h => exact h
    | 3, h => exact h
    | 4, h => exact h
    | 5, h => exact h
    | 6, h => exact h
    | 7, h => exact h
    | 8, h => exact h
    | 9, h => exact h
    | 10, h => exact h
    | 11, h => exact h
    | 12, h => exact h
    | 13, h => exact h
    | 14, h => exact h
    | 15, h => simp at h
    | i + 16, h => exact h) k
theorem ZV_ialdv {M : ZM} {post : Option Av → ZS → Prop} {pc n : Nat} {ls : Zl} {st : List Av} {σ : ZS} {kc ks : Nat} {a N j : Nat} {i : Int32} {o : Option Nat} {w : Int32} (hd : decode (zmc M) pc = .ok (.iaload, 1)) (hn : pc + 1 = n) (ho : o = some a) (hk : zk σ a = (2, N)) (hi : i = nI j) (hj : j < N ∧ j < 2147483648) (hv : zi σ a j = w) (k : ZV M post n ls (Ai w :: st) σ kc ks) : ZV M post pc ls (Ai i :: Ar o :: st) σ kc ks := ZV_iald hd hn ho hk hi hj (by rw [hv]; exact k)
theorem ZV_baldv {M : ZM} {post : Option Av → ZS → Prop} {pc n : Nat} {ls : Zl} {st : List Av} {σ : ZS} {kc ks : Nat} {a N j : Nat} {i : Int32} {o : Option Nat} {w : Int32} (hd : decode (zmc M) pc = .ok (.baload, 1)) (hn : pc + 1 = n) (ho : o = some a) (hk : zk σ a = (3, N)) (hi : i = nI j) (hj : j < N ∧ j < 2147483648) (hv : zi σ a j = w) (k : ZV M post n ls (Ai w :: st) σ kc ks) : ZV M post pc ls (Ai i :: Ar o :: st) σ kc ks := ZV_bald hd hn ho hk hi hj (by rw [hv]; exact k)
theorem ZV_laldv {M : ZM} {post : Option Av → ZS → Prop} {pc n : Nat} {ls : Zl} {st : List Av} {σ : ZS} {kc ks : Nat} {a N j : Nat} {i : Int32} {o : Option Nat} {w : Int64} (hd : decode (zmc M) pc = .ok (.laload, 1)) (hn : pc + 1 = n) (ho : o = some a) (hk : zk σ a = (4, N)) (hi : i = nI j) (hj : j < N ∧ j < 2147483648) (hv : zl σ a j = w) (k : ZV M post n ls (Al w :: st) σ kc ks) : ZV M post pc ls (Ai i :: Ar o :: st) σ kc ks := ZV_lald hd hn ho hk hi hj (by rw [hv]; exact k)
theorem ZV_aaldv {M : ZM} {post : Option Av → ZS → Prop} {pc n : Nat} {ls : Zl} {st : List Av} {σ : ZS} {kc ks : Nat} {a N j c0 : Nat} {i : Int32} {o : Option Nat} {w : Option Nat} (hd : decode (zmc M) pc = .ok (.aaload, 1)) (hn : pc + 1 = n) (hc0 : c0 < 6) (ho : o = some a) (hk : zk σ a = (c0 + 5, N)) (hi : i = nI j) (hj : j < N ∧ j < 2147483648) (hv : zr σ a j = w) (k : ZV M post n ls (Ar w :: st) σ kc ks) : ZV M post pc ls (Ai i :: Ar o :: st) σ kc ks := ZV_aald hd hn hc0 ho hk hi hj (by rw [hv]; exact k)
theorem ZV_getIv {M : ZM} {post : Option Av → ZS → Prop} {pc n : Nat} {ls : Zl} {st : List Av} {σ : ZS} {kc ks : Nat} {idx ci j f a : Nat} {o : Option Nat} {w : Int32} (hd : decode (zmc M) pc = .ok (.getfield idx, 3)) (hF : zFl (zmy M).cls idx ci j) (hf : (zF ci)[j]? = some (0, f)) (hn : pc + 3 = n) (ho : o = some a) (hk : zk σ a = (1, ci)) (hv : zI σ f a = w) (k : ZV M post n ls (Ai w :: st) σ kc ks) : ZV M post pc ls (Ar o :: st) σ kc ks := ZV_getI hd hF hf hn ho hk (by rw [hv]; exact k)
theorem ZV_getLv {M : ZM} {post : Option Av → ZS → Prop} {pc n : Nat} {ls : Zl} {st : List Av} {σ : ZS} {kc ks : Nat} {idx ci j f a : Nat} {o : Option Nat} {w : Int64} (hd : decode (zmc M) pc = .ok (.getfield idx, 3)) (hF : zFl (zmy M).cls idx ci j) (hf : (zF ci)[j]? = some (1, f)) (hn : pc + 3 = n) (ho : o = some a) (hk : zk σ a = (1, ci)) (hv : zL σ f a = w) (k : ZV M post n ls (Al w :: st) σ kc ks) : ZV M post pc ls (Ar o :: st) σ kc ks := ZV_getL hd hF hf hn ho hk (by rw [hv]; exact k)
theorem ZV_getRv {M : ZM} {post : Option Av → ZS → Prop} {pc n : Nat} {ls : Zl} {st : List Av} {σ : ZS} {kc ks : Nat} {idx ci j f a : Nat} {o : Option Nat} {w : Option Nat} (hd : decode (zmc M) pc = .ok (.getfield idx, 3)) (hF : zFl (zmy M).cls idx ci j) (hf : (zF ci)[j]? = some (2, f)) (hn : pc + 3 = n) (ho : o = some a) (hk : zk σ a = (1, ci)) (hv : zR σ f a = w) (k : ZV M post n ls (Ar w :: st) σ kc ks) : ZV M post pc ls (Ar o :: st) σ kc ks := ZV_getR hd hF hf hn ho hk (by rw [hv]; exact k)
theorem ZV_top {M : ZM} {post : Option Av → ZS → Prop} {pc : Nat} {ls : Zl} {st : List Av} {σ : ZS} {kc ks : Nat} {v w : Av} (h : v = w) (k : ZV M post pc ls (w :: st) σ kc ks) : ZV M post pc ls (v :: st) σ kc ks := by rw [h]; exact k
theorem ZV_topi {M : ZM} {post : Option Av → ZS → Prop} {pc : Nat} {ls : Zl} {st : List Av} {σ : ZS} {kc ks : Nat} {v w : Int32} (h : v = w) (k : ZV M post pc ls (Ai w :: st) σ kc ks) : ZV M post pc ls (Ai v :: st) σ kc ks := by rw [h]; exact k
theorem ZV_topl {M : ZM} {post : Option Av → ZS → Prop} {pc : Nat} {ls : Zl} {st : List Av} {σ : ZS} {kc ks : Nat} {v w : Int64} (h : v = w) (k : ZV M post pc ls (Al w :: st) σ kc ks) : ZV M post pc ls (Al v :: st) σ kc ks := by rw [h]; exact k
theorem zI_pI (σ : ZS) (f a g b : Nat) (v : Int32) : zI (pI σ f a v) g b = if g = f ∧ b = a then v else zI σ g b := rfl
theorem zL_pL (σ : ZS) (f a g b : Nat) (v : Int64) : zL (pL σ f a v) g b = if g = f ∧ b = a then v else zL σ g b := rfl
theorem zR_pR (σ : ZS) (f a g b : Nat) (v : Option Nat) : zR (pR σ f a v) g b = if g = f ∧ b = a then v else zR σ g b := rfl
theorem zi_qi (σ : ZS) (a i b j : Nat) (v : Int32) : zi (qi σ a i v) b j = if b = a ∧ j = i then v else zi σ b j := rfl
theorem zl_ql (σ : ZS) (a i b j : Nat) (v : Int64) : zl (ql σ a i v) b j = if b = a ∧ j = i then v else zl σ b j := rfl
theorem zr_qr (σ : ZS) (a i b j : Nat) (v : Option Nat) : zr (qr σ a i v) b j = if b = a ∧ j = i then v else zr σ b j := rfl
theorem zI_pL (σ : ZS) (f a : Nat) (v : Int64) (g b : Nat) : zI (pL σ f a v) g b = zI σ g b := rfl
theorem zI_pR (σ : ZS) (f a : Nat) (v : Option Nat) (g b : Nat) : zI (pR σ f a v) g b = zI σ g b := rfl
theorem zI_qi (σ : ZS) (a i : Nat) (v : Int32) (g b : Nat) : zI (qi σ a i v) g b = zI σ g b := rfl
theorem zI_ql (σ : ZS) (a i : Nat) (v : Int64) (g b : Nat) : zI (ql σ a i v) g b = zI σ g b := rfl
theorem zI_qr (σ : ZS) (a i : Nat) (v : Option Nat) (g b : Nat) : zI (qr σ a i v) g b = zI σ g b := rfl
theorem zL_pI (σ : ZS) (f a : Nat) (v : Int32) (g b : Nat) : zL (pI σ f a v) g b = zL σ g b := rfl
theorem zL_pR (σ : ZS) (f a : Nat) (v : Option Nat) (g b : Nat) : zL (pR σ f a v) g b = zL σ g b := rfl
theorem zL_qi (σ : ZS) (a i : Nat) (v : Int32) (g b : Nat) : zL (qi σ a i v) g b = zL σ g b := rfl
theorem zL_ql (σ : ZS) (a i : Nat) (v : Int64) (g b : Nat) : zL (ql σ a i v) g b = zL σ g b := rfl
theorem zL_qr (σ : ZS) (a i : Nat) (v : Option Nat) (g b : Nat) : zL (qr σ a i v) g b = zL σ g b := rfl
theorem zR_pI (σ : ZS) (f a : Nat) (v : Int32) (g b : Nat) : zR (pI σ f a v) g b = zR σ g b := rfl
theorem zR_pL (σ : ZS) (f a : Nat) (v : Int64) (g b : Nat) : zR (pL σ f a v) g b = zR σ g b := rfl
theorem zR_qi (σ : ZS) (a i : Nat) (v : Int32) (g b : Nat) : zR (qi σ a i v) g b = zR σ g b := rfl
theorem zR_ql (σ : ZS) (a i : Nat) (v : Int64) (g b : Nat) : zR (ql σ a i v) g b = zR σ g b := rfl
theorem zR_qr (σ : ZS) (a i : Nat) (v : Option Nat) (g b : Nat) : zR (qr σ a i v) g b = zR σ g b := rfl
theorem zi_pI (σ : ZS) (f a : Nat) (v : Int32) (g b : Nat) : zi (pI σ f a v) g b = zi σ g b := rfl
theorem zi_pL (σ : ZS) (f a : Nat) (v : Int64) (g b : Nat) : zi (pL σ f a v) g b = zi σ g b := rfl
theorem zi_pR (σ : ZS) (f a : Nat) (v : Option Nat) (g b : Nat) : zi (pR σ f a v) g b = zi σ g b := rfl
theorem zi_ql (σ : ZS) (a i : Nat) (v : Int64) (g b : Nat) : zi (ql σ a i v) g b = zi σ g b := rfl
theorem zi_qr (σ : ZS) (a i : Nat) (v : Option Nat) (g b : Nat) : zi (qr σ a i v) g b = zi σ g b := rfl
theorem zl_pI (σ : ZS) (f a : Nat) (v : Int32) (g b : Nat) : zl (pI σ f a v) g b = zl σ g b := rfl
theorem zl_pL (σ : ZS) (f a : Nat) (v : Int64) (g b : Nat) : zl (pL σ f a v) g b = zl σ g b := rfl
theorem zl_pR (σ : ZS) (f a : Nat) (v : Option Nat) (g b : Nat) : zl (pR σ f a v) g b = zl σ g b := rfl
theorem zl_qi (σ : ZS) (a i : Nat) (v : Int32) (g b : Nat) : zl (qi σ a i v) g b = zl σ g b := rfl
theorem zl_qr (σ : ZS) (a i : Nat) (v : Option Nat) (g b : Nat) : zl (qr σ a i v) g b = zl σ g b := rfl
theorem zr_pI (σ : ZS) (f a : Nat) (v : Int32) (g b : Nat) : zr (pI σ f a v) g b = zr σ g b := rfl
theorem zr_pL (σ : ZS) (f a : Nat) (v : Int64) (g b : Nat) : zr (pL σ f a v) g b = zr σ g b := rfl
theorem zr_pR (σ : ZS) (f a : Nat) (v : Option Nat) (g b : Nat) : zr (pR σ f a v) g b = zr σ g b := rfl
theorem zr_qi (σ : ZS) (a i : Nat) (v : Int32) (g b : Nat) : zr (qi σ a i v) g b = zr σ g b := rfl
theorem zr_ql (σ : ZS) (a i : Nat) (v : Int64) (g b : Nat) : zr (ql σ a i v) g b = zr σ g b := rfl
theorem zk_pI (σ : ZS) (f a : Nat) (v : Int32) (b : Nat) : zk (pI σ f a v) b = zk σ b := rfl
theorem zk_pL (σ : ZS) (f a : Nat) (v : Int64) (b : Nat) : zk (pL σ f a v) b = zk σ b := rfl
theorem zk_pR (σ : ZS) (f a : Nat) (v : Option Nat) (b : Nat) : zk (pR σ f a v) b = zk σ b := rfl
theorem zk_qi (σ : ZS) (a i : Nat) (v : Int32) (b : Nat) : zk (qi σ a i v) b = zk σ b := rfl
theorem zk_ql (σ : ZS) (a i : Nat) (v : Int64) (b : Nat) : zk (ql σ a i v) b = zk σ b := rfl
theorem zk_qr (σ : ZS) (a i : Nat) (v : Option Nat) (b : Nat) : zk (qr σ a i v) b = zk σ b := rfl
theorem zn_pI (σ : ZS) (f a : Nat) (v : Int32) : zn (pI σ f a v) = zn σ := rfl
theorem zn_pL (σ : ZS) (f a : Nat) (v : Int64) : zn (pL σ f a v) = zn σ := rfl
theorem zn_pR (σ : ZS) (f a : Nat) (v : Option Nat) : zn (pR σ f a v) = zn σ := rfl
theorem zn_qi (σ : ZS) (a i : Nat) (v : Int32) : zn (qi σ a i v) = zn σ := rfl
theorem zn_ql (σ : ZS) (a i : Nat) (v : Int64) : zn (ql σ a i v) = zn σ := rfl
theorem zn_qr (σ : ZS) (a i : Nat) (v : Option Nat) : zn (qr σ a i v) = zn σ := rfl
