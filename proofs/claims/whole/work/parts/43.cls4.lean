theorem pL_id (σ : ZS) (f a : Nat) : pL σ f a (zL σ f a + lN 0) = σ := by
  have h : zL σ f a + lN 0 = zL σ f a := by
    rw [show lN 0 = 0 from rfl]
    exact Int64.add_zero _
  rw [h]
  unfold pL
  have h2 : z2 σ.2.2.1 f a (zL σ f a) = σ.2.2.1 := by
    funext g b
    unfold z2
    by_cases q : g = f ∧ b = a
    · rw [if_pos q, q.1, q.2]
      rfl
    · rw [if_neg q]
  rw [h2]
set_option maxHeartbeats 4000000 in
set_option maxRecDepth 100000 in
theorem e_X7_soundOf_7 {σ : ZS} {b : Nat} (hk : zk σ b = (1, 7)) (p : Int32) : ZC M_X7_soundOf [Ar (some b), Ai p] σ (fun r τ => r = some (Ai (p)) ∧ τ = pL σ 448 b (zL σ 448 b + lN 1)) := by
  refine ZC_of (ls := [some (Ar (some b)), some (Ai p)]) (by decide) (Nat.le_of_ble_eq_true rfl) rfl ?_
  refine ZV_aload_n (n := 1) dX7_soundOf_0 rfl rfl rfl ?_
  refine ZV_dup (n := 2) dX7_soundOf_1 rfl rfl ?_
  refine ZV_getLv (n := 5) dX7_soundOf_2 fl_X7_7_7 rfl rfl rfl hk rfl ?_
  refine ZV_lconst (v := lN 1) (n := 6) dX7_soundOf_5 rfl rfl ?_
  refine ZV_ladd (n := 7) dX7_soundOf_6 rfl ?_
  refine ZV_putL (n := 10) dX7_soundOf_7 fl_X7_7_7 rfl (Or.inl rfl) rfl rfl hk ?_
  refine ZV_iload_n (n := 11) dX7_soundOf_10 rfl rfl rfl ?_
  refine ZV_iret dX7_soundOf_11 rfl ?_
  exact ⟨rfl, rfl⟩
set_option maxHeartbeats 4000000 in
set_option maxRecDepth 100000 in
theorem e_X7_soundOf_0 {σ : ZS} {b : Nat} (hk : zk σ b = (1, 0)) (p : Int32) : ZC M_X7_soundOf [Ar (some b), Ai p] σ (fun r τ => r = some (Ai (p)) ∧ τ = pL σ 448 b (zL σ 448 b + lN 1)) := by
  refine ZC_of (ls := [some (Ar (some b)), some (Ai p)]) (by decide) (Nat.le_of_ble_eq_true rfl) rfl ?_
  refine ZV_aload_n (n := 1) dX7_soundOf_0 rfl rfl rfl ?_
  refine ZV_dup (n := 2) dX7_soundOf_1 rfl rfl ?_
  refine ZV_getLv (n := 5) dX7_soundOf_2 fl_X7_7_0 rfl rfl rfl hk rfl ?_
  refine ZV_lconst (v := lN 1) (n := 6) dX7_soundOf_5 rfl rfl ?_
  refine ZV_ladd (n := 7) dX7_soundOf_6 rfl ?_
  refine ZV_putL (n := 10) dX7_soundOf_7 fl_X7_7_0 rfl (Or.inl rfl) rfl rfl hk ?_
  refine ZV_iload_n (n := 11) dX7_soundOf_10 rfl rfl rfl ?_
  refine ZV_iret dX7_soundOf_11 rfl ?_
  exact ⟨rfl, rfl⟩
set_option maxHeartbeats 4000000 in
set_option maxRecDepth 100000 in
theorem e_X7_soundOf_5 {σ : ZS} {b : Nat} (hk : zk σ b = (1, 5)) (p : Int32) : ZC M_X7_soundOf [Ar (some b), Ai p] σ (fun r τ => r = some (Ai (p)) ∧ τ = pL σ 448 b (zL σ 448 b + lN 1)) := by
  refine ZC_of (ls := [some (Ar (some b)), some (Ai p)]) (by decide) (Nat.le_of_ble_eq_true rfl) rfl ?_
  refine ZV_aload_n (n := 1) dX7_soundOf_0 rfl rfl rfl ?_
  refine ZV_dup (n := 2) dX7_soundOf_1 rfl rfl ?_
  refine ZV_getLv (n := 5) dX7_soundOf_2 fl_X7_7_5 rfl rfl rfl hk rfl ?_
  refine ZV_lconst (v := lN 1) (n := 6) dX7_soundOf_5 rfl rfl ?_
  refine ZV_ladd (n := 7) dX7_soundOf_6 rfl ?_
  refine ZV_putL (n := 10) dX7_soundOf_7 fl_X7_7_5 rfl (Or.inl rfl) rfl rfl hk ?_
  refine ZV_iload_n (n := 11) dX7_soundOf_10 rfl rfl rfl ?_
  refine ZV_iret dX7_soundOf_11 rfl ?_
  exact ⟨rfl, rfl⟩
set_option maxHeartbeats 4000000 in
set_option maxRecDepth 100000 in
theorem e_X7_soundOf_3 {σ : ZS} {b : Nat} (hk : zk σ b = (1, 3)) (p : Int32) : ZC M_X7_soundOf [Ar (some b), Ai p] σ (fun r τ => r = some (Ai (p)) ∧ τ = pL σ 448 b (zL σ 448 b + lN 1)) := by
  refine ZC_of (ls := [some (Ar (some b)), some (Ai p)]) (by decide) (Nat.le_of_ble_eq_true rfl) rfl ?_
  refine ZV_aload_n (n := 1) dX7_soundOf_0 rfl rfl rfl ?_
  refine ZV_dup (n := 2) dX7_soundOf_1 rfl rfl ?_
  refine ZV_getLv (n := 5) dX7_soundOf_2 fl_X7_7_3 rfl rfl rfl hk rfl ?_
  refine ZV_lconst (v := lN 1) (n := 6) dX7_soundOf_5 rfl rfl ?_
  refine ZV_ladd (n := 7) dX7_soundOf_6 rfl ?_
  refine ZV_putL (n := 10) dX7_soundOf_7 fl_X7_7_3 rfl (Or.inl rfl) rfl rfl hk ?_
  refine ZV_iload_n (n := 11) dX7_soundOf_10 rfl rfl rfl ?_
  refine ZV_iret dX7_soundOf_11 rfl ?_
  exact ⟨rfl, rfl⟩
set_option maxHeartbeats 4000000 in
set_option maxRecDepth 100000 in
theorem e_X7_soundOf_6 {σ : ZS} {b : Nat} (hk : zk σ b = (1, 6)) (p : Int32) : ZC M_X7_soundOf [Ar (some b), Ai p] σ (fun r τ => r = some (Ai (p)) ∧ τ = pL σ 448 b (zL σ 448 b + lN 1)) := by
  refine ZC_of (ls := [some (Ar (some b)), some (Ai p)]) (by decide) (Nat.le_of_ble_eq_true rfl) rfl ?_
  refine ZV_aload_n (n := 1) dX7_soundOf_0 rfl rfl rfl ?_
  refine ZV_dup (n := 2) dX7_soundOf_1 rfl rfl ?_
  refine ZV_getLv (n := 5) dX7_soundOf_2 fl_X7_7_6 rfl rfl rfl hk rfl ?_
  refine ZV_lconst (v := lN 1) (n := 6) dX7_soundOf_5 rfl rfl ?_
  refine ZV_ladd (n := 7) dX7_soundOf_6 rfl ?_
  refine ZV_putL (n := 10) dX7_soundOf_7 fl_X7_7_6 rfl (Or.inl rfl) rfl rfl hk ?_
  refine ZV_iload_n (n := 11) dX7_soundOf_10 rfl rfl rfl ?_
  refine ZV_iret dX7_soundOf_11 rfl ?_
  exact ⟨rfl, rfl⟩
set_option maxHeartbeats 4000000 in
set_option maxRecDepth 100000 in
theorem e_X1_soundOf_1 {σ : ZS} {b : Nat} (hk : zk σ b = (1, 1)) (p : Int32) : ZC M_X1_soundOf [Ar (some b), Ai p] σ (fun r τ => r = some (Ai (nI 35)) ∧ τ = pL σ 448 b (zL σ 448 b + lN 10000)) := by
  refine ZC_of (ls := [some (Ar (some b)), some (Ai p)]) (by decide) (Nat.le_of_ble_eq_true rfl) rfl ?_
  refine ZV_aload_n (n := 1) dX1_soundOf_0 rfl rfl rfl ?_
  refine ZV_dup (n := 2) dX1_soundOf_1 rfl rfl ?_
  refine ZV_getLv (n := 5) dX1_soundOf_2 fl_X1_7_1 rfl rfl rfl hk rfl ?_
  refine ZV_ldc2 (v := lN 10000) (n := 8) dX1_soundOf_5 wd_2_180 rfl ?_
  refine ZV_ladd (n := 9) dX1_soundOf_8 rfl ?_
  refine ZV_putL (n := 12) dX1_soundOf_9 fl_X1_7_1 rfl (Or.inl rfl) rfl rfl hk ?_
  refine ZV_bipush (v := nI 35) (n := 14) dX1_soundOf_12 rfl rfl ?_
  refine ZV_iret dX1_soundOf_14 rfl ?_
  exact ⟨rfl, rfl⟩
set_option maxHeartbeats 4000000 in
set_option maxRecDepth 100000 in
theorem e_X5_soundOf_5 {σ : ZS} {b : Nat} (hk : zk σ b = (1, 5)) (p : Int32) : ZC M_X5_soundOf [Ar (some b), Ai p] σ (fun r τ => r = some (Ai (p - nI 12)) ∧ τ = pL σ 448 b (zL σ 448 b + lN 11)) := by
  refine ZC_of (ls := [some (Ar (some b)), some (Ai p)]) (by decide) (Nat.le_of_ble_eq_true rfl) rfl ?_
  refine ZV_aload_n (n := 1) dX5_soundOf_0 rfl rfl rfl ?_
  refine ZV_dup (n := 2) dX5_soundOf_1 rfl rfl ?_
  refine ZV_getLv (n := 5) dX5_soundOf_2 fl_X5_7_5 rfl rfl rfl hk rfl ?_
  refine ZV_ldc2 (v := lN 10) (n := 8) dX5_soundOf_5 wd_2_191 rfl ?_
  refine ZV_ladd (n := 9) dX5_soundOf_8 rfl ?_
  refine ZV_putL (n := 12) dX5_soundOf_9 fl_X5_7_5 rfl (Or.inl rfl) rfl rfl hk ?_
  refine ZV_aload_n (n := 13) dX5_soundOf_12 rfl rfl rfl ?_
  refine ZV_iload_n (n := 14) dX5_soundOf_13 rfl rfl rfl ?_
  refine ZV_run (ZRun_X (M' := M_X7_soundOf) (As := [Ai p]) (sup := "StaveScore$Plain") (ci := 5) (e_X7_soundOf_5 (by exact hk) p) cb_X7_soundOf wd_2_192 wd_2_175 wd_1_134 (Or.inl rfl) wd_2_173 (by decide) (by exact hk) (by decide) rfl dX5_soundOf_14 (Nat.le_of_ble_eq_true rfl) (Nat.le_of_ble_eq_true rfl)) rfl rfl rfl (fun r9 σ9 hp9 => ?_)
  obtain ⟨rfl, rfl⟩ := hp9
  refine ZV_bipush (v := nI 12) (n := 19) dX5_soundOf_17 rfl rfl ?_
  refine ZV_isub (n := 20) dX5_soundOf_19 rfl ?_
  refine ZV_iret dX5_soundOf_20 rfl ?_
  refine ⟨rfl, ?_⟩
  rw [pL_pL, zL_pLs, Int64.add_assoc]
  rfl
set_option maxHeartbeats 4000000 in
set_option maxRecDepth 100000 in
theorem e_X3_soundOf_3 {σ : ZS} {b : Nat} (hk : zk σ b = (1, 3)) (p : Int32) : ZC M_X3_soundOf [Ar (some b), Ai p] σ (fun r τ => r = some (Ai (p - nI 7)) ∧ τ = pL σ 448 b (zL σ 448 b + lN 101)) := by
  refine ZC_of (ls := [some (Ar (some b)), some (Ai p)]) (by decide) (Nat.le_of_ble_eq_true rfl) rfl ?_
  refine ZV_aload_n (n := 1) dX3_soundOf_0 rfl rfl rfl ?_
  refine ZV_dup (n := 2) dX3_soundOf_1 rfl rfl ?_
  refine ZV_getLv (n := 5) dX3_soundOf_2 fl_X3_7_3 rfl rfl rfl hk rfl ?_
  refine ZV_ldc2 (v := lN 100) (n := 8) dX3_soundOf_5 wd_2_184 rfl ?_
  refine ZV_ladd (n := 9) dX3_soundOf_8 rfl ?_
  refine ZV_putL (n := 12) dX3_soundOf_9 fl_X3_7_3 rfl (Or.inl rfl) rfl rfl hk ?_
  refine ZV_aload_n (n := 13) dX3_soundOf_12 rfl rfl rfl ?_
  refine ZV_iload_n (n := 14) dX3_soundOf_13 rfl rfl rfl ?_
  refine ZV_run (ZRun_X (M' := M_X7_soundOf) (As := [Ai p]) (sup := "StaveScore$Brass") (ci := 3) (e_X7_soundOf_3 (by exact hk) p) cb_X7_soundOf wd_2_185 wd_2_186 wd_1_150 (Or.inr wd_1_142) wd_2_173 (by decide) (by exact hk) (by decide) rfl dX3_soundOf_14 (Nat.le_of_ble_eq_true rfl) (Nat.le_of_ble_eq_true rfl)) rfl rfl rfl (fun r9 σ9 hp9 => ?_)
  obtain ⟨rfl, rfl⟩ := hp9
  refine ZV_bipush (v := nI 7) (n := 19) dX3_soundOf_17 rfl rfl ?_
  refine ZV_isub (n := 20) dX3_soundOf_19 rfl ?_
  refine ZV_iret dX3_soundOf_20 rfl ?_
  refine ⟨rfl, ?_⟩
  rw [pL_pL, zL_pLs, Int64.add_assoc]
  rfl
set_option maxHeartbeats 4000000 in
set_option maxRecDepth 100000 in
theorem e_X3_soundOf_6 {σ : ZS} {b : Nat} (hk : zk σ b = (1, 6)) (p : Int32) : ZC M_X3_soundOf [Ar (some b), Ai p] σ (fun r τ => r = some (Ai (p - nI 7)) ∧ τ = pL σ 448 b (zL σ 448 b + lN 101)) := by
  refine ZC_of (ls := [some (Ar (some b)), some (Ai p)]) (by decide) (Nat.le_of_ble_eq_true rfl) rfl ?_
  refine ZV_aload_n (n := 1) dX3_soundOf_0 rfl rfl rfl ?_
  refine ZV_dup (n := 2) dX3_soundOf_1 rfl rfl ?_
  refine ZV_getLv (n := 5) dX3_soundOf_2 fl_X3_7_6 rfl rfl rfl hk rfl ?_
  refine ZV_ldc2 (v := lN 100) (n := 8) dX3_soundOf_5 wd_2_184 rfl ?_
  refine ZV_ladd (n := 9) dX3_soundOf_8 rfl ?_
  refine ZV_putL (n := 12) dX3_soundOf_9 fl_X3_7_6 rfl (Or.inl rfl) rfl rfl hk ?_
  refine ZV_aload_n (n := 13) dX3_soundOf_12 rfl rfl rfl ?_
  refine ZV_iload_n (n := 14) dX3_soundOf_13 rfl rfl rfl ?_
  refine ZV_run (ZRun_X (M' := M_X7_soundOf) (As := [Ai p]) (sup := "StaveScore$Brass") (ci := 6) (e_X7_soundOf_6 (by exact hk) p) cb_X7_soundOf wd_2_185 wd_2_186 wd_1_150 (Or.inr wd_1_142) wd_2_173 (by decide) (by exact hk) (by decide) rfl dX3_soundOf_14 (Nat.le_of_ble_eq_true rfl) (Nat.le_of_ble_eq_true rfl)) rfl rfl rfl (fun r9 σ9 hp9 => ?_)
  obtain ⟨rfl, rfl⟩ := hp9
  refine ZV_bipush (v := nI 7) (n := 19) dX3_soundOf_17 rfl rfl ?_
  refine ZV_isub (n := 20) dX3_soundOf_19 rfl ?_
  refine ZV_iret dX3_soundOf_20 rfl ?_
  refine ⟨rfl, ?_⟩
  rw [pL_pL, zL_pLs, Int64.add_assoc]
  rfl
set_option maxHeartbeats 4000000 in
set_option maxRecDepth 100000 in
theorem e_X6_soundOf_6 {σ : ZS} {b : Nat} (hk : zk σ b = (1, 6)) (p : Int32) : ZC M_X6_soundOf [Ar (some b), Ai p] σ (fun r τ => r = some (Ai (p - nI 7 - nI 12)) ∧ τ = pL σ 448 b (zL σ 448 b + lN 1101)) := by
  refine ZC_of (ls := [some (Ar (some b)), some (Ai p)]) (by decide) (Nat.le_of_ble_eq_true rfl) rfl ?_
  refine ZV_aload_n (n := 1) dX6_soundOf_0 rfl rfl rfl ?_
  refine ZV_dup (n := 2) dX6_soundOf_1 rfl rfl ?_
  refine ZV_getLv (n := 5) dX6_soundOf_2 fl_X6_7_6 rfl rfl rfl hk rfl ?_
  refine ZV_ldc2 (v := lN 1000) (n := 8) dX6_soundOf_5 wd_2_196 rfl ?_
  refine ZV_ladd (n := 9) dX6_soundOf_8 rfl ?_
  refine ZV_putL (n := 12) dX6_soundOf_9 fl_X6_7_6 rfl (Or.inl rfl) rfl rfl hk ?_
  refine ZV_aload_n (n := 13) dX6_soundOf_12 rfl rfl rfl ?_
  refine ZV_iload_n (n := 14) dX6_soundOf_13 rfl rfl rfl ?_
  refine ZV_run (ZRun_X (M' := M_X3_soundOf) (As := [Ai p]) (sup := "StaveScore$Horn") (ci := 6) (e_X3_soundOf_6 (by exact hk) p) cb_X3_soundOf wd_2_197 wd_6_171 wd_1_158 (Or.inl rfl) wd_2_182 (by decide) (by exact hk) (by decide) rfl dX6_soundOf_14 (Nat.le_of_ble_eq_true rfl) (Nat.le_of_ble_eq_true rfl)) rfl rfl rfl (fun r9 σ9 hp9 => ?_)
  obtain ⟨rfl, rfl⟩ := hp9
  refine ZV_bipush (v := nI 12) (n := 19) dX6_soundOf_17 rfl rfl ?_
  refine ZV_isub (n := 20) dX6_soundOf_19 rfl ?_
  refine ZV_iret dX6_soundOf_20 rfl ?_
  refine ⟨rfl, ?_⟩
  rw [pL_pL, zL_pLs, Int64.add_assoc]
  rfl
set_option maxHeartbeats 4000000 in
set_option maxRecDepth 100000 in
theorem e_X7_least_7 {σ : ZS} {b : Nat} (hk : zk σ b = (1, 7)) : ZC M_X7_least [Ar (some b)] σ (fun r τ => r = some (Ai (nI 21)) ∧ τ = σ) := by
  refine ZC_of (ls := [some (Ar (some b))]) (by decide) (Nat.le_of_ble_eq_true rfl) rfl ?_
  refine ZV_bipush (v := nI 21) (n := 2) dX7_least_0 rfl rfl ?_
  refine ZV_iret dX7_least_2 rfl ?_
  exact ⟨rfl, rfl⟩
set_option maxHeartbeats 4000000 in
set_option maxRecDepth 100000 in
theorem e_X7_least_1 {σ : ZS} {b : Nat} (hk : zk σ b = (1, 1)) : ZC M_X7_least [Ar (some b)] σ (fun r τ => r = some (Ai (nI 21)) ∧ τ = σ) := by
  refine ZC_of (ls := [some (Ar (some b))]) (by decide) (Nat.le_of_ble_eq_true rfl) rfl ?_
  refine ZV_bipush (v := nI 21) (n := 2) dX7_least_0 rfl rfl ?_
  refine ZV_iret dX7_least_2 rfl ?_
  exact ⟨rfl, rfl⟩
set_option maxHeartbeats 4000000 in
set_option maxRecDepth 100000 in
theorem e_X7_least_5 {σ : ZS} {b : Nat} (hk : zk σ b = (1, 5)) : ZC M_X7_least [Ar (some b)] σ (fun r τ => r = some (Ai (nI 21)) ∧ τ = σ) := by
  refine ZC_of (ls := [some (Ar (some b))]) (by decide) (Nat.le_of_ble_eq_true rfl) rfl ?_
  refine ZV_bipush (v := nI 21) (n := 2) dX7_least_0 rfl rfl ?_
  refine ZV_iret dX7_least_2 rfl ?_
  exact ⟨rfl, rfl⟩
set_option maxHeartbeats 4000000 in
set_option maxRecDepth 100000 in
theorem e_X0_least_0 {σ : ZS} {b : Nat} (hk : zk σ b = (1, 0)) : ZC M_X0_least [Ar (some b)] σ (fun r τ => r = some (Ai (nI 28)) ∧ τ = σ) := by
  refine ZC_of (ls := [some (Ar (some b))]) (by decide) (Nat.le_of_ble_eq_true rfl) rfl ?_
  refine ZV_bipush (v := nI 28) (n := 2) dX0_least_0 rfl rfl ?_
  refine ZV_iret dX0_least_2 rfl ?_
  exact ⟨rfl, rfl⟩
set_option maxHeartbeats 4000000 in
set_option maxRecDepth 100000 in
theorem e_X0_least_3 {σ : ZS} {b : Nat} (hk : zk σ b = (1, 3)) : ZC M_X0_least [Ar (some b)] σ (fun r τ => r = some (Ai (nI 28)) ∧ τ = σ) := by
  refine ZC_of (ls := [some (Ar (some b))]) (by decide) (Nat.le_of_ble_eq_true rfl) rfl ?_
  refine ZV_bipush (v := nI 28) (n := 2) dX0_least_0 rfl rfl ?_
  refine ZV_iret dX0_least_2 rfl ?_
  exact ⟨rfl, rfl⟩
set_option maxHeartbeats 4000000 in
set_option maxRecDepth 100000 in
theorem e_X0_least_6 {σ : ZS} {b : Nat} (hk : zk σ b = (1, 6)) : ZC M_X0_least [Ar (some b)] σ (fun r τ => r = some (Ai (nI 28)) ∧ τ = σ) := by
  refine ZC_of (ls := [some (Ar (some b))]) (by decide) (Nat.le_of_ble_eq_true rfl) rfl ?_
  refine ZV_bipush (v := nI 28) (n := 2) dX0_least_0 rfl rfl ?_
  refine ZV_iret dX0_least_2 rfl ?_
  exact ⟨rfl, rfl⟩
set_option maxHeartbeats 4000000 in
set_option maxRecDepth 100000 in
theorem e_X6_least_6 {σ : ZS} {b : Nat} (hk : zk σ b = (1, 6)) : ZC M_X6_least [Ar (some b)] σ (fun r τ => r = some (Ai (nI 23)) ∧ τ = pL σ 448 b (zL σ 448 b + lN 100000)) := by
  refine ZC_of (ls := [some (Ar (some b))]) (by decide) (Nat.le_of_ble_eq_true rfl) rfl ?_
  refine ZV_aload_n (n := 1) dX6_least_0 rfl rfl rfl ?_
  refine ZV_dup (n := 2) dX6_least_1 rfl rfl ?_
  refine ZV_getLv (n := 5) dX6_least_2 fl_X6_7_6 rfl rfl rfl hk rfl ?_
  refine ZV_ldc2 (v := lN 100000) (n := 8) dX6_least_5 wd_3_56 rfl ?_
  refine ZV_ladd (n := 9) dX6_least_8 rfl ?_
  refine ZV_putL (n := 12) dX6_least_9 fl_X6_7_6 rfl (Or.inl rfl) rfl rfl hk ?_
  refine ZV_aload_n (n := 13) dX6_least_12 rfl rfl rfl ?_
  refine ZV_run (ZRun_X (M' := M_X0_least) (As := []) (sup := "StaveScore$Horn") (ci := 6) (e_X0_least_6 (by exact hk)) cb_X0_least wd_3_57 wd_3_58 wd_1_158 (Or.inr wd_1_150) wd_3_48 (by decide) (by exact hk) (by decide) rfl dX6_least_13 (Nat.le_of_ble_eq_true rfl) (Nat.le_of_ble_eq_true rfl)) rfl rfl rfl (fun r9 σ9 hp9 => ?_)
  obtain ⟨rfl, rfl⟩ := hp9
  refine ZV_iconst (v := nI 5) (n := 17) dX6_least_16 rfl rfl ?_
  refine ZV_isub (n := 18) dX6_least_17 rfl ?_
  refine ZV_iret dX6_least_18 rfl ?_
  exact ⟨rfl, rfl⟩
set_option maxHeartbeats 4000000 in
set_option maxRecDepth 100000 in
theorem e_X7_most_7 {σ : ZS} {b : Nat} (hk : zk σ b = (1, 7)) : ZC M_X7_most [Ar (some b)] σ (fun r τ => r = some (Ai (nI 108)) ∧ τ = σ) := by
  refine ZC_of (ls := [some (Ar (some b))]) (by decide) (Nat.le_of_ble_eq_true rfl) rfl ?_
  refine ZV_bipush (v := nI 108) (n := 2) dX7_most_0 rfl rfl ?_
  refine ZV_iret dX7_most_2 rfl ?_
  exact ⟨rfl, rfl⟩
set_option maxHeartbeats 4000000 in
set_option maxRecDepth 100000 in
theorem e_X7_most_1 {σ : ZS} {b : Nat} (hk : zk σ b = (1, 1)) : ZC M_X7_most [Ar (some b)] σ (fun r τ => r = some (Ai (nI 108)) ∧ τ = σ) := by
  refine ZC_of (ls := [some (Ar (some b))]) (by decide) (Nat.le_of_ble_eq_true rfl) rfl ?_
  refine ZV_bipush (v := nI 108) (n := 2) dX7_most_0 rfl rfl ?_
  refine ZV_iret dX7_most_2 rfl ?_
  exact ⟨rfl, rfl⟩
set_option maxHeartbeats 4000000 in
set_option maxRecDepth 100000 in
theorem e_X7_most_5 {σ : ZS} {b : Nat} (hk : zk σ b = (1, 5)) : ZC M_X7_most [Ar (some b)] σ (fun r τ => r = some (Ai (nI 108)) ∧ τ = σ) := by
  refine ZC_of (ls := [some (Ar (some b))]) (by decide) (Nat.le_of_ble_eq_true rfl) rfl ?_
  refine ZV_bipush (v := nI 108) (n := 2) dX7_most_0 rfl rfl ?_
  refine ZV_iret dX7_most_2 rfl ?_
  exact ⟨rfl, rfl⟩
set_option maxHeartbeats 4000000 in
set_option maxRecDepth 100000 in
theorem e_X7_most_0 {σ : ZS} {b : Nat} (hk : zk σ b = (1, 0)) : ZC M_X7_most [Ar (some b)] σ (fun r τ => r = some (Ai (nI 108)) ∧ τ = σ) := by
  refine ZC_of (ls := [some (Ar (some b))]) (by decide) (Nat.le_of_ble_eq_true rfl) rfl ?_
  refine ZV_bipush (v := nI 108) (n := 2) dX7_most_0 rfl rfl ?_
  refine ZV_iret dX7_most_2 rfl ?_
  exact ⟨rfl, rfl⟩
set_option maxHeartbeats 4000000 in
set_option maxRecDepth 100000 in
theorem e_X7_most_3 {σ : ZS} {b : Nat} (hk : zk σ b = (1, 3)) : ZC M_X7_most [Ar (some b)] σ (fun r τ => r = some (Ai (nI 108)) ∧ τ = σ) := by
  refine ZC_of (ls := [some (Ar (some b))]) (by decide) (Nat.le_of_ble_eq_true rfl) rfl ?_
  refine ZV_bipush (v := nI 108) (n := 2) dX7_most_0 rfl rfl ?_
  refine ZV_iret dX7_most_2 rfl ?_
  exact ⟨rfl, rfl⟩
set_option maxHeartbeats 4000000 in
set_option maxRecDepth 100000 in
theorem e_X7_most_6 {σ : ZS} {b : Nat} (hk : zk σ b = (1, 6)) : ZC M_X7_most [Ar (some b)] σ (fun r τ => r = some (Ai (nI 108)) ∧ τ = σ) := by
  refine ZC_of (ls := [some (Ar (some b))]) (by decide) (Nat.le_of_ble_eq_true rfl) rfl ?_
  refine ZV_bipush (v := nI 108) (n := 2) dX7_most_0 rfl rfl ?_
  refine ZV_iret dX7_most_2 rfl ?_
  exact ⟨rfl, rfl⟩
set_option maxHeartbeats 4000000 in
set_option maxRecDepth 100000 in
theorem e_X0_most_0 {σ : ZS} {b : Nat} (hk : zk σ b = (1, 0)) : ZC M_X0_most [Ar (some b)] σ (fun r τ => r = some (Ai (nI 82)) ∧ τ = σ) := by
  refine ZC_of (ls := [some (Ar (some b))]) (by decide) (Nat.le_of_ble_eq_true rfl) rfl ?_
  refine ZV_aload_n (n := 1) dX0_most_0 rfl rfl rfl ?_
  refine ZV_run (ZRun_X (M' := M_X7_most) (As := []) (sup := "StaveScore$Plain") (ci := 0) (e_X7_most_0 (by exact hk)) cb_X7_most wd_3_68 wd_3_64 wd_1_142 (Or.inl rfl) wd_3_62 (by decide) (by exact hk) (by decide) rfl dX0_most_1 (Nat.le_of_ble_eq_true rfl) (Nat.le_of_ble_eq_true rfl)) rfl rfl rfl (fun r9 σ9 hp9 => ?_)
  obtain ⟨rfl, rfl⟩ := hp9
  refine ZV_bipush (v := nI 26) (n := 6) dX0_most_4 rfl rfl ?_
  refine ZV_isub (n := 7) dX0_most_6 rfl ?_
  refine ZV_iret dX0_most_7 rfl ?_
  exact ⟨rfl, rfl⟩
set_option maxHeartbeats 4000000 in
set_option maxRecDepth 100000 in
theorem e_X0_most_3 {σ : ZS} {b : Nat} (hk : zk σ b = (1, 3)) : ZC M_X0_most [Ar (some b)] σ (fun r τ => r = some (Ai (nI 82)) ∧ τ = σ) := by
  refine ZC_of (ls := [some (Ar (some b))]) (by decide) (Nat.le_of_ble_eq_true rfl) rfl ?_
  refine ZV_aload_n (n := 1) dX0_most_0 rfl rfl rfl ?_
  refine ZV_run (ZRun_X (M' := M_X7_most) (As := []) (sup := "StaveScore$Plain") (ci := 3) (e_X7_most_3 (by exact hk)) cb_X7_most wd_3_68 wd_3_64 wd_1_142 (Or.inl rfl) wd_3_62 (by decide) (by exact hk) (by decide) rfl dX0_most_1 (Nat.le_of_ble_eq_true rfl) (Nat.le_of_ble_eq_true rfl)) rfl rfl rfl (fun r9 σ9 hp9 => ?_)
  obtain ⟨rfl, rfl⟩ := hp9
  refine ZV_bipush (v := nI 26) (n := 6) dX0_most_4 rfl rfl ?_
  refine ZV_isub (n := 7) dX0_most_6 rfl ?_
  refine ZV_iret dX0_most_7 rfl ?_
  exact ⟨rfl, rfl⟩
set_option maxHeartbeats 4000000 in
set_option maxRecDepth 100000 in
theorem e_X0_most_6 {σ : ZS} {b : Nat} (hk : zk σ b = (1, 6)) : ZC M_X0_most [Ar (some b)] σ (fun r τ => r = some (Ai (nI 82)) ∧ τ = σ) := by
  refine ZC_of (ls := [some (Ar (some b))]) (by decide) (Nat.le_of_ble_eq_true rfl) rfl ?_
  refine ZV_aload_n (n := 1) dX0_most_0 rfl rfl rfl ?_
  refine ZV_run (ZRun_X (M' := M_X7_most) (As := []) (sup := "StaveScore$Plain") (ci := 6) (e_X7_most_6 (by exact hk)) cb_X7_most wd_3_68 wd_3_64 wd_1_142 (Or.inl rfl) wd_3_62 (by decide) (by exact hk) (by decide) rfl dX0_most_1 (Nat.le_of_ble_eq_true rfl) (Nat.le_of_ble_eq_true rfl)) rfl rfl rfl (fun r9 σ9 hp9 => ?_)
  obtain ⟨rfl, rfl⟩ := hp9
  refine ZV_bipush (v := nI 26) (n := 6) dX0_most_4 rfl rfl ?_
  refine ZV_isub (n := 7) dX0_most_6 rfl ?_
  refine ZV_iret dX0_most_7 rfl ?_
  exact ⟨rfl, rfl⟩
set_option maxRecDepth 100000 in
theorem call_soundOf_0 {M : ZM} {post : Option Av → ZS → Prop} {pc n : Nat} {ls : Zl} {σ : ZS} {kc ks : Nat} {rest : List Av} {b : Nat} {p : Int32} (hk : zk σ b = (1, 7)) (hown : (zmy M).cls = RX11) (hd : decode (zmc M) pc = .ok (.invokevirtual 214, 3)) (hdep : 2 + 1 ≤ zmd M) (hr : (rest.map fun v => if zW2 v then 2 else 1).sum ≤ 8) (hn : pc + 3 = n) (kk : ZV M post n ls (Ai (p) :: rest) (pL σ 448 b (zL σ 448 b + lN 1)) kc ks) : ZV M post pc ls (Ai p :: Ar (some b) :: rest) σ kc ks :=
  ZV_run (ZRun_O (M' := M_X7_soundOf) (As := [Ai p]) (ci := 7) (x := ⟨"StaveScore$Plain","soundOf","(I)I"⟩) (owner := "StaveScore$Plain") (e_X7_soundOf_7 hk p) cb_X7_soundOf (by rw [hown]; exact wd_2_172) wd_2_175 wd_2_173 wd_2_173 wd_2_174 wd_2_198 ⟨by decide, by decide, by decide +kernel⟩ hk (by decide) rfl hd (Nat.le_trans (show 0 + 1 ≤ 2 + 1 by decide) hdep) hr) rfl rfl hn (fun r9 σ9 hp9 => by
    obtain ⟨h1, h2⟩ := hp9
    subst h1 h2
    exact kk)
set_option maxRecDepth 100000 in
theorem call_soundOf_1 {M : ZM} {post : Option Av → ZS → Prop} {pc n : Nat} {ls : Zl} {σ : ZS} {kc ks : Nat} {rest : List Av} {b : Nat} {p : Int32} (hk : zk σ b = (1, 5)) (hown : (zmy M).cls = RX11) (hd : decode (zmc M) pc = .ok (.invokevirtual 214, 3)) (hdep : 2 + 1 ≤ zmd M) (hr : (rest.map fun v => if zW2 v then 2 else 1).sum ≤ 8) (hn : pc + 3 = n) (kk : ZV M post n ls (Ai (p - nI 12) :: rest) (pL σ 448 b (zL σ 448 b + lN 11)) kc ks) : ZV M post pc ls (Ai p :: Ar (some b) :: rest) σ kc ks :=
  ZV_run (ZRun_O (M' := M_X5_soundOf) (As := [Ai p]) (ci := 5) (x := ⟨"StaveScore$Plain","soundOf","(I)I"⟩) (owner := "StaveScore$Plain") (e_X5_soundOf_5 hk p) cb_X5_soundOf (by rw [hown]; exact wd_2_172) wd_2_175 wd_2_173 wd_2_189 wd_2_188 wd_2_198 ⟨by decide, by decide, by decide +kernel⟩ hk (by decide) rfl hd (Nat.le_trans (show 1 + 1 ≤ 2 + 1 by decide) hdep) hr) rfl rfl hn (fun r9 σ9 hp9 => by
    obtain ⟨h1, h2⟩ := hp9
    subst h1 h2
    exact kk)
set_option maxRecDepth 100000 in
theorem call_soundOf_2 {M : ZM} {post : Option Av → ZS → Prop} {pc n : Nat} {ls : Zl} {σ : ZS} {kc ks : Nat} {rest : List Av} {b : Nat} {p : Int32} (hk : zk σ b = (1, 0)) (hown : (zmy M).cls = RX11) (hd : decode (zmc M) pc = .ok (.invokevirtual 214, 3)) (hdep : 2 + 1 ≤ zmd M) (hr : (rest.map fun v => if zW2 v then 2 else 1).sum ≤ 8) (hn : pc + 3 = n) (kk : ZV M post n ls (Ai (p) :: rest) (pL σ 448 b (zL σ 448 b + lN 1)) kc ks) : ZV M post pc ls (Ai p :: Ar (some b) :: rest) σ kc ks :=
  ZV_run (ZRun_O (M' := M_X7_soundOf) (As := [Ai p]) (ci := 0) (x := ⟨"StaveScore$Plain","soundOf","(I)I"⟩) (owner := "StaveScore$Plain") (e_X7_soundOf_0 hk p) cb_X7_soundOf (by rw [hown]; exact wd_2_172) wd_2_175 wd_2_173 wd_2_173 wd_2_176 wd_2_198 ⟨by decide, by decide, by decide +kernel⟩ hk (by decide) rfl hd (Nat.le_trans (show 0 + 1 ≤ 2 + 1 by decide) hdep) hr) rfl rfl hn (fun r9 σ9 hp9 => by
    obtain ⟨h1, h2⟩ := hp9
    subst h1 h2
    exact kk)
set_option maxRecDepth 100000 in
theorem call_soundOf_3 {M : ZM} {post : Option Av → ZS → Prop} {pc n : Nat} {ls : Zl} {σ : ZS} {kc ks : Nat} {rest : List Av} {b : Nat} {p : Int32} (hk : zk σ b = (1, 3)) (hown : (zmy M).cls = RX11) (hd : decode (zmc M) pc = .ok (.invokevirtual 214, 3)) (hdep : 2 + 1 ≤ zmd M) (hr : (rest.map fun v => if zW2 v then 2 else 1).sum ≤ 8) (hn : pc + 3 = n) (kk : ZV M post n ls (Ai (p - nI 7) :: rest) (pL σ 448 b (zL σ 448 b + lN 101)) kc ks) : ZV M post pc ls (Ai p :: Ar (some b) :: rest) σ kc ks :=
  ZV_run (ZRun_O (M' := M_X3_soundOf) (As := [Ai p]) (ci := 3) (x := ⟨"StaveScore$Plain","soundOf","(I)I"⟩) (owner := "StaveScore$Plain") (e_X3_soundOf_3 hk p) cb_X3_soundOf (by rw [hown]; exact wd_2_172) wd_2_175 wd_2_173 wd_2_182 wd_2_181 wd_2_198 ⟨by decide, by decide, by decide +kernel⟩ hk (by decide) rfl hd (Nat.le_trans (show 1 + 1 ≤ 2 + 1 by decide) hdep) hr) rfl rfl hn (fun r9 σ9 hp9 => by
    obtain ⟨h1, h2⟩ := hp9
    subst h1 h2
    exact kk)
set_option maxRecDepth 100000 in
theorem call_soundOf_4 {M : ZM} {post : Option Av → ZS → Prop} {pc n : Nat} {ls : Zl} {σ : ZS} {kc ks : Nat} {rest : List Av} {b : Nat} {p : Int32} (hk : zk σ b = (1, 6)) (hown : (zmy M).cls = RX11) (hd : decode (zmc M) pc = .ok (.invokevirtual 214, 3)) (hdep : 2 + 1 ≤ zmd M) (hr : (rest.map fun v => if zW2 v then 2 else 1).sum ≤ 8) (hn : pc + 3 = n) (kk : ZV M post n ls (Ai (p - nI 7 - nI 12) :: rest) (pL σ 448 b (zL σ 448 b + lN 1101)) kc ks) : ZV M post pc ls (Ai p :: Ar (some b) :: rest) σ kc ks :=
  ZV_run (ZRun_O (M' := M_X6_soundOf) (As := [Ai p]) (ci := 6) (x := ⟨"StaveScore$Plain","soundOf","(I)I"⟩) (owner := "StaveScore$Plain") (e_X6_soundOf_6 hk p) cb_X6_soundOf (by rw [hown]; exact wd_2_172) wd_2_175 wd_2_173 wd_2_194 wd_2_193 wd_2_198 ⟨by decide, by decide, by decide +kernel⟩ hk (by decide) rfl hd (Nat.le_trans (show 2 + 1 ≤ 2 + 1 by decide) hdep) hr) rfl rfl hn (fun r9 σ9 hp9 => by
    obtain ⟨h1, h2⟩ := hp9
    subst h1 h2
    exact kk)
set_option maxRecDepth 100000 in
theorem call_soundOf_5 {M : ZM} {post : Option Av → ZS → Prop} {pc n : Nat} {ls : Zl} {σ : ZS} {kc ks : Nat} {rest : List Av} {b : Nat} {p : Int32} (hk : zk σ b = (1, 1)) (hown : (zmy M).cls = RX11) (hd : decode (zmc M) pc = .ok (.invokevirtual 214, 3)) (hdep : 2 + 1 ≤ zmd M) (hr : (rest.map fun v => if zW2 v then 2 else 1).sum ≤ 8) (hn : pc + 3 = n) (kk : ZV M post n ls (Ai (nI 35) :: rest) (pL σ 448 b (zL σ 448 b + lN 10000)) kc ks) : ZV M post pc ls (Ai p :: Ar (some b) :: rest) σ kc ks :=
  ZV_run (ZRun_O (M' := M_X1_soundOf) (As := [Ai p]) (ci := 1) (x := ⟨"StaveScore$Plain","soundOf","(I)I"⟩) (owner := "StaveScore$Plain") (e_X1_soundOf_1 hk p) cb_X1_soundOf (by rw [hown]; exact wd_2_172) wd_2_175 wd_2_173 wd_2_178 wd_2_177 wd_2_198 ⟨by decide, by decide, by decide +kernel⟩ hk (by decide) rfl hd (Nat.le_trans (show 0 + 1 ≤ 2 + 1 by decide) hdep) hr) rfl rfl hn (fun r9 σ9 hp9 => by
    obtain ⟨h1, h2⟩ := hp9
    subst h1 h2
    exact kk)
theorem call_soundOf {M : ZM} {post : Option Av → ZS → Prop} {pc n : Nat} {ls : Zl} {σ : ZS} {kc ks : Nat} {rest : List Av} {b : Nat} {p : Int32} {k : Nat} (hk5 : k ≤ 5) (hk : zk σ b = (1, icl k)) (hown : (zmy M).cls = RX11) (hd : decode (zmc M) pc = .ok (.invokevirtual 214, 3)) (hdep : 2 + 1 ≤ zmd M) (hr : (rest.map fun v => if zW2 v then 2 else 1).sum ≤ 8) (hn : pc + 3 = n) (kk : ZV M post n ls (Ai (sdP k p) :: rest) (pL σ 448 b (zL σ 448 b + trP k)) kc ks) : ZV M post pc ls (Ai p :: Ar (some b) :: rest) σ kc ks := by
  have h6 : k = 0 ∨ k = 1 ∨ k = 2 ∨ k = 3 ∨ k = 4 ∨ k = 5 := by omega
  rcases h6 with rfl | rfl | rfl | rfl | rfl | rfl
  · rw [show sdP 0 p = p from rfl, show trP 0 = lN 1 from rfl] at kk
    exact call_soundOf_0 hk hown hd hdep hr hn kk
  · rw [show sdP 1 p = p - nI 12 from rfl, show trP 1 = lN 11 from rfl] at kk
    exact call_soundOf_1 hk hown hd hdep hr hn kk
  · rw [show sdP 2 p = p from rfl, show trP 2 = lN 1 from rfl] at kk
    exact call_soundOf_2 hk hown hd hdep hr hn kk
  · rw [show sdP 3 p = p - nI 7 from rfl, show trP 3 = lN 101 from rfl] at kk
    exact call_soundOf_3 hk hown hd hdep hr hn kk
  · rw [show sdP 4 p = p - nI 7 - nI 12 from rfl, show trP 4 = lN 1101 from rfl] at kk
    exact call_soundOf_4 hk hown hd hdep hr hn kk
  · rw [show sdP 5 p = nI 35 from rfl, show trP 5 = lN 10000 from rfl] at kk
    exact call_soundOf_5 hk hown hd hdep hr hn kk
set_option maxRecDepth 100000 in
theorem call_least_0 {M : ZM} {post : Option Av → ZS → Prop} {pc n : Nat} {ls : Zl} {σ : ZS} {kc ks : Nat} {rest : List Av} {b : Nat} (hk : zk σ b = (1, 7)) (hown : (zmy M).cls = RX11) (hd : decode (zmc M) pc = .ok (.invokevirtual 268, 3)) (hdep : 1 + 1 ≤ zmd M) (hr : (rest.map fun v => if zW2 v then 2 else 1).sum ≤ 8) (hn : pc + 3 = n) (kk : ZV M post n ls (Ai (nI 21) :: rest) σ kc ks) : ZV M post pc ls (Ar (some b) :: rest) σ kc ks :=
  ZV_run (ZRun_O (M' := M_X7_least) (As := []) (ci := 7) (x := ⟨"StaveScore$Plain","least","()I"⟩) (owner := "StaveScore$Plain") (e_X7_least_7 hk) cb_X7_least (by rw [hown]; exact wd_3_43) wd_3_46 wd_3_44 wd_3_44 wd_3_45 wd_3_60 ⟨by decide, by decide, by decide +kernel⟩ hk (by decide) rfl hd (Nat.le_trans (show 0 + 1 ≤ 1 + 1 by decide) hdep) hr) rfl rfl hn (fun r9 σ9 hp9 => by
    obtain ⟨h1, h2⟩ := hp9
    subst h1 h2
    exact kk)
set_option maxRecDepth 100000 in
theorem call_least_1 {M : ZM} {post : Option Av → ZS → Prop} {pc n : Nat} {ls : Zl} {σ : ZS} {kc ks : Nat} {rest : List Av} {b : Nat} (hk : zk σ b = (1, 5)) (hown : (zmy M).cls = RX11) (hd : decode (zmc M) pc = .ok (.invokevirtual 268, 3)) (hdep : 1 + 1 ≤ zmd M) (hr : (rest.map fun v => if zW2 v then 2 else 1).sum ≤ 8) (hn : pc + 3 = n) (kk : ZV M post n ls (Ai (nI 21) :: rest) σ kc ks) : ZV M post pc ls (Ar (some b) :: rest) σ kc ks :=
  ZV_run (ZRun_O (M' := M_X7_least) (As := []) (ci := 5) (x := ⟨"StaveScore$Plain","least","()I"⟩) (owner := "StaveScore$Plain") (e_X7_least_5 hk) cb_X7_least (by rw [hown]; exact wd_3_43) wd_3_46 wd_3_44 wd_3_44 wd_3_52 wd_3_60 ⟨by decide, by decide, by decide +kernel⟩ hk (by decide) rfl hd (Nat.le_trans (show 0 + 1 ≤ 1 + 1 by decide) hdep) hr) rfl rfl hn (fun r9 σ9 hp9 => by
    obtain ⟨h1, h2⟩ := hp9
    subst h1 h2
    exact kk)
set_option maxRecDepth 100000 in
theorem call_least_2 {M : ZM} {post : Option Av → ZS → Prop} {pc n : Nat} {ls : Zl} {σ : ZS} {kc ks : Nat} {rest : List Av} {b : Nat} (hk : zk σ b = (1, 0)) (hown : (zmy M).cls = RX11) (hd : decode (zmc M) pc = .ok (.invokevirtual 268, 3)) (hdep : 1 + 1 ≤ zmd M) (hr : (rest.map fun v => if zW2 v then 2 else 1).sum ≤ 8) (hn : pc + 3 = n) (kk : ZV M post n ls (Ai (nI 28) :: rest) σ kc ks) : ZV M post pc ls (Ar (some b) :: rest) σ kc ks :=
  ZV_run (ZRun_O (M' := M_X0_least) (As := []) (ci := 0) (x := ⟨"StaveScore$Plain","least","()I"⟩) (owner := "StaveScore$Plain") (e_X0_least_0 hk) cb_X0_least (by rw [hown]; exact wd_3_43) wd_3_46 wd_3_44 wd_3_48 wd_3_47 wd_3_60 ⟨by decide, by decide, by decide +kernel⟩ hk (by decide) rfl hd (Nat.le_trans (show 0 + 1 ≤ 1 + 1 by decide) hdep) hr) rfl rfl hn (fun r9 σ9 hp9 => by
    obtain ⟨h1, h2⟩ := hp9
    subst h1 h2
    exact kk)
set_option maxRecDepth 100000 in
theorem call_least_3 {M : ZM} {post : Option Av → ZS → Prop} {pc n : Nat} {ls : Zl} {σ : ZS} {kc ks : Nat} {rest : List Av} {b : Nat} (hk : zk σ b = (1, 3)) (hown : (zmy M).cls = RX11) (hd : decode (zmc M) pc = .ok (.invokevirtual 268, 3)) (hdep : 1 + 1 ≤ zmd M) (hr : (rest.map fun v => if zW2 v then 2 else 1).sum ≤ 8) (hn : pc + 3 = n) (kk : ZV M post n ls (Ai (nI 28) :: rest) σ kc ks) : ZV M post pc ls (Ar (some b) :: rest) σ kc ks :=
  ZV_run (ZRun_O (M' := M_X0_least) (As := []) (ci := 3) (x := ⟨"StaveScore$Plain","least","()I"⟩) (owner := "StaveScore$Plain") (e_X0_least_3 hk) cb_X0_least (by rw [hown]; exact wd_3_43) wd_3_46 wd_3_44 wd_3_48 wd_3_51 wd_3_60 ⟨by decide, by decide, by decide +kernel⟩ hk (by decide) rfl hd (Nat.le_trans (show 0 + 1 ≤ 1 + 1 by decide) hdep) hr) rfl rfl hn (fun r9 σ9 hp9 => by
    obtain ⟨h1, h2⟩ := hp9
    subst h1 h2
    exact kk)
set_option maxRecDepth 100000 in
theorem call_least_4 {M : ZM} {post : Option Av → ZS → Prop} {pc n : Nat} {ls : Zl} {σ : ZS} {kc ks : Nat} {rest : List Av} {b : Nat} (hk : zk σ b = (1, 6)) (hown : (zmy M).cls = RX11) (hd : decode (zmc M) pc = .ok (.invokevirtual 268, 3)) (hdep : 1 + 1 ≤ zmd M) (hr : (rest.map fun v => if zW2 v then 2 else 1).sum ≤ 8) (hn : pc + 3 = n) (kk : ZV M post n ls (Ai (nI 23) :: rest) (pL σ 448 b (zL σ 448 b + lN 100000)) kc ks) : ZV M post pc ls (Ar (some b) :: rest) σ kc ks :=
  ZV_run (ZRun_O (M' := M_X6_least) (As := []) (ci := 6) (x := ⟨"StaveScore$Plain","least","()I"⟩) (owner := "StaveScore$Plain") (e_X6_least_6 hk) cb_X6_least (by rw [hown]; exact wd_3_43) wd_3_46 wd_3_44 wd_3_54 wd_3_53 wd_3_60 ⟨by decide, by decide, by decide +kernel⟩ hk (by decide) rfl hd (Nat.le_trans (show 1 + 1 ≤ 1 + 1 by decide) hdep) hr) rfl rfl hn (fun r9 σ9 hp9 => by
    obtain ⟨h1, h2⟩ := hp9
    subst h1 h2
    exact kk)
set_option maxRecDepth 100000 in
theorem call_least_5 {M : ZM} {post : Option Av → ZS → Prop} {pc n : Nat} {ls : Zl} {σ : ZS} {kc ks : Nat} {rest : List Av} {b : Nat} (hk : zk σ b = (1, 1)) (hown : (zmy M).cls = RX11) (hd : decode (zmc M) pc = .ok (.invokevirtual 268, 3)) (hdep : 1 + 1 ≤ zmd M) (hr : (rest.map fun v => if zW2 v then 2 else 1).sum ≤ 8) (hn : pc + 3 = n) (kk : ZV M post n ls (Ai (nI 21) :: rest) σ kc ks) : ZV M post pc ls (Ar (some b) :: rest) σ kc ks :=
  ZV_run (ZRun_O (M' := M_X7_least) (As := []) (ci := 1) (x := ⟨"StaveScore$Plain","least","()I"⟩) (owner := "StaveScore$Plain") (e_X7_least_1 hk) cb_X7_least (by rw [hown]; exact wd_3_43) wd_3_46 wd_3_44 wd_3_44 wd_3_50 wd_3_60 ⟨by decide, by decide, by decide +kernel⟩ hk (by decide) rfl hd (Nat.le_trans (show 0 + 1 ≤ 1 + 1 by decide) hdep) hr) rfl rfl hn (fun r9 σ9 hp9 => by
    obtain ⟨h1, h2⟩ := hp9
    subst h1 h2
    exact kk)
theorem call_least {M : ZM} {post : Option Av → ZS → Prop} {pc n : Nat} {ls : Zl} {σ : ZS} {kc ks : Nat} {rest : List Av} {b : Nat} {k : Nat} (hk5 : k ≤ 5) (hk : zk σ b = (1, icl k)) (hown : (zmy M).cls = RX11) (hd : decode (zmc M) pc = .ok (.invokevirtual 268, 3)) (hdep : 1 + 1 ≤ zmd M) (hr : (rest.map fun v => if zW2 v then 2 else 1).sum ≤ 8) (hn : pc + 3 = n) (kk : ZV M post n ls (Ai (nI (leP k)) :: rest) (pL σ 448 b (zL σ 448 b + leT k)) kc ks) : ZV M post pc ls (Ar (some b) :: rest) σ kc ks := by
  have h6 : k = 0 ∨ k = 1 ∨ k = 2 ∨ k = 3 ∨ k = 4 ∨ k = 5 := by omega
  rcases h6 with rfl | rfl | rfl | rfl | rfl | rfl
  · rw [show leP 0 = 21 from rfl, show leT 0 = lN 0 from if_neg (by decide), pL_id] at kk
    exact call_least_0 hk hown hd hdep hr hn kk
  · rw [show leP 1 = 21 from rfl, show leT 1 = lN 0 from if_neg (by decide), pL_id] at kk
    exact call_least_1 hk hown hd hdep hr hn kk
  · rw [show leP 2 = 28 from rfl, show leT 2 = lN 0 from if_neg (by decide), pL_id] at kk
    exact call_least_2 hk hown hd hdep hr hn kk
  · rw [show leP 3 = 28 from rfl, show leT 3 = lN 0 from if_neg (by decide), pL_id] at kk
    exact call_least_3 hk hown hd hdep hr hn kk
  · rw [show leP 4 = 23 from rfl, show leT 4 = lN 100000 from if_pos rfl] at kk
    exact call_least_4 hk hown hd hdep hr hn kk
  · rw [show leP 5 = 21 from rfl, show leT 5 = lN 0 from if_neg (by decide), pL_id] at kk
    exact call_least_5 hk hown hd hdep hr hn kk
set_option maxRecDepth 100000 in
theorem call_most_0 {M : ZM} {post : Option Av → ZS → Prop} {pc n : Nat} {ls : Zl} {σ : ZS} {kc ks : Nat} {rest : List Av} {b : Nat} (hk : zk σ b = (1, 7)) (hown : (zmy M).cls = RX11) (hd : decode (zmc M) pc = .ok (.invokevirtual 271, 3)) (hdep : 1 + 1 ≤ zmd M) (hr : (rest.map fun v => if zW2 v then 2 else 1).sum ≤ 8) (hn : pc + 3 = n) (kk : ZV M post n ls (Ai (nI 108) :: rest) σ kc ks) : ZV M post pc ls (Ar (some b) :: rest) σ kc ks :=
  ZV_run (ZRun_O (M' := M_X7_most) (As := []) (ci := 7) (x := ⟨"StaveScore$Plain","most","()I"⟩) (owner := "StaveScore$Plain") (e_X7_most_7 hk) cb_X7_most (by rw [hown]; exact wd_3_61) wd_3_64 wd_3_62 wd_3_62 wd_3_63 wd_3_73 ⟨by decide, by decide, by decide +kernel⟩ hk (by decide) rfl hd (Nat.le_trans (show 0 + 1 ≤ 1 + 1 by decide) hdep) hr) rfl rfl hn (fun r9 σ9 hp9 => by
    obtain ⟨h1, h2⟩ := hp9
    subst h1 h2
    exact kk)
set_option maxRecDepth 100000 in
theorem call_most_1 {M : ZM} {post : Option Av → ZS → Prop} {pc n : Nat} {ls : Zl} {σ : ZS} {kc ks : Nat} {rest : List Av} {b : Nat} (hk : zk σ b = (1, 5)) (hown : (zmy M).cls = RX11) (hd : decode (zmc M) pc = .ok (.invokevirtual 271, 3)) (hdep : 1 + 1 ≤ zmd M) (hr : (rest.map fun v => if zW2 v then 2 else 1).sum ≤ 8) (hn : pc + 3 = n) (kk : ZV M post n ls (Ai (nI 108) :: rest) σ kc ks) : ZV M post pc ls (Ar (some b) :: rest) σ kc ks :=
  ZV_run (ZRun_O (M' := M_X7_most) (As := []) (ci := 5) (x := ⟨"StaveScore$Plain","most","()I"⟩) (owner := "StaveScore$Plain") (e_X7_most_5 hk) cb_X7_most (by rw [hown]; exact wd_3_61) wd_3_64 wd_3_62 wd_3_62 wd_3_71 wd_3_73 ⟨by decide, by decide, by decide +kernel⟩ hk (by decide) rfl hd (Nat.le_trans (show 0 + 1 ≤ 1 + 1 by decide) hdep) hr) rfl rfl hn (fun r9 σ9 hp9 => by
    obtain ⟨h1, h2⟩ := hp9
    subst h1 h2
    exact kk)
set_option maxRecDepth 100000 in
theorem call_most_2 {M : ZM} {post : Option Av → ZS → Prop} {pc n : Nat} {ls : Zl} {σ : ZS} {kc ks : Nat} {rest : List Av} {b : Nat} (hk : zk σ b = (1, 0)) (hown : (zmy M).cls = RX11) (hd : decode (zmc M) pc = .ok (.invokevirtual 271, 3)) (hdep : 1 + 1 ≤ zmd M) (hr : (rest.map fun v => if zW2 v then 2 else 1).sum ≤ 8) (hn : pc + 3 = n) (kk : ZV M post n ls (Ai (nI 82) :: rest) σ kc ks) : ZV M post pc ls (Ar (some b) :: rest) σ kc ks :=
  ZV_run (ZRun_O (M' := M_X0_most) (As := []) (ci := 0) (x := ⟨"StaveScore$Plain","most","()I"⟩) (owner := "StaveScore$Plain") (e_X0_most_0 hk) cb_X0_most (by rw [hown]; exact wd_3_61) wd_3_64 wd_3_62 wd_3_66 wd_3_65 wd_3_73 ⟨by decide, by decide, by decide +kernel⟩ hk (by decide) rfl hd (Nat.le_trans (show 1 + 1 ≤ 1 + 1 by decide) hdep) hr) rfl rfl hn (fun r9 σ9 hp9 => by
    obtain ⟨h1, h2⟩ := hp9
    subst h1 h2
    exact kk)
set_option maxRecDepth 100000 in
theorem call_most_3 {M : ZM} {post : Option Av → ZS → Prop} {pc n : Nat} {ls : Zl} {σ : ZS} {kc ks : Nat} {rest : List Av} {b : Nat} (hk : zk σ b = (1, 3)) (hown : (zmy M).cls = RX11) (hd : decode (zmc M) pc = .ok (.invokevirtual 271, 3)) (hdep : 1 + 1 ≤ zmd M) (hr : (rest.map fun v => if zW2 v then 2 else 1).sum ≤ 8) (hn : pc + 3 = n) (kk : ZV M post n ls (Ai (nI 82) :: rest) σ kc ks) : ZV M post pc ls (Ar (some b) :: rest) σ kc ks :=
  ZV_run (ZRun_O (M' := M_X0_most) (As := []) (ci := 3) (x := ⟨"StaveScore$Plain","most","()I"⟩) (owner := "StaveScore$Plain") (e_X0_most_3 hk) cb_X0_most (by rw [hown]; exact wd_3_61) wd_3_64 wd_3_62 wd_3_66 wd_3_70 wd_3_73 ⟨by decide, by decide, by decide +kernel⟩ hk (by decide) rfl hd (Nat.le_trans (show 1 + 1 ≤ 1 + 1 by decide) hdep) hr) rfl rfl hn (fun r9 σ9 hp9 => by
    obtain ⟨h1, h2⟩ := hp9
    subst h1 h2
    exact kk)
set_option maxRecDepth 100000 in
theorem call_most_4 {M : ZM} {post : Option Av → ZS → Prop} {pc n : Nat} {ls : Zl} {σ : ZS} {kc ks : Nat} {rest : List Av} {b : Nat} (hk : zk σ b = (1, 6)) (hown : (zmy M).cls = RX11) (hd : decode (zmc M) pc = .ok (.invokevirtual 271, 3)) (hdep : 1 + 1 ≤ zmd M) (hr : (rest.map fun v => if zW2 v then 2 else 1).sum ≤ 8) (hn : pc + 3 = n) (kk : ZV M post n ls (Ai (nI 82) :: rest) σ kc ks) : ZV M post pc ls (Ar (some b) :: rest) σ kc ks :=
  ZV_run (ZRun_O (M' := M_X0_most) (As := []) (ci := 6) (x := ⟨"StaveScore$Plain","most","()I"⟩) (owner := "StaveScore$Plain") (e_X0_most_6 hk) cb_X0_most (by rw [hown]; exact wd_3_61) wd_3_64 wd_3_62 wd_3_66 wd_3_72 wd_3_73 ⟨by decide, by decide, by decide +kernel⟩ hk (by decide) rfl hd (Nat.le_trans (show 1 + 1 ≤ 1 + 1 by decide) hdep) hr) rfl rfl hn (fun r9 σ9 hp9 => by
    obtain ⟨h1, h2⟩ := hp9
    subst h1 h2
    exact kk)
set_option maxRecDepth 100000 in
theorem call_most_5 {M : ZM} {post : Option Av → ZS → Prop} {pc n : Nat} {ls : Zl} {σ : ZS} {kc ks : Nat} {rest : List Av} {b : Nat} (hk : zk σ b = (1, 1)) (hown : (zmy M).cls = RX11) (hd : decode (zmc M) pc = .ok (.invokevirtual 271, 3)) (hdep : 1 + 1 ≤ zmd M) (hr : (rest.map fun v => if zW2 v then 2 else 1).sum ≤ 8) (hn : pc + 3 = n) (kk : ZV M post n ls (Ai (nI 108) :: rest) σ kc ks) : ZV M post pc ls (Ar (some b) :: rest) σ kc ks :=
  ZV_run (ZRun_O (M' := M_X7_most) (As := []) (ci := 1) (x := ⟨"StaveScore$Plain","most","()I"⟩) (owner := "StaveScore$Plain") (e_X7_most_1 hk) cb_X7_most (by rw [hown]; exact wd_3_61) wd_3_64 wd_3_62 wd_3_62 wd_3_69 wd_3_73 ⟨by decide, by decide, by decide +kernel⟩ hk (by decide) rfl hd (Nat.le_trans (show 0 + 1 ≤ 1 + 1 by decide) hdep) hr) rfl rfl hn (fun r9 σ9 hp9 => by
    obtain ⟨h1, h2⟩ := hp9
    subst h1 h2
    exact kk)
theorem call_most {M : ZM} {post : Option Av → ZS → Prop} {pc n : Nat} {ls : Zl} {σ : ZS} {kc ks : Nat} {rest : List Av} {b : Nat} {k : Nat} (hk5 : k ≤ 5) (hk : zk σ b = (1, icl k)) (hown : (zmy M).cls = RX11) (hd : decode (zmc M) pc = .ok (.invokevirtual 271, 3)) (hdep : 1 + 1 ≤ zmd M) (hr : (rest.map fun v => if zW2 v then 2 else 1).sum ≤ 8) (hn : pc + 3 = n) (kk : ZV M post n ls (Ai (nI (moP k)) :: rest) σ kc ks) : ZV M post pc ls (Ar (some b) :: rest) σ kc ks := by
  have h6 : k = 0 ∨ k = 1 ∨ k = 2 ∨ k = 3 ∨ k = 4 ∨ k = 5 := by omega
  rcases h6 with rfl | rfl | rfl | rfl | rfl | rfl
  · rw [show moP 0 = 108 from rfl] at kk
    exact call_most_0 hk hown hd hdep hr hn kk
  · rw [show moP 1 = 108 from rfl] at kk
    exact call_most_1 hk hown hd hdep hr hn kk
  · rw [show moP 2 = 82 from rfl] at kk
    exact call_most_2 hk hown hd hdep hr hn kk
  · rw [show moP 3 = 82 from rfl] at kk
    exact call_most_3 hk hown hd hdep hr hn kk
  · rw [show moP 4 = 82 from rfl] at kk
    exact call_most_4 hk hown hd hdep hr hn kk
  · rw [show moP 5 = 108 from rfl] at kk
    exact call_most_5 hk hown hd hdep hr hn kk
theorem ZV_maxI {M : ZM} {post : Option Av → ZS → Prop} {pc n : Nat} {ls : Zl} {st : List Av} {σ : ZS} {kc ks : Nat} {x y : Int32} {idx : Nat} (hd : decode (zmc M) pc = .ok (.invokestatic idx, 3)) (hn : pc + 3 = n) (hl : Cond.methodLink (zmy M).cls idx Lib.Math.max.name ∈ zw) (hdep : 1 ≤ zmd M) (hr : (st.map fun v => if zW2 v then 2 else 1).sum ≤ 8) (k : ZV M post n ls (Ai (if x < y then y else x) :: st) σ kc ks) : ZV M post pc ls (Ai y :: Ai x :: st) σ kc ks := by
  intro p l e R s m args below meth c Q D dA A hC hA hT H locs cells slots arr hP hS hD hc hs hl9
  subst hn
  have hts := hC.2.2.2.2.1
  have hroom : 39 ≤ R.locals := Nat.le_trans (by omega) hC.2.2.2.2.2.2.2.2.1
  have hsum := zMr (m := m) (pc := pc) (arr := arr) (st2 := []) hr
  exact va_mmax hC.1 hC.2.1 (by rw [hC.2.2.1]; exact hl9.1.symm) hC.2.2.2.1 (hts _ hl) (hts _ wd_4_48) (hts _ wd_1_12) (hts _ wd_4_49) (Nat.le_trans hdep hC.2.2.2.2.2.2.2.1) (by simp only [] at hsum; omega) (Nat.le_trans (by omega) hC.2.2.2.2.2.2.2.2.2.1) (Nat.le_trans (by omega) hC.2.2.2.2.2.2.2.2.2.2) hd (k p l e R s m args below meth c Q D dA A hC hA hT H locs cells slots arr hP hS hD hc hs hl9)
theorem ZV_minI {M : ZM} {post : Option Av → ZS → Prop} {pc n : Nat} {ls : Zl} {st : List Av} {σ : ZS} {kc ks : Nat} {x y : Int32} {idx : Nat} (hd : decode (zmc M) pc = .ok (.invokestatic idx, 3)) (hn : pc + 3 = n) (hl : Cond.methodLink (zmy M).cls idx Lib.Math.min.name ∈ zw) (hdep : 1 ≤ zmd M) (hr : (st.map fun v => if zW2 v then 2 else 1).sum ≤ 8) (k : ZV M post n ls (Ai (if y < x then y else x) :: st) σ kc ks) : ZV M post pc ls (Ai y :: Ai x :: st) σ kc ks := by
  intro p l e R s m args below meth c Q D dA A hC hA hT H locs cells slots arr hP hS hD hc hs hl9
  subst hn
  have hts := hC.2.2.2.2.1
  have hroom : 39 ≤ R.locals := Nat.le_trans (by omega) hC.2.2.2.2.2.2.2.2.1
  have hsum := zMr (m := m) (pc := pc) (arr := arr) (st2 := []) hr
  exact va_mmin hC.1 hC.2.1 (by rw [hC.2.2.1]; exact hl9.1.symm) hC.2.2.2.1 (hts _ hl) (hts _ wd_4_8) (hts _ wd_1_12) (hts _ wd_4_9) (Nat.le_trans hdep hC.2.2.2.2.2.2.2.1) (by simp only [] at hsum; omega) (Nat.le_trans (by omega) hC.2.2.2.2.2.2.2.2.2.1) (Nat.le_trans (by omega) hC.2.2.2.2.2.2.2.2.2.2) hd (k p l e R s m args below meth c Q D dA A hC hA hT H locs cells slots arr hP hS hD hc hs hl9)
theorem ZV_maxL {M : ZM} {post : Option Av → ZS → Prop} {pc n : Nat} {ls : Zl} {st : List Av} {σ : ZS} {kc ks : Nat} {x y : Int64} {idx : Nat} (hd : decode (zmc M) pc = .ok (.invokestatic idx, 3)) (hn : pc + 3 = n) (hl : Cond.methodLink (zmy M).cls idx Lib.MathLoose.max_long.x ∈ zw) (hdep : 1 ≤ zmd M) (hr : (st.map fun v => if zW2 v then 2 else 1).sum ≤ 8) (k : ZV M post n ls (Al (if y < x then x else y) :: st) σ kc ks) : ZV M post pc ls (Al y :: Al x :: st) σ kc ks := by
  intro p l e R s m args below meth c Q D dA A hC hA hT H locs cells slots arr hP hS hD hc hs hl9
  subst hn
  have hts := hC.2.2.2.2.1
  have hroom : 39 ≤ R.locals := Nat.le_trans (by omega) hC.2.2.2.2.2.2.2.2.1
  have hsum := zMr (m := m) (pc := pc) (arr := arr) (st2 := []) hr
  exact va_mmax_long hC.1 hC.2.1 (by rw [hC.2.2.1]; exact hl9.1.symm) hC.2.2.2.1 (hts _ hl) (hts _ wd_3_17) (hts _ wd_1_12) (hts _ wd_3_18) (Nat.le_trans hdep hC.2.2.2.2.2.2.2.1) (by simp only [] at hsum; omega) (Nat.le_trans (by omega) hC.2.2.2.2.2.2.2.2.2.1) (Nat.le_trans (by omega) hC.2.2.2.2.2.2.2.2.2.2) hd (k p l e R s m args below meth c Q D dA A hC hA hT H locs cells slots arr hP hS hD hc hs hl9)
theorem qw_id (σ : ZS) (a : Nat) : qw σ a (zi σ a) = σ := by
  unfold qw
  have h : (fun b j => if b = a then zi σ a j else σ.2.2.2.2.1 b j) = σ.2.2.2.2.1 := by
    funext b j
    by_cases q : b = a
    · rw [if_pos q, q]
      rfl
    · rw [if_neg q]
  rw [h]
theorem qi_qw (σ : ZS) (a j : Nat) (f : Nat → Int32) (v : Int32) : qi (qw σ a f) a j v = qw σ a (va_up f j v) := by
  unfold qi qw
  simp only [Prod.mk.injEq, true_and, and_true]
  funext b i
  unfold z2 va_up
  by_cases q : b = a
  · subst q
    by_cases q2 : i = j
    · subst q2
      simp
    · simp [q2]
  · simp [q]
set_option maxHeartbeats 4000000 in
set_option maxRecDepth 100000 in
theorem e_fill {σ : ZS} {a N : Nat} (hk : zk σ a = (2, N)) (hN : N < 2147483647) (v : Int32) : ZC M_J7_fill_53178 [Ar (some a), Ai v] σ (fun r τ => r = none ∧ ∃ f, τ = qw σ a f ∧ ∀ j, j < N → f j = v) := by
  refine ZC_of (ls := [some (Ar (some a)), some (Ai v), none, none]) (by decide) (Nat.le_of_ble_eq_true rfl) rfl ?_
  have loop : ∀ (n9 : Nat) (i : Nat) (f : Nat → Int32), N - i < n9 → i ≤ N → (∀ j, j < i → f j = v) → ZV M_J7_fill_53178 (fun r τ => r = none ∧ ∃ f, τ = qw σ a f ∧ ∀ j, j < N → f j = v) 5 [some (Ar (some a)), some (Ai v), some (Ai (nI i)), some (Ai (nI N))] [] (qw σ a f) (zmC M_J7_fill_53178) (zmS M_J7_fill_53178) := by
    intro n9
    induction n9 with
    | zero => intro i f hm; exact absurd hm (Nat.not_lt_zero _)
    | succ n9 ih =>
      intro i f hm hi hf
      refine ZV_iload_n (n := 6) dJ7_fill_53178_5 rfl rfl rfl ?_
      refine ZV_iload_n (n := 7) dJ7_fill_53178_6 rfl rfl rfl ?_
      refine ZV_icmp_geN (tgt := 20) (n := 10) dJ7_fill_53178_7 (by decide) rfl (by omega) (by omega) (fun h7 => ?_) (fun h7 => ?_)
      · skip
        refine ZV_vret dJ7_fill_53178_20 rfl ?_
        exact ⟨rfl, f, rfl, fun j hj => hf j (by omega)⟩
      · skip
        refine ZV_aload_n (n := 11) dJ7_fill_53178_10 rfl rfl rfl ?_
        refine ZV_iload_n (n := 12) dJ7_fill_53178_11 rfl rfl rfl ?_
        refine ZV_iload_n (n := 13) dJ7_fill_53178_12 rfl rfl rfl ?_
        refine ZV_iast (j := i) (n := 14) dJ7_fill_53178_13 rfl rfl hk rfl (by omega) ?_
        rw [qi_qw]
        refine ZV_iincN_2 (v := 1) (n := 17) dJ7_fill_53178_14 rfl rfl (Nat.le_of_ble_eq_true rfl) rfl ?_
        refine ZV_goto (tgt := 5) dJ7_fill_53178_17 (by decide) ?_
        exact ih (i + 1) (va_up f i v) (by omega) (by omega) (fun j hj => by
          by_cases q : j = i
          · rw [q, up_eq]
          · rw [up_ne q]
            exact hf j (by omega))
  refine ZV_iconst (v := nI 0) (n := 1) dJ7_fill_53178_0 rfl rfl ?_
  refine ZV_istore_2 (n := 2) dJ7_fill_53178_1 rfl (Nat.le_of_ble_eq_true rfl) rfl ?_
  refine ZV_aload_n (n := 3) dJ7_fill_53178_2 rfl rfl rfl ?_
  refine ZV_alen (t := 0) (n := 4) dJ7_fill_53178_3 rfl rfl hk (by decide) ?_
  refine ZV_istore_3 (n := 5) dJ7_fill_53178_4 rfl (Nat.le_of_ble_eq_true rfl) rfl ?_
  refine ZV_gen (P := fun τ => τ = qw σ a (zi σ a)) (qw_id σ a).symm (fun τ9 hτ9 => ?_)
  subst hτ9
  exact loop _ 0 (zi σ a) (Nat.lt_succ_self _) (Nat.zero_le _) (fun j hj => absurd hj (Nat.not_lt_zero _))
