abbrev FS : Type := Nat × (Nat → Int32) × Int64
/-- T with other findings and another trace -/
def cT (T : TS) (F : FS) : TS := h_tr (h_fi (h_fo T F.1) F.2.1) F.2.2
def fdF (F : FS) (a b c : Int32) : FS := (F.1 + 1, if F.1 < 100 then va_up (va_up (va_up F.2.1 (3 * F.1) a) (3 * F.1 + 1) b) (3 * F.1 + 2) c else F.2.1, F.2.2)
theorem gct_fo (T : TS) (F : FS) : g_fo (cT T F) = F.1 := rfl
theorem gct_fi (T : TS) (F : FS) : g_fi (cT T F) = F.2.1 := rfl
theorem gct_tr (T : TS) (F : FS) : g_tr (cT T F) = F.2.2 := rfl
theorem cT_fd (T : TS) (F : FS) (a b c : Int32) : fdT (cT T F) a b c = cT T (fdF F a b c) := by
  unfold fdT fdF
  rw [gct_fo, gct_fi]
  generalize (if F.1 < 100 then va_up (va_up (va_up F.2.1 (3 * F.1) a) (3 * F.1 + 1) b) (3 * F.1 + 2) c else F.2.1) = f
  unfold cT h_tr h_fi h_fo
  simp only [bx_uu]
theorem cT_tr (T : TS) (F : FS) (w : Int64) : h_tr (cT T F) w = cT T (F.1, F.2.1, w) := rfl
theorem hs_tr (T : TS) : h_tr T (g_tr T) = T := rfl
theorem gh_fi9 (T : TS) (v : Nat) : g_fi T = g_fi (h_fo T v) := rfl
theorem cT_0 (T : TS) : cT T (0, g_fi T, g_tr T) = h_fo T 0 := by
  show h_tr (h_fi (h_fo T 0) (g_fi T)) (g_tr T) = h_fo T 0
  rw [gh_fi9 T 0, hs_fi]
  rfl
theorem tmF_ct (T : TS) (F : FS) (e : Nat) : ∀ t, tmF (cT T F) e t = tmF T e t
  | 0 => rfl
  | t + 1 => by
    rw [tmF, tmF, tmF_ct T F e t]
    rfl
theorem tmT_ct (T : TS) (F : FS) (e : Nat) : tmT (cT T F) e = tmT T e := tmF_ct T F e (g_te T)
theorem bgF_ct (T : TS) (F : FS) (v : Nat) : ∀ p, bgF (cT T F) v p = bgF T v p
  | 0 => rfl
  | p + 1 => by
    rw [bgF, bgF, bgF_ct T F v p, tmT_ct]
    rfl
theorem baF_ct (T : TS) (F : FS) : ∀ p, baF (cT T F) p = baF T p
  | 0 => rfl
  | p + 1 => by
    rw [baF, baF, baF_ct T F p]
    rfl
theorem boS_ct (T : TS) (F : FS) (t : Nat) : ∀ k b, boS (cT T F) t k b = boS T t k b
  | 0, _ => rfl
  | k + 1, b => by rw [boS, boS, boS_ct T F t k, baF_ct]
theorem boF_ct (T : TS) (F : FS) (t : Nat) : boF (cT T F) t = boF T t := boS_ct T F t (g_nb T) 0
theorem hpN_ct (T : TS) (F : FS) (e : Nat) (p : Int32) : ∀ n, hpN (cT T F) e p n = hpN T e p n
  | 0 => rfl
  | n + 1 => by
    rw [hpN, hpN, hpN_ct T F e p n]
    rfl
theorem hpB_ct (T : TS) (F : FS) (e : Nat) (p : Int32) : hpB (cT T F) e p = hpB T e p := hpN_ct T F e p (g_pn T e)
theorem haN_ct (T : TS) (F : FS) (f e : Nat) : ∀ n, haN (cT T F) f e n = haN T f e n
  | 0 => rfl
  | n + 1 => by
    rw [haN, haN, haN_ct T F f e n, hpB_ct]
    rfl
theorem ntF_ct (T : TS) (F : FS) (v : Nat) : ∀ k q, ntF (cT T F) v k q = ntF T v k q
  | 0, _ => rfl
  | k + 1, q => by
    rw [ntF, ntF, ntF_ct T F v k]
    rfl
theorem ntQ_ct (T : TS) (F : FS) (v p : Nat) : ntQ (cT T F) v p = ntQ T v p := ntF_ct T F v _ _
theorem twB_ct (T : TS) (F : FS) (v p : Nat) : twB (cT T F) v p = twB T v p := by
  unfold twB
  rw [haN_ct, ntQ_ct]
  rfl
theorem ouF_ct (T : TS) (F : FS) (e : Nat) : ∀ k i w, ouF (cT T F) e k i w = ouF T e k i w
  | 0, _, _ => rfl
  | k + 1, i, w => by
    rw [ouF, ouF, ouF_ct T F e k]
    rfl
def ce1 (T : TS) (v p : Nat) (F : FS) : FS := match boF T (bgF T v p) with
  | none => F
  | some b => if baF T (b + 1) < bgF T v (p + 1) then fdF F (nI 0) (nI (g_ro T v p)) (nI b) else F
def ce2 (T : TS) (v p : Nat) (F : FS) : FS := if twB T v p = true then fdF F (nI 1) (nI (g_ro T v p)) (-1) else F
def oR (T : TS) (v p : Nat) (F : FS) : Bool × Int64 := ouF T (g_ro T v p) (g_pn T (g_ro T v p)) 0 F.2.2
def ce3 (T : TS) (v p : Nat) (F : FS) : FS := if (oR T v p F).1 = true then fdF (F.1, F.2.1, (oR T v p F).2) (nI 2) (nI (g_ro T v p)) (-1) else (F.1, F.2.1, (oR T v p F).2)
/-- the findings over the first p events of a voice -/
def cvN (T : TS) (v : Nat) (F : FS) : Nat → FS
  | 0 => F
  | p + 1 => ce3 T v p (ce2 T v p (ce1 T v p (cvN T v F p)))
def cvF (T : TS) (v : Nat) (F : FS) : FS := if 0 < g_mn T v ∧ bgF T v (g_mn T v) ≠ baF T (g_nb T) then fdF (cvN T v F (g_mn T v)) (if bgF T v (g_mn T v) < baF T (g_nb T) then nI 3 else nI 4) (nI v) (-1) else cvN T v F (g_mn T v)
theorem ce1_le (T : TS) (v p : Nat) (F : FS) : (ce1 T v p F).1 ≤ F.1 + 1 := by
  unfold ce1
  split
  · omega
  · split
    · exact Nat.le_refl _
    · omega
theorem ce2_le (T : TS) (v p : Nat) (F : FS) : (ce2 T v p F).1 ≤ F.1 + 1 := by
  unfold ce2
  split
  · exact Nat.le_refl _
  · omega
theorem ce3_le (T : TS) (v p : Nat) (F : FS) : (ce3 T v p F).1 ≤ F.1 + 1 := by
  unfold ce3
  split
  · exact Nat.le_refl _
  · exact Nat.le_succ _
theorem cvN_le (T : TS) (v : Nat) (F : FS) : ∀ p, (cvN T v F p).1 ≤ F.1 + 3 * p
  | 0 => Nat.le_refl _
  | p + 1 => by
    rw [cvN]
    have h0 := cvN_le T v F p
    have h1 := ce1_le T v p (cvN T v F p)
    have h2 := ce2_le T v p (ce1 T v p (cvN T v F p))
    have h3 := ce3_le T v p (ce2 T v p (ce1 T v p (cvN T v F p)))
    omega
theorem cvF_le (T : TS) (v : Nat) (F : FS) : (cvF T v F).1 ≤ F.1 + 3 * g_mn T v + 1 := by
  have h := cvN_le T v F (g_mn T v)
  unfold cvF
  split
  · show (cvN T v F (g_mn T v)).1 + 1 ≤ _
    omega
  · omega
def siF (T : TS) (t e : Nat) : Nat → Nat
  | 0 => wrT T e
  | u + 1 => if inI T u t = true ∧ liB T e u = true then siF T t e u / g_tn T u * g_tm T u else siF T t e u
def ssF (T : TS) (t : Nat) : Nat → Nat
  | 0 => 0
  | k + 1 => ssF T t k + siF T t (g_ro T (g_tv T t) (g_pl T (g_tf T t) + k)) (g_te T)
def swB (T : TS) (t : Nat) : Bool := decide (ssF T t (szT T t) ≠ 5644800 / 2 ^ g_tu T t * g_tn T t)
theorem siF_le {T : TS} (hI : tI T) (t e : Nat) : ∀ u, u ≤ g_te T → siF T t e u ≤ 9878400 * 3 ^ u
  | 0, _ => by simpa [siF] using wrT_le T e
  | u + 1, h => by
    have ih := siF_le hI t e u (by omega)
    have hn := ti_tn hI u (by omega)
    have hm := ti_tm hI u (by omega)
    rw [siF, Nat.pow_succ]
    split
    · have h1 : siF T t e u / g_tn T u ≤ siF T t e u / 3 := Nat.div_le_div_left (by omega) (by omega)
      have h2 : siF T t e u / g_tn T u * g_tm T u ≤ siF T t e u / 3 * 8 := Nat.mul_le_mul h1 hm.2
      omega
    · omega
theorem siF_le2 {T : TS} (hI : tI T) (t e u : Nat) (hu : u ≤ g_te T) : siF T t e u ≤ 34443860000000000 := by
  have h1 := siF_le hI t e u hu
  have h2 : 3 ^ u ≤ 3 ^ 20 := Nat.pow_le_pow_right (by omega) (Nat.le_trans hu (ti_te hI))
  have h3 : (3 : Nat) ^ 20 = 3486784401 := by decide
  rw [h3] at h2
  omega
theorem ssF_le {T : TS} (hI : tI T) (t : Nat) : ∀ k, ssF T t k ≤ 34443860000000000 * k
  | 0 => by simp [ssF]
  | k + 1 => by
    have := ssF_le hI t k
    have h2 := siF_le2 hI t (g_ro T (g_tv T t) (g_pl T (g_tf T t) + k)) (g_te T) (Nat.le_refl _)
    rw [ssF]
    omega
theorem siF_ct (T : TS) (F : FS) (t e : Nat) : ∀ u, siF (cT T F) t e u = siF T t e u
  | 0 => rfl
  | u + 1 => by
    rw [siF, siF, siF_ct T F t e u]
    rfl
theorem ssF_ct (T : TS) (F : FS) (t : Nat) : ∀ k, ssF (cT T F) t k = ssF T t k
  | 0 => rfl
  | k + 1 => by
    rw [ssF, ssF, ssF_ct T F t k, siF_ct]
    rfl
theorem swB_ct (T : TS) (F : FS) (t : Nat) : swB (cT T F) t = swB T t := by
  unfold swB
  rw [ssF_ct]
  rfl
def ckV (T : TS) : Nat → FS
  | 0 => (0, g_fi T, g_tr T)
  | v + 1 => cvF T v (ckV T v)
def ckT (T : TS) (F : FS) : Nat → FS
  | 0 => F
  | t + 1 => if g_tt T t = true ∧ swB T t = true then fdF (ckT T F t) (nI 5) (nI t) (-1) else ckT T F t
def ckL (T : TS) (F : FS) : Nat → FS
  | 0 => F
  | l + 1 => if g_lt T l = true then (match g_lo T l with
    | none => fdF (ckL T F l) (nI 6) (nI l) (-1)
    | some e => if bgF T (g_vo T e) (g_pl T e) < bgF T (g_vo T (g_lf T l)) (g_pl T (g_lf T l)) then fdF (ckL T F l) (nI 7) (nI l) (-1) else ckL T F l) else ckL T F l
def ckF (T : TS) : FS := ckL T (ckT T (ckV T (3 * g_np T)) (g_te T)) (g_le T)
def sp_check (T : TS) : Int32 × TS := sOk (cT (h_su T 0) (ckF (h_su T 0))) (nI (ckF (h_su T 0)).1)
theorem ckV_le {T : TS} (hI : tI T) : ∀ v, (ckV T v).1 ≤ 121 * v
  | 0 => Nat.le_refl _
  | v + 1 => by
    have h1 := ckV_le hI v
    have h2 := cvF_le T v (ckV T v)
    have h3 := ti_mn hI v
    rw [ckV]
    omega
theorem ckT_le (T : TS) (F : FS) : ∀ t, (ckT T F t).1 ≤ F.1 + t
  | 0 => Nat.le_refl _
  | t + 1 => by
    have := ckT_le T F t
    rw [ckT]
    split
    · show (ckT T F t).1 + 1 ≤ _
      omega
    · omega
theorem ckL_le (T : TS) (F : FS) : ∀ l, (ckL T F l).1 ≤ F.1 + l
  | 0 => Nat.le_refl _
  | l + 1 => by
    have := ckL_le T F l
    rw [ckL]
    split
    · split
      · show (ckL T F l).1 + 1 ≤ _
        omega
      · split
        · show (ckL T F l).1 + 1 ≤ _
          omega
        · omega
    · omega
theorem tI_ct {T : TS} (hI : tI T) {F : FS} (hF : F.1 ≤ 5000) : tI (cT T F) := ⟨(ti_ct hI :), (ti_cu hI :), (ti_cl hI :), (ti_np hI :), (ti_pk hI :), (ti_nb hI :), (ti_bt hI :), (ti_ev hI :), (ti_vo hI :), (ti_kd hI :), (ti_pn hI :), (ti_pn1 hI :), (ti_pn0 hI :), (ti_pnc hI :), (ti_pi hI :), (ti_pim hI :), (ti_va hI :), (ti_dt hI :), (ti_mn hI :), (ti_mn0 hI :), (ti_ro hI :), (ti_pl hI :), (ti_te hI :), (ti_tn hI :), (ti_tm hI :), (ti_tu hI :), (ti_tp hI :), (ti_tnest hI :), (ti_tover hI :), (ti_le hI :), (ti_lk hI :), (ti_lf hI :), (ti_lo hI :), (ti_wm hI :), hF, (ti_rk hI :), (ti_rr hI :), (ti_sk hI :), (ti_tied hI :), (ti_sm hI :), (ti_rrb hI :)⟩
theorem c_barOfC {x : Nat} {σ : ZS} {T : TS} {F : FS} (hR : rR x σ (cT T F)) (hI : tI T) (hF : F.1 ≤ 5000) (t : Nat) (ht : t < 9223372036854775808) : ZC M_X12_barOf [Ar (some x), Al (lN t)] σ (fun y0 τ0 => y0 = some (Ai (oI (boF T t))) ∧ τ0 = σ) := by
  have h := c_barOf hR (tI_ct hI hF) t ht
  rw [boF_ct] at h
  exact h
theorem c_barAtC {x : Nat} {σ : ZS} {T : TS} {F : FS} (hR : rR x σ (cT T F)) (hI : tI T) (hF : F.1 ≤ 5000) (b : Nat) (hb : b ≤ 24) : ZC M_X12_barAt [Ar (some x), Ai (nI b)] σ (fun y0 τ0 => y0 = some (Al (lN (baF T b))) ∧ τ0 = σ) := by
  have h := c_barAt hR (tI_ct hI hF) b hb
  rw [baF_ct] at h
  exact h
theorem c_timeOfC {x : Nat} {σ : ZS} {T : TS} {F : FS} (hR : rR x σ (cT T F)) (hI : tI T) (hF : F.1 ≤ 5000) (e : Nat) (he : e < g_ev T) (hth : g_th T e = true) : ZC M_X12_timeOf [Ar (some x), Ai (nI e)] σ (fun y0 τ0 => y0 = some (Al (lN (tmT T e))) ∧ τ0 = σ) := by
  have h := c_timeOf hR (tI_ct hI hF) e he hth
  rw [tmT_ct] at h
  exact h
theorem c_beginOfC {x : Nat} {σ : ZS} {T : TS} {F : FS} (hR : rR x σ (cT T F)) (hI : tI T) (hF : F.1 ≤ 5000) (e : Nat) (he : e < g_ev T) (hth : g_th T e = true) : ZC M_X12_beginOf [Ar (some x), Ai (nI e)] σ (fun y0 τ0 => y0 = some (Al (lN (bgF T (g_vo T e) (g_pl T e)))) ∧ τ0 = σ) := by
  have h := c_beginOf hR (tI_ct hI hF) e he hth
  rw [bgF_ct] at h
  exact h
theorem c_isTieWrongC {x : Nat} {σ : ZS} {T : TS} {F : FS} (hR : rR x σ (cT T F)) (hI : tI T) (hF : F.1 ≤ 5000) (v p : Nat) (hv : v < 18) (hp : p < g_mn T v) : ZC M_X12_isTieWrong [Ar (some x), Ai (nI v), Ai (nI p)] σ (fun y0 τ0 => y0 = some (Ai (bI (twB T v p))) ∧ τ0 = σ) := by
  have h := c_isTieWrong hR (tI_ct hI hF) v p hv hp
  rw [twB_ct] at h
  exact h
theorem c_findsC {x : Nat} {σ : ZS} {T : TS} {F : FS} (hR : rR x σ (cT T F)) (hF : F.1 ≤ 5000) (a b c : Int32) : ZC M_X12_finds [Ar (some x), Ai a, Ai b, Ai c] σ (fun y0 τ0 => y0 = none ∧ rR x τ0 (cT T (fdF F a b c))) := by
  have h := c_finds hR a b c hF
  rw [cT_fd] at h
  exact h
theorem c_isOutC {x : Nat} {σ : ZS} {T : TS} {F : FS} (hR : rR x σ (cT T F)) (hI : tI T) (hF : F.1 ≤ 5000) (v p : Nat) (he : g_ro T v p < g_ev T) (hth : g_th T (g_ro T v p) = true) : ZC M_X12_isOut [Ar (some x), Ai (nI (g_ro T v p))] σ (fun y0 τ0 => y0 = some (Ai (bI (oR T v p F).1)) ∧ rR x τ0 (cT T (F.1, F.2.1, (oR T v p F).2))) := by
  have h := c_isOut hR (tI_ct hI hF) (g_ro T v p) he hth
  rw [ouF_ct] at h
  exact h
