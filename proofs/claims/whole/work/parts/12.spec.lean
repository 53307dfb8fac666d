abbrev TS : Type := (Nat → Nat) × (Nat → Nat → Nat) × (Nat → Nat → Bool) × (Nat → Nat → Nat → Nat) × (Nat → Nat → Option Nat) × (Nat → Nat → Nat → Option Nat) × (Nat → Nat → Int32) × (Nat → Nat → Nat → Int32) × (Int32) × (Int64)
def g_ct (T : TS) : Nat := T.1 0
def h_ct (T : TS) (v : Nat) : TS := (va_up T.1 0 v, T.2)
theorem hh_ct (T : TS) (v w : Nat) : h_ct (h_ct T v) w = h_ct T w := by unfold h_ct; simp only [bx_uu]
def g_cu (T : TS) : Nat := T.1 1
def h_cu (T : TS) (v : Nat) : TS := (va_up T.1 1 v, T.2)
theorem hh_cu (T : TS) (v w : Nat) : h_cu (h_cu T v) w = h_cu T w := by unfold h_cu; simp only [bx_uu]
def g_cl (T : TS) : Nat := T.1 2
def h_cl (T : TS) (v : Nat) : TS := (va_up T.1 2 v, T.2)
theorem hh_cl (T : TS) (v w : Nat) : h_cl (h_cl T v) w = h_cl T w := by unfold h_cl; simp only [bx_uu]
def g_np (T : TS) : Nat := T.1 3
def h_np (T : TS) (v : Nat) : TS := (va_up T.1 3 v, T.2)
theorem hh_np (T : TS) (v w : Nat) : h_np (h_np T v) w = h_np T w := by unfold h_np; simp only [bx_uu]
def g_pk (T : TS) : Nat → Nat := T.2.1 0
def h_pk (T : TS) (v : Nat → Nat) : TS := (T.1, va_up T.2.1 0 v, T.2.2)
theorem hh_pk (T : TS) (v w : Nat → Nat) : h_pk (h_pk T v) w = h_pk T w := by unfold h_pk; simp only [bx_uu]
def g_nb (T : TS) : Nat := T.1 4
def h_nb (T : TS) (v : Nat) : TS := (va_up T.1 4 v, T.2)
theorem hh_nb (T : TS) (v w : Nat) : h_nb (h_nb T v) w = h_nb T w := by unfold h_nb; simp only [bx_uu]
def g_bt (T : TS) : Nat → Nat := T.2.1 1
def h_bt (T : TS) (v : Nat → Nat) : TS := (T.1, va_up T.2.1 1 v, T.2.2)
theorem hh_bt (T : TS) (v w : Nat → Nat) : h_bt (h_bt T v) w = h_bt T w := by unfold h_bt; simp only [bx_uu]
def g_ev (T : TS) : Nat := T.1 5
def h_ev (T : TS) (v : Nat) : TS := (va_up T.1 5 v, T.2)
theorem hh_ev (T : TS) (v w : Nat) : h_ev (h_ev T v) w = h_ev T w := by unfold h_ev; simp only [bx_uu]
def g_th (T : TS) : Nat → Bool := T.2.2.1 0
def h_th (T : TS) (v : Nat → Bool) : TS := (T.1, T.2.1, va_up T.2.2.1 0 v, T.2.2.2)
theorem hh_th (T : TS) (v w : Nat → Bool) : h_th (h_th T v) w = h_th T w := by unfold h_th; simp only [bx_uu]
def g_vo (T : TS) : Nat → Nat := T.2.1 2
def h_vo (T : TS) (v : Nat → Nat) : TS := (T.1, va_up T.2.1 2 v, T.2.2)
theorem hh_vo (T : TS) (v w : Nat → Nat) : h_vo (h_vo T v) w = h_vo T w := by unfold h_vo; simp only [bx_uu]
def g_kd (T : TS) : Nat → Nat := T.2.1 3
def h_kd (T : TS) (v : Nat → Nat) : TS := (T.1, va_up T.2.1 3 v, T.2.2)
theorem hh_kd (T : TS) (v w : Nat → Nat) : h_kd (h_kd T v) w = h_kd T w := by unfold h_kd; simp only [bx_uu]
def g_pn (T : TS) : Nat → Nat := T.2.1 4
def h_pn (T : TS) (v : Nat → Nat) : TS := (T.1, va_up T.2.1 4 v, T.2.2)
theorem hh_pn (T : TS) (v w : Nat → Nat) : h_pn (h_pn T v) w = h_pn T w := by unfold h_pn; simp only [bx_uu]
def g_pi (T : TS) : Nat → Nat → Int32 := T.2.2.2.2.2.2.2.1 0
def h_pi (T : TS) (v : Nat → Nat → Int32) : TS := (T.1, T.2.1, T.2.2.1, T.2.2.2.1, T.2.2.2.2.1, T.2.2.2.2.2.1, T.2.2.2.2.2.2.1, va_up T.2.2.2.2.2.2.2.1 0 v, T.2.2.2.2.2.2.2.2)
theorem hh_pi (T : TS) (v w : Nat → Nat → Int32) : h_pi (h_pi T v) w = h_pi T w := by unfold h_pi; simp only [bx_uu]
def g_va (T : TS) : Nat → Nat := T.2.1 5
def h_va (T : TS) (v : Nat → Nat) : TS := (T.1, va_up T.2.1 5 v, T.2.2)
theorem hh_va (T : TS) (v w : Nat → Nat) : h_va (h_va T v) w = h_va T w := by unfold h_va; simp only [bx_uu]
def g_dt (T : TS) : Nat → Nat := T.2.1 6
def h_dt (T : TS) (v : Nat → Nat) : TS := (T.1, va_up T.2.1 6 v, T.2.2)
theorem hh_dt (T : TS) (v w : Nat → Nat) : h_dt (h_dt T v) w = h_dt T w := by unfold h_dt; simp only [bx_uu]
def g_ti (T : TS) : Nat → Bool := T.2.2.1 1
def h_ti (T : TS) (v : Nat → Bool) : TS := (T.1, T.2.1, va_up T.2.2.1 1 v, T.2.2.2)
theorem hh_ti (T : TS) (v w : Nat → Bool) : h_ti (h_ti T v) w = h_ti T w := by unfold h_ti; simp only [bx_uu]
def g_pl (T : TS) : Nat → Nat := T.2.1 7
def h_pl (T : TS) (v : Nat → Nat) : TS := (T.1, va_up T.2.1 7 v, T.2.2)
theorem hh_pl (T : TS) (v w : Nat → Nat) : h_pl (h_pl T v) w = h_pl T w := by unfold h_pl; simp only [bx_uu]
def g_mn (T : TS) : Nat → Nat := T.2.1 8
def h_mn (T : TS) (v : Nat → Nat) : TS := (T.1, va_up T.2.1 8 v, T.2.2)
theorem hh_mn (T : TS) (v w : Nat → Nat) : h_mn (h_mn T v) w = h_mn T w := by unfold h_mn; simp only [bx_uu]
def g_ro (T : TS) : Nat → Nat → Nat := T.2.2.2.1 0
def h_ro (T : TS) (v : Nat → Nat → Nat) : TS := (T.1, T.2.1, T.2.2.1, va_up T.2.2.2.1 0 v, T.2.2.2.2)
theorem hh_ro (T : TS) (v w : Nat → Nat → Nat) : h_ro (h_ro T v) w = h_ro T w := by unfold h_ro; simp only [bx_uu]
def g_te (T : TS) : Nat := T.1 6
def h_te (T : TS) (v : Nat) : TS := (va_up T.1 6 v, T.2)
theorem hh_te (T : TS) (v w : Nat) : h_te (h_te T v) w = h_te T w := by unfold h_te; simp only [bx_uu]
def g_tt (T : TS) : Nat → Bool := T.2.2.1 2
def h_tt (T : TS) (v : Nat → Bool) : TS := (T.1, T.2.1, va_up T.2.2.1 2 v, T.2.2.2)
theorem hh_tt (T : TS) (v w : Nat → Bool) : h_tt (h_tt T v) w = h_tt T w := by unfold h_tt; simp only [bx_uu]
def g_tv (T : TS) : Nat → Nat := T.2.1 9
def h_tv (T : TS) (v : Nat → Nat) : TS := (T.1, va_up T.2.1 9 v, T.2.2)
theorem hh_tv (T : TS) (v w : Nat → Nat) : h_tv (h_tv T v) w = h_tv T w := by unfold h_tv; simp only [bx_uu]
def g_tf (T : TS) : Nat → Nat := T.2.1 10
def h_tf (T : TS) (v : Nat → Nat) : TS := (T.1, va_up T.2.1 10 v, T.2.2)
theorem hh_tf (T : TS) (v w : Nat → Nat) : h_tf (h_tf T v) w = h_tf T w := by unfold h_tf; simp only [bx_uu]
def g_tl (T : TS) : Nat → Nat := T.2.1 11
def h_tl (T : TS) (v : Nat → Nat) : TS := (T.1, va_up T.2.1 11 v, T.2.2)
theorem hh_tl (T : TS) (v w : Nat → Nat) : h_tl (h_tl T v) w = h_tl T w := by unfold h_tl; simp only [bx_uu]
def g_tn (T : TS) : Nat → Nat := T.2.1 12
def h_tn (T : TS) (v : Nat → Nat) : TS := (T.1, va_up T.2.1 12 v, T.2.2)
theorem hh_tn (T : TS) (v w : Nat → Nat) : h_tn (h_tn T v) w = h_tn T w := by unfold h_tn; simp only [bx_uu]
def g_tm (T : TS) : Nat → Nat := T.2.1 13
def h_tm (T : TS) (v : Nat → Nat) : TS := (T.1, va_up T.2.1 13 v, T.2.2)
theorem hh_tm (T : TS) (v w : Nat → Nat) : h_tm (h_tm T v) w = h_tm T w := by unfold h_tm; simp only [bx_uu]
def g_tu (T : TS) : Nat → Nat := T.2.1 14
def h_tu (T : TS) (v : Nat → Nat) : TS := (T.1, va_up T.2.1 14 v, T.2.2)
theorem hh_tu (T : TS) (v w : Nat → Nat) : h_tu (h_tu T v) w = h_tu T w := by unfold h_tu; simp only [bx_uu]
def g_le (T : TS) : Nat := T.1 7
def h_le (T : TS) (v : Nat) : TS := (va_up T.1 7 v, T.2)
theorem hh_le (T : TS) (v w : Nat) : h_le (h_le T v) w = h_le T w := by unfold h_le; simp only [bx_uu]
def g_lt (T : TS) : Nat → Bool := T.2.2.1 3
def h_lt (T : TS) (v : Nat → Bool) : TS := (T.1, T.2.1, va_up T.2.2.1 3 v, T.2.2.2)
theorem hh_lt (T : TS) (v w : Nat → Bool) : h_lt (h_lt T v) w = h_lt T w := by unfold h_lt; simp only [bx_uu]
def g_lk (T : TS) : Nat → Nat := T.2.1 15
def h_lk (T : TS) (v : Nat → Nat) : TS := (T.1, va_up T.2.1 15 v, T.2.2)
theorem hh_lk (T : TS) (v w : Nat → Nat) : h_lk (h_lk T v) w = h_lk T w := by unfold h_lk; simp only [bx_uu]
def g_lf (T : TS) : Nat → Nat := T.2.1 16
def h_lf (T : TS) (v : Nat → Nat) : TS := (T.1, va_up T.2.1 16 v, T.2.2)
theorem hh_lf (T : TS) (v w : Nat → Nat) : h_lf (h_lf T v) w = h_lf T w := by unfold h_lf; simp only [bx_uu]
def g_lo (T : TS) : Nat → Option Nat := T.2.2.2.2.1 0
def h_lo (T : TS) (v : Nat → Option Nat) : TS := (T.1, T.2.1, T.2.2.1, T.2.2.2.1, va_up T.2.2.2.2.1 0 v, T.2.2.2.2.2)
theorem hh_lo (T : TS) (v w : Nat → Option Nat) : h_lo (h_lo T v) w = h_lo T w := by unfold h_lo; simp only [bx_uu]
def g_wm (T : TS) : Nat := T.1 8
def h_wm (T : TS) (v : Nat) : TS := (va_up T.1 8 v, T.2)
theorem hh_wm (T : TS) (v w : Nat) : h_wm (h_wm T v) w = h_wm T w := by unfold h_wm; simp only [bx_uu]
def g_wr (T : TS) : Nat → Nat := T.2.1 17
def h_wr (T : TS) (v : Nat → Nat) : TS := (T.1, va_up T.2.1 17 v, T.2.2)
theorem hh_wr (T : TS) (v w : Nat → Nat) : h_wr (h_wr T v) w = h_wr T w := by unfold h_wr; simp only [bx_uu]
def g_fo (T : TS) : Nat := T.1 9
def h_fo (T : TS) (v : Nat) : TS := (va_up T.1 9 v, T.2)
theorem hh_fo (T : TS) (v w : Nat) : h_fo (h_fo T v) w = h_fo T w := by unfold h_fo; simp only [bx_uu]
def g_fi (T : TS) : Nat → Int32 := T.2.2.2.2.2.2.1 0
def h_fi (T : TS) (v : Nat → Int32) : TS := (T.1, T.2.1, T.2.2.1, T.2.2.2.1, T.2.2.2.2.1, T.2.2.2.2.2.1, va_up T.2.2.2.2.2.2.1 0 v, T.2.2.2.2.2.2.2)
theorem hh_fi (T : TS) (v w : Nat → Int32) : h_fi (h_fi T v) w = h_fi T w := by unfold h_fi; simp only [bx_uu]
def g_hr (T : TS) : Nat → Bool := T.2.2.1 4
def h_hr (T : TS) (v : Nat → Bool) : TS := (T.1, T.2.1, va_up T.2.2.1 4 v, T.2.2.2)
theorem hh_hr (T : TS) (v w : Nat → Bool) : h_hr (h_hr T v) w = h_hr T w := by unfold h_hr; simp only [bx_uu]
def g_rk (T : TS) : Nat → Nat := T.2.1 18
def h_rk (T : TS) (v : Nat → Nat) : TS := (T.1, va_up T.2.1 18 v, T.2.2)
theorem hh_rk (T : TS) (v w : Nat → Nat) : h_rk (h_rk T v) w = h_rk T w := by unfold h_rk; simp only [bx_uu]
def g_rs (T : TS) : Nat → Nat := T.2.1 19
def h_rs (T : TS) (v : Nat → Nat) : TS := (T.1, va_up T.2.1 19 v, T.2.2)
theorem hh_rs (T : TS) (v w : Nat → Nat) : h_rs (h_rs T v) w = h_rs T w := by unfold h_rs; simp only [bx_uu]
def g_rr (T : TS) : Nat → Nat → Option Nat := T.2.2.2.2.2.1 0
def h_rr (T : TS) (v : Nat → Nat → Option Nat) : TS := (T.1, T.2.1, T.2.2.1, T.2.2.2.1, T.2.2.2.2.1, va_up T.2.2.2.2.2.1 0 v, T.2.2.2.2.2.2)
theorem hh_rr (T : TS) (v w : Nat → Nat → Option Nat) : h_rr (h_rr T v) w = h_rr T w := by unfold h_rr; simp only [bx_uu]
def g_hs (T : TS) : Nat → Bool := T.2.2.1 5
def h_hs (T : TS) (v : Nat → Bool) : TS := (T.1, T.2.1, va_up T.2.2.1 5 v, T.2.2.2)
theorem hh_hs (T : TS) (v w : Nat → Bool) : h_hs (h_hs T v) w = h_hs T w := by unfold h_hs; simp only [bx_uu]
def g_sk (T : TS) : Nat → Nat := T.2.1 20
def h_sk (T : TS) (v : Nat → Nat) : TS := (T.1, va_up T.2.1 20 v, T.2.2)
theorem hh_sk (T : TS) (v w : Nat → Nat) : h_sk (h_sk T v) w = h_sk T w := by unfold h_sk; simp only [bx_uu]
def g_ss (T : TS) : Nat → Nat := T.2.1 21
def h_ss (T : TS) (v : Nat → Nat) : TS := (T.1, va_up T.2.1 21 v, T.2.2)
theorem hh_ss (T : TS) (v w : Nat → Nat) : h_ss (h_ss T v) w = h_ss T w := by unfold h_ss; simp only [bx_uu]
def g_sr (T : TS) : Nat → Nat → Int32 := T.2.2.2.2.2.2.2.1 1
def h_sr (T : TS) (v : Nat → Nat → Int32) : TS := (T.1, T.2.1, T.2.2.1, T.2.2.2.1, T.2.2.2.2.1, T.2.2.2.2.2.1, T.2.2.2.2.2.2.1, va_up T.2.2.2.2.2.2.2.1 1 v, T.2.2.2.2.2.2.2.2)
theorem hh_sr (T : TS) (v w : Nat → Nat → Int32) : h_sr (h_sr T v) w = h_sr T w := by unfold h_sr; simp only [bx_uu]
def g_fa (T : TS) : Nat → Int32 := T.2.2.2.2.2.2.1 1
def h_fa (T : TS) (v : Nat → Int32) : TS := (T.1, T.2.1, T.2.2.1, T.2.2.2.1, T.2.2.2.2.1, T.2.2.2.2.2.1, va_up T.2.2.2.2.2.2.1 1 v, T.2.2.2.2.2.2.2)
theorem hh_fa (T : TS) (v w : Nat → Int32) : h_fa (h_fa T v) w = h_fa T w := by unfold h_fa; simp only [bx_uu]
def g_su (T : TS) : Int32 := T.2.2.2.2.2.2.2.2.1
def h_su (T : TS) (v : Int32) : TS := (T.1, T.2.1, T.2.2.1, T.2.2.2.1, T.2.2.2.2.1, T.2.2.2.2.2.1, T.2.2.2.2.2.2.1, T.2.2.2.2.2.2.2.1, v, T.2.2.2.2.2.2.2.2.2)
theorem hh_su (T : TS) (v w : Int32) : h_su (h_su T v) w = h_su T w := by rfl
def g_tr (T : TS) : Int64 := T.2.2.2.2.2.2.2.2.2
def h_tr (T : TS) (v : Int64) : TS := (T.1, T.2.1, T.2.2.1, T.2.2.2.1, T.2.2.2.2.1, T.2.2.2.2.2.1, T.2.2.2.2.2.2.1, T.2.2.2.2.2.2.2.1, T.2.2.2.2.2.2.2.2.1, v)
theorem hh_tr (T : TS) (v w : Int64) : h_tr (h_tr T v) w = h_tr T w := by rfl
def zcnt (b : Nat → Bool) : Nat → Nat
  | 0 => 0
  | n + 1 => zcnt b n + (if b n then 1 else 0)
def oI (o : Option Nat) : Int32 := match o with
  | none => -1
  | some e => nI e
def va_u2 {α : Type} (f : Nat → Nat → α) (i : Nat) (g : Nat → α) : Nat → Nat → α := fun j => if j = i then g else f j
/-- the reference: the object at x, its rows behind it -/
def rTab : List (Nat × Nat × Nat × Nat) := [(769, 1, 2, 6), (771, 2, 4, 24), (774, 3, 3, 150), (775, 4, 2, 150), (776, 5, 2, 150), (777, 6, 2, 150), (778, 7, 2, 900), (779, 8, 2, 150), (780, 9, 2, 150), (781, 10, 3, 150), (782, 11, 2, 720), (783, 12, 2, 18), (786, 13, 3, 20), (787, 14, 2, 20), (788, 15, 2, 20), (789, 16, 2, 20), (790, 17, 2, 20), (791, 18, 2, 20), (792, 19, 2, 20), (795, 20, 3, 30), (796, 21, 2, 30), (797, 22, 2, 30), (798, 23, 2, 30), (800, 24, 2, 150), (802, 25, 2, 300), (803, 26, 3, 4), (804, 27, 2, 4), (805, 28, 2, 4), (806, 29, 2, 80), (807, 30, 2, 20), (808, 31, 3, 4), (809, 32, 2, 4), (810, 33, 2, 4), (811, 34, 2, 240), (812, 35, 2, 60), (813, 36, 2, 5), (817, 37, 4, 150)]
def rA (x : Nat) (σ : ZS) : Prop := zk σ x = (1, 12) ∧ ∀ q ∈ rTab, zR σ q.1 x = some (x + q.2.1) ∧ zk σ (x + q.2.1) = (q.2.2.1, q.2.2.2)
theorem ra_partKind {x : Nat} {σ : ZS} (h : rA x σ) : zR σ 769 x = some (x + 1) := (h.2 (769, 1, 2, 6) (List.mem_of_getElem? (i := 0) rfl)).1
theorem rk_partKind {x : Nat} {σ : ZS} (h : rA x σ) : zk σ (x + 1) = (2, 6) := (h.2 (769, 1, 2, 6) (List.mem_of_getElem? (i := 0) rfl)).2
theorem ra_barTime {x : Nat} {σ : ZS} (h : rA x σ) : zR σ 771 x = some (x + 2) := (h.2 (771, 2, 4, 24) (List.mem_of_getElem? (i := 1) rfl)).1
theorem rk_barTime {x : Nat} {σ : ZS} (h : rA x σ) : zk σ (x + 2) = (4, 24) := (h.2 (771, 2, 4, 24) (List.mem_of_getElem? (i := 1) rfl)).2
theorem ra_isThere {x : Nat} {σ : ZS} (h : rA x σ) : zR σ 774 x = some (x + 3) := (h.2 (774, 3, 3, 150) (List.mem_of_getElem? (i := 2) rfl)).1
theorem rk_isThere {x : Nat} {σ : ZS} (h : rA x σ) : zk σ (x + 3) = (3, 150) := (h.2 (774, 3, 3, 150) (List.mem_of_getElem? (i := 2) rfl)).2
theorem ra_voiceOf {x : Nat} {σ : ZS} (h : rA x σ) : zR σ 775 x = some (x + 4) := (h.2 (775, 4, 2, 150) (List.mem_of_getElem? (i := 3) rfl)).1
theorem rk_voiceOf {x : Nat} {σ : ZS} (h : rA x σ) : zk σ (x + 4) = (2, 150) := (h.2 (775, 4, 2, 150) (List.mem_of_getElem? (i := 3) rfl)).2
theorem ra_kindOf {x : Nat} {σ : ZS} (h : rA x σ) : zR σ 776 x = some (x + 5) := (h.2 (776, 5, 2, 150) (List.mem_of_getElem? (i := 4) rfl)).1
theorem rk_kindOf {x : Nat} {σ : ZS} (h : rA x σ) : zk σ (x + 5) = (2, 150) := (h.2 (776, 5, 2, 150) (List.mem_of_getElem? (i := 4) rfl)).2
theorem ra_pitches {x : Nat} {σ : ZS} (h : rA x σ) : zR σ 777 x = some (x + 6) := (h.2 (777, 6, 2, 150) (List.mem_of_getElem? (i := 5) rfl)).1
theorem rk_pitches {x : Nat} {σ : ZS} (h : rA x σ) : zk σ (x + 6) = (2, 150) := (h.2 (777, 6, 2, 150) (List.mem_of_getElem? (i := 5) rfl)).2
theorem ra_pitchOf {x : Nat} {σ : ZS} (h : rA x σ) : zR σ 778 x = some (x + 7) := (h.2 (778, 7, 2, 900) (List.mem_of_getElem? (i := 6) rfl)).1
theorem rk_pitchOf {x : Nat} {σ : ZS} (h : rA x σ) : zk σ (x + 7) = (2, 900) := (h.2 (778, 7, 2, 900) (List.mem_of_getElem? (i := 6) rfl)).2
theorem ra_valueOf {x : Nat} {σ : ZS} (h : rA x σ) : zR σ 779 x = some (x + 8) := (h.2 (779, 8, 2, 150) (List.mem_of_getElem? (i := 7) rfl)).1
theorem rk_valueOf {x : Nat} {σ : ZS} (h : rA x σ) : zk σ (x + 8) = (2, 150) := (h.2 (779, 8, 2, 150) (List.mem_of_getElem? (i := 7) rfl)).2
theorem ra_dotsOf {x : Nat} {σ : ZS} (h : rA x σ) : zR σ 780 x = some (x + 9) := (h.2 (780, 9, 2, 150) (List.mem_of_getElem? (i := 8) rfl)).1
theorem rk_dotsOf {x : Nat} {σ : ZS} (h : rA x σ) : zk σ (x + 9) = (2, 150) := (h.2 (780, 9, 2, 150) (List.mem_of_getElem? (i := 8) rfl)).2
theorem ra_isTied {x : Nat} {σ : ZS} (h : rA x σ) : zR σ 781 x = some (x + 10) := (h.2 (781, 10, 3, 150) (List.mem_of_getElem? (i := 9) rfl)).1
theorem rk_isTied {x : Nat} {σ : ZS} (h : rA x σ) : zk σ (x + 10) = (3, 150) := (h.2 (781, 10, 3, 150) (List.mem_of_getElem? (i := 9) rfl)).2
theorem ra_row {x : Nat} {σ : ZS} (h : rA x σ) : zR σ 782 x = some (x + 11) := (h.2 (782, 11, 2, 720) (List.mem_of_getElem? (i := 10) rfl)).1
theorem rk_row {x : Nat} {σ : ZS} (h : rA x σ) : zk σ (x + 11) = (2, 720) := (h.2 (782, 11, 2, 720) (List.mem_of_getElem? (i := 10) rfl)).2
theorem ra_many {x : Nat} {σ : ZS} (h : rA x σ) : zR σ 783 x = some (x + 12) := (h.2 (783, 12, 2, 18) (List.mem_of_getElem? (i := 11) rfl)).1
theorem rk_many {x : Nat} {σ : ZS} (h : rA x σ) : zk σ (x + 12) = (2, 18) := (h.2 (783, 12, 2, 18) (List.mem_of_getElem? (i := 11) rfl)).2
theorem ra_isTuplet {x : Nat} {σ : ZS} (h : rA x σ) : zR σ 786 x = some (x + 13) := (h.2 (786, 13, 3, 20) (List.mem_of_getElem? (i := 12) rfl)).1
theorem rk_isTuplet {x : Nat} {σ : ZS} (h : rA x σ) : zk σ (x + 13) = (3, 20) := (h.2 (786, 13, 3, 20) (List.mem_of_getElem? (i := 12) rfl)).2
theorem ra_tupletVoice {x : Nat} {σ : ZS} (h : rA x σ) : zR σ 787 x = some (x + 14) := (h.2 (787, 14, 2, 20) (List.mem_of_getElem? (i := 13) rfl)).1
theorem rk_tupletVoice {x : Nat} {σ : ZS} (h : rA x σ) : zk σ (x + 14) = (2, 20) := (h.2 (787, 14, 2, 20) (List.mem_of_getElem? (i := 13) rfl)).2
theorem ra_tupletFirst {x : Nat} {σ : ZS} (h : rA x σ) : zR σ 788 x = some (x + 15) := (h.2 (788, 15, 2, 20) (List.mem_of_getElem? (i := 14) rfl)).1
theorem rk_tupletFirst {x : Nat} {σ : ZS} (h : rA x σ) : zk σ (x + 15) = (2, 20) := (h.2 (788, 15, 2, 20) (List.mem_of_getElem? (i := 14) rfl)).2
theorem ra_tupletLast {x : Nat} {σ : ZS} (h : rA x σ) : zR σ 789 x = some (x + 16) := (h.2 (789, 16, 2, 20) (List.mem_of_getElem? (i := 15) rfl)).1
theorem rk_tupletLast {x : Nat} {σ : ZS} (h : rA x σ) : zk σ (x + 16) = (2, 20) := (h.2 (789, 16, 2, 20) (List.mem_of_getElem? (i := 15) rfl)).2
theorem ra_tupletN {x : Nat} {σ : ZS} (h : rA x σ) : zR σ 790 x = some (x + 17) := (h.2 (790, 17, 2, 20) (List.mem_of_getElem? (i := 16) rfl)).1
theorem rk_tupletN {x : Nat} {σ : ZS} (h : rA x σ) : zk σ (x + 17) = (2, 20) := (h.2 (790, 17, 2, 20) (List.mem_of_getElem? (i := 16) rfl)).2
theorem ra_tupletM {x : Nat} {σ : ZS} (h : rA x σ) : zR σ 791 x = some (x + 18) := (h.2 (791, 18, 2, 20) (List.mem_of_getElem? (i := 17) rfl)).1
theorem rk_tupletM {x : Nat} {σ : ZS} (h : rA x σ) : zk σ (x + 18) = (2, 20) := (h.2 (791, 18, 2, 20) (List.mem_of_getElem? (i := 17) rfl)).2
theorem ra_tupletUnit {x : Nat} {σ : ZS} (h : rA x σ) : zR σ 792 x = some (x + 19) := (h.2 (792, 19, 2, 20) (List.mem_of_getElem? (i := 18) rfl)).1
theorem rk_tupletUnit {x : Nat} {σ : ZS} (h : rA x σ) : zk σ (x + 19) = (2, 20) := (h.2 (792, 19, 2, 20) (List.mem_of_getElem? (i := 18) rfl)).2
theorem ra_isLine {x : Nat} {σ : ZS} (h : rA x σ) : zR σ 795 x = some (x + 20) := (h.2 (795, 20, 3, 30) (List.mem_of_getElem? (i := 19) rfl)).1
theorem rk_isLine {x : Nat} {σ : ZS} (h : rA x σ) : zk σ (x + 20) = (3, 30) := (h.2 (795, 20, 3, 30) (List.mem_of_getElem? (i := 19) rfl)).2
theorem ra_lineKind {x : Nat} {σ : ZS} (h : rA x σ) : zR σ 796 x = some (x + 21) := (h.2 (796, 21, 2, 30) (List.mem_of_getElem? (i := 20) rfl)).1
theorem rk_lineKind {x : Nat} {σ : ZS} (h : rA x σ) : zk σ (x + 21) = (2, 30) := (h.2 (796, 21, 2, 30) (List.mem_of_getElem? (i := 20) rfl)).2
theorem ra_lineFrom {x : Nat} {σ : ZS} (h : rA x σ) : zR σ 797 x = some (x + 22) := (h.2 (797, 22, 2, 30) (List.mem_of_getElem? (i := 21) rfl)).1
theorem rk_lineFrom {x : Nat} {σ : ZS} (h : rA x σ) : zk σ (x + 22) = (2, 30) := (h.2 (797, 22, 2, 30) (List.mem_of_getElem? (i := 21) rfl)).2
theorem ra_lineTo {x : Nat} {σ : ZS} (h : rA x σ) : zR σ 798 x = some (x + 23) := (h.2 (798, 23, 2, 30) (List.mem_of_getElem? (i := 22) rfl)).1
theorem rk_lineTo {x : Nat} {σ : ZS} (h : rA x σ) : zk σ (x + 23) = (2, 30) := (h.2 (798, 23, 2, 30) (List.mem_of_getElem? (i := 22) rfl)).2
theorem ra_walkRow {x : Nat} {σ : ZS} (h : rA x σ) : zR σ 800 x = some (x + 24) := (h.2 (800, 24, 2, 150) (List.mem_of_getElem? (i := 23) rfl)).1
theorem rk_walkRow {x : Nat} {σ : ZS} (h : rA x σ) : zk σ (x + 24) = (2, 150) := (h.2 (800, 24, 2, 150) (List.mem_of_getElem? (i := 23) rfl)).2
theorem ra_findings {x : Nat} {σ : ZS} (h : rA x σ) : zR σ 802 x = some (x + 25) := (h.2 (802, 25, 2, 300) (List.mem_of_getElem? (i := 24) rfl)).1
theorem rk_findings {x : Nat} {σ : ZS} (h : rA x σ) : zk σ (x + 25) = (2, 300) := (h.2 (802, 25, 2, 300) (List.mem_of_getElem? (i := 24) rfl)).2
theorem ra_hasRack {x : Nat} {σ : ZS} (h : rA x σ) : zR σ 803 x = some (x + 26) := (h.2 (803, 26, 3, 4) (List.mem_of_getElem? (i := 25) rfl)).1
theorem rk_hasRack {x : Nat} {σ : ZS} (h : rA x σ) : zk σ (x + 26) = (3, 4) := (h.2 (803, 26, 3, 4) (List.mem_of_getElem? (i := 25) rfl)).2
theorem ra_rackKind {x : Nat} {σ : ZS} (h : rA x σ) : zR σ 804 x = some (x + 27) := (h.2 (804, 27, 2, 4) (List.mem_of_getElem? (i := 26) rfl)).1
theorem rk_rackKind {x : Nat} {σ : ZS} (h : rA x σ) : zk σ (x + 27) = (2, 4) := (h.2 (804, 27, 2, 4) (List.mem_of_getElem? (i := 26) rfl)).2
theorem ra_rackSize {x : Nat} {σ : ZS} (h : rA x σ) : zR σ 805 x = some (x + 28) := (h.2 (805, 28, 2, 4) (List.mem_of_getElem? (i := 27) rfl)).1
theorem rk_rackSize {x : Nat} {σ : ZS} (h : rA x σ) : zk σ (x + 28) = (2, 4) := (h.2 (805, 28, 2, 4) (List.mem_of_getElem? (i := 27) rfl)).2
theorem ra_rackRow {x : Nat} {σ : ZS} (h : rA x σ) : zR σ 806 x = some (x + 29) := (h.2 (806, 29, 2, 80) (List.mem_of_getElem? (i := 28) rfl)).1
theorem rk_rackRow {x : Nat} {σ : ZS} (h : rA x σ) : zk σ (x + 29) = (2, 80) := (h.2 (806, 29, 2, 80) (List.mem_of_getElem? (i := 28) rfl)).2
theorem ra_slid {x : Nat} {σ : ZS} (h : rA x σ) : zR σ 807 x = some (x + 30) := (h.2 (807, 30, 2, 20) (List.mem_of_getElem? (i := 29) rfl)).1
theorem rk_slid {x : Nat} {σ : ZS} (h : rA x σ) : zk σ (x + 30) = (2, 20) := (h.2 (807, 30, 2, 20) (List.mem_of_getElem? (i := 29) rfl)).2
theorem ra_hasShelf {x : Nat} {σ : ZS} (h : rA x σ) : zR σ 808 x = some (x + 31) := (h.2 (808, 31, 3, 4) (List.mem_of_getElem? (i := 30) rfl)).1
theorem rk_hasShelf {x : Nat} {σ : ZS} (h : rA x σ) : zk σ (x + 31) = (3, 4) := (h.2 (808, 31, 3, 4) (List.mem_of_getElem? (i := 30) rfl)).2
theorem ra_shelfKind {x : Nat} {σ : ZS} (h : rA x σ) : zR σ 809 x = some (x + 32) := (h.2 (809, 32, 2, 4) (List.mem_of_getElem? (i := 31) rfl)).1
theorem rk_shelfKind {x : Nat} {σ : ZS} (h : rA x σ) : zk σ (x + 32) = (2, 4) := (h.2 (809, 32, 2, 4) (List.mem_of_getElem? (i := 31) rfl)).2
theorem ra_shelfSize {x : Nat} {σ : ZS} (h : rA x σ) : zR σ 810 x = some (x + 33) := (h.2 (810, 33, 2, 4) (List.mem_of_getElem? (i := 32) rfl)).1
theorem rk_shelfSize {x : Nat} {σ : ZS} (h : rA x σ) : zk σ (x + 33) = (2, 4) := (h.2 (810, 33, 2, 4) (List.mem_of_getElem? (i := 32) rfl)).2
theorem ra_shelfRow {x : Nat} {σ : ZS} (h : rA x σ) : zR σ 811 x = some (x + 34) := (h.2 (811, 34, 2, 240) (List.mem_of_getElem? (i := 33) rfl)).1
theorem rk_shelfRow {x : Nat} {σ : ZS} (h : rA x σ) : zk σ (x + 34) = (2, 240) := (h.2 (811, 34, 2, 240) (List.mem_of_getElem? (i := 33) rfl)).2
theorem ra_copied {x : Nat} {σ : ZS} (h : rA x σ) : zR σ 812 x = some (x + 35) := (h.2 (812, 35, 2, 60) (List.mem_of_getElem? (i := 34) rfl)).1
theorem rk_copied {x : Nat} {σ : ZS} (h : rA x σ) : zk σ (x + 35) = (2, 60) := (h.2 (812, 35, 2, 60) (List.mem_of_getElem? (i := 34) rfl)).2
theorem ra_failed {x : Nat} {σ : ZS} (h : rA x σ) : zR σ 813 x = some (x + 36) := (h.2 (813, 36, 2, 5) (List.mem_of_getElem? (i := 35) rfl)).1
theorem rk_failed {x : Nat} {σ : ZS} (h : rA x σ) : zk σ (x + 36) = (2, 5) := (h.2 (813, 36, 2, 5) (List.mem_of_getElem? (i := 35) rfl)).2
theorem ra_walkTime {x : Nat} {σ : ZS} (h : rA x σ) : zR σ 817 x = some (x + 37) := (h.2 (817, 37, 4, 150) (List.mem_of_getElem? (i := 36) rfl)).1
theorem rk_walkTime {x : Nat} {σ : ZS} (h : rA x σ) : zk σ (x + 37) = (4, 150) := (h.2 (817, 37, 4, 150) (List.mem_of_getElem? (i := 36) rfl)).2
/-- the reference at x holds the score T -/
def rR (x : Nat) (σ : ZS) (T : TS) : Prop :=
  rA x σ ∧
  zI σ 768 x = nI (g_np T) ∧
  (∀ i, i < 6 → zi σ (x + 1) (i) = nI (g_pk T i)) ∧
  zI σ 770 x = nI (g_nb T) ∧
  (∀ i, i < 24 → zl σ (x + 2) i = lN (g_bt T i)) ∧
  zI σ 772 x = nI (g_ev T) ∧
  zI σ 773 x = nI (g_ct T) ∧
  (∀ i, i < 150 → zi σ (x + 3) (i) = bI (g_th T i)) ∧
  (∀ i, i < 150 → zi σ (x + 4) (i) = nI (g_vo T i)) ∧
  (∀ i, i < 150 → zi σ (x + 5) (i) = nI (g_kd T i)) ∧
  (∀ i, i < 150 → zi σ (x + 6) (i) = nI (g_pn T i)) ∧
  (∀ i j, i < 150 → j < 6 → zi σ (x + 7) (6 * i + j) = g_pi T i j) ∧
  (∀ i, i < 150 → zi σ (x + 8) (i) = nI (g_va T i)) ∧
  (∀ i, i < 150 → zi σ (x + 9) (i) = nI (g_dt T i)) ∧
  (∀ i, i < 150 → zi σ (x + 10) (i) = bI (g_ti T i)) ∧
  (∀ v, v < 18 → zi σ (x + 12) (v) = nI (g_mn T v)) ∧
  (∀ v p, v < 18 → p < 40 → zi σ (x + 11) (40 * v + p) = nI (g_ro T v p)) ∧
  zI σ 784 x = nI (g_te T) ∧
  zI σ 785 x = nI (g_cu T) ∧
  (∀ i, i < 20 → zi σ (x + 13) (i) = bI (g_tt T i)) ∧
  (∀ i, i < 20 → zi σ (x + 14) (i) = nI (g_tv T i)) ∧
  (∀ i, i < 20 → zi σ (x + 15) (i) = nI (g_tf T i)) ∧
  (∀ i, i < 20 → zi σ (x + 16) (i) = nI (g_tl T i)) ∧
  (∀ i, i < 20 → zi σ (x + 17) (i) = nI (g_tn T i)) ∧
  (∀ i, i < 20 → zi σ (x + 18) (i) = nI (g_tm T i)) ∧
  (∀ i, i < 20 → zi σ (x + 19) (i) = nI (g_tu T i)) ∧
  zI σ 793 x = nI (g_le T) ∧
  zI σ 794 x = nI (g_cl T) ∧
  (∀ i, i < 30 → zi σ (x + 20) (i) = bI (g_lt T i)) ∧
  (∀ i, i < 30 → zi σ (x + 21) (i) = nI (g_lk T i)) ∧
  (∀ i, i < 30 → zi σ (x + 22) (i) = nI (g_lf T i)) ∧
  (∀ i, i < 30 → zi σ (x + 23) (i) = oI (g_lo T i)) ∧
  zI σ 799 x = nI (g_wm T) ∧
  (∀ i, i < 150 → zi σ (x + 24) (i) = nI (g_wr T i)) ∧
  zI σ 801 x = nI (g_fo T) ∧
  (∀ i, i < 300 → zi σ (x + 25) (i) = g_fi T i) ∧
  (∀ i, i < 4 → zi σ (x + 26) (i) = bI (g_hr T i)) ∧
  (∀ i, i < 4 → zi σ (x + 27) (i) = nI (g_rk T i)) ∧
  (∀ i, i < 4 → zi σ (x + 28) (i) = nI (g_rs T i)) ∧
  (∀ i j, i < 4 → j < 20 → zi σ (x + 29) (20 * i + j) = oI (g_rr T i j)) ∧
  (∀ i, i < 4 → zi σ (x + 31) (i) = bI (g_hs T i)) ∧
  (∀ i, i < 4 → zi σ (x + 32) (i) = nI (g_sk T i)) ∧
  (∀ i, i < 4 → zi σ (x + 33) (i) = nI (g_ss T i)) ∧
  (∀ i j, i < 4 → j < 60 → zi σ (x + 34) (60 * i + j) = g_sr T i j) ∧
  (∀ i, i < 5 → zi σ (x + 36) (i) = g_fa T i) ∧
  zI σ 814 x = g_su T ∧
  zL σ 815 x = g_tr T
theorem rf_sh {x : Nat} {σ : ZS} {T : TS} (h : rR x σ T) : rA x σ := h.1
theorem rf_parts {x : Nat} {σ : ZS} {T : TS} (h : rR x σ T) : zI σ 768 x = nI (g_np T) := h.2.1
theorem rf_partKind {x : Nat} {σ : ZS} {T : TS} (h : rR x σ T) : ∀ i, i < 6 → zi σ (x + 1) (i) = nI (g_pk T i) := h.2.2.1
theorem rf_bars {x : Nat} {σ : ZS} {T : TS} (h : rR x σ T) : zI σ 770 x = nI (g_nb T) := h.2.2.2.1
theorem rf_barTime {x : Nat} {σ : ZS} {T : TS} (h : rR x σ T) : ∀ i, i < 24 → zl σ (x + 2) i = lN (g_bt T i) := h.2.2.2.2.1
theorem rf_ever {x : Nat} {σ : ZS} {T : TS} (h : rR x σ T) : zI σ 772 x = nI (g_ev T) := h.2.2.2.2.2.1
theorem rf_there {x : Nat} {σ : ZS} {T : TS} (h : rR x σ T) : zI σ 773 x = nI (g_ct T) := h.2.2.2.2.2.2.1
theorem rf_isThere {x : Nat} {σ : ZS} {T : TS} (h : rR x σ T) : ∀ i, i < 150 → zi σ (x + 3) (i) = bI (g_th T i) := h.2.2.2.2.2.2.2.1
theorem rf_voiceOf {x : Nat} {σ : ZS} {T : TS} (h : rR x σ T) : ∀ i, i < 150 → zi σ (x + 4) (i) = nI (g_vo T i) := h.2.2.2.2.2.2.2.2.1
theorem rf_kindOf {x : Nat} {σ : ZS} {T : TS} (h : rR x σ T) : ∀ i, i < 150 → zi σ (x + 5) (i) = nI (g_kd T i) := h.2.2.2.2.2.2.2.2.2.1
theorem rf_pitches {x : Nat} {σ : ZS} {T : TS} (h : rR x σ T) : ∀ i, i < 150 → zi σ (x + 6) (i) = nI (g_pn T i) := h.2.2.2.2.2.2.2.2.2.2.1
theorem rf_pitchOf {x : Nat} {σ : ZS} {T : TS} (h : rR x σ T) : ∀ i j, i < 150 → j < 6 → zi σ (x + 7) (6 * i + j) = g_pi T i j := h.2.2.2.2.2.2.2.2.2.2.2.1
theorem rf_valueOf {x : Nat} {σ : ZS} {T : TS} (h : rR x σ T) : ∀ i, i < 150 → zi σ (x + 8) (i) = nI (g_va T i) := h.2.2.2.2.2.2.2.2.2.2.2.2.1
theorem rf_dotsOf {x : Nat} {σ : ZS} {T : TS} (h : rR x σ T) : ∀ i, i < 150 → zi σ (x + 9) (i) = nI (g_dt T i) := h.2.2.2.2.2.2.2.2.2.2.2.2.2.1
theorem rf_isTied {x : Nat} {σ : ZS} {T : TS} (h : rR x σ T) : ∀ i, i < 150 → zi σ (x + 10) (i) = bI (g_ti T i) := h.2.2.2.2.2.2.2.2.2.2.2.2.2.2.1
theorem rf_many {x : Nat} {σ : ZS} {T : TS} (h : rR x σ T) : ∀ v, v < 18 → zi σ (x + 12) (v) = nI (g_mn T v) := h.2.2.2.2.2.2.2.2.2.2.2.2.2.2.2.1
theorem rf_row {x : Nat} {σ : ZS} {T : TS} (h : rR x σ T) : ∀ v p, v < 18 → p < 40 → zi σ (x + 11) (40 * v + p) = nI (g_ro T v p) := h.2.2.2.2.2.2.2.2.2.2.2.2.2.2.2.2.1
theorem rf_tupletsEver {x : Nat} {σ : ZS} {T : TS} (h : rR x σ T) : zI σ 784 x = nI (g_te T) := h.2.2.2.2.2.2.2.2.2.2.2.2.2.2.2.2.2.1
theorem rf_tupletsThere {x : Nat} {σ : ZS} {T : TS} (h : rR x σ T) : zI σ 785 x = nI (g_cu T) := h.2.2.2.2.2.2.2.2.2.2.2.2.2.2.2.2.2.2.1
theorem rf_isTuplet {x : Nat} {σ : ZS} {T : TS} (h : rR x σ T) : ∀ i, i < 20 → zi σ (x + 13) (i) = bI (g_tt T i) := h.2.2.2.2.2.2.2.2.2.2.2.2.2.2.2.2.2.2.2.1
theorem rf_tupletVoice {x : Nat} {σ : ZS} {T : TS} (h : rR x σ T) : ∀ i, i < 20 → zi σ (x + 14) (i) = nI (g_tv T i) := h.2.2.2.2.2.2.2.2.2.2.2.2.2.2.2.2.2.2.2.2.1
theorem rf_tupletFirst {x : Nat} {σ : ZS} {T : TS} (h : rR x σ T) : ∀ i, i < 20 → zi σ (x + 15) (i) = nI (g_tf T i) := h.2.2.2.2.2.2.2.2.2.2.2.2.2.2.2.2.2.2.2.2.2.1
theorem rf_tupletLast {x : Nat} {σ : ZS} {T : TS} (h : rR x σ T) : ∀ i, i < 20 → zi σ (x + 16) (i) = nI (g_tl T i) := h.2.2.2.2.2.2.2.2.2.2.2.2.2.2.2.2.2.2.2.2.2.2.1
theorem rf_tupletN {x : Nat} {σ : ZS} {T : TS} (h : rR x σ T) : ∀ i, i < 20 → zi σ (x + 17) (i) = nI (g_tn T i) := h.2.2.2.2.2.2.2.2.2.2.2.2.2.2.2.2.2.2.2.2.2.2.2.1
theorem rf_tupletM {x : Nat} {σ : ZS} {T : TS} (h : rR x σ T) : ∀ i, i < 20 → zi σ (x + 18) (i) = nI (g_tm T i) := h.2.2.2.2.2.2.2.2.2.2.2.2.2.2.2.2.2.2.2.2.2.2.2.2.1
theorem rf_tupletUnit {x : Nat} {σ : ZS} {T : TS} (h : rR x σ T) : ∀ i, i < 20 → zi σ (x + 19) (i) = nI (g_tu T i) := h.2.2.2.2.2.2.2.2.2.2.2.2.2.2.2.2.2.2.2.2.2.2.2.2.2.1
theorem rf_linesEver {x : Nat} {σ : ZS} {T : TS} (h : rR x σ T) : zI σ 793 x = nI (g_le T) := h.2.2.2.2.2.2.2.2.2.2.2.2.2.2.2.2.2.2.2.2.2.2.2.2.2.2.1
theorem rf_linesThere {x : Nat} {σ : ZS} {T : TS} (h : rR x σ T) : zI σ 794 x = nI (g_cl T) := h.2.2.2.2.2.2.2.2.2.2.2.2.2.2.2.2.2.2.2.2.2.2.2.2.2.2.2.1
theorem rf_isLine {x : Nat} {σ : ZS} {T : TS} (h : rR x σ T) : ∀ i, i < 30 → zi σ (x + 20) (i) = bI (g_lt T i) := h.2.2.2.2.2.2.2.2.2.2.2.2.2.2.2.2.2.2.2.2.2.2.2.2.2.2.2.2.1
theorem rf_lineKind {x : Nat} {σ : ZS} {T : TS} (h : rR x σ T) : ∀ i, i < 30 → zi σ (x + 21) (i) = nI (g_lk T i) := h.2.2.2.2.2.2.2.2.2.2.2.2.2.2.2.2.2.2.2.2.2.2.2.2.2.2.2.2.2.1
theorem rf_lineFrom {x : Nat} {σ : ZS} {T : TS} (h : rR x σ T) : ∀ i, i < 30 → zi σ (x + 22) (i) = nI (g_lf T i) := h.2.2.2.2.2.2.2.2.2.2.2.2.2.2.2.2.2.2.2.2.2.2.2.2.2.2.2.2.2.2.1
theorem rf_lineTo {x : Nat} {σ : ZS} {T : TS} (h : rR x σ T) : ∀ i, i < 30 → zi σ (x + 23) (i) = oI (g_lo T i) := h.2.2.2.2.2.2.2.2.2.2.2.2.2.2.2.2.2.2.2.2.2.2.2.2.2.2.2.2.2.2.2.1
theorem rf_walkMany {x : Nat} {σ : ZS} {T : TS} (h : rR x σ T) : zI σ 799 x = nI (g_wm T) := h.2.2.2.2.2.2.2.2.2.2.2.2.2.2.2.2.2.2.2.2.2.2.2.2.2.2.2.2.2.2.2.2.1
theorem rf_walkRow {x : Nat} {σ : ZS} {T : TS} (h : rR x σ T) : ∀ i, i < 150 → zi σ (x + 24) (i) = nI (g_wr T i) := h.2.2.2.2.2.2.2.2.2.2.2.2.2.2.2.2.2.2.2.2.2.2.2.2.2.2.2.2.2.2.2.2.2.1
theorem rf_found {x : Nat} {σ : ZS} {T : TS} (h : rR x σ T) : zI σ 801 x = nI (g_fo T) := h.2.2.2.2.2.2.2.2.2.2.2.2.2.2.2.2.2.2.2.2.2.2.2.2.2.2.2.2.2.2.2.2.2.2.1
theorem rf_findings {x : Nat} {σ : ZS} {T : TS} (h : rR x σ T) : ∀ i, i < 300 → zi σ (x + 25) (i) = g_fi T i := h.2.2.2.2.2.2.2.2.2.2.2.2.2.2.2.2.2.2.2.2.2.2.2.2.2.2.2.2.2.2.2.2.2.2.2.1
theorem rf_hasRack {x : Nat} {σ : ZS} {T : TS} (h : rR x σ T) : ∀ i, i < 4 → zi σ (x + 26) (i) = bI (g_hr T i) := h.2.2.2.2.2.2.2.2.2.2.2.2.2.2.2.2.2.2.2.2.2.2.2.2.2.2.2.2.2.2.2.2.2.2.2.2.1
theorem rf_rackKind {x : Nat} {σ : ZS} {T : TS} (h : rR x σ T) : ∀ i, i < 4 → zi σ (x + 27) (i) = nI (g_rk T i) := h.2.2.2.2.2.2.2.2.2.2.2.2.2.2.2.2.2.2.2.2.2.2.2.2.2.2.2.2.2.2.2.2.2.2.2.2.2.1
theorem rf_rackSize {x : Nat} {σ : ZS} {T : TS} (h : rR x σ T) : ∀ i, i < 4 → zi σ (x + 28) (i) = nI (g_rs T i) := h.2.2.2.2.2.2.2.2.2.2.2.2.2.2.2.2.2.2.2.2.2.2.2.2.2.2.2.2.2.2.2.2.2.2.2.2.2.2.1
theorem rf_rackRow {x : Nat} {σ : ZS} {T : TS} (h : rR x σ T) : ∀ i j, i < 4 → j < 20 → zi σ (x + 29) (20 * i + j) = oI (g_rr T i j) := h.2.2.2.2.2.2.2.2.2.2.2.2.2.2.2.2.2.2.2.2.2.2.2.2.2.2.2.2.2.2.2.2.2.2.2.2.2.2.2.1
theorem rf_hasShelf {x : Nat} {σ : ZS} {T : TS} (h : rR x σ T) : ∀ i, i < 4 → zi σ (x + 31) (i) = bI (g_hs T i) := h.2.2.2.2.2.2.2.2.2.2.2.2.2.2.2.2.2.2.2.2.2.2.2.2.2.2.2.2.2.2.2.2.2.2.2.2.2.2.2.2.1
theorem rf_shelfKind {x : Nat} {σ : ZS} {T : TS} (h : rR x σ T) : ∀ i, i < 4 → zi σ (x + 32) (i) = nI (g_sk T i) := h.2.2.2.2.2.2.2.2.2.2.2.2.2.2.2.2.2.2.2.2.2.2.2.2.2.2.2.2.2.2.2.2.2.2.2.2.2.2.2.2.2.1
theorem rf_shelfSize {x : Nat} {σ : ZS} {T : TS} (h : rR x σ T) : ∀ i, i < 4 → zi σ (x + 33) (i) = nI (g_ss T i) := h.2.2.2.2.2.2.2.2.2.2.2.2.2.2.2.2.2.2.2.2.2.2.2.2.2.2.2.2.2.2.2.2.2.2.2.2.2.2.2.2.2.2.1
theorem rf_shelfRow {x : Nat} {σ : ZS} {T : TS} (h : rR x σ T) : ∀ i j, i < 4 → j < 60 → zi σ (x + 34) (60 * i + j) = g_sr T i j := h.2.2.2.2.2.2.2.2.2.2.2.2.2.2.2.2.2.2.2.2.2.2.2.2.2.2.2.2.2.2.2.2.2.2.2.2.2.2.2.2.2.2.2.1
theorem rf_failed {x : Nat} {σ : ZS} {T : TS} (h : rR x σ T) : ∀ i, i < 5 → zi σ (x + 36) (i) = g_fa T i := h.2.2.2.2.2.2.2.2.2.2.2.2.2.2.2.2.2.2.2.2.2.2.2.2.2.2.2.2.2.2.2.2.2.2.2.2.2.2.2.2.2.2.2.2.1
theorem rf_status {x : Nat} {σ : ZS} {T : TS} (h : rR x σ T) : zI σ 814 x = g_su T := h.2.2.2.2.2.2.2.2.2.2.2.2.2.2.2.2.2.2.2.2.2.2.2.2.2.2.2.2.2.2.2.2.2.2.2.2.2.2.2.2.2.2.2.2.2.1
theorem rf_trace {x : Nat} {σ : ZS} {T : TS} (h : rR x σ T) : zL σ 815 x = g_tr T := h.2.2.2.2.2.2.2.2.2.2.2.2.2.2.2.2.2.2.2.2.2.2.2.2.2.2.2.2.2.2.2.2.2.2.2.2.2.2.2.2.2.2.2.2.2.2
