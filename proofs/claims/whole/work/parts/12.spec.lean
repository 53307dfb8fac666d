abbrev TS : Type := (Nat → Nat) × (Nat → Nat → Nat) × (Nat → Nat → Bool) × (Nat → Nat → Nat → Nat) × (Nat → Nat → Option Nat) × (Nat → Nat → Nat → Option Nat) × (Nat → Nat → Int32) × (Nat → Nat → Nat → Int32) × (Int32) × (Int64)
def g_ct (T : TS) : Nat := T.1 0
def h_ct (T : TS) (v : Nat) : TS := (va_up T.1 0 v, T.2)
theorem hh_ct (T : TS) (v w : Nat) : h_ct (h_ct T v) w = h_ct T w := by unfold h_ct; simp only [bx_uu]
def g_cu (T : TS) : Nat := T.1 1
def h_cu (T : TS) (v : Nat) : TS := (va_up T.1 1 v, T.2)
theorem hh_cu (T : TS) (v w : Nat) : h_cu (h_cu T v) w = h_cu T w := by unfold h_cu; simp only [bx_uu]
def g_cl (T : TS) : Nat := T.1 2
def h_cl (T : TS) (v : Nat) : TS := (va_up T.1 2 v, T.2)
theorem hh_cl (T : TS) (v w : Nat) : h_cl (h_cl T v) w = h_cl T w := by unfold h_cl; simp only [bx_uu]
def g_np (T : TS) : Nat := T.1 3
def h_np (T : TS) (v : Nat) : TS := (va_up T.1 3 v, T.2)
theorem hh_np (T : TS) (v w : Nat) : h_np (h_np T v) w = h_np T w := by unfold h_np; simp only [bx_uu]
def g_pk (T : TS) : Nat → Nat := T.2.1 0
def h_pk (T : TS) (v : Nat → Nat) : TS := (T.1, va_up T.2.1 0 v, T.2.2)
theorem hh_pk (T : TS) (v w : Nat → Nat) : h_pk (h_pk T v) w = h_pk T w := by unfold h_pk; simp only [bx_uu]
def g_nb (T : TS) : Nat := T.1 4
def h_nb (T : TS) (v : Nat) : TS := (va_up T.1 4 v, T.2)
theorem hh_nb (T : TS) (v w : Nat) : h_nb (h_nb T v) w = h_nb T w := by unfold h_nb; simp only [bx_uu]
def g_bt (T : TS) : Nat → Nat := T.2.1 1
def h_bt (T : TS) (v : Nat → Nat) : TS := (T.1, va_up T.2.1 1 v, T.2.2)
theorem hh_bt (T : TS) (v w : Nat → Nat) : h_bt (h_bt T v) w = h_bt T w := by unfold h_bt; simp only [bx_uu]
def g_ev (T : TS) : Nat := T.1 5
def h_ev (T : TS) (v : Nat) : TS := (va_up T.1 5 v, T.2)
theorem hh_ev (T : TS) (v w : Nat) : h_ev (h_ev T v) w = h_ev T w := by unfold h_ev; simp only [bx_uu]
def g_th (T : TS) : Nat → Bool := T.2.2.1 0
def h_th (T : TS) (v : Nat → Bool) : TS := (T.1, T.2.1, va_up T.2.2.1 0 v, T.2.2.2)
theorem hh_th (T : TS) (v w : Nat → Bool) : h_th (h_th T v) w = h_th T w := by unfold h_th; simp only [bx_uu]
def g_vo (T : TS) : Nat → Nat := T.2.1 2
def h_vo (T : TS) (v : Nat → Nat) : TS := (T.1, va_up T.2.1 2 v, T.2.2)
theorem hh_vo (T : TS) (v w : Nat → Nat) : h_vo (h_vo T v) w = h_vo T w := by unfold h_vo; simp only [bx_uu]
def g_kd (T : TS) : Nat → Nat := T.2.1 3
def h_kd (T : TS) (v : Nat → Nat) : TS := (T.1, va_up T.2.1 3 v, T.2.2)
theorem hh_kd (T : TS) (v w : Nat → Nat) : h_kd (h_kd T v) w = h_kd T w := by unfold h_kd; simp only [bx_uu]
def g_pn (T : TS) : Nat → Nat := T.2.1 4
def h_pn (T : TS) (v : Nat → Nat) : TS := (T.1, va_up T.2.1 4 v, T.2.2)
theorem hh_pn (T : TS) (v w : Nat → Nat) : h_pn (h_pn T v) w = h_pn T w := by unfold h_pn; simp only [bx_uu]
def g_pi (T : TS) : Nat → Nat → Int32 := T.2.2.2.2.2.2.2.1 0
def h_pi (T : TS) (v : Nat → Nat → Int32) : TS := (T.1, T.2.1, T.2.2.1, T.2.2.2.1, T.2.2.2.2.1, T.2.2.2.2.2.1, T.2.2.2.2.2.2.1, va_up T.2.2.2.2.2.2.2.1 0 v, T.2.2.2.2.2.2.2.2)
theorem hh_pi (T : TS) (v w : Nat → Nat → Int32) : h_pi (h_pi T v) w = h_pi T w := by unfold h_pi; simp only [bx_uu]
def g_va (T : TS) : Nat → Nat := T.2.1 5
def h_va (T : TS) (v : Nat → Nat) : TS := (T.1, va_up T.2.1 5 v, T.2.2)
theorem hh_va (T : TS) (v w : Nat → Nat) : h_va (h_va T v) w = h_va T w := by unfold h_va; simp only [bx_uu]
def g_dt (T : TS) : Nat → Nat := T.2.1 6
def h_dt (T : TS) (v : Nat → Nat) : TS := (T.1, va_up T.2.1 6 v, T.2.2)
theorem hh_dt (T : TS) (v w : Nat → Nat) : h_dt (h_dt T v) w = h_dt T w := by unfold h_dt; simp only [bx_uu]
def g_ti (T : TS) : Nat → Bool := T.2.2.1 1
def h_ti (T : TS) (v : Nat → Bool) : TS := (T.1, T.2.1, va_up T.2.2.1 1 v, T.2.2.2)
theorem hh_ti (T : TS) (v w : Nat → Bool) : h_ti (h_ti T v) w = h_ti T w := by unfold h_ti; simp only [bx_uu]
def g_pl (T : TS) : Nat → Nat := T.2.1 7
def h_pl (T : TS) (v : Nat → Nat) : TS := (T.1, va_up T.2.1 7 v, T.2.2)
theorem hh_pl (T : TS) (v w : Nat → Nat) : h_pl (h_pl T v) w = h_pl T w := by unfold h_pl; simp only [bx_uu]
def g_mn (T : TS) : Nat → Nat := T.2.1 8
def h_mn (T : TS) (v : Nat → Nat) : TS := (T.1, va_up T.2.1 8 v, T.2.2)
theorem hh_mn (T : TS) (v w : Nat → Nat) : h_mn (h_mn T v) w = h_mn T w := by unfold h_mn; simp only [bx_uu]
def g_ro (T : TS) : Nat → Nat → Nat := T.2.2.2.1 0
def h_ro (T : TS) (v : Nat → Nat → Nat) : TS := (T.1, T.2.1, T.2.2.1, va_up T.2.2.2.1 0 v, T.2.2.2.2)
theorem hh_ro (T : TS) (v w : Nat → Nat → Nat) : h_ro (h_ro T v) w = h_ro T w := by unfold h_ro; simp only [bx_uu]
def g_te (T : TS) : Nat := T.1 6
def h_te (T : TS) (v : Nat) : TS := (va_up T.1 6 v, T.2)
theorem hh_te (T : TS) (v w : Nat) : h_te (h_te T v) w = h_te T w := by unfold h_te; simp only [bx_uu]
def g_tt (T : TS) : Nat → Bool := T.2.2.1 2
def h_tt (T : TS) (v : Nat → Bool) : TS := (T.1, T.2.1, va_up T.2.2.1 2 v, T.2.2.2)
theorem hh_tt (T : TS) (v w : Nat → Bool) : h_tt (h_tt T v) w = h_tt T w := by unfold h_tt; simp only [bx_uu]
def g_tv (T : TS) : Nat → Nat := T.2.1 9
def h_tv (T : TS) (v : Nat → Nat) : TS := (T.1, va_up T.2.1 9 v, T.2.2)
theorem hh_tv (T : TS) (v w : Nat → Nat) : h_tv (h_tv T v) w = h_tv T w := by unfold h_tv; simp only [bx_uu]
def g_tf (T : TS) : Nat → Nat := T.2.1 10
def h_tf (T : TS) (v : Nat → Nat) : TS := (T.1, va_up T.2.1 10 v, T.2.2)
theorem hh_tf (T : TS) (v w : Nat → Nat) : h_tf (h_tf T v) w = h_tf T w := by unfold h_tf; simp only [bx_uu]
def g_tl (T : TS) : Nat → Nat := T.2.1 11
def h_tl (T : TS) (v : Nat → Nat) : TS := (T.1, va_up T.2.1 11 v, T.2.2)
theorem hh_tl (T : TS) (v w : Nat → Nat) : h_tl (h_tl T v) w = h_tl T w := by unfold h_tl; simp only [bx_uu]
def g_tn (T : TS) : Nat → Nat := T.2.1 12
def h_tn (T : TS) (v : Nat → Nat) : TS := (T.1, va_up T.2.1 12 v, T.2.2)
theorem hh_tn (T : TS) (v w : Nat → Nat) : h_tn (h_tn T v) w = h_tn T w := by unfold h_tn; simp only [bx_uu]
def g_tm (T : TS) : Nat → Nat := T.2.1 13
def h_tm (T : TS) (v : Nat → Nat) : TS := (T.1, va_up T.2.1 13 v, T.2.2)
theorem hh_tm (T : TS) (v w : Nat → Nat) : h_tm (h_tm T v) w = h_tm T w := by unfold h_tm; simp only [bx_uu]
def g_tu (T : TS) : Nat → Nat := T.2.1 14
def h_tu (T : TS) (v : Nat → Nat) : TS := (T.1, va_up T.2.1 14 v, T.2.2)
theorem hh_tu (T : TS) (v w : Nat → Nat) : h_tu (h_tu T v) w = h_tu T w := by unfold h_tu; simp only [bx_uu]
def g_le (T : TS) : Nat := T.1 7
def h_le (T : TS) (v : Nat) : TS := (va_up T.1 7 v, T.2)
theorem hh_le (T : TS) (v w : Nat) : h_le (h_le T v) w = h_le T w := by unfold h_le; simp only [bx_uu]
def g_lt (T : TS) : Nat → Bool := T.2.2.1 3
def h_lt (T : TS) (v : Nat → Bool) : TS := (T.1, T.2.1, va_up T.2.2.1 3 v, T.2.2.2)
theorem hh_lt (T : TS) (v w : Nat → Bool) : h_lt (h_lt T v) w = h_lt T w := by unfold h_lt; simp only [bx_uu]
def g_lk (T : TS) : Nat → Nat := T.2.1 15
def h_lk (T : TS) (v : Nat → Nat) : TS := (T.1, va_up T.2.1 15 v, T.2.2)
theorem hh_lk (T : TS) (v w : Nat → Nat) : h_lk (h_lk T v) w = h_lk T w := by unfold h_lk; simp only [bx_uu]
def g_lf (T : TS) : Nat → Nat := T.2.1 16
def h_lf (T : TS) (v : Nat → Nat) : TS := (T.1, va_up T.2.1 16 v, T.2.2)
theorem hh_lf (T : TS) (v w : Nat → Nat) : h_lf (h_lf T v) w = h_lf T w := by unfold h_lf; simp only [bx_uu]
def g_lo (T : TS) : Nat → Option Nat := T.2.2.2.2.1 0
def h_lo (T : TS) (v : Nat → Option Nat) : TS := (T.1, T.2.1, T.2.2.1, T.2.2.2.1, va_up T.2.2.2.2.1 0 v, T.2.2.2.2.2)
theorem hh_lo (T : TS) (v w : Nat → Option Nat) : h_lo (h_lo T v) w = h_lo T w := by unfold h_lo; simp only [bx_uu]
def g_wm (T : TS) : Nat := T.1 8
def h_wm (T : TS) (v : Nat) : TS := (va_up T.1 8 v, T.2)
theorem hh_wm (T : TS) (v w : Nat) : h_wm (h_wm T v) w = h_wm T w := by unfold h_wm; simp only [bx_uu]
def g_wr (T : TS) : Nat → Nat := T.2.1 17
def h_wr (T : TS) (v : Nat → Nat) : TS := (T.1, va_up T.2.1 17 v, T.2.2)
theorem hh_wr (T : TS) (v w : Nat → Nat) : h_wr (h_wr T v) w = h_wr T w := by unfold h_wr; simp only [bx_uu]
def g_fo (T : TS) : Nat := T.1 9
def h_fo (T : TS) (v : Nat) : TS := (va_up T.1 9 v, T.2)
theorem hh_fo (T : TS) (v w : Nat) : h_fo (h_fo T v) w = h_fo T w := by unfold h_fo; simp only [bx_uu]
def g_fi (T : TS) : Nat → Int32 := T.2.2.2.2.2.2.1 0
def h_fi (T : TS) (v : Nat → Int32) : TS := (T.1, T.2.1, T.2.2.1, T.2.2.2.1, T.2.2.2.2.1, T.2.2.2.2.2.1, va_up T.2.2.2.2.2.2.1 0 v, T.2.2.2.2.2.2.2)
theorem hh_fi (T : TS) (v w : Nat → Int32) : h_fi (h_fi T v) w = h_fi T w := by unfold h_fi; simp only [bx_uu]
def g_hr (T : TS) : Nat → Bool := T.2.2.1 4
def h_hr (T : TS) (v : Nat → Bool) : TS := (T.1, T.2.1, va_up T.2.2.1 4 v, T.2.2.2)
theorem hh_hr (T : TS) (v w : Nat → Bool) : h_hr (h_hr T v) w = h_hr T w := by unfold h_hr; simp only [bx_uu]
def g_rk (T : TS) : Nat → Nat := T.2.1 18
def h_rk (T : TS) (v : Nat → Nat) : TS := (T.1, va_up T.2.1 18 v, T.2.2)
theorem hh_rk (T : TS) (v w : Nat → Nat) : h_rk (h_rk T v) w = h_rk T w := by unfold h_rk; simp only [bx_uu]
def g_rs (T : TS) : Nat → Nat := T.2.1 19
def h_rs (T : TS) (v : Nat → Nat) : TS := (T.1, va_up T.2.1 19 v, T.2.2)
theorem hh_rs (T : TS) (v w : Nat → Nat) : h_rs (h_rs T v) w = h_rs T w := by unfold h_rs; simp only [bx_uu]
def g_rr (T : TS) : Nat → Nat → Option Nat := T.2.2.2.2.2.1 0
def h_rr (T : TS) (v : Nat → Nat → Option Nat) : TS := (T.1, T.2.1, T.2.2.1, T.2.2.2.1, T.2.2.2.2.1, va_up T.2.2.2.2.2.1 0 v, T.2.2.2.2.2.2)
theorem hh_rr (T : TS) (v w : Nat → Nat → Option Nat) : h_rr (h_rr T v) w = h_rr T w := by unfold h_rr; simp only [bx_uu]
def g_hs (T : TS) : Nat → Bool := T.2.2.1 5
def h_hs (T : TS) (v : Nat → Bool) : TS := (T.1, T.2.1, va_up T.2.2.1 5 v, T.2.2.2)
theorem hh_hs (T : TS) (v w : Nat → Bool) : h_hs (h_hs T v) w = h_hs T w := by unfold h_hs; simp only [bx_uu]
def g_sk (T : TS) : Nat → Nat := T.2.1 20
def h_sk (T : TS) (v : Nat → Nat) : TS := (T.1, va_up T.2.1 20 v, T.2.2)
theorem hh_sk (T : TS) (v w : Nat → Nat) : h_sk (h_sk T v) w = h_sk T w := by unfold h_sk; simp only [bx_uu]
def g_ss (T : TS) : Nat → Nat := T.2.1 21
def h_ss (T : TS) (v : Nat → Nat) : TS := (T.1, va_up T.2.1 21 v, T.2.2)
theorem hh_ss (T : TS) (v w : Nat → Nat) : h_ss (h_ss T v) w = h_ss T w := by unfold h_ss; simp only [bx_uu]
def g_sr (T : TS) : Nat → Nat → Int32 := T.2.2.2.2.2.2.2.1 1
def h_sr (T : TS) (v : Nat → Nat → Int32) : TS := (T.1, T.2.1, T.2.2.1, T.2.2.2.1, T.2.2.2.2.1, T.2.2.2.2.2.1, T.2.2.2.2.2.2.1, va_up T.2.2.2.2.2.2.2.1 1 v, T.2.2.2.2.2.2.2.2)
theorem hh_sr (T : TS) (v w : Nat → Nat → Int32) : h_sr (h_sr T v) w = h_sr T w := by unfold h_sr; simp only [bx_uu]
def g_fa (T : TS) : Nat → Int32 := T.2.2.2.2.2.2.1 1
def h_fa (T : TS) (v : Nat → Int32) : TS := (T.1, T.2.1, T.2.2.1, T.2.2.2.1, T.2.2.2.2.1, T.2.2.2.2.2.1, va_up T.2.2.2.2.2.2.1 1 v, T.2.2.2.2.2.2.2)
theorem hh_fa (T : TS) (v w : Nat → Int32) : h_fa (h_fa T v) w = h_fa T w := by unfold h_fa; simp only [bx_uu]
def g_su (T : TS) : Int32 := T.2.2.2.2.2.2.2.2.1
def h_su (T : TS) (v : Int32) : TS := (T.1, T.2.1, T.2.2.1, T.2.2.2.1, T.2.2.2.2.1, T.2.2.2.2.2.1, T.2.2.2.2.2.2.1, T.2.2.2.2.2.2.2.1, v, T.2.2.2.2.2.2.2.2.2)
theorem hh_su (T : TS) (v w : Int32) : h_su (h_su T v) w = h_su T w := by rfl
def g_tr (T : TS) : Int64 := T.2.2.2.2.2.2.2.2.2
def h_tr (T : TS) (v : Int64) : TS := (T.1, T.2.1, T.2.2.1, T.2.2.2.1, T.2.2.2.2.1, T.2.2.2.2.2.1, T.2.2.2.2.2.2.1, T.2.2.2.2.2.2.2.1, T.2.2.2.2.2.2.2.2.1, v)
theorem hh_tr (T : TS) (v w : Int64) : h_tr (h_tr T v) w = h_tr T w := by rfl
theorem gh_ct_cu (T : TS) (v : Nat) : g_ct (h_cu T v) = g_ct T := rfl
theorem gh_ct_cl (T : TS) (v : Nat) : g_ct (h_cl T v) = g_ct T := rfl
theorem gh_ct_np (T : TS) (v : Nat) : g_ct (h_np T v) = g_ct T := rfl
theorem gh_ct_pk (T : TS) (v : Nat → Nat) : g_ct (h_pk T v) = g_ct T := rfl
theorem gh_ct_nb (T : TS) (v : Nat) : g_ct (h_nb T v) = g_ct T := rfl
theorem gh_ct_bt (T : TS) (v : Nat → Nat) : g_ct (h_bt T v) = g_ct T := rfl
theorem gh_ct_ev (T : TS) (v : Nat) : g_ct (h_ev T v) = g_ct T := rfl
theorem gh_ct_th (T : TS) (v : Nat → Bool) : g_ct (h_th T v) = g_ct T := rfl
theorem gh_ct_vo (T : TS) (v : Nat → Nat) : g_ct (h_vo T v) = g_ct T := rfl
theorem gh_ct_kd (T : TS) (v : Nat → Nat) : g_ct (h_kd T v) = g_ct T := rfl
theorem gh_ct_pn (T : TS) (v : Nat → Nat) : g_ct (h_pn T v) = g_ct T := rfl
theorem gh_ct_pi (T : TS) (v : Nat → Nat → Int32) : g_ct (h_pi T v) = g_ct T := rfl
theorem gh_ct_va (T : TS) (v : Nat → Nat) : g_ct (h_va T v) = g_ct T := rfl
theorem gh_ct_dt (T : TS) (v : Nat → Nat) : g_ct (h_dt T v) = g_ct T := rfl
theorem gh_ct_ti (T : TS) (v : Nat → Bool) : g_ct (h_ti T v) = g_ct T := rfl
theorem gh_ct_pl (T : TS) (v : Nat → Nat) : g_ct (h_pl T v) = g_ct T := rfl
theorem gh_ct_mn (T : TS) (v : Nat → Nat) : g_ct (h_mn T v) = g_ct T := rfl
theorem gh_ct_ro (T : TS) (v : Nat → Nat → Nat) : g_ct (h_ro T v) = g_ct T := rfl
theorem gh_ct_te (T : TS) (v : Nat) : g_ct (h_te T v) = g_ct T := rfl
theorem gh_ct_tt (T : TS) (v : Nat → Bool) : g_ct (h_tt T v) = g_ct T := rfl
theorem gh_ct_tv (T : TS) (v : Nat → Nat) : g_ct (h_tv T v) = g_ct T := rfl
theorem gh_ct_tf (T : TS) (v : Nat → Nat) : g_ct (h_tf T v) = g_ct T := rfl
theorem gh_ct_tl (T : TS) (v : Nat → Nat) : g_ct (h_tl T v) = g_ct T := rfl
theorem gh_ct_tn (T : TS) (v : Nat → Nat) : g_ct (h_tn T v) = g_ct T := rfl
theorem gh_ct_tm (T : TS) (v : Nat → Nat) : g_ct (h_tm T v) = g_ct T := rfl
theorem gh_ct_tu (T : TS) (v : Nat → Nat) : g_ct (h_tu T v) = g_ct T := rfl
theorem gh_ct_le (T : TS) (v : Nat) : g_ct (h_le T v) = g_ct T := rfl
theorem gh_ct_lt (T : TS) (v : Nat → Bool) : g_ct (h_lt T v) = g_ct T := rfl
theorem gh_ct_lk (T : TS) (v : Nat → Nat) : g_ct (h_lk T v) = g_ct T := rfl
theorem gh_ct_lf (T : TS) (v : Nat → Nat) : g_ct (h_lf T v) = g_ct T := rfl
theorem gh_ct_lo (T : TS) (v : Nat → Option Nat) : g_ct (h_lo T v) = g_ct T := rfl
theorem gh_ct_wm (T : TS) (v : Nat) : g_ct (h_wm T v) = g_ct T := rfl
theorem gh_ct_wr (T : TS) (v : Nat → Nat) : g_ct (h_wr T v) = g_ct T := rfl
theorem gh_ct_fo (T : TS) (v : Nat) : g_ct (h_fo T v) = g_ct T := rfl
theorem gh_ct_fi (T : TS) (v : Nat → Int32) : g_ct (h_fi T v) = g_ct T := rfl
theorem gh_ct_hr (T : TS) (v : Nat → Bool) : g_ct (h_hr T v) = g_ct T := rfl
theorem gh_ct_rk (T : TS) (v : Nat → Nat) : g_ct (h_rk T v) = g_ct T := rfl
theorem gh_ct_rs (T : TS) (v : Nat → Nat) : g_ct (h_rs T v) = g_ct T := rfl
theorem gh_ct_rr (T : TS) (v : Nat → Nat → Option Nat) : g_ct (h_rr T v) = g_ct T := rfl
theorem gh_ct_hs (T : TS) (v : Nat → Bool) : g_ct (h_hs T v) = g_ct T := rfl
theorem gh_ct_sk (T : TS) (v : Nat → Nat) : g_ct (h_sk T v) = g_ct T := rfl
theorem gh_ct_ss (T : TS) (v : Nat → Nat) : g_ct (h_ss T v) = g_ct T := rfl
theorem gh_ct_sr (T : TS) (v : Nat → Nat → Int32) : g_ct (h_sr T v) = g_ct T := rfl
theorem gh_ct_fa (T : TS) (v : Nat → Int32) : g_ct (h_fa T v) = g_ct T := rfl
theorem gh_ct_su (T : TS) (v : Int32) : g_ct (h_su T v) = g_ct T := rfl
theorem gh_ct_tr (T : TS) (v : Int64) : g_ct (h_tr T v) = g_ct T := rfl
theorem gh_ct_ct (T : TS) (v : Nat) : g_ct (h_ct T v) = v := rfl
theorem gh_cu_ct (T : TS) (v : Nat) : g_cu (h_ct T v) = g_cu T := rfl
theorem gh_cu_cl (T : TS) (v : Nat) : g_cu (h_cl T v) = g_cu T := rfl
theorem gh_cu_np (T : TS) (v : Nat) : g_cu (h_np T v) = g_cu T := rfl
theorem gh_cu_pk (T : TS) (v : Nat → Nat) : g_cu (h_pk T v) = g_cu T := rfl
theorem gh_cu_nb (T : TS) (v : Nat) : g_cu (h_nb T v) = g_cu T := rfl
theorem gh_cu_bt (T : TS) (v : Nat → Nat) : g_cu (h_bt T v) = g_cu T := rfl
theorem gh_cu_ev (T : TS) (v : Nat) : g_cu (h_ev T v) = g_cu T := rfl
theorem gh_cu_th (T : TS) (v : Nat → Bool) : g_cu (h_th T v) = g_cu T := rfl
theorem gh_cu_vo (T : TS) (v : Nat → Nat) : g_cu (h_vo T v) = g_cu T := rfl
theorem gh_cu_kd (T : TS) (v : Nat → Nat) : g_cu (h_kd T v) = g_cu T := rfl
theorem gh_cu_pn (T : TS) (v : Nat → Nat) : g_cu (h_pn T v) = g_cu T := rfl
theorem gh_cu_pi (T : TS) (v : Nat → Nat → Int32) : g_cu (h_pi T v) = g_cu T := rfl
theorem gh_cu_va (T : TS) (v : Nat → Nat) : g_cu (h_va T v) = g_cu T := rfl
theorem gh_cu_dt (T : TS) (v : Nat → Nat) : g_cu (h_dt T v) = g_cu T := rfl
theorem gh_cu_ti (T : TS) (v : Nat → Bool) : g_cu (h_ti T v) = g_cu T := rfl
theorem gh_cu_pl (T : TS) (v : Nat → Nat) : g_cu (h_pl T v) = g_cu T := rfl
theorem gh_cu_mn (T : TS) (v : Nat → Nat) : g_cu (h_mn T v) = g_cu T := rfl
theorem gh_cu_ro (T : TS) (v : Nat → Nat → Nat) : g_cu (h_ro T v) = g_cu T := rfl
theorem gh_cu_te (T : TS) (v : Nat) : g_cu (h_te T v) = g_cu T := rfl
theorem gh_cu_tt (T : TS) (v : Nat → Bool) : g_cu (h_tt T v) = g_cu T := rfl
theorem gh_cu_tv (T : TS) (v : Nat → Nat) : g_cu (h_tv T v) = g_cu T := rfl
theorem gh_cu_tf (T : TS) (v : Nat → Nat) : g_cu (h_tf T v) = g_cu T := rfl
theorem gh_cu_tl (T : TS) (v : Nat → Nat) : g_cu (h_tl T v) = g_cu T := rfl
theorem gh_cu_tn (T : TS) (v : Nat → Nat) : g_cu (h_tn T v) = g_cu T := rfl
theorem gh_cu_tm (T : TS) (v : Nat → Nat) : g_cu (h_tm T v) = g_cu T := rfl
theorem gh_cu_tu (T : TS) (v : Nat → Nat) : g_cu (h_tu T v) = g_cu T := rfl
theorem gh_cu_le (T : TS) (v : Nat) : g_cu (h_le T v) = g_cu T := rfl
theorem gh_cu_lt (T : TS) (v : Nat → Bool) : g_cu (h_lt T v) = g_cu T := rfl
theorem gh_cu_lk (T : TS) (v : Nat → Nat) : g_cu (h_lk T v) = g_cu T := rfl
theorem gh_cu_lf (T : TS) (v : Nat → Nat) : g_cu (h_lf T v) = g_cu T := rfl
theorem gh_cu_lo (T : TS) (v : Nat → Option Nat) : g_cu (h_lo T v) = g_cu T := rfl
theorem gh_cu_wm (T : TS) (v : Nat) : g_cu (h_wm T v) = g_cu T := rfl
theorem gh_cu_wr (T : TS) (v : Nat → Nat) : g_cu (h_wr T v) = g_cu T := rfl
theorem gh_cu_fo (T : TS) (v : Nat) : g_cu (h_fo T v) = g_cu T := rfl
theorem gh_cu_fi (T : TS) (v : Nat → Int32) : g_cu (h_fi T v) = g_cu T := rfl
theorem gh_cu_hr (T : TS) (v : Nat → Bool) : g_cu (h_hr T v) = g_cu T := rfl
theorem gh_cu_rk (T : TS) (v : Nat → Nat) : g_cu (h_rk T v) = g_cu T := rfl
theorem gh_cu_rs (T : TS) (v : Nat → Nat) : g_cu (h_rs T v) = g_cu T := rfl
theorem gh_cu_rr (T : TS) (v : Nat → Nat → Option Nat) : g_cu (h_rr T v) = g_cu T := rfl
theorem gh_cu_hs (T : TS) (v : Nat → Bool) : g_cu (h_hs T v) = g_cu T := rfl
theorem gh_cu_sk (T : TS) (v : Nat → Nat) : g_cu (h_sk T v) = g_cu T := rfl
theorem gh_cu_ss (T : TS) (v : Nat → Nat) : g_cu (h_ss T v) = g_cu T := rfl
theorem gh_cu_sr (T : TS) (v : Nat → Nat → Int32) : g_cu (h_sr T v) = g_cu T := rfl
theorem gh_cu_fa (T : TS) (v : Nat → Int32) : g_cu (h_fa T v) = g_cu T := rfl
theorem gh_cu_su (T : TS) (v : Int32) : g_cu (h_su T v) = g_cu T := rfl
theorem gh_cu_tr (T : TS) (v : Int64) : g_cu (h_tr T v) = g_cu T := rfl
theorem gh_cu_cu (T : TS) (v : Nat) : g_cu (h_cu T v) = v := rfl
theorem gh_cl_ct (T : TS) (v : Nat) : g_cl (h_ct T v) = g_cl T := rfl
theorem gh_cl_cu (T : TS) (v : Nat) : g_cl (h_cu T v) = g_cl T := rfl
theorem gh_cl_np (T : TS) (v : Nat) : g_cl (h_np T v) = g_cl T := rfl
theorem gh_cl_pk (T : TS) (v : Nat → Nat) : g_cl (h_pk T v) = g_cl T := rfl
theorem gh_cl_nb (T : TS) (v : Nat) : g_cl (h_nb T v) = g_cl T := rfl
theorem gh_cl_bt (T : TS) (v : Nat → Nat) : g_cl (h_bt T v) = g_cl T := rfl
theorem gh_cl_ev (T : TS) (v : Nat) : g_cl (h_ev T v) = g_cl T := rfl
theorem gh_cl_th (T : TS) (v : Nat → Bool) : g_cl (h_th T v) = g_cl T := rfl
theorem gh_cl_vo (T : TS) (v : Nat → Nat) : g_cl (h_vo T v) = g_cl T := rfl
theorem gh_cl_kd (T : TS) (v : Nat → Nat) : g_cl (h_kd T v) = g_cl T := rfl
theorem gh_cl_pn (T : TS) (v : Nat → Nat) : g_cl (h_pn T v) = g_cl T := rfl
theorem gh_cl_pi (T : TS) (v : Nat → Nat → Int32) : g_cl (h_pi T v) = g_cl T := rfl
theorem gh_cl_va (T : TS) (v : Nat → Nat) : g_cl (h_va T v) = g_cl T := rfl
theorem gh_cl_dt (T : TS) (v : Nat → Nat) : g_cl (h_dt T v) = g_cl T := rfl
theorem gh_cl_ti (T : TS) (v : Nat → Bool) : g_cl (h_ti T v) = g_cl T := rfl
theorem gh_cl_pl (T : TS) (v : Nat → Nat) : g_cl (h_pl T v) = g_cl T := rfl
theorem gh_cl_mn (T : TS) (v : Nat → Nat) : g_cl (h_mn T v) = g_cl T := rfl
theorem gh_cl_ro (T : TS) (v : Nat → Nat → Nat) : g_cl (h_ro T v) = g_cl T := rfl
theorem gh_cl_te (T : TS) (v : Nat) : g_cl (h_te T v) = g_cl T := rfl
theorem gh_cl_tt (T : TS) (v : Nat → Bool) : g_cl (h_tt T v) = g_cl T := rfl
theorem gh_cl_tv (T : TS) (v : Nat → Nat) : g_cl (h_tv T v) = g_cl T := rfl
theorem gh_cl_tf (T : TS) (v : Nat → Nat) : g_cl (h_tf T v) = g_cl T := rfl
theorem gh_cl_tl (T : TS) (v : Nat → Nat) : g_cl (h_tl T v) = g_cl T := rfl
theorem gh_cl_tn (T : TS) (v : Nat → Nat) : g_cl (h_tn T v) = g_cl T := rfl
theorem gh_cl_tm (T : TS) (v : Nat → Nat) : g_cl (h_tm T v) = g_cl T := rfl
theorem gh_cl_tu (T : TS) (v : Nat → Nat) : g_cl (h_tu T v) = g_cl T := rfl
theorem gh_cl_le (T : TS) (v : Nat) : g_cl (h_le T v) = g_cl T := rfl
theorem gh_cl_lt (T : TS) (v : Nat → Bool) : g_cl (h_lt T v) = g_cl T := rfl
theorem gh_cl_lk (T : TS) (v : Nat → Nat) : g_cl (h_lk T v) = g_cl T := rfl
theorem gh_cl_lf (T : TS) (v : Nat → Nat) : g_cl (h_lf T v) = g_cl T := rfl
theorem gh_cl_lo (T : TS) (v : Nat → Option Nat) : g_cl (h_lo T v) = g_cl T := rfl
theorem gh_cl_wm (T : TS) (v : Nat) : g_cl (h_wm T v) = g_cl T := rfl
theorem gh_cl_wr (T : TS) (v : Nat → Nat) : g_cl (h_wr T v) = g_cl T := rfl
theorem gh_cl_fo (T : TS) (v : Nat) : g_cl (h_fo T v) = g_cl T := rfl
theorem gh_cl_fi (T : TS) (v : Nat → Int32) : g_cl (h_fi T v) = g_cl T := rfl
theorem gh_cl_hr (T : TS) (v : Nat → Bool) : g_cl (h_hr T v) = g_cl T := rfl
theorem gh_cl_rk (T : TS) (v : Nat → Nat) : g_cl (h_rk T v) = g_cl T := rfl
theorem gh_cl_rs (T : TS) (v : Nat → Nat) : g_cl (h_rs T v) = g_cl T := rfl
theorem gh_cl_rr (T : TS) (v : Nat → Nat → Option Nat) : g_cl (h_rr T v) = g_cl T := rfl
theorem gh_cl_hs (T : TS) (v : Nat → Bool) : g_cl (h_hs T v) = g_cl T := rfl
theorem gh_cl_sk (T : TS) (v : Nat → Nat) : g_cl (h_sk T v) = g_cl T := rfl
theorem gh_cl_ss (T : TS) (v : Nat → Nat) : g_cl (h_ss T v) = g_cl T := rfl
theorem gh_cl_sr (T : TS) (v : Nat → Nat → Int32) : g_cl (h_sr T v) = g_cl T := rfl
theorem gh_cl_fa (T : TS) (v : Nat → Int32) : g_cl (h_fa T v) = g_cl T := rfl
theorem gh_cl_su (T : TS) (v : Int32) : g_cl (h_su T v) = g_cl T := rfl
theorem gh_cl_tr (T : TS) (v : Int64) : g_cl (h_tr T v) = g_cl T := rfl
theorem gh_cl_cl (T : TS) (v : Nat) : g_cl (h_cl T v) = v := rfl
theorem gh_np_ct (T : TS) (v : Nat) : g_np (h_ct T v) = g_np T := rfl
theorem gh_np_cu (T : TS) (v : Nat) : g_np (h_cu T v) = g_np T := rfl
theorem gh_np_cl (T : TS) (v : Nat) : g_np (h_cl T v) = g_np T := rfl
theorem gh_np_pk (T : TS) (v : Nat → Nat) : g_np (h_pk T v) = g_np T := rfl
theorem gh_np_nb (T : TS) (v : Nat) : g_np (h_nb T v) = g_np T := rfl
theorem gh_np_bt (T : TS) (v : Nat → Nat) : g_np (h_bt T v) = g_np T := rfl
theorem gh_np_ev (T : TS) (v : Nat) : g_np (h_ev T v) = g_np T := rfl
theorem gh_np_th (T : TS) (v : Nat → Bool) : g_np (h_th T v) = g_np T := rfl
theorem gh_np_vo (T : TS) (v : Nat → Nat) : g_np (h_vo T v) = g_np T := rfl
theorem gh_np_kd (T : TS) (v : Nat → Nat) : g_np (h_kd T v) = g_np T := rfl
theorem gh_np_pn (T : TS) (v : Nat → Nat) : g_np (h_pn T v) = g_np T := rfl
theorem gh_np_pi (T : TS) (v : Nat → Nat → Int32) : g_np (h_pi T v) = g_np T := rfl
theorem gh_np_va (T : TS) (v : Nat → Nat) : g_np (h_va T v) = g_np T := rfl
theorem gh_np_dt (T : TS) (v : Nat → Nat) : g_np (h_dt T v) = g_np T := rfl
theorem gh_np_ti (T : TS) (v : Nat → Bool) : g_np (h_ti T v) = g_np T := rfl
theorem gh_np_pl (T : TS) (v : Nat → Nat) : g_np (h_pl T v) = g_np T := rfl
theorem gh_np_mn (T : TS) (v : Nat → Nat) : g_np (h_mn T v) = g_np T := rfl
theorem gh_np_ro (T : TS) (v : Nat → Nat → Nat) : g_np (h_ro T v) = g_np T := rfl
theorem gh_np_te (T : TS) (v : Nat) : g_np (h_te T v) = g_np T := rfl
theorem gh_np_tt (T : TS) (v : Nat → Bool) : g_np (h_tt T v) = g_np T := rfl
theorem gh_np_tv (T : TS) (v : Nat → Nat) : g_np (h_tv T v) = g_np T := rfl
theorem gh_np_tf (T : TS) (v : Nat → Nat) : g_np (h_tf T v) = g_np T := rfl
theorem gh_np_tl (T : TS) (v : Nat → Nat) : g_np (h_tl T v) = g_np T := rfl
theorem gh_np_tn (T : TS) (v : Nat → Nat) : g_np (h_tn T v) = g_np T := rfl
theorem gh_np_tm (T : TS) (v : Nat → Nat) : g_np (h_tm T v) = g_np T := rfl
theorem gh_np_tu (T : TS) (v : Nat → Nat) : g_np (h_tu T v) = g_np T := rfl
theorem gh_np_le (T : TS) (v : Nat) : g_np (h_le T v) = g_np T := rfl
theorem gh_np_lt (T : TS) (v : Nat → Bool) : g_np (h_lt T v) = g_np T := rfl
theorem gh_np_lk (T : TS) (v : Nat → Nat) : g_np (h_lk T v) = g_np T := rfl
theorem gh_np_lf (T : TS) (v : Nat → Nat) : g_np (h_lf T v) = g_np T := rfl
theorem gh_np_lo (T : TS) (v : Nat → Option Nat) : g_np (h_lo T v) = g_np T := rfl
theorem gh_np_wm (T : TS) (v : Nat) : g_np (h_wm T v) = g_np T := rfl
theorem gh_np_wr (T : TS) (v : Nat → Nat) : g_np (h_wr T v) = g_np T := rfl
theorem gh_np_fo (T : TS) (v : Nat) : g_np (h_fo T v) = g_np T := rfl
theorem gh_np_fi (T : TS) (v : Nat → Int32) : g_np (h_fi T v) = g_np T := rfl
theorem gh_np_hr (T : TS) (v : Nat → Bool) : g_np (h_hr T v) = g_np T := rfl
theorem gh_np_rk (T : TS) (v : Nat → Nat) : g_np (h_rk T v) = g_np T := rfl
theorem gh_np_rs (T : TS) (v : Nat → Nat) : g_np (h_rs T v) = g_np T := rfl
theorem gh_np_rr (T : TS) (v : Nat → Nat → Option Nat) : g_np (h_rr T v) = g_np T := rfl
theorem gh_np_hs (T : TS) (v : Nat → Bool) : g_np (h_hs T v) = g_np T := rfl
theorem gh_np_sk (T : TS) (v : Nat → Nat) : g_np (h_sk T v) = g_np T := rfl
theorem gh_np_ss (T : TS) (v : Nat → Nat) : g_np (h_ss T v) = g_np T := rfl
theorem gh_np_sr (T : TS) (v : Nat → Nat → Int32) : g_np (h_sr T v) = g_np T := rfl
theorem gh_np_fa (T : TS) (v : Nat → Int32) : g_np (h_fa T v) = g_np T := rfl
theorem gh_np_su (T : TS) (v : Int32) : g_np (h_su T v) = g_np T := rfl
theorem gh_np_tr (T : TS) (v : Int64) : g_np (h_tr T v) = g_np T := rfl
theorem gh_np_np (T : TS) (v : Nat) : g_np (h_np T v) = v := rfl
theorem gh_pk_ct (T : TS) (v : Nat) : g_pk (h_ct T v) = g_pk T := rfl
theorem gh_pk_cu (T : TS) (v : Nat) : g_pk (h_cu T v) = g_pk T := rfl
theorem gh_pk_cl (T : TS) (v : Nat) : g_pk (h_cl T v) = g_pk T := rfl
theorem gh_pk_np (T : TS) (v : Nat) : g_pk (h_np T v) = g_pk T := rfl
theorem gh_pk_nb (T : TS) (v : Nat) : g_pk (h_nb T v) = g_pk T := rfl
theorem gh_pk_bt (T : TS) (v : Nat → Nat) : g_pk (h_bt T v) = g_pk T := rfl
theorem gh_pk_ev (T : TS) (v : Nat) : g_pk (h_ev T v) = g_pk T := rfl
theorem gh_pk_th (T : TS) (v : Nat → Bool) : g_pk (h_th T v) = g_pk T := rfl
theorem gh_pk_vo (T : TS) (v : Nat → Nat) : g_pk (h_vo T v) = g_pk T := rfl
theorem gh_pk_kd (T : TS) (v : Nat → Nat) : g_pk (h_kd T v) = g_pk T := rfl
theorem gh_pk_pn (T : TS) (v : Nat → Nat) : g_pk (h_pn T v) = g_pk T := rfl
theorem gh_pk_pi (T : TS) (v : Nat → Nat → Int32) : g_pk (h_pi T v) = g_pk T := rfl
theorem gh_pk_va (T : TS) (v : Nat → Nat) : g_pk (h_va T v) = g_pk T := rfl
theorem gh_pk_dt (T : TS) (v : Nat → Nat) : g_pk (h_dt T v) = g_pk T := rfl
theorem gh_pk_ti (T : TS) (v : Nat → Bool) : g_pk (h_ti T v) = g_pk T := rfl
theorem gh_pk_pl (T : TS) (v : Nat → Nat) : g_pk (h_pl T v) = g_pk T := rfl
theorem gh_pk_mn (T : TS) (v : Nat → Nat) : g_pk (h_mn T v) = g_pk T := rfl
theorem gh_pk_ro (T : TS) (v : Nat → Nat → Nat) : g_pk (h_ro T v) = g_pk T := rfl
theorem gh_pk_te (T : TS) (v : Nat) : g_pk (h_te T v) = g_pk T := rfl
theorem gh_pk_tt (T : TS) (v : Nat → Bool) : g_pk (h_tt T v) = g_pk T := rfl
theorem gh_pk_tv (T : TS) (v : Nat → Nat) : g_pk (h_tv T v) = g_pk T := rfl
theorem gh_pk_tf (T : TS) (v : Nat → Nat) : g_pk (h_tf T v) = g_pk T := rfl
theorem gh_pk_tl (T : TS) (v : Nat → Nat) : g_pk (h_tl T v) = g_pk T := rfl
theorem gh_pk_tn (T : TS) (v : Nat → Nat) : g_pk (h_tn T v) = g_pk T := rfl
theorem gh_pk_tm (T : TS) (v : Nat → Nat) : g_pk (h_tm T v) = g_pk T := rfl
theorem gh_pk_tu (T : TS) (v : Nat → Nat) : g_pk (h_tu T v) = g_pk T := rfl
theorem gh_pk_le (T : TS) (v : Nat) : g_pk (h_le T v) = g_pk T := rfl
theorem gh_pk_lt (T : TS) (v : Nat → Bool) : g_pk (h_lt T v) = g_pk T := rfl
theorem gh_pk_lk (T : TS) (v : Nat → Nat) : g_pk (h_lk T v) = g_pk T := rfl
theorem gh_pk_lf (T : TS) (v : Nat → Nat) : g_pk (h_lf T v) = g_pk T := rfl
theorem gh_pk_lo (T : TS) (v : Nat → Option Nat) : g_pk (h_lo T v) = g_pk T := rfl
theorem gh_pk_wm (T : TS) (v : Nat) : g_pk (h_wm T v) = g_pk T := rfl
theorem gh_pk_wr (T : TS) (v : Nat → Nat) : g_pk (h_wr T v) = g_pk T := rfl
theorem gh_pk_fo (T : TS) (v : Nat) : g_pk (h_fo T v) = g_pk T := rfl
theorem gh_pk_fi (T : TS) (v : Nat → Int32) : g_pk (h_fi T v) = g_pk T := rfl
theorem gh_pk_hr (T : TS) (v : Nat → Bool) : g_pk (h_hr T v) = g_pk T := rfl
theorem gh_pk_rk (T : TS) (v : Nat → Nat) : g_pk (h_rk T v) = g_pk T := rfl
theorem gh_pk_rs (T : TS) (v : Nat → Nat) : g_pk (h_rs T v) = g_pk T := rfl
theorem gh_pk_rr (T : TS) (v : Nat → Nat → Option Nat) : g_pk (h_rr T v) = g_pk T := rfl
theorem gh_pk_hs (T : TS) (v : Nat → Bool) : g_pk (h_hs T v) = g_pk T := rfl
theorem gh_pk_sk (T : TS) (v : Nat → Nat) : g_pk (h_sk T v) = g_pk T := rfl
theorem gh_pk_ss (T : TS) (v : Nat → Nat) : g_pk (h_ss T v) = g_pk T := rfl
theorem gh_pk_sr (T : TS) (v : Nat → Nat → Int32) : g_pk (h_sr T v) = g_pk T := rfl
theorem gh_pk_fa (T : TS) (v : Nat → Int32) : g_pk (h_fa T v) = g_pk T := rfl
theorem gh_pk_su (T : TS) (v : Int32) : g_pk (h_su T v) = g_pk T := rfl
theorem gh_pk_tr (T : TS) (v : Int64) : g_pk (h_tr T v) = g_pk T := rfl
theorem gh_pk_pk (T : TS) (v : Nat → Nat) : g_pk (h_pk T v) = v := rfl
theorem gh_nb_ct (T : TS) (v : Nat) : g_nb (h_ct T v) = g_nb T := rfl
theorem gh_nb_cu (T : TS) (v : Nat) : g_nb (h_cu T v) = g_nb T := rfl
theorem gh_nb_cl (T : TS) (v : Nat) : g_nb (h_cl T v) = g_nb T := rfl
theorem gh_nb_np (T : TS) (v : Nat) : g_nb (h_np T v) = g_nb T := rfl
theorem gh_nb_pk (T : TS) (v : Nat → Nat) : g_nb (h_pk T v) = g_nb T := rfl
theorem gh_nb_bt (T : TS) (v : Nat → Nat) : g_nb (h_bt T v) = g_nb T := rfl
theorem gh_nb_ev (T : TS) (v : Nat) : g_nb (h_ev T v) = g_nb T := rfl
theorem gh_nb_th (T : TS) (v : Nat → Bool) : g_nb (h_th T v) = g_nb T := rfl
theorem gh_nb_vo (T : TS) (v : Nat → Nat) : g_nb (h_vo T v) = g_nb T := rfl
theorem gh_nb_kd (T : TS) (v : Nat → Nat) : g_nb (h_kd T v) = g_nb T := rfl
theorem gh_nb_pn (T : TS) (v : Nat → Nat) : g_nb (h_pn T v) = g_nb T := rfl
theorem gh_nb_pi (T : TS) (v : Nat → Nat → Int32) : g_nb (h_pi T v) = g_nb T := rfl
theorem gh_nb_va (T : TS) (v : Nat → Nat) : g_nb (h_va T v) = g_nb T := rfl
theorem gh_nb_dt (T : TS) (v : Nat → Nat) : g_nb (h_dt T v) = g_nb T := rfl
theorem gh_nb_ti (T : TS) (v : Nat → Bool) : g_nb (h_ti T v) = g_nb T := rfl
theorem gh_nb_pl (T : TS) (v : Nat → Nat) : g_nb (h_pl T v) = g_nb T := rfl
theorem gh_nb_mn (T : TS) (v : Nat → Nat) : g_nb (h_mn T v) = g_nb T := rfl
theorem gh_nb_ro (T : TS) (v : Nat → Nat → Nat) : g_nb (h_ro T v) = g_nb T := rfl
theorem gh_nb_te (T : TS) (v : Nat) : g_nb (h_te T v) = g_nb T := rfl
theorem gh_nb_tt (T : TS) (v : Nat → Bool) : g_nb (h_tt T v) = g_nb T := rfl
theorem gh_nb_tv (T : TS) (v : Nat → Nat) : g_nb (h_tv T v) = g_nb T := rfl
theorem gh_nb_tf (T : TS) (v : Nat → Nat) : g_nb (h_tf T v) = g_nb T := rfl
theorem gh_nb_tl (T : TS) (v : Nat → Nat) : g_nb (h_tl T v) = g_nb T := rfl
theorem gh_nb_tn (T : TS) (v : Nat → Nat) : g_nb (h_tn T v) = g_nb T := rfl
theorem gh_nb_tm (T : TS) (v : Nat → Nat) : g_nb (h_tm T v) = g_nb T := rfl
theorem gh_nb_tu (T : TS) (v : Nat → Nat) : g_nb (h_tu T v) = g_nb T := rfl
theorem gh_nb_le (T : TS) (v : Nat) : g_nb (h_le T v) = g_nb T := rfl
theorem gh_nb_lt (T : TS) (v : Nat → Bool) : g_nb (h_lt T v) = g_nb T := rfl
theorem gh_nb_lk (T : TS) (v : Nat → Nat) : g_nb (h_lk T v) = g_nb T := rfl
theorem gh_nb_lf (T : TS) (v : Nat → Nat) : g_nb (h_lf T v) = g_nb T := rfl
theorem gh_nb_lo (T : TS) (v : Nat → Option Nat) : g_nb (h_lo T v) = g_nb T := rfl
theorem gh_nb_wm (T : TS) (v : Nat) : g_nb (h_wm T v) = g_nb T := rfl
theorem gh_nb_wr (T : TS) (v : Nat → Nat) : g_nb (h_wr T v) = g_nb T := rfl
theorem gh_nb_fo (T : TS) (v : Nat) : g_nb (h_fo T v) = g_nb T := rfl
theorem gh_nb_fi (T : TS) (v : Nat → Int32) : g_nb (h_fi T v) = g_nb T := rfl
theorem gh_nb_hr (T : TS) (v : Nat → Bool) : g_nb (h_hr T v) = g_nb T := rfl
theorem gh_nb_rk (T : TS) (v : Nat → Nat) : g_nb (h_rk T v) = g_nb T := rfl
theorem gh_nb_rs (T : TS) (v : Nat → Nat) : g_nb (h_rs T v) = g_nb T := rfl
theorem gh_nb_rr (T : TS) (v : Nat → Nat → Option Nat) : g_nb (h_rr T v) = g_nb T := rfl
theorem gh_nb_hs (T : TS) (v : Nat → Bool) : g_nb (h_hs T v) = g_nb T := rfl
theorem gh_nb_sk (T : TS) (v : Nat → Nat) : g_nb (h_sk T v) = g_nb T := rfl
theorem gh_nb_ss (T : TS) (v : Nat → Nat) : g_nb (h_ss T v) = g_nb T := rfl
theorem gh_nb_sr (T : TS) (v : Nat → Nat → Int32) : g_nb (h_sr T v) = g_nb T := rfl
theorem gh_nb_fa (T : TS) (v : Nat → Int32) : g_nb (h_fa T v) = g_nb T := rfl
theorem gh_nb_su (T : TS) (v : Int32) : g_nb (h_su T v) = g_nb T := rfl
theorem gh_nb_tr (T : TS) (v : Int64) : g_nb (h_tr T v) = g_nb T := rfl
theorem gh_nb_nb (T : TS) (v : Nat) : g_nb (h_nb T v) = v := rfl
theorem gh_bt_ct (T : TS) (v : Nat) : g_bt (h_ct T v) = g_bt T := rfl
theorem gh_bt_cu (T : TS) (v : Nat) : g_bt (h_cu T v) = g_bt T := rfl
theorem gh_bt_cl (T : TS) (v : Nat) : g_bt (h_cl T v) = g_bt T := rfl
theorem gh_bt_np (T : TS) (v : Nat) : g_bt (h_np T v) = g_bt T := rfl
theorem gh_bt_pk (T : TS) (v : Nat → Nat) : g_bt (h_pk T v) = g_bt T := rfl
theorem gh_bt_nb (T : TS) (v : Nat) : g_bt (h_nb T v) = g_bt T := rfl
theorem gh_bt_ev (T : TS) (v : Nat) : g_bt (h_ev T v) = g_bt T := rfl
theorem gh_bt_th (T : TS) (v : Nat → Bool) : g_bt (h_th T v) = g_bt T := rfl
theorem gh_bt_vo (T : TS) (v : Nat → Nat) : g_bt (h_vo T v) = g_bt T := rfl
theorem gh_bt_kd (T : TS) (v : Nat → Nat) : g_bt (h_kd T v) = g_bt T := rfl
theorem gh_bt_pn (T : TS) (v : Nat → Nat) : g_bt (h_pn T v) = g_bt T := rfl
theorem gh_bt_pi (T : TS) (v : Nat → Nat → Int32) : g_bt (h_pi T v) = g_bt T := rfl
theorem gh_bt_va (T : TS) (v : Nat → Nat) : g_bt (h_va T v) = g_bt T := rfl
theorem gh_bt_dt (T : TS) (v : Nat → Nat) : g_bt (h_dt T v) = g_bt T := rfl
theorem gh_bt_ti (T : TS) (v : Nat → Bool) : g_bt (h_ti T v) = g_bt T := rfl
theorem gh_bt_pl (T : TS) (v : Nat → Nat) : g_bt (h_pl T v) = g_bt T := rfl
theorem gh_bt_mn (T : TS) (v : Nat → Nat) : g_bt (h_mn T v) = g_bt T := rfl
theorem gh_bt_ro (T : TS) (v : Nat → Nat → Nat) : g_bt (h_ro T v) = g_bt T := rfl
theorem gh_bt_te (T : TS) (v : Nat) : g_bt (h_te T v) = g_bt T := rfl
theorem gh_bt_tt (T : TS) (v : Nat → Bool) : g_bt (h_tt T v) = g_bt T := rfl
theorem gh_bt_tv (T : TS) (v : Nat → Nat) : g_bt (h_tv T v) = g_bt T := rfl
theorem gh_bt_tf (T : TS) (v : Nat → Nat) : g_bt (h_tf T v) = g_bt T := rfl
theorem gh_bt_tl (T : TS) (v : Nat → Nat) : g_bt (h_tl T v) = g_bt T := rfl
theorem gh_bt_tn (T : TS) (v : Nat → Nat) : g_bt (h_tn T v) = g_bt T := rfl
theorem gh_bt_tm (T : TS) (v : Nat → Nat) : g_bt (h_tm T v) = g_bt T := rfl
theorem gh_bt_tu (T : TS) (v : Nat → Nat) : g_bt (h_tu T v) = g_bt T := rfl
theorem gh_bt_le (T : TS) (v : Nat) : g_bt (h_le T v) = g_bt T := rfl
theorem gh_bt_lt (T : TS) (v : Nat → Bool) : g_bt (h_lt T v) = g_bt T := rfl
theorem gh_bt_lk (T : TS) (v : Nat → Nat) : g_bt (h_lk T v) = g_bt T := rfl
theorem gh_bt_lf (T : TS) (v : Nat → Nat) : g_bt (h_lf T v) = g_bt T := rfl
theorem gh_bt_lo (T : TS) (v : Nat → Option Nat) : g_bt (h_lo T v) = g_bt T := rfl
theorem gh_bt_wm (T : TS) (v : Nat) : g_bt (h_wm T v) = g_bt T := rfl
theorem gh_bt_wr (T : TS) (v : Nat → Nat) : g_bt (h_wr T v) = g_bt T := rfl
theorem gh_bt_fo (T : TS) (v : Nat) : g_bt (h_fo T v) = g_bt T := rfl
theorem gh_bt_fi (T : TS) (v : Nat → Int32) : g_bt (h_fi T v) = g_bt T := rfl
theorem gh_bt_hr (T : TS) (v : Nat → Bool) : g_bt (h_hr T v) = g_bt T := rfl
theorem gh_bt_rk (T : TS) (v : Nat → Nat) : g_bt (h_rk T v) = g_bt T := rfl
theorem gh_bt_rs (T : TS) (v : Nat → Nat) : g_bt (h_rs T v) = g_bt T := rfl
theorem gh_bt_rr (T : TS) (v : Nat → Nat → Option Nat) : g_bt (h_rr T v) = g_bt T := rfl
theorem gh_bt_hs (T : TS) (v : Nat → Bool) : g_bt (h_hs T v) = g_bt T := rfl
theorem gh_bt_sk (T : TS) (v : Nat → Nat) : g_bt (h_sk T v) = g_bt T := rfl
theorem gh_bt_ss (T : TS) (v : Nat → Nat) : g_bt (h_ss T v) = g_bt T := rfl
theorem gh_bt_sr (T : TS) (v : Nat → Nat → Int32) : g_bt (h_sr T v) = g_bt T := rfl
theorem gh_bt_fa (T : TS) (v : Nat → Int32) : g_bt (h_fa T v) = g_bt T := rfl
theorem gh_bt_su (T : TS) (v : Int32) : g_bt (h_su T v) = g_bt T := rfl
theorem gh_bt_tr (T : TS) (v : Int64) : g_bt (h_tr T v) = g_bt T := rfl
theorem gh_bt_bt (T : TS) (v : Nat → Nat) : g_bt (h_bt T v) = v := rfl
theorem gh_ev_ct (T : TS) (v : Nat) : g_ev (h_ct T v) = g_ev T := rfl
theorem gh_ev_cu (T : TS) (v : Nat) : g_ev (h_cu T v) = g_ev T := rfl
theorem gh_ev_cl (T : TS) (v : Nat) : g_ev (h_cl T v) = g_ev T := rfl
theorem gh_ev_np (T : TS) (v : Nat) : g_ev (h_np T v) = g_ev T := rfl
theorem gh_ev_pk (T : TS) (v : Nat → Nat) : g_ev (h_pk T v) = g_ev T := rfl
theorem gh_ev_nb (T : TS) (v : Nat) : g_ev (h_nb T v) = g_ev T := rfl
theorem gh_ev_bt (T : TS) (v : Nat → Nat) : g_ev (h_bt T v) = g_ev T := rfl
theorem gh_ev_th (T : TS) (v : Nat → Bool) : g_ev (h_th T v) = g_ev T := rfl
theorem gh_ev_vo (T : TS) (v : Nat → Nat) : g_ev (h_vo T v) = g_ev T := rfl
theorem gh_ev_kd (T : TS) (v : Nat → Nat) : g_ev (h_kd T v) = g_ev T := rfl
theorem gh_ev_pn (T : TS) (v : Nat → Nat) : g_ev (h_pn T v) = g_ev T := rfl
theorem gh_ev_pi (T : TS) (v : Nat → Nat → Int32) : g_ev (h_pi T v) = g_ev T := rfl
theorem gh_ev_va (T : TS) (v : Nat → Nat) : g_ev (h_va T v) = g_ev T := rfl
theorem gh_ev_dt (T : TS) (v : Nat → Nat) : g_ev (h_dt T v) = g_ev T := rfl
theorem gh_ev_ti (T : TS) (v : Nat → Bool) : g_ev (h_ti T v) = g_ev T := rfl
theorem gh_ev_pl (T : TS) (v : Nat → Nat) : g_ev (h_pl T v) = g_ev T := rfl
theorem gh_ev_mn (T : TS) (v : Nat → Nat) : g_ev (h_mn T v) = g_ev T := rfl
theorem gh_ev_ro (T : TS) (v : Nat → Nat → Nat) : g_ev (h_ro T v) = g_ev T := rfl
theorem gh_ev_te (T : TS) (v : Nat) : g_ev (h_te T v) = g_ev T := rfl
theorem gh_ev_tt (T : TS) (v : Nat → Bool) : g_ev (h_tt T v) = g_ev T := rfl
theorem gh_ev_tv (T : TS) (v : Nat → Nat) : g_ev (h_tv T v) = g_ev T := rfl
theorem gh_ev_tf (T : TS) (v : Nat → Nat) : g_ev (h_tf T v) = g_ev T := rfl
theorem gh_ev_tl (T : TS) (v : Nat → Nat) : g_ev (h_tl T v) = g_ev T := rfl
theorem gh_ev_tn (T : TS) (v : Nat → Nat) : g_ev (h_tn T v) = g_ev T := rfl
theorem gh_ev_tm (T : TS) (v : Nat → Nat) : g_ev (h_tm T v) = g_ev T := rfl
theorem gh_ev_tu (T : TS) (v : Nat → Nat) : g_ev (h_tu T v) = g_ev T := rfl
theorem gh_ev_le (T : TS) (v : Nat) : g_ev (h_le T v) = g_ev T := rfl
theorem gh_ev_lt (T : TS) (v : Nat → Bool) : g_ev (h_lt T v) = g_ev T := rfl
theorem gh_ev_lk (T : TS) (v : Nat → Nat) : g_ev (h_lk T v) = g_ev T := rfl
theorem gh_ev_lf (T : TS) (v : Nat → Nat) : g_ev (h_lf T v) = g_ev T := rfl
theorem gh_ev_lo (T : TS) (v : Nat → Option Nat) : g_ev (h_lo T v) = g_ev T := rfl
theorem gh_ev_wm (T : TS) (v : Nat) : g_ev (h_wm T v) = g_ev T := rfl
theorem gh_ev_wr (T : TS) (v : Nat → Nat) : g_ev (h_wr T v) = g_ev T := rfl
theorem gh_ev_fo (T : TS) (v : Nat) : g_ev (h_fo T v) = g_ev T := rfl
theorem gh_ev_fi (T : TS) (v : Nat → Int32) : g_ev (h_fi T v) = g_ev T := rfl
theorem gh_ev_hr (T : TS) (v : Nat → Bool) : g_ev (h_hr T v) = g_ev T := rfl
theorem gh_ev_rk (T : TS) (v : Nat → Nat) : g_ev (h_rk T v) = g_ev T := rfl
theorem gh_ev_rs (T : TS) (v : Nat → Nat) : g_ev (h_rs T v) = g_ev T := rfl
theorem gh_ev_rr (T : TS) (v : Nat → Nat → Option Nat) : g_ev (h_rr T v) = g_ev T := rfl
theorem gh_ev_hs (T : TS) (v : Nat → Bool) : g_ev (h_hs T v) = g_ev T := rfl
theorem gh_ev_sk (T : TS) (v : Nat → Nat) : g_ev (h_sk T v) = g_ev T := rfl
theorem gh_ev_ss (T : TS) (v : Nat → Nat) : g_ev (h_ss T v) = g_ev T := rfl
theorem gh_ev_sr (T : TS) (v : Nat → Nat → Int32) : g_ev (h_sr T v) = g_ev T := rfl
theorem gh_ev_fa (T : TS) (v : Nat → Int32) : g_ev (h_fa T v) = g_ev T := rfl
theorem gh_ev_su (T : TS) (v : Int32) : g_ev (h_su T v) = g_ev T := rfl
theorem gh_ev_tr (T : TS) (v : Int64) : g_ev (h_tr T v) = g_ev T := rfl
theorem gh_ev_ev (T : TS) (v : Nat) : g_ev (h_ev T v) = v := rfl
theorem gh_th_ct (T : TS) (v : Nat) : g_th (h_ct T v) = g_th T := rfl
theorem gh_th_cu (T : TS) (v : Nat) : g_th (h_cu T v) = g_th T := rfl
theorem gh_th_cl (T : TS) (v : Nat) : g_th (h_cl T v) = g_th T := rfl
theorem gh_th_np (T : TS) (v : Nat) : g_th (h_np T v) = g_th T := rfl
theorem gh_th_pk (T : TS) (v : Nat → Nat) : g_th (h_pk T v) = g_th T := rfl
theorem gh_th_nb (T : TS) (v : Nat) : g_th (h_nb T v) = g_th T := rfl
theorem gh_th_bt (T : TS) (v : Nat → Nat) : g_th (h_bt T v) = g_th T := rfl
theorem gh_th_ev (T : TS) (v : Nat) : g_th (h_ev T v) = g_th T := rfl
theorem gh_th_vo (T : TS) (v : Nat → Nat) : g_th (h_vo T v) = g_th T := rfl
theorem gh_th_kd (T : TS) (v : Nat → Nat) : g_th (h_kd T v) = g_th T := rfl
theorem gh_th_pn (T : TS) (v : Nat → Nat) : g_th (h_pn T v) = g_th T := rfl
theorem gh_th_pi (T : TS) (v : Nat → Nat → Int32) : g_th (h_pi T v) = g_th T := rfl
theorem gh_th_va (T : TS) (v : Nat → Nat) : g_th (h_va T v) = g_th T := rfl
theorem gh_th_dt (T : TS) (v : Nat → Nat) : g_th (h_dt T v) = g_th T := rfl
theorem gh_th_ti (T : TS) (v : Nat → Bool) : g_th (h_ti T v) = g_th T := rfl
theorem gh_th_pl (T : TS) (v : Nat → Nat) : g_th (h_pl T v) = g_th T := rfl
theorem gh_th_mn (T : TS) (v : Nat → Nat) : g_th (h_mn T v) = g_th T := rfl
theorem gh_th_ro (T : TS) (v : Nat → Nat → Nat) : g_th (h_ro T v) = g_th T := rfl
theorem gh_th_te (T : TS) (v : Nat) : g_th (h_te T v) = g_th T := rfl
theorem gh_th_tt (T : TS) (v : Nat → Bool) : g_th (h_tt T v) = g_th T := rfl
theorem gh_th_tv (T : TS) (v : Nat → Nat) : g_th (h_tv T v) = g_th T := rfl
theorem gh_th_tf (T : TS) (v : Nat → Nat) : g_th (h_tf T v) = g_th T := rfl
theorem gh_th_tl (T : TS) (v : Nat → Nat) : g_th (h_tl T v) = g_th T := rfl
theorem gh_th_tn (T : TS) (v : Nat → Nat) : g_th (h_tn T v) = g_th T := rfl
theorem gh_th_tm (T : TS) (v : Nat → Nat) : g_th (h_tm T v) = g_th T := rfl
theorem gh_th_tu (T : TS) (v : Nat → Nat) : g_th (h_tu T v) = g_th T := rfl
theorem gh_th_le (T : TS) (v : Nat) : g_th (h_le T v) = g_th T := rfl
theorem gh_th_lt (T : TS) (v : Nat → Bool) : g_th (h_lt T v) = g_th T := rfl
theorem gh_th_lk (T : TS) (v : Nat → Nat) : g_th (h_lk T v) = g_th T := rfl
theorem gh_th_lf (T : TS) (v : Nat → Nat) : g_th (h_lf T v) = g_th T := rfl
theorem gh_th_lo (T : TS) (v : Nat → Option Nat) : g_th (h_lo T v) = g_th T := rfl
theorem gh_th_wm (T : TS) (v : Nat) : g_th (h_wm T v) = g_th T := rfl
theorem gh_th_wr (T : TS) (v : Nat → Nat) : g_th (h_wr T v) = g_th T := rfl
theorem gh_th_fo (T : TS) (v : Nat) : g_th (h_fo T v) = g_th T := rfl
theorem gh_th_fi (T : TS) (v : Nat → Int32) : g_th (h_fi T v) = g_th T := rfl
theorem gh_th_hr (T : TS) (v : Nat → Bool) : g_th (h_hr T v) = g_th T := rfl
theorem gh_th_rk (T : TS) (v : Nat → Nat) : g_th (h_rk T v) = g_th T := rfl
theorem gh_th_rs (T : TS) (v : Nat → Nat) : g_th (h_rs T v) = g_th T := rfl
theorem gh_th_rr (T : TS) (v : Nat → Nat → Option Nat) : g_th (h_rr T v) = g_th T := rfl
theorem gh_th_hs (T : TS) (v : Nat → Bool) : g_th (h_hs T v) = g_th T := rfl
theorem gh_th_sk (T : TS) (v : Nat → Nat) : g_th (h_sk T v) = g_th T := rfl
theorem gh_th_ss (T : TS) (v : Nat → Nat) : g_th (h_ss T v) = g_th T := rfl
theorem gh_th_sr (T : TS) (v : Nat → Nat → Int32) : g_th (h_sr T v) = g_th T := rfl
theorem gh_th_fa (T : TS) (v : Nat → Int32) : g_th (h_fa T v) = g_th T := rfl
theorem gh_th_su (T : TS) (v : Int32) : g_th (h_su T v) = g_th T := rfl
theorem gh_th_tr (T : TS) (v : Int64) : g_th (h_tr T v) = g_th T := rfl
theorem gh_th_th (T : TS) (v : Nat → Bool) : g_th (h_th T v) = v := rfl
theorem gh_vo_ct (T : TS) (v : Nat) : g_vo (h_ct T v) = g_vo T := rfl
theorem gh_vo_cu (T : TS) (v : Nat) : g_vo (h_cu T v) = g_vo T := rfl
theorem gh_vo_cl (T : TS) (v : Nat) : g_vo (h_cl T v) = g_vo T := rfl
theorem gh_vo_np (T : TS) (v : Nat) : g_vo (h_np T v) = g_vo T := rfl
theorem gh_vo_pk (T : TS) (v : Nat → Nat) : g_vo (h_pk T v) = g_vo T := rfl
theorem gh_vo_nb (T : TS) (v : Nat) : g_vo (h_nb T v) = g_vo T := rfl
theorem gh_vo_bt (T : TS) (v : Nat → Nat) : g_vo (h_bt T v) = g_vo T := rfl
theorem gh_vo_ev (T : TS) (v : Nat) : g_vo (h_ev T v) = g_vo T := rfl
theorem gh_vo_th (T : TS) (v : Nat → Bool) : g_vo (h_th T v) = g_vo T := rfl
theorem gh_vo_kd (T : TS) (v : Nat → Nat) : g_vo (h_kd T v) = g_vo T := rfl
theorem gh_vo_pn (T : TS) (v : Nat → Nat) : g_vo (h_pn T v) = g_vo T := rfl
theorem gh_vo_pi (T : TS) (v : Nat → Nat → Int32) : g_vo (h_pi T v) = g_vo T := rfl
theorem gh_vo_va (T : TS) (v : Nat → Nat) : g_vo (h_va T v) = g_vo T := rfl
theorem gh_vo_dt (T : TS) (v : Nat → Nat) : g_vo (h_dt T v) = g_vo T := rfl
theorem gh_vo_ti (T : TS) (v : Nat → Bool) : g_vo (h_ti T v) = g_vo T := rfl
theorem gh_vo_pl (T : TS) (v : Nat → Nat) : g_vo (h_pl T v) = g_vo T := rfl
theorem gh_vo_mn (T : TS) (v : Nat → Nat) : g_vo (h_mn T v) = g_vo T := rfl
theorem gh_vo_ro (T : TS) (v : Nat → Nat → Nat) : g_vo (h_ro T v) = g_vo T := rfl
theorem gh_vo_te (T : TS) (v : Nat) : g_vo (h_te T v) = g_vo T := rfl
theorem gh_vo_tt (T : TS) (v : Nat → Bool) : g_vo (h_tt T v) = g_vo T := rfl
theorem gh_vo_tv (T : TS) (v : Nat → Nat) : g_vo (h_tv T v) = g_vo T := rfl
theorem gh_vo_tf (T : TS) (v : Nat → Nat) : g_vo (h_tf T v) = g_vo T := rfl
theorem gh_vo_tl (T : TS) (v : Nat → Nat) : g_vo (h_tl T v) = g_vo T := rfl
theorem gh_vo_tn (T : TS) (v : Nat → Nat) : g_vo (h_tn T v) = g_vo T := rfl
theorem gh_vo_tm (T : TS) (v : Nat → Nat) : g_vo (h_tm T v) = g_vo T := rfl
theorem gh_vo_tu (T : TS) (v : Nat → Nat) : g_vo (h_tu T v) = g_vo T := rfl
theorem gh_vo_le (T : TS) (v : Nat) : g_vo (h_le T v) = g_vo T := rfl
theorem gh_vo_lt (T : TS) (v : Nat → Bool) : g_vo (h_lt T v) = g_vo T := rfl
theorem gh_vo_lk (T : TS) (v : Nat → Nat) : g_vo (h_lk T v) = g_vo T := rfl
theorem gh_vo_lf (T : TS) (v : Nat → Nat) : g_vo (h_lf T v) = g_vo T := rfl
theorem gh_vo_lo (T : TS) (v : Nat → Option Nat) : g_vo (h_lo T v) = g_vo T := rfl
theorem gh_vo_wm (T : TS) (v : Nat) : g_vo (h_wm T v) = g_vo T := rfl
theorem gh_vo_wr (T : TS) (v : Nat → Nat) : g_vo (h_wr T v) = g_vo T := rfl
theorem gh_vo_fo (T : TS) (v : Nat) : g_vo (h_fo T v) = g_vo T := rfl
theorem gh_vo_fi (T : TS) (v : Nat → Int32) : g_vo (h_fi T v) = g_vo T := rfl
theorem gh_vo_hr (T : TS) (v : Nat → Bool) : g_vo (h_hr T v) = g_vo T := rfl
theorem gh_vo_rk (T : TS) (v : Nat → Nat) : g_vo (h_rk T v) = g_vo T := rfl
theorem gh_vo_rs (T : TS) (v : Nat → Nat) : g_vo (h_rs T v) = g_vo T := rfl
theorem gh_vo_rr (T : TS) (v : Nat → Nat → Option Nat) : g_vo (h_rr T v) = g_vo T := rfl
theorem gh_vo_hs (T : TS) (v : Nat → Bool) : g_vo (h_hs T v) = g_vo T := rfl
theorem gh_vo_sk (T : TS) (v : Nat → Nat) : g_vo (h_sk T v) = g_vo T := rfl
theorem gh_vo_ss (T : TS) (v : Nat → Nat) : g_vo (h_ss T v) = g_vo T := rfl
theorem gh_vo_sr (T : TS) (v : Nat → Nat → Int32) : g_vo (h_sr T v) = g_vo T := rfl
theorem gh_vo_fa (T : TS) (v : Nat → Int32) : g_vo (h_fa T v) = g_vo T := rfl
theorem gh_vo_su (T : TS) (v : Int32) : g_vo (h_su T v) = g_vo T := rfl
theorem gh_vo_tr (T : TS) (v : Int64) : g_vo (h_tr T v) = g_vo T := rfl
theorem gh_vo_vo (T : TS) (v : Nat → Nat) : g_vo (h_vo T v) = v := rfl
theorem gh_kd_ct (T : TS) (v : Nat) : g_kd (h_ct T v) = g_kd T := rfl
theorem gh_kd_cu (T : TS) (v : Nat) : g_kd (h_cu T v) = g_kd T := rfl
theorem gh_kd_cl (T : TS) (v : Nat) : g_kd (h_cl T v) = g_kd T := rfl
theorem gh_kd_np (T : TS) (v : Nat) : g_kd (h_np T v) = g_kd T := rfl
theorem gh_kd_pk (T : TS) (v : Nat → Nat) : g_kd (h_pk T v) = g_kd T := rfl
theorem gh_kd_nb (T : TS) (v : Nat) : g_kd (h_nb T v) = g_kd T := rfl
theorem gh_kd_bt (T : TS) (v : Nat → Nat) : g_kd (h_bt T v) = g_kd T := rfl
theorem gh_kd_ev (T : TS) (v : Nat) : g_kd (h_ev T v) = g_kd T := rfl
theorem gh_kd_th (T : TS) (v : Nat → Bool) : g_kd (h_th T v) = g_kd T := rfl
theorem gh_kd_vo (T : TS) (v : Nat → Nat) : g_kd (h_vo T v) = g_kd T := rfl
theorem gh_kd_pn (T : TS) (v : Nat → Nat) : g_kd (h_pn T v) = g_kd T := rfl
theorem gh_kd_pi (T : TS) (v : Nat → Nat → Int32) : g_kd (h_pi T v) = g_kd T := rfl
theorem gh_kd_va (T : TS) (v : Nat → Nat) : g_kd (h_va T v) = g_kd T := rfl
theorem gh_kd_dt (T : TS) (v : Nat → Nat) : g_kd (h_dt T v) = g_kd T := rfl
theorem gh_kd_ti (T : TS) (v : Nat → Bool) : g_kd (h_ti T v) = g_kd T := rfl
theorem gh_kd_pl (T : TS) (v : Nat → Nat) : g_kd (h_pl T v) = g_kd T := rfl
theorem gh_kd_mn (T : TS) (v : Nat → Nat) : g_kd (h_mn T v) = g_kd T := rfl
theorem gh_kd_ro (T : TS) (v : Nat → Nat → Nat) : g_kd (h_ro T v) = g_kd T := rfl
theorem gh_kd_te (T : TS) (v : Nat) : g_kd (h_te T v) = g_kd T := rfl
theorem gh_kd_tt (T : TS) (v : Nat → Bool) : g_kd (h_tt T v) = g_kd T := rfl
theorem gh_kd_tv (T : TS) (v : Nat → Nat) : g_kd (h_tv T v) = g_kd T := rfl
theorem gh_kd_tf (T : TS) (v : Nat → Nat) : g_kd (h_tf T v) = g_kd T := rfl
theorem gh_kd_tl (T : TS) (v : Nat → Nat) : g_kd (h_tl T v) = g_kd T := rfl
theorem gh_kd_tn (T : TS) (v : Nat → Nat) : g_kd (h_tn T v) = g_kd T := rfl
theorem gh_kd_tm (T : TS) (v : Nat → Nat) : g_kd (h_tm T v) = g_kd T := rfl
theorem gh_kd_tu (T : TS) (v : Nat → Nat) : g_kd (h_tu T v) = g_kd T := rfl
theorem gh_kd_le (T : TS) (v : Nat) : g_kd (h_le T v) = g_kd T := rfl
theorem gh_kd_lt (T : TS) (v : Nat → Bool) : g_kd (h_lt T v) = g_kd T := rfl
theorem gh_kd_lk (T : TS) (v : Nat → Nat) : g_kd (h_lk T v) = g_kd T := rfl
theorem gh_kd_lf (T : TS) (v : Nat → Nat) : g_kd (h_lf T v) = g_kd T := rfl
theorem gh_kd_lo (T : TS) (v : Nat → Option Nat) : g_kd (h_lo T v) = g_kd T := rfl
theorem gh_kd_wm (T : TS) (v : Nat) : g_kd (h_wm T v) = g_kd T := rfl
theorem gh_kd_wr (T : TS) (v : Nat → Nat) : g_kd (h_wr T v) = g_kd T := rfl
theorem gh_kd_fo (T : TS) (v : Nat) : g_kd (h_fo T v) = g_kd T := rfl
theorem gh_kd_fi (T : TS) (v : Nat → Int32) : g_kd (h_fi T v) = g_kd T := rfl
theorem gh_kd_hr (T : TS) (v : Nat → Bool) : g_kd (h_hr T v) = g_kd T := rfl
theorem gh_kd_rk (T : TS) (v : Nat → Nat) : g_kd (h_rk T v) = g_kd T := rfl
theorem gh_kd_rs (T : TS) (v : Nat → Nat) : g_kd (h_rs T v) = g_kd T := rfl
theorem gh_kd_rr (T : TS) (v : Nat → Nat → Option Nat) : g_kd (h_rr T v) = g_kd T := rfl
theorem gh_kd_hs (T : TS) (v : Nat → Bool) : g_kd (h_hs T v) = g_kd T := rfl
theorem gh_kd_sk (T : TS) (v : Nat → Nat) : g_kd (h_sk T v) = g_kd T := rfl
theorem gh_kd_ss (T : TS) (v : Nat → Nat) : g_kd (h_ss T v) = g_kd T := rfl
theorem gh_kd_sr (T : TS) (v : Nat → Nat → Int32) : g_kd (h_sr T v) = g_kd T := rfl
theorem gh_kd_fa (T : TS) (v : Nat → Int32) : g_kd (h_fa T v) = g_kd T := rfl
theorem gh_kd_su (T : TS) (v : Int32) : g_kd (h_su T v) = g_kd T := rfl
theorem gh_kd_tr (T : TS) (v : Int64) : g_kd (h_tr T v) = g_kd T := rfl
theorem gh_kd_kd (T : TS) (v : Nat → Nat) : g_kd (h_kd T v) = v := rfl
theorem gh_pn_ct (T : TS) (v : Nat) : g_pn (h_ct T v) = g_pn T := rfl
theorem gh_pn_cu (T : TS) (v : Nat) : g_pn (h_cu T v) = g_pn T := rfl
theorem gh_pn_cl (T : TS) (v : Nat) : g_pn (h_cl T v) = g_pn T := rfl
theorem gh_pn_np (T : TS) (v : Nat) : g_pn (h_np T v) = g_pn T := rfl
theorem gh_pn_pk (T : TS) (v : Nat → Nat) : g_pn (h_pk T v) = g_pn T := rfl
theorem gh_pn_nb (T : TS) (v : Nat) : g_pn (h_nb T v) = g_pn T := rfl
theorem gh_pn_bt (T : TS) (v : Nat → Nat) : g_pn (h_bt T v) = g_pn T := rfl
theorem gh_pn_ev (T : TS) (v : Nat) : g_pn (h_ev T v) = g_pn T := rfl
theorem gh_pn_th (T : TS) (v : Nat → Bool) : g_pn (h_th T v) = g_pn T := rfl
theorem gh_pn_vo (T : TS) (v : Nat → Nat) : g_pn (h_vo T v) = g_pn T := rfl
theorem gh_pn_kd (T : TS) (v : Nat → Nat) : g_pn (h_kd T v) = g_pn T := rfl
theorem gh_pn_pi (T : TS) (v : Nat → Nat → Int32) : g_pn (h_pi T v) = g_pn T := rfl
theorem gh_pn_va (T : TS) (v : Nat → Nat) : g_pn (h_va T v) = g_pn T := rfl
theorem gh_pn_dt (T : TS) (v : Nat → Nat) : g_pn (h_dt T v) = g_pn T := rfl
theorem gh_pn_ti (T : TS) (v : Nat → Bool) : g_pn (h_ti T v) = g_pn T := rfl
theorem gh_pn_pl (T : TS) (v : Nat → Nat) : g_pn (h_pl T v) = g_pn T := rfl
theorem gh_pn_mn (T : TS) (v : Nat → Nat) : g_pn (h_mn T v) = g_pn T := rfl
theorem gh_pn_ro (T : TS) (v : Nat → Nat → Nat) : g_pn (h_ro T v) = g_pn T := rfl
theorem gh_pn_te (T : TS) (v : Nat) : g_pn (h_te T v) = g_pn T := rfl
theorem gh_pn_tt (T : TS) (v : Nat → Bool) : g_pn (h_tt T v) = g_pn T := rfl
theorem gh_pn_tv (T : TS) (v : Nat → Nat) : g_pn (h_tv T v) = g_pn T := rfl
theorem gh_pn_tf (T : TS) (v : Nat → Nat) : g_pn (h_tf T v) = g_pn T := rfl
theorem gh_pn_tl (T : TS) (v : Nat → Nat) : g_pn (h_tl T v) = g_pn T := rfl
theorem gh_pn_tn (T : TS) (v : Nat → Nat) : g_pn (h_tn T v) = g_pn T := rfl
theorem gh_pn_tm (T : TS) (v : Nat → Nat) : g_pn (h_tm T v) = g_pn T := rfl
theorem gh_pn_tu (T : TS) (v : Nat → Nat) : g_pn (h_tu T v) = g_pn T := rfl
theorem gh_pn_le (T : TS) (v : Nat) : g_pn (h_le T v) = g_pn T := rfl
theorem gh_pn_lt (T : TS) (v : Nat → Bool) : g_pn (h_lt T v) = g_pn T := rfl
theorem gh_pn_lk (T : TS) (v : Nat → Nat) : g_pn (h_lk T v) = g_pn T := rfl
theorem gh_pn_lf (T : TS) (v : Nat → Nat) : g_pn (h_lf T v) = g_pn T := rfl
theorem gh_pn_lo (T : TS) (v : Nat → Option Nat) : g_pn (h_lo T v) = g_pn T := rfl
theorem gh_pn_wm (T : TS) (v : Nat) : g_pn (h_wm T v) = g_pn T := rfl
theorem gh_pn_wr (T : TS) (v : Nat → Nat) : g_pn (h_wr T v) = g_pn T := rfl
theorem gh_pn_fo (T : TS) (v : Nat) : g_pn (h_fo T v) = g_pn T := rfl
theorem gh_pn_fi (T : TS) (v : Nat → Int32) : g_pn (h_fi T v) = g_pn T := rfl
theorem gh_pn_hr (T : TS) (v : Nat → Bool) : g_pn (h_hr T v) = g_pn T := rfl
theorem gh_pn_rk (T : TS) (v : Nat → Nat) : g_pn (h_rk T v) = g_pn T := rfl
theorem gh_pn_rs (T : TS) (v : Nat → Nat) : g_pn (h_rs T v) = g_pn T := rfl
theorem gh_pn_rr (T : TS) (v : Nat → Nat → Option Nat) : g_pn (h_rr T v) = g_pn T := rfl
theorem gh_pn_hs (T : TS) (v : Nat → Bool) : g_pn (h_hs T v) = g_pn T := rfl
theorem gh_pn_sk (T : TS) (v : Nat → Nat) : g_pn (h_sk T v) = g_pn T := rfl
theorem gh_pn_ss (T : TS) (v : Nat → Nat) : g_pn (h_ss T v) = g_pn T := rfl
theorem gh_pn_sr (T : TS) (v : Nat → Nat → Int32) : g_pn (h_sr T v) = g_pn T := rfl
theorem gh_pn_fa (T : TS) (v : Nat → Int32) : g_pn (h_fa T v) = g_pn T := rfl
theorem gh_pn_su (T : TS) (v : Int32) : g_pn (h_su T v) = g_pn T := rfl
theorem gh_pn_tr (T : TS) (v : Int64) : g_pn (h_tr T v) = g_pn T := rfl
theorem gh_pn_pn (T : TS) (v : Nat → Nat) : g_pn (h_pn T v) = v := rfl
theorem gh_pi_ct (T : TS) (v : Nat) : g_pi (h_ct T v) = g_pi T := rfl
theorem gh_pi_cu (T : TS) (v : Nat) : g_pi (h_cu T v) = g_pi T := rfl
theorem gh_pi_cl (T : TS) (v : Nat) : g_pi (h_cl T v) = g_pi T := rfl
theorem gh_pi_np (T : TS) (v : Nat) : g_pi (h_np T v) = g_pi T := rfl
theorem gh_pi_pk (T : TS) (v : Nat → Nat) : g_pi (h_pk T v) = g_pi T := rfl
theorem gh_pi_nb (T : TS) (v : Nat) : g_pi (h_nb T v) = g_pi T := rfl
theorem gh_pi_bt (T : TS) (v : Nat → Nat) : g_pi (h_bt T v) = g_pi T := rfl
theorem gh_pi_ev (T : TS) (v : Nat) : g_pi (h_ev T v) = g_pi T := rfl
theorem gh_pi_th (T : TS) (v : Nat → Bool) : g_pi (h_th T v) = g_pi T := rfl
theorem gh_pi_vo (T : TS) (v : Nat → Nat) : g_pi (h_vo T v) = g_pi T := rfl
theorem gh_pi_kd (T : TS) (v : Nat → Nat) : g_pi (h_kd T v) = g_pi T := rfl
theorem gh_pi_pn (T : TS) (v : Nat → Nat) : g_pi (h_pn T v) = g_pi T := rfl
theorem gh_pi_va (T : TS) (v : Nat → Nat) : g_pi (h_va T v) = g_pi T := rfl
theorem gh_pi_dt (T : TS) (v : Nat → Nat) : g_pi (h_dt T v) = g_pi T := rfl
theorem gh_pi_ti (T : TS) (v : Nat → Bool) : g_pi (h_ti T v) = g_pi T := rfl
theorem gh_pi_pl (T : TS) (v : Nat → Nat) : g_pi (h_pl T v) = g_pi T := rfl
theorem gh_pi_mn (T : TS) (v : Nat → Nat) : g_pi (h_mn T v) = g_pi T := rfl
theorem gh_pi_ro (T : TS) (v : Nat → Nat → Nat) : g_pi (h_ro T v) = g_pi T := rfl
theorem gh_pi_te (T : TS) (v : Nat) : g_pi (h_te T v) = g_pi T := rfl
theorem gh_pi_tt (T : TS) (v : Nat → Bool) : g_pi (h_tt T v) = g_pi T := rfl
theorem gh_pi_tv (T : TS) (v : Nat → Nat) : g_pi (h_tv T v) = g_pi T := rfl
theorem gh_pi_tf (T : TS) (v : Nat → Nat) : g_pi (h_tf T v) = g_pi T := rfl
theorem gh_pi_tl (T : TS) (v : Nat → Nat) : g_pi (h_tl T v) = g_pi T := rfl
theorem gh_pi_tn (T : TS) (v : Nat → Nat) : g_pi (h_tn T v) = g_pi T := rfl
theorem gh_pi_tm (T : TS) (v : Nat → Nat) : g_pi (h_tm T v) = g_pi T := rfl
theorem gh_pi_tu (T : TS) (v : Nat → Nat) : g_pi (h_tu T v) = g_pi T := rfl
theorem gh_pi_le (T : TS) (v : Nat) : g_pi (h_le T v) = g_pi T := rfl
theorem gh_pi_lt (T : TS) (v : Nat → Bool) : g_pi (h_lt T v) = g_pi T := rfl
theorem gh_pi_lk (T : TS) (v : Nat → Nat) : g_pi (h_lk T v) = g_pi T := rfl
theorem gh_pi_lf (T : TS) (v : Nat → Nat) : g_pi (h_lf T v) = g_pi T := rfl
theorem gh_pi_lo (T : TS) (v : Nat → Option Nat) : g_pi (h_lo T v) = g_pi T := rfl
theorem gh_pi_wm (T : TS) (v : Nat) : g_pi (h_wm T v) = g_pi T := rfl
theorem gh_pi_wr (T : TS) (v : Nat → Nat) : g_pi (h_wr T v) = g_pi T := rfl
theorem gh_pi_fo (T : TS) (v : Nat) : g_pi (h_fo T v) = g_pi T := rfl
theorem gh_pi_fi (T : TS) (v : Nat → Int32) : g_pi (h_fi T v) = g_pi T := rfl
theorem gh_pi_hr (T : TS) (v : Nat → Bool) : g_pi (h_hr T v) = g_pi T := rfl
theorem gh_pi_rk (T : TS) (v : Nat → Nat) : g_pi (h_rk T v) = g_pi T := rfl
theorem gh_pi_rs (T : TS) (v : Nat → Nat) : g_pi (h_rs T v) = g_pi T := rfl
theorem gh_pi_rr (T : TS) (v : Nat → Nat → Option Nat) : g_pi (h_rr T v) = g_pi T := rfl
theorem gh_pi_hs (T : TS) (v : Nat → Bool) : g_pi (h_hs T v) = g_pi T := rfl
theorem gh_pi_sk (T : TS) (v : Nat → Nat) : g_pi (h_sk T v) = g_pi T := rfl
theorem gh_pi_ss (T : TS) (v : Nat → Nat) : g_pi (h_ss T v) = g_pi T := rfl
theorem gh_pi_sr (T : TS) (v : Nat → Nat → Int32) : g_pi (h_sr T v) = g_pi T := rfl
theorem gh_pi_fa (T : TS) (v : Nat → Int32) : g_pi (h_fa T v) = g_pi T := rfl
theorem gh_pi_su (T : TS) (v : Int32) : g_pi (h_su T v) = g_pi T := rfl
theorem gh_pi_tr (T : TS) (v : Int64) : g_pi (h_tr T v) = g_pi T := rfl
theorem gh_pi_pi (T : TS) (v : Nat → Nat → Int32) : g_pi (h_pi T v) = v := rfl
theorem gh_va_ct (T : TS) (v : Nat) : g_va (h_ct T v) = g_va T := rfl
theorem gh_va_cu (T : TS) (v : Nat) : g_va (h_cu T v) = g_va T := rfl
theorem gh_va_cl (T : TS) (v : Nat) : g_va (h_cl T v) = g_va T := rfl
theorem gh_va_np (T : TS) (v : Nat) : g_va (h_np T v) = g_va T := rfl
theorem gh_va_pk (T : TS) (v : Nat → Nat) : g_va (h_pk T v) = g_va T := rfl
theorem gh_va_nb (T : TS) (v : Nat) : g_va (h_nb T v) = g_va T := rfl
theorem gh_va_bt (T : TS) (v : Nat → Nat) : g_va (h_bt T v) = g_va T := rfl
theorem gh_va_ev (T : TS) (v : Nat) : g_va (h_ev T v) = g_va T := rfl
theorem gh_va_th (T : TS) (v : Nat → Bool) : g_va (h_th T v) = g_va T := rfl
theorem gh_va_vo (T : TS) (v : Nat → Nat) : g_va (h_vo T v) = g_va T := rfl
theorem gh_va_kd (T : TS) (v : Nat → Nat) : g_va (h_kd T v) = g_va T := rfl
theorem gh_va_pn (T : TS) (v : Nat → Nat) : g_va (h_pn T v) = g_va T := rfl
theorem gh_va_pi (T : TS) (v : Nat → Nat → Int32) : g_va (h_pi T v) = g_va T := rfl
theorem gh_va_dt (T : TS) (v : Nat → Nat) : g_va (h_dt T v) = g_va T := rfl
theorem gh_va_ti (T : TS) (v : Nat → Bool) : g_va (h_ti T v) = g_va T := rfl
theorem gh_va_pl (T : TS) (v : Nat → Nat) : g_va (h_pl T v) = g_va T := rfl
theorem gh_va_mn (T : TS) (v : Nat → Nat) : g_va (h_mn T v) = g_va T := rfl
theorem gh_va_ro (T : TS) (v : Nat → Nat → Nat) : g_va (h_ro T v) = g_va T := rfl
theorem gh_va_te (T : TS) (v : Nat) : g_va (h_te T v) = g_va T := rfl
theorem gh_va_tt (T : TS) (v : Nat → Bool) : g_va (h_tt T v) = g_va T := rfl
theorem gh_va_tv (T : TS) (v : Nat → Nat) : g_va (h_tv T v) = g_va T := rfl
theorem gh_va_tf (T : TS) (v : Nat → Nat) : g_va (h_tf T v) = g_va T := rfl
theorem gh_va_tl (T : TS) (v : Nat → Nat) : g_va (h_tl T v) = g_va T := rfl
theorem gh_va_tn (T : TS) (v : Nat → Nat) : g_va (h_tn T v) = g_va T := rfl
theorem gh_va_tm (T : TS) (v : Nat → Nat) : g_va (h_tm T v) = g_va T := rfl
theorem gh_va_tu (T : TS) (v : Nat → Nat) : g_va (h_tu T v) = g_va T := rfl
theorem gh_va_le (T : TS) (v : Nat) : g_va (h_le T v) = g_va T := rfl
theorem gh_va_lt (T : TS) (v : Nat → Bool) : g_va (h_lt T v) = g_va T := rfl
theorem gh_va_lk (T : TS) (v : Nat → Nat) : g_va (h_lk T v) = g_va T := rfl
theorem gh_va_lf (T : TS) (v : Nat → Nat) : g_va (h_lf T v) = g_va T := rfl
theorem gh_va_lo (T : TS) (v : Nat → Option Nat) : g_va (h_lo T v) = g_va T := rfl
theorem gh_va_wm (T : TS) (v : Nat) : g_va (h_wm T v) = g_va T := rfl
theorem gh_va_wr (T : TS) (v : Nat → Nat) : g_va (h_wr T v) = g_va T := rfl
theorem gh_va_fo (T : TS) (v : Nat) : g_va (h_fo T v) = g_va T := rfl
theorem gh_va_fi (T : TS) (v : Nat → Int32) : g_va (h_fi T v) = g_va T := rfl
theorem gh_va_hr (T : TS) (v : Nat → Bool) : g_va (h_hr T v) = g_va T := rfl
theorem gh_va_rk (T : TS) (v : Nat → Nat) : g_va (h_rk T v) = g_va T := rfl
theorem gh_va_rs (T : TS) (v : Nat → Nat) : g_va (h_rs T v) = g_va T := rfl
theorem gh_va_rr (T : TS) (v : Nat → Nat → Option Nat) : g_va (h_rr T v) = g_va T := rfl
theorem gh_va_hs (T : TS) (v : Nat → Bool) : g_va (h_hs T v) = g_va T := rfl
theorem gh_va_sk (T : TS) (v : Nat → Nat) : g_va (h_sk T v) = g_va T := rfl
theorem gh_va_ss (T : TS) (v : Nat → Nat) : g_va (h_ss T v) = g_va T := rfl
theorem gh_va_sr (T : TS) (v : Nat → Nat → Int32) : g_va (h_sr T v) = g_va T := rfl
theorem gh_va_fa (T : TS) (v : Nat → Int32) : g_va (h_fa T v) = g_va T := rfl
theorem gh_va_su (T : TS) (v : Int32) : g_va (h_su T v) = g_va T := rfl
theorem gh_va_tr (T : TS) (v : Int64) : g_va (h_tr T v) = g_va T := rfl
theorem gh_va_va (T : TS) (v : Nat → Nat) : g_va (h_va T v) = v := rfl
theorem gh_dt_ct (T : TS) (v : Nat) : g_dt (h_ct T v) = g_dt T := rfl
theorem gh_dt_cu (T : TS) (v : Nat) : g_dt (h_cu T v) = g_dt T := rfl
theorem gh_dt_cl (T : TS) (v : Nat) : g_dt (h_cl T v) = g_dt T := rfl
theorem gh_dt_np (T : TS) (v : Nat) : g_dt (h_np T v) = g_dt T := rfl
theorem gh_dt_pk (T : TS) (v : Nat → Nat) : g_dt (h_pk T v) = g_dt T := rfl
theorem gh_dt_nb (T : TS) (v : Nat) : g_dt (h_nb T v) = g_dt T := rfl
theorem gh_dt_bt (T : TS) (v : Nat → Nat) : g_dt (h_bt T v) = g_dt T := rfl
theorem gh_dt_ev (T : TS) (v : Nat) : g_dt (h_ev T v) = g_dt T := rfl
theorem gh_dt_th (T : TS) (v : Nat → Bool) : g_dt (h_th T v) = g_dt T := rfl
theorem gh_dt_vo (T : TS) (v : Nat → Nat) : g_dt (h_vo T v) = g_dt T := rfl
theorem gh_dt_kd (T : TS) (v : Nat → Nat) : g_dt (h_kd T v) = g_dt T := rfl
theorem gh_dt_pn (T : TS) (v : Nat → Nat) : g_dt (h_pn T v) = g_dt T := rfl
theorem gh_dt_pi (T : TS) (v : Nat → Nat → Int32) : g_dt (h_pi T v) = g_dt T := rfl
theorem gh_dt_va (T : TS) (v : Nat → Nat) : g_dt (h_va T v) = g_dt T := rfl
theorem gh_dt_ti (T : TS) (v : Nat → Bool) : g_dt (h_ti T v) = g_dt T := rfl
theorem gh_dt_pl (T : TS) (v : Nat → Nat) : g_dt (h_pl T v) = g_dt T := rfl
theorem gh_dt_mn (T : TS) (v : Nat → Nat) : g_dt (h_mn T v) = g_dt T := rfl
theorem gh_dt_ro (T : TS) (v : Nat → Nat → Nat) : g_dt (h_ro T v) = g_dt T := rfl
theorem gh_dt_te (T : TS) (v : Nat) : g_dt (h_te T v) = g_dt T := rfl
theorem gh_dt_tt (T : TS) (v : Nat → Bool) : g_dt (h_tt T v) = g_dt T := rfl
theorem gh_dt_tv (T : TS) (v : Nat → Nat) : g_dt (h_tv T v) = g_dt T := rfl
theorem gh_dt_tf (T : TS) (v : Nat → Nat) : g_dt (h_tf T v) = g_dt T := rfl
theorem gh_dt_tl (T : TS) (v : Nat → Nat) : g_dt (h_tl T v) = g_dt T := rfl
theorem gh_dt_tn (T : TS) (v : Nat → Nat) : g_dt (h_tn T v) = g_dt T := rfl
theorem gh_dt_tm (T : TS) (v : Nat → Nat) : g_dt (h_tm T v) = g_dt T := rfl
theorem gh_dt_tu (T : TS) (v : Nat → Nat) : g_dt (h_tu T v) = g_dt T := rfl
theorem gh_dt_le (T : TS) (v : Nat) : g_dt (h_le T v) = g_dt T := rfl
theorem gh_dt_lt (T : TS) (v : Nat → Bool) : g_dt (h_lt T v) = g_dt T := rfl
theorem gh_dt_lk (T : TS) (v : Nat → Nat) : g_dt (h_lk T v) = g_dt T := rfl
theorem gh_dt_lf (T : TS) (v : Nat → Nat) : g_dt (h_lf T v) = g_dt T := rfl
theorem gh_dt_lo (T : TS) (v : Nat → Option Nat) : g_dt (h_lo T v) = g_dt T := rfl
theorem gh_dt_wm (T : TS) (v : Nat) : g_dt (h_wm T v) = g_dt T := rfl
theorem gh_dt_wr (T : TS) (v : Nat → Nat) : g_dt (h_wr T v) = g_dt T := rfl
theorem gh_dt_fo (T : TS) (v : Nat) : g_dt (h_fo T v) = g_dt T := rfl
theorem gh_dt_fi (T : TS) (v : Nat → Int32) : g_dt (h_fi T v) = g_dt T := rfl
theorem gh_dt_hr (T : TS) (v : Nat → Bool) : g_dt (h_hr T v) = g_dt T := rfl
theorem gh_dt_rk (T : TS) (v : Nat → Nat) : g_dt (h_rk T v) = g_dt T := rfl
theorem gh_dt_rs (T : TS) (v : Nat → Nat) : g_dt (h_rs T v) = g_dt T := rfl
theorem gh_dt_rr (T : TS) (v : Nat → Nat → Option Nat) : g_dt (h_rr T v) = g_dt T := rfl
theorem gh_dt_hs (T : TS) (v : Nat → Bool) : g_dt (h_hs T v) = g_dt T := rfl
theorem gh_dt_sk (T : TS) (v : Nat → Nat) : g_dt (h_sk T v) = g_dt T := rfl
theorem gh_dt_ss (T : TS) (v : Nat → Nat) : g_dt (h_ss T v) = g_dt T := rfl
theorem gh_dt_sr (T : TS) (v : Nat → Nat → Int32) : g_dt (h_sr T v) = g_dt T := rfl
theorem gh_dt_fa (T : TS) (v : Nat → Int32) : g_dt (h_fa T v) = g_dt T := rfl
theorem gh_dt_su (T : TS) (v : Int32) : g_dt (h_su T v) = g_dt T := rfl
theorem gh_dt_tr (T : TS) (v : Int64) : g_dt (h_tr T v) = g_dt T := rfl
theorem gh_dt_dt (T : TS) (v : Nat → Nat) : g_dt (h_dt T v) = v := rfl
theorem gh_ti_ct (T : TS) (v : Nat) : g_ti (h_ct T v) = g_ti T := rfl
theorem gh_ti_cu (T : TS) (v : Nat) : g_ti (h_cu T v) = g_ti T := rfl
theorem gh_ti_cl (T : TS) (v : Nat) : g_ti (h_cl T v) = g_ti T := rfl
theorem gh_ti_np (T : TS) (v : Nat) : g_ti (h_np T v) = g_ti T := rfl
theorem gh_ti_pk (T : TS) (v : Nat → Nat) : g_ti (h_pk T v) = g_ti T := rfl
theorem gh_ti_nb (T : TS) (v : Nat) : g_ti (h_nb T v) = g_ti T := rfl
theorem gh_ti_bt (T : TS) (v : Nat → Nat) : g_ti (h_bt T v) = g_ti T := rfl
theorem gh_ti_ev (T : TS) (v : Nat) : g_ti (h_ev T v) = g_ti T := rfl
theorem gh_ti_th (T : TS) (v : Nat → Bool) : g_ti (h_th T v) = g_ti T := rfl
theorem gh_ti_vo (T : TS) (v : Nat → Nat) : g_ti (h_vo T v) = g_ti T := rfl
theorem gh_ti_kd (T : TS) (v : Nat → Nat) : g_ti (h_kd T v) = g_ti T := rfl
theorem gh_ti_pn (T : TS) (v : Nat → Nat) : g_ti (h_pn T v) = g_ti T := rfl
theorem gh_ti_pi (T : TS) (v : Nat → Nat → Int32) : g_ti (h_pi T v) = g_ti T := rfl
theorem gh_ti_va (T : TS) (v : Nat → Nat) : g_ti (h_va T v) = g_ti T := rfl
theorem gh_ti_dt (T : TS) (v : Nat → Nat) : g_ti (h_dt T v) = g_ti T := rfl
theorem gh_ti_pl (T : TS) (v : Nat → Nat) : g_ti (h_pl T v) = g_ti T := rfl
theorem gh_ti_mn (T : TS) (v : Nat → Nat) : g_ti (h_mn T v) = g_ti T := rfl
theorem gh_ti_ro (T : TS) (v : Nat → Nat → Nat) : g_ti (h_ro T v) = g_ti T := rfl
theorem gh_ti_te (T : TS) (v : Nat) : g_ti (h_te T v) = g_ti T := rfl
theorem gh_ti_tt (T : TS) (v : Nat → Bool) : g_ti (h_tt T v) = g_ti T := rfl
theorem gh_ti_tv (T : TS) (v : Nat → Nat) : g_ti (h_tv T v) = g_ti T := rfl
theorem gh_ti_tf (T : TS) (v : Nat → Nat) : g_ti (h_tf T v) = g_ti T := rfl
theorem gh_ti_tl (T : TS) (v : Nat → Nat) : g_ti (h_tl T v) = g_ti T := rfl
theorem gh_ti_tn (T : TS) (v : Nat → Nat) : g_ti (h_tn T v) = g_ti T := rfl
theorem gh_ti_tm (T : TS) (v : Nat → Nat) : g_ti (h_tm T v) = g_ti T := rfl
theorem gh_ti_tu (T : TS) (v : Nat → Nat) : g_ti (h_tu T v) = g_ti T := rfl
theorem gh_ti_le (T : TS) (v : Nat) : g_ti (h_le T v) = g_ti T := rfl
theorem gh_ti_lt (T : TS) (v : Nat → Bool) : g_ti (h_lt T v) = g_ti T := rfl
theorem gh_ti_lk (T : TS) (v : Nat → Nat) : g_ti (h_lk T v) = g_ti T := rfl
theorem gh_ti_lf (T : TS) (v : Nat → Nat) : g_ti (h_lf T v) = g_ti T := rfl
theorem gh_ti_lo (T : TS) (v : Nat → Option Nat) : g_ti (h_lo T v) = g_ti T := rfl
theorem gh_ti_wm (T : TS) (v : Nat) : g_ti (h_wm T v) = g_ti T := rfl
theorem gh_ti_wr (T : TS) (v : Nat → Nat) : g_ti (h_wr T v) = g_ti T := rfl
theorem gh_ti_fo (T : TS) (v : Nat) : g_ti (h_fo T v) = g_ti T := rfl
theorem gh_ti_fi (T : TS) (v : Nat → Int32) : g_ti (h_fi T v) = g_ti T := rfl
theorem gh_ti_hr (T : TS) (v : Nat → Bool) : g_ti (h_hr T v) = g_ti T := rfl
theorem gh_ti_rk (T : TS) (v : Nat → Nat) : g_ti (h_rk T v) = g_ti T := rfl
theorem gh_ti_rs (T : TS) (v : Nat → Nat) : g_ti (h_rs T v) = g_ti T := rfl
theorem gh_ti_rr (T : TS) (v : Nat → Nat → Option Nat) : g_ti (h_rr T v) = g_ti T := rfl
theorem gh_ti_hs (T : TS) (v : Nat → Bool) : g_ti (h_hs T v) = g_ti T := rfl
theorem gh_ti_sk (T : TS) (v : Nat → Nat) : g_ti (h_sk T v) = g_ti T := rfl
theorem gh_ti_ss (T : TS) (v : Nat → Nat) : g_ti (h_ss T v) = g_ti T := rfl
theorem gh_ti_sr (T : TS) (v : Nat → Nat → Int32) : g_ti (h_sr T v) = g_ti T := rfl
theorem gh_ti_fa (T : TS) (v : Nat → Int32) : g_ti (h_fa T v) = g_ti T := rfl
theorem gh_ti_su (T : TS) (v : Int32) : g_ti (h_su T v) = g_ti T := rfl
theorem gh_ti_tr (T : TS) (v : Int64) : g_ti (h_tr T v) = g_ti T := rfl
theorem gh_ti_ti (T : TS) (v : Nat → Bool) : g_ti (h_ti T v) = v := rfl
theorem gh_pl_ct (T : TS) (v : Nat) : g_pl (h_ct T v) = g_pl T := rfl
theorem gh_pl_cu (T : TS) (v : Nat) : g_pl (h_cu T v) = g_pl T := rfl
theorem gh_pl_cl (T : TS) (v : Nat) : g_pl (h_cl T v) = g_pl T := rfl
theorem gh_pl_np (T : TS) (v : Nat) : g_pl (h_np T v) = g_pl T := rfl
theorem gh_pl_pk (T : TS) (v : Nat → Nat) : g_pl (h_pk T v) = g_pl T := rfl
theorem gh_pl_nb (T : TS) (v : Nat) : g_pl (h_nb T v) = g_pl T := rfl
theorem gh_pl_bt (T : TS) (v : Nat → Nat) : g_pl (h_bt T v) = g_pl T := rfl
theorem gh_pl_ev (T : TS) (v : Nat) : g_pl (h_ev T v) = g_pl T := rfl
theorem gh_pl_th (T : TS) (v : Nat → Bool) : g_pl (h_th T v) = g_pl T := rfl
theorem gh_pl_vo (T : TS) (v : Nat → Nat) : g_pl (h_vo T v) = g_pl T := rfl
theorem gh_pl_kd (T : TS) (v : Nat → Nat) : g_pl (h_kd T v) = g_pl T := rfl
theorem gh_pl_pn (T : TS) (v : Nat → Nat) : g_pl (h_pn T v) = g_pl T := rfl
theorem gh_pl_pi (T : TS) (v : Nat → Nat → Int32) : g_pl (h_pi T v) = g_pl T := rfl
theorem gh_pl_va (T : TS) (v : Nat → Nat) : g_pl (h_va T v) = g_pl T := rfl
theorem gh_pl_dt (T : TS) (v : Nat → Nat) : g_pl (h_dt T v) = g_pl T := rfl
theorem gh_pl_ti (T : TS) (v : Nat → Bool) : g_pl (h_ti T v) = g_pl T := rfl
theorem gh_pl_mn (T : TS) (v : Nat → Nat) : g_pl (h_mn T v) = g_pl T := rfl
theorem gh_pl_ro (T : TS) (v : Nat → Nat → Nat) : g_pl (h_ro T v) = g_pl T := rfl
theorem gh_pl_te (T : TS) (v : Nat) : g_pl (h_te T v) = g_pl T := rfl
theorem gh_pl_tt (T : TS) (v : Nat → Bool) : g_pl (h_tt T v) = g_pl T := rfl
theorem gh_pl_tv (T : TS) (v : Nat → Nat) : g_pl (h_tv T v) = g_pl T := rfl
theorem gh_pl_tf (T : TS) (v : Nat → Nat) : g_pl (h_tf T v) = g_pl T := rfl
theorem gh_pl_tl (T : TS) (v : Nat → Nat) : g_pl (h_tl T v) = g_pl T := rfl
theorem gh_pl_tn (T : TS) (v : Nat → Nat) : g_pl (h_tn T v) = g_pl T := rfl
theorem gh_pl_tm (T : TS) (v : Nat → Nat) : g_pl (h_tm T v) = g_pl T := rfl
theorem gh_pl_tu (T : TS) (v : Nat → Nat) : g_pl (h_tu T v) = g_pl T := rfl
theorem gh_pl_le (T : TS) (v : Nat) : g_pl (h_le T v) = g_pl T := rfl
theorem gh_pl_lt (T : TS) (v : Nat → Bool) : g_pl (h_lt T v) = g_pl T := rfl
theorem gh_pl_lk (T : TS) (v : Nat → Nat) : g_pl (h_lk T v) = g_pl T := rfl
theorem gh_pl_lf (T : TS) (v : Nat → Nat) : g_pl (h_lf T v) = g_pl T := rfl
theorem gh_pl_lo (T : TS) (v : Nat → Option Nat) : g_pl (h_lo T v) = g_pl T := rfl
theorem gh_pl_wm (T : TS) (v : Nat) : g_pl (h_wm T v) = g_pl T := rfl
theorem gh_pl_wr (T : TS) (v : Nat → Nat) : g_pl (h_wr T v) = g_pl T := rfl
theorem gh_pl_fo (T : TS) (v : Nat) : g_pl (h_fo T v) = g_pl T := rfl
theorem gh_pl_fi (T : TS) (v : Nat → Int32) : g_pl (h_fi T v) = g_pl T := rfl
theorem gh_pl_hr (T : TS) (v : Nat → Bool) : g_pl (h_hr T v) = g_pl T := rfl
theorem gh_pl_rk (T : TS) (v : Nat → Nat) : g_pl (h_rk T v) = g_pl T := rfl
theorem gh_pl_rs (T : TS) (v : Nat → Nat) : g_pl (h_rs T v) = g_pl T := rfl
theorem gh_pl_rr (T : TS) (v : Nat → Nat → Option Nat) : g_pl (h_rr T v) = g_pl T := rfl
theorem gh_pl_hs (T : TS) (v : Nat → Bool) : g_pl (h_hs T v) = g_pl T := rfl
theorem gh_pl_sk (T : TS) (v : Nat → Nat) : g_pl (h_sk T v) = g_pl T := rfl
theorem gh_pl_ss (T : TS) (v : Nat → Nat) : g_pl (h_ss T v) = g_pl T := rfl
theorem gh_pl_sr (T : TS) (v : Nat → Nat → Int32) : g_pl (h_sr T v) = g_pl T := rfl
theorem gh_pl_fa (T : TS) (v : Nat → Int32) : g_pl (h_fa T v) = g_pl T := rfl
theorem gh_pl_su (T : TS) (v : Int32) : g_pl (h_su T v) = g_pl T := rfl
theorem gh_pl_tr (T : TS) (v : Int64) : g_pl (h_tr T v) = g_pl T := rfl
theorem gh_pl_pl (T : TS) (v : Nat → Nat) : g_pl (h_pl T v) = v := rfl
theorem gh_mn_ct (T : TS) (v : Nat) : g_mn (h_ct T v) = g_mn T := rfl
theorem gh_mn_cu (T : TS) (v : Nat) : g_mn (h_cu T v) = g_mn T := rfl
theorem gh_mn_cl (T : TS) (v : Nat) : g_mn (h_cl T v) = g_mn T := rfl
theorem gh_mn_np (T : TS) (v : Nat) : g_mn (h_np T v) = g_mn T := rfl
theorem gh_mn_pk (T : TS) (v : Nat → Nat) : g_mn (h_pk T v) = g_mn T := rfl
theorem gh_mn_nb (T : TS) (v : Nat) : g_mn (h_nb T v) = g_mn T := rfl
theorem gh_mn_bt (T : TS) (v : Nat → Nat) : g_mn (h_bt T v) = g_mn T := rfl
theorem gh_mn_ev (T : TS) (v : Nat) : g_mn (h_ev T v) = g_mn T := rfl
theorem gh_mn_th (T : TS) (v : Nat → Bool) : g_mn (h_th T v) = g_mn T := rfl
theorem gh_mn_vo (T : TS) (v : Nat → Nat) : g_mn (h_vo T v) = g_mn T := rfl
theorem gh_mn_kd (T : TS) (v : Nat → Nat) : g_mn (h_kd T v) = g_mn T := rfl
theorem gh_mn_pn (T : TS) (v : Nat → Nat) : g_mn (h_pn T v) = g_mn T := rfl
theorem gh_mn_pi (T : TS) (v : Nat → Nat → Int32) : g_mn (h_pi T v) = g_mn T := rfl
theorem gh_mn_va (T : TS) (v : Nat → Nat) : g_mn (h_va T v) = g_mn T := rfl
theorem gh_mn_dt (T : TS) (v : Nat → Nat) : g_mn (h_dt T v) = g_mn T := rfl
theorem gh_mn_ti (T : TS) (v : Nat → Bool) : g_mn (h_ti T v) = g_mn T := rfl
theorem gh_mn_pl (T : TS) (v : Nat → Nat) : g_mn (h_pl T v) = g_mn T := rfl
theorem gh_mn_ro (T : TS) (v : Nat → Nat → Nat) : g_mn (h_ro T v) = g_mn T := rfl
theorem gh_mn_te (T : TS) (v : Nat) : g_mn (h_te T v) = g_mn T := rfl
theorem gh_mn_tt (T : TS) (v : Nat → Bool) : g_mn (h_tt T v) = g_mn T := rfl
theorem gh_mn_tv (T : TS) (v : Nat → Nat) : g_mn (h_tv T v) = g_mn T := rfl
theorem gh_mn_tf (T : TS) (v : Nat → Nat) : g_mn (h_tf T v) = g_mn T := rfl
theorem gh_mn_tl (T : TS) (v : Nat → Nat) : g_mn (h_tl T v) = g_mn T := rfl
theorem gh_mn_tn (T : TS) (v : Nat → Nat) : g_mn (h_tn T v) = g_mn T := rfl
theorem gh_mn_tm (T : TS) (v : Nat → Nat) : g_mn (h_tm T v) = g_mn T := rfl
theorem gh_mn_tu (T : TS) (v : Nat → Nat) : g_mn (h_tu T v) = g_mn T := rfl
theorem gh_mn_le (T : TS) (v : Nat) : g_mn (h_le T v) = g_mn T := rfl
theorem gh_mn_lt (T : TS) (v : Nat → Bool) : g_mn (h_lt T v) = g_mn T := rfl
theorem gh_mn_lk (T : TS) (v : Nat → Nat) : g_mn (h_lk T v) = g_mn T := rfl
theorem gh_mn_lf (T : TS) (v : Nat → Nat) : g_mn (h_lf T v) = g_mn T := rfl
theorem gh_mn_lo (T : TS) (v : Nat → Option Nat) : g_mn (h_lo T v) = g_mn T := rfl
theorem gh_mn_wm (T : TS) (v : Nat) : g_mn (h_wm T v) = g_mn T := rfl
theorem gh_mn_wr (T : TS) (v : Nat → Nat) : g_mn (h_wr T v) = g_mn T := rfl
theorem gh_mn_fo (T : TS) (v : Nat) : g_mn (h_fo T v) = g_mn T := rfl
theorem gh_mn_fi (T : TS) (v : Nat → Int32) : g_mn (h_fi T v) = g_mn T := rfl
theorem gh_mn_hr (T : TS) (v : Nat → Bool) : g_mn (h_hr T v) = g_mn T := rfl
theorem gh_mn_rk (T : TS) (v : Nat → Nat) : g_mn (h_rk T v) = g_mn T := rfl
theorem gh_mn_rs (T : TS) (v : Nat → Nat) : g_mn (h_rs T v) = g_mn T := rfl
theorem gh_mn_rr (T : TS) (v : Nat → Nat → Option Nat) : g_mn (h_rr T v) = g_mn T := rfl
theorem gh_mn_hs (T : TS) (v : Nat → Bool) : g_mn (h_hs T v) = g_mn T := rfl
theorem gh_mn_sk (T : TS) (v : Nat → Nat) : g_mn (h_sk T v) = g_mn T := rfl
theorem gh_mn_ss (T : TS) (v : Nat → Nat) : g_mn (h_ss T v) = g_mn T := rfl
theorem gh_mn_sr (T : TS) (v : Nat → Nat → Int32) : g_mn (h_sr T v) = g_mn T := rfl
theorem gh_mn_fa (T : TS) (v : Nat → Int32) : g_mn (h_fa T v) = g_mn T := rfl
theorem gh_mn_su (T : TS) (v : Int32) : g_mn (h_su T v) = g_mn T := rfl
theorem gh_mn_tr (T : TS) (v : Int64) : g_mn (h_tr T v) = g_mn T := rfl
theorem gh_mn_mn (T : TS) (v : Nat → Nat) : g_mn (h_mn T v) = v := rfl
theorem gh_ro_ct (T : TS) (v : Nat) : g_ro (h_ct T v) = g_ro T := rfl
theorem gh_ro_cu (T : TS) (v : Nat) : g_ro (h_cu T v) = g_ro T := rfl
theorem gh_ro_cl (T : TS) (v : Nat) : g_ro (h_cl T v) = g_ro T := rfl
theorem gh_ro_np (T : TS) (v : Nat) : g_ro (h_np T v) = g_ro T := rfl
theorem gh_ro_pk (T : TS) (v : Nat → Nat) : g_ro (h_pk T v) = g_ro T := rfl
theorem gh_ro_nb (T : TS) (v : Nat) : g_ro (h_nb T v) = g_ro T := rfl
theorem gh_ro_bt (T : TS) (v : Nat → Nat) : g_ro (h_bt T v) = g_ro T := rfl
theorem gh_ro_ev (T : TS) (v : Nat) : g_ro (h_ev T v) = g_ro T := rfl
theorem gh_ro_th (T : TS) (v : Nat → Bool) : g_ro (h_th T v) = g_ro T := rfl
theorem gh_ro_vo (T : TS) (v : Nat → Nat) : g_ro (h_vo T v) = g_ro T := rfl
theorem gh_ro_kd (T : TS) (v : Nat → Nat) : g_ro (h_kd T v) = g_ro T := rfl
theorem gh_ro_pn (T : TS) (v : Nat → Nat) : g_ro (h_pn T v) = g_ro T := rfl
theorem gh_ro_pi (T : TS) (v : Nat → Nat → Int32) : g_ro (h_pi T v) = g_ro T := rfl
theorem gh_ro_va (T : TS) (v : Nat → Nat) : g_ro (h_va T v) = g_ro T := rfl
theorem gh_ro_dt (T : TS) (v : Nat → Nat) : g_ro (h_dt T v) = g_ro T := rfl
theorem gh_ro_ti (T : TS) (v : Nat → Bool) : g_ro (h_ti T v) = g_ro T := rfl
theorem gh_ro_pl (T : TS) (v : Nat → Nat) : g_ro (h_pl T v) = g_ro T := rfl
theorem gh_ro_mn (T : TS) (v : Nat → Nat) : g_ro (h_mn T v) = g_ro T := rfl
theorem gh_ro_te (T : TS) (v : Nat) : g_ro (h_te T v) = g_ro T := rfl
theorem gh_ro_tt (T : TS) (v : Nat → Bool) : g_ro (h_tt T v) = g_ro T := rfl
theorem gh_ro_tv (T : TS) (v : Nat → Nat) : g_ro (h_tv T v) = g_ro T := rfl
theorem gh_ro_tf (T : TS) (v : Nat → Nat) : g_ro (h_tf T v) = g_ro T := rfl
theorem gh_ro_tl (T : TS) (v : Nat → Nat) : g_ro (h_tl T v) = g_ro T := rfl
theorem gh_ro_tn (T : TS) (v : Nat → Nat) : g_ro (h_tn T v) = g_ro T := rfl
theorem gh_ro_tm (T : TS) (v : Nat → Nat) : g_ro (h_tm T v) = g_ro T := rfl
theorem gh_ro_tu (T : TS) (v : Nat → Nat) : g_ro (h_tu T v) = g_ro T := rfl
theorem gh_ro_le (T : TS) (v : Nat) : g_ro (h_le T v) = g_ro T := rfl
theorem gh_ro_lt (T : TS) (v : Nat → Bool) : g_ro (h_lt T v) = g_ro T := rfl
theorem gh_ro_lk (T : TS) (v : Nat → Nat) : g_ro (h_lk T v) = g_ro T := rfl
theorem gh_ro_lf (T : TS) (v : Nat → Nat) : g_ro (h_lf T v) = g_ro T := rfl
theorem gh_ro_lo (T : TS) (v : Nat → Option Nat) : g_ro (h_lo T v) = g_ro T := rfl
theorem gh_ro_wm (T : TS) (v : Nat) : g_ro (h_wm T v) = g_ro T := rfl
theorem gh_ro_wr (T : TS) (v : Nat → Nat) : g_ro (h_wr T v) = g_ro T := rfl
theorem gh_ro_fo (T : TS) (v : Nat) : g_ro (h_fo T v) = g_ro T := rfl
theorem gh_ro_fi (T : TS) (v : Nat → Int32) : g_ro (h_fi T v) = g_ro T := rfl
theorem gh_ro_hr (T : TS) (v : Nat → Bool) : g_ro (h_hr T v) = g_ro T := rfl
theorem gh_ro_rk (T : TS) (v : Nat → Nat) : g_ro (h_rk T v) = g_ro T := rfl
theorem gh_ro_rs (T : TS) (v : Nat → Nat) : g_ro (h_rs T v) = g_ro T := rfl
theorem gh_ro_rr (T : TS) (v : Nat → Nat → Option Nat) : g_ro (h_rr T v) = g_ro T := rfl
theorem gh_ro_hs (T : TS) (v : Nat → Bool) : g_ro (h_hs T v) = g_ro T := rfl
theorem gh_ro_sk (T : TS) (v : Nat → Nat) : g_ro (h_sk T v) = g_ro T := rfl
theorem gh_ro_ss (T : TS) (v : Nat → Nat) : g_ro (h_ss T v) = g_ro T := rfl
theorem gh_ro_sr (T : TS) (v : Nat → Nat → Int32) : g_ro (h_sr T v) = g_ro T := rfl
theorem gh_ro_fa (T : TS) (v : Nat → Int32) : g_ro (h_fa T v) = g_ro T := rfl
theorem gh_ro_su (T : TS) (v : Int32) : g_ro (h_su T v) = g_ro T := rfl
theorem gh_ro_tr (T : TS) (v : Int64) : g_ro (h_tr T v) = g_ro T := rfl
theorem gh_ro_ro (T : TS) (v : Nat → Nat → Nat) : g_ro (h_ro T v) = v := rfl
theorem gh_te_ct (T : TS) (v : Nat) : g_te (h_ct T v) = g_te T := rfl
theorem gh_te_cu (T : TS) (v : Nat) : g_te (h_cu T v) = g_te T := rfl
theorem gh_te_cl (T : TS) (v : Nat) : g_te (h_cl T v) = g_te T := rfl
theorem gh_te_np (T : TS) (v : Nat) : g_te (h_np T v) = g_te T := rfl
theorem gh_te_pk (T : TS) (v : Nat → Nat) : g_te (h_pk T v) = g_te T := rfl
theorem gh_te_nb (T : TS) (v : Nat) : g_te (h_nb T v) = g_te T := rfl
theorem gh_te_bt (T : TS) (v : Nat → Nat) : g_te (h_bt T v) = g_te T := rfl
theorem gh_te_ev (T : TS) (v : Nat) : g_te (h_ev T v) = g_te T := rfl
theorem gh_te_th (T : TS) (v : Nat → Bool) : g_te (h_th T v) = g_te T := rfl
theorem gh_te_vo (T : TS) (v : Nat → Nat) : g_te (h_vo T v) = g_te T := rfl
theorem gh_te_kd (T : TS) (v : Nat → Nat) : g_te (h_kd T v) = g_te T := rfl
theorem gh_te_pn (T : TS) (v : Nat → Nat) : g_te (h_pn T v) = g_te T := rfl
theorem gh_te_pi (T : TS) (v : Nat → Nat → Int32) : g_te (h_pi T v) = g_te T := rfl
theorem gh_te_va (T : TS) (v : Nat → Nat) : g_te (h_va T v) = g_te T := rfl
theorem gh_te_dt (T : TS) (v : Nat → Nat) : g_te (h_dt T v) = g_te T := rfl
theorem gh_te_ti (T : TS) (v : Nat → Bool) : g_te (h_ti T v) = g_te T := rfl
theorem gh_te_pl (T : TS) (v : Nat → Nat) : g_te (h_pl T v) = g_te T := rfl
theorem gh_te_mn (T : TS) (v : Nat → Nat) : g_te (h_mn T v) = g_te T := rfl
theorem gh_te_ro (T : TS) (v : Nat → Nat → Nat) : g_te (h_ro T v) = g_te T := rfl
theorem gh_te_tt (T : TS) (v : Nat → Bool) : g_te (h_tt T v) = g_te T := rfl
theorem gh_te_tv (T : TS) (v : Nat → Nat) : g_te (h_tv T v) = g_te T := rfl
theorem gh_te_tf (T : TS) (v : Nat → Nat) : g_te (h_tf T v) = g_te T := rfl
theorem gh_te_tl (T : TS) (v : Nat → Nat) : g_te (h_tl T v) = g_te T := rfl
theorem gh_te_tn (T : TS) (v : Nat → Nat) : g_te (h_tn T v) = g_te T := rfl
theorem gh_te_tm (T : TS) (v : Nat → Nat) : g_te (h_tm T v) = g_te T := rfl
theorem gh_te_tu (T : TS) (v : Nat → Nat) : g_te (h_tu T v) = g_te T := rfl
theorem gh_te_le (T : TS) (v : Nat) : g_te (h_le T v) = g_te T := rfl
theorem gh_te_lt (T : TS) (v : Nat → Bool) : g_te (h_lt T v) = g_te T := rfl
theorem gh_te_lk (T : TS) (v : Nat → Nat) : g_te (h_lk T v) = g_te T := rfl
theorem gh_te_lf (T : TS) (v : Nat → Nat) : g_te (h_lf T v) = g_te T := rfl
theorem gh_te_lo (T : TS) (v : Nat → Option Nat) : g_te (h_lo T v) = g_te T := rfl
theorem gh_te_wm (T : TS) (v : Nat) : g_te (h_wm T v) = g_te T := rfl
theorem gh_te_wr (T : TS) (v : Nat → Nat) : g_te (h_wr T v) = g_te T := rfl
theorem gh_te_fo (T : TS) (v : Nat) : g_te (h_fo T v) = g_te T := rfl
theorem gh_te_fi (T : TS) (v : Nat → Int32) : g_te (h_fi T v) = g_te T := rfl
theorem gh_te_hr (T : TS) (v : Nat → Bool) : g_te (h_hr T v) = g_te T := rfl
theorem gh_te_rk (T : TS) (v : Nat → Nat) : g_te (h_rk T v) = g_te T := rfl
theorem gh_te_rs (T : TS) (v : Nat → Nat) : g_te (h_rs T v) = g_te T := rfl
theorem gh_te_rr (T : TS) (v : Nat → Nat → Option Nat) : g_te (h_rr T v) = g_te T := rfl
theorem gh_te_hs (T : TS) (v : Nat → Bool) : g_te (h_hs T v) = g_te T := rfl
theorem gh_te_sk (T : TS) (v : Nat → Nat) : g_te (h_sk T v) = g_te T := rfl
theorem gh_te_ss (T : TS) (v : Nat → Nat) : g_te (h_ss T v) = g_te T := rfl
theorem gh_te_sr (T : TS) (v : Nat → Nat → Int32) : g_te (h_sr T v) = g_te T := rfl
theorem gh_te_fa (T : TS) (v : Nat → Int32) : g_te (h_fa T v) = g_te T := rfl
theorem gh_te_su (T : TS) (v : Int32) : g_te (h_su T v) = g_te T := rfl
theorem gh_te_tr (T : TS) (v : Int64) : g_te (h_tr T v) = g_te T := rfl
theorem gh_te_te (T : TS) (v : Nat) : g_te (h_te T v) = v := rfl
theorem gh_tt_ct (T : TS) (v : Nat) : g_tt (h_ct T v) = g_tt T := rfl
theorem gh_tt_cu (T : TS) (v : Nat) : g_tt (h_cu T v) = g_tt T := rfl
theorem gh_tt_cl (T : TS) (v : Nat) : g_tt (h_cl T v) = g_tt T := rfl
theorem gh_tt_np (T : TS) (v : Nat) : g_tt (h_np T v) = g_tt T := rfl
theorem gh_tt_pk (T : TS) (v : Nat → Nat) : g_tt (h_pk T v) = g_tt T := rfl
theorem gh_tt_nb (T : TS) (v : Nat) : g_tt (h_nb T v) = g_tt T := rfl
theorem gh_tt_bt (T : TS) (v : Nat → Nat) : g_tt (h_bt T v) = g_tt T := rfl
theorem gh_tt_ev (T : TS) (v : Nat) : g_tt (h_ev T v) = g_tt T := rfl
theorem gh_tt_th (T : TS) (v : Nat → Bool) : g_tt (h_th T v) = g_tt T := rfl
theorem gh_tt_vo (T : TS) (v : Nat → Nat) : g_tt (h_vo T v) = g_tt T := rfl
theorem gh_tt_kd (T : TS) (v : Nat → Nat) : g_tt (h_kd T v) = g_tt T := rfl
theorem gh_tt_pn (T : TS) (v : Nat → Nat) : g_tt (h_pn T v) = g_tt T := rfl
theorem gh_tt_pi (T : TS) (v : Nat → Nat → Int32) : g_tt (h_pi T v) = g_tt T := rfl
theorem gh_tt_va (T : TS) (v : Nat → Nat) : g_tt (h_va T v) = g_tt T := rfl
theorem gh_tt_dt (T : TS) (v : Nat → Nat) : g_tt (h_dt T v) = g_tt T := rfl
theorem gh_tt_ti (T : TS) (v : Nat → Bool) : g_tt (h_ti T v) = g_tt T := rfl
theorem gh_tt_pl (T : TS) (v : Nat → Nat) : g_tt (h_pl T v) = g_tt T := rfl
theorem gh_tt_mn (T : TS) (v : Nat → Nat) : g_tt (h_mn T v) = g_tt T := rfl
theorem gh_tt_ro (T : TS) (v : Nat → Nat → Nat) : g_tt (h_ro T v) = g_tt T := rfl
theorem gh_tt_te (T : TS) (v : Nat) : g_tt (h_te T v) = g_tt T := rfl
theorem gh_tt_tv (T : TS) (v : Nat → Nat) : g_tt (h_tv T v) = g_tt T := rfl
theorem gh_tt_tf (T : TS) (v : Nat → Nat) : g_tt (h_tf T v) = g_tt T := rfl
theorem gh_tt_tl (T : TS) (v : Nat → Nat) : g_tt (h_tl T v) = g_tt T := rfl
theorem gh_tt_tn (T : TS) (v : Nat → Nat) : g_tt (h_tn T v) = g_tt T := rfl
theorem gh_tt_tm (T : TS) (v : Nat → Nat) : g_tt (h_tm T v) = g_tt T := rfl
theorem gh_tt_tu (T : TS) (v : Nat → Nat) : g_tt (h_tu T v) = g_tt T := rfl
theorem gh_tt_le (T : TS) (v : Nat) : g_tt (h_le T v) = g_tt T := rfl
theorem gh_tt_lt (T : TS) (v : Nat → Bool) : g_tt (h_lt T v) = g_tt T := rfl
theorem gh_tt_lk (T : TS) (v : Nat → Nat) : g_tt (h_lk T v) = g_tt T := rfl
theorem gh_tt_lf (T : TS) (v : Nat → Nat) : g_tt (h_lf T v) = g_tt T := rfl
theorem gh_tt_lo (T : TS) (v : Nat → Option Nat) : g_tt (h_lo T v) = g_tt T := rfl
theorem gh_tt_wm (T : TS) (v : Nat) : g_tt (h_wm T v) = g_tt T := rfl
theorem gh_tt_wr (T : TS) (v : Nat → Nat) : g_tt (h_wr T v) = g_tt T := rfl
theorem gh_tt_fo (T : TS) (v : Nat) : g_tt (h_fo T v) = g_tt T := rfl
theorem gh_tt_fi (T : TS) (v : Nat → Int32) : g_tt (h_fi T v) = g_tt T := rfl
theorem gh_tt_hr (T : TS) (v : Nat → Bool) : g_tt (h_hr T v) = g_tt T := rfl
theorem gh_tt_rk (T : TS) (v : Nat → Nat) : g_tt (h_rk T v) = g_tt T := rfl
theorem gh_tt_rs (T : TS) (v : Nat → Nat) : g_tt (h_rs T v) = g_tt T := rfl
theorem gh_tt_rr (T : TS) (v : Nat → Nat → Option Nat) : g_tt (h_rr T v) = g_tt T := rfl
theorem gh_tt_hs (T : TS) (v : Nat → Bool) : g_tt (h_hs T v) = g_tt T := rfl
theorem gh_tt_sk (T : TS) (v : Nat → Nat) : g_tt (h_sk T v) = g_tt T := rfl
theorem gh_tt_ss (T : TS) (v : Nat → Nat) : g_tt (h_ss T v) = g_tt T := rfl
theorem gh_tt_sr (T : TS) (v : Nat → Nat → Int32) : g_tt (h_sr T v) = g_tt T := rfl
theorem gh_tt_fa (T : TS) (v : Nat → Int32) : g_tt (h_fa T v) = g_tt T := rfl
theorem gh_tt_su (T : TS) (v : Int32) : g_tt (h_su T v) = g_tt T := rfl
theorem gh_tt_tr (T : TS) (v : Int64) : g_tt (h_tr T v) = g_tt T := rfl
theorem gh_tt_tt (T : TS) (v : Nat → Bool) : g_tt (h_tt T v) = v := rfl
theorem gh_tv_ct (T : TS) (v : Nat) : g_tv (h_ct T v) = g_tv T := rfl
theorem gh_tv_cu (T : TS) (v : Nat) : g_tv (h_cu T v) = g_tv T := rfl
theorem gh_tv_cl (T : TS) (v : Nat) : g_tv (h_cl T v) = g_tv T := rfl
theorem gh_tv_np (T : TS) (v : Nat) : g_tv (h_np T v) = g_tv T := rfl
theorem gh_tv_pk (T : TS) (v : Nat → Nat) : g_tv (h_pk T v) = g_tv T := rfl
theorem gh_tv_nb (T : TS) (v : Nat) : g_tv (h_nb T v) = g_tv T := rfl
theorem gh_tv_bt (T : TS) (v : Nat → Nat) : g_tv (h_bt T v) = g_tv T := rfl
theorem gh_tv_ev (T : TS) (v : Nat) : g_tv (h_ev T v) = g_tv T := rfl
theorem gh_tv_th (T : TS) (v : Nat → Bool) : g_tv (h_th T v) = g_tv T := rfl
theorem gh_tv_vo (T : TS) (v : Nat → Nat) : g_tv (h_vo T v) = g_tv T := rfl
theorem gh_tv_kd (T : TS) (v : Nat → Nat) : g_tv (h_kd T v) = g_tv T := rfl
theorem gh_tv_pn (T : TS) (v : Nat → Nat) : g_tv (h_pn T v) = g_tv T := rfl
theorem gh_tv_pi (T : TS) (v : Nat → Nat → Int32) : g_tv (h_pi T v) = g_tv T := rfl
theorem gh_tv_va (T : TS) (v : Nat → Nat) : g_tv (h_va T v) = g_tv T := rfl
theorem gh_tv_dt (T : TS) (v : Nat → Nat) : g_tv (h_dt T v) = g_tv T := rfl
theorem gh_tv_ti (T : TS) (v : Nat → Bool) : g_tv (h_ti T v) = g_tv T := rfl
theorem gh_tv_pl (T : TS) (v : Nat → Nat) : g_tv (h_pl T v) = g_tv T := rfl
theorem gh_tv_mn (T : TS) (v : Nat → Nat) : g_tv (h_mn T v) = g_tv T := rfl
theorem gh_tv_ro (T : TS) (v : Nat → Nat → Nat) : g_tv (h_ro T v) = g_tv T := rfl
theorem gh_tv_te (T : TS) (v : Nat) : g_tv (h_te T v) = g_tv T := rfl
theorem gh_tv_tt (T : TS) (v : Nat → Bool) : g_tv (h_tt T v) = g_tv T := rfl
theorem gh_tv_tf (T : TS) (v : Nat → Nat) : g_tv (h_tf T v) = g_tv T := rfl
theorem gh_tv_tl (T : TS) (v : Nat → Nat) : g_tv (h_tl T v) = g_tv T := rfl
theorem gh_tv_tn (T : TS) (v : Nat → Nat) : g_tv (h_tn T v) = g_tv T := rfl
theorem gh_tv_tm (T : TS) (v : Nat → Nat) : g_tv (h_tm T v) = g_tv T := rfl
theorem gh_tv_tu (T : TS) (v : Nat → Nat) : g_tv (h_tu T v) = g_tv T := rfl
theorem gh_tv_le (T : TS) (v : Nat) : g_tv (h_le T v) = g_tv T := rfl
theorem gh_tv_lt (T : TS) (v : Nat → Bool) : g_tv (h_lt T v) = g_tv T := rfl
theorem gh_tv_lk (T : TS) (v : Nat → Nat) : g_tv (h_lk T v) = g_tv T := rfl
theorem gh_tv_lf (T : TS) (v : Nat → Nat) : g_tv (h_lf T v) = g_tv T := rfl
theorem gh_tv_lo (T : TS) (v : Nat → Option Nat) : g_tv (h_lo T v) = g_tv T := rfl
theorem gh_tv_wm (T : TS) (v : Nat) : g_tv (h_wm T v) = g_tv T := rfl
theorem gh_tv_wr (T : TS) (v : Nat → Nat) : g_tv (h_wr T v) = g_tv T := rfl
theorem gh_tv_fo (T : TS) (v : Nat) : g_tv (h_fo T v) = g_tv T := rfl
theorem gh_tv_fi (T : TS) (v : Nat → Int32) : g_tv (h_fi T v) = g_tv T := rfl
theorem gh_tv_hr (T : TS) (v : Nat → Bool) : g_tv (h_hr T v) = g_tv T := rfl
theorem gh_tv_rk (T : TS) (v : Nat → Nat) : g_tv (h_rk T v) = g_tv T := rfl
theorem gh_tv_rs (T : TS) (v : Nat → Nat) : g_tv (h_rs T v) = g_tv T := rfl
theorem gh_tv_rr (T : TS) (v : Nat → Nat → Option Nat) : g_tv (h_rr T v) = g_tv T := rfl
theorem gh_tv_hs (T : TS) (v : Nat → Bool) : g_tv (h_hs T v) = g_tv T := rfl
theorem gh_tv_sk (T : TS) (v : Nat → Nat) : g_tv (h_sk T v) = g_tv T := rfl
theorem gh_tv_ss (T : TS) (v : Nat → Nat) : g_tv (h_ss T v) = g_tv T := rfl
theorem gh_tv_sr (T : TS) (v : Nat → Nat → Int32) : g_tv (h_sr T v) = g_tv T := rfl
theorem gh_tv_fa (T : TS) (v : Nat → Int32) : g_tv (h_fa T v) = g_tv T := rfl
theorem gh_tv_su (T : TS) (v : Int32) : g_tv (h_su T v) = g_tv T := rfl
theorem gh_tv_tr (T : TS) (v : Int64) : g_tv (h_tr T v) = g_tv T := rfl
theorem gh_tv_tv (T : TS) (v : Nat → Nat) : g_tv (h_tv T v) = v := rfl
theorem gh_tf_ct (T : TS) (v : Nat) : g_tf (h_ct T v) = g_tf T := rfl
theorem gh_tf_cu (T : TS) (v : Nat) : g_tf (h_cu T v) = g_tf T := rfl
theorem gh_tf_cl (T : TS) (v : Nat) : g_tf (h_cl T v) = g_tf T := rfl
theorem gh_tf_np (T : TS) (v : Nat) : g_tf (h_np T v) = g_tf T := rfl
theorem gh_tf_pk (T : TS) (v : Nat → Nat) : g_tf (h_pk T v) = g_tf T := rfl
theorem gh_tf_nb (T : TS) (v : Nat) : g_tf (h_nb T v) = g_tf T := rfl
theorem gh_tf_bt (T : TS) (v : Nat → Nat) : g_tf (h_bt T v) = g_tf T := rfl
theorem gh_tf_ev (T : TS) (v : Nat) : g_tf (h_ev T v) = g_tf T := rfl
theorem gh_tf_th (T : TS) (v : Nat → Bool) : g_tf (h_th T v) = g_tf T := rfl
theorem gh_tf_vo (T : TS) (v : Nat → Nat) : g_tf (h_vo T v) = g_tf T := rfl
theorem gh_tf_kd (T : TS) (v : Nat → Nat) : g_tf (h_kd T v) = g_tf T := rfl
theorem gh_tf_pn (T : TS) (v : Nat → Nat) : g_tf (h_pn T v) = g_tf T := rfl
theorem gh_tf_pi (T : TS) (v : Nat → Nat → Int32) : g_tf (h_pi T v) = g_tf T := rfl
theorem gh_tf_va (T : TS) (v : Nat → Nat) : g_tf (h_va T v) = g_tf T := rfl
theorem gh_tf_dt (T : TS) (v : Nat → Nat) : g_tf (h_dt T v) = g_tf T := rfl
theorem gh_tf_ti (T : TS) (v : Nat → Bool) : g_tf (h_ti T v) = g_tf T := rfl
theorem gh_tf_pl (T : TS) (v : Nat → Nat) : g_tf (h_pl T v) = g_tf T := rfl
theorem gh_tf_mn (T : TS) (v : Nat → Nat) : g_tf (h_mn T v) = g_tf T := rfl
theorem gh_tf_ro (T : TS) (v : Nat → Nat → Nat) : g_tf (h_ro T v) = g_tf T := rfl
theorem gh_tf_te (T : TS) (v : Nat) : g_tf (h_te T v) = g_tf T := rfl
theorem gh_tf_tt (T : TS) (v : Nat → Bool) : g_tf (h_tt T v) = g_tf T := rfl
theorem gh_tf_tv (T : TS) (v : Nat → Nat) : g_tf (h_tv T v) = g_tf T := rfl
theorem gh_tf_tl (T : TS) (v : Nat → Nat) : g_tf (h_tl T v) = g_tf T := rfl
theorem gh_tf_tn (T : TS) (v : Nat → Nat) : g_tf (h_tn T v) = g_tf T := rfl
theorem gh_tf_tm (T : TS) (v : Nat → Nat) : g_tf (h_tm T v) = g_tf T := rfl
theorem gh_tf_tu (T : TS) (v : Nat → Nat) : g_tf (h_tu T v) = g_tf T := rfl
theorem gh_tf_le (T : TS) (v : Nat) : g_tf (h_le T v) = g_tf T := rfl
theorem gh_tf_lt (T : TS) (v : Nat → Bool) : g_tf (h_lt T v) = g_tf T := rfl
theorem gh_tf_lk (T : TS) (v : Nat → Nat) : g_tf (h_lk T v) = g_tf T := rfl
theorem gh_tf_lf (T : TS) (v : Nat → Nat) : g_tf (h_lf T v) = g_tf T := rfl
theorem gh_tf_lo (T : TS) (v : Nat → Option Nat) : g_tf (h_lo T v) = g_tf T := rfl
theorem gh_tf_wm (T : TS) (v : Nat) : g_tf (h_wm T v) = g_tf T := rfl
theorem gh_tf_wr (T : TS) (v : Nat → Nat) : g_tf (h_wr T v) = g_tf T := rfl
theorem gh_tf_fo (T : TS) (v : Nat) : g_tf (h_fo T v) = g_tf T := rfl
theorem gh_tf_fi (T : TS) (v : Nat → Int32) : g_tf (h_fi T v) = g_tf T := rfl
theorem gh_tf_hr (T : TS) (v : Nat → Bool) : g_tf (h_hr T v) = g_tf T := rfl
theorem gh_tf_rk (T : TS) (v : Nat → Nat) : g_tf (h_rk T v) = g_tf T := rfl
theorem gh_tf_rs (T : TS) (v : Nat → Nat) : g_tf (h_rs T v) = g_tf T := rfl
theorem gh_tf_rr (T : TS) (v : Nat → Nat → Option Nat) : g_tf (h_rr T v) = g_tf T := rfl
theorem gh_tf_hs (T : TS) (v : Nat → Bool) : g_tf (h_hs T v) = g_tf T := rfl
theorem gh_tf_sk (T : TS) (v : Nat → Nat) : g_tf (h_sk T v) = g_tf T := rfl
theorem gh_tf_ss (T : TS) (v : Nat → Nat) : g_tf (h_ss T v) = g_tf T := rfl
theorem gh_tf_sr (T : TS) (v : Nat → Nat → Int32) : g_tf (h_sr T v) = g_tf T := rfl
theorem gh_tf_fa (T : TS) (v : Nat → Int32) : g_tf (h_fa T v) = g_tf T := rfl
theorem gh_tf_su (T : TS) (v : Int32) : g_tf (h_su T v) = g_tf T := rfl
theorem gh_tf_tr (T : TS) (v : Int64) : g_tf (h_tr T v) = g_tf T := rfl
theorem gh_tf_tf (T : TS) (v : Nat → Nat) : g_tf (h_tf T v) = v := rfl
theorem gh_tl_ct (T : TS) (v : Nat) : g_tl (h_ct T v) = g_tl T := rfl
theorem gh_tl_cu (T : TS) (v : Nat) : g_tl (h_cu T v) = g_tl T := rfl
theorem gh_tl_cl (T : TS) (v : Nat) : g_tl (h_cl T v) = g_tl T := rfl
theorem gh_tl_np (T : TS) (v : Nat) : g_tl (h_np T v) = g_tl T := rfl
theorem gh_tl_pk (T : TS) (v : Nat → Nat) : g_tl (h_pk T v) = g_tl T := rfl
theorem gh_tl_nb (T : TS) (v : Nat) : g_tl (h_nb T v) = g_tl T := rfl
theorem gh_tl_bt (T : TS) (v : Nat → Nat) : g_tl (h_bt T v) = g_tl T := rfl
theorem gh_tl_ev (T : TS) (v : Nat) : g_tl (h_ev T v) = g_tl T := rfl
theorem gh_tl_th (T : TS) (v : Nat → Bool) : g_tl (h_th T v) = g_tl T := rfl
theorem gh_tl_vo (T : TS) (v : Nat → Nat) : g_tl (h_vo T v) = g_tl T := rfl
theorem gh_tl_kd (T : TS) (v : Nat → Nat) : g_tl (h_kd T v) = g_tl T := rfl
theorem gh_tl_pn (T : TS) (v : Nat → Nat) : g_tl (h_pn T v) = g_tl T := rfl
theorem gh_tl_pi (T : TS) (v : Nat → Nat → Int32) : g_tl (h_pi T v) = g_tl T := rfl
theorem gh_tl_va (T : TS) (v : Nat → Nat) : g_tl (h_va T v) = g_tl T := rfl
theorem gh_tl_dt (T : TS) (v : Nat → Nat) : g_tl (h_dt T v) = g_tl T := rfl
theorem gh_tl_ti (T : TS) (v : Nat → Bool) : g_tl (h_ti T v) = g_tl T := rfl
theorem gh_tl_pl (T : TS) (v : Nat → Nat) : g_tl (h_pl T v) = g_tl T := rfl
theorem gh_tl_mn (T : TS) (v : Nat → Nat) : g_tl (h_mn T v) = g_tl T := rfl
theorem gh_tl_ro (T : TS) (v : Nat → Nat → Nat) : g_tl (h_ro T v) = g_tl T := rfl
theorem gh_tl_te (T : TS) (v : Nat) : g_tl (h_te T v) = g_tl T := rfl
theorem gh_tl_tt (T : TS) (v : Nat → Bool) : g_tl (h_tt T v) = g_tl T := rfl
theorem gh_tl_tv (T : TS) (v : Nat → Nat) : g_tl (h_tv T v) = g_tl T := rfl
theorem gh_tl_tf (T : TS) (v : Nat → Nat) : g_tl (h_tf T v) = g_tl T := rfl
theorem gh_tl_tn (T : TS) (v : Nat → Nat) : g_tl (h_tn T v) = g_tl T := rfl
theorem gh_tl_tm (T : TS) (v : Nat → Nat) : g_tl (h_tm T v) = g_tl T := rfl
theorem gh_tl_tu (T : TS) (v : Nat → Nat) : g_tl (h_tu T v) = g_tl T := rfl
theorem gh_tl_le (T : TS) (v : Nat) : g_tl (h_le T v) = g_tl T := rfl
theorem gh_tl_lt (T : TS) (v : Nat → Bool) : g_tl (h_lt T v) = g_tl T := rfl
theorem gh_tl_lk (T : TS) (v : Nat → Nat) : g_tl (h_lk T v) = g_tl T := rfl
theorem gh_tl_lf (T : TS) (v : Nat → Nat) : g_tl (h_lf T v) = g_tl T := rfl
theorem gh_tl_lo (T : TS) (v : Nat → Option Nat) : g_tl (h_lo T v) = g_tl T := rfl
theorem gh_tl_wm (T : TS) (v : Nat) : g_tl (h_wm T v) = g_tl T := rfl
theorem gh_tl_wr (T : TS) (v : Nat → Nat) : g_tl (h_wr T v) = g_tl T := rfl
theorem gh_tl_fo (T : TS) (v : Nat) : g_tl (h_fo T v) = g_tl T := rfl
theorem gh_tl_fi (T : TS) (v : Nat → Int32) : g_tl (h_fi T v) = g_tl T := rfl
theorem gh_tl_hr (T : TS) (v : Nat → Bool) : g_tl (h_hr T v) = g_tl T := rfl
theorem gh_tl_rk (T : TS) (v : Nat → Nat) : g_tl (h_rk T v) = g_tl T := rfl
theorem gh_tl_rs (T : TS) (v : Nat → Nat) : g_tl (h_rs T v) = g_tl T := rfl
theorem gh_tl_rr (T : TS) (v : Nat → Nat → Option Nat) : g_tl (h_rr T v) = g_tl T := rfl
theorem gh_tl_hs (T : TS) (v : Nat → Bool) : g_tl (h_hs T v) = g_tl T := rfl
theorem gh_tl_sk (T : TS) (v : Nat → Nat) : g_tl (h_sk T v) = g_tl T := rfl
theorem gh_tl_ss (T : TS) (v : Nat → Nat) : g_tl (h_ss T v) = g_tl T := rfl
theorem gh_tl_sr (T : TS) (v : Nat → Nat → Int32) : g_tl (h_sr T v) = g_tl T := rfl
theorem gh_tl_fa (T : TS) (v : Nat → Int32) : g_tl (h_fa T v) = g_tl T := rfl
theorem gh_tl_su (T : TS) (v : Int32) : g_tl (h_su T v) = g_tl T := rfl
theorem gh_tl_tr (T : TS) (v : Int64) : g_tl (h_tr T v) = g_tl T := rfl
theorem gh_tl_tl (T : TS) (v : Nat → Nat) : g_tl (h_tl T v) = v := rfl
theorem gh_tn_ct (T : TS) (v : Nat) : g_tn (h_ct T v) = g_tn T := rfl
theorem gh_tn_cu (T : TS) (v : Nat) : g_tn (h_cu T v) = g_tn T := rfl
theorem gh_tn_cl (T : TS) (v : Nat) : g_tn (h_cl T v) = g_tn T := rfl
theorem gh_tn_np (T : TS) (v : Nat) : g_tn (h_np T v) = g_tn T := rfl
theorem gh_tn_pk (T : TS) (v : Nat → Nat) : g_tn (h_pk T v) = g_tn T := rfl
theorem gh_tn_nb (T : TS) (v : Nat) : g_tn (h_nb T v) = g_tn T := rfl
theorem gh_tn_bt (T : TS) (v : Nat → Nat) : g_tn (h_bt T v) = g_tn T := rfl
theorem gh_tn_ev (T : TS) (v : Nat) : g_tn (h_ev T v) = g_tn T := rfl
theorem gh_tn_th (T : TS) (v : Nat → Bool) : g_tn (h_th T v) = g_tn T := rfl
theorem gh_tn_vo (T : TS) (v : Nat → Nat) : g_tn (h_vo T v) = g_tn T := rfl
theorem gh_tn_kd (T : TS) (v : Nat → Nat) : g_tn (h_kd T v) = g_tn T := rfl
theorem gh_tn_pn (T : TS) (v : Nat → Nat) : g_tn (h_pn T v) = g_tn T := rfl
theorem gh_tn_pi (T : TS) (v : Nat → Nat → Int32) : g_tn (h_pi T v) = g_tn T := rfl
theorem gh_tn_va (T : TS) (v : Nat → Nat) : g_tn (h_va T v) = g_tn T := rfl
theorem gh_tn_dt (T : TS) (v : Nat → Nat) : g_tn (h_dt T v) = g_tn T := rfl
theorem gh_tn_ti (T : TS) (v : Nat → Bool) : g_tn (h_ti T v) = g_tn T := rfl
theorem gh_tn_pl (T : TS) (v : Nat → Nat) : g_tn (h_pl T v) = g_tn T := rfl
theorem gh_tn_mn (T : TS) (v : Nat → Nat) : g_tn (h_mn T v) = g_tn T := rfl
theorem gh_tn_ro (T : TS) (v : Nat → Nat → Nat) : g_tn (h_ro T v) = g_tn T := rfl
theorem gh_tn_te (T : TS) (v : Nat) : g_tn (h_te T v) = g_tn T := rfl
theorem gh_tn_tt (T : TS) (v : Nat → Bool) : g_tn (h_tt T v) = g_tn T := rfl
theorem gh_tn_tv (T : TS) (v : Nat → Nat) : g_tn (h_tv T v) = g_tn T := rfl
theorem gh_tn_tf (T : TS) (v : Nat → Nat) : g_tn (h_tf T v) = g_tn T := rfl
theorem gh_tn_tl (T : TS) (v : Nat → Nat) : g_tn (h_tl T v) = g_tn T := rfl
theorem gh_tn_tm (T : TS) (v : Nat → Nat) : g_tn (h_tm T v) = g_tn T := rfl
theorem gh_tn_tu (T : TS) (v : Nat → Nat) : g_tn (h_tu T v) = g_tn T := rfl
theorem gh_tn_le (T : TS) (v : Nat) : g_tn (h_le T v) = g_tn T := rfl
theorem gh_tn_lt (T : TS) (v : Nat → Bool) : g_tn (h_lt T v) = g_tn T := rfl
theorem gh_tn_lk (T : TS) (v : Nat → Nat) : g_tn (h_lk T v) = g_tn T := rfl
theorem gh_tn_lf (T : TS) (v : Nat → Nat) : g_tn (h_lf T v) = g_tn T := rfl
theorem gh_tn_lo (T : TS) (v : Nat → Option Nat) : g_tn (h_lo T v) = g_tn T := rfl
theorem gh_tn_wm (T : TS) (v : Nat) : g_tn (h_wm T v) = g_tn T := rfl
theorem gh_tn_wr (T : TS) (v : Nat → Nat) : g_tn (h_wr T v) = g_tn T := rfl
theorem gh_tn_fo (T : TS) (v : Nat) : g_tn (h_fo T v) = g_tn T := rfl
theorem gh_tn_fi (T : TS) (v : Nat → Int32) : g_tn (h_fi T v) = g_tn T := rfl
theorem gh_tn_hr (T : TS) (v : Nat → Bool) : g_tn (h_hr T v) = g_tn T := rfl
theorem gh_tn_rk (T : TS) (v : Nat → Nat) : g_tn (h_rk T v) = g_tn T := rfl
theorem gh_tn_rs (T : TS) (v : Nat → Nat) : g_tn (h_rs T v) = g_tn T := rfl
theorem gh_tn_rr (T : TS) (v : Nat → Nat → Option Nat) : g_tn (h_rr T v) = g_tn T := rfl
theorem gh_tn_hs (T : TS) (v : Nat → Bool) : g_tn (h_hs T v) = g_tn T := rfl
theorem gh_tn_sk (T : TS) (v : Nat → Nat) : g_tn (h_sk T v) = g_tn T := rfl
theorem gh_tn_ss (T : TS) (v : Nat → Nat) : g_tn (h_ss T v) = g_tn T := rfl
theorem gh_tn_sr (T : TS) (v : Nat → Nat → Int32) : g_tn (h_sr T v) = g_tn T := rfl
theorem gh_tn_fa (T : TS) (v : Nat → Int32) : g_tn (h_fa T v) = g_tn T := rfl
theorem gh_tn_su (T : TS) (v : Int32) : g_tn (h_su T v) = g_tn T := rfl
theorem gh_tn_tr (T : TS) (v : Int64) : g_tn (h_tr T v) = g_tn T := rfl
theorem gh_tn_tn (T : TS) (v : Nat → Nat) : g_tn (h_tn T v) = v := rfl
theorem gh_tm_ct (T : TS) (v : Nat) : g_tm (h_ct T v) = g_tm T := rfl
theorem gh_tm_cu (T : TS) (v : Nat) : g_tm (h_cu T v) = g_tm T := rfl
theorem gh_tm_cl (T : TS) (v : Nat) : g_tm (h_cl T v) = g_tm T := rfl
theorem gh_tm_np (T : TS) (v : Nat) : g_tm (h_np T v) = g_tm T := rfl
theorem gh_tm_pk (T : TS) (v : Nat → Nat) : g_tm (h_pk T v) = g_tm T := rfl
theorem gh_tm_nb (T : TS) (v : Nat) : g_tm (h_nb T v) = g_tm T := rfl
theorem gh_tm_bt (T : TS) (v : Nat → Nat) : g_tm (h_bt T v) = g_tm T := rfl
theorem gh_tm_ev (T : TS) (v : Nat) : g_tm (h_ev T v) = g_tm T := rfl
theorem gh_tm_th (T : TS) (v : Nat → Bool) : g_tm (h_th T v) = g_tm T := rfl
theorem gh_tm_vo (T : TS) (v : Nat → Nat) : g_tm (h_vo T v) = g_tm T := rfl
theorem gh_tm_kd (T : TS) (v : Nat → Nat) : g_tm (h_kd T v) = g_tm T := rfl
theorem gh_tm_pn (T : TS) (v : Nat → Nat) : g_tm (h_pn T v) = g_tm T := rfl
theorem gh_tm_pi (T : TS) (v : Nat → Nat → Int32) : g_tm (h_pi T v) = g_tm T := rfl
theorem gh_tm_va (T : TS) (v : Nat → Nat) : g_tm (h_va T v) = g_tm T := rfl
theorem gh_tm_dt (T : TS) (v : Nat → Nat) : g_tm (h_dt T v) = g_tm T := rfl
theorem gh_tm_ti (T : TS) (v : Nat → Bool) : g_tm (h_ti T v) = g_tm T := rfl
theorem gh_tm_pl (T : TS) (v : Nat → Nat) : g_tm (h_pl T v) = g_tm T := rfl
theorem gh_tm_mn (T : TS) (v : Nat → Nat) : g_tm (h_mn T v) = g_tm T := rfl
theorem gh_tm_ro (T : TS) (v : Nat → Nat → Nat) : g_tm (h_ro T v) = g_tm T := rfl
theorem gh_tm_te (T : TS) (v : Nat) : g_tm (h_te T v) = g_tm T := rfl
theorem gh_tm_tt (T : TS) (v : Nat → Bool) : g_tm (h_tt T v) = g_tm T := rfl
theorem gh_tm_tv (T : TS) (v : Nat → Nat) : g_tm (h_tv T v) = g_tm T := rfl
theorem gh_tm_tf (T : TS) (v : Nat → Nat) : g_tm (h_tf T v) = g_tm T := rfl
theorem gh_tm_tl (T : TS) (v : Nat → Nat) : g_tm (h_tl T v) = g_tm T := rfl
theorem gh_tm_tn (T : TS) (v : Nat → Nat) : g_tm (h_tn T v) = g_tm T := rfl
theorem gh_tm_tu (T : TS) (v : Nat → Nat) : g_tm (h_tu T v) = g_tm T := rfl
theorem gh_tm_le (T : TS) (v : Nat) : g_tm (h_le T v) = g_tm T := rfl
theorem gh_tm_lt (T : TS) (v : Nat → Bool) : g_tm (h_lt T v) = g_tm T := rfl
theorem gh_tm_lk (T : TS) (v : Nat → Nat) : g_tm (h_lk T v) = g_tm T := rfl
theorem gh_tm_lf (T : TS) (v : Nat → Nat) : g_tm (h_lf T v) = g_tm T := rfl
theorem gh_tm_lo (T : TS) (v : Nat → Option Nat) : g_tm (h_lo T v) = g_tm T := rfl
theorem gh_tm_wm (T : TS) (v : Nat) : g_tm (h_wm T v) = g_tm T := rfl
theorem gh_tm_wr (T : TS) (v : Nat → Nat) : g_tm (h_wr T v) = g_tm T := rfl
theorem gh_tm_fo (T : TS) (v : Nat) : g_tm (h_fo T v) = g_tm T := rfl
theorem gh_tm_fi (T : TS) (v : Nat → Int32) : g_tm (h_fi T v) = g_tm T := rfl
theorem gh_tm_hr (T : TS) (v : Nat → Bool) : g_tm (h_hr T v) = g_tm T := rfl
theorem gh_tm_rk (T : TS) (v : Nat → Nat) : g_tm (h_rk T v) = g_tm T := rfl
theorem gh_tm_rs (T : TS) (v : Nat → Nat) : g_tm (h_rs T v) = g_tm T := rfl
theorem gh_tm_rr (T : TS) (v : Nat → Nat → Option Nat) : g_tm (h_rr T v) = g_tm T := rfl
theorem gh_tm_hs (T : TS) (v : Nat → Bool) : g_tm (h_hs T v) = g_tm T := rfl
theorem gh_tm_sk (T : TS) (v : Nat → Nat) : g_tm (h_sk T v) = g_tm T := rfl
theorem gh_tm_ss (T : TS) (v : Nat → Nat) : g_tm (h_ss T v) = g_tm T := rfl
theorem gh_tm_sr (T : TS) (v : Nat → Nat → Int32) : g_tm (h_sr T v) = g_tm T := rfl
theorem gh_tm_fa (T : TS) (v : Nat → Int32) : g_tm (h_fa T v) = g_tm T := rfl
theorem gh_tm_su (T : TS) (v : Int32) : g_tm (h_su T v) = g_tm T := rfl
theorem gh_tm_tr (T : TS) (v : Int64) : g_tm (h_tr T v) = g_tm T := rfl
theorem gh_tm_tm (T : TS) (v : Nat → Nat) : g_tm (h_tm T v) = v := rfl
theorem gh_tu_ct (T : TS) (v : Nat) : g_tu (h_ct T v) = g_tu T := rfl
theorem gh_tu_cu (T : TS) (v : Nat) : g_tu (h_cu T v) = g_tu T := rfl
theorem gh_tu_cl (T : TS) (v : Nat) : g_tu (h_cl T v) = g_tu T := rfl
theorem gh_tu_np (T : TS) (v : Nat) : g_tu (h_np T v) = g_tu T := rfl
theorem gh_tu_pk (T : TS) (v : Nat → Nat) : g_tu (h_pk T v) = g_tu T := rfl
theorem gh_tu_nb (T : TS) (v : Nat) : g_tu (h_nb T v) = g_tu T := rfl
theorem gh_tu_bt (T : TS) (v : Nat → Nat) : g_tu (h_bt T v) = g_tu T := rfl
theorem gh_tu_ev (T : TS) (v : Nat) : g_tu (h_ev T v) = g_tu T := rfl
theorem gh_tu_th (T : TS) (v : Nat → Bool) : g_tu (h_th T v) = g_tu T := rfl
theorem gh_tu_vo (T : TS) (v : Nat → Nat) : g_tu (h_vo T v) = g_tu T := rfl
theorem gh_tu_kd (T : TS) (v : Nat → Nat) : g_tu (h_kd T v) = g_tu T := rfl
theorem gh_tu_pn (T : TS) (v : Nat → Nat) : g_tu (h_pn T v) = g_tu T := rfl
theorem gh_tu_pi (T : TS) (v : Nat → Nat → Int32) : g_tu (h_pi T v) = g_tu T := rfl
theorem gh_tu_va (T : TS) (v : Nat → Nat) : g_tu (h_va T v) = g_tu T := rfl
theorem gh_tu_dt (T : TS) (v : Nat → Nat) : g_tu (h_dt T v) = g_tu T := rfl
theorem gh_tu_ti (T : TS) (v : Nat → Bool) : g_tu (h_ti T v) = g_tu T := rfl
theorem gh_tu_pl (T : TS) (v : Nat → Nat) : g_tu (h_pl T v) = g_tu T := rfl
theorem gh_tu_mn (T : TS) (v : Nat → Nat) : g_tu (h_mn T v) = g_tu T := rfl
theorem gh_tu_ro (T : TS) (v : Nat → Nat → Nat) : g_tu (h_ro T v) = g_tu T := rfl
theorem gh_tu_te (T : TS) (v : Nat) : g_tu (h_te T v) = g_tu T := rfl
theorem gh_tu_tt (T : TS) (v : Nat → Bool) : g_tu (h_tt T v) = g_tu T := rfl
theorem gh_tu_tv (T : TS) (v : Nat → Nat) : g_tu (h_tv T v) = g_tu T := rfl
theorem gh_tu_tf (T : TS) (v : Nat → Nat) : g_tu (h_tf T v) = g_tu T := rfl
theorem gh_tu_tl (T : TS) (v : Nat → Nat) : g_tu (h_tl T v) = g_tu T := rfl
theorem gh_tu_tn (T : TS) (v : Nat → Nat) : g_tu (h_tn T v) = g_tu T := rfl
theorem gh_tu_tm (T : TS) (v : Nat → Nat) : g_tu (h_tm T v) = g_tu T := rfl
theorem gh_tu_le (T : TS) (v : Nat) : g_tu (h_le T v) = g_tu T := rfl
theorem gh_tu_lt (T : TS) (v : Nat → Bool) : g_tu (h_lt T v) = g_tu T := rfl
theorem gh_tu_lk (T : TS) (v : Nat → Nat) : g_tu (h_lk T v) = g_tu T := rfl
theorem gh_tu_lf (T : TS) (v : Nat → Nat) : g_tu (h_lf T v) = g_tu T := rfl
theorem gh_tu_lo (T : TS) (v : Nat → Option Nat) : g_tu (h_lo T v) = g_tu T := rfl
theorem gh_tu_wm (T : TS) (v : Nat) : g_tu (h_wm T v) = g_tu T := rfl
theorem gh_tu_wr (T : TS) (v : Nat → Nat) : g_tu (h_wr T v) = g_tu T := rfl
theorem gh_tu_fo (T : TS) (v : Nat) : g_tu (h_fo T v) = g_tu T := rfl
theorem gh_tu_fi (T : TS) (v : Nat → Int32) : g_tu (h_fi T v) = g_tu T := rfl
theorem gh_tu_hr (T : TS) (v : Nat → Bool) : g_tu (h_hr T v) = g_tu T := rfl
theorem gh_tu_rk (T : TS) (v : Nat → Nat) : g_tu (h_rk T v) = g_tu T := rfl
theorem gh_tu_rs (T : TS) (v : Nat → Nat) : g_tu (h_rs T v) = g_tu T := rfl
theorem gh_tu_rr (T : TS) (v : Nat → Nat → Option Nat) : g_tu (h_rr T v) = g_tu T := rfl
theorem gh_tu_hs (T : TS) (v : Nat → Bool) : g_tu (h_hs T v) = g_tu T := rfl
theorem gh_tu_sk (T : TS) (v : Nat → Nat) : g_tu (h_sk T v) = g_tu T := rfl
theorem gh_tu_ss (T : TS) (v : Nat → Nat) : g_tu (h_ss T v) = g_tu T := rfl
theorem gh_tu_sr (T : TS) (v : Nat → Nat → Int32) : g_tu (h_sr T v) = g_tu T := rfl
theorem gh_tu_fa (T : TS) (v : Nat → Int32) : g_tu (h_fa T v) = g_tu T := rfl
theorem gh_tu_su (T : TS) (v : Int32) : g_tu (h_su T v) = g_tu T := rfl
theorem gh_tu_tr (T : TS) (v : Int64) : g_tu (h_tr T v) = g_tu T := rfl
theorem gh_tu_tu (T : TS) (v : Nat → Nat) : g_tu (h_tu T v) = v := rfl
theorem gh_le_ct (T : TS) (v : Nat) : g_le (h_ct T v) = g_le T := rfl
theorem gh_le_cu (T : TS) (v : Nat) : g_le (h_cu T v) = g_le T := rfl
theorem gh_le_cl (T : TS) (v : Nat) : g_le (h_cl T v) = g_le T := rfl
theorem gh_le_np (T : TS) (v : Nat) : g_le (h_np T v) = g_le T := rfl
theorem gh_le_pk (T : TS) (v : Nat → Nat) : g_le (h_pk T v) = g_le T := rfl
theorem gh_le_nb (T : TS) (v : Nat) : g_le (h_nb T v) = g_le T := rfl
theorem gh_le_bt (T : TS) (v : Nat → Nat) : g_le (h_bt T v) = g_le T := rfl
theorem gh_le_ev (T : TS) (v : Nat) : g_le (h_ev T v) = g_le T := rfl
theorem gh_le_th (T : TS) (v : Nat → Bool) : g_le (h_th T v) = g_le T := rfl
theorem gh_le_vo (T : TS) (v : Nat → Nat) : g_le (h_vo T v) = g_le T := rfl
theorem gh_le_kd (T : TS) (v : Nat → Nat) : g_le (h_kd T v) = g_le T := rfl
theorem gh_le_pn (T : TS) (v : Nat → Nat) : g_le (h_pn T v) = g_le T := rfl
theorem gh_le_pi (T : TS) (v : Nat → Nat → Int32) : g_le (h_pi T v) = g_le T := rfl
theorem gh_le_va (T : TS) (v : Nat → Nat) : g_le (h_va T v) = g_le T := rfl
theorem gh_le_dt (T : TS) (v : Nat → Nat) : g_le (h_dt T v) = g_le T := rfl
theorem gh_le_ti (T : TS) (v : Nat → Bool) : g_le (h_ti T v) = g_le T := rfl
theorem gh_le_pl (T : TS) (v : Nat → Nat) : g_le (h_pl T v) = g_le T := rfl
theorem gh_le_mn (T : TS) (v : Nat → Nat) : g_le (h_mn T v) = g_le T := rfl
theorem gh_le_ro (T : TS) (v : Nat → Nat → Nat) : g_le (h_ro T v) = g_le T := rfl
theorem gh_le_te (T : TS) (v : Nat) : g_le (h_te T v) = g_le T := rfl
theorem gh_le_tt (T : TS) (v : Nat → Bool) : g_le (h_tt T v) = g_le T := rfl
theorem gh_le_tv (T : TS) (v : Nat → Nat) : g_le (h_tv T v) = g_le T := rfl
theorem gh_le_tf (T : TS) (v : Nat → Nat) : g_le (h_tf T v) = g_le T := rfl
theorem gh_le_tl (T : TS) (v : Nat → Nat) : g_le (h_tl T v) = g_le T := rfl
theorem gh_le_tn (T : TS) (v : Nat → Nat) : g_le (h_tn T v) = g_le T := rfl
theorem gh_le_tm (T : TS) (v : Nat → Nat) : g_le (h_tm T v) = g_le T := rfl
theorem gh_le_tu (T : TS) (v : Nat → Nat) : g_le (h_tu T v) = g_le T := rfl
theorem gh_le_lt (T : TS) (v : Nat → Bool) : g_le (h_lt T v) = g_le T := rfl
theorem gh_le_lk (T : TS) (v : Nat → Nat) : g_le (h_lk T v) = g_le T := rfl
theorem gh_le_lf (T : TS) (v : Nat → Nat) : g_le (h_lf T v) = g_le T := rfl
theorem gh_le_lo (T : TS) (v : Nat → Option Nat) : g_le (h_lo T v) = g_le T := rfl
theorem gh_le_wm (T : TS) (v : Nat) : g_le (h_wm T v) = g_le T := rfl
theorem gh_le_wr (T : TS) (v : Nat → Nat) : g_le (h_wr T v) = g_le T := rfl
theorem gh_le_fo (T : TS) (v : Nat) : g_le (h_fo T v) = g_le T := rfl
theorem gh_le_fi (T : TS) (v : Nat → Int32) : g_le (h_fi T v) = g_le T := rfl
theorem gh_le_hr (T : TS) (v : Nat → Bool) : g_le (h_hr T v) = g_le T := rfl
theorem gh_le_rk (T : TS) (v : Nat → Nat) : g_le (h_rk T v) = g_le T := rfl
theorem gh_le_rs (T : TS) (v : Nat → Nat) : g_le (h_rs T v) = g_le T := rfl
theorem gh_le_rr (T : TS) (v : Nat → Nat → Option Nat) : g_le (h_rr T v) = g_le T := rfl
theorem gh_le_hs (T : TS) (v : Nat → Bool) : g_le (h_hs T v) = g_le T := rfl
theorem gh_le_sk (T : TS) (v : Nat → Nat) : g_le (h_sk T v) = g_le T := rfl
theorem gh_le_ss (T : TS) (v : Nat → Nat) : g_le (h_ss T v) = g_le T := rfl
theorem gh_le_sr (T : TS) (v : Nat → Nat → Int32) : g_le (h_sr T v) = g_le T := rfl
theorem gh_le_fa (T : TS) (v : Nat → Int32) : g_le (h_fa T v) = g_le T := rfl
theorem gh_le_su (T : TS) (v : Int32) : g_le (h_su T v) = g_le T := rfl
theorem gh_le_tr (T : TS) (v : Int64) : g_le (h_tr T v) = g_le T := rfl
theorem gh_le_le (T : TS) (v : Nat) : g_le (h_le T v) = v := rfl
theorem gh_lt_ct (T : TS) (v : Nat) : g_lt (h_ct T v) = g_lt T := rfl
theorem gh_lt_cu (T : TS) (v : Nat) : g_lt (h_cu T v) = g_lt T := rfl
theorem gh_lt_cl (T : TS) (v : Nat) : g_lt (h_cl T v) = g_lt T := rfl
theorem gh_lt_np (T : TS) (v : Nat) : g_lt (h_np T v) = g_lt T := rfl
theorem gh_lt_pk (T : TS) (v : Nat → Nat) : g_lt (h_pk T v) = g_lt T := rfl
theorem gh_lt_nb (T : TS) (v : Nat) : g_lt (h_nb T v) = g_lt T := rfl
theorem gh_lt_bt (T : TS) (v : Nat → Nat) : g_lt (h_bt T v) = g_lt T := rfl
theorem gh_lt_ev (T : TS) (v : Nat) : g_lt (h_ev T v) = g_lt T := rfl
theorem gh_lt_th (T : TS) (v : Nat → Bool) : g_lt (h_th T v) = g_lt T := rfl
theorem gh_lt_vo (T : TS) (v : Nat → Nat) : g_lt (h_vo T v) = g_lt T := rfl
theorem gh_lt_kd (T : TS) (v : Nat → Nat) : g_lt (h_kd T v) = g_lt T := rfl
theorem gh_lt_pn (T : TS) (v : Nat → Nat) : g_lt (h_pn T v) = g_lt T := rfl
theorem gh_lt_pi (T : TS) (v : Nat → Nat → Int32) : g_lt (h_pi T v) = g_lt T := rfl
theorem gh_lt_va (T : TS) (v : Nat → Nat) : g_lt (h_va T v) = g_lt T := rfl
theorem gh_lt_dt (T : TS) (v : Nat → Nat) : g_lt (h_dt T v) = g_lt T := rfl
theorem gh_lt_ti (T : TS) (v : Nat → Bool) : g_lt (h_ti T v) = g_lt T := rfl
theorem gh_lt_pl (T : TS) (v : Nat → Nat) : g_lt (h_pl T v) = g_lt T := rfl
theorem gh_lt_mn (T : TS) (v : Nat → Nat) : g_lt (h_mn T v) = g_lt T := rfl
theorem gh_lt_ro (T : TS) (v : Nat → Nat → Nat) : g_lt (h_ro T v) = g_lt T := rfl
theorem gh_lt_te (T : TS) (v : Nat) : g_lt (h_te T v) = g_lt T := rfl
theorem gh_lt_tt (T : TS) (v : Nat → Bool) : g_lt (h_tt T v) = g_lt T := rfl
theorem gh_lt_tv (T : TS) (v : Nat → Nat) : g_lt (h_tv T v) = g_lt T := rfl
theorem gh_lt_tf (T : TS) (v : Nat → Nat) : g_lt (h_tf T v) = g_lt T := rfl
theorem gh_lt_tl (T : TS) (v : Nat → Nat) : g_lt (h_tl T v) = g_lt T := rfl
theorem gh_lt_tn (T : TS) (v : Nat → Nat) : g_lt (h_tn T v) = g_lt T := rfl
theorem gh_lt_tm (T : TS) (v : Nat → Nat) : g_lt (h_tm T v) = g_lt T := rfl
theorem gh_lt_tu (T : TS) (v : Nat → Nat) : g_lt (h_tu T v) = g_lt T := rfl
theorem gh_lt_le (T : TS) (v : Nat) : g_lt (h_le T v) = g_lt T := rfl
theorem gh_lt_lk (T : TS) (v : Nat → Nat) : g_lt (h_lk T v) = g_lt T := rfl
theorem gh_lt_lf (T : TS) (v : Nat → Nat) : g_lt (h_lf T v) = g_lt T := rfl
theorem gh_lt_lo (T : TS) (v : Nat → Option Nat) : g_lt (h_lo T v) = g_lt T := rfl
theorem gh_lt_wm (T : TS) (v : Nat) : g_lt (h_wm T v) = g_lt T := rfl
theorem gh_lt_wr (T : TS) (v : Nat → Nat) : g_lt (h_wr T v) = g_lt T := rfl
theorem gh_lt_fo (T : TS) (v : Nat) : g_lt (h_fo T v) = g_lt T := rfl
theorem gh_lt_fi (T : TS) (v : Nat → Int32) : g_lt (h_fi T v) = g_lt T := rfl
theorem gh_lt_hr (T : TS) (v : Nat → Bool) : g_lt (h_hr T v) = g_lt T := rfl
theorem gh_lt_rk (T : TS) (v : Nat → Nat) : g_lt (h_rk T v) = g_lt T := rfl
theorem gh_lt_rs (T : TS) (v : Nat → Nat) : g_lt (h_rs T v) = g_lt T := rfl
theorem gh_lt_rr (T : TS) (v : Nat → Nat → Option Nat) : g_lt (h_rr T v) = g_lt T := rfl
theorem gh_lt_hs (T : TS) (v : Nat → Bool) : g_lt (h_hs T v) = g_lt T := rfl
theorem gh_lt_sk (T : TS) (v : Nat → Nat) : g_lt (h_sk T v) = g_lt T := rfl
theorem gh_lt_ss (T : TS) (v : Nat → Nat) : g_lt (h_ss T v) = g_lt T := rfl
theorem gh_lt_sr (T : TS) (v : Nat → Nat → Int32) : g_lt (h_sr T v) = g_lt T := rfl
theorem gh_lt_fa (T : TS) (v : Nat → Int32) : g_lt (h_fa T v) = g_lt T := rfl
theorem gh_lt_su (T : TS) (v : Int32) : g_lt (h_su T v) = g_lt T := rfl
theorem gh_lt_tr (T : TS) (v : Int64) : g_lt (h_tr T v) = g_lt T := rfl
theorem gh_lt_lt (T : TS) (v : Nat → Bool) : g_lt (h_lt T v) = v := rfl
theorem gh_lk_ct (T : TS) (v : Nat) : g_lk (h_ct T v) = g_lk T := rfl
theorem gh_lk_cu (T : TS) (v : Nat) : g_lk (h_cu T v) = g_lk T := rfl
theorem gh_lk_cl (T : TS) (v : Nat) : g_lk (h_cl T v) = g_lk T := rfl
theorem gh_lk_np (T : TS) (v : Nat) : g_lk (h_np T v) = g_lk T := rfl
theorem gh_lk_pk (T : TS) (v : Nat → Nat) : g_lk (h_pk T v) = g_lk T := rfl
theorem gh_lk_nb (T : TS) (v : Nat) : g_lk (h_nb T v) = g_lk T := rfl
theorem gh_lk_bt (T : TS) (v : Nat → Nat) : g_lk (h_bt T v) = g_lk T := rfl
theorem gh_lk_ev (T : TS) (v : Nat) : g_lk (h_ev T v) = g_lk T := rfl
theorem gh_lk_th (T : TS) (v : Nat → Bool) : g_lk (h_th T v) = g_lk T := rfl
theorem gh_lk_vo (T : TS) (v : Nat → Nat) : g_lk (h_vo T v) = g_lk T := rfl
theorem gh_lk_kd (T : TS) (v : Nat → Nat) : g_lk (h_kd T v) = g_lk T := rfl
theorem gh_lk_pn (T : TS) (v : Nat → Nat) : g_lk (h_pn T v) = g_lk T := rfl
theorem gh_lk_pi (T : TS) (v : Nat → Nat → Int32) : g_lk (h_pi T v) = g_lk T := rfl
theorem gh_lk_va (T : TS) (v : Nat → Nat) : g_lk (h_va T v) = g_lk T := rfl
theorem gh_lk_dt (T : TS) (v : Nat → Nat) : g_lk (h_dt T v) = g_lk T := rfl
theorem gh_lk_ti (T : TS) (v : Nat → Bool) : g_lk (h_ti T v) = g_lk T := rfl
theorem gh_lk_pl (T : TS) (v : Nat → Nat) : g_lk (h_pl T v) = g_lk T := rfl
theorem gh_lk_mn (T : TS) (v : Nat → Nat) : g_lk (h_mn T v) = g_lk T := rfl
theorem gh_lk_ro (T : TS) (v : Nat → Nat → Nat) : g_lk (h_ro T v) = g_lk T := rfl
theorem gh_lk_te (T : TS) (v : Nat) : g_lk (h_te T v) = g_lk T := rfl
theorem gh_lk_tt (T : TS) (v : Nat → Bool) : g_lk (h_tt T v) = g_lk T := rfl
theorem gh_lk_tv (T : TS) (v : Nat → Nat) : g_lk (h_tv T v) = g_lk T := rfl
theorem gh_lk_tf (T : TS) (v : Nat → Nat) : g_lk (h_tf T v) = g_lk T := rfl
theorem gh_lk_tl (T : TS) (v : Nat → Nat) : g_lk (h_tl T v) = g_lk T := rfl
theorem gh_lk_tn (T : TS) (v : Nat → Nat) : g_lk (h_tn T v) = g_lk T := rfl
theorem gh_lk_tm (T : TS) (v : Nat → Nat) : g_lk (h_tm T v) = g_lk T := rfl
theorem gh_lk_tu (T : TS) (v : Nat → Nat) : g_lk (h_tu T v) = g_lk T := rfl
theorem gh_lk_le (T : TS) (v : Nat) : g_lk (h_le T v) = g_lk T := rfl
theorem gh_lk_lt (T : TS) (v : Nat → Bool) : g_lk (h_lt T v) = g_lk T := rfl
theorem gh_lk_lf (T : TS) (v : Nat → Nat) : g_lk (h_lf T v) = g_lk T := rfl
theorem gh_lk_lo (T : TS) (v : Nat → Option Nat) : g_lk (h_lo T v) = g_lk T := rfl
theorem gh_lk_wm (T : TS) (v : Nat) : g_lk (h_wm T v) = g_lk T := rfl
theorem gh_lk_wr (T : TS) (v : Nat → Nat) : g_lk (h_wr T v) = g_lk T := rfl
theorem gh_lk_fo (T : TS) (v : Nat) : g_lk (h_fo T v) = g_lk T := rfl
theorem gh_lk_fi (T : TS) (v : Nat → Int32) : g_lk (h_fi T v) = g_lk T := rfl
theorem gh_lk_hr (T : TS) (v : Nat → Bool) : g_lk (h_hr T v) = g_lk T := rfl
theorem gh_lk_rk (T : TS) (v : Nat → Nat) : g_lk (h_rk T v) = g_lk T := rfl
theorem gh_lk_rs (T : TS) (v : Nat → Nat) : g_lk (h_rs T v) = g_lk T := rfl
theorem gh_lk_rr (T : TS) (v : Nat → Nat → Option Nat) : g_lk (h_rr T v) = g_lk T := rfl
theorem gh_lk_hs (T : TS) (v : Nat → Bool) : g_lk (h_hs T v) = g_lk T := rfl
theorem gh_lk_sk (T : TS) (v : Nat → Nat) : g_lk (h_sk T v) = g_lk T := rfl
theorem gh_lk_ss (T : TS) (v : Nat → Nat) : g_lk (h_ss T v) = g_lk T := rfl
theorem gh_lk_sr (T : TS) (v : Nat → Nat → Int32) : g_lk (h_sr T v) = g_lk T := rfl
theorem gh_lk_fa (T : TS) (v : Nat → Int32) : g_lk (h_fa T v) = g_lk T := rfl
theorem gh_lk_su (T : TS) (v : Int32) : g_lk (h_su T v) = g_lk T := rfl
theorem gh_lk_tr (T : TS) (v : Int64) : g_lk (h_tr T v) = g_lk T := rfl
theorem gh_lk_lk (T : TS) (v : Nat → Nat) : g_lk (h_lk T v) = v := rfl
theorem gh_lf_ct (T : TS) (v : Nat) : g_lf (h_ct T v) = g_lf T := rfl
theorem gh_lf_cu (T : TS) (v : Nat) : g_lf (h_cu T v) = g_lf T := rfl
theorem gh_lf_cl (T : TS) (v : Nat) : g_lf (h_cl T v) = g_lf T := rfl
theorem gh_lf_np (T : TS) (v : Nat) : g_lf (h_np T v) = g_lf T := rfl
theorem gh_lf_pk (T : TS) (v : Nat → Nat) : g_lf (h_pk T v) = g_lf T := rfl
theorem gh_lf_nb (T : TS) (v : Nat) : g_lf (h_nb T v) = g_lf T := rfl
theorem gh_lf_bt (T : TS) (v : Nat → Nat) : g_lf (h_bt T v) = g_lf T := rfl
theorem gh_lf_ev (T : TS) (v : Nat) : g_lf (h_ev T v) = g_lf T := rfl
theorem gh_lf_th (T : TS) (v : Nat → Bool) : g_lf (h_th T v) = g_lf T := rfl
theorem gh_lf_vo (T : TS) (v : Nat → Nat) : g_lf (h_vo T v) = g_lf T := rfl
theorem gh_lf_kd (T : TS) (v : Nat → Nat) : g_lf (h_kd T v) = g_lf T := rfl
theorem gh_lf_pn (T : TS) (v : Nat → Nat) : g_lf (h_pn T v) = g_lf T := rfl
theorem gh_lf_pi (T : TS) (v : Nat → Nat → Int32) : g_lf (h_pi T v) = g_lf T := rfl
theorem gh_lf_va (T : TS) (v : Nat → Nat) : g_lf (h_va T v) = g_lf T := rfl
theorem gh_lf_dt (T : TS) (v : Nat → Nat) : g_lf (h_dt T v) = g_lf T := rfl
theorem gh_lf_ti (T : TS) (v : Nat → Bool) : g_lf (h_ti T v) = g_lf T := rfl
theorem gh_lf_pl (T : TS) (v : Nat → Nat) : g_lf (h_pl T v) = g_lf T := rfl
theorem gh_lf_mn (T : TS) (v : Nat → Nat) : g_lf (h_mn T v) = g_lf T := rfl
theorem gh_lf_ro (T : TS) (v : Nat → Nat → Nat) : g_lf (h_ro T v) = g_lf T := rfl
theorem gh_lf_te (T : TS) (v : Nat) : g_lf (h_te T v) = g_lf T := rfl
theorem gh_lf_tt (T : TS) (v : Nat → Bool) : g_lf (h_tt T v) = g_lf T := rfl
theorem gh_lf_tv (T : TS) (v : Nat → Nat) : g_lf (h_tv T v) = g_lf T := rfl
theorem gh_lf_tf (T : TS) (v : Nat → Nat) : g_lf (h_tf T v) = g_lf T := rfl
theorem gh_lf_tl (T : TS) (v : Nat → Nat) : g_lf (h_tl T v) = g_lf T := rfl
theorem gh_lf_tn (T : TS) (v : Nat → Nat) : g_lf (h_tn T v) = g_lf T := rfl
theorem gh_lf_tm (T : TS) (v : Nat → Nat) : g_lf (h_tm T v) = g_lf T := rfl
theorem gh_lf_tu (T : TS) (v : Nat → Nat) : g_lf (h_tu T v) = g_lf T := rfl
theorem gh_lf_le (T : TS) (v : Nat) : g_lf (h_le T v) = g_lf T := rfl
theorem gh_lf_lt (T : TS) (v : Nat → Bool) : g_lf (h_lt T v) = g_lf T := rfl
theorem gh_lf_lk (T : TS) (v : Nat → Nat) : g_lf (h_lk T v) = g_lf T := rfl
theorem gh_lf_lo (T : TS) (v : Nat → Option Nat) : g_lf (h_lo T v) = g_lf T := rfl
theorem gh_lf_wm (T : TS) (v : Nat) : g_lf (h_wm T v) = g_lf T := rfl
theorem gh_lf_wr (T : TS) (v : Nat → Nat) : g_lf (h_wr T v) = g_lf T := rfl
theorem gh_lf_fo (T : TS) (v : Nat) : g_lf (h_fo T v) = g_lf T := rfl
theorem gh_lf_fi (T : TS) (v : Nat → Int32) : g_lf (h_fi T v) = g_lf T := rfl
theorem gh_lf_hr (T : TS) (v : Nat → Bool) : g_lf (h_hr T v) = g_lf T := rfl
theorem gh_lf_rk (T : TS) (v : Nat → Nat) : g_lf (h_rk T v) = g_lf T := rfl
theorem gh_lf_rs (T : TS) (v : Nat → Nat) : g_lf (h_rs T v) = g_lf T := rfl
theorem gh_lf_rr (T : TS) (v : Nat → Nat → Option Nat) : g_lf (h_rr T v) = g_lf T := rfl
theorem gh_lf_hs (T : TS) (v : Nat → Bool) : g_lf (h_hs T v) = g_lf T := rfl
theorem gh_lf_sk (T : TS) (v : Nat → Nat) : g_lf (h_sk T v) = g_lf T := rfl
theorem gh_lf_ss (T : TS) (v : Nat → Nat) : g_lf (h_ss T v) = g_lf T := rfl
theorem gh_lf_sr (T : TS) (v : Nat → Nat → Int32) : g_lf (h_sr T v) = g_lf T := rfl
theorem gh_lf_fa (T : TS) (v : Nat → Int32) : g_lf (h_fa T v) = g_lf T := rfl
theorem gh_lf_su (T : TS) (v : Int32) : g_lf (h_su T v) = g_lf T := rfl
theorem gh_lf_tr (T : TS) (v : Int64) : g_lf (h_tr T v) = g_lf T := rfl
theorem gh_lf_lf (T : TS) (v : Nat → Nat) : g_lf (h_lf T v) = v := rfl
theorem gh_lo_ct (T : TS) (v : Nat) : g_lo (h_ct T v) = g_lo T := rfl
theorem gh_lo_cu (T : TS) (v : Nat) : g_lo (h_cu T v) = g_lo T := rfl
theorem gh_lo_cl (T : TS) (v : Nat) : g_lo (h_cl T v) = g_lo T := rfl
theorem gh_lo_np (T : TS) (v : Nat) : g_lo (h_np T v) = g_lo T := rfl
theorem gh_lo_pk (T : TS) (v : Nat → Nat) : g_lo (h_pk T v) = g_lo T := rfl
theorem gh_lo_nb (T : TS) (v : Nat) : g_lo (h_nb T v) = g_lo T := rfl
theorem gh_lo_bt (T : TS) (v : Nat → Nat) : g_lo (h_bt T v) = g_lo T := rfl
theorem gh_lo_ev (T : TS) (v : Nat) : g_lo (h_ev T v) = g_lo T := rfl
theorem gh_lo_th (T : TS) (v : Nat → Bool) : g_lo (h_th T v) = g_lo T := rfl
theorem gh_lo_vo (T : TS) (v : Nat → Nat) : g_lo (h_vo T v) = g_lo T := rfl
theorem gh_lo_kd (T : TS) (v : Nat → Nat) : g_lo (h_kd T v) = g_lo T := rfl
theorem gh_lo_pn (T : TS) (v : Nat → Nat) : g_lo (h_pn T v) = g_lo T := rfl
theorem gh_lo_pi (T : TS) (v : Nat → Nat → Int32) : g_lo (h_pi T v) = g_lo T := rfl
theorem gh_lo_va (T : TS) (v : Nat → Nat) : g_lo (h_va T v) = g_lo T := rfl
theorem gh_lo_dt (T : TS) (v : Nat → Nat) : g_lo (h_dt T v) = g_lo T := rfl
theorem gh_lo_ti (T : TS) (v : Nat → Bool) : g_lo (h_ti T v) = g_lo T := rfl
theorem gh_lo_pl (T : TS) (v : Nat → Nat) : g_lo (h_pl T v) = g_lo T := rfl
theorem gh_lo_mn (T : TS) (v : Nat → Nat) : g_lo (h_mn T v) = g_lo T := rfl
theorem gh_lo_ro (T : TS) (v : Nat → Nat → Nat) : g_lo (h_ro T v) = g_lo T := rfl
theorem gh_lo_te (T : TS) (v : Nat) : g_lo (h_te T v) = g_lo T := rfl
theorem gh_lo_tt (T : TS) (v : Nat → Bool) : g_lo (h_tt T v) = g_lo T := rfl
theorem gh_lo_tv (T : TS) (v : Nat → Nat) : g_lo (h_tv T v) = g_lo T := rfl
theorem gh_lo_tf (T : TS) (v : Nat → Nat) : g_lo (h_tf T v) = g_lo T := rfl
theorem gh_lo_tl (T : TS) (v : Nat → Nat) : g_lo (h_tl T v) = g_lo T := rfl
theorem gh_lo_tn (T : TS) (v : Nat → Nat) : g_lo (h_tn T v) = g_lo T := rfl
theorem gh_lo_tm (T : TS) (v : Nat → Nat) : g_lo (h_tm T v) = g_lo T := rfl
theorem gh_lo_tu (T : TS) (v : Nat → Nat) : g_lo (h_tu T v) = g_lo T := rfl
theorem gh_lo_le (T : TS) (v : Nat) : g_lo (h_le T v) = g_lo T := rfl
theorem gh_lo_lt (T : TS) (v : Nat → Bool) : g_lo (h_lt T v) = g_lo T := rfl
theorem gh_lo_lk (T : TS) (v : Nat → Nat) : g_lo (h_lk T v) = g_lo T := rfl
theorem gh_lo_lf (T : TS) (v : Nat → Nat) : g_lo (h_lf T v) = g_lo T := rfl
theorem gh_lo_wm (T : TS) (v : Nat) : g_lo (h_wm T v) = g_lo T := rfl
theorem gh_lo_wr (T : TS) (v : Nat → Nat) : g_lo (h_wr T v) = g_lo T := rfl
theorem gh_lo_fo (T : TS) (v : Nat) : g_lo (h_fo T v) = g_lo T := rfl
theorem gh_lo_fi (T : TS) (v : Nat → Int32) : g_lo (h_fi T v) = g_lo T := rfl
theorem gh_lo_hr (T : TS) (v : Nat → Bool) : g_lo (h_hr T v) = g_lo T := rfl
theorem gh_lo_rk (T : TS) (v : Nat → Nat) : g_lo (h_rk T v) = g_lo T := rfl
theorem gh_lo_rs (T : TS) (v : Nat → Nat) : g_lo (h_rs T v) = g_lo T := rfl
theorem gh_lo_rr (T : TS) (v : Nat → Nat → Option Nat) : g_lo (h_rr T v) = g_lo T := rfl
theorem gh_lo_hs (T : TS) (v : Nat → Bool) : g_lo (h_hs T v) = g_lo T := rfl
theorem gh_lo_sk (T : TS) (v : Nat → Nat) : g_lo (h_sk T v) = g_lo T := rfl
theorem gh_lo_ss (T : TS) (v : Nat → Nat) : g_lo (h_ss T v) = g_lo T := rfl
theorem gh_lo_sr (T : TS) (v : Nat → Nat → Int32) : g_lo (h_sr T v) = g_lo T := rfl
theorem gh_lo_fa (T : TS) (v : Nat → Int32) : g_lo (h_fa T v) = g_lo T := rfl
theorem gh_lo_su (T : TS) (v : Int32) : g_lo (h_su T v) = g_lo T := rfl
theorem gh_lo_tr (T : TS) (v : Int64) : g_lo (h_tr T v) = g_lo T := rfl
theorem gh_lo_lo (T : TS) (v : Nat → Option Nat) : g_lo (h_lo T v) = v := rfl
theorem gh_wm_ct (T : TS) (v : Nat) : g_wm (h_ct T v) = g_wm T := rfl
theorem gh_wm_cu (T : TS) (v : Nat) : g_wm (h_cu T v) = g_wm T := rfl
theorem gh_wm_cl (T : TS) (v : Nat) : g_wm (h_cl T v) = g_wm T := rfl
theorem gh_wm_np (T : TS) (v : Nat) : g_wm (h_np T v) = g_wm T := rfl
theorem gh_wm_pk (T : TS) (v : Nat → Nat) : g_wm (h_pk T v) = g_wm T := rfl
theorem gh_wm_nb (T : TS) (v : Nat) : g_wm (h_nb T v) = g_wm T := rfl
theorem gh_wm_bt (T : TS) (v : Nat → Nat) : g_wm (h_bt T v) = g_wm T := rfl
theorem gh_wm_ev (T : TS) (v : Nat) : g_wm (h_ev T v) = g_wm T := rfl
theorem gh_wm_th (T : TS) (v : Nat → Bool) : g_wm (h_th T v) = g_wm T := rfl
theorem gh_wm_vo (T : TS) (v : Nat → Nat) : g_wm (h_vo T v) = g_wm T := rfl
theorem gh_wm_kd (T : TS) (v : Nat → Nat) : g_wm (h_kd T v) = g_wm T := rfl
theorem gh_wm_pn (T : TS) (v : Nat → Nat) : g_wm (h_pn T v) = g_wm T := rfl
theorem gh_wm_pi (T : TS) (v : Nat → Nat → Int32) : g_wm (h_pi T v) = g_wm T := rfl
theorem gh_wm_va (T : TS) (v : Nat → Nat) : g_wm (h_va T v) = g_wm T := rfl
theorem gh_wm_dt (T : TS) (v : Nat → Nat) : g_wm (h_dt T v) = g_wm T := rfl
theorem gh_wm_ti (T : TS) (v : Nat → Bool) : g_wm (h_ti T v) = g_wm T := rfl
theorem gh_wm_pl (T : TS) (v : Nat → Nat) : g_wm (h_pl T v) = g_wm T := rfl
theorem gh_wm_mn (T : TS) (v : Nat → Nat) : g_wm (h_mn T v) = g_wm T := rfl
theorem gh_wm_ro (T : TS) (v : Nat → Nat → Nat) : g_wm (h_ro T v) = g_wm T := rfl
theorem gh_wm_te (T : TS) (v : Nat) : g_wm (h_te T v) = g_wm T := rfl
theorem gh_wm_tt (T : TS) (v : Nat → Bool) : g_wm (h_tt T v) = g_wm T := rfl
theorem gh_wm_tv (T : TS) (v : Nat → Nat) : g_wm (h_tv T v) = g_wm T := rfl
theorem gh_wm_tf (T : TS) (v : Nat → Nat) : g_wm (h_tf T v) = g_wm T := rfl
theorem gh_wm_tl (T : TS) (v : Nat → Nat) : g_wm (h_tl T v) = g_wm T := rfl
theorem gh_wm_tn (T : TS) (v : Nat → Nat) : g_wm (h_tn T v) = g_wm T := rfl
theorem gh_wm_tm (T : TS) (v : Nat → Nat) : g_wm (h_tm T v) = g_wm T := rfl
theorem gh_wm_tu (T : TS) (v : Nat → Nat) : g_wm (h_tu T v) = g_wm T := rfl
theorem gh_wm_le (T : TS) (v : Nat) : g_wm (h_le T v) = g_wm T := rfl
theorem gh_wm_lt (T : TS) (v : Nat → Bool) : g_wm (h_lt T v) = g_wm T := rfl
theorem gh_wm_lk (T : TS) (v : Nat → Nat) : g_wm (h_lk T v) = g_wm T := rfl
theorem gh_wm_lf (T : TS) (v : Nat → Nat) : g_wm (h_lf T v) = g_wm T := rfl
theorem gh_wm_lo (T : TS) (v : Nat → Option Nat) : g_wm (h_lo T v) = g_wm T := rfl
theorem gh_wm_wr (T : TS) (v : Nat → Nat) : g_wm (h_wr T v) = g_wm T := rfl
theorem gh_wm_fo (T : TS) (v : Nat) : g_wm (h_fo T v) = g_wm T := rfl
theorem gh_wm_fi (T : TS) (v : Nat → Int32) : g_wm (h_fi T v) = g_wm T := rfl
theorem gh_wm_hr (T : TS) (v : Nat → Bool) : g_wm (h_hr T v) = g_wm T := rfl
theorem gh_wm_rk (T : TS) (v : Nat → Nat) : g_wm (h_rk T v) = g_wm T := rfl
theorem gh_wm_rs (T : TS) (v : Nat → Nat) : g_wm (h_rs T v) = g_wm T := rfl
theorem gh_wm_rr (T : TS) (v : Nat → Nat → Option Nat) : g_wm (h_rr T v) = g_wm T := rfl
theorem gh_wm_hs (T : TS) (v : Nat → Bool) : g_wm (h_hs T v) = g_wm T := rfl
theorem gh_wm_sk (T : TS) (v : Nat → Nat) : g_wm (h_sk T v) = g_wm T := rfl
theorem gh_wm_ss (T : TS) (v : Nat → Nat) : g_wm (h_ss T v) = g_wm T := rfl
theorem gh_wm_sr (T : TS) (v : Nat → Nat → Int32) : g_wm (h_sr T v) = g_wm T := rfl
theorem gh_wm_fa (T : TS) (v : Nat → Int32) : g_wm (h_fa T v) = g_wm T := rfl
theorem gh_wm_su (T : TS) (v : Int32) : g_wm (h_su T v) = g_wm T := rfl
theorem gh_wm_tr (T : TS) (v : Int64) : g_wm (h_tr T v) = g_wm T := rfl
theorem gh_wm_wm (T : TS) (v : Nat) : g_wm (h_wm T v) = v := rfl
theorem gh_wr_ct (T : TS) (v : Nat) : g_wr (h_ct T v) = g_wr T := rfl
theorem gh_wr_cu (T : TS) (v : Nat) : g_wr (h_cu T v) = g_wr T := rfl
theorem gh_wr_cl (T : TS) (v : Nat) : g_wr (h_cl T v) = g_wr T := rfl
theorem gh_wr_np (T : TS) (v : Nat) : g_wr (h_np T v) = g_wr T := rfl
theorem gh_wr_pk (T : TS) (v : Nat → Nat) : g_wr (h_pk T v) = g_wr T := rfl
theorem gh_wr_nb (T : TS) (v : Nat) : g_wr (h_nb T v) = g_wr T := rfl
theorem gh_wr_bt (T : TS) (v : Nat → Nat) : g_wr (h_bt T v) = g_wr T := rfl
theorem gh_wr_ev (T : TS) (v : Nat) : g_wr (h_ev T v) = g_wr T := rfl
theorem gh_wr_th (T : TS) (v : Nat → Bool) : g_wr (h_th T v) = g_wr T := rfl
theorem gh_wr_vo (T : TS) (v : Nat → Nat) : g_wr (h_vo T v) = g_wr T := rfl
theorem gh_wr_kd (T : TS) (v : Nat → Nat) : g_wr (h_kd T v) = g_wr T := rfl
theorem gh_wr_pn (T : TS) (v : Nat → Nat) : g_wr (h_pn T v) = g_wr T := rfl
theorem gh_wr_pi (T : TS) (v : Nat → Nat → Int32) : g_wr (h_pi T v) = g_wr T := rfl
theorem gh_wr_va (T : TS) (v : Nat → Nat) : g_wr (h_va T v) = g_wr T := rfl
theorem gh_wr_dt (T : TS) (v : Nat → Nat) : g_wr (h_dt T v) = g_wr T := rfl
theorem gh_wr_ti (T : TS) (v : Nat → Bool) : g_wr (h_ti T v) = g_wr T := rfl
theorem gh_wr_pl (T : TS) (v : Nat → Nat) : g_wr (h_pl T v) = g_wr T := rfl
theorem gh_wr_mn (T : TS) (v : Nat → Nat) : g_wr (h_mn T v) = g_wr T := rfl
theorem gh_wr_ro (T : TS) (v : Nat → Nat → Nat) : g_wr (h_ro T v) = g_wr T := rfl
theorem gh_wr_te (T : TS) (v : Nat) : g_wr (h_te T v) = g_wr T := rfl
theorem gh_wr_tt (T : TS) (v : Nat → Bool) : g_wr (h_tt T v) = g_wr T := rfl
theorem gh_wr_tv (T : TS) (v : Nat → Nat) : g_wr (h_tv T v) = g_wr T := rfl
theorem gh_wr_tf (T : TS) (v : Nat → Nat) : g_wr (h_tf T v) = g_wr T := rfl
theorem gh_wr_tl (T : TS) (v : Nat → Nat) : g_wr (h_tl T v) = g_wr T := rfl
theorem gh_wr_tn (T : TS) (v : Nat → Nat) : g_wr (h_tn T v) = g_wr T := rfl
theorem gh_wr_tm (T : TS) (v : Nat → Nat) : g_wr (h_tm T v) = g_wr T := rfl
theorem gh_wr_tu (T : TS) (v : Nat → Nat) : g_wr (h_tu T v) = g_wr T := rfl
theorem gh_wr_le (T : TS) (v : Nat) : g_wr (h_le T v) = g_wr T := rfl
theorem gh_wr_lt (T : TS) (v : Nat → Bool) : g_wr (h_lt T v) = g_wr T := rfl
theorem gh_wr_lk (T : TS) (v : Nat → Nat) : g_wr (h_lk T v) = g_wr T := rfl
theorem gh_wr_lf (T : TS) (v : Nat → Nat) : g_wr (h_lf T v) = g_wr T := rfl
theorem gh_wr_lo (T : TS) (v : Nat → Option Nat) : g_wr (h_lo T v) = g_wr T := rfl
theorem gh_wr_wm (T : TS) (v : Nat) : g_wr (h_wm T v) = g_wr T := rfl
theorem gh_wr_fo (T : TS) (v : Nat) : g_wr (h_fo T v) = g_wr T := rfl
theorem gh_wr_fi (T : TS) (v : Nat → Int32) : g_wr (h_fi T v) = g_wr T := rfl
theorem gh_wr_hr (T : TS) (v : Nat → Bool) : g_wr (h_hr T v) = g_wr T := rfl
theorem gh_wr_rk (T : TS) (v : Nat → Nat) : g_wr (h_rk T v) = g_wr T := rfl
theorem gh_wr_rs (T : TS) (v : Nat → Nat) : g_wr (h_rs T v) = g_wr T := rfl
theorem gh_wr_rr (T : TS) (v : Nat → Nat → Option Nat) : g_wr (h_rr T v) = g_wr T := rfl
theorem gh_wr_hs (T : TS) (v : Nat → Bool) : g_wr (h_hs T v) = g_wr T := rfl
theorem gh_wr_sk (T : TS) (v : Nat → Nat) : g_wr (h_sk T v) = g_wr T := rfl
theorem gh_wr_ss (T : TS) (v : Nat → Nat) : g_wr (h_ss T v) = g_wr T := rfl
theorem gh_wr_sr (T : TS) (v : Nat → Nat → Int32) : g_wr (h_sr T v) = g_wr T := rfl
theorem gh_wr_fa (T : TS) (v : Nat → Int32) : g_wr (h_fa T v) = g_wr T := rfl
theorem gh_wr_su (T : TS) (v : Int32) : g_wr (h_su T v) = g_wr T := rfl
theorem gh_wr_tr (T : TS) (v : Int64) : g_wr (h_tr T v) = g_wr T := rfl
theorem gh_wr_wr (T : TS) (v : Nat → Nat) : g_wr (h_wr T v) = v := rfl
theorem gh_fo_ct (T : TS) (v : Nat) : g_fo (h_ct T v) = g_fo T := rfl
theorem gh_fo_cu (T : TS) (v : Nat) : g_fo (h_cu T v) = g_fo T := rfl
theorem gh_fo_cl (T : TS) (v : Nat) : g_fo (h_cl T v) = g_fo T := rfl
theorem gh_fo_np (T : TS) (v : Nat) : g_fo (h_np T v) = g_fo T := rfl
theorem gh_fo_pk (T : TS) (v : Nat → Nat) : g_fo (h_pk T v) = g_fo T := rfl
theorem gh_fo_nb (T : TS) (v : Nat) : g_fo (h_nb T v) = g_fo T := rfl
theorem gh_fo_bt (T : TS) (v : Nat → Nat) : g_fo (h_bt T v) = g_fo T := rfl
theorem gh_fo_ev (T : TS) (v : Nat) : g_fo (h_ev T v) = g_fo T := rfl
theorem gh_fo_th (T : TS) (v : Nat → Bool) : g_fo (h_th T v) = g_fo T := rfl
theorem gh_fo_vo (T : TS) (v : Nat → Nat) : g_fo (h_vo T v) = g_fo T := rfl
theorem gh_fo_kd (T : TS) (v : Nat → Nat) : g_fo (h_kd T v) = g_fo T := rfl
theorem gh_fo_pn (T : TS) (v : Nat → Nat) : g_fo (h_pn T v) = g_fo T := rfl
theorem gh_fo_pi (T : TS) (v : Nat → Nat → Int32) : g_fo (h_pi T v) = g_fo T := rfl
theorem gh_fo_va (T : TS) (v : Nat → Nat) : g_fo (h_va T v) = g_fo T := rfl
theorem gh_fo_dt (T : TS) (v : Nat → Nat) : g_fo (h_dt T v) = g_fo T := rfl
theorem gh_fo_ti (T : TS) (v : Nat → Bool) : g_fo (h_ti T v) = g_fo T := rfl
theorem gh_fo_pl (T : TS) (v : Nat → Nat) : g_fo (h_pl T v) = g_fo T := rfl
theorem gh_fo_mn (T : TS) (v : Nat → Nat) : g_fo (h_mn T v) = g_fo T := rfl
theorem gh_fo_ro (T : TS) (v : Nat → Nat → Nat) : g_fo (h_ro T v) = g_fo T := rfl
theorem gh_fo_te (T : TS) (v : Nat) : g_fo (h_te T v) = g_fo T := rfl
theorem gh_fo_tt (T : TS) (v : Nat → Bool) : g_fo (h_tt T v) = g_fo T := rfl
theorem gh_fo_tv (T : TS) (v : Nat → Nat) : g_fo (h_tv T v) = g_fo T := rfl
theorem gh_fo_tf (T : TS) (v : Nat → Nat) : g_fo (h_tf T v) = g_fo T := rfl
theorem gh_fo_tl (T : TS) (v : Nat → Nat) : g_fo (h_tl T v) = g_fo T := rfl
theorem gh_fo_tn (T : TS) (v : Nat → Nat) : g_fo (h_tn T v) = g_fo T := rfl
theorem gh_fo_tm (T : TS) (v : Nat → Nat) : g_fo (h_tm T v) = g_fo T := rfl
theorem gh_fo_tu (T : TS) (v : Nat → Nat) : g_fo (h_tu T v) = g_fo T := rfl
theorem gh_fo_le (T : TS) (v : Nat) : g_fo (h_le T v) = g_fo T := rfl
theorem gh_fo_lt (T : TS) (v : Nat → Bool) : g_fo (h_lt T v) = g_fo T := rfl
theorem gh_fo_lk (T : TS) (v : Nat → Nat) : g_fo (h_lk T v) = g_fo T := rfl
theorem gh_fo_lf (T : TS) (v : Nat → Nat) : g_fo (h_lf T v) = g_fo T := rfl
theorem gh_fo_lo (T : TS) (v : Nat → Option Nat) : g_fo (h_lo T v) = g_fo T := rfl
theorem gh_fo_wm (T : TS) (v : Nat) : g_fo (h_wm T v) = g_fo T := rfl
theorem gh_fo_wr (T : TS) (v : Nat → Nat) : g_fo (h_wr T v) = g_fo T := rfl
theorem gh_fo_fi (T : TS) (v : Nat → Int32) : g_fo (h_fi T v) = g_fo T := rfl
theorem gh_fo_hr (T : TS) (v : Nat → Bool) : g_fo (h_hr T v) = g_fo T := rfl
theorem gh_fo_rk (T : TS) (v : Nat → Nat) : g_fo (h_rk T v) = g_fo T := rfl
theorem gh_fo_rs (T : TS) (v : Nat → Nat) : g_fo (h_rs T v) = g_fo T := rfl
theorem gh_fo_rr (T : TS) (v : Nat → Nat → Option Nat) : g_fo (h_rr T v) = g_fo T := rfl
theorem gh_fo_hs (T : TS) (v : Nat → Bool) : g_fo (h_hs T v) = g_fo T := rfl
theorem gh_fo_sk (T : TS) (v : Nat → Nat) : g_fo (h_sk T v) = g_fo T := rfl
theorem gh_fo_ss (T : TS) (v : Nat → Nat) : g_fo (h_ss T v) = g_fo T := rfl
theorem gh_fo_sr (T : TS) (v : Nat → Nat → Int32) : g_fo (h_sr T v) = g_fo T := rfl
theorem gh_fo_fa (T : TS) (v : Nat → Int32) : g_fo (h_fa T v) = g_fo T := rfl
theorem gh_fo_su (T : TS) (v : Int32) : g_fo (h_su T v) = g_fo T := rfl
theorem gh_fo_tr (T : TS) (v : Int64) : g_fo (h_tr T v) = g_fo T := rfl
theorem gh_fo_fo (T : TS) (v : Nat) : g_fo (h_fo T v) = v := rfl
theorem gh_fi_ct (T : TS) (v : Nat) : g_fi (h_ct T v) = g_fi T := rfl
theorem gh_fi_cu (T : TS) (v : Nat) : g_fi (h_cu T v) = g_fi T := rfl
theorem gh_fi_cl (T : TS) (v : Nat) : g_fi (h_cl T v) = g_fi T := rfl
theorem gh_fi_np (T : TS) (v : Nat) : g_fi (h_np T v) = g_fi T := rfl
theorem gh_fi_pk (T : TS) (v : Nat → Nat) : g_fi (h_pk T v) = g_fi T := rfl
theorem gh_fi_nb (T : TS) (v : Nat) : g_fi (h_nb T v) = g_fi T := rfl
theorem gh_fi_bt (T : TS) (v : Nat → Nat) : g_fi (h_bt T v) = g_fi T := rfl
theorem gh_fi_ev (T : TS) (v : Nat) : g_fi (h_ev T v) = g_fi T := rfl
theorem gh_fi_th (T : TS) (v : Nat → Bool) : g_fi (h_th T v) = g_fi T := rfl
theorem gh_fi_vo (T : TS) (v : Nat → Nat) : g_fi (h_vo T v) = g_fi T := rfl
theorem gh_fi_kd (T : TS) (v : Nat → Nat) : g_fi (h_kd T v) = g_fi T := rfl
theorem gh_fi_pn (T : TS) (v : Nat → Nat) : g_fi (h_pn T v) = g_fi T := rfl
theorem gh_fi_pi (T : TS) (v : Nat → Nat → Int32) : g_fi (h_pi T v) = g_fi T := rfl
theorem gh_fi_va (T : TS) (v : Nat → Nat) : g_fi (h_va T v) = g_fi T := rfl
theorem gh_fi_dt (T : TS) (v : Nat → Nat) : g_fi (h_dt T v) = g_fi T := rfl
theorem gh_fi_ti (T : TS) (v : Nat → Bool) : g_fi (h_ti T v) = g_fi T := rfl
theorem gh_fi_pl (T : TS) (v : Nat → Nat) : g_fi (h_pl T v) = g_fi T := rfl
theorem gh_fi_mn (T : TS) (v : Nat → Nat) : g_fi (h_mn T v) = g_fi T := rfl
theorem gh_fi_ro (T : TS) (v : Nat → Nat → Nat) : g_fi (h_ro T v) = g_fi T := rfl
theorem gh_fi_te (T : TS) (v : Nat) : g_fi (h_te T v) = g_fi T := rfl
theorem gh_fi_tt (T : TS) (v : Nat → Bool) : g_fi (h_tt T v) = g_fi T := rfl
theorem gh_fi_tv (T : TS) (v : Nat → Nat) : g_fi (h_tv T v) = g_fi T := rfl
theorem gh_fi_tf (T : TS) (v : Nat → Nat) : g_fi (h_tf T v) = g_fi T := rfl
theorem gh_fi_tl (T : TS) (v : Nat → Nat) : g_fi (h_tl T v) = g_fi T := rfl
theorem gh_fi_tn (T : TS) (v : Nat → Nat) : g_fi (h_tn T v) = g_fi T := rfl
theorem gh_fi_tm (T : TS) (v : Nat → Nat) : g_fi (h_tm T v) = g_fi T := rfl
theorem gh_fi_tu (T : TS) (v : Nat → Nat) : g_fi (h_tu T v) = g_fi T := rfl
theorem gh_fi_le (T : TS) (v : Nat) : g_fi (h_le T v) = g_fi T := rfl
theorem gh_fi_lt (T : TS) (v : Nat → Bool) : g_fi (h_lt T v) = g_fi T := rfl
theorem gh_fi_lk (T : TS) (v : Nat → Nat) : g_fi (h_lk T v) = g_fi T := rfl
theorem gh_fi_lf (T : TS) (v : Nat → Nat) : g_fi (h_lf T v) = g_fi T := rfl
theorem gh_fi_lo (T : TS) (v : Nat → Option Nat) : g_fi (h_lo T v) = g_fi T := rfl
theorem gh_fi_wm (T : TS) (v : Nat) : g_fi (h_wm T v) = g_fi T := rfl
theorem gh_fi_wr (T : TS) (v : Nat → Nat) : g_fi (h_wr T v) = g_fi T := rfl
theorem gh_fi_fo (T : TS) (v : Nat) : g_fi (h_fo T v) = g_fi T := rfl
theorem gh_fi_hr (T : TS) (v : Nat → Bool) : g_fi (h_hr T v) = g_fi T := rfl
theorem gh_fi_rk (T : TS) (v : Nat → Nat) : g_fi (h_rk T v) = g_fi T := rfl
theorem gh_fi_rs (T : TS) (v : Nat → Nat) : g_fi (h_rs T v) = g_fi T := rfl
theorem gh_fi_rr (T : TS) (v : Nat → Nat → Option Nat) : g_fi (h_rr T v) = g_fi T := rfl
theorem gh_fi_hs (T : TS) (v : Nat → Bool) : g_fi (h_hs T v) = g_fi T := rfl
theorem gh_fi_sk (T : TS) (v : Nat → Nat) : g_fi (h_sk T v) = g_fi T := rfl
theorem gh_fi_ss (T : TS) (v : Nat → Nat) : g_fi (h_ss T v) = g_fi T := rfl
theorem gh_fi_sr (T : TS) (v : Nat → Nat → Int32) : g_fi (h_sr T v) = g_fi T := rfl
theorem gh_fi_fa (T : TS) (v : Nat → Int32) : g_fi (h_fa T v) = g_fi T := rfl
theorem gh_fi_su (T : TS) (v : Int32) : g_fi (h_su T v) = g_fi T := rfl
theorem gh_fi_tr (T : TS) (v : Int64) : g_fi (h_tr T v) = g_fi T := rfl
theorem gh_fi_fi (T : TS) (v : Nat → Int32) : g_fi (h_fi T v) = v := rfl
theorem gh_hr_ct (T : TS) (v : Nat) : g_hr (h_ct T v) = g_hr T := rfl
theorem gh_hr_cu (T : TS) (v : Nat) : g_hr (h_cu T v) = g_hr T := rfl
theorem gh_hr_cl (T : TS) (v : Nat) : g_hr (h_cl T v) = g_hr T := rfl
theorem gh_hr_np (T : TS) (v : Nat) : g_hr (h_np T v) = g_hr T := rfl
theorem gh_hr_pk (T : TS) (v : Nat → Nat) : g_hr (h_pk T v) = g_hr T := rfl
theorem gh_hr_nb (T : TS) (v : Nat) : g_hr (h_nb T v) = g_hr T := rfl
theorem gh_hr_bt (T : TS) (v : Nat → Nat) : g_hr (h_bt T v) = g_hr T := rfl
theorem gh_hr_ev (T : TS) (v : Nat) : g_hr (h_ev T v) = g_hr T := rfl
theorem gh_hr_th (T : TS) (v : Nat → Bool) : g_hr (h_th T v) = g_hr T := rfl
theorem gh_hr_vo (T : TS) (v : Nat → Nat) : g_hr (h_vo T v) = g_hr T := rfl
theorem gh_hr_kd (T : TS) (v : Nat → Nat) : g_hr (h_kd T v) = g_hr T := rfl
theorem gh_hr_pn (T : TS) (v : Nat → Nat) : g_hr (h_pn T v) = g_hr T := rfl
theorem gh_hr_pi (T : TS) (v : Nat → Nat → Int32) : g_hr (h_pi T v) = g_hr T := rfl
theorem gh_hr_va (T : TS) (v : Nat → Nat) : g_hr (h_va T v) = g_hr T := rfl
theorem gh_hr_dt (T : TS) (v : Nat → Nat) : g_hr (h_dt T v) = g_hr T := rfl
theorem gh_hr_ti (T : TS) (v : Nat → Bool) : g_hr (h_ti T v) = g_hr T := rfl
theorem gh_hr_pl (T : TS) (v : Nat → Nat) : g_hr (h_pl T v) = g_hr T := rfl
theorem gh_hr_mn (T : TS) (v : Nat → Nat) : g_hr (h_mn T v) = g_hr T := rfl
theorem gh_hr_ro (T : TS) (v : Nat → Nat → Nat) : g_hr (h_ro T v) = g_hr T := rfl
theorem gh_hr_te (T : TS) (v : Nat) : g_hr (h_te T v) = g_hr T := rfl
theorem gh_hr_tt (T : TS) (v : Nat → Bool) : g_hr (h_tt T v) = g_hr T := rfl
theorem gh_hr_tv (T : TS) (v : Nat → Nat) : g_hr (h_tv T v) = g_hr T := rfl
theorem gh_hr_tf (T : TS) (v : Nat → Nat) : g_hr (h_tf T v) = g_hr T := rfl
theorem gh_hr_tl (T : TS) (v : Nat → Nat) : g_hr (h_tl T v) = g_hr T := rfl
theorem gh_hr_tn (T : TS) (v : Nat → Nat) : g_hr (h_tn T v) = g_hr T := rfl
theorem gh_hr_tm (T : TS) (v : Nat → Nat) : g_hr (h_tm T v) = g_hr T := rfl
theorem gh_hr_tu (T : TS) (v : Nat → Nat) : g_hr (h_tu T v) = g_hr T := rfl
theorem gh_hr_le (T : TS) (v : Nat) : g_hr (h_le T v) = g_hr T := rfl
theorem gh_hr_lt (T : TS) (v : Nat → Bool) : g_hr (h_lt T v) = g_hr T := rfl
theorem gh_hr_lk (T : TS) (v : Nat → Nat) : g_hr (h_lk T v) = g_hr T := rfl
theorem gh_hr_lf (T : TS) (v : Nat → Nat) : g_hr (h_lf T v) = g_hr T := rfl
theorem gh_hr_lo (T : TS) (v : Nat → Option Nat) : g_hr (h_lo T v) = g_hr T := rfl
theorem gh_hr_wm (T : TS) (v : Nat) : g_hr (h_wm T v) = g_hr T := rfl
theorem gh_hr_wr (T : TS) (v : Nat → Nat) : g_hr (h_wr T v) = g_hr T := rfl
theorem gh_hr_fo (T : TS) (v : Nat) : g_hr (h_fo T v) = g_hr T := rfl
theorem gh_hr_fi (T : TS) (v : Nat → Int32) : g_hr (h_fi T v) = g_hr T := rfl
theorem gh_hr_rk (T : TS) (v : Nat → Nat) : g_hr (h_rk T v) = g_hr T := rfl
theorem gh_hr_rs (T : TS) (v : Nat → Nat) : g_hr (h_rs T v) = g_hr T := rfl
theorem gh_hr_rr (T : TS) (v : Nat → Nat → Option Nat) : g_hr (h_rr T v) = g_hr T := rfl
theorem gh_hr_hs (T : TS) (v : Nat → Bool) : g_hr (h_hs T v) = g_hr T := rfl
theorem gh_hr_sk (T : TS) (v : Nat → Nat) : g_hr (h_sk T v) = g_hr T := rfl
theorem gh_hr_ss (T : TS) (v : Nat → Nat) : g_hr (h_ss T v) = g_hr T := rfl
theorem gh_hr_sr (T : TS) (v : Nat → Nat → Int32) : g_hr (h_sr T v) = g_hr T := rfl
theorem gh_hr_fa (T : TS) (v : Nat → Int32) : g_hr (h_fa T v) = g_hr T := rfl
theorem gh_hr_su (T : TS) (v : Int32) : g_hr (h_su T v) = g_hr T := rfl
theorem gh_hr_tr (T : TS) (v : Int64) : g_hr (h_tr T v) = g_hr T := rfl
theorem gh_hr_hr (T : TS) (v : Nat → Bool) : g_hr (h_hr T v) = v := rfl
theorem gh_rk_ct (T : TS) (v : Nat) : g_rk (h_ct T v) = g_rk T := rfl
theorem gh_rk_cu (T : TS) (v : Nat) : g_rk (h_cu T v) = g_rk T := rfl
theorem gh_rk_cl (T : TS) (v : Nat) : g_rk (h_cl T v) = g_rk T := rfl
theorem gh_rk_np (T : TS) (v : Nat) : g_rk (h_np T v) = g_rk T := rfl
theorem gh_rk_pk (T : TS) (v : Nat → Nat) : g_rk (h_pk T v) = g_rk T := rfl
theorem gh_rk_nb (T : TS) (v : Nat) : g_rk (h_nb T v) = g_rk T := rfl
theorem gh_rk_bt (T : TS) (v : Nat → Nat) : g_rk (h_bt T v) = g_rk T := rfl
theorem gh_rk_ev (T : TS) (v : Nat) : g_rk (h_ev T v) = g_rk T := rfl
theorem gh_rk_th (T : TS) (v : Nat → Bool) : g_rk (h_th T v) = g_rk T := rfl
theorem gh_rk_vo (T : TS) (v : Nat → Nat) : g_rk (h_vo T v) = g_rk T := rfl
theorem gh_rk_kd (T : TS) (v : Nat → Nat) : g_rk (h_kd T v) = g_rk T := rfl
theorem gh_rk_pn (T : TS) (v : Nat → Nat) : g_rk (h_pn T v) = g_rk T := rfl
theorem gh_rk_pi (T : TS) (v : Nat → Nat → Int32) : g_rk (h_pi T v) = g_rk T := rfl
theorem gh_rk_va (T : TS) (v : Nat → Nat) : g_rk (h_va T v) = g_rk T := rfl
theorem gh_rk_dt (T : TS) (v : Nat → Nat) : g_rk (h_dt T v) = g_rk T := rfl
theorem gh_rk_ti (T : TS) (v : Nat → Bool) : g_rk (h_ti T v) = g_rk T := rfl
theorem gh_rk_pl (T : TS) (v : Nat → Nat) : g_rk (h_pl T v) = g_rk T := rfl
theorem gh_rk_mn (T : TS) (v : Nat → Nat) : g_rk (h_mn T v) = g_rk T := rfl
theorem gh_rk_ro (T : TS) (v : Nat → Nat → Nat) : g_rk (h_ro T v) = g_rk T := rfl
theorem gh_rk_te (T : TS) (v : Nat) : g_rk (h_te T v) = g_rk T := rfl
theorem gh_rk_tt (T : TS) (v : Nat → Bool) : g_rk (h_tt T v) = g_rk T := rfl
theorem gh_rk_tv (T : TS) (v : Nat → Nat) : g_rk (h_tv T v) = g_rk T := rfl
theorem gh_rk_tf (T : TS) (v : Nat → Nat) : g_rk (h_tf T v) = g_rk T := rfl
theorem gh_rk_tl (T : TS) (v : Nat → Nat) : g_rk (h_tl T v) = g_rk T := rfl
theorem gh_rk_tn (T : TS) (v : Nat → Nat) : g_rk (h_tn T v) = g_rk T := rfl
theorem gh_rk_tm (T : TS) (v : Nat → Nat) : g_rk (h_tm T v) = g_rk T := rfl
theorem gh_rk_tu (T : TS) (v : Nat → Nat) : g_rk (h_tu T v) = g_rk T := rfl
theorem gh_rk_le (T : TS) (v : Nat) : g_rk (h_le T v) = g_rk T := rfl
theorem gh_rk_lt (T : TS) (v : Nat → Bool) : g_rk (h_lt T v) = g_rk T := rfl
theorem gh_rk_lk (T : TS) (v : Nat → Nat) : g_rk (h_lk T v) = g_rk T := rfl
theorem gh_rk_lf (T : TS) (v : Nat → Nat) : g_rk (h_lf T v) = g_rk T := rfl
theorem gh_rk_lo (T : TS) (v : Nat → Option Nat) : g_rk (h_lo T v) = g_rk T := rfl
theorem gh_rk_wm (T : TS) (v : Nat) : g_rk (h_wm T v) = g_rk T := rfl
theorem gh_rk_wr (T : TS) (v : Nat → Nat) : g_rk (h_wr T v) = g_rk T := rfl
theorem gh_rk_fo (T : TS) (v : Nat) : g_rk (h_fo T v) = g_rk T := rfl
theorem gh_rk_fi (T : TS) (v : Nat → Int32) : g_rk (h_fi T v) = g_rk T := rfl
theorem gh_rk_hr (T : TS) (v : Nat → Bool) : g_rk (h_hr T v) = g_rk T := rfl
theorem gh_rk_rs (T : TS) (v : Nat → Nat) : g_rk (h_rs T v) = g_rk T := rfl
theorem gh_rk_rr (T : TS) (v : Nat → Nat → Option Nat) : g_rk (h_rr T v) = g_rk T := rfl
theorem gh_rk_hs (T : TS) (v : Nat → Bool) : g_rk (h_hs T v) = g_rk T := rfl
theorem gh_rk_sk (T : TS) (v : Nat → Nat) : g_rk (h_sk T v) = g_rk T := rfl
theorem gh_rk_ss (T : TS) (v : Nat → Nat) : g_rk (h_ss T v) = g_rk T := rfl
theorem gh_rk_sr (T : TS) (v : Nat → Nat → Int32) : g_rk (h_sr T v) = g_rk T := rfl
theorem gh_rk_fa (T : TS) (v : Nat → Int32) : g_rk (h_fa T v) = g_rk T := rfl
theorem gh_rk_su (T : TS) (v : Int32) : g_rk (h_su T v) = g_rk T := rfl
theorem gh_rk_tr (T : TS) (v : Int64) : g_rk (h_tr T v) = g_rk T := rfl
theorem gh_rk_rk (T : TS) (v : Nat → Nat) : g_rk (h_rk T v) = v := rfl
theorem gh_rs_ct (T : TS) (v : Nat) : g_rs (h_ct T v) = g_rs T := rfl
theorem gh_rs_cu (T : TS) (v : Nat) : g_rs (h_cu T v) = g_rs T := rfl
theorem gh_rs_cl (T : TS) (v : Nat) : g_rs (h_cl T v) = g_rs T := rfl
theorem gh_rs_np (T : TS) (v : Nat) : g_rs (h_np T v) = g_rs T := rfl
theorem gh_rs_pk (T : TS) (v : Nat → Nat) : g_rs (h_pk T v) = g_rs T := rfl
theorem gh_rs_nb (T : TS) (v : Nat) : g_rs (h_nb T v) = g_rs T := rfl
theorem gh_rs_bt (T : TS) (v : Nat → Nat) : g_rs (h_bt T v) = g_rs T := rfl
theorem gh_rs_ev (T : TS) (v : Nat) : g_rs (h_ev T v) = g_rs T := rfl
theorem gh_rs_th (T : TS) (v : Nat → Bool) : g_rs (h_th T v) = g_rs T := rfl
theorem gh_rs_vo (T : TS) (v : Nat → Nat) : g_rs (h_vo T v) = g_rs T := rfl
theorem gh_rs_kd (T : TS) (v : Nat → Nat) : g_rs (h_kd T v) = g_rs T := rfl
theorem gh_rs_pn (T : TS) (v : Nat → Nat) : g_rs (h_pn T v) = g_rs T := rfl
theorem gh_rs_pi (T : TS) (v : Nat → Nat → Int32) : g_rs (h_pi T v) = g_rs T := rfl
theorem gh_rs_va (T : TS) (v : Nat → Nat) : g_rs (h_va T v) = g_rs T := rfl
theorem gh_rs_dt (T : TS) (v : Nat → Nat) : g_rs (h_dt T v) = g_rs T := rfl
theorem gh_rs_ti (T : TS) (v : Nat → Bool) : g_rs (h_ti T v) = g_rs T := rfl
theorem gh_rs_pl (T : TS) (v : Nat → Nat) : g_rs (h_pl T v) = g_rs T := rfl
theorem gh_rs_mn (T : TS) (v : Nat → Nat) : g_rs (h_mn T v) = g_rs T := rfl
theorem gh_rs_ro (T : TS) (v : Nat → Nat → Nat) : g_rs (h_ro T v) = g_rs T := rfl
theorem gh_rs_te (T : TS) (v : Nat) : g_rs (h_te T v) = g_rs T := rfl
theorem gh_rs_tt (T : TS) (v : Nat → Bool) : g_rs (h_tt T v) = g_rs T := rfl
theorem gh_rs_tv (T : TS) (v : Nat → Nat) : g_rs (h_tv T v) = g_rs T := rfl
theorem gh_rs_tf (T : TS) (v : Nat → Nat) : g_rs (h_tf T v) = g_rs T := rfl
theorem gh_rs_tl (T : TS) (v : Nat → Nat) : g_rs (h_tl T v) = g_rs T := rfl
theorem gh_rs_tn (T : TS) (v : Nat → Nat) : g_rs (h_tn T v) = g_rs T := rfl
theorem gh_rs_tm (T : TS) (v : Nat → Nat) : g_rs (h_tm T v) = g_rs T := rfl
theorem gh_rs_tu (T : TS) (v : Nat → Nat) : g_rs (h_tu T v) = g_rs T := rfl
theorem gh_rs_le (T : TS) (v : Nat) : g_rs (h_le T v) = g_rs T := rfl
theorem gh_rs_lt (T : TS) (v : Nat → Bool) : g_rs (h_lt T v) = g_rs T := rfl
theorem gh_rs_lk (T : TS) (v : Nat → Nat) : g_rs (h_lk T v) = g_rs T := rfl
theorem gh_rs_lf (T : TS) (v : Nat → Nat) : g_rs (h_lf T v) = g_rs T := rfl
theorem gh_rs_lo (T : TS) (v : Nat → Option Nat) : g_rs (h_lo T v) = g_rs T := rfl
theorem gh_rs_wm (T : TS) (v : Nat) : g_rs (h_wm T v) = g_rs T := rfl
theorem gh_rs_wr (T : TS) (v : Nat → Nat) : g_rs (h_wr T v) = g_rs T := rfl
theorem gh_rs_fo (T : TS) (v : Nat) : g_rs (h_fo T v) = g_rs T := rfl
theorem gh_rs_fi (T : TS) (v : Nat → Int32) : g_rs (h_fi T v) = g_rs T := rfl
theorem gh_rs_hr (T : TS) (v : Nat → Bool) : g_rs (h_hr T v) = g_rs T := rfl
theorem gh_rs_rk (T : TS) (v : Nat → Nat) : g_rs (h_rk T v) = g_rs T := rfl
theorem gh_rs_rr (T : TS) (v : Nat → Nat → Option Nat) : g_rs (h_rr T v) = g_rs T := rfl
theorem gh_rs_hs (T : TS) (v : Nat → Bool) : g_rs (h_hs T v) = g_rs T := rfl
theorem gh_rs_sk (T : TS) (v : Nat → Nat) : g_rs (h_sk T v) = g_rs T := rfl
theorem gh_rs_ss (T : TS) (v : Nat → Nat) : g_rs (h_ss T v) = g_rs T := rfl
theorem gh_rs_sr (T : TS) (v : Nat → Nat → Int32) : g_rs (h_sr T v) = g_rs T := rfl
theorem gh_rs_fa (T : TS) (v : Nat → Int32) : g_rs (h_fa T v) = g_rs T := rfl
theorem gh_rs_su (T : TS) (v : Int32) : g_rs (h_su T v) = g_rs T := rfl
theorem gh_rs_tr (T : TS) (v : Int64) : g_rs (h_tr T v) = g_rs T := rfl
theorem gh_rs_rs (T : TS) (v : Nat → Nat) : g_rs (h_rs T v) = v := rfl
theorem gh_rr_ct (T : TS) (v : Nat) : g_rr (h_ct T v) = g_rr T := rfl
theorem gh_rr_cu (T : TS) (v : Nat) : g_rr (h_cu T v) = g_rr T := rfl
theorem gh_rr_cl (T : TS) (v : Nat) : g_rr (h_cl T v) = g_rr T := rfl
theorem gh_rr_np (T : TS) (v : Nat) : g_rr (h_np T v) = g_rr T := rfl
theorem gh_rr_pk (T : TS) (v : Nat → Nat) : g_rr (h_pk T v) = g_rr T := rfl
theorem gh_rr_nb (T : TS) (v : Nat) : g_rr (h_nb T v) = g_rr T := rfl
theorem gh_rr_bt (T : TS) (v : Nat → Nat) : g_rr (h_bt T v) = g_rr T := rfl
theorem gh_rr_ev (T : TS) (v : Nat) : g_rr (h_ev T v) = g_rr T := rfl
theorem gh_rr_th (T : TS) (v : Nat → Bool) : g_rr (h_th T v) = g_rr T := rfl
theorem gh_rr_vo (T : TS) (v : Nat → Nat) : g_rr (h_vo T v) = g_rr T := rfl
theorem gh_rr_kd (T : TS) (v : Nat → Nat) : g_rr (h_kd T v) = g_rr T := rfl
theorem gh_rr_pn (T : TS) (v : Nat → Nat) : g_rr (h_pn T v) = g_rr T := rfl
theorem gh_rr_pi (T : TS) (v : Nat → Nat → Int32) : g_rr (h_pi T v) = g_rr T := rfl
theorem gh_rr_va (T : TS) (v : Nat → Nat) : g_rr (h_va T v) = g_rr T := rfl
theorem gh_rr_dt (T : TS) (v : Nat → Nat) : g_rr (h_dt T v) = g_rr T := rfl
theorem gh_rr_ti (T : TS) (v : Nat → Bool) : g_rr (h_ti T v) = g_rr T := rfl
theorem gh_rr_pl (T : TS) (v : Nat → Nat) : g_rr (h_pl T v) = g_rr T := rfl
theorem gh_rr_mn (T : TS) (v : Nat → Nat) : g_rr (h_mn T v) = g_rr T := rfl
theorem gh_rr_ro (T : TS) (v : Nat → Nat → Nat) : g_rr (h_ro T v) = g_rr T := rfl
theorem gh_rr_te (T : TS) (v : Nat) : g_rr (h_te T v) = g_rr T := rfl
theorem gh_rr_tt (T : TS) (v : Nat → Bool) : g_rr (h_tt T v) = g_rr T := rfl
theorem gh_rr_tv (T : TS) (v : Nat → Nat) : g_rr (h_tv T v) = g_rr T := rfl
theorem gh_rr_tf (T : TS) (v : Nat → Nat) : g_rr (h_tf T v) = g_rr T := rfl
theorem gh_rr_tl (T : TS) (v : Nat → Nat) : g_rr (h_tl T v) = g_rr T := rfl
theorem gh_rr_tn (T : TS) (v : Nat → Nat) : g_rr (h_tn T v) = g_rr T := rfl
theorem gh_rr_tm (T : TS) (v : Nat → Nat) : g_rr (h_tm T v) = g_rr T := rfl
theorem gh_rr_tu (T : TS) (v : Nat → Nat) : g_rr (h_tu T v) = g_rr T := rfl
theorem gh_rr_le (T : TS) (v : Nat) : g_rr (h_le T v) = g_rr T := rfl
theorem gh_rr_lt (T : TS) (v : Nat → Bool) : g_rr (h_lt T v) = g_rr T := rfl
theorem gh_rr_lk (T : TS) (v : Nat → Nat) : g_rr (h_lk T v) = g_rr T := rfl
theorem gh_rr_lf (T : TS) (v : Nat → Nat) : g_rr (h_lf T v) = g_rr T := rfl
theorem gh_rr_lo (T : TS) (v : Nat → Option Nat) : g_rr (h_lo T v) = g_rr T := rfl
theorem gh_rr_wm (T : TS) (v : Nat) : g_rr (h_wm T v) = g_rr T := rfl
theorem gh_rr_wr (T : TS) (v : Nat → Nat) : g_rr (h_wr T v) = g_rr T := rfl
theorem gh_rr_fo (T : TS) (v : Nat) : g_rr (h_fo T v) = g_rr T := rfl
theorem gh_rr_fi (T : TS) (v : Nat → Int32) : g_rr (h_fi T v) = g_rr T := rfl
theorem gh_rr_hr (T : TS) (v : Nat → Bool) : g_rr (h_hr T v) = g_rr T := rfl
theorem gh_rr_rk (T : TS) (v : Nat → Nat) : g_rr (h_rk T v) = g_rr T := rfl
theorem gh_rr_rs (T : TS) (v : Nat → Nat) : g_rr (h_rs T v) = g_rr T := rfl
theorem gh_rr_hs (T : TS) (v : Nat → Bool) : g_rr (h_hs T v) = g_rr T := rfl
theorem gh_rr_sk (T : TS) (v : Nat → Nat) : g_rr (h_sk T v) = g_rr T := rfl
theorem gh_rr_ss (T : TS) (v : Nat → Nat) : g_rr (h_ss T v) = g_rr T := rfl
theorem gh_rr_sr (T : TS) (v : Nat → Nat → Int32) : g_rr (h_sr T v) = g_rr T := rfl
theorem gh_rr_fa (T : TS) (v : Nat → Int32) : g_rr (h_fa T v) = g_rr T := rfl
theorem gh_rr_su (T : TS) (v : Int32) : g_rr (h_su T v) = g_rr T := rfl
theorem gh_rr_tr (T : TS) (v : Int64) : g_rr (h_tr T v) = g_rr T := rfl
theorem gh_rr_rr (T : TS) (v : Nat → Nat → Option Nat) : g_rr (h_rr T v) = v := rfl
theorem gh_hs_ct (T : TS) (v : Nat) : g_hs (h_ct T v) = g_hs T := rfl
theorem gh_hs_cu (T : TS) (v : Nat) : g_hs (h_cu T v) = g_hs T := rfl
theorem gh_hs_cl (T : TS) (v : Nat) : g_hs (h_cl T v) = g_hs T := rfl
theorem gh_hs_np (T : TS) (v : Nat) : g_hs (h_np T v) = g_hs T := rfl
theorem gh_hs_pk (T : TS) (v : Nat → Nat) : g_hs (h_pk T v) = g_hs T := rfl
theorem gh_hs_nb (T : TS) (v : Nat) : g_hs (h_nb T v) = g_hs T := rfl
theorem gh_hs_bt (T : TS) (v : Nat → Nat) : g_hs (h_bt T v) = g_hs T := rfl
theorem gh_hs_ev (T : TS) (v : Nat) : g_hs (h_ev T v) = g_hs T := rfl
theorem gh_hs_th (T : TS) (v : Nat → Bool) : g_hs (h_th T v) = g_hs T := rfl
theorem gh_hs_vo (T : TS) (v : Nat → Nat) : g_hs (h_vo T v) = g_hs T := rfl
theorem gh_hs_kd (T : TS) (v : Nat → Nat) : g_hs (h_kd T v) = g_hs T := rfl
theorem gh_hs_pn (T : TS) (v : Nat → Nat) : g_hs (h_pn T v) = g_hs T := rfl
theorem gh_hs_pi (T : TS) (v : Nat → Nat → Int32) : g_hs (h_pi T v) = g_hs T := rfl
theorem gh_hs_va (T : TS) (v : Nat → Nat) : g_hs (h_va T v) = g_hs T := rfl
theorem gh_hs_dt (T : TS) (v : Nat → Nat) : g_hs (h_dt T v) = g_hs T := rfl
theorem gh_hs_ti (T : TS) (v : Nat → Bool) : g_hs (h_ti T v) = g_hs T := rfl
theorem gh_hs_pl (T : TS) (v : Nat → Nat) : g_hs (h_pl T v) = g_hs T := rfl
theorem gh_hs_mn (T : TS) (v : Nat → Nat) : g_hs (h_mn T v) = g_hs T := rfl
theorem gh_hs_ro (T : TS) (v : Nat → Nat → Nat) : g_hs (h_ro T v) = g_hs T := rfl
theorem gh_hs_te (T : TS) (v : Nat) : g_hs (h_te T v) = g_hs T := rfl
theorem gh_hs_tt (T : TS) (v : Nat → Bool) : g_hs (h_tt T v) = g_hs T := rfl
theorem gh_hs_tv (T : TS) (v : Nat → Nat) : g_hs (h_tv T v) = g_hs T := rfl
theorem gh_hs_tf (T : TS) (v : Nat → Nat) : g_hs (h_tf T v) = g_hs T := rfl
theorem gh_hs_tl (T : TS) (v : Nat → Nat) : g_hs (h_tl T v) = g_hs T := rfl
theorem gh_hs_tn (T : TS) (v : Nat → Nat) : g_hs (h_tn T v) = g_hs T := rfl
theorem gh_hs_tm (T : TS) (v : Nat → Nat) : g_hs (h_tm T v) = g_hs T := rfl
theorem gh_hs_tu (T : TS) (v : Nat → Nat) : g_hs (h_tu T v) = g_hs T := rfl
theorem gh_hs_le (T : TS) (v : Nat) : g_hs (h_le T v) = g_hs T := rfl
theorem gh_hs_lt (T : TS) (v : Nat → Bool) : g_hs (h_lt T v) = g_hs T := rfl
theorem gh_hs_lk (T : TS) (v : Nat → Nat) : g_hs (h_lk T v) = g_hs T := rfl
theorem gh_hs_lf (T : TS) (v : Nat → Nat) : g_hs (h_lf T v) = g_hs T := rfl
theorem gh_hs_lo (T : TS) (v : Nat → Option Nat) : g_hs (h_lo T v) = g_hs T := rfl
theorem gh_hs_wm (T : TS) (v : Nat) : g_hs (h_wm T v) = g_hs T := rfl
theorem gh_hs_wr (T : TS) (v : Nat → Nat) : g_hs (h_wr T v) = g_hs T := rfl
theorem gh_hs_fo (T : TS) (v : Nat) : g_hs (h_fo T v) = g_hs T := rfl
theorem gh_hs_fi (T : TS) (v : Nat → Int32) : g_hs (h_fi T v) = g_hs T := rfl
theorem gh_hs_hr (T : TS) (v : Nat → Bool) : g_hs (h_hr T v) = g_hs T := rfl
theorem gh_hs_rk (T : TS) (v : Nat → Nat) : g_hs (h_rk T v) = g_hs T := rfl
theorem gh_hs_rs (T : TS) (v : Nat → Nat) : g_hs (h_rs T v) = g_hs T := rfl
theorem gh_hs_rr (T : TS) (v : Nat → Nat → Option Nat) : g_hs (h_rr T v) = g_hs T := rfl
theorem gh_hs_sk (T : TS) (v : Nat → Nat) : g_hs (h_sk T v) = g_hs T := rfl
theorem gh_hs_ss (T : TS) (v : Nat → Nat) : g_hs (h_ss T v) = g_hs T := rfl
theorem gh_hs_sr (T : TS) (v : Nat → Nat → Int32) : g_hs (h_sr T v) = g_hs T := rfl
theorem gh_hs_fa (T : TS) (v : Nat → Int32) : g_hs (h_fa T v) = g_hs T := rfl
theorem gh_hs_su (T : TS) (v : Int32) : g_hs (h_su T v) = g_hs T := rfl
theorem gh_hs_tr (T : TS) (v : Int64) : g_hs (h_tr T v) = g_hs T := rfl
theorem gh_hs_hs (T : TS) (v : Nat → Bool) : g_hs (h_hs T v) = v := rfl
theorem gh_sk_ct (T : TS) (v : Nat) : g_sk (h_ct T v) = g_sk T := rfl
theorem gh_sk_cu (T : TS) (v : Nat) : g_sk (h_cu T v) = g_sk T := rfl
theorem gh_sk_cl (T : TS) (v : Nat) : g_sk (h_cl T v) = g_sk T := rfl
theorem gh_sk_np (T : TS) (v : Nat) : g_sk (h_np T v) = g_sk T := rfl
theorem gh_sk_pk (T : TS) (v : Nat → Nat) : g_sk (h_pk T v) = g_sk T := rfl
theorem gh_sk_nb (T : TS) (v : Nat) : g_sk (h_nb T v) = g_sk T := rfl
theorem gh_sk_bt (T : TS) (v : Nat → Nat) : g_sk (h_bt T v) = g_sk T := rfl
theorem gh_sk_ev (T : TS) (v : Nat) : g_sk (h_ev T v) = g_sk T := rfl
theorem gh_sk_th (T : TS) (v : Nat → Bool) : g_sk (h_th T v) = g_sk T := rfl
theorem gh_sk_vo (T : TS) (v : Nat → Nat) : g_sk (h_vo T v) = g_sk T := rfl
theorem gh_sk_kd (T : TS) (v : Nat → Nat) : g_sk (h_kd T v) = g_sk T := rfl
theorem gh_sk_pn (T : TS) (v : Nat → Nat) : g_sk (h_pn T v) = g_sk T := rfl
theorem gh_sk_pi (T : TS) (v : Nat → Nat → Int32) : g_sk (h_pi T v) = g_sk T := rfl
theorem gh_sk_va (T : TS) (v : Nat → Nat) : g_sk (h_va T v) = g_sk T := rfl
theorem gh_sk_dt (T : TS) (v : Nat → Nat) : g_sk (h_dt T v) = g_sk T := rfl
theorem gh_sk_ti (T : TS) (v : Nat → Bool) : g_sk (h_ti T v) = g_sk T := rfl
theorem gh_sk_pl (T : TS) (v : Nat → Nat) : g_sk (h_pl T v) = g_sk T := rfl
theorem gh_sk_mn (T : TS) (v : Nat → Nat) : g_sk (h_mn T v) = g_sk T := rfl
theorem gh_sk_ro (T : TS) (v : Nat → Nat → Nat) : g_sk (h_ro T v) = g_sk T := rfl
theorem gh_sk_te (T : TS) (v : Nat) : g_sk (h_te T v) = g_sk T := rfl
theorem gh_sk_tt (T : TS) (v : Nat → Bool) : g_sk (h_tt T v) = g_sk T := rfl
theorem gh_sk_tv (T : TS) (v : Nat → Nat) : g_sk (h_tv T v) = g_sk T := rfl
theorem gh_sk_tf (T : TS) (v : Nat → Nat) : g_sk (h_tf T v) = g_sk T := rfl
theorem gh_sk_tl (T : TS) (v : Nat → Nat) : g_sk (h_tl T v) = g_sk T := rfl
theorem gh_sk_tn (T : TS) (v : Nat → Nat) : g_sk (h_tn T v) = g_sk T := rfl
theorem gh_sk_tm (T : TS) (v : Nat → Nat) : g_sk (h_tm T v) = g_sk T := rfl
theorem gh_sk_tu (T : TS) (v : Nat → Nat) : g_sk (h_tu T v) = g_sk T := rfl
theorem gh_sk_le (T : TS) (v : Nat) : g_sk (h_le T v) = g_sk T := rfl
theorem gh_sk_lt (T : TS) (v : Nat → Bool) : g_sk (h_lt T v) = g_sk T := rfl
theorem gh_sk_lk (T : TS) (v : Nat → Nat) : g_sk (h_lk T v) = g_sk T := rfl
theorem gh_sk_lf (T : TS) (v : Nat → Nat) : g_sk (h_lf T v) = g_sk T := rfl
theorem gh_sk_lo (T : TS) (v : Nat → Option Nat) : g_sk (h_lo T v) = g_sk T := rfl
theorem gh_sk_wm (T : TS) (v : Nat) : g_sk (h_wm T v) = g_sk T := rfl
theorem gh_sk_wr (T : TS) (v : Nat → Nat) : g_sk (h_wr T v) = g_sk T := rfl
theorem gh_sk_fo (T : TS) (v : Nat) : g_sk (h_fo T v) = g_sk T := rfl
theorem gh_sk_fi (T : TS) (v : Nat → Int32) : g_sk (h_fi T v) = g_sk T := rfl
theorem gh_sk_hr (T : TS) (v : Nat → Bool) : g_sk (h_hr T v) = g_sk T := rfl
theorem gh_sk_rk (T : TS) (v : Nat → Nat) : g_sk (h_rk T v) = g_sk T := rfl
theorem gh_sk_rs (T : TS) (v : Nat → Nat) : g_sk (h_rs T v) = g_sk T := rfl
theorem gh_sk_rr (T : TS) (v : Nat → Nat → Option Nat) : g_sk (h_rr T v) = g_sk T := rfl
theorem gh_sk_hs (T : TS) (v : Nat → Bool) : g_sk (h_hs T v) = g_sk T := rfl
theorem gh_sk_ss (T : TS) (v : Nat → Nat) : g_sk (h_ss T v) = g_sk T := rfl
theorem gh_sk_sr (T : TS) (v : Nat → Nat → Int32) : g_sk (h_sr T v) = g_sk T := rfl
theorem gh_sk_fa (T : TS) (v : Nat → Int32) : g_sk (h_fa T v) = g_sk T := rfl
theorem gh_sk_su (T : TS) (v : Int32) : g_sk (h_su T v) = g_sk T := rfl
theorem gh_sk_tr (T : TS) (v : Int64) : g_sk (h_tr T v) = g_sk T := rfl
theorem gh_sk_sk (T : TS) (v : Nat → Nat) : g_sk (h_sk T v) = v := rfl
theorem gh_ss_ct (T : TS) (v : Nat) : g_ss (h_ct T v) = g_ss T := rfl
theorem gh_ss_cu (T : TS) (v : Nat) : g_ss (h_cu T v) = g_ss T := rfl
theorem gh_ss_cl (T : TS) (v : Nat) : g_ss (h_cl T v) = g_ss T := rfl
theorem gh_ss_np (T : TS) (v : Nat) : g_ss (h_np T v) = g_ss T := rfl
theorem gh_ss_pk (T : TS) (v : Nat → Nat) : g_ss (h_pk T v) = g_ss T := rfl
theorem gh_ss_nb (T : TS) (v : Nat) : g_ss (h_nb T v) = g_ss T := rfl
theorem gh_ss_bt (T : TS) (v : Nat → Nat) : g_ss (h_bt T v) = g_ss T := rfl
theorem gh_ss_ev (T : TS) (v : Nat) : g_ss (h_ev T v) = g_ss T := rfl
theorem gh_ss_th (T : TS) (v : Nat → Bool) : g_ss (h_th T v) = g_ss T := rfl
theorem gh_ss_vo (T : TS) (v : Nat → Nat) : g_ss (h_vo T v) = g_ss T := rfl
theorem gh_ss_kd (T : TS) (v : Nat → Nat) : g_ss (h_kd T v) = g_ss T := rfl
theorem gh_ss_pn (T : TS) (v : Nat → Nat) : g_ss (h_pn T v) = g_ss T := rfl
theorem gh_ss_pi (T : TS) (v : Nat → Nat → Int32) : g_ss (h_pi T v) = g_ss T := rfl
theorem gh_ss_va (T : TS) (v : Nat → Nat) : g_ss (h_va T v) = g_ss T := rfl
theorem gh_ss_dt (T : TS) (v : Nat → Nat) : g_ss (h_dt T v) = g_ss T := rfl
theorem gh_ss_ti (T : TS) (v : Nat → Bool) : g_ss (h_ti T v) = g_ss T := rfl
theorem gh_ss_pl (T : TS) (v : Nat → Nat) : g_ss (h_pl T v) = g_ss T := rfl
theorem gh_ss_mn (T : TS) (v : Nat → Nat) : g_ss (h_mn T v) = g_ss T := rfl
theorem gh_ss_ro (T : TS) (v : Nat → Nat → Nat) : g_ss (h_ro T v) = g_ss T := rfl
theorem gh_ss_te (T : TS) (v : Nat) : g_ss (h_te T v) = g_ss T := rfl
theorem gh_ss_tt (T : TS) (v : Nat → Bool) : g_ss (h_tt T v) = g_ss T := rfl
theorem gh_ss_tv (T : TS) (v : Nat → Nat) : g_ss (h_tv T v) = g_ss T := rfl
theorem gh_ss_tf (T : TS) (v : Nat → Nat) : g_ss (h_tf T v) = g_ss T := rfl
theorem gh_ss_tl (T : TS) (v : Nat → Nat) : g_ss (h_tl T v) = g_ss T := rfl
theorem gh_ss_tn (T : TS) (v : Nat → Nat) : g_ss (h_tn T v) = g_ss T := rfl
theorem gh_ss_tm (T : TS) (v : Nat → Nat) : g_ss (h_tm T v) = g_ss T := rfl
theorem gh_ss_tu (T : TS) (v : Nat → Nat) : g_ss (h_tu T v) = g_ss T := rfl
theorem gh_ss_le (T : TS) (v : Nat) : g_ss (h_le T v) = g_ss T := rfl
theorem gh_ss_lt (T : TS) (v : Nat → Bool) : g_ss (h_lt T v) = g_ss T := rfl
theorem gh_ss_lk (T : TS) (v : Nat → Nat) : g_ss (h_lk T v) = g_ss T := rfl
theorem gh_ss_lf (T : TS) (v : Nat → Nat) : g_ss (h_lf T v) = g_ss T := rfl
theorem gh_ss_lo (T : TS) (v : Nat → Option Nat) : g_ss (h_lo T v) = g_ss T := rfl
theorem gh_ss_wm (T : TS) (v : Nat) : g_ss (h_wm T v) = g_ss T := rfl
theorem gh_ss_wr (T : TS) (v : Nat → Nat) : g_ss (h_wr T v) = g_ss T := rfl
theorem gh_ss_fo (T : TS) (v : Nat) : g_ss (h_fo T v) = g_ss T := rfl
theorem gh_ss_fi (T : TS) (v : Nat → Int32) : g_ss (h_fi T v) = g_ss T := rfl
theorem gh_ss_hr (T : TS) (v : Nat → Bool) : g_ss (h_hr T v) = g_ss T := rfl
theorem gh_ss_rk (T : TS) (v : Nat → Nat) : g_ss (h_rk T v) = g_ss T := rfl
theorem gh_ss_rs (T : TS) (v : Nat → Nat) : g_ss (h_rs T v) = g_ss T := rfl
theorem gh_ss_rr (T : TS) (v : Nat → Nat → Option Nat) : g_ss (h_rr T v) = g_ss T := rfl
theorem gh_ss_hs (T : TS) (v : Nat → Bool) : g_ss (h_hs T v) = g_ss T := rfl
theorem gh_ss_sk (T : TS) (v : Nat → Nat) : g_ss (h_sk T v) = g_ss T := rfl
theorem gh_ss_sr (T : TS) (v : Nat → Nat → Int32) : g_ss (h_sr T v) = g_ss T := rfl
theorem gh_ss_fa (T : TS) (v : Nat → Int32) : g_ss (h_fa T v) = g_ss T := rfl
theorem gh_ss_su (T : TS) (v : Int32) : g_ss (h_su T v) = g_ss T := rfl
theorem gh_ss_tr (T : TS) (v : Int64) : g_ss (h_tr T v) = g_ss T := rfl
theorem gh_ss_ss (T : TS) (v : Nat → Nat) : g_ss (h_ss T v) = v := rfl
theorem gh_sr_ct (T : TS) (v : Nat) : g_sr (h_ct T v) = g_sr T := rfl
theorem gh_sr_cu (T : TS) (v : Nat) : g_sr (h_cu T v) = g_sr T := rfl
theorem gh_sr_cl (T : TS) (v : Nat) : g_sr (h_cl T v) = g_sr T := rfl
theorem gh_sr_np (T : TS) (v : Nat) : g_sr (h_np T v) = g_sr T := rfl
theorem gh_sr_pk (T : TS) (v : Nat → Nat) : g_sr (h_pk T v) = g_sr T := rfl
theorem gh_sr_nb (T : TS) (v : Nat) : g_sr (h_nb T v) = g_sr T := rfl
theorem gh_sr_bt (T : TS) (v : Nat → Nat) : g_sr (h_bt T v) = g_sr T := rfl
theorem gh_sr_ev (T : TS) (v : Nat) : g_sr (h_ev T v) = g_sr T := rfl
theorem gh_sr_th (T : TS) (v : Nat → Bool) : g_sr (h_th T v) = g_sr T := rfl
theorem gh_sr_vo (T : TS) (v : Nat → Nat) : g_sr (h_vo T v) = g_sr T := rfl
theorem gh_sr_kd (T : TS) (v : Nat → Nat) : g_sr (h_kd T v) = g_sr T := rfl
theorem gh_sr_pn (T : TS) (v : Nat → Nat) : g_sr (h_pn T v) = g_sr T := rfl
theorem gh_sr_pi (T : TS) (v : Nat → Nat → Int32) : g_sr (h_pi T v) = g_sr T := rfl
theorem gh_sr_va (T : TS) (v : Nat → Nat) : g_sr (h_va T v) = g_sr T := rfl
theorem gh_sr_dt (T : TS) (v : Nat → Nat) : g_sr (h_dt T v) = g_sr T := rfl
theorem gh_sr_ti (T : TS) (v : Nat → Bool) : g_sr (h_ti T v) = g_sr T := rfl
theorem gh_sr_pl (T : TS) (v : Nat → Nat) : g_sr (h_pl T v) = g_sr T := rfl
theorem gh_sr_mn (T : TS) (v : Nat → Nat) : g_sr (h_mn T v) = g_sr T := rfl
theorem gh_sr_ro (T : TS) (v : Nat → Nat → Nat) : g_sr (h_ro T v) = g_sr T := rfl
theorem gh_sr_te (T : TS) (v : Nat) : g_sr (h_te T v) = g_sr T := rfl
theorem gh_sr_tt (T : TS) (v : Nat → Bool) : g_sr (h_tt T v) = g_sr T := rfl
theorem gh_sr_tv (T : TS) (v : Nat → Nat) : g_sr (h_tv T v) = g_sr T := rfl
theorem gh_sr_tf (T : TS) (v : Nat → Nat) : g_sr (h_tf T v) = g_sr T := rfl
theorem gh_sr_tl (T : TS) (v : Nat → Nat) : g_sr (h_tl T v) = g_sr T := rfl
theorem gh_sr_tn (T : TS) (v : Nat → Nat) : g_sr (h_tn T v) = g_sr T := rfl
theorem gh_sr_tm (T : TS) (v : Nat → Nat) : g_sr (h_tm T v) = g_sr T := rfl
theorem gh_sr_tu (T : TS) (v : Nat → Nat) : g_sr (h_tu T v) = g_sr T := rfl
theorem gh_sr_le (T : TS) (v : Nat) : g_sr (h_le T v) = g_sr T := rfl
theorem gh_sr_lt (T : TS) (v : Nat → Bool) : g_sr (h_lt T v) = g_sr T := rfl
theorem gh_sr_lk (T : TS) (v : Nat → Nat) : g_sr (h_lk T v) = g_sr T := rfl
theorem gh_sr_lf (T : TS) (v : Nat → Nat) : g_sr (h_lf T v) = g_sr T := rfl
theorem gh_sr_lo (T : TS) (v : Nat → Option Nat) : g_sr (h_lo T v) = g_sr T := rfl
theorem gh_sr_wm (T : TS) (v : Nat) : g_sr (h_wm T v) = g_sr T := rfl
theorem gh_sr_wr (T : TS) (v : Nat → Nat) : g_sr (h_wr T v) = g_sr T := rfl
theorem gh_sr_fo (T : TS) (v : Nat) : g_sr (h_fo T v) = g_sr T := rfl
theorem gh_sr_fi (T : TS) (v : Nat → Int32) : g_sr (h_fi T v) = g_sr T := rfl
theorem gh_sr_hr (T : TS) (v : Nat → Bool) : g_sr (h_hr T v) = g_sr T := rfl
theorem gh_sr_rk (T : TS) (v : Nat → Nat) : g_sr (h_rk T v) = g_sr T := rfl
theorem gh_sr_rs (T : TS) (v : Nat → Nat) : g_sr (h_rs T v) = g_sr T := rfl
theorem gh_sr_rr (T : TS) (v : Nat → Nat → Option Nat) : g_sr (h_rr T v) = g_sr T := rfl
theorem gh_sr_hs (T : TS) (v : Nat → Bool) : g_sr (h_hs T v) = g_sr T := rfl
theorem gh_sr_sk (T : TS) (v : Nat → Nat) : g_sr (h_sk T v) = g_sr T := rfl
theorem gh_sr_ss (T : TS) (v : Nat → Nat) : g_sr (h_ss T v) = g_sr T := rfl
theorem gh_sr_fa (T : TS) (v : Nat → Int32) : g_sr (h_fa T v) = g_sr T := rfl
theorem gh_sr_su (T : TS) (v : Int32) : g_sr (h_su T v) = g_sr T := rfl
theorem gh_sr_tr (T : TS) (v : Int64) : g_sr (h_tr T v) = g_sr T := rfl
theorem gh_sr_sr (T : TS) (v : Nat → Nat → Int32) : g_sr (h_sr T v) = v := rfl
theorem gh_fa_ct (T : TS) (v : Nat) : g_fa (h_ct T v) = g_fa T := rfl
theorem gh_fa_cu (T : TS) (v : Nat) : g_fa (h_cu T v) = g_fa T := rfl
theorem gh_fa_cl (T : TS) (v : Nat) : g_fa (h_cl T v) = g_fa T := rfl
theorem gh_fa_np (T : TS) (v : Nat) : g_fa (h_np T v) = g_fa T := rfl
theorem gh_fa_pk (T : TS) (v : Nat → Nat) : g_fa (h_pk T v) = g_fa T := rfl
theorem gh_fa_nb (T : TS) (v : Nat) : g_fa (h_nb T v) = g_fa T := rfl
theorem gh_fa_bt (T : TS) (v : Nat → Nat) : g_fa (h_bt T v) = g_fa T := rfl
theorem gh_fa_ev (T : TS) (v : Nat) : g_fa (h_ev T v) = g_fa T := rfl
theorem gh_fa_th (T : TS) (v : Nat → Bool) : g_fa (h_th T v) = g_fa T := rfl
theorem gh_fa_vo (T : TS) (v : Nat → Nat) : g_fa (h_vo T v) = g_fa T := rfl
theorem gh_fa_kd (T : TS) (v : Nat → Nat) : g_fa (h_kd T v) = g_fa T := rfl
theorem gh_fa_pn (T : TS) (v : Nat → Nat) : g_fa (h_pn T v) = g_fa T := rfl
theorem gh_fa_pi (T : TS) (v : Nat → Nat → Int32) : g_fa (h_pi T v) = g_fa T := rfl
theorem gh_fa_va (T : TS) (v : Nat → Nat) : g_fa (h_va T v) = g_fa T := rfl
theorem gh_fa_dt (T : TS) (v : Nat → Nat) : g_fa (h_dt T v) = g_fa T := rfl
theorem gh_fa_ti (T : TS) (v : Nat → Bool) : g_fa (h_ti T v) = g_fa T := rfl
theorem gh_fa_pl (T : TS) (v : Nat → Nat) : g_fa (h_pl T v) = g_fa T := rfl
theorem gh_fa_mn (T : TS) (v : Nat → Nat) : g_fa (h_mn T v) = g_fa T := rfl
theorem gh_fa_ro (T : TS) (v : Nat → Nat → Nat) : g_fa (h_ro T v) = g_fa T := rfl
theorem gh_fa_te (T : TS) (v : Nat) : g_fa (h_te T v) = g_fa T := rfl
theorem gh_fa_tt (T : TS) (v : Nat → Bool) : g_fa (h_tt T v) = g_fa T := rfl
theorem gh_fa_tv (T : TS) (v : Nat → Nat) : g_fa (h_tv T v) = g_fa T := rfl
theorem gh_fa_tf (T : TS) (v : Nat → Nat) : g_fa (h_tf T v) = g_fa T := rfl
theorem gh_fa_tl (T : TS) (v : Nat → Nat) : g_fa (h_tl T v) = g_fa T := rfl
theorem gh_fa_tn (T : TS) (v : Nat → Nat) : g_fa (h_tn T v) = g_fa T := rfl
theorem gh_fa_tm (T : TS) (v : Nat → Nat) : g_fa (h_tm T v) = g_fa T := rfl
theorem gh_fa_tu (T : TS) (v : Nat → Nat) : g_fa (h_tu T v) = g_fa T := rfl
theorem gh_fa_le (T : TS) (v : Nat) : g_fa (h_le T v) = g_fa T := rfl
theorem gh_fa_lt (T : TS) (v : Nat → Bool) : g_fa (h_lt T v) = g_fa T := rfl
theorem gh_fa_lk (T : TS) (v : Nat → Nat) : g_fa (h_lk T v) = g_fa T := rfl
theorem gh_fa_lf (T : TS) (v : Nat → Nat) : g_fa (h_lf T v) = g_fa T := rfl
theorem gh_fa_lo (T : TS) (v : Nat → Option Nat) : g_fa (h_lo T v) = g_fa T := rfl
theorem gh_fa_wm (T : TS) (v : Nat) : g_fa (h_wm T v) = g_fa T := rfl
theorem gh_fa_wr (T : TS) (v : Nat → Nat) : g_fa (h_wr T v) = g_fa T := rfl
theorem gh_fa_fo (T : TS) (v : Nat) : g_fa (h_fo T v) = g_fa T := rfl
theorem gh_fa_fi (T : TS) (v : Nat → Int32) : g_fa (h_fi T v) = g_fa T := rfl
theorem gh_fa_hr (T : TS) (v : Nat → Bool) : g_fa (h_hr T v) = g_fa T := rfl
theorem gh_fa_rk (T : TS) (v : Nat → Nat) : g_fa (h_rk T v) = g_fa T := rfl
theorem gh_fa_rs (T : TS) (v : Nat → Nat) : g_fa (h_rs T v) = g_fa T := rfl
theorem gh_fa_rr (T : TS) (v : Nat → Nat → Option Nat) : g_fa (h_rr T v) = g_fa T := rfl
theorem gh_fa_hs (T : TS) (v : Nat → Bool) : g_fa (h_hs T v) = g_fa T := rfl
theorem gh_fa_sk (T : TS) (v : Nat → Nat) : g_fa (h_sk T v) = g_fa T := rfl
theorem gh_fa_ss (T : TS) (v : Nat → Nat) : g_fa (h_ss T v) = g_fa T := rfl
theorem gh_fa_sr (T : TS) (v : Nat → Nat → Int32) : g_fa (h_sr T v) = g_fa T := rfl
theorem gh_fa_su (T : TS) (v : Int32) : g_fa (h_su T v) = g_fa T := rfl
theorem gh_fa_tr (T : TS) (v : Int64) : g_fa (h_tr T v) = g_fa T := rfl
theorem gh_fa_fa (T : TS) (v : Nat → Int32) : g_fa (h_fa T v) = v := rfl
theorem gh_su_ct (T : TS) (v : Nat) : g_su (h_ct T v) = g_su T := rfl
theorem gh_su_cu (T : TS) (v : Nat) : g_su (h_cu T v) = g_su T := rfl
theorem gh_su_cl (T : TS) (v : Nat) : g_su (h_cl T v) = g_su T := rfl
theorem gh_su_np (T : TS) (v : Nat) : g_su (h_np T v) = g_su T := rfl
theorem gh_su_pk (T : TS) (v : Nat → Nat) : g_su (h_pk T v) = g_su T := rfl
theorem gh_su_nb (T : TS) (v : Nat) : g_su (h_nb T v) = g_su T := rfl
theorem gh_su_bt (T : TS) (v : Nat → Nat) : g_su (h_bt T v) = g_su T := rfl
theorem gh_su_ev (T : TS) (v : Nat) : g_su (h_ev T v) = g_su T := rfl
theorem gh_su_th (T : TS) (v : Nat → Bool) : g_su (h_th T v) = g_su T := rfl
theorem gh_su_vo (T : TS) (v : Nat → Nat) : g_su (h_vo T v) = g_su T := rfl
theorem gh_su_kd (T : TS) (v : Nat → Nat) : g_su (h_kd T v) = g_su T := rfl
theorem gh_su_pn (T : TS) (v : Nat → Nat) : g_su (h_pn T v) = g_su T := rfl
theorem gh_su_pi (T : TS) (v : Nat → Nat → Int32) : g_su (h_pi T v) = g_su T := rfl
theorem gh_su_va (T : TS) (v : Nat → Nat) : g_su (h_va T v) = g_su T := rfl
theorem gh_su_dt (T : TS) (v : Nat → Nat) : g_su (h_dt T v) = g_su T := rfl
theorem gh_su_ti (T : TS) (v : Nat → Bool) : g_su (h_ti T v) = g_su T := rfl
theorem gh_su_pl (T : TS) (v : Nat → Nat) : g_su (h_pl T v) = g_su T := rfl
theorem gh_su_mn (T : TS) (v : Nat → Nat) : g_su (h_mn T v) = g_su T := rfl
theorem gh_su_ro (T : TS) (v : Nat → Nat → Nat) : g_su (h_ro T v) = g_su T := rfl
theorem gh_su_te (T : TS) (v : Nat) : g_su (h_te T v) = g_su T := rfl
theorem gh_su_tt (T : TS) (v : Nat → Bool) : g_su (h_tt T v) = g_su T := rfl
theorem gh_su_tv (T : TS) (v : Nat → Nat) : g_su (h_tv T v) = g_su T := rfl
theorem gh_su_tf (T : TS) (v : Nat → Nat) : g_su (h_tf T v) = g_su T := rfl
theorem gh_su_tl (T : TS) (v : Nat → Nat) : g_su (h_tl T v) = g_su T := rfl
theorem gh_su_tn (T : TS) (v : Nat → Nat) : g_su (h_tn T v) = g_su T := rfl
theorem gh_su_tm (T : TS) (v : Nat → Nat) : g_su (h_tm T v) = g_su T := rfl
theorem gh_su_tu (T : TS) (v : Nat → Nat) : g_su (h_tu T v) = g_su T := rfl
theorem gh_su_le (T : TS) (v : Nat) : g_su (h_le T v) = g_su T := rfl
theorem gh_su_lt (T : TS) (v : Nat → Bool) : g_su (h_lt T v) = g_su T := rfl
theorem gh_su_lk (T : TS) (v : Nat → Nat) : g_su (h_lk T v) = g_su T := rfl
theorem gh_su_lf (T : TS) (v : Nat → Nat) : g_su (h_lf T v) = g_su T := rfl
theorem gh_su_lo (T : TS) (v : Nat → Option Nat) : g_su (h_lo T v) = g_su T := rfl
theorem gh_su_wm (T : TS) (v : Nat) : g_su (h_wm T v) = g_su T := rfl
theorem gh_su_wr (T : TS) (v : Nat → Nat) : g_su (h_wr T v) = g_su T := rfl
theorem gh_su_fo (T : TS) (v : Nat) : g_su (h_fo T v) = g_su T := rfl
theorem gh_su_fi (T : TS) (v : Nat → Int32) : g_su (h_fi T v) = g_su T := rfl
theorem gh_su_hr (T : TS) (v : Nat → Bool) : g_su (h_hr T v) = g_su T := rfl
theorem gh_su_rk (T : TS) (v : Nat → Nat) : g_su (h_rk T v) = g_su T := rfl
theorem gh_su_rs (T : TS) (v : Nat → Nat) : g_su (h_rs T v) = g_su T := rfl
theorem gh_su_rr (T : TS) (v : Nat → Nat → Option Nat) : g_su (h_rr T v) = g_su T := rfl
theorem gh_su_hs (T : TS) (v : Nat → Bool) : g_su (h_hs T v) = g_su T := rfl
theorem gh_su_sk (T : TS) (v : Nat → Nat) : g_su (h_sk T v) = g_su T := rfl
theorem gh_su_ss (T : TS) (v : Nat → Nat) : g_su (h_ss T v) = g_su T := rfl
theorem gh_su_sr (T : TS) (v : Nat → Nat → Int32) : g_su (h_sr T v) = g_su T := rfl
theorem gh_su_fa (T : TS) (v : Nat → Int32) : g_su (h_fa T v) = g_su T := rfl
theorem gh_su_tr (T : TS) (v : Int64) : g_su (h_tr T v) = g_su T := rfl
theorem gh_su_su (T : TS) (v : Int32) : g_su (h_su T v) = v := rfl
theorem gh_tr_ct (T : TS) (v : Nat) : g_tr (h_ct T v) = g_tr T := rfl
theorem gh_tr_cu (T : TS) (v : Nat) : g_tr (h_cu T v) = g_tr T := rfl
theorem gh_tr_cl (T : TS) (v : Nat) : g_tr (h_cl T v) = g_tr T := rfl
theorem gh_tr_np (T : TS) (v : Nat) : g_tr (h_np T v) = g_tr T := rfl
theorem gh_tr_pk (T : TS) (v : Nat → Nat) : g_tr (h_pk T v) = g_tr T := rfl
theorem gh_tr_nb (T : TS) (v : Nat) : g_tr (h_nb T v) = g_tr T := rfl
theorem gh_tr_bt (T : TS) (v : Nat → Nat) : g_tr (h_bt T v) = g_tr T := rfl
theorem gh_tr_ev (T : TS) (v : Nat) : g_tr (h_ev T v) = g_tr T := rfl
theorem gh_tr_th (T : TS) (v : Nat → Bool) : g_tr (h_th T v) = g_tr T := rfl
theorem gh_tr_vo (T : TS) (v : Nat → Nat) : g_tr (h_vo T v) = g_tr T := rfl
theorem gh_tr_kd (T : TS) (v : Nat → Nat) : g_tr (h_kd T v) = g_tr T := rfl
theorem gh_tr_pn (T : TS) (v : Nat → Nat) : g_tr (h_pn T v) = g_tr T := rfl
theorem gh_tr_pi (T : TS) (v : Nat → Nat → Int32) : g_tr (h_pi T v) = g_tr T := rfl
theorem gh_tr_va (T : TS) (v : Nat → Nat) : g_tr (h_va T v) = g_tr T := rfl
theorem gh_tr_dt (T : TS) (v : Nat → Nat) : g_tr (h_dt T v) = g_tr T := rfl
theorem gh_tr_ti (T : TS) (v : Nat → Bool) : g_tr (h_ti T v) = g_tr T := rfl
theorem gh_tr_pl (T : TS) (v : Nat → Nat) : g_tr (h_pl T v) = g_tr T := rfl
theorem gh_tr_mn (T : TS) (v : Nat → Nat) : g_tr (h_mn T v) = g_tr T := rfl
theorem gh_tr_ro (T : TS) (v : Nat → Nat → Nat) : g_tr (h_ro T v) = g_tr T := rfl
theorem gh_tr_te (T : TS) (v : Nat) : g_tr (h_te T v) = g_tr T := rfl
theorem gh_tr_tt (T : TS) (v : Nat → Bool) : g_tr (h_tt T v) = g_tr T := rfl
theorem gh_tr_tv (T : TS) (v : Nat → Nat) : g_tr (h_tv T v) = g_tr T := rfl
theorem gh_tr_tf (T : TS) (v : Nat → Nat) : g_tr (h_tf T v) = g_tr T := rfl
theorem gh_tr_tl (T : TS) (v : Nat → Nat) : g_tr (h_tl T v) = g_tr T := rfl
theorem gh_tr_tn (T : TS) (v : Nat → Nat) : g_tr (h_tn T v) = g_tr T := rfl
theorem gh_tr_tm (T : TS) (v : Nat → Nat) : g_tr (h_tm T v) = g_tr T := rfl
theorem gh_tr_tu (T : TS) (v : Nat → Nat) : g_tr (h_tu T v) = g_tr T := rfl
theorem gh_tr_le (T : TS) (v : Nat) : g_tr (h_le T v) = g_tr T := rfl
theorem gh_tr_lt (T : TS) (v : Nat → Bool) : g_tr (h_lt T v) = g_tr T := rfl
theorem gh_tr_lk (T : TS) (v : Nat → Nat) : g_tr (h_lk T v) = g_tr T := rfl
theorem gh_tr_lf (T : TS) (v : Nat → Nat) : g_tr (h_lf T v) = g_tr T := rfl
theorem gh_tr_lo (T : TS) (v : Nat → Option Nat) : g_tr (h_lo T v) = g_tr T := rfl
theorem gh_tr_wm (T : TS) (v : Nat) : g_tr (h_wm T v) = g_tr T := rfl
theorem gh_tr_wr (T : TS) (v : Nat → Nat) : g_tr (h_wr T v) = g_tr T := rfl
theorem gh_tr_fo (T : TS) (v : Nat) : g_tr (h_fo T v) = g_tr T := rfl
theorem gh_tr_fi (T : TS) (v : Nat → Int32) : g_tr (h_fi T v) = g_tr T := rfl
theorem gh_tr_hr (T : TS) (v : Nat → Bool) : g_tr (h_hr T v) = g_tr T := rfl
theorem gh_tr_rk (T : TS) (v : Nat → Nat) : g_tr (h_rk T v) = g_tr T := rfl
theorem gh_tr_rs (T : TS) (v : Nat → Nat) : g_tr (h_rs T v) = g_tr T := rfl
theorem gh_tr_rr (T : TS) (v : Nat → Nat → Option Nat) : g_tr (h_rr T v) = g_tr T := rfl
theorem gh_tr_hs (T : TS) (v : Nat → Bool) : g_tr (h_hs T v) = g_tr T := rfl
theorem gh_tr_sk (T : TS) (v : Nat → Nat) : g_tr (h_sk T v) = g_tr T := rfl
theorem gh_tr_ss (T : TS) (v : Nat → Nat) : g_tr (h_ss T v) = g_tr T := rfl
theorem gh_tr_sr (T : TS) (v : Nat → Nat → Int32) : g_tr (h_sr T v) = g_tr T := rfl
theorem gh_tr_fa (T : TS) (v : Nat → Int32) : g_tr (h_fa T v) = g_tr T := rfl
theorem gh_tr_su (T : TS) (v : Int32) : g_tr (h_su T v) = g_tr T := rfl
theorem gh_tr_tr (T : TS) (v : Int64) : g_tr (h_tr T v) = v := rfl
def zcnt (b : Nat → Bool) : Nat → Nat
  | 0 => 0
  | n + 1 => zcnt b n + (if b n then 1 else 0)
def oI (o : Option Nat) : Int32 := match o with
  | none => -1
  | some e => nI e
def va_u2 {α : Type} (f : Nat → Nat → α) (i : Nat) (g : Nat → α) : Nat → Nat → α := fun j => if j = i then g else f j
/-- the reference: the object at x, its rows behind it -/
def rTab : List (Nat × Nat × Nat × Nat) := [(769, 1, 2, 6), (771, 2, 4, 24), (774, 3, 3, 150), (775, 4, 2, 150), (776, 5, 2, 150), (777, 6, 2, 150), (778, 7, 2, 900), (779, 8, 2, 150), (780, 9, 2, 150), (781, 10, 3, 150), (782, 11, 2, 720), (783, 12, 2, 18), (786, 13, 3, 20), (787, 14, 2, 20), (788, 15, 2, 20), (789, 16, 2, 20), (790, 17, 2, 20), (791, 18, 2, 20), (792, 19, 2, 20), (795, 20, 3, 30), (796, 21, 2, 30), (797, 22, 2, 30), (798, 23, 2, 30), (800, 24, 2, 150), (802, 25, 2, 300), (803, 26, 3, 4), (804, 27, 2, 4), (805, 28, 2, 4), (806, 29, 2, 80), (807, 30, 2, 20), (808, 31, 3, 4), (809, 32, 2, 4), (810, 33, 2, 4), (811, 34, 2, 240), (812, 35, 2, 60), (813, 36, 2, 5), (817, 37, 4, 150)]
def rA (x : Nat) (σ : ZS) : Prop := zk σ x = (1, 12) ∧ ∀ q ∈ rTab, zR σ q.1 x = some (x + q.2.1) ∧ zk σ (x + q.2.1) = (q.2.2.1, q.2.2.2)
theorem ra_partKind {x : Nat} {σ : ZS} (h : rA x σ) : zR σ 769 x = some (x + 1) := (h.2 (769, 1, 2, 6) (List.mem_of_getElem? (i := 0) rfl)).1
theorem rk_partKind {x : Nat} {σ : ZS} (h : rA x σ) : zk σ (x + 1) = (2, 6) := (h.2 (769, 1, 2, 6) (List.mem_of_getElem? (i := 0) rfl)).2
theorem ra_barTime {x : Nat} {σ : ZS} (h : rA x σ) : zR σ 771 x = some (x + 2) := (h.2 (771, 2, 4, 24) (List.mem_of_getElem? (i := 1) rfl)).1
theorem rk_barTime {x : Nat} {σ : ZS} (h : rA x σ) : zk σ (x + 2) = (4, 24) := (h.2 (771, 2, 4, 24) (List.mem_of_getElem? (i := 1) rfl)).2
theorem ra_isThere {x : Nat} {σ : ZS} (h : rA x σ) : zR σ 774 x = some (x + 3) := (h.2 (774, 3, 3, 150) (List.mem_of_getElem? (i := 2) rfl)).1
theorem rk_isThere {x : Nat} {σ : ZS} (h : rA x σ) : zk σ (x + 3) = (3, 150) := (h.2 (774, 3, 3, 150) (List.mem_of_getElem? (i := 2) rfl)).2
theorem ra_voiceOf {x : Nat} {σ : ZS} (h : rA x σ) : zR σ 775 x = some (x + 4) := (h.2 (775, 4, 2, 150) (List.mem_of_getElem? (i := 3) rfl)).1
theorem rk_voiceOf {x : Nat} {σ : ZS} (h : rA x σ) : zk σ (x + 4) = (2, 150) := (h.2 (775, 4, 2, 150) (List.mem_of_getElem? (i := 3) rfl)).2
theorem ra_kindOf {x : Nat} {σ : ZS} (h : rA x σ) : zR σ 776 x = some (x + 5) := (h.2 (776, 5, 2, 150) (List.mem_of_getElem? (i := 4) rfl)).1
theorem rk_kindOf {x : Nat} {σ : ZS} (h : rA x σ) : zk σ (x + 5) = (2, 150) := (h.2 (776, 5, 2, 150) (List.mem_of_getElem? (i := 4) rfl)).2
theorem ra_pitches {x : Nat} {σ : ZS} (h : rA x σ) : zR σ 777 x = some (x + 6) := (h.2 (777, 6, 2, 150) (List.mem_of_getElem? (i := 5) rfl)).1
theorem rk_pitches {x : Nat} {σ : ZS} (h : rA x σ) : zk σ (x + 6) = (2, 150) := (h.2 (777, 6, 2, 150) (List.mem_of_getElem? (i := 5) rfl)).2
theorem ra_pitchOf {x : Nat} {σ : ZS} (h : rA x σ) : zR σ 778 x = some (x + 7) := (h.2 (778, 7, 2, 900) (List.mem_of_getElem? (i := 6) rfl)).1
theorem rk_pitchOf {x : Nat} {σ : ZS} (h : rA x σ) : zk σ (x + 7) = (2, 900) := (h.2 (778, 7, 2, 900) (List.mem_of_getElem? (i := 6) rfl)).2
theorem ra_valueOf {x : Nat} {σ : ZS} (h : rA x σ) : zR σ 779 x = some (x + 8) := (h.2 (779, 8, 2, 150) (List.mem_of_getElem? (i := 7) rfl)).1
theorem rk_valueOf {x : Nat} {σ : ZS} (h : rA x σ) : zk σ (x + 8) = (2, 150) := (h.2 (779, 8, 2, 150) (List.mem_of_getElem? (i := 7) rfl)).2
theorem ra_dotsOf {x : Nat} {σ : ZS} (h : rA x σ) : zR σ 780 x = some (x + 9) := (h.2 (780, 9, 2, 150) (List.mem_of_getElem? (i := 8) rfl)).1
theorem rk_dotsOf {x : Nat} {σ : ZS} (h : rA x σ) : zk σ (x + 9) = (2, 150) := (h.2 (780, 9, 2, 150) (List.mem_of_getElem? (i := 8) rfl)).2
theorem ra_isTied {x : Nat} {σ : ZS} (h : rA x σ) : zR σ 781 x = some (x + 10) := (h.2 (781, 10, 3, 150) (List.mem_of_getElem? (i := 9) rfl)).1
theorem rk_isTied {x : Nat} {σ : ZS} (h : rA x σ) : zk σ (x + 10) = (3, 150) := (h.2 (781, 10, 3, 150) (List.mem_of_getElem? (i := 9) rfl)).2
theorem ra_row {x : Nat} {σ : ZS} (h : rA x σ) : zR σ 782 x = some (x + 11) := (h.2 (782, 11, 2, 720) (List.mem_of_getElem? (i := 10) rfl)).1
theorem rk_row {x : Nat} {σ : ZS} (h : rA x σ) : zk σ (x + 11) = (2, 720) := (h.2 (782, 11, 2, 720) (List.mem_of_getElem? (i := 10) rfl)).2
theorem ra_many {x : Nat} {σ : ZS} (h : rA x σ) : zR σ 783 x = some (x + 12) := (h.2 (783, 12, 2, 18) (List.mem_of_getElem? (i := 11) rfl)).1
theorem rk_many {x : Nat} {σ : ZS} (h : rA x σ) : zk σ (x + 12) = (2, 18) := (h.2 (783, 12, 2, 18) (List.mem_of_getElem? (i := 11) rfl)).2
theorem ra_isTuplet {x : Nat} {σ : ZS} (h : rA x σ) : zR σ 786 x = some (x + 13) := (h.2 (786, 13, 3, 20) (List.mem_of_getElem? (i := 12) rfl)).1
theorem rk_isTuplet {x : Nat} {σ : ZS} (h : rA x σ) : zk σ (x + 13) = (3, 20) := (h.2 (786, 13, 3, 20) (List.mem_of_getElem? (i := 12) rfl)).2
theorem ra_tupletVoice {x : Nat} {σ : ZS} (h : rA x σ) : zR σ 787 x = some (x + 14) := (h.2 (787, 14, 2, 20) (List.mem_of_getElem? (i := 13) rfl)).1
theorem rk_tupletVoice {x : Nat} {σ : ZS} (h : rA x σ) : zk σ (x + 14) = (2, 20) := (h.2 (787, 14, 2, 20) (List.mem_of_getElem? (i := 13) rfl)).2
theorem ra_tupletFirst {x : Nat} {σ : ZS} (h : rA x σ) : zR σ 788 x = some (x + 15) := (h.2 (788, 15, 2, 20) (List.mem_of_getElem? (i := 14) rfl)).1
theorem rk_tupletFirst {x : Nat} {σ : ZS} (h : rA x σ) : zk σ (x + 15) = (2, 20) := (h.2 (788, 15, 2, 20) (List.mem_of_getElem? (i := 14) rfl)).2
theorem ra_tupletLast {x : Nat} {σ : ZS} (h : rA x σ) : zR σ 789 x = some (x + 16) := (h.2 (789, 16, 2, 20) (List.mem_of_getElem? (i := 15) rfl)).1
theorem rk_tupletLast {x : Nat} {σ : ZS} (h : rA x σ) : zk σ (x + 16) = (2, 20) := (h.2 (789, 16, 2, 20) (List.mem_of_getElem? (i := 15) rfl)).2
theorem ra_tupletN {x : Nat} {σ : ZS} (h : rA x σ) : zR σ 790 x = some (x + 17) := (h.2 (790, 17, 2, 20) (List.mem_of_getElem? (i := 16) rfl)).1
theorem rk_tupletN {x : Nat} {σ : ZS} (h : rA x σ) : zk σ (x + 17) = (2, 20) := (h.2 (790, 17, 2, 20) (List.mem_of_getElem? (i := 16) rfl)).2
theorem ra_tupletM {x : Nat} {σ : ZS} (h : rA x σ) : zR σ 791 x = some (x + 18) := (h.2 (791, 18, 2, 20) (List.mem_of_getElem? (i := 17) rfl)).1
theorem rk_tupletM {x : Nat} {σ : ZS} (h : rA x σ) : zk σ (x + 18) = (2, 20) := (h.2 (791, 18, 2, 20) (List.mem_of_getElem? (i := 17) rfl)).2
theorem ra_tupletUnit {x : Nat} {σ : ZS} (h : rA x σ) : zR σ 792 x = some (x + 19) := (h.2 (792, 19, 2, 20) (List.mem_of_getElem? (i := 18) rfl)).1
theorem rk_tupletUnit {x : Nat} {σ : ZS} (h : rA x σ) : zk σ (x + 19) = (2, 20) := (h.2 (792, 19, 2, 20) (List.mem_of_getElem? (i := 18) rfl)).2
theorem ra_isLine {x : Nat} {σ : ZS} (h : rA x σ) : zR σ 795 x = some (x + 20) := (h.2 (795, 20, 3, 30) (List.mem_of_getElem? (i := 19) rfl)).1
theorem rk_isLine {x : Nat} {σ : ZS} (h : rA x σ) : zk σ (x + 20) = (3, 30) := (h.2 (795, 20, 3, 30) (List.mem_of_getElem? (i := 19) rfl)).2
theorem ra_lineKind {x : Nat} {σ : ZS} (h : rA x σ) : zR σ 796 x = some (x + 21) := (h.2 (796, 21, 2, 30) (List.mem_of_getElem? (i := 20) rfl)).1
theorem rk_lineKind {x : Nat} {σ : ZS} (h : rA x σ) : zk σ (x + 21) = (2, 30) := (h.2 (796, 21, 2, 30) (List.mem_of_getElem? (i := 20) rfl)).2
theorem ra_lineFrom {x : Nat} {σ : ZS} (h : rA x σ) : zR σ 797 x = some (x + 22) := (h.2 (797, 22, 2, 30) (List.mem_of_getElem? (i := 21) rfl)).1
theorem rk_lineFrom {x : Nat} {σ : ZS} (h : rA x σ) : zk σ (x + 22) = (2, 30) := (h.2 (797, 22, 2, 30) (List.mem_of_getElem? (i := 21) rfl)).2
theorem ra_lineTo {x : Nat} {σ : ZS} (h : rA x σ) : zR σ 798 x = some (x + 23) := (h.2 (798, 23, 2, 30) (List.mem_of_getElem? (i := 22) rfl)).1
theorem rk_lineTo {x : Nat} {σ : ZS} (h : rA x σ) : zk σ (x + 23) = (2, 30) := (h.2 (798, 23, 2, 30) (List.mem_of_getElem? (i := 22) rfl)).2
theorem ra_walkRow {x : Nat} {σ : ZS} (h : rA x σ) : zR σ 800 x = some (x + 24) := (h.2 (800, 24, 2, 150) (List.mem_of_getElem? (i := 23) rfl)).1
theorem rk_walkRow {x : Nat} {σ : ZS} (h : rA x σ) : zk σ (x + 24) = (2, 150) := (h.2 (800, 24, 2, 150) (List.mem_of_getElem? (i := 23) rfl)).2
theorem ra_findings {x : Nat} {σ : ZS} (h : rA x σ) : zR σ 802 x = some (x + 25) := (h.2 (802, 25, 2, 300) (List.mem_of_getElem? (i := 24) rfl)).1
theorem rk_findings {x : Nat} {σ : ZS} (h : rA x σ) : zk σ (x + 25) = (2, 300) := (h.2 (802, 25, 2, 300) (List.mem_of_getElem? (i := 24) rfl)).2
theorem ra_hasRack {x : Nat} {σ : ZS} (h : rA x σ) : zR σ 803 x = some (x + 26) := (h.2 (803, 26, 3, 4) (List.mem_of_getElem? (i := 25) rfl)).1
theorem rk_hasRack {x : Nat} {σ : ZS} (h : rA x σ) : zk σ (x + 26) = (3, 4) := (h.2 (803, 26, 3, 4) (List.mem_of_getElem? (i := 25) rfl)).2
theorem ra_rackKind {x : Nat} {σ : ZS} (h : rA x σ) : zR σ 804 x = some (x + 27) := (h.2 (804, 27, 2, 4) (List.mem_of_getElem? (i := 26) rfl)).1
theorem rk_rackKind {x : Nat} {σ : ZS} (h : rA x σ) : zk σ (x + 27) = (2, 4) := (h.2 (804, 27, 2, 4) (List.mem_of_getElem? (i := 26) rfl)).2
theorem ra_rackSize {x : Nat} {σ : ZS} (h : rA x σ) : zR σ 805 x = some (x + 28) := (h.2 (805, 28, 2, 4) (List.mem_of_getElem? (i := 27) rfl)).1
theorem rk_rackSize {x : Nat} {σ : ZS} (h : rA x σ) : zk σ (x + 28) = (2, 4) := (h.2 (805, 28, 2, 4) (List.mem_of_getElem? (i := 27) rfl)).2
theorem ra_rackRow {x : Nat} {σ : ZS} (h : rA x σ) : zR σ 806 x = some (x + 29) := (h.2 (806, 29, 2, 80) (List.mem_of_getElem? (i := 28) rfl)).1
theorem rk_rackRow {x : Nat} {σ : ZS} (h : rA x σ) : zk σ (x + 29) = (2, 80) := (h.2 (806, 29, 2, 80) (List.mem_of_getElem? (i := 28) rfl)).2
theorem ra_slid {x : Nat} {σ : ZS} (h : rA x σ) : zR σ 807 x = some (x + 30) := (h.2 (807, 30, 2, 20) (List.mem_of_getElem? (i := 29) rfl)).1
theorem rk_slid {x : Nat} {σ : ZS} (h : rA x σ) : zk σ (x + 30) = (2, 20) := (h.2 (807, 30, 2, 20) (List.mem_of_getElem? (i := 29) rfl)).2
theorem ra_hasShelf {x : Nat} {σ : ZS} (h : rA x σ) : zR σ 808 x = some (x + 31) := (h.2 (808, 31, 3, 4) (List.mem_of_getElem? (i := 30) rfl)).1
theorem rk_hasShelf {x : Nat} {σ : ZS} (h : rA x σ) : zk σ (x + 31) = (3, 4) := (h.2 (808, 31, 3, 4) (List.mem_of_getElem? (i := 30) rfl)).2
theorem ra_shelfKind {x : Nat} {σ : ZS} (h : rA x σ) : zR σ 809 x = some (x + 32) := (h.2 (809, 32, 2, 4) (List.mem_of_getElem? (i := 31) rfl)).1
theorem rk_shelfKind {x : Nat} {σ : ZS} (h : rA x σ) : zk σ (x + 32) = (2, 4) := (h.2 (809, 32, 2, 4) (List.mem_of_getElem? (i := 31) rfl)).2
theorem ra_shelfSize {x : Nat} {σ : ZS} (h : rA x σ) : zR σ 810 x = some (x + 33) := (h.2 (810, 33, 2, 4) (List.mem_of_getElem? (i := 32) rfl)).1
theorem rk_shelfSize {x : Nat} {σ : ZS} (h : rA x σ) : zk σ (x + 33) = (2, 4) := (h.2 (810, 33, 2, 4) (List.mem_of_getElem? (i := 32) rfl)).2
theorem ra_shelfRow {x : Nat} {σ : ZS} (h : rA x σ) : zR σ 811 x = some (x + 34) := (h.2 (811, 34, 2, 240) (List.mem_of_getElem? (i := 33) rfl)).1
theorem rk_shelfRow {x : Nat} {σ : ZS} (h : rA x σ) : zk σ (x + 34) = (2, 240) := (h.2 (811, 34, 2, 240) (List.mem_of_getElem? (i := 33) rfl)).2
theorem ra_copied {x : Nat} {σ : ZS} (h : rA x σ) : zR σ 812 x = some (x + 35) := (h.2 (812, 35, 2, 60) (List.mem_of_getElem? (i := 34) rfl)).1
theorem rk_copied {x : Nat} {σ : ZS} (h : rA x σ) : zk σ (x + 35) = (2, 60) := (h.2 (812, 35, 2, 60) (List.mem_of_getElem? (i := 34) rfl)).2
theorem ra_failed {x : Nat} {σ : ZS} (h : rA x σ) : zR σ 813 x = some (x + 36) := (h.2 (813, 36, 2, 5) (List.mem_of_getElem? (i := 35) rfl)).1
theorem rk_failed {x : Nat} {σ : ZS} (h : rA x σ) : zk σ (x + 36) = (2, 5) := (h.2 (813, 36, 2, 5) (List.mem_of_getElem? (i := 35) rfl)).2
theorem ra_walkTime {x : Nat} {σ : ZS} (h : rA x σ) : zR σ 817 x = some (x + 37) := (h.2 (817, 37, 4, 150) (List.mem_of_getElem? (i := 36) rfl)).1
theorem rk_walkTime {x : Nat} {σ : ZS} (h : rA x σ) : zk σ (x + 37) = (4, 150) := (h.2 (817, 37, 4, 150) (List.mem_of_getElem? (i := 36) rfl)).2
/-- the reference at x holds the score T -/
def rR (x : Nat) (σ : ZS) (T : TS) : Prop :=
  rA x σ ∧
  zI σ 768 x = nI (g_np T) ∧
  (∀ i, i < 6 → zi σ (x + 1) (i) = nI (g_pk T i)) ∧
  zI σ 770 x = nI (g_nb T) ∧
  (∀ i, i < 24 → zl σ (x + 2) i = lN (g_bt T i)) ∧
  zI σ 772 x = nI (g_ev T) ∧
  zI σ 773 x = nI (g_ct T) ∧
  (∀ i, i < 150 → zi σ (x + 3) (i) = bI (g_th T i)) ∧
  (∀ i, i < 150 → zi σ (x + 4) (i) = nI (g_vo T i)) ∧
  (∀ i, i < 150 → zi σ (x + 5) (i) = nI (g_kd T i)) ∧
  (∀ i, i < 150 → zi σ (x + 6) (i) = nI (g_pn T i)) ∧
  (∀ i j, i < 150 → j < 6 → zi σ (x + 7) (6 * i + j) = g_pi T i j) ∧
  (∀ i, i < 150 → zi σ (x + 8) (i) = nI (g_va T i)) ∧
  (∀ i, i < 150 → zi σ (x + 9) (i) = nI (g_dt T i)) ∧
  (∀ i, i < 150 → zi σ (x + 10) (i) = bI (g_ti T i)) ∧
  (∀ v, v < 18 → zi σ (x + 12) (v) = nI (g_mn T v)) ∧
  (∀ v p, v < 18 → p < 40 → zi σ (x + 11) (40 * v + p) = nI (g_ro T v p)) ∧
  zI σ 784 x = nI (g_te T) ∧
  zI σ 785 x = nI (g_cu T) ∧
  (∀ i, i < 20 → zi σ (x + 13) (i) = bI (g_tt T i)) ∧
  (∀ i, i < 20 → zi σ (x + 14) (i) = nI (g_tv T i)) ∧
  (∀ i, i < 20 → zi σ (x + 15) (i) = nI (g_tf T i)) ∧
  (∀ i, i < 20 → zi σ (x + 16) (i) = nI (g_tl T i)) ∧
  (∀ i, i < 20 → zi σ (x + 17) (i) = nI (g_tn T i)) ∧
  (∀ i, i < 20 → zi σ (x + 18) (i) = nI (g_tm T i)) ∧
  (∀ i, i < 20 → zi σ (x + 19) (i) = nI (g_tu T i)) ∧
  zI σ 793 x = nI (g_le T) ∧
  zI σ 794 x = nI (g_cl T) ∧
  (∀ i, i < 30 → zi σ (x + 20) (i) = bI (g_lt T i)) ∧
  (∀ i, i < 30 → zi σ (x + 21) (i) = nI (g_lk T i)) ∧
  (∀ i, i < 30 → zi σ (x + 22) (i) = nI (g_lf T i)) ∧
  (∀ i, i < 30 → zi σ (x + 23) (i) = oI (g_lo T i)) ∧
  zI σ 799 x = nI (g_wm T) ∧
  (∀ i, i < 150 → zi σ (x + 24) (i) = nI (g_wr T i)) ∧
  zI σ 801 x = nI (g_fo T) ∧
  (∀ i, i < 300 → zi σ (x + 25) (i) = g_fi T i) ∧
  (∀ i, i < 4 → zi σ (x + 26) (i) = bI (g_hr T i)) ∧
  (∀ i, i < 4 → zi σ (x + 27) (i) = nI (g_rk T i)) ∧
  (∀ i, i < 4 → zi σ (x + 28) (i) = nI (g_rs T i)) ∧
  (∀ i j, i < 4 → j < 20 → zi σ (x + 29) (20 * i + j) = oI (g_rr T i j)) ∧
  (∀ i, i < 4 → zi σ (x + 31) (i) = bI (g_hs T i)) ∧
  (∀ i, i < 4 → zi σ (x + 32) (i) = nI (g_sk T i)) ∧
  (∀ i, i < 4 → zi σ (x + 33) (i) = nI (g_ss T i)) ∧
  (∀ i j, i < 4 → j < 60 → zi σ (x + 34) (60 * i + j) = g_sr T i j) ∧
  (∀ i, i < 5 → zi σ (x + 36) (i) = g_fa T i) ∧
  zI σ 814 x = g_su T ∧
  zL σ 815 x = g_tr T
theorem rf_sh {x : Nat} {σ : ZS} {T : TS} (h : rR x σ T) : rA x σ := h.1
theorem rf_parts {x : Nat} {σ : ZS} {T : TS} (h : rR x σ T) : zI σ 768 x = nI (g_np T) := h.2.1
theorem rf_partKind {x : Nat} {σ : ZS} {T : TS} (h : rR x σ T) : ∀ i, i < 6 → zi σ (x + 1) (i) = nI (g_pk T i) := h.2.2.1
theorem rf_bars {x : Nat} {σ : ZS} {T : TS} (h : rR x σ T) : zI σ 770 x = nI (g_nb T) := h.2.2.2.1
theorem rf_barTime {x : Nat} {σ : ZS} {T : TS} (h : rR x σ T) : ∀ i, i < 24 → zl σ (x + 2) i = lN (g_bt T i) := h.2.2.2.2.1
theorem rf_ever {x : Nat} {σ : ZS} {T : TS} (h : rR x σ T) : zI σ 772 x = nI (g_ev T) := h.2.2.2.2.2.1
theorem rf_there {x : Nat} {σ : ZS} {T : TS} (h : rR x σ T) : zI σ 773 x = nI (g_ct T) := h.2.2.2.2.2.2.1
theorem rf_isThere {x : Nat} {σ : ZS} {T : TS} (h : rR x σ T) : ∀ i, i < 150 → zi σ (x + 3) (i) = bI (g_th T i) := h.2.2.2.2.2.2.2.1
theorem rf_voiceOf {x : Nat} {σ : ZS} {T : TS} (h : rR x σ T) : ∀ i, i < 150 → zi σ (x + 4) (i) = nI (g_vo T i) := h.2.2.2.2.2.2.2.2.1
theorem rf_kindOf {x : Nat} {σ : ZS} {T : TS} (h : rR x σ T) : ∀ i, i < 150 → zi σ (x + 5) (i) = nI (g_kd T i) := h.2.2.2.2.2.2.2.2.2.1
theorem rf_pitches {x : Nat} {σ : ZS} {T : TS} (h : rR x σ T) : ∀ i, i < 150 → zi σ (x + 6) (i) = nI (g_pn T i) := h.2.2.2.2.2.2.2.2.2.2.1
theorem rf_pitchOf {x : Nat} {σ : ZS} {T : TS} (h : rR x σ T) : ∀ i j, i < 150 → j < 6 → zi σ (x + 7) (6 * i + j) = g_pi T i j := h.2.2.2.2.2.2.2.2.2.2.2.1
theorem rf_valueOf {x : Nat} {σ : ZS} {T : TS} (h : rR x σ T) : ∀ i, i < 150 → zi σ (x + 8) (i) = nI (g_va T i) := h.2.2.2.2.2.2.2.2.2.2.2.2.1
theorem rf_dotsOf {x : Nat} {σ : ZS} {T : TS} (h : rR x σ T) : ∀ i, i < 150 → zi σ (x + 9) (i) = nI (g_dt T i) := h.2.2.2.2.2.2.2.2.2.2.2.2.2.1
theorem rf_isTied {x : Nat} {σ : ZS} {T : TS} (h : rR x σ T) : ∀ i, i < 150 → zi σ (x + 10) (i) = bI (g_ti T i) := h.2.2.2.2.2.2.2.2.2.2.2.2.2.2.1
theorem rf_many {x : Nat} {σ : ZS} {T : TS} (h : rR x σ T) : ∀ v, v < 18 → zi σ (x + 12) (v) = nI (g_mn T v) := h.2.2.2.2.2.2.2.2.2.2.2.2.2.2.2.1
theorem rf_row {x : Nat} {σ : ZS} {T : TS} (h : rR x σ T) : ∀ v p, v < 18 → p < 40 → zi σ (x + 11) (40 * v + p) = nI (g_ro T v p) := h.2.2.2.2.2.2.2.2.2.2.2.2.2.2.2.2.1
theorem rf_tupletsEver {x : Nat} {σ : ZS} {T : TS} (h : rR x σ T) : zI σ 784 x = nI (g_te T) := h.2.2.2.2.2.2.2.2.2.2.2.2.2.2.2.2.2.1
theorem rf_tupletsThere {x : Nat} {σ : ZS} {T : TS} (h : rR x σ T) : zI σ 785 x = nI (g_cu T) := h.2.2.2.2.2.2.2.2.2.2.2.2.2.2.2.2.2.2.1
theorem rf_isTuplet {x : Nat} {σ : ZS} {T : TS} (h : rR x σ T) : ∀ i, i < 20 → zi σ (x + 13) (i) = bI (g_tt T i) := h.2.2.2.2.2.2.2.2.2.2.2.2.2.2.2.2.2.2.2.1
theorem rf_tupletVoice {x : Nat} {σ : ZS} {T : TS} (h : rR x σ T) : ∀ i, i < 20 → zi σ (x + 14) (i) = nI (g_tv T i) := h.2.2.2.2.2.2.2.2.2.2.2.2.2.2.2.2.2.2.2.2.1
theorem rf_tupletFirst {x : Nat} {σ : ZS} {T : TS} (h : rR x σ T) : ∀ i, i < 20 → zi σ (x + 15) (i) = nI (g_tf T i) := h.2.2.2.2.2.2.2.2.2.2.2.2.2.2.2.2.2.2.2.2.2.1
theorem rf_tupletLast {x : Nat} {σ : ZS} {T : TS} (h : rR x σ T) : ∀ i, i < 20 → zi σ (x + 16) (i) = nI (g_tl T i) := h.2.2.2.2.2.2.2.2.2.2.2.2.2.2.2.2.2.2.2.2.2.2.1
theorem rf_tupletN {x : Nat} {σ : ZS} {T : TS} (h : rR x σ T) : ∀ i, i < 20 → zi σ (x + 17) (i) = nI (g_tn T i) := h.2.2.2.2.2.2.2.2.2.2.2.2.2.2.2.2.2.2.2.2.2.2.2.1
theorem rf_tupletM {x : Nat} {σ : ZS} {T : TS} (h : rR x σ T) : ∀ i, i < 20 → zi σ (x + 18) (i) = nI (g_tm T i) := h.2.2.2.2.2.2.2.2.2.2.2.2.2.2.2.2.2.2.2.2.2.2.2.2.1
theorem rf_tupletUnit {x : Nat} {σ : ZS} {T : TS} (h : rR x σ T) : ∀ i, i < 20 → zi σ (x + 19) (i) = nI (g_tu T i) := h.2.2.2.2.2.2.2.2.2.2.2.2.2.2.2.2.2.2.2.2.2.2.2.2.2.1
theorem rf_linesEver {x : Nat} {σ : ZS} {T : TS} (h : rR x σ T) : zI σ 793 x = nI (g_le T) := h.2.2.2.2.2.2.2.2.2.2.2.2.2.2.2.2.2.2.2.2.2.2.2.2.2.2.1
theorem rf_linesThere {x : Nat} {σ : ZS} {T : TS} (h : rR x σ T) : zI σ 794 x = nI (g_cl T) := h.2.2.2.2.2.2.2.2.2.2.2.2.2.2.2.2.2.2.2.2.2.2.2.2.2.2.2.1
theorem rf_isLine {x : Nat} {σ : ZS} {T : TS} (h : rR x σ T) : ∀ i, i < 30 → zi σ (x + 20) (i) = bI (g_lt T i) := h.2.2.2.2.2.2.2.2.2.2.2.2.2.2.2.2.2.2.2.2.2.2.2.2.2.2.2.2.1
theorem rf_lineKind {x : Nat} {σ : ZS} {T : TS} (h : rR x σ T) : ∀ i, i < 30 → zi σ (x + 21) (i) = nI (g_lk T i) := h.2.2.2.2.2.2.2.2.2.2.2.2.2.2.2.2.2.2.2.2.2.2.2.2.2.2.2.2.2.1
theorem rf_lineFrom {x : Nat} {σ : ZS} {T : TS} (h : rR x σ T) : ∀ i, i < 30 → zi σ (x + 22) (i) = nI (g_lf T i) := h.2.2.2.2.2.2.2.2.2.2.2.2.2.2.2.2.2.2.2.2.2.2.2.2.2.2.2.2.2.2.1
theorem rf_lineTo {x : Nat} {σ : ZS} {T : TS} (h : rR x σ T) : ∀ i, i < 30 → zi σ (x + 23) (i) = oI (g_lo T i) := h.2.2.2.2.2.2.2.2.2.2.2.2.2.2.2.2.2.2.2.2.2.2.2.2.2.2.2.2.2.2.2.1
theorem rf_walkMany {x : Nat} {σ : ZS} {T : TS} (h : rR x σ T) : zI σ 799 x = nI (g_wm T) := h.2.2.2.2.2.2.2.2.2.2.2.2.2.2.2.2.2.2.2.2.2.2.2.2.2.2.2.2.2.2.2.2.1
theorem rf_walkRow {x : Nat} {σ : ZS} {T : TS} (h : rR x σ T) : ∀ i, i < 150 → zi σ (x + 24) (i) = nI (g_wr T i) := h.2.2.2.2.2.2.2.2.2.2.2.2.2.2.2.2.2.2.2.2.2.2.2.2.2.2.2.2.2.2.2.2.2.1
theorem rf_found {x : Nat} {σ : ZS} {T : TS} (h : rR x σ T) : zI σ 801 x = nI (g_fo T) := h.2.2.2.2.2.2.2.2.2.2.2.2.2.2.2.2.2.2.2.2.2.2.2.2.2.2.2.2.2.2.2.2.2.2.1
theorem rf_findings {x : Nat} {σ : ZS} {T : TS} (h : rR x σ T) : ∀ i, i < 300 → zi σ (x + 25) (i) = g_fi T i := h.2.2.2.2.2.2.2.2.2.2.2.2.2.2.2.2.2.2.2.2.2.2.2.2.2.2.2.2.2.2.2.2.2.2.2.1
theorem rf_hasRack {x : Nat} {σ : ZS} {T : TS} (h : rR x σ T) : ∀ i, i < 4 → zi σ (x + 26) (i) = bI (g_hr T i) := h.2.2.2.2.2.2.2.2.2.2.2.2.2.2.2.2.2.2.2.2.2.2.2.2.2.2.2.2.2.2.2.2.2.2.2.2.1
theorem rf_rackKind {x : Nat} {σ : ZS} {T : TS} (h : rR x σ T) : ∀ i, i < 4 → zi σ (x + 27) (i) = nI (g_rk T i) := h.2.2.2.2.2.2.2.2.2.2.2.2.2.2.2.2.2.2.2.2.2.2.2.2.2.2.2.2.2.2.2.2.2.2.2.2.2.1
theorem rf_rackSize {x : Nat} {σ : ZS} {T : TS} (h : rR x σ T) : ∀ i, i < 4 → zi σ (x + 28) (i) = nI (g_rs T i) := h.2.2.2.2.2.2.2.2.2.2.2.2.2.2.2.2.2.2.2.2.2.2.2.2.2.2.2.2.2.2.2.2.2.2.2.2.2.2.1
theorem rf_rackRow {x : Nat} {σ : ZS} {T : TS} (h : rR x σ T) : ∀ i j, i < 4 → j < 20 → zi σ (x + 29) (20 * i + j) = oI (g_rr T i j) := h.2.2.2.2.2.2.2.2.2.2.2.2.2.2.2.2.2.2.2.2.2.2.2.2.2.2.2.2.2.2.2.2.2.2.2.2.2.2.2.1
theorem rf_hasShelf {x : Nat} {σ : ZS} {T : TS} (h : rR x σ T) : ∀ i, i < 4 → zi σ (x + 31) (i) = bI (g_hs T i) := h.2.2.2.2.2.2.2.2.2.2.2.2.2.2.2.2.2.2.2.2.2.2.2.2.2.2.2.2.2.2.2.2.2.2.2.2.2.2.2.2.1
theorem rf_shelfKind {x : Nat} {σ : ZS} {T : TS} (h : rR x σ T) : ∀ i, i < 4 → zi σ (x + 32) (i) = nI (g_sk T i) := h.2.2.2.2.2.2.2.2.2.2.2.2.2.2.2.2.2.2.2.2.2.2.2.2.2.2.2.2.2.2.2.2.2.2.2.2.2.2.2.2.2.1
theorem rf_shelfSize {x : Nat} {σ : ZS} {T : TS} (h : rR x σ T) : ∀ i, i < 4 → zi σ (x + 33) (i) = nI (g_ss T i) := h.2.2.2.2.2.2.2.2.2.2.2.2.2.2.2.2.2.2.2.2.2.2.2.2.2.2.2.2.2.2.2.2.2.2.2.2.2.2.2.2.2.2.1
theorem rf_shelfRow {x : Nat} {σ : ZS} {T : TS} (h : rR x σ T) : ∀ i j, i < 4 → j < 60 → zi σ (x + 34) (60 * i + j) = g_sr T i j := h.2.2.2.2.2.2.2.2.2.2.2.2.2.2.2.2.2.2.2.2.2.2.2.2.2.2.2.2.2.2.2.2.2.2.2.2.2.2.2.2.2.2.2.1
theorem rf_failed {x : Nat} {σ : ZS} {T : TS} (h : rR x σ T) : ∀ i, i < 5 → zi σ (x + 36) (i) = g_fa T i := h.2.2.2.2.2.2.2.2.2.2.2.2.2.2.2.2.2.2.2.2.2.2.2.2.2.2.2.2.2.2.2.2.2.2.2.2.2.2.2.2.2.2.2.2.1
theorem rf_status {x : Nat} {σ : ZS} {T : TS} (h : rR x σ T) : zI σ 814 x = g_su T := h.2.2.2.2.2.2.2.2.2.2.2.2.2.2.2.2.2.2.2.2.2.2.2.2.2.2.2.2.2.2.2.2.2.2.2.2.2.2.2.2.2.2.2.2.2.1
theorem rf_trace {x : Nat} {σ : ZS} {T : TS} (h : rR x σ T) : zL σ 815 x = g_tr T := h.2.2.2.2.2.2.2.2.2.2.2.2.2.2.2.2.2.2.2.2.2.2.2.2.2.2.2.2.2.2.2.2.2.2.2.2.2.2.2.2.2.2.2.2.2.2
