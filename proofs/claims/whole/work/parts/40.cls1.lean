/-! the class's picture: where each thing lies, and the times that it keeps -/
abbrev KS : Type := (Nat → Nat → Nat) × (Nat → Int64)
def k_pa (K : KS) : Nat → Nat := K.1 0
def j_pa (K : KS) (f : Nat → Nat) : KS := (va_up K.1 0 f, K.2)
def k_va (K : KS) : Nat → Nat := K.1 1
def j_va (K : KS) (f : Nat → Nat) : KS := (va_up K.1 1 f, K.2)
def k_ea (K : KS) : Nat → Nat := K.1 2
def j_ea (K : KS) (f : Nat → Nat) : KS := (va_up K.1 2 f, K.2)
def k_ta (K : KS) : Nat → Nat := K.1 3
def j_ta (K : KS) (f : Nat → Nat) : KS := (va_up K.1 3 f, K.2)
def k_la (K : KS) : Nat → Nat := K.1 4
def j_la (K : KS) (f : Nat → Nat) : KS := (va_up K.1 4 f, K.2)
def k_wa (K : KS) : Nat → Nat := K.1 5
def j_wa (K : KS) (f : Nat → Nat) : KS := (va_up K.1 5 f, K.2)
def k_pl (K : KS) : Nat → Nat := K.1 6
def j_pl (K : KS) (f : Nat → Nat) : KS := (va_up K.1 6 f, K.2)
def k_bg (K : KS) : Nat → Nat := K.1 7
def j_bg (K : KS) (f : Nat → Nat) : KS := (va_up K.1 7 f, K.2)
def k_ls (K : KS) : Nat → Nat := K.1 8
def j_ls (K : KS) (f : Nat → Nat) : KS := (va_up K.1 8 f, K.2)
def k_vl (K : KS) : Nat → Nat := K.1 9
def j_vl (K : KS) (f : Nat → Nat) : KS := (va_up K.1 9 f, K.2)
def k_t1 (K : KS) : Nat → Nat := K.1 10
def j_t1 (K : KS) (f : Nat → Nat) : KS := (va_up K.1 10 f, K.2)
def k_tk (K : KS) : Nat → Nat := K.1 11
def j_tk (K : KS) (f : Nat → Nat) : KS := (va_up K.1 11 f, K.2)
def k_be (K : KS) : Nat → Nat := K.1 12
def j_be (K : KS) (f : Nat → Nat) : KS := (va_up K.1 12 f, K.2)
def k_wt (K : KS) : Nat → Nat := K.1 13
def j_wt (K : KS) (f : Nat → Nat) : KS := (va_up K.1 13 f, K.2)
def k_as (K : KS) : Nat → Int64 := K.2
def j_as (K : KS) (f : Nat → Int64) : KS := (K.1, f)
theorem kj_pa_pa (K : KS) (f : Nat → Nat) : k_pa (j_pa K f) = f := rfl
theorem kj_pa_va (K : KS) (f : Nat → Nat) : k_pa (j_va K f) = k_pa K := rfl
theorem kj_pa_ea (K : KS) (f : Nat → Nat) : k_pa (j_ea K f) = k_pa K := rfl
theorem kj_pa_ta (K : KS) (f : Nat → Nat) : k_pa (j_ta K f) = k_pa K := rfl
theorem kj_pa_la (K : KS) (f : Nat → Nat) : k_pa (j_la K f) = k_pa K := rfl
theorem kj_pa_wa (K : KS) (f : Nat → Nat) : k_pa (j_wa K f) = k_pa K := rfl
theorem kj_pa_pl (K : KS) (f : Nat → Nat) : k_pa (j_pl K f) = k_pa K := rfl
theorem kj_pa_bg (K : KS) (f : Nat → Nat) : k_pa (j_bg K f) = k_pa K := rfl
theorem kj_pa_ls (K : KS) (f : Nat → Nat) : k_pa (j_ls K f) = k_pa K := rfl
theorem kj_pa_vl (K : KS) (f : Nat → Nat) : k_pa (j_vl K f) = k_pa K := rfl
theorem kj_pa_t1 (K : KS) (f : Nat → Nat) : k_pa (j_t1 K f) = k_pa K := rfl
theorem kj_pa_tk (K : KS) (f : Nat → Nat) : k_pa (j_tk K f) = k_pa K := rfl
theorem kj_pa_be (K : KS) (f : Nat → Nat) : k_pa (j_be K f) = k_pa K := rfl
theorem kj_pa_wt (K : KS) (f : Nat → Nat) : k_pa (j_wt K f) = k_pa K := rfl
theorem kj_pa_as (K : KS) (f : Nat → Int64) : k_pa (j_as K f) = k_pa K := rfl
theorem kj_va_pa (K : KS) (f : Nat → Nat) : k_va (j_pa K f) = k_va K := rfl
theorem kj_va_va (K : KS) (f : Nat → Nat) : k_va (j_va K f) = f := rfl
theorem kj_va_ea (K : KS) (f : Nat → Nat) : k_va (j_ea K f) = k_va K := rfl
theorem kj_va_ta (K : KS) (f : Nat → Nat) : k_va (j_ta K f) = k_va K := rfl
theorem kj_va_la (K : KS) (f : Nat → Nat) : k_va (j_la K f) = k_va K := rfl
theorem kj_va_wa (K : KS) (f : Nat → Nat) : k_va (j_wa K f) = k_va K := rfl
theorem kj_va_pl (K : KS) (f : Nat → Nat) : k_va (j_pl K f) = k_va K := rfl
theorem kj_va_bg (K : KS) (f : Nat → Nat) : k_va (j_bg K f) = k_va K := rfl
theorem kj_va_ls (K : KS) (f : Nat → Nat) : k_va (j_ls K f) = k_va K := rfl
theorem kj_va_vl (K : KS) (f : Nat → Nat) : k_va (j_vl K f) = k_va K := rfl
theorem kj_va_t1 (K : KS) (f : Nat → Nat) : k_va (j_t1 K f) = k_va K := rfl
theorem kj_va_tk (K : KS) (f : Nat → Nat) : k_va (j_tk K f) = k_va K := rfl
theorem kj_va_be (K : KS) (f : Nat → Nat) : k_va (j_be K f) = k_va K := rfl
theorem kj_va_wt (K : KS) (f : Nat → Nat) : k_va (j_wt K f) = k_va K := rfl
theorem kj_va_as (K : KS) (f : Nat → Int64) : k_va (j_as K f) = k_va K := rfl
theorem kj_ea_pa (K : KS) (f : Nat → Nat) : k_ea (j_pa K f) = k_ea K := rfl
theorem kj_ea_va (K : KS) (f : Nat → Nat) : k_ea (j_va K f) = k_ea K := rfl
theorem kj_ea_ea (K : KS) (f : Nat → Nat) : k_ea (j_ea K f) = f := rfl
theorem kj_ea_ta (K : KS) (f : Nat → Nat) : k_ea (j_ta K f) = k_ea K := rfl
theorem kj_ea_la (K : KS) (f : Nat → Nat) : k_ea (j_la K f) = k_ea K := rfl
theorem kj_ea_wa (K : KS) (f : Nat → Nat) : k_ea (j_wa K f) = k_ea K := rfl
theorem kj_ea_pl (K : KS) (f : Nat → Nat) : k_ea (j_pl K f) = k_ea K := rfl
theorem kj_ea_bg (K : KS) (f : Nat → Nat) : k_ea (j_bg K f) = k_ea K := rfl
theorem kj_ea_ls (K : KS) (f : Nat → Nat) : k_ea (j_ls K f) = k_ea K := rfl
theorem kj_ea_vl (K : KS) (f : Nat → Nat) : k_ea (j_vl K f) = k_ea K := rfl
theorem kj_ea_t1 (K : KS) (f : Nat → Nat) : k_ea (j_t1 K f) = k_ea K := rfl
theorem kj_ea_tk (K : KS) (f : Nat → Nat) : k_ea (j_tk K f) = k_ea K := rfl
theorem kj_ea_be (K : KS) (f : Nat → Nat) : k_ea (j_be K f) = k_ea K := rfl
theorem kj_ea_wt (K : KS) (f : Nat → Nat) : k_ea (j_wt K f) = k_ea K := rfl
theorem kj_ea_as (K : KS) (f : Nat → Int64) : k_ea (j_as K f) = k_ea K := rfl
theorem kj_ta_pa (K : KS) (f : Nat → Nat) : k_ta (j_pa K f) = k_ta K := rfl
theorem kj_ta_va (K : KS) (f : Nat → Nat) : k_ta (j_va K f) = k_ta K := rfl
theorem kj_ta_ea (K : KS) (f : Nat → Nat) : k_ta (j_ea K f) = k_ta K := rfl
theorem kj_ta_ta (K : KS) (f : Nat → Nat) : k_ta (j_ta K f) = f := rfl
theorem kj_ta_la (K : KS) (f : Nat → Nat) : k_ta (j_la K f) = k_ta K := rfl
theorem kj_ta_wa (K : KS) (f : Nat → Nat) : k_ta (j_wa K f) = k_ta K := rfl
theorem kj_ta_pl (K : KS) (f : Nat → Nat) : k_ta (j_pl K f) = k_ta K := rfl
theorem kj_ta_bg (K : KS) (f : Nat → Nat) : k_ta (j_bg K f) = k_ta K := rfl
theorem kj_ta_ls (K : KS) (f : Nat → Nat) : k_ta (j_ls K f) = k_ta K := rfl
theorem kj_ta_vl (K : KS) (f : Nat → Nat) : k_ta (j_vl K f) = k_ta K := rfl
theorem kj_ta_t1 (K : KS) (f : Nat → Nat) : k_ta (j_t1 K f) = k_ta K := rfl
theorem kj_ta_tk (K : KS) (f : Nat → Nat) : k_ta (j_tk K f) = k_ta K := rfl
theorem kj_ta_be (K : KS) (f : Nat → Nat) : k_ta (j_be K f) = k_ta K := rfl
theorem kj_ta_wt (K : KS) (f : Nat → Nat) : k_ta (j_wt K f) = k_ta K := rfl
theorem kj_ta_as (K : KS) (f : Nat → Int64) : k_ta (j_as K f) = k_ta K := rfl
theorem kj_la_pa (K : KS) (f : Nat → Nat) : k_la (j_pa K f) = k_la K := rfl
theorem kj_la_va (K : KS) (f : Nat → Nat) : k_la (j_va K f) = k_la K := rfl
theorem kj_la_ea (K : KS) (f : Nat → Nat) : k_la (j_ea K f) = k_la K := rfl
theorem kj_la_ta (K : KS) (f : Nat → Nat) : k_la (j_ta K f) = k_la K := rfl
theorem kj_la_la (K : KS) (f : Nat → Nat) : k_la (j_la K f) = f := rfl
theorem kj_la_wa (K : KS) (f : Nat → Nat) : k_la (j_wa K f) = k_la K := rfl
theorem kj_la_pl (K : KS) (f : Nat → Nat) : k_la (j_pl K f) = k_la K := rfl
theorem kj_la_bg (K : KS) (f : Nat → Nat) : k_la (j_bg K f) = k_la K := rfl
theorem kj_la_ls (K : KS) (f : Nat → Nat) : k_la (j_ls K f) = k_la K := rfl
theorem kj_la_vl (K : KS) (f : Nat → Nat) : k_la (j_vl K f) = k_la K := rfl
theorem kj_la_t1 (K : KS) (f : Nat → Nat) : k_la (j_t1 K f) = k_la K := rfl
theorem kj_la_tk (K : KS) (f : Nat → Nat) : k_la (j_tk K f) = k_la K := rfl
theorem kj_la_be (K : KS) (f : Nat → Nat) : k_la (j_be K f) = k_la K := rfl
theorem kj_la_wt (K : KS) (f : Nat → Nat) : k_la (j_wt K f) = k_la K := rfl
theorem kj_la_as (K : KS) (f : Nat → Int64) : k_la (j_as K f) = k_la K := rfl
theorem kj_wa_pa (K : KS) (f : Nat → Nat) : k_wa (j_pa K f) = k_wa K := rfl
theorem kj_wa_va (K : KS) (f : Nat → Nat) : k_wa (j_va K f) = k_wa K := rfl
theorem kj_wa_ea (K : KS) (f : Nat → Nat) : k_wa (j_ea K f) = k_wa K := rfl
theorem kj_wa_ta (K : KS) (f : Nat → Nat) : k_wa (j_ta K f) = k_wa K := rfl
theorem kj_wa_la (K : KS) (f : Nat → Nat) : k_wa (j_la K f) = k_wa K := rfl
theorem kj_wa_wa (K : KS) (f : Nat → Nat) : k_wa (j_wa K f) = f := rfl
theorem kj_wa_pl (K : KS) (f : Nat → Nat) : k_wa (j_pl K f) = k_wa K := rfl
theorem kj_wa_bg (K : KS) (f : Nat → Nat) : k_wa (j_bg K f) = k_wa K := rfl
theorem kj_wa_ls (K : KS) (f : Nat → Nat) : k_wa (j_ls K f) = k_wa K := rfl
theorem kj_wa_vl (K : KS) (f : Nat → Nat) : k_wa (j_vl K f) = k_wa K := rfl
theorem kj_wa_t1 (K : KS) (f : Nat → Nat) : k_wa (j_t1 K f) = k_wa K := rfl
theorem kj_wa_tk (K : KS) (f : Nat → Nat) : k_wa (j_tk K f) = k_wa K := rfl
theorem kj_wa_be (K : KS) (f : Nat → Nat) : k_wa (j_be K f) = k_wa K := rfl
theorem kj_wa_wt (K : KS) (f : Nat → Nat) : k_wa (j_wt K f) = k_wa K := rfl
theorem kj_wa_as (K : KS) (f : Nat → Int64) : k_wa (j_as K f) = k_wa K := rfl
theorem kj_pl_pa (K : KS) (f : Nat → Nat) : k_pl (j_pa K f) = k_pl K := rfl
theorem kj_pl_va (K : KS) (f : Nat → Nat) : k_pl (j_va K f) = k_pl K := rfl
theorem kj_pl_ea (K : KS) (f : Nat → Nat) : k_pl (j_ea K f) = k_pl K := rfl
theorem kj_pl_ta (K : KS) (f : Nat → Nat) : k_pl (j_ta K f) = k_pl K := rfl
theorem kj_pl_la (K : KS) (f : Nat → Nat) : k_pl (j_la K f) = k_pl K := rfl
theorem kj_pl_wa (K : KS) (f : Nat → Nat) : k_pl (j_wa K f) = k_pl K := rfl
theorem kj_pl_pl (K : KS) (f : Nat → Nat) : k_pl (j_pl K f) = f := rfl
theorem kj_pl_bg (K : KS) (f : Nat → Nat) : k_pl (j_bg K f) = k_pl K := rfl
theorem kj_pl_ls (K : KS) (f : Nat → Nat) : k_pl (j_ls K f) = k_pl K := rfl
theorem kj_pl_vl (K : KS) (f : Nat → Nat) : k_pl (j_vl K f) = k_pl K := rfl
theorem kj_pl_t1 (K : KS) (f : Nat → Nat) : k_pl (j_t1 K f) = k_pl K := rfl
theorem kj_pl_tk (K : KS) (f : Nat → Nat) : k_pl (j_tk K f) = k_pl K := rfl
theorem kj_pl_be (K : KS) (f : Nat → Nat) : k_pl (j_be K f) = k_pl K := rfl
theorem kj_pl_wt (K : KS) (f : Nat → Nat) : k_pl (j_wt K f) = k_pl K := rfl
theorem kj_pl_as (K : KS) (f : Nat → Int64) : k_pl (j_as K f) = k_pl K := rfl
theorem kj_bg_pa (K : KS) (f : Nat → Nat) : k_bg (j_pa K f) = k_bg K := rfl
theorem kj_bg_va (K : KS) (f : Nat → Nat) : k_bg (j_va K f) = k_bg K := rfl
theorem kj_bg_ea (K : KS) (f : Nat → Nat) : k_bg (j_ea K f) = k_bg K := rfl
theorem kj_bg_ta (K : KS) (f : Nat → Nat) : k_bg (j_ta K f) = k_bg K := rfl
theorem kj_bg_la (K : KS) (f : Nat → Nat) : k_bg (j_la K f) = k_bg K := rfl
theorem kj_bg_wa (K : KS) (f : Nat → Nat) : k_bg (j_wa K f) = k_bg K := rfl
theorem kj_bg_pl (K : KS) (f : Nat → Nat) : k_bg (j_pl K f) = k_bg K := rfl
theorem kj_bg_bg (K : KS) (f : Nat → Nat) : k_bg (j_bg K f) = f := rfl
theorem kj_bg_ls (K : KS) (f : Nat → Nat) : k_bg (j_ls K f) = k_bg K := rfl
theorem kj_bg_vl (K : KS) (f : Nat → Nat) : k_bg (j_vl K f) = k_bg K := rfl
theorem kj_bg_t1 (K : KS) (f : Nat → Nat) : k_bg (j_t1 K f) = k_bg K := rfl
theorem kj_bg_tk (K : KS) (f : Nat → Nat) : k_bg (j_tk K f) = k_bg K := rfl
theorem kj_bg_be (K : KS) (f : Nat → Nat) : k_bg (j_be K f) = k_bg K := rfl
theorem kj_bg_wt (K : KS) (f : Nat → Nat) : k_bg (j_wt K f) = k_bg K := rfl
theorem kj_bg_as (K : KS) (f : Nat → Int64) : k_bg (j_as K f) = k_bg K := rfl
theorem kj_ls_pa (K : KS) (f : Nat → Nat) : k_ls (j_pa K f) = k_ls K := rfl
theorem kj_ls_va (K : KS) (f : Nat → Nat) : k_ls (j_va K f) = k_ls K := rfl
theorem kj_ls_ea (K : KS) (f : Nat → Nat) : k_ls (j_ea K f) = k_ls K := rfl
theorem kj_ls_ta (K : KS) (f : Nat → Nat) : k_ls (j_ta K f) = k_ls K := rfl
theorem kj_ls_la (K : KS) (f : Nat → Nat) : k_ls (j_la K f) = k_ls K := rfl
theorem kj_ls_wa (K : KS) (f : Nat → Nat) : k_ls (j_wa K f) = k_ls K := rfl
theorem kj_ls_pl (K : KS) (f : Nat → Nat) : k_ls (j_pl K f) = k_ls K := rfl
theorem kj_ls_bg (K : KS) (f : Nat → Nat) : k_ls (j_bg K f) = k_ls K := rfl
theorem kj_ls_ls (K : KS) (f : Nat → Nat) : k_ls (j_ls K f) = f := rfl
theorem kj_ls_vl (K : KS) (f : Nat → Nat) : k_ls (j_vl K f) = k_ls K := rfl
theorem kj_ls_t1 (K : KS) (f : Nat → Nat) : k_ls (j_t1 K f) = k_ls K := rfl
theorem kj_ls_tk (K : KS) (f : Nat → Nat) : k_ls (j_tk K f) = k_ls K := rfl
theorem kj_ls_be (K : KS) (f : Nat → Nat) : k_ls (j_be K f) = k_ls K := rfl
theorem kj_ls_wt (K : KS) (f : Nat → Nat) : k_ls (j_wt K f) = k_ls K := rfl
theorem kj_ls_as (K : KS) (f : Nat → Int64) : k_ls (j_as K f) = k_ls K := rfl
theorem kj_vl_pa (K : KS) (f : Nat → Nat) : k_vl (j_pa K f) = k_vl K := rfl
theorem kj_vl_va (K : KS) (f : Nat → Nat) : k_vl (j_va K f) = k_vl K := rfl
theorem kj_vl_ea (K : KS) (f : Nat → Nat) : k_vl (j_ea K f) = k_vl K := rfl
theorem kj_vl_ta (K : KS) (f : Nat → Nat) : k_vl (j_ta K f) = k_vl K := rfl
theorem kj_vl_la (K : KS) (f : Nat → Nat) : k_vl (j_la K f) = k_vl K := rfl
theorem kj_vl_wa (K : KS) (f : Nat → Nat) : k_vl (j_wa K f) = k_vl K := rfl
theorem kj_vl_pl (K : KS) (f : Nat → Nat) : k_vl (j_pl K f) = k_vl K := rfl
theorem kj_vl_bg (K : KS) (f : Nat → Nat) : k_vl (j_bg K f) = k_vl K := rfl
theorem kj_vl_ls (K : KS) (f : Nat → Nat) : k_vl (j_ls K f) = k_vl K := rfl
theorem kj_vl_vl (K : KS) (f : Nat → Nat) : k_vl (j_vl K f) = f := rfl
theorem kj_vl_t1 (K : KS) (f : Nat → Nat) : k_vl (j_t1 K f) = k_vl K := rfl
theorem kj_vl_tk (K : KS) (f : Nat → Nat) : k_vl (j_tk K f) = k_vl K := rfl
theorem kj_vl_be (K : KS) (f : Nat → Nat) : k_vl (j_be K f) = k_vl K := rfl
theorem kj_vl_wt (K : KS) (f : Nat → Nat) : k_vl (j_wt K f) = k_vl K := rfl
theorem kj_vl_as (K : KS) (f : Nat → Int64) : k_vl (j_as K f) = k_vl K := rfl
theorem kj_t1_pa (K : KS) (f : Nat → Nat) : k_t1 (j_pa K f) = k_t1 K := rfl
theorem kj_t1_va (K : KS) (f : Nat → Nat) : k_t1 (j_va K f) = k_t1 K := rfl
theorem kj_t1_ea (K : KS) (f : Nat → Nat) : k_t1 (j_ea K f) = k_t1 K := rfl
theorem kj_t1_ta (K : KS) (f : Nat → Nat) : k_t1 (j_ta K f) = k_t1 K := rfl
theorem kj_t1_la (K : KS) (f : Nat → Nat) : k_t1 (j_la K f) = k_t1 K := rfl
theorem kj_t1_wa (K : KS) (f : Nat → Nat) : k_t1 (j_wa K f) = k_t1 K := rfl
theorem kj_t1_pl (K : KS) (f : Nat → Nat) : k_t1 (j_pl K f) = k_t1 K := rfl
theorem kj_t1_bg (K : KS) (f : Nat → Nat) : k_t1 (j_bg K f) = k_t1 K := rfl
theorem kj_t1_ls (K : KS) (f : Nat → Nat) : k_t1 (j_ls K f) = k_t1 K := rfl
theorem kj_t1_vl (K : KS) (f : Nat → Nat) : k_t1 (j_vl K f) = k_t1 K := rfl
theorem kj_t1_t1 (K : KS) (f : Nat → Nat) : k_t1 (j_t1 K f) = f := rfl
theorem kj_t1_tk (K : KS) (f : Nat → Nat) : k_t1 (j_tk K f) = k_t1 K := rfl
theorem kj_t1_be (K : KS) (f : Nat → Nat) : k_t1 (j_be K f) = k_t1 K := rfl
theorem kj_t1_wt (K : KS) (f : Nat → Nat) : k_t1 (j_wt K f) = k_t1 K := rfl
theorem kj_t1_as (K : KS) (f : Nat → Int64) : k_t1 (j_as K f) = k_t1 K := rfl
theorem kj_tk_pa (K : KS) (f : Nat → Nat) : k_tk (j_pa K f) = k_tk K := rfl
theorem kj_tk_va (K : KS) (f : Nat → Nat) : k_tk (j_va K f) = k_tk K := rfl
theorem kj_tk_ea (K : KS) (f : Nat → Nat) : k_tk (j_ea K f) = k_tk K := rfl
theorem kj_tk_ta (K : KS) (f : Nat → Nat) : k_tk (j_ta K f) = k_tk K := rfl
theorem kj_tk_la (K : KS) (f : Nat → Nat) : k_tk (j_la K f) = k_tk K := rfl
theorem kj_tk_wa (K : KS) (f : Nat → Nat) : k_tk (j_wa K f) = k_tk K := rfl
theorem kj_tk_pl (K : KS) (f : Nat → Nat) : k_tk (j_pl K f) = k_tk K := rfl
theorem kj_tk_bg (K : KS) (f : Nat → Nat) : k_tk (j_bg K f) = k_tk K := rfl
theorem kj_tk_ls (K : KS) (f : Nat → Nat) : k_tk (j_ls K f) = k_tk K := rfl
theorem kj_tk_vl (K : KS) (f : Nat → Nat) : k_tk (j_vl K f) = k_tk K := rfl
theorem kj_tk_t1 (K : KS) (f : Nat → Nat) : k_tk (j_t1 K f) = k_tk K := rfl
theorem kj_tk_tk (K : KS) (f : Nat → Nat) : k_tk (j_tk K f) = f := rfl
theorem kj_tk_be (K : KS) (f : Nat → Nat) : k_tk (j_be K f) = k_tk K := rfl
theorem kj_tk_wt (K : KS) (f : Nat → Nat) : k_tk (j_wt K f) = k_tk K := rfl
theorem kj_tk_as (K : KS) (f : Nat → Int64) : k_tk (j_as K f) = k_tk K := rfl
theorem kj_be_pa (K : KS) (f : Nat → Nat) : k_be (j_pa K f) = k_be K := rfl
theorem kj_be_va (K : KS) (f : Nat → Nat) : k_be (j_va K f) = k_be K := rfl
theorem kj_be_ea (K : KS) (f : Nat → Nat) : k_be (j_ea K f) = k_be K := rfl
theorem kj_be_ta (K : KS) (f : Nat → Nat) : k_be (j_ta K f) = k_be K := rfl
theorem kj_be_la (K : KS) (f : Nat → Nat) : k_be (j_la K f) = k_be K := rfl
theorem kj_be_wa (K : KS) (f : Nat → Nat) : k_be (j_wa K f) = k_be K := rfl
theorem kj_be_pl (K : KS) (f : Nat → Nat) : k_be (j_pl K f) = k_be K := rfl
theorem kj_be_bg (K : KS) (f : Nat → Nat) : k_be (j_bg K f) = k_be K := rfl
theorem kj_be_ls (K : KS) (f : Nat → Nat) : k_be (j_ls K f) = k_be K := rfl
theorem kj_be_vl (K : KS) (f : Nat → Nat) : k_be (j_vl K f) = k_be K := rfl
theorem kj_be_t1 (K : KS) (f : Nat → Nat) : k_be (j_t1 K f) = k_be K := rfl
theorem kj_be_tk (K : KS) (f : Nat → Nat) : k_be (j_tk K f) = k_be K := rfl
theorem kj_be_be (K : KS) (f : Nat → Nat) : k_be (j_be K f) = f := rfl
theorem kj_be_wt (K : KS) (f : Nat → Nat) : k_be (j_wt K f) = k_be K := rfl
theorem kj_be_as (K : KS) (f : Nat → Int64) : k_be (j_as K f) = k_be K := rfl
theorem kj_wt_pa (K : KS) (f : Nat → Nat) : k_wt (j_pa K f) = k_wt K := rfl
theorem kj_wt_va (K : KS) (f : Nat → Nat) : k_wt (j_va K f) = k_wt K := rfl
theorem kj_wt_ea (K : KS) (f : Nat → Nat) : k_wt (j_ea K f) = k_wt K := rfl
theorem kj_wt_ta (K : KS) (f : Nat → Nat) : k_wt (j_ta K f) = k_wt K := rfl
theorem kj_wt_la (K : KS) (f : Nat → Nat) : k_wt (j_la K f) = k_wt K := rfl
theorem kj_wt_wa (K : KS) (f : Nat → Nat) : k_wt (j_wa K f) = k_wt K := rfl
theorem kj_wt_pl (K : KS) (f : Nat → Nat) : k_wt (j_pl K f) = k_wt K := rfl
theorem kj_wt_bg (K : KS) (f : Nat → Nat) : k_wt (j_bg K f) = k_wt K := rfl
theorem kj_wt_ls (K : KS) (f : Nat → Nat) : k_wt (j_ls K f) = k_wt K := rfl
theorem kj_wt_vl (K : KS) (f : Nat → Nat) : k_wt (j_vl K f) = k_wt K := rfl
theorem kj_wt_t1 (K : KS) (f : Nat → Nat) : k_wt (j_t1 K f) = k_wt K := rfl
theorem kj_wt_tk (K : KS) (f : Nat → Nat) : k_wt (j_tk K f) = k_wt K := rfl
theorem kj_wt_be (K : KS) (f : Nat → Nat) : k_wt (j_be K f) = k_wt K := rfl
theorem kj_wt_wt (K : KS) (f : Nat → Nat) : k_wt (j_wt K f) = f := rfl
theorem kj_wt_as (K : KS) (f : Nat → Int64) : k_wt (j_as K f) = k_wt K := rfl
theorem kj_as_pa (K : KS) (f : Nat → Nat) : k_as (j_pa K f) = k_as K := rfl
theorem kj_as_va (K : KS) (f : Nat → Nat) : k_as (j_va K f) = k_as K := rfl
theorem kj_as_ea (K : KS) (f : Nat → Nat) : k_as (j_ea K f) = k_as K := rfl
theorem kj_as_ta (K : KS) (f : Nat → Nat) : k_as (j_ta K f) = k_as K := rfl
theorem kj_as_la (K : KS) (f : Nat → Nat) : k_as (j_la K f) = k_as K := rfl
theorem kj_as_wa (K : KS) (f : Nat → Nat) : k_as (j_wa K f) = k_as K := rfl
theorem kj_as_pl (K : KS) (f : Nat → Nat) : k_as (j_pl K f) = k_as K := rfl
theorem kj_as_bg (K : KS) (f : Nat → Nat) : k_as (j_bg K f) = k_as K := rfl
theorem kj_as_ls (K : KS) (f : Nat → Nat) : k_as (j_ls K f) = k_as K := rfl
theorem kj_as_vl (K : KS) (f : Nat → Nat) : k_as (j_vl K f) = k_as K := rfl
theorem kj_as_t1 (K : KS) (f : Nat → Nat) : k_as (j_t1 K f) = k_as K := rfl
theorem kj_as_tk (K : KS) (f : Nat → Nat) : k_as (j_tk K f) = k_as K := rfl
theorem kj_as_be (K : KS) (f : Nat → Nat) : k_as (j_be K f) = k_as K := rfl
theorem kj_as_wt (K : KS) (f : Nat → Nat) : k_as (j_wt K f) = k_as K := rfl
theorem kj_as_as (K : KS) (f : Nat → Int64) : k_as (j_as K f) = f := rfl
def icl (k : Nat) : Nat := match k with
  | 1 => 5
  | 2 => 0
  | 3 => 3
  | 4 => 6
  | 5 => 1
  | _ => 7
def cTab : List (Nat × Nat × Nat × Nat) := [(704, 1, 5, 6), (706, 2, 6, 18), (707, 3, 4, 24), (709, 4, 7, 150), (711, 5, 8, 20), (713, 6, 9, 30), (715, 7, 2, 150), (717, 8, 2, 300), (719, 9, 10, 4), (720, 10, 10, 4), (721, 11, 2, 5)]
def cA (c : Nat) (σ : ZS) : Prop := zk σ c = (1, 11) ∧ ∀ q ∈ cTab, zR σ q.1 c = some (c + q.2.1) ∧ zk σ (c + q.2.1) = (q.2.2.1, q.2.2.2)
theorem ca_parts {c : Nat} {σ : ZS} (h : cA c σ) : zR σ 704 c = some (c + 1) := (h.2 (704, 1, 5, 6) (List.mem_of_getElem? (i := 0) rfl)).1
theorem ck_parts {c : Nat} {σ : ZS} (h : cA c σ) : zk σ (c + 1) = (5, 6) := (h.2 (704, 1, 5, 6) (List.mem_of_getElem? (i := 0) rfl)).2
theorem ca_voices {c : Nat} {σ : ZS} (h : cA c σ) : zR σ 706 c = some (c + 2) := (h.2 (706, 2, 6, 18) (List.mem_of_getElem? (i := 1) rfl)).1
theorem ck_voices {c : Nat} {σ : ZS} (h : cA c σ) : zk σ (c + 2) = (6, 18) := (h.2 (706, 2, 6, 18) (List.mem_of_getElem? (i := 1) rfl)).2
theorem ca_barEnds {c : Nat} {σ : ZS} (h : cA c σ) : zR σ 707 c = some (c + 3) := (h.2 (707, 3, 4, 24) (List.mem_of_getElem? (i := 2) rfl)).1
theorem ck_barEnds {c : Nat} {σ : ZS} (h : cA c σ) : zk σ (c + 3) = (4, 24) := (h.2 (707, 3, 4, 24) (List.mem_of_getElem? (i := 2) rfl)).2
theorem ca_events {c : Nat} {σ : ZS} (h : cA c σ) : zR σ 709 c = some (c + 4) := (h.2 (709, 4, 7, 150) (List.mem_of_getElem? (i := 3) rfl)).1
theorem ck_events {c : Nat} {σ : ZS} (h : cA c σ) : zk σ (c + 4) = (7, 150) := (h.2 (709, 4, 7, 150) (List.mem_of_getElem? (i := 3) rfl)).2
theorem ca_tuplets {c : Nat} {σ : ZS} (h : cA c σ) : zR σ 711 c = some (c + 5) := (h.2 (711, 5, 8, 20) (List.mem_of_getElem? (i := 4) rfl)).1
theorem ck_tuplets {c : Nat} {σ : ZS} (h : cA c σ) : zk σ (c + 5) = (8, 20) := (h.2 (711, 5, 8, 20) (List.mem_of_getElem? (i := 4) rfl)).2
theorem ca_lines {c : Nat} {σ : ZS} (h : cA c σ) : zR σ 713 c = some (c + 6) := (h.2 (713, 6, 9, 30) (List.mem_of_getElem? (i := 5) rfl)).1
theorem ck_lines {c : Nat} {σ : ZS} (h : cA c σ) : zk σ (c + 6) = (9, 30) := (h.2 (713, 6, 9, 30) (List.mem_of_getElem? (i := 5) rfl)).2
theorem ca_walkRow {c : Nat} {σ : ZS} (h : cA c σ) : zR σ 715 c = some (c + 7) := (h.2 (715, 7, 2, 150) (List.mem_of_getElem? (i := 6) rfl)).1
theorem ck_walkRow {c : Nat} {σ : ZS} (h : cA c σ) : zk σ (c + 7) = (2, 150) := (h.2 (715, 7, 2, 150) (List.mem_of_getElem? (i := 6) rfl)).2
theorem ca_findingRow {c : Nat} {σ : ZS} (h : cA c σ) : zR σ 717 c = some (c + 8) := (h.2 (717, 8, 2, 300) (List.mem_of_getElem? (i := 7) rfl)).1
theorem ck_findingRow {c : Nat} {σ : ZS} (h : cA c σ) : zk σ (c + 8) = (2, 300) := (h.2 (717, 8, 2, 300) (List.mem_of_getElem? (i := 7) rfl)).2
theorem ca_racks {c : Nat} {σ : ZS} (h : cA c σ) : zR σ 719 c = some (c + 9) := (h.2 (719, 9, 10, 4) (List.mem_of_getElem? (i := 8) rfl)).1
theorem ck_racks {c : Nat} {σ : ZS} (h : cA c σ) : zk σ (c + 9) = (10, 4) := (h.2 (719, 9, 10, 4) (List.mem_of_getElem? (i := 8) rfl)).2
theorem ca_shelves {c : Nat} {σ : ZS} (h : cA c σ) : zR σ 720 c = some (c + 10) := (h.2 (720, 10, 10, 4) (List.mem_of_getElem? (i := 9) rfl)).1
theorem ck_shelves {c : Nat} {σ : ZS} (h : cA c σ) : zk σ (c + 10) = (10, 4) := (h.2 (720, 10, 10, 4) (List.mem_of_getElem? (i := 9) rfl)).2
theorem ca_failureCounts {c : Nat} {σ : ZS} (h : cA c σ) : zR σ 721 c = some (c + 11) := (h.2 (721, 11, 2, 5) (List.mem_of_getElem? (i := 10) rfl)).1
theorem ck_failureCounts {c : Nat} {σ : ZS} (h : cA c σ) : zk σ (c + 11) = (2, 5) := (h.2 (721, 11, 2, 5) (List.mem_of_getElem? (i := 10) rfl)).2
def rwP (T : TS) (i : Nat) : Bool := if i < 4 then g_hr T i else g_hs T (i - 4)
/-- the class at c, all its cells below B, holds the score T, with K -/
def cG (c B : Nat) (σ : ZS) (T : TS) (K : KS) : Prop :=
  cA c σ ∧
  (c + 12 ≤ B ∧ B ≤ zn σ) ∧
  (g_np T ≤ 6 ∧ g_ev T ≤ 150 ∧ g_te T ≤ 20 ∧ g_le T ≤ 30 ∧ g_nb T ≤ 24) ∧
  (∀ i, i < g_np T → zk σ (k_pa K i) = (1, icl (g_pk T i)) ∧ c + 12 ≤ k_pa K i ∧ k_pa K i < B) ∧
  (∀ v, v < 3 * g_np T → zk σ (k_va K v) = (1, 10) ∧ zk σ (k_va K v + 1) = (7, 40) ∧ c + 12 ≤ k_va K v ∧ k_va K v + 1 < B) ∧
  (∀ e, e < g_ev T → zk σ (k_ea K e) = (1, 2) ∧ zk σ (k_ea K e + 1) = (2, if g_kd T e = 1 then 6 else 1) ∧ c + 12 ≤ k_ea K e ∧ k_ea K e + 1 < B) ∧
  (∀ t, t < g_te T → zk σ (k_ta K t) = (1, 9) ∧ c + 12 ≤ k_ta K t ∧ k_ta K t < B) ∧
  (∀ l, l < g_le T → zk σ (k_la K l) = (1, 4) ∧ c + 12 ≤ k_la K l ∧ k_la K l < B) ∧
  (∀ r, r < 4 → g_hr T r = true → zk σ (k_wa K r) = (1, 8) ∧ zk σ (k_wa K r + 1) = (2, g_rs T r) ∧ c + 12 ≤ k_wa K r ∧ k_wa K r + 1 < B) ∧
  (∀ r, r < 4 → g_hs T r = true → zk σ (k_wa K (r + 4)) = (1, 8) ∧ zk σ (k_wa K (r + 4) + 1) = (2, g_ss T r) ∧ c + 12 ≤ k_wa K (r + 4) ∧ k_wa K (r + 4) + 1 < B) ∧
  (∀ i j, i < g_np T → j < g_np T → k_pa K i = k_pa K j → i = j) ∧
  (∀ i j, i < g_le T → j < g_le T → k_la K i = k_la K j → i = j) ∧
  (∀ i j, i < 8 → j < 8 → rwP T i = true → rwP T j = true → k_wa K i = k_wa K j → i = j) ∧
  zI σ 705 c = nI (g_np T) ∧
  zI σ 708 c = nI (g_nb T) ∧
  zI σ 710 c = nI (g_ev T) ∧
  zI σ 712 c = nI (g_te T) ∧
  zI σ 714 c = nI (g_le T) ∧
  zI σ 716 c = nI (g_wm T) ∧
  zI σ 718 c = nI (g_fo T) ∧
  zI σ 722 c = g_su T ∧
  (∀ i, i < g_np T → zr σ (c + 1) i = some (k_pa K i)) ∧
  (∀ i, i < g_np T → zL σ 448 (k_pa K i) = k_as K i) ∧
  (∀ v, v < 3 * g_np T → zr σ (c + 2) v = some (k_va K v)) ∧
  (∀ v, v < 3 * g_np T → zI σ 640 (k_va K v) = nI v) ∧
  (∀ v, v < 3 * g_np T → zR σ 641 (k_va K v) = some (k_pa K (v / 3))) ∧
  (∀ v, v < 3 * g_np T → zR σ 642 (k_va K v) = some (k_va K v + 1)) ∧
  (∀ v, v < 3 * g_np T → zI σ 643 (k_va K v) = nI (g_mn T v)) ∧
  (∀ v, v < 3 * g_np T → zI σ 644 (k_va K v) = nI (k_wt K v)) ∧
  (∀ v, v < 3 * g_np T → zL σ 645 (k_va K v) = lN (k_vl K v)) ∧
  (∀ v p, v < 3 * g_np T → p < g_mn T v → zr σ (k_va K v + 1) p = some (k_ea K (g_ro T v p))) ∧
  (∀ b, b < g_nb T → zl σ (c + 3) b = lN (k_be K b)) ∧
  (∀ e, e < g_ev T → zr σ (c + 4) e = if g_th T e = true then some (k_ea K e) else none) ∧
  (∀ e, e < g_ev T → zI σ 128 (k_ea K e) = nI e) ∧
  (∀ e, e < g_ev T → zR σ 129 (k_ea K e) = some (k_va K (g_vo T e))) ∧
  (∀ e, e < g_ev T → zI σ 130 (k_ea K e) = nI (g_kd T e)) ∧
  (∀ e, e < g_ev T → zR σ 131 (k_ea K e) = some (k_ea K e + 1)) ∧
  (∀ e, e < g_ev T → zI σ 132 (k_ea K e) = nI (g_pn T e)) ∧
  (∀ e, e < g_ev T → zI σ 133 (k_ea K e) = nI (g_va T e)) ∧
  (∀ e, e < g_ev T → zI σ 134 (k_ea K e) = nI (g_dt T e)) ∧
  (∀ e, e < g_ev T → zI σ 135 (k_ea K e) = bI (g_ti T e)) ∧
  (∀ e, e < g_ev T → zI σ 136 (k_ea K e) = nI (k_pl K e)) ∧
  (∀ e, e < g_ev T → zL σ 137 (k_ea K e) = lN (k_bg K e)) ∧
  (∀ e, e < g_ev T → zL σ 138 (k_ea K e) = lN (k_ls K e)) ∧
  (∀ e j, e < g_ev T → j < g_pn T e → zi σ (k_ea K e + 1) j = g_pi T e j) ∧
  (∀ t, t < g_te T → zr σ (c + 5) t = if g_tt T t = true then some (k_ta K t) else none) ∧
  (∀ t, t < g_te T → zI σ 576 (k_ta K t) = nI t) ∧
  (∀ t, t < g_te T → g_tt T t = true → zR σ 577 (k_ta K t) = some (k_va K (g_tv T t))) ∧
  (∀ t, t < g_te T → zI σ 578 (k_ta K t) = nI (k_t1 K t)) ∧
  (∀ t, t < g_te T → zI σ 579 (k_ta K t) = nI (k_tk K t)) ∧
  (∀ t, t < g_te T → zI σ 580 (k_ta K t) = nI (g_tn T t)) ∧
  (∀ t, t < g_te T → zI σ 581 (k_ta K t) = nI (g_tm T t)) ∧
  (∀ t, t < g_te T → zI σ 582 (k_ta K t) = nI (g_tu T t)) ∧
  (∀ l, l < g_le T → zr σ (c + 6) l = if g_lt T l = true then some (k_la K l) else none) ∧
  (∀ l, l < g_le T → zI σ 256 (k_la K l) = nI (g_lk T l)) ∧
  (∀ l, l < g_le T → g_lt T l = true → zR σ 257 (k_la K l) = some (k_ea K (g_lf T l))) ∧
  (∀ l, l < g_le T → g_lt T l = true → zR σ 258 (k_la K l) = (g_lo T l).map (k_ea K)) ∧
  (∀ i, i < g_wm T → zi σ (c + 7) i = nI (g_wr T i)) ∧
  (∀ i, i < 300 → zi σ (c + 8) i = g_fi T i) ∧
  (∀ i, i < 5 → zi σ (c + 11) i = g_fa T i) ∧
  (∀ r, r < 4 → zr σ (c + 9) r = if g_hr T r = true then some (k_wa K r) else none) ∧
  (∀ r, r < 4 → zr σ (c + 10) r = if g_hs T r = true then some (k_wa K (r + 4)) else none) ∧
  (∀ r, r < 4 → g_hr T r = true → zI σ 512 (k_wa K r) = nI (g_rk T r)) ∧
  (∀ r, r < 4 → g_hs T r = true → zI σ 512 (k_wa K (r + 4)) = nI (g_sk T r)) ∧
  (∀ r, r < 4 → g_hr T r = true → zR σ 513 (k_wa K r) = some (k_wa K r + 1)) ∧
  (∀ r, r < 4 → g_hs T r = true → zR σ 513 (k_wa K (r + 4)) = some (k_wa K (r + 4) + 1)) ∧
  (∀ r j, r < 4 → g_hr T r = true → j < g_rs T r → zi σ (k_wa K r + 1) j = oI (g_rr T r j)) ∧
  (∀ r j, r < 4 → g_hs T r = true → j < g_ss T r → zi σ (k_wa K (r + 4) + 1) j = g_sr T r j)
theorem cf_sh {c B : Nat} {σ : ZS} {T : TS} {K : KS} (h : cG c B σ T K) : cA c σ := h.1
theorem cf_B {c B : Nat} {σ : ZS} {T : TS} {K : KS} (h : cG c B σ T K) : c + 12 ≤ B ∧ B ≤ zn σ := h.2.1
theorem cf_bd {c B : Nat} {σ : ZS} {T : TS} {K : KS} (h : cG c B σ T K) : g_np T ≤ 6 ∧ g_ev T ≤ 150 ∧ g_te T ≤ 20 ∧ g_le T ≤ 30 ∧ g_nb T ≤ 24 := h.2.2.1
theorem cf_pk {c B : Nat} {σ : ZS} {T : TS} {K : KS} (h : cG c B σ T K) : ∀ i, i < g_np T → zk σ (k_pa K i) = (1, icl (g_pk T i)) ∧ c + 12 ≤ k_pa K i ∧ k_pa K i < B := h.2.2.2.1
theorem cf_vk {c B : Nat} {σ : ZS} {T : TS} {K : KS} (h : cG c B σ T K) : ∀ v, v < 3 * g_np T → zk σ (k_va K v) = (1, 10) ∧ zk σ (k_va K v + 1) = (7, 40) ∧ c + 12 ≤ k_va K v ∧ k_va K v + 1 < B := h.2.2.2.2.1
theorem cf_ek {c B : Nat} {σ : ZS} {T : TS} {K : KS} (h : cG c B σ T K) : ∀ e, e < g_ev T → zk σ (k_ea K e) = (1, 2) ∧ zk σ (k_ea K e + 1) = (2, if g_kd T e = 1 then 6 else 1) ∧ c + 12 ≤ k_ea K e ∧ k_ea K e + 1 < B := h.2.2.2.2.2.1
theorem cf_tk {c B : Nat} {σ : ZS} {T : TS} {K : KS} (h : cG c B σ T K) : ∀ t, t < g_te T → zk σ (k_ta K t) = (1, 9) ∧ c + 12 ≤ k_ta K t ∧ k_ta K t < B := h.2.2.2.2.2.2.1
theorem cf_lk {c B : Nat} {σ : ZS} {T : TS} {K : KS} (h : cG c B σ T K) : ∀ l, l < g_le T → zk σ (k_la K l) = (1, 4) ∧ c + 12 ≤ k_la K l ∧ k_la K l < B := h.2.2.2.2.2.2.2.1
theorem cf_rk {c B : Nat} {σ : ZS} {T : TS} {K : KS} (h : cG c B σ T K) : ∀ r, r < 4 → g_hr T r = true → zk σ (k_wa K r) = (1, 8) ∧ zk σ (k_wa K r + 1) = (2, g_rs T r) ∧ c + 12 ≤ k_wa K r ∧ k_wa K r + 1 < B := h.2.2.2.2.2.2.2.2.1
theorem cf_sk {c B : Nat} {σ : ZS} {T : TS} {K : KS} (h : cG c B σ T K) : ∀ r, r < 4 → g_hs T r = true → zk σ (k_wa K (r + 4)) = (1, 8) ∧ zk σ (k_wa K (r + 4) + 1) = (2, g_ss T r) ∧ c + 12 ≤ k_wa K (r + 4) ∧ k_wa K (r + 4) + 1 < B := h.2.2.2.2.2.2.2.2.2.1
theorem cf_pai {c B : Nat} {σ : ZS} {T : TS} {K : KS} (h : cG c B σ T K) : ∀ i j, i < g_np T → j < g_np T → k_pa K i = k_pa K j → i = j := h.2.2.2.2.2.2.2.2.2.2.1
theorem cf_lai {c B : Nat} {σ : ZS} {T : TS} {K : KS} (h : cG c B σ T K) : ∀ i j, i < g_le T → j < g_le T → k_la K i = k_la K j → i = j := h.2.2.2.2.2.2.2.2.2.2.2.1
theorem cf_wai {c B : Nat} {σ : ZS} {T : TS} {K : KS} (h : cG c B σ T K) : ∀ i j, i < 8 → j < 8 → rwP T i = true → rwP T j = true → k_wa K i = k_wa K j → i = j := h.2.2.2.2.2.2.2.2.2.2.2.2.1
theorem cf_np {c B : Nat} {σ : ZS} {T : TS} {K : KS} (h : cG c B σ T K) : zI σ 705 c = nI (g_np T) := h.2.2.2.2.2.2.2.2.2.2.2.2.2.1
theorem cf_nb {c B : Nat} {σ : ZS} {T : TS} {K : KS} (h : cG c B σ T K) : zI σ 708 c = nI (g_nb T) := h.2.2.2.2.2.2.2.2.2.2.2.2.2.2.1
theorem cf_ev {c B : Nat} {σ : ZS} {T : TS} {K : KS} (h : cG c B σ T K) : zI σ 710 c = nI (g_ev T) := h.2.2.2.2.2.2.2.2.2.2.2.2.2.2.2.1
theorem cf_te {c B : Nat} {σ : ZS} {T : TS} {K : KS} (h : cG c B σ T K) : zI σ 712 c = nI (g_te T) := h.2.2.2.2.2.2.2.2.2.2.2.2.2.2.2.2.1
theorem cf_le {c B : Nat} {σ : ZS} {T : TS} {K : KS} (h : cG c B σ T K) : zI σ 714 c = nI (g_le T) := h.2.2.2.2.2.2.2.2.2.2.2.2.2.2.2.2.2.1
theorem cf_wm {c B : Nat} {σ : ZS} {T : TS} {K : KS} (h : cG c B σ T K) : zI σ 716 c = nI (g_wm T) := h.2.2.2.2.2.2.2.2.2.2.2.2.2.2.2.2.2.2.1
theorem cf_fo {c B : Nat} {σ : ZS} {T : TS} {K : KS} (h : cG c B σ T K) : zI σ 718 c = nI (g_fo T) := h.2.2.2.2.2.2.2.2.2.2.2.2.2.2.2.2.2.2.2.1
theorem cf_su {c B : Nat} {σ : ZS} {T : TS} {K : KS} (h : cG c B σ T K) : zI σ 722 c = g_su T := h.2.2.2.2.2.2.2.2.2.2.2.2.2.2.2.2.2.2.2.2.1
theorem cf_pa {c B : Nat} {σ : ZS} {T : TS} {K : KS} (h : cG c B σ T K) : ∀ i, i < g_np T → zr σ (c + 1) i = some (k_pa K i) := h.2.2.2.2.2.2.2.2.2.2.2.2.2.2.2.2.2.2.2.2.2.1
theorem cf_pas {c B : Nat} {σ : ZS} {T : TS} {K : KS} (h : cG c B σ T K) : ∀ i, i < g_np T → zL σ 448 (k_pa K i) = k_as K i := h.2.2.2.2.2.2.2.2.2.2.2.2.2.2.2.2.2.2.2.2.2.2.1
theorem cf_va {c B : Nat} {σ : ZS} {T : TS} {K : KS} (h : cG c B σ T K) : ∀ v, v < 3 * g_np T → zr σ (c + 2) v = some (k_va K v) := h.2.2.2.2.2.2.2.2.2.2.2.2.2.2.2.2.2.2.2.2.2.2.2.1
theorem cf_vn {c B : Nat} {σ : ZS} {T : TS} {K : KS} (h : cG c B σ T K) : ∀ v, v < 3 * g_np T → zI σ 640 (k_va K v) = nI v := h.2.2.2.2.2.2.2.2.2.2.2.2.2.2.2.2.2.2.2.2.2.2.2.2.1
theorem cf_vi {c B : Nat} {σ : ZS} {T : TS} {K : KS} (h : cG c B σ T K) : ∀ v, v < 3 * g_np T → zR σ 641 (k_va K v) = some (k_pa K (v / 3)) := h.2.2.2.2.2.2.2.2.2.2.2.2.2.2.2.2.2.2.2.2.2.2.2.2.2.1
theorem cf_ve {c B : Nat} {σ : ZS} {T : TS} {K : KS} (h : cG c B σ T K) : ∀ v, v < 3 * g_np T → zR σ 642 (k_va K v) = some (k_va K v + 1) := h.2.2.2.2.2.2.2.2.2.2.2.2.2.2.2.2.2.2.2.2.2.2.2.2.2.2.1
theorem cf_vs {c B : Nat} {σ : ZS} {T : TS} {K : KS} (h : cG c B σ T K) : ∀ v, v < 3 * g_np T → zI σ 643 (k_va K v) = nI (g_mn T v) := h.2.2.2.2.2.2.2.2.2.2.2.2.2.2.2.2.2.2.2.2.2.2.2.2.2.2.2.1
theorem cf_vw {c B : Nat} {σ : ZS} {T : TS} {K : KS} (h : cG c B σ T K) : ∀ v, v < 3 * g_np T → zI σ 644 (k_va K v) = nI (k_wt K v) := h.2.2.2.2.2.2.2.2.2.2.2.2.2.2.2.2.2.2.2.2.2.2.2.2.2.2.2.2.1
theorem cf_vl {c B : Nat} {σ : ZS} {T : TS} {K : KS} (h : cG c B σ T K) : ∀ v, v < 3 * g_np T → zL σ 645 (k_va K v) = lN (k_vl K v) := h.2.2.2.2.2.2.2.2.2.2.2.2.2.2.2.2.2.2.2.2.2.2.2.2.2.2.2.2.2.1
theorem cf_ro {c B : Nat} {σ : ZS} {T : TS} {K : KS} (h : cG c B σ T K) : ∀ v p, v < 3 * g_np T → p < g_mn T v → zr σ (k_va K v + 1) p = some (k_ea K (g_ro T v p)) := h.2.2.2.2.2.2.2.2.2.2.2.2.2.2.2.2.2.2.2.2.2.2.2.2.2.2.2.2.2.2.1
theorem cf_be {c B : Nat} {σ : ZS} {T : TS} {K : KS} (h : cG c B σ T K) : ∀ b, b < g_nb T → zl σ (c + 3) b = lN (k_be K b) := h.2.2.2.2.2.2.2.2.2.2.2.2.2.2.2.2.2.2.2.2.2.2.2.2.2.2.2.2.2.2.2.1
theorem cf_ea {c B : Nat} {σ : ZS} {T : TS} {K : KS} (h : cG c B σ T K) : ∀ e, e < g_ev T → zr σ (c + 4) e = if g_th T e = true then some (k_ea K e) else none := h.2.2.2.2.2.2.2.2.2.2.2.2.2.2.2.2.2.2.2.2.2.2.2.2.2.2.2.2.2.2.2.2.1
theorem cf_en {c B : Nat} {σ : ZS} {T : TS} {K : KS} (h : cG c B σ T K) : ∀ e, e < g_ev T → zI σ 128 (k_ea K e) = nI e := h.2.2.2.2.2.2.2.2.2.2.2.2.2.2.2.2.2.2.2.2.2.2.2.2.2.2.2.2.2.2.2.2.2.1
theorem cf_eo {c B : Nat} {σ : ZS} {T : TS} {K : KS} (h : cG c B σ T K) : ∀ e, e < g_ev T → zR σ 129 (k_ea K e) = some (k_va K (g_vo T e)) := h.2.2.2.2.2.2.2.2.2.2.2.2.2.2.2.2.2.2.2.2.2.2.2.2.2.2.2.2.2.2.2.2.2.2.1
theorem cf_ed {c B : Nat} {σ : ZS} {T : TS} {K : KS} (h : cG c B σ T K) : ∀ e, e < g_ev T → zI σ 130 (k_ea K e) = nI (g_kd T e) := h.2.2.2.2.2.2.2.2.2.2.2.2.2.2.2.2.2.2.2.2.2.2.2.2.2.2.2.2.2.2.2.2.2.2.2.1
theorem cf_ep {c B : Nat} {σ : ZS} {T : TS} {K : KS} (h : cG c B σ T K) : ∀ e, e < g_ev T → zR σ 131 (k_ea K e) = some (k_ea K e + 1) := h.2.2.2.2.2.2.2.2.2.2.2.2.2.2.2.2.2.2.2.2.2.2.2.2.2.2.2.2.2.2.2.2.2.2.2.2.1
theorem cf_ec {c B : Nat} {σ : ZS} {T : TS} {K : KS} (h : cG c B σ T K) : ∀ e, e < g_ev T → zI σ 132 (k_ea K e) = nI (g_pn T e) := h.2.2.2.2.2.2.2.2.2.2.2.2.2.2.2.2.2.2.2.2.2.2.2.2.2.2.2.2.2.2.2.2.2.2.2.2.2.1
theorem cf_et {c B : Nat} {σ : ZS} {T : TS} {K : KS} (h : cG c B σ T K) : ∀ e, e < g_ev T → zI σ 133 (k_ea K e) = nI (g_va T e) := h.2.2.2.2.2.2.2.2.2.2.2.2.2.2.2.2.2.2.2.2.2.2.2.2.2.2.2.2.2.2.2.2.2.2.2.2.2.2.1
theorem cf_es {c B : Nat} {σ : ZS} {T : TS} {K : KS} (h : cG c B σ T K) : ∀ e, e < g_ev T → zI σ 134 (k_ea K e) = nI (g_dt T e) := h.2.2.2.2.2.2.2.2.2.2.2.2.2.2.2.2.2.2.2.2.2.2.2.2.2.2.2.2.2.2.2.2.2.2.2.2.2.2.2.1
theorem cf_ei {c B : Nat} {σ : ZS} {T : TS} {K : KS} (h : cG c B σ T K) : ∀ e, e < g_ev T → zI σ 135 (k_ea K e) = bI (g_ti T e) := h.2.2.2.2.2.2.2.2.2.2.2.2.2.2.2.2.2.2.2.2.2.2.2.2.2.2.2.2.2.2.2.2.2.2.2.2.2.2.2.2.1
theorem cf_el {c B : Nat} {σ : ZS} {T : TS} {K : KS} (h : cG c B σ T K) : ∀ e, e < g_ev T → zI σ 136 (k_ea K e) = nI (k_pl K e) := h.2.2.2.2.2.2.2.2.2.2.2.2.2.2.2.2.2.2.2.2.2.2.2.2.2.2.2.2.2.2.2.2.2.2.2.2.2.2.2.2.2.1
theorem cf_eb {c B : Nat} {σ : ZS} {T : TS} {K : KS} (h : cG c B σ T K) : ∀ e, e < g_ev T → zL σ 137 (k_ea K e) = lN (k_bg K e) := h.2.2.2.2.2.2.2.2.2.2.2.2.2.2.2.2.2.2.2.2.2.2.2.2.2.2.2.2.2.2.2.2.2.2.2.2.2.2.2.2.2.2.1
theorem cf_ez {c B : Nat} {σ : ZS} {T : TS} {K : KS} (h : cG c B σ T K) : ∀ e, e < g_ev T → zL σ 138 (k_ea K e) = lN (k_ls K e) := h.2.2.2.2.2.2.2.2.2.2.2.2.2.2.2.2.2.2.2.2.2.2.2.2.2.2.2.2.2.2.2.2.2.2.2.2.2.2.2.2.2.2.2.1
theorem cf_pi {c B : Nat} {σ : ZS} {T : TS} {K : KS} (h : cG c B σ T K) : ∀ e j, e < g_ev T → j < g_pn T e → zi σ (k_ea K e + 1) j = g_pi T e j := h.2.2.2.2.2.2.2.2.2.2.2.2.2.2.2.2.2.2.2.2.2.2.2.2.2.2.2.2.2.2.2.2.2.2.2.2.2.2.2.2.2.2.2.2.1
theorem cf_ta {c B : Nat} {σ : ZS} {T : TS} {K : KS} (h : cG c B σ T K) : ∀ t, t < g_te T → zr σ (c + 5) t = if g_tt T t = true then some (k_ta K t) else none := h.2.2.2.2.2.2.2.2.2.2.2.2.2.2.2.2.2.2.2.2.2.2.2.2.2.2.2.2.2.2.2.2.2.2.2.2.2.2.2.2.2.2.2.2.2.1
theorem cf_tq {c B : Nat} {σ : ZS} {T : TS} {K : KS} (h : cG c B σ T K) : ∀ t, t < g_te T → zI σ 576 (k_ta K t) = nI t := h.2.2.2.2.2.2.2.2.2.2.2.2.2.2.2.2.2.2.2.2.2.2.2.2.2.2.2.2.2.2.2.2.2.2.2.2.2.2.2.2.2.2.2.2.2.2.1
theorem cf_to {c B : Nat} {σ : ZS} {T : TS} {K : KS} (h : cG c B σ T K) : ∀ t, t < g_te T → g_tt T t = true → zR σ 577 (k_ta K t) = some (k_va K (g_tv T t)) := h.2.2.2.2.2.2.2.2.2.2.2.2.2.2.2.2.2.2.2.2.2.2.2.2.2.2.2.2.2.2.2.2.2.2.2.2.2.2.2.2.2.2.2.2.2.2.2.1
theorem cf_t1 {c B : Nat} {σ : ZS} {T : TS} {K : KS} (h : cG c B σ T K) : ∀ t, t < g_te T → zI σ 578 (k_ta K t) = nI (k_t1 K t) := h.2.2.2.2.2.2.2.2.2.2.2.2.2.2.2.2.2.2.2.2.2.2.2.2.2.2.2.2.2.2.2.2.2.2.2.2.2.2.2.2.2.2.2.2.2.2.2.2.1
theorem cf_t2 {c B : Nat} {σ : ZS} {T : TS} {K : KS} (h : cG c B σ T K) : ∀ t, t < g_te T → zI σ 579 (k_ta K t) = nI (k_tk K t) := h.2.2.2.2.2.2.2.2.2.2.2.2.2.2.2.2.2.2.2.2.2.2.2.2.2.2.2.2.2.2.2.2.2.2.2.2.2.2.2.2.2.2.2.2.2.2.2.2.2.1
theorem cf_tn {c B : Nat} {σ : ZS} {T : TS} {K : KS} (h : cG c B σ T K) : ∀ t, t < g_te T → zI σ 580 (k_ta K t) = nI (g_tn T t) := h.2.2.2.2.2.2.2.2.2.2.2.2.2.2.2.2.2.2.2.2.2.2.2.2.2.2.2.2.2.2.2.2.2.2.2.2.2.2.2.2.2.2.2.2.2.2.2.2.2.2.1
theorem cf_tm {c B : Nat} {σ : ZS} {T : TS} {K : KS} (h : cG c B σ T K) : ∀ t, t < g_te T → zI σ 581 (k_ta K t) = nI (g_tm T t) := h.2.2.2.2.2.2.2.2.2.2.2.2.2.2.2.2.2.2.2.2.2.2.2.2.2.2.2.2.2.2.2.2.2.2.2.2.2.2.2.2.2.2.2.2.2.2.2.2.2.2.2.1
theorem cf_tu {c B : Nat} {σ : ZS} {T : TS} {K : KS} (h : cG c B σ T K) : ∀ t, t < g_te T → zI σ 582 (k_ta K t) = nI (g_tu T t) := h.2.2.2.2.2.2.2.2.2.2.2.2.2.2.2.2.2.2.2.2.2.2.2.2.2.2.2.2.2.2.2.2.2.2.2.2.2.2.2.2.2.2.2.2.2.2.2.2.2.2.2.2.1
theorem cf_la {c B : Nat} {σ : ZS} {T : TS} {K : KS} (h : cG c B σ T K) : ∀ l, l < g_le T → zr σ (c + 6) l = if g_lt T l = true then some (k_la K l) else none := h.2.2.2.2.2.2.2.2.2.2.2.2.2.2.2.2.2.2.2.2.2.2.2.2.2.2.2.2.2.2.2.2.2.2.2.2.2.2.2.2.2.2.2.2.2.2.2.2.2.2.2.2.2.1
theorem cf_lj {c B : Nat} {σ : ZS} {T : TS} {K : KS} (h : cG c B σ T K) : ∀ l, l < g_le T → zI σ 256 (k_la K l) = nI (g_lk T l) := h.2.2.2.2.2.2.2.2.2.2.2.2.2.2.2.2.2.2.2.2.2.2.2.2.2.2.2.2.2.2.2.2.2.2.2.2.2.2.2.2.2.2.2.2.2.2.2.2.2.2.2.2.2.2.1
theorem cf_lf {c B : Nat} {σ : ZS} {T : TS} {K : KS} (h : cG c B σ T K) : ∀ l, l < g_le T → g_lt T l = true → zR σ 257 (k_la K l) = some (k_ea K (g_lf T l)) := h.2.2.2.2.2.2.2.2.2.2.2.2.2.2.2.2.2.2.2.2.2.2.2.2.2.2.2.2.2.2.2.2.2.2.2.2.2.2.2.2.2.2.2.2.2.2.2.2.2.2.2.2.2.2.2.1
theorem cf_lo {c B : Nat} {σ : ZS} {T : TS} {K : KS} (h : cG c B σ T K) : ∀ l, l < g_le T → g_lt T l = true → zR σ 258 (k_la K l) = (g_lo T l).map (k_ea K) := h.2.2.2.2.2.2.2.2.2.2.2.2.2.2.2.2.2.2.2.2.2.2.2.2.2.2.2.2.2.2.2.2.2.2.2.2.2.2.2.2.2.2.2.2.2.2.2.2.2.2.2.2.2.2.2.2.1
theorem cf_wr {c B : Nat} {σ : ZS} {T : TS} {K : KS} (h : cG c B σ T K) : ∀ i, i < g_wm T → zi σ (c + 7) i = nI (g_wr T i) := h.2.2.2.2.2.2.2.2.2.2.2.2.2.2.2.2.2.2.2.2.2.2.2.2.2.2.2.2.2.2.2.2.2.2.2.2.2.2.2.2.2.2.2.2.2.2.2.2.2.2.2.2.2.2.2.2.2.1
theorem cf_fi {c B : Nat} {σ : ZS} {T : TS} {K : KS} (h : cG c B σ T K) : ∀ i, i < 300 → zi σ (c + 8) i = g_fi T i := h.2.2.2.2.2.2.2.2.2.2.2.2.2.2.2.2.2.2.2.2.2.2.2.2.2.2.2.2.2.2.2.2.2.2.2.2.2.2.2.2.2.2.2.2.2.2.2.2.2.2.2.2.2.2.2.2.2.2.1
theorem cf_fa {c B : Nat} {σ : ZS} {T : TS} {K : KS} (h : cG c B σ T K) : ∀ i, i < 5 → zi σ (c + 11) i = g_fa T i := h.2.2.2.2.2.2.2.2.2.2.2.2.2.2.2.2.2.2.2.2.2.2.2.2.2.2.2.2.2.2.2.2.2.2.2.2.2.2.2.2.2.2.2.2.2.2.2.2.2.2.2.2.2.2.2.2.2.2.2.1
theorem cf_ra {c B : Nat} {σ : ZS} {T : TS} {K : KS} (h : cG c B σ T K) : ∀ r, r < 4 → zr σ (c + 9) r = if g_hr T r = true then some (k_wa K r) else none := h.2.2.2.2.2.2.2.2.2.2.2.2.2.2.2.2.2.2.2.2.2.2.2.2.2.2.2.2.2.2.2.2.2.2.2.2.2.2.2.2.2.2.2.2.2.2.2.2.2.2.2.2.2.2.2.2.2.2.2.2.1
theorem cf_sa {c B : Nat} {σ : ZS} {T : TS} {K : KS} (h : cG c B σ T K) : ∀ r, r < 4 → zr σ (c + 10) r = if g_hs T r = true then some (k_wa K (r + 4)) else none := h.2.2.2.2.2.2.2.2.2.2.2.2.2.2.2.2.2.2.2.2.2.2.2.2.2.2.2.2.2.2.2.2.2.2.2.2.2.2.2.2.2.2.2.2.2.2.2.2.2.2.2.2.2.2.2.2.2.2.2.2.2.1
theorem cf_rd {c B : Nat} {σ : ZS} {T : TS} {K : KS} (h : cG c B σ T K) : ∀ r, r < 4 → g_hr T r = true → zI σ 512 (k_wa K r) = nI (g_rk T r) := h.2.2.2.2.2.2.2.2.2.2.2.2.2.2.2.2.2.2.2.2.2.2.2.2.2.2.2.2.2.2.2.2.2.2.2.2.2.2.2.2.2.2.2.2.2.2.2.2.2.2.2.2.2.2.2.2.2.2.2.2.2.2.1
theorem cf_sd {c B : Nat} {σ : ZS} {T : TS} {K : KS} (h : cG c B σ T K) : ∀ r, r < 4 → g_hs T r = true → zI σ 512 (k_wa K (r + 4)) = nI (g_sk T r) := h.2.2.2.2.2.2.2.2.2.2.2.2.2.2.2.2.2.2.2.2.2.2.2.2.2.2.2.2.2.2.2.2.2.2.2.2.2.2.2.2.2.2.2.2.2.2.2.2.2.2.2.2.2.2.2.2.2.2.2.2.2.2.2.1
theorem cf_rt {c B : Nat} {σ : ZS} {T : TS} {K : KS} (h : cG c B σ T K) : ∀ r, r < 4 → g_hr T r = true → zR σ 513 (k_wa K r) = some (k_wa K r + 1) := h.2.2.2.2.2.2.2.2.2.2.2.2.2.2.2.2.2.2.2.2.2.2.2.2.2.2.2.2.2.2.2.2.2.2.2.2.2.2.2.2.2.2.2.2.2.2.2.2.2.2.2.2.2.2.2.2.2.2.2.2.2.2.2.2.1
theorem cf_st {c B : Nat} {σ : ZS} {T : TS} {K : KS} (h : cG c B σ T K) : ∀ r, r < 4 → g_hs T r = true → zR σ 513 (k_wa K (r + 4)) = some (k_wa K (r + 4) + 1) := h.2.2.2.2.2.2.2.2.2.2.2.2.2.2.2.2.2.2.2.2.2.2.2.2.2.2.2.2.2.2.2.2.2.2.2.2.2.2.2.2.2.2.2.2.2.2.2.2.2.2.2.2.2.2.2.2.2.2.2.2.2.2.2.2.2.1
theorem cf_rr {c B : Nat} {σ : ZS} {T : TS} {K : KS} (h : cG c B σ T K) : ∀ r j, r < 4 → g_hr T r = true → j < g_rs T r → zi σ (k_wa K r + 1) j = oI (g_rr T r j) := h.2.2.2.2.2.2.2.2.2.2.2.2.2.2.2.2.2.2.2.2.2.2.2.2.2.2.2.2.2.2.2.2.2.2.2.2.2.2.2.2.2.2.2.2.2.2.2.2.2.2.2.2.2.2.2.2.2.2.2.2.2.2.2.2.2.2.1
theorem cf_sr {c B : Nat} {σ : ZS} {T : TS} {K : KS} (h : cG c B σ T K) : ∀ r j, r < 4 → g_hs T r = true → j < g_ss T r → zi σ (k_wa K (r + 4) + 1) j = g_sr T r j := h.2.2.2.2.2.2.2.2.2.2.2.2.2.2.2.2.2.2.2.2.2.2.2.2.2.2.2.2.2.2.2.2.2.2.2.2.2.2.2.2.2.2.2.2.2.2.2.2.2.2.2.2.2.2.2.2.2.2.2.2.2.2.2.2.2.2.2
def zag (B : Nat) (σ τ : ZS) : Prop := zn σ ≤ zn τ ∧ ∀ a, a < B → zk τ a = zk σ a ∧ (∀ f, zI τ f a = zI σ f a) ∧ (∀ f, zL τ f a = zL σ f a) ∧ (∀ f, zR τ f a = zR σ f a) ∧ (∀ j, zi τ a j = zi σ a j) ∧ (∀ j, zl τ a j = zl σ a j) ∧ (∀ j, zr τ a j = zr σ a j)
theorem ag_k {B a : Nat} {σ τ : ZS} (h : zag B σ τ) (ha : a < B) : zk τ a = zk σ a := (h.2 a ha).1
theorem ag_zI {B a : Nat} {σ τ : ZS} (h : zag B σ τ) (ha : a < B) (f : Nat) : zI τ f a = zI σ f a := (h.2 a ha).2.1 f
theorem ag_zL {B a : Nat} {σ τ : ZS} (h : zag B σ τ) (ha : a < B) (f : Nat) : zL τ f a = zL σ f a := (h.2 a ha).2.2.1 f
theorem ag_zR {B a : Nat} {σ τ : ZS} (h : zag B σ τ) (ha : a < B) (f : Nat) : zR τ f a = zR σ f a := (h.2 a ha).2.2.2.1 f
theorem ag_zi {B a : Nat} {σ τ : ZS} (h : zag B σ τ) (ha : a < B) (f : Nat) : zi τ a f = zi σ a f := (h.2 a ha).2.2.2.2.1 f
theorem ag_zl {B a : Nat} {σ τ : ZS} (h : zag B σ τ) (ha : a < B) (f : Nat) : zl τ a f = zl σ a f := (h.2 a ha).2.2.2.2.2.1 f
theorem ag_zr {B a : Nat} {σ τ : ZS} (h : zag B σ τ) (ha : a < B) (f : Nat) : zr τ a f = zr σ a f := (h.2 a ha).2.2.2.2.2.2 f
theorem zag_rf {B : Nat} {σ : ZS} : zag B σ σ := ⟨Nat.le_refl _, fun _ _ => ⟨rfl, fun _ => rfl, fun _ => rfl, fun _ => rfl, fun _ => rfl, fun _ => rfl, fun _ => rfl⟩⟩
theorem zag_tr {B : Nat} {σ τ υ : ZS} (h : zag B σ τ) (g : zag B τ υ) : zag B σ υ := ⟨Nat.le_trans h.1 g.1, fun a ha => ⟨(ag_k g ha).trans (ag_k h ha), fun f => (ag_zI g ha f).trans (ag_zI h ha f), fun f => (ag_zL g ha f).trans (ag_zL h ha f), fun f => (ag_zR g ha f).trans (ag_zR h ha f), fun f => (ag_zi g ha f).trans (ag_zi h ha f), fun f => (ag_zl g ha f).trans (ag_zl h ha f), fun f => (ag_zr g ha f).trans (ag_zr h ha f)⟩⟩
theorem z2_ne1 {α : Type} {f : Nat → Nat → α} {i a j b : Nat} {v : α} (h : j ≠ i) : z2 f i a v j b = f j b := if_neg (fun z => h z.1)
theorem z2_ne2 {α : Type} {f : Nat → Nat → α} {i a j b : Nat} {v : α} (h : b ≠ a) : z2 f i a v j b = f j b := if_neg (fun z => h z.2)
theorem zag_new {B : Nat} {σ : ZS} {k : Nat × Nat} (h : B ≤ zn σ) : zag B σ (zNew σ k) := ⟨by show zn σ ≤ zn σ + 1; omega, fun a ha => by
  have hn : a ≠ zn σ := by omega
  exact ⟨if_neg hn, fun _ => if_neg hn, fun _ => if_neg hn, fun _ => if_neg hn, fun _ => if_neg hn, fun _ => if_neg hn, fun _ => if_neg hn⟩⟩
theorem zag_pI {B f a : Nat} {σ : ZS} {v : Int32} (h : B ≤ a) : zag B σ (pI σ f a v) := ⟨Nat.le_refl _, fun b hb => ⟨rfl, fun _ => z2_ne2 (by omega), fun _ => rfl, fun _ => rfl, fun _ => rfl, fun _ => rfl, fun _ => rfl⟩⟩
theorem zag_pL {B f a : Nat} {σ : ZS} {v : Int64} (h : B ≤ a) : zag B σ (pL σ f a v) := ⟨Nat.le_refl _, fun b hb => ⟨rfl, fun _ => rfl, fun _ => z2_ne2 (by omega), fun _ => rfl, fun _ => rfl, fun _ => rfl, fun _ => rfl⟩⟩
theorem zag_pR {B f a : Nat} {σ : ZS} {v : Option Nat} (h : B ≤ a) : zag B σ (pR σ f a v) := ⟨Nat.le_refl _, fun b hb => ⟨rfl, fun _ => rfl, fun _ => rfl, fun _ => z2_ne2 (by omega), fun _ => rfl, fun _ => rfl, fun _ => rfl⟩⟩
theorem zag_qi {B f a : Nat} {σ : ZS} {v : Int32} (h : B ≤ a) : zag B σ (qi σ a f v) := ⟨Nat.le_refl _, fun b hb => ⟨rfl, fun _ => rfl, fun _ => rfl, fun _ => rfl, fun _ => z2_ne1 (by omega), fun _ => rfl, fun _ => rfl⟩⟩
theorem zag_ql {B f a : Nat} {σ : ZS} {v : Int64} (h : B ≤ a) : zag B σ (ql σ a f v) := ⟨Nat.le_refl _, fun b hb => ⟨rfl, fun _ => rfl, fun _ => rfl, fun _ => rfl, fun _ => rfl, fun _ => z2_ne1 (by omega), fun _ => rfl⟩⟩
theorem zag_qr {B f a : Nat} {σ : ZS} {v : Option Nat} (h : B ≤ a) : zag B σ (qr σ a f v) := ⟨Nat.le_refl _, fun b hb => ⟨rfl, fun _ => rfl, fun _ => rfl, fun _ => rfl, fun _ => rfl, fun _ => rfl, fun _ => z2_ne1 (by omega)⟩⟩
theorem cG_ag {c B : Nat} {σ τ : ZS} {T : TS} {K : KS} (ag : zag B σ τ) (h : cG c B σ T K) : cG c B τ T K := ⟨⟨(ag_k ag (by have := (cf_B h).1; omega)).trans (cf_sh h).1, fun q hq => by
  have hb : c + q.2.1 < B := by
    have h1 : q.2.1 ≤ 11 := by
      have h2 : cTab.all (fun q => decide (q.2.1 ≤ 11)) = true := rfl
      exact of_decide_eq_true (List.all_eq_true.mp h2 q hq)
    have := (cf_B h).1
    omega
  exact ⟨(ag_zR ag (by omega) _).trans ((cf_sh h).2 q hq).1, (ag_k ag hb).trans ((cf_sh h).2 q hq).2⟩⟩,
  ⟨(cf_B h).1, Nat.le_trans (cf_B h).2 ag.1⟩,
  cf_bd h,
  (fun i q0 => ⟨(ag_k ag (cf_pk h i q0).2.2).trans (cf_pk h i q0).1, (cf_pk h i q0).2⟩),
  (fun v q0 => ⟨(ag_k ag (Nat.lt_of_succ_lt (cf_vk h v q0).2.2.2)).trans (cf_vk h v q0).1, (ag_k ag (cf_vk h v q0).2.2.2).trans (cf_vk h v q0).2.1, (cf_vk h v q0).2.2⟩),
  (fun e q0 => ⟨(ag_k ag (Nat.lt_of_succ_lt (cf_ek h e q0).2.2.2)).trans (cf_ek h e q0).1, (ag_k ag (cf_ek h e q0).2.2.2).trans (cf_ek h e q0).2.1, (cf_ek h e q0).2.2⟩),
  (fun t q0 => ⟨(ag_k ag (cf_tk h t q0).2.2).trans (cf_tk h t q0).1, (cf_tk h t q0).2⟩),
  (fun l q0 => ⟨(ag_k ag (cf_lk h l q0).2.2).trans (cf_lk h l q0).1, (cf_lk h l q0).2⟩),
  (fun r q0 q1 => ⟨(ag_k ag (Nat.lt_of_succ_lt (cf_rk h r q0 q1).2.2.2)).trans (cf_rk h r q0 q1).1, (ag_k ag (cf_rk h r q0 q1).2.2.2).trans (cf_rk h r q0 q1).2.1, (cf_rk h r q0 q1).2.2⟩),
  (fun r q0 q1 => ⟨(ag_k ag (Nat.lt_of_succ_lt (cf_sk h r q0 q1).2.2.2)).trans (cf_sk h r q0 q1).1, (ag_k ag (cf_sk h r q0 q1).2.2.2).trans (cf_sk h r q0 q1).2.1, (cf_sk h r q0 q1).2.2⟩),
  cf_pai h,
  cf_lai h,
  cf_wai h,
  ((ag_zI ag (by have := (cf_B h).1; omega) _).trans (cf_np h)),
  ((ag_zI ag (by have := (cf_B h).1; omega) _).trans (cf_nb h)),
  ((ag_zI ag (by have := (cf_B h).1; omega) _).trans (cf_ev h)),
  ((ag_zI ag (by have := (cf_B h).1; omega) _).trans (cf_te h)),
  ((ag_zI ag (by have := (cf_B h).1; omega) _).trans (cf_le h)),
  ((ag_zI ag (by have := (cf_B h).1; omega) _).trans (cf_wm h)),
  ((ag_zI ag (by have := (cf_B h).1; omega) _).trans (cf_fo h)),
  ((ag_zI ag (by have := (cf_B h).1; omega) _).trans (cf_su h)),
  (fun i q0 => (ag_zr ag (show c + 1 < B by have := (cf_B h).1; omega) _).trans (cf_pa h i q0)),
  (fun i q0 => (ag_zL ag (cf_pk h i q0).2.2 _).trans (cf_pas h i q0)),
  (fun v q0 => (ag_zr ag (show c + 2 < B by have := (cf_B h).1; omega) _).trans (cf_va h v q0)),
  (fun v q0 => (ag_zI ag (Nat.lt_of_succ_lt (cf_vk h v q0).2.2.2) _).trans (cf_vn h v q0)),
  (fun v q0 => (ag_zR ag (Nat.lt_of_succ_lt (cf_vk h v q0).2.2.2) _).trans (cf_vi h v q0)),
  (fun v q0 => (ag_zR ag (Nat.lt_of_succ_lt (cf_vk h v q0).2.2.2) _).trans (cf_ve h v q0)),
  (fun v q0 => (ag_zI ag (Nat.lt_of_succ_lt (cf_vk h v q0).2.2.2) _).trans (cf_vs h v q0)),
  (fun v q0 => (ag_zI ag (Nat.lt_of_succ_lt (cf_vk h v q0).2.2.2) _).trans (cf_vw h v q0)),
  (fun v q0 => (ag_zL ag (Nat.lt_of_succ_lt (cf_vk h v q0).2.2.2) _).trans (cf_vl h v q0)),
  (fun v p q0 q1 => (ag_zr ag (cf_vk h v q0).2.2.2 _).trans (cf_ro h v p q0 q1)),
  (fun b q0 => (ag_zl ag (show c + 3 < B by have := (cf_B h).1; omega) _).trans (cf_be h b q0)),
  (fun e q0 => (ag_zr ag (show c + 4 < B by have := (cf_B h).1; omega) _).trans (cf_ea h e q0)),
  (fun e q0 => (ag_zI ag (Nat.lt_of_succ_lt (cf_ek h e q0).2.2.2) _).trans (cf_en h e q0)),
  (fun e q0 => (ag_zR ag (Nat.lt_of_succ_lt (cf_ek h e q0).2.2.2) _).trans (cf_eo h e q0)),
  (fun e q0 => (ag_zI ag (Nat.lt_of_succ_lt (cf_ek h e q0).2.2.2) _).trans (cf_ed h e q0)),
  (fun e q0 => (ag_zR ag (Nat.lt_of_succ_lt (cf_ek h e q0).2.2.2) _).trans (cf_ep h e q0)),
  (fun e q0 => (ag_zI ag (Nat.lt_of_succ_lt (cf_ek h e q0).2.2.2) _).trans (cf_ec h e q0)),
  (fun e q0 => (ag_zI ag (Nat.lt_of_succ_lt (cf_ek h e q0).2.2.2) _).trans (cf_et h e q0)),
  (fun e q0 => (ag_zI ag (Nat.lt_of_succ_lt (cf_ek h e q0).2.2.2) _).trans (cf_es h e q0)),
  (fun e q0 => (ag_zI ag (Nat.lt_of_succ_lt (cf_ek h e q0).2.2.2) _).trans (cf_ei h e q0)),
  (fun e q0 => (ag_zI ag (Nat.lt_of_succ_lt (cf_ek h e q0).2.2.2) _).trans (cf_el h e q0)),
  (fun e q0 => (ag_zL ag (Nat.lt_of_succ_lt (cf_ek h e q0).2.2.2) _).trans (cf_eb h e q0)),
  (fun e q0 => (ag_zL ag (Nat.lt_of_succ_lt (cf_ek h e q0).2.2.2) _).trans (cf_ez h e q0)),
  (fun e j q0 q1 => (ag_zi ag (cf_ek h e q0).2.2.2 _).trans (cf_pi h e j q0 q1)),
  (fun t q0 => (ag_zr ag (show c + 5 < B by have := (cf_B h).1; omega) _).trans (cf_ta h t q0)),
  (fun t q0 => (ag_zI ag (cf_tk h t q0).2.2 _).trans (cf_tq h t q0)),
  (fun t q0 q1 => (ag_zR ag (cf_tk h t q0).2.2 _).trans (cf_to h t q0 q1)),
  (fun t q0 => (ag_zI ag (cf_tk h t q0).2.2 _).trans (cf_t1 h t q0)),
  (fun t q0 => (ag_zI ag (cf_tk h t q0).2.2 _).trans (cf_t2 h t q0)),
  (fun t q0 => (ag_zI ag (cf_tk h t q0).2.2 _).trans (cf_tn h t q0)),
  (fun t q0 => (ag_zI ag (cf_tk h t q0).2.2 _).trans (cf_tm h t q0)),
  (fun t q0 => (ag_zI ag (cf_tk h t q0).2.2 _).trans (cf_tu h t q0)),
  (fun l q0 => (ag_zr ag (show c + 6 < B by have := (cf_B h).1; omega) _).trans (cf_la h l q0)),
  (fun l q0 => (ag_zI ag (cf_lk h l q0).2.2 _).trans (cf_lj h l q0)),
  (fun l q0 q1 => (ag_zR ag (cf_lk h l q0).2.2 _).trans (cf_lf h l q0 q1)),
  (fun l q0 q1 => (ag_zR ag (cf_lk h l q0).2.2 _).trans (cf_lo h l q0 q1)),
  (fun i q0 => (ag_zi ag (show c + 7 < B by have := (cf_B h).1; omega) _).trans (cf_wr h i q0)),
  (fun i q0 => (ag_zi ag (show c + 8 < B by have := (cf_B h).1; omega) _).trans (cf_fi h i q0)),
  (fun i q0 => (ag_zi ag (show c + 11 < B by have := (cf_B h).1; omega) _).trans (cf_fa h i q0)),
  (fun r q0 => (ag_zr ag (show c + 9 < B by have := (cf_B h).1; omega) _).trans (cf_ra h r q0)),
  (fun r q0 => (ag_zr ag (show c + 10 < B by have := (cf_B h).1; omega) _).trans (cf_sa h r q0)),
  (fun r q0 q1 => (ag_zI ag (Nat.lt_of_succ_lt (cf_rk h r q0 q1).2.2.2) _).trans (cf_rd h r q0 q1)),
  (fun r q0 q1 => (ag_zI ag (Nat.lt_of_succ_lt (cf_sk h r q0 q1).2.2.2) _).trans (cf_sd h r q0 q1)),
  (fun r q0 q1 => (ag_zR ag (Nat.lt_of_succ_lt (cf_rk h r q0 q1).2.2.2) _).trans (cf_rt h r q0 q1)),
  (fun r q0 q1 => (ag_zR ag (Nat.lt_of_succ_lt (cf_sk h r q0 q1).2.2.2) _).trans (cf_st h r q0 q1)),
  (fun r j q0 q1 q2 => (ag_zi ag (cf_rk h r q0 q1).2.2.2 _).trans (cf_rr h r j q0 q1 q2)),
  (fun r j q0 q1 q2 => (ag_zi ag (cf_sk h r q0 q1).2.2.2 _).trans (cf_sr h r j q0 q1 q2))⟩
theorem cG_up {c B B2 : Nat} {σ : ZS} {T : TS} {K : KS} (h : cG c B σ T K) (h1 : B ≤ B2) (h2 : B2 ≤ zn σ) : cG c B2 σ T K := ⟨cf_sh h, ⟨Nat.le_trans (cf_B h).1 h1, h2⟩, cf_bd h, (fun i q0 => by have z := cf_pk h i q0; exact ⟨z.1, z.2.1, by omega⟩), (fun v q0 => by have z := cf_vk h v q0; exact ⟨z.1, z.2.1, z.2.2.1, by omega⟩), (fun e q0 => by have z := cf_ek h e q0; exact ⟨z.1, z.2.1, z.2.2.1, by omega⟩), (fun t q0 => by have z := cf_tk h t q0; exact ⟨z.1, z.2.1, by omega⟩), (fun l q0 => by have z := cf_lk h l q0; exact ⟨z.1, z.2.1, by omega⟩), (fun r q0 q1 => by have z := cf_rk h r q0 q1; exact ⟨z.1, z.2.1, z.2.2.1, by omega⟩), (fun r q0 q1 => by have z := cf_sk h r q0 q1; exact ⟨z.1, z.2.1, z.2.2.1, by omega⟩), cf_pai h, cf_lai h, cf_wai h, cf_np h, cf_nb h, cf_ev h, cf_te h, cf_le h, cf_wm h, cf_fo h, cf_su h, cf_pa h, cf_pas h, cf_va h, cf_vn h, cf_vi h, cf_ve h, cf_vs h, cf_vw h, cf_vl h, cf_ro h, cf_be h, cf_ea h, cf_en h, cf_eo h, cf_ed h, cf_ep h, cf_ec h, cf_et h, cf_es h, cf_ei h, cf_el h, cf_eb h, cf_ez h, cf_pi h, cf_ta h, cf_tq h, cf_to h, cf_t1 h, cf_t2 h, cf_tn h, cf_tm h, cf_tu h, cf_la h, cf_lj h, cf_lf h, cf_lo h, cf_wr h, cf_fi h, cf_fa h, cf_ra h, cf_sa h, cf_rd h, cf_sd h, cf_rt h, cf_st h, cf_rr h, cf_sr h⟩
