def fi1 (T : TS) (e : Nat) : TS := match boF T (bgF T (g_vo T e) (g_pl T e)) with
  | none => T
  | some b => if baF T (b + 1) < bgF T (g_vo T e) (g_pl T e) + tmT T e then fdT T (nI 0) (nI e) (nI b) else T
def fi2 (T : TS) (e : Nat) : TS := if g_ti T e = true ∧ tmB T e = false then fdT T (nI 1) (nI e) (-1) else T
def fi3 (T : TS) (e : Nat) : TS := if (ouF T e (g_pn T e) 0 (g_tr T)).1 = true then fdT (h_tr T (ouF T e (g_pn T e) 0 (g_tr T)).2) (nI 2) (nI e) (-1) else h_tr T (ouF T e (g_pn T e) 0 (g_tr T)).2
def fiL (T : TS) (l : Nat) : TS := match g_lo T l with
  | none => fdT T (nI 6) (nI l) (-1)
  | some e => if bgF T (g_vo T e) (g_pl T e) < bgF T (g_vo T (g_lf T l)) (g_pl T (g_lf T l)) then fdT T (nI 7) (nI l) (-1) else T
theorem tI_fd {T : TS} (hI : tI T) (a b d : Int32) (hf : g_fo T + 1 ≤ 5000) : tI (fdT T a b d) := by
  have h := tI_ct hI (F := (g_fo T + 1, (if g_fo T < 100 then va_up (va_up (va_up (g_fi T) (3 * g_fo T) a) (3 * g_fo T + 1) b) (3 * g_fo T + 2) d else g_fi T), g_tr T)) hf
  have e : cT T (g_fo T + 1, (if g_fo T < 100 then va_up (va_up (va_up (g_fi T) (3 * g_fo T) a) (3 * g_fo T + 1) b) (3 * g_fo T + 2) d else g_fi T), g_tr T) = fdT T a b d := rfl
  rw [← e]
  exact h
set_option maxHeartbeats 4000000 in
set_option maxRecDepth 100000 in
theorem e_findInEvent {c B : Nat} {σ : ZS} {T : TS} {K : KS} (hG : cG c B σ T K) (hI : tI T) (hK : kI T K) {e : Nat} (he : e < g_ev T) (hte : g_th T e = true) (hf : g_fo T ≤ 4900) : ZC M_X11_findInEvent [Ar (some c), Ar (some (k_ea K e))] σ (fun r τ => r = none ∧ ∃ f, cG c B τ (fi3 (fi2 (fi1 T e) e) e) (j_as K f) ∧ kI (fi3 (fi2 (fi1 T e) e) e) (j_as K f)) := by
  refine ZC_of (ls := [some (Ar (some c)), some (Ar (some (k_ea K e))), none]) (by decide) (Nat.le_of_ble_eq_true rfl) rfl ?_
  have h67 : ∀ (T : TS) (σ : ZS), cG c B σ T K → tI T → kI T K → e < g_ev T → g_th T e = true → g_fo T ≤ 4902 → ZV M_X11_findInEvent (fun r τ => r = none ∧ ∃ f, cG c B τ (fi3 T e) (j_as K f) ∧ kI (fi3 T e) (j_as K f)) 67 [some (Ar (some c)), some (Ar (some (k_ea K e))), none] [] σ (zmC M_X11_findInEvent) (zmS M_X11_findInEvent) := by
    intro T σ hG hI hK he hte hf
    refine ZV_aload_n (n := 68) dX11_findInEvent_67 rfl rfl rfl ?_
    refine ZV_aload_n (n := 69) dX11_findInEvent_68 rfl rfl rfl ?_
    refine call_X11_487 (e_isOutOfRange hG hI hK he hte) rfl dX11_findInEvent_69 rfl (cf_sh hG :).1 (Nat.le_of_ble_eq_true rfl) (Nat.le_of_ble_eq_true rfl) rfl (fun r9 σ9 hp9 => ?_)
    obtain ⟨rfl, f9, hG, hK⟩ := hp9
    refine ZV_if_eqB (tgt := 85) (n := 75) dX11_findInEvent_72 (by decide) rfl (fun h72 => ?_) (fun h72 => ?_)
    · skip
      refine ZV_vret dX11_findInEvent_85 rfl ?_
      refine ⟨rfl, f9, ?_⟩
      unfold fi3
      rw [if_neg (by rw [h72]; decide)]
      exact ⟨hG, hK⟩
    · skip
      refine ZV_aload_n (n := 76) dX11_findInEvent_75 rfl rfl rfl ?_
      refine ZV_iconst (v := nI 2) (n := 77) dX11_findInEvent_76 rfl rfl ?_
      refine ZV_aload_n (n := 78) dX11_findInEvent_77 rfl rfl rfl ?_
      refine ZV_getIv (n := 81) dX11_findInEvent_78 fl_X11_152 rfl rfl rfl (cf_ek hG e he).1 (cf_en hG e he) ?_
      refine ZV_iconst (v := -1) (n := 82) dX11_findInEvent_81 rfl rfl ?_
      refine call_X11_338 (e_addFinding hG (show g_fo T ≤ 5000 by omega) _ _ _) rfl dX11_findInEvent_82 rfl (cf_sh hG :).1 (Nat.le_of_ble_eq_true rfl) (Nat.le_of_ble_eq_true rfl) rfl (fun r9 σ9 hp9 => ?_)
      obtain ⟨rfl, hG⟩ := hp9
      refine ZV_vret dX11_findInEvent_85 rfl ?_
      refine ⟨rfl, f9, ?_⟩
      unfold fi3
      rw [if_pos h72]
      exact ⟨hG, kI_e hK ⟨rfl, rfl, rfl, rfl, rfl, rfl, rfl, rfl, rfl, rfl, rfl, rfl, rfl, rfl, rfl, rfl, rfl, rfl, rfl, rfl⟩⟩
  have h43 : ∀ (T : TS) (σ : ZS), cG c B σ T K → tI T → kI T K → e < g_ev T → g_th T e = true → g_fo T ≤ 4901 → ZV M_X11_findInEvent (fun r τ => r = none ∧ ∃ f, cG c B τ (fi3 (fi2 T e) e) (j_as K f) ∧ kI (fi3 (fi2 T e) e) (j_as K f)) 43 [some (Ar (some c)), some (Ar (some (k_ea K e))), none] [] σ (zmC M_X11_findInEvent) (zmS M_X11_findInEvent) := by
    intro T σ hG hI hK he hte hf
    refine ZV_aload_n (n := 44) dX11_findInEvent_43 rfl rfl rfl ?_
    refine ZV_getIv (n := 47) dX11_findInEvent_44 fl_X11_225 rfl rfl rfl (cf_ek hG e he).1 (cf_ei hG e he) ?_
    refine ZV_if_eqB (tgt := 67) (n := 50) dX11_findInEvent_47 (by decide) rfl (fun h47 => ?_) (fun h47 => ?_)
    · skip
      rw [show fi2 T e = T from if_neg (fun z => by rw [h47] at z; cases z.1)]
      exact h67 _ _ hG hI hK he hte (by omega)
    · skip
      refine ZV_aload_n (n := 51) dX11_findInEvent_50 rfl rfl rfl ?_
      refine call_X11_484 (e_tieIsMet hG hI hK he hte) rfl dX11_findInEvent_51 (Nat.le_of_ble_eq_true rfl) (Nat.le_of_ble_eq_true rfl) rfl (fun r9 σ9 hp9 => ?_)
      obtain ⟨rfl, hs9⟩ := hp9
      subst σ9
      refine ZV_if_neB (tgt := 67) (n := 57) dX11_findInEvent_54 (by decide) rfl (fun h54 => ?_) (fun h54 => ?_)
      · skip
        rw [show fi2 T e = T from if_neg (fun z => by rw [h54] at z; cases z.2)]
        exact h67 _ _ hG hI hK he hte (by omega)
      · skip
        refine ZV_aload_n (n := 58) dX11_findInEvent_57 rfl rfl rfl ?_
        refine ZV_iconst (v := nI 1) (n := 59) dX11_findInEvent_58 rfl rfl ?_
        refine ZV_aload_n (n := 60) dX11_findInEvent_59 rfl rfl rfl ?_
        refine ZV_getIv (n := 63) dX11_findInEvent_60 fl_X11_152 rfl rfl rfl (cf_ek hG e he).1 (cf_en hG e he) ?_
        refine ZV_iconst (v := -1) (n := 64) dX11_findInEvent_63 rfl rfl ?_
        refine call_X11_338 (e_addFinding hG (by omega) _ _ _) rfl dX11_findInEvent_64 rfl (cf_sh hG :).1 (Nat.le_of_ble_eq_true rfl) (Nat.le_of_ble_eq_true rfl) rfl (fun r9 σ9 hp9 => ?_)
        obtain ⟨rfl, hG⟩ := hp9
        rw [show fi2 T e = fdT T (nI 1) (nI e) (-1) from if_pos ⟨h47, h54⟩]
        exact h67 _ _ hG (tI_fd hI _ _ _ (by omega)) (kI_e hK ⟨rfl, rfl, rfl, rfl, rfl, rfl, rfl, rfl, rfl, rfl, rfl, rfl, rfl, rfl, rfl, rfl, rfl, rfl, rfl, rfl⟩) he hte (show g_fo T + 1 ≤ 4902 by omega)
  have hbl : bgF T (g_vo T e) (g_pl T e) < 9223372036854775808 := bg_lt hI _ _ (ti_pl hI _ he hte).1
  have hkb := ki_bg hK e he hte
  have hkl := ki_ls hK e he hte
  have hnb := ti_nb hI
  have htl := tmT_le hI e
  have hbg := bgF_le hI (g_vo T e) (g_pl T e)
  have hpl := (ti_pl hI e he hte).1
  have hmn := ti_mn hI (g_vo T e)
  rcases hbo : boF T (bgF T (g_vo T e) (g_pl T e)) with _ | b9
  · skip
    refine ZV_aload_n (n := 1) dX11_findInEvent_0 rfl rfl rfl ?_
    refine ZV_aload_n (n := 2) dX11_findInEvent_1 rfl rfl rfl ?_
    refine ZV_getLv (n := 5) dX11_findInEvent_2 fl_X11_240 rfl rfl rfl (cf_ek hG e he).1 (show _ = lN (bgF T (g_vo T e) (g_pl T e)) from (cf_eb hG e he).trans (by rw [hkb])) ?_
    refine call_X11_244 (e_barAround hG hI hK hbl) rfl dX11_findInEvent_5 rfl (cf_sh hG :).1 (Nat.le_of_ble_eq_true rfl) (Nat.le_of_ble_eq_true rfl) rfl (fun r9 σ9 hp9 => ?_)
    obtain ⟨rfl, hs9⟩ := hp9
    subst σ9
    rw [hbo]
    show ZV _ _ _ _ (Ai (-1) :: _) _ _ _
    refine ZV_istore_2 (n := 9) dX11_findInEvent_8 rfl (Nat.le_of_ble_eq_true rfl) rfl ?_
    refine ZV_iload_n (n := 10) dX11_findInEvent_9 rfl rfl rfl ?_
    refine ZV_iconst (v := -1) (n := 11) dX11_findInEvent_10 rfl rfl ?_
    refine ZV_icmp_eq (tgt := 43) (n := 14) dX11_findInEvent_11 (by decide) rfl (fun h11 => ?_) (fun h11 => ?_)
    · skip
      refine ZV_fg_2 ?_
      rw [show fi1 T e = T from by unfold fi1; rw [hbo]]
      exact h43 _ _ hG hI hK he hte (by omega)
    · skip
      exact absurd rfl h11
  · skip
    have hb9 := (boF_some hbo).2
    have hkbe := ki_be hK b9 hb9
    have hba := baF_le hI (b9 + 1) (by omega)
    refine ZV_aload_n (n := 1) dX11_findInEvent_0 rfl rfl rfl ?_
    refine ZV_aload_n (n := 2) dX11_findInEvent_1 rfl rfl rfl ?_
    refine ZV_getLv (n := 5) dX11_findInEvent_2 fl_X11_240 rfl rfl rfl (cf_ek hG e he).1 (show _ = lN (bgF T (g_vo T e) (g_pl T e)) from (cf_eb hG e he).trans (by rw [hkb])) ?_
    refine call_X11_244 (e_barAround hG hI hK hbl) rfl dX11_findInEvent_5 rfl (cf_sh hG :).1 (Nat.le_of_ble_eq_true rfl) (Nat.le_of_ble_eq_true rfl) rfl (fun r9 σ9 hp9 => ?_)
    obtain ⟨rfl, hs9⟩ := hp9
    subst σ9
    rw [hbo]
    show ZV _ _ _ _ (Ai (nI b9) :: _) _ _ _
    refine ZV_istore_2 (n := 9) dX11_findInEvent_8 rfl (Nat.le_of_ble_eq_true rfl) rfl ?_
    refine ZV_iload_n (n := 10) dX11_findInEvent_9 rfl rfl rfl ?_
    refine ZV_iconst (v := -1) (n := 11) dX11_findInEvent_10 rfl rfl ?_
    refine ZV_icmp_eq (tgt := 43) (n := 14) dX11_findInEvent_11 (by decide) rfl (fun h11 => ?_) (fun h11 => ?_)
    · skip
      exact absurd h11 (nI_ne_m1 (by omega))
    · skip
      refine ZV_aload_n (n := 15) dX11_findInEvent_14 rfl rfl rfl ?_
      refine ZV_getLv (n := 18) dX11_findInEvent_15 fl_X11_240 rfl rfl rfl (cf_ek hG e he).1 (show _ = lN (bgF T (g_vo T e) (g_pl T e)) from (cf_eb hG e he).trans (by rw [hkb])) ?_
      refine ZV_aload_n (n := 19) dX11_findInEvent_18 rfl rfl rfl ?_
      refine ZV_getLv (n := 22) dX11_findInEvent_19 fl_X11_258 rfl rfl rfl (cf_ek hG e he).1 (show _ = lN (tmT T e) from (cf_ez hG e he).trans (by rw [hkl])) ?_
      refine ZV_laddN (n := 23) dX11_findInEvent_22 rfl ?_
      refine ZV_aload_n (n := 24) dX11_findInEvent_23 rfl rfl rfl ?_
      refine ZV_getRv (n := 27) dX11_findInEvent_24 fl_X11_25 rfl rfl rfl (cf_sh hG :).1 (ca_barEnds (cf_sh hG :)) ?_
      refine ZV_iload_n (n := 28) dX11_findInEvent_27 rfl rfl rfl ?_
      refine ZV_laldv (j := b9) (n := 29) dX11_findInEvent_28 rfl rfl (ck_barEnds (cf_sh hG :)) rfl (by omega) (cf_be hG b9 (by omega)) ?_
      refine ZV_lcmp_leN (tgt := 43) (pc1 := 30) (n := 33) dX11_findInEvent_29 rfl dX11_findInEvent_30 (by decide) rfl (by omega) (by omega) (fun h29 => ?_) (fun h29 => ?_)
      · skip
        refine ZV_fg_2 ?_
        rw [show fi1 T e = T from by unfold fi1; rw [hbo]; exact if_neg (by omega)]
        exact h43 _ _ hG hI hK he hte (by omega)
      · skip
        refine ZV_aload_n (n := 34) dX11_findInEvent_33 rfl rfl rfl ?_
        refine ZV_iconst (v := nI 0) (n := 35) dX11_findInEvent_34 rfl rfl ?_
        refine ZV_aload_n (n := 36) dX11_findInEvent_35 rfl rfl rfl ?_
        refine ZV_getIv (n := 39) dX11_findInEvent_36 fl_X11_152 rfl rfl rfl (cf_ek hG e he).1 (cf_en hG e he) ?_
        refine ZV_iload_n (n := 40) dX11_findInEvent_39 rfl rfl rfl ?_
        refine call_X11_338 (e_addFinding hG (by omega) _ _ _) rfl dX11_findInEvent_40 rfl (cf_sh hG :).1 (Nat.le_of_ble_eq_true rfl) (Nat.le_of_ble_eq_true rfl) rfl (fun r9 σ9 hp9 => ?_)
        obtain ⟨rfl, hG⟩ := hp9
        refine ZV_fg_2 ?_
        rw [show fi1 T e = fdT T (nI 0) (nI e) (nI b9) from by unfold fi1; rw [hbo]; exact if_pos (by omega)]
        exact h43 _ _ hG (tI_fd hI _ _ _ (by omega)) (kI_e hK ⟨rfl, rfl, rfl, rfl, rfl, rfl, rfl, rfl, rfl, rfl, rfl, rfl, rfl, rfl, rfl, rfl, rfl, rfl, rfl, rfl⟩) he hte (show g_fo T + 1 ≤ 4901 by omega)
def cvS (T : TS) (v p : Nat) (F : FS) : FS := ce3 T v p (ce2 T v p (ce1 T v p F))
theorem fi1_ct {T : TS} (hI : tI T) {v p : Nat} (hv : v < 18) (hp : p < g_mn T v) (F : FS) : fi1 (cT T F) (g_ro T v p) = cT T (ce1 T v p F) := by
  have hr := ti_ro hI v p hv hp
  have e1 : g_vo (cT T F) (g_ro T v p) = v := hr.2.2.1
  have e2 : g_pl (cT T F) (g_ro T v p) = p := hr.2.2.2
  unfold fi1 ce1
  rw [e1, e2, boF_ct, bgF_ct, tmT_ct]
  cases boF T (bgF T v p) with
  | none => rfl
  | some b =>
    show (if baF (cT T F) (b + 1) < bgF T v p + tmT T (g_ro T v p) then _ else _) = cT T (if baF T (b + 1) < bgF T v (p + 1) then _ else _)
    rw [baF_ct, bgF]
    split
    · exact cT_fd T F _ _ _
    · rfl
theorem tmB_tw {T : TS} (hI : tI T) {v p : Nat} (hv : v < 18) (hp : p < g_mn T v) : (g_ti T (g_ro T v p) = true ∧ tmB T (g_ro T v p) = false) ↔ twB T v p = true := by
  have hr := ti_ro hI v p hv hp
  have hq := ntF_le T v (g_mn T v - (p + 1)) (p + 1)
  have hq2 : ntQ T v p ≤ g_mn T v := by unfold ntQ; omega
  unfold tmB twB
  rw [hr.2.2.1, hr.2.2.2]
  cases ht : g_ti T (g_ro T v p) with
  | false => simp
  | true =>
    have hk := ti_tied hI _ hr.1 ht
    have hn : noB T (g_ro T v p) = true := decide_eq_true hk
    rw [hn]
    by_cases h : ntQ T v p = g_mn T v
    · rw [decide_eq_true h, decide_eq_false (by omega)]
      simp
    · rw [decide_eq_false h, decide_eq_true (show ntQ T v p < g_mn T v by omega)]
      cases (noB T (g_ro T v (ntQ T v p)) && haN T (g_ro T v (ntQ T v p)) (g_ro T v p) (g_pn T (g_ro T v p))) <;> simp
theorem tmB_ct (T : TS) (F : FS) (e : Nat) : tmB (cT T F) e = tmB T e := by
  unfold tmB
  rw [haN_ct, ntQ_ct]
  rfl
theorem fi2_ct {T : TS} (hI : tI T) {v p : Nat} (hv : v < 18) (hp : p < g_mn T v) (F : FS) : fi2 (cT T F) (g_ro T v p) = cT T (ce2 T v p F) := by
  unfold fi2 ce2
  rw [tmB_ct]
  show (if g_ti T (g_ro T v p) = true ∧ tmB T (g_ro T v p) = false then _ else _) = _
  by_cases h : twB T v p = true
  · rw [if_pos h, if_pos ((tmB_tw hI hv hp).mpr h)]
    exact cT_fd T F _ _ _
  · rw [if_neg h, if_neg (fun z => h ((tmB_tw hI hv hp).mp z))]
theorem fi3_ct {T : TS} (v p : Nat) (F : FS) : fi3 (cT T F) (g_ro T v p) = cT T (ce3 T v p F) := by
  unfold fi3 ce3
  have e : ouF (cT T F) (g_ro T v p) (g_pn (cT T F) (g_ro T v p)) 0 (g_tr (cT T F)) = oR T v p F := ouF_ct T F _ _ _ _
  rw [e]
  generalize oR T v p F = R
  split
  · rw [cT_tr]
    exact cT_fd T _ _ _ _
  · exact cT_tr T F _
theorem fi_ct {T : TS} (hI : tI T) {v p : Nat} (hv : v < 18) (hp : p < g_mn T v) (F : FS) : fi3 (fi2 (fi1 (cT T F) (g_ro T v p)) (g_ro T v p)) (g_ro T v p) = cT T (cvS T v p F) := by
  rw [fi1_ct hI hv hp, fi2_ct hI hv hp, fi3_ct]
  rfl
theorem e_findInEventC {c B : Nat} {σ : ZS} {T : TS} {F : FS} {K : KS} (hG : cG c B σ (cT T F) K) (hI : tI T) (hK : kI (cT T F) K) (hF : F.1 ≤ 4900) {v p : Nat} (hv : v < 3 * g_np T) (hp : p < g_mn T v) : ZC M_X11_findInEvent [Ar (some c), Ar (some (k_ea K (g_ro T v p)))] σ (fun r τ => r = none ∧ ∃ f, cG c B τ (cT T (cvS T v p F)) (j_as K f) ∧ kI (cT T (cvS T v p F)) (j_as K f)) := by
  have hnp := ti_np hI
  have hv18 : v < 18 := by omega
  have hr := ti_ro hI v p hv18 hp
  have h := e_findInEvent hG (tI_ct hI (by omega)) hK (e := g_ro T v p) hr.1 hr.2.1 hF
  rw [fi_ct hI hv18 hp] at h
  exact h
def cv4 (T : TS) (v : Nat) (F : FS) : FS := if 0 < g_mn T v ∧ baF T (g_nb T) < bgF T v (g_mn T v) then fdF F (nI 4) (nI v) (-1) else F
set_option maxHeartbeats 4000000 in
set_option maxRecDepth 100000 in
theorem e_findInVoice {c B : Nat} {σ : ZS} {T : TS} {F : FS} {K : KS} (hG : cG c B σ (cT T F) K) (hI : tI T) (hK : kI (cT T F) K) (hF : F.1 ≤ 4000) {v : Nat} (hv : v < 3 * g_np T) : ZC M_X11_findInVoice [Ar (some c), Ar (some (k_va K v))] σ (fun r τ => r = none ∧ ∃ f, cG c B τ (cT T (cvF T v F)) (j_as K f) ∧ kI (cT T (cvF T v F)) (j_as K f)) := by
  have hmn := ti_mn hI v
  have hnp := ti_np hI
  have hnb := ti_nb hI
  have hba := baF_le hI (g_nb T) (Nat.le_refl _)
  have hbv := bgF_le hI v (g_mn T v)
  refine ZC_of (ls := [some (Ar (some c)), some (Ar (some (k_va K v))), none]) (by decide) (Nat.le_of_ble_eq_true rfl) rfl ?_
  have h59 : ∀ (F : FS) (f : Nat → Int64) (τ : ZS), F.1 ≤ 4900 → cG c B τ (cT T F) (j_as K f) → kI (cT T F) (j_as K f) → ZV M_X11_findInVoice (fun r τ => r = none ∧ ∃ f, cG c B τ (cT T (cv4 T v F)) (j_as K f) ∧ kI (cT T (cv4 T v F)) (j_as K f)) 59 [some (Ar (some c)), some (Ar (some (k_va K v))), none] [] τ (zmC M_X11_findInVoice) (zmS M_X11_findInVoice) := by
    intro F f τ hF hG hK
    refine ZV_aload_n (n := 60) dX11_findInVoice_59 rfl rfl rfl ?_
    refine ZV_getIv (n := 63) dX11_findInVoice_60 fl_X11_116 rfl rfl rfl (cf_vk hG v hv).1 (show _ = nI (g_mn T v) from (cf_vs hG v hv :)) ?_
    refine ZV_if_leN (tgt := 92) (n := 66) dX11_findInVoice_63 (by decide) rfl (by omega) (fun h63 => ?_) (fun h63 => ?_)
    · skip
      refine ZV_vret dX11_findInVoice_92 rfl ?_
      refine ⟨rfl, f, ?_⟩
      rw [show cv4 T v F = F from if_neg (by omega)]
      exact ⟨hG, hK⟩
    · skip
      refine ZV_aload_n (n := 67) dX11_findInVoice_66 rfl rfl rfl ?_
      refine ZV_getLv (n := 70) dX11_findInVoice_67 fl_X11_264 rfl rfl rfl (cf_vk hG v hv).1 (show _ = lN (bgF T v (g_mn T v)) from (cf_vl hG v hv).trans (congrArg lN ((ki_vl hK v hv).trans (bgF_ct _ _ _ _)))) ?_
      refine ZV_aload_n (n := 71) dX11_findInVoice_70 rfl rfl rfl ?_
      refine ZV_aload_n (n := 72) dX11_findInVoice_71 rfl rfl rfl ?_
      refine ZV_getIv (n := 75) dX11_findInVoice_72 fl_X11_29 rfl rfl rfl (cf_sh hG :).1 (show _ = nI (g_nb T) from (cf_nb hG :)) ?_
      refine call_X11_106 (e_barBegin hG (tI_ct hI (by omega)) hK (b := g_nb T) (Nat.le_refl _)) rfl dX11_findInVoice_75 rfl (cf_sh hG :).1 (Nat.le_of_ble_eq_true rfl) (Nat.le_of_ble_eq_true rfl) rfl (fun r9 σ9 hp9 => ?_)
      obtain ⟨rfl, hs9⟩ := hp9
      subst σ9
      rw [baF_ct]
      refine ZV_lcmp_leN (tgt := 92) (pc1 := 79) (n := 82) dX11_findInVoice_78 rfl dX11_findInVoice_79 (by decide) rfl (by omega) (by omega) (fun h78 => ?_) (fun h78 => ?_)
      · skip
        refine ZV_vret dX11_findInVoice_92 rfl ?_
        refine ⟨rfl, f, ?_⟩
        rw [show cv4 T v F = F from if_neg (by omega)]
        exact ⟨hG, hK⟩
      · skip
        refine ZV_aload_n (n := 83) dX11_findInVoice_82 rfl rfl rfl ?_
        refine ZV_iconst (v := nI 4) (n := 84) dX11_findInVoice_83 rfl rfl ?_
        refine ZV_aload_n (n := 85) dX11_findInVoice_84 rfl rfl rfl ?_
        refine ZV_getIv (n := 88) dX11_findInVoice_85 fl_X11_235 rfl rfl rfl (cf_vk hG v hv).1 (cf_vn hG v hv) ?_
        refine ZV_iconst (v := -1) (n := 89) dX11_findInVoice_88 rfl rfl ?_
        refine call_X11_338 (e_addFinding hG (show F.1 ≤ 5000 by omega) _ _ _) rfl dX11_findInVoice_89 rfl (cf_sh hG :).1 (Nat.le_of_ble_eq_true rfl) (Nat.le_of_ble_eq_true rfl) rfl (fun r9 σ9 hp9 => ?_)
        obtain ⟨rfl, hG⟩ := hp9
        refine ZV_vret dX11_findInVoice_92 rfl ?_
        refine ⟨rfl, f, ?_⟩
        rw [show cv4 T v F = fdF F (nI 4) (nI v) (-1) from if_pos ⟨h63, h78⟩, ← cT_fd]
        exact ⟨hG, kI_e hK ⟨rfl, rfl, rfl, rfl, rfl, rfl, rfl, rfl, rfl, rfl, rfl, rfl, rfl, rfl, rfl, rfl, rfl, rfl, rfl, rfl⟩⟩
  have loop : ∀ (n9 : Nat) (p : Nat) (f : Nat → Int64) (τ : ZS), g_mn T v - p < n9 → p ≤ g_mn T v → cG c B τ (cT T (cvN T v F p)) (j_as K f) → kI (cT T (cvN T v F p)) (j_as K f) → ZV M_X11_findInVoice (fun r τ => r = none ∧ ∃ f, cG c B τ (cT T (cvF T v F)) (j_as K f) ∧ kI (cT T (cvF T v F)) (j_as K f)) 2 [some (Ar (some c)), some (Ar (some (k_va K v))), some (Ai (nI p))] [] τ (zmC M_X11_findInVoice) (zmS M_X11_findInVoice) := by
    intro n9
    induction n9 with
    | zero => intro p f τ hme; exact absurd hme (Nat.not_lt_zero _)
    | succ n9 ih =>
      intro p f τ hme hp hG hK
      have hN := cvN_le T v F p
      refine ZV_iload_n (n := 3) dX11_findInVoice_2 rfl rfl rfl ?_
      refine ZV_aload_n (n := 4) dX11_findInVoice_3 rfl rfl rfl ?_
      refine ZV_getIv (n := 7) dX11_findInVoice_4 fl_X11_116 rfl rfl rfl (cf_vk hG v hv).1 (show _ = nI (g_mn T v) from (cf_vs hG v hv :)) ?_
      refine ZV_icmp_geN (tgt := 26) (n := 10) dX11_findInVoice_7 (by decide) rfl (by omega) (by omega) (fun h7 => ?_) (fun h7 => ?_)
      · skip
        obtain rfl : p = g_mn T v := by omega
        refine ZV_aload_n (n := 27) dX11_findInVoice_26 rfl rfl rfl ?_
        refine ZV_getIv (n := 30) dX11_findInVoice_27 fl_X11_116 rfl rfl rfl (cf_vk hG v hv).1 (show _ = nI (g_mn T v) from (cf_vs hG v hv :)) ?_
        refine ZV_if_leN (tgt := 59) (n := 33) dX11_findInVoice_30 (by decide) rfl (by omega) (fun h30 => ?_) (fun h30 => ?_)
        · skip
          refine ZV_fg_2 ?_
          have e9 : cvF T v F = cv4 T v (cvN T v F (g_mn T v)) := by
            unfold cvF cv4
            rw [if_neg (by omega), if_neg (by omega)]
          rw [e9]
          exact h59 _ f _ (by omega) hG hK
        · skip
          refine ZV_aload_n (n := 34) dX11_findInVoice_33 rfl rfl rfl ?_
          refine ZV_getLv (n := 37) dX11_findInVoice_34 fl_X11_264 rfl rfl rfl (cf_vk hG v hv).1 (show _ = lN (bgF T v (g_mn T v)) from (cf_vl hG v hv).trans (congrArg lN ((ki_vl hK v hv).trans (bgF_ct _ _ _ _)))) ?_
          refine ZV_aload_n (n := 38) dX11_findInVoice_37 rfl rfl rfl ?_
          refine ZV_aload_n (n := 39) dX11_findInVoice_38 rfl rfl rfl ?_
          refine ZV_getIv (n := 42) dX11_findInVoice_39 fl_X11_29 rfl rfl rfl (cf_sh hG :).1 (show _ = nI (g_nb T) from (cf_nb hG :)) ?_
          refine call_X11_106 (e_barBegin hG (tI_ct hI (by omega)) hK (b := g_nb T) (Nat.le_refl _)) rfl dX11_findInVoice_42 rfl (cf_sh hG :).1 (Nat.le_of_ble_eq_true rfl) (Nat.le_of_ble_eq_true rfl) rfl (fun r9 σ9 hp9 => ?_)
          obtain ⟨rfl, hs9⟩ := hp9
          subst σ9
          rw [baF_ct]
          refine ZV_lcmp_geN (tgt := 59) (pc1 := 46) (n := 49) dX11_findInVoice_45 rfl dX11_findInVoice_46 (by decide) rfl (by omega) (by omega) (fun h45 => ?_) (fun h45 => ?_)
          · skip
            refine ZV_fg_2 ?_
            have e9 : cvF T v F = cv4 T v (cvN T v F (g_mn T v)) := by
              unfold cvF cv4
              by_cases q : baF T (g_nb T) < bgF T v (g_mn T v)
              · rw [if_pos ⟨h30, by omega⟩, if_neg (by omega), if_pos ⟨h30, q⟩]
              · rw [if_neg (by omega), if_neg (by omega)]
            rw [e9]
            exact h59 _ f _ (by omega) hG hK
          · skip
            refine ZV_aload_n (n := 50) dX11_findInVoice_49 rfl rfl rfl ?_
            refine ZV_iconst (v := nI 3) (n := 51) dX11_findInVoice_50 rfl rfl ?_
            refine ZV_aload_n (n := 52) dX11_findInVoice_51 rfl rfl rfl ?_
            refine ZV_getIv (n := 55) dX11_findInVoice_52 fl_X11_235 rfl rfl rfl (cf_vk hG v hv).1 (cf_vn hG v hv) ?_
            refine ZV_iconst (v := -1) (n := 56) dX11_findInVoice_55 rfl rfl ?_
            refine call_X11_338 (e_addFinding hG (show (cvN T v F (g_mn T v)).1 ≤ 5000 by omega) _ _ _) rfl dX11_findInVoice_56 rfl (cf_sh hG :).1 (Nat.le_of_ble_eq_true rfl) (Nat.le_of_ble_eq_true rfl) rfl (fun r9 σ9 hp9 => ?_)
            obtain ⟨rfl, hG⟩ := hp9
            refine ZV_fg_2 ?_
            rw [show cvF T v F = cv4 T v (fdF (cvN T v F (g_mn T v)) (nI 3) (nI v) (-1)) from by unfold cvF cv4; rw [if_pos ⟨h30, by omega⟩, if_pos h45, if_neg (by omega)]]
            rw [cT_fd] at hG
            exact h59 _ f _ (show (cvN T v F (g_mn T v)).1 + 1 ≤ 4900 by omega) hG (by rw [← cT_fd]; exact kI_e hK ⟨rfl, rfl, rfl, rfl, rfl, rfl, rfl, rfl, rfl, rfl, rfl, rfl, rfl, rfl, rfl, rfl, rfl, rfl, rfl, rfl⟩)
      · skip
        refine ZV_aload_n (n := 11) dX11_findInVoice_10 rfl rfl rfl ?_
        refine ZV_aload_n (n := 12) dX11_findInVoice_11 rfl rfl rfl ?_
        refine ZV_getRv (n := 15) dX11_findInVoice_12 fl_X11_224 rfl rfl rfl (cf_vk hG v hv).1 (show _ = some (k_va K v + 1) from (cf_ve hG v hv :)) ?_
        refine ZV_iload_n (n := 16) dX11_findInVoice_15 rfl rfl rfl ?_
        refine ZV_aaldv (c0 := 2) (j := p) (n := 17) dX11_findInVoice_16 rfl (by decide) rfl (cf_vk hG v hv).2.1 rfl (by omega) (show _ = some (k_ea K (g_ro T v p)) from (cf_ro hG v p hv (show p < g_mn T v by omega) :)) ?_
        refine call_X11_481 (e_findInEventC hG hI hK (by omega) hv (show p < g_mn T v by omega)) rfl dX11_findInVoice_17 rfl (cf_sh hG :).1 (Nat.le_of_ble_eq_true rfl) (Nat.le_of_ble_eq_true rfl) rfl (fun r9 σ9 hp9 => ?_)
        obtain ⟨rfl, f9, hG, hK⟩ := hp9
        refine ZV_iincN_2 (v := 1) (n := 23) dX11_findInVoice_20 rfl rfl (Nat.le_of_ble_eq_true rfl) rfl ?_
        refine ZV_goto (tgt := 2) dX11_findInVoice_23 (by decide) ?_
        exact ih (p + 1) f9 _ (by omega) (by omega) hG hK
  refine ZV_iconst (v := nI 0) (n := 1) dX11_findInVoice_0 rfl rfl ?_
  refine ZV_istore_2 (n := 2) dX11_findInVoice_1 rfl (Nat.le_of_ble_eq_true rfl) rfl ?_
  exact loop _ 0 (k_as K) σ (Nat.lt_succ_self _) (Nat.zero_le _) hG hK
set_option maxHeartbeats 4000000 in
set_option maxRecDepth 100000 in
theorem e_findInLine {c B : Nat} {σ : ZS} {T : TS} {K : KS} (hG : cG c B σ T K) (hI : tI T) (hK : kI T K) {l : Nat} (hl : l < g_le T) (hlt : g_lt T l = true) (hf : g_fo T ≤ 4900) : ZC M_X11_findInLine [Ar (some c), Ar (some (k_la K l)), Ai (nI l)] σ (fun r τ => r = none ∧ cG c B τ (fiL T l) K) := by
  have hlf := ti_lf hI l hl hlt
  have hb2 := bg_lt hI _ _ (ti_pl hI _ hlf.1 hlf.2).1
  refine ZC_of (ls := [some (Ar (some c)), some (Ar (some (k_la K l))), some (Ai (nI l))]) (by decide) (Nat.le_of_ble_eq_true rfl) rfl ?_
  refine ZV_aload_n (n := 1) dX11_findInLine_0 rfl rfl rfl ?_
  rcases h1o : g_lo T l with _ | o1
  · skip
    refine ZV_getRv (w := none) (n := 4) dX11_findInLine_1 fl_X11_317 rfl rfl rfl (cf_lk hG l hl).1 (Eq.trans (cf_lo hG l hl hlt) (by rw [h1o]; rfl)) ?_
    refine ZV_ifnonnull_n (tgt := 18) (n := 7) dX11_findInLine_4 (by decide) rfl ?_
    refine ZV_aload_n (n := 8) dX11_findInLine_7 rfl rfl rfl ?_
    refine ZV_bipush (v := nI 6) (n := 10) dX11_findInLine_8 rfl rfl ?_
    refine ZV_iload_n (n := 11) dX11_findInLine_10 rfl rfl rfl ?_
    refine ZV_iconst (v := -1) (n := 12) dX11_findInLine_11 rfl rfl ?_
    refine call_X11_338 (e_addFinding hG (by omega) _ _ _) rfl dX11_findInLine_12 rfl (cf_sh hG :).1 (Nat.le_of_ble_eq_true rfl) (Nat.le_of_ble_eq_true rfl) rfl (fun r9 σ9 hp9 => ?_)
    obtain ⟨rfl, hG⟩ := hp9
    refine ZV_goto (tgt := 44) dX11_findInLine_15 (by decide) ?_
    refine ZV_vret dX11_findInLine_44 rfl ?_
    refine ⟨rfl, ?_⟩
    rw [show fiL T l = fdT T (nI 6) (nI l) (-1) from by unfold fiL; rw [h1o]]
    exact hG
  · skip
    have ho9 := ti_lo hI l o1 hl hlt h1o
    have hb1 := bg_lt hI _ _ (ti_pl hI _ ho9.1 ho9.2).1
    refine ZV_getRv (w := some (k_ea K o1)) (n := 4) dX11_findInLine_1 fl_X11_317 rfl rfl rfl (cf_lk hG l hl).1 (Eq.trans (cf_lo hG l hl hlt) (by rw [h1o]; rfl)) ?_
    refine ZV_ifnonnull_s (tgt := 18) dX11_findInLine_4 (by decide) ?_
    refine ZV_aload_n (n := 19) dX11_findInLine_18 rfl rfl rfl ?_
    refine ZV_getRv (w := some (k_ea K o1)) (n := 22) dX11_findInLine_19 fl_X11_317 rfl rfl rfl (cf_lk hG l hl).1 ((cf_lo hG l hl hlt).trans (by rw [h1o]; rfl)) ?_
    refine ZV_getLv (n := 25) dX11_findInLine_22 fl_X11_240 rfl rfl rfl (cf_ek hG o1 ho9.1).1 (show _ = lN (bgF T (g_vo T o1) (g_pl T o1)) from (cf_eb hG o1 ho9.1).trans (by rw [ki_bg hK o1 ho9.1 ho9.2])) ?_
    refine ZV_aload_n (n := 26) dX11_findInLine_25 rfl rfl rfl ?_
    refine ZV_getRv (n := 29) dX11_findInLine_26 fl_X11_322 rfl rfl rfl (cf_lk hG l hl).1 (cf_lf hG l hl hlt) ?_
    refine ZV_getLv (n := 32) dX11_findInLine_29 fl_X11_240 rfl rfl rfl (cf_ek hG (g_lf T l) hlf.1).1 (show _ = lN (bgF T (g_vo T (g_lf T l)) (g_pl T (g_lf T l))) from (cf_eb hG _ hlf.1).trans (by rw [ki_bg hK _ hlf.1 hlf.2])) ?_
    refine ZV_lcmp_geN (tgt := 44) (pc1 := 33) (n := 36) dX11_findInLine_32 rfl dX11_findInLine_33 (by decide) rfl (by omega) (by omega) (fun h32 => ?_) (fun h32 => ?_)
    · skip
      refine ZV_vret dX11_findInLine_44 rfl ?_
      refine ⟨rfl, ?_⟩
      rw [show fiL T l = T from by unfold fiL; rw [h1o]; exact if_neg (by omega)]
      exact hG
    · skip
      refine ZV_aload_n (n := 37) dX11_findInLine_36 rfl rfl rfl ?_
      refine ZV_bipush (v := nI 7) (n := 39) dX11_findInLine_37 rfl rfl ?_
      refine ZV_iload_n (n := 40) dX11_findInLine_39 rfl rfl rfl ?_
      refine ZV_iconst (v := -1) (n := 41) dX11_findInLine_40 rfl rfl ?_
      refine call_X11_338 (e_addFinding hG (by omega) _ _ _) rfl dX11_findInLine_41 rfl (cf_sh hG :).1 (Nat.le_of_ble_eq_true rfl) (Nat.le_of_ble_eq_true rfl) rfl (fun r9 σ9 hp9 => ?_)
      obtain ⟨rfl, hG⟩ := hp9
      refine ZV_vret dX11_findInLine_44 rfl ?_
      refine ⟨rfl, ?_⟩
      rw [show fiL T l = fdT T (nI 7) (nI l) (-1) from by unfold fiL; rw [h1o]; exact if_pos h32]
      exact hG
