set_option maxHeartbeats 1000000 in
theorem lw_case_21 {b L : Nat} {xs : Nat → Int32} (hL : L ≤ 3584) {c x i kc ks : Nat} {σ ρ : ZS} {T : TS} (hR : cR c σ T) (hM : rR x ρ T) (hI : tI T) (hi : i + 7 ≤ L) (k : ∀ (σ' ρ' : ZS) (T' : TS), cR c σ' T' → rR x ρ' T' → tI T' → LV b L xs 1684 [some (Ar (some b)), some (Ar (some c)), some (Ar (some x)), some (Ai (nI i))] [] σ' ρ' kc ks) : LV b L xs 1007 [some (Ar (some b)), some (Ar (some c)), some (Ar (some x)), some (Ai (nI i))] [] σ ρ (kc + 8) (ks + 200) := by
  refine LV_aload_n (n := 1008) dL_law_1007 rfl rfl rfl ?_
  refine LV_aload_n (n := 1009) dL_law_1008 rfl rfl rfl ?_
  refine LV_iload_n (n := 1010) dL_law_1009 rfl rfl rfl ?_
  refine LV_iconst (v := nI 1) (n := 1011) dL_law_1010 rfl rfl ?_
  refine LV_iaddN (n := 1012) dL_law_1011 rfl ?_
  refine LV_sld (j := i + 1) (n := 1013) dL_law_1012 rfl (by omega) hL ?_
  refine LV_aload_n (n := 1014) dL_law_1013 rfl rfl rfl ?_
  refine LV_iload_n (n := 1015) dL_law_1014 rfl rfl rfl ?_
  refine LV_iconst (v := nI 2) (n := 1016) dL_law_1015 rfl rfl ?_
  refine LV_iaddN (n := 1017) dL_law_1016 rfl ?_
  refine LV_sld (j := i + 2) (n := 1018) dL_law_1017 rfl (by omega) hL ?_
  refine LV_run (kc' := kc) (ks' := ks) (ZRun_V (M := ML) (M' := M_X11_lineAt) (As := [Ai (xs (i + 1)), Ai (xs (i + 2))]) (rest := []) (n := 2) (q_lineAt hR hI (xs (i + 1)) (xs (i + 2))) cb_X11_lineAt wd_3_176 wd_3_177 wd_3_178 (cR_k hR) (by decide) rfl rfl dL_law_1018 (Nat.le_of_ble_eq_true rfl) (Nat.le_of_ble_eq_true rfl)) (Nat.add_le_add_left (Nat.le_of_ble_eq_true rfl) _) (Nat.add_le_add_left (Nat.le_of_ble_eq_true rfl) _) rfl (fun r9 σ9 hp9 hz9 => ?_)
  obtain ⟨rfl, hR9⟩ := hp9
  refine LV_aload_n (n := 1022) dL_law_1021 rfl rfl rfl ?_
  refine LV_aload_n (n := 1023) dL_law_1022 rfl rfl rfl ?_
  refine LV_iload_n (n := 1024) dL_law_1023 rfl rfl rfl ?_
  refine LV_iconst (v := nI 1) (n := 1025) dL_law_1024 rfl rfl ?_
  refine LV_iaddN (n := 1026) dL_law_1025 rfl ?_
  refine LV_sld (j := i + 1) (n := 1027) dL_law_1026 rfl (by omega) hL ?_
  refine LV_aload_n (n := 1028) dL_law_1027 rfl rfl rfl ?_
  refine LV_iload_n (n := 1029) dL_law_1028 rfl rfl rfl ?_
  refine LV_iconst (v := nI 2) (n := 1030) dL_law_1029 rfl rfl ?_
  refine LV_iaddN (n := 1031) dL_law_1030 rfl ?_
  refine LV_sld (j := i + 2) (n := 1032) dL_law_1031 rfl (by omega) hL ?_
  refine LV_swap ?_
  refine LV_run (kc' := kc) (ks' := ks) (ZRun_V (M := ML) (M' := M_X12_lineAt) (As := [Ai (xs (i + 1)), Ai (xs (i + 2))]) (rest := [Ai _]) (n := 2) (c_lineAt (rR_zU hM _) hI (xs (i + 1)) (xs (i + 2))) cb_X12_lineAt wd_6_47 wd_6_48 wd_6_49 (rf_sh (rR_zU hM (zn σ9))).1 (by decide) rfl rfl dL_law_1032 (Nat.le_of_ble_eq_true rfl) (Nat.le_of_ble_eq_true rfl)) (Nat.le_refl _) (Nat.le_refl _) rfl (fun r8 ρ8 hp8 hz8 => ?_)
  obtain ⟨rfl, hM8⟩ := hp8
  refine LV_swap ?_
  refine LV_icmp_eq (tgt := 1684) (n := 1038) dL_law_1035 (by decide) rfl (fun _ => ?_) (fun h9 => absurd rfl h9)
  exact k _ _ _ (cR_zU hR9 hz8) hM8 (ki_lineAt hI _ _)
set_option maxHeartbeats 1000000 in
theorem lw_case_22 {b L : Nat} {xs : Nat → Int32} (hL : L ≤ 3584) {c x i kc ks : Nat} {σ ρ : ZS} {T : TS} (hR : cR c σ T) (hM : rR x ρ T) (hI : tI T) (hi : i + 7 ≤ L) (k : ∀ (σ' ρ' : ZS) (T' : TS), cR c σ' T' → rR x ρ' T' → tI T' → LV b L xs 1684 [some (Ar (some b)), some (Ar (some c)), some (Ar (some x)), some (Ai (nI i))] [] σ' ρ' kc ks) : LV b L xs 1040 [some (Ar (some b)), some (Ar (some c)), some (Ar (some x)), some (Ai (nI i))] [] σ ρ (kc + 8) (ks + 200) := by
  refine LV_aload_n (n := 1041) dL_law_1040 rfl rfl rfl ?_
  refine LV_run (kc' := kc) (ks' := ks) (ZRun_V (M := ML) (M' := M_X11_walk) (As := []) (rest := []) (n := 0) (q_walk hR hI ) cb_X11_walk wd_3_180 wd_3_181 wd_3_182 (cR_k hR) (by decide) rfl rfl dL_law_1041 (Nat.le_of_ble_eq_true rfl) (Nat.le_of_ble_eq_true rfl)) (Nat.add_le_add_left (Nat.le_of_ble_eq_true rfl) _) (Nat.add_le_add_left (Nat.le_of_ble_eq_true rfl) _) rfl (fun r9 σ9 hp9 hz9 => ?_)
  obtain ⟨rfl, hR9⟩ := hp9
  refine LV_aload_n (n := 1045) dL_law_1044 rfl rfl rfl ?_
  refine LV_swap ?_
  refine LV_run (kc' := kc) (ks' := ks) (ZRun_V (M := ML) (M' := M_X12_walk) (As := []) (rest := [Ai _]) (n := 0) (c_walk (rR_zU hM _) hI ) cb_X12_walk wd_6_51 wd_6_52 wd_6_53 (rf_sh (rR_zU hM (zn σ9))).1 (by decide) rfl rfl dL_law_1045 (Nat.le_of_ble_eq_true rfl) (Nat.le_of_ble_eq_true rfl)) (Nat.le_refl _) (Nat.le_refl _) rfl (fun r8 ρ8 hp8 hz8 => ?_)
  obtain ⟨rfl, hM8⟩ := hp8
  refine LV_swap ?_
  refine LV_icmp_eq (tgt := 1684) (n := 1051) dL_law_1048 (by decide) rfl (fun _ => ?_) (fun h9 => absurd rfl h9)
  exact k _ _ _ (cR_zU hR9 hz8) hM8 (ki_walk hI)
set_option maxHeartbeats 1000000 in
theorem lw_case_23 {b L : Nat} {xs : Nat → Int32} (hL : L ≤ 3584) {c x i kc ks : Nat} {σ ρ : ZS} {T : TS} (hR : cR c σ T) (hM : rR x ρ T) (hI : tI T) (hi : i + 7 ≤ L) (k : ∀ (σ' ρ' : ZS) (T' : TS), cR c σ' T' → rR x ρ' T' → tI T' → LV b L xs 1684 [some (Ar (some b)), some (Ar (some c)), some (Ar (some x)), some (Ai (nI i))] [] σ' ρ' kc ks) : LV b L xs 1053 [some (Ar (some b)), some (Ar (some c)), some (Ar (some x)), some (Ai (nI i))] [] σ ρ (kc + 8) (ks + 200) := by
  refine LV_aload_n (n := 1054) dL_law_1053 rfl rfl rfl ?_
  refine LV_aload_n (n := 1055) dL_law_1054 rfl rfl rfl ?_
  refine LV_iload_n (n := 1056) dL_law_1055 rfl rfl rfl ?_
  refine LV_iconst (v := nI 1) (n := 1057) dL_law_1056 rfl rfl ?_
  refine LV_iaddN (n := 1058) dL_law_1057 rfl ?_
  refine LV_sld (j := i + 1) (n := 1059) dL_law_1058 rfl (by omega) hL ?_
  refine LV_run (kc' := kc) (ks' := ks) (ZRun_V (M := ML) (M' := M_X11_walked) (As := [Ai (xs (i + 1))]) (rest := []) (n := 1) (q_walked hR hI (xs (i + 1))) cb_X11_walked wd_3_188 wd_3_189 wd_3_190 (cR_k hR) (by decide) rfl rfl dL_law_1059 (Nat.le_of_ble_eq_true rfl) (Nat.le_of_ble_eq_true rfl)) (Nat.add_le_add_left (Nat.le_of_ble_eq_true rfl) _) (Nat.add_le_add_left (Nat.le_of_ble_eq_true rfl) _) rfl (fun r9 σ9 hp9 hz9 => ?_)
  obtain ⟨rfl, hR9⟩ := hp9
  refine LV_aload_n (n := 1063) dL_law_1062 rfl rfl rfl ?_
  refine LV_aload_n (n := 1064) dL_law_1063 rfl rfl rfl ?_
  refine LV_iload_n (n := 1065) dL_law_1064 rfl rfl rfl ?_
  refine LV_iconst (v := nI 1) (n := 1066) dL_law_1065 rfl rfl ?_
  refine LV_iaddN (n := 1067) dL_law_1066 rfl ?_
  refine LV_sld (j := i + 1) (n := 1068) dL_law_1067 rfl (by omega) hL ?_
  refine LV_swap ?_
  refine LV_run (kc' := kc) (ks' := ks) (ZRun_V (M := ML) (M' := M_X12_walked) (As := [Ai (xs (i + 1))]) (rest := [Ai _]) (n := 1) (c_walked (rR_zU hM _) hI (xs (i + 1))) cb_X12_walked wd_6_55 wd_6_56 wd_6_57 (rf_sh (rR_zU hM (zn σ9))).1 (by decide) rfl rfl dL_law_1068 (Nat.le_of_ble_eq_true rfl) (Nat.le_of_ble_eq_true rfl)) (Nat.le_refl _) (Nat.le_refl _) rfl (fun r8 ρ8 hp8 hz8 => ?_)
  obtain ⟨rfl, hM8⟩ := hp8
  refine LV_swap ?_
  refine LV_icmp_eq (tgt := 1684) (n := 1074) dL_law_1071 (by decide) rfl (fun _ => ?_) (fun h9 => absurd rfl h9)
  exact k _ _ _ (cR_zU hR9 hz8) hM8 (ki_walked hI _)
set_option maxHeartbeats 1000000 in
theorem lw_case_24 {b L : Nat} {xs : Nat → Int32} (hL : L ≤ 3584) {c x i kc ks : Nat} {σ ρ : ZS} {T : TS} (hR : cR c σ T) (hM : rR x ρ T) (hI : tI T) (hi : i + 7 ≤ L) (k : ∀ (σ' ρ' : ZS) (T' : TS), cR c σ' T' → rR x ρ' T' → tI T' → LV b L xs 1684 [some (Ar (some b)), some (Ar (some c)), some (Ar (some x)), some (Ai (nI i))] [] σ' ρ' kc ks) : LV b L xs 1076 [some (Ar (some b)), some (Ar (some c)), some (Ar (some x)), some (Ai (nI i))] [] σ ρ (kc + 8) (ks + 200) := by
  refine LV_aload_n (n := 1077) dL_law_1076 rfl rfl rfl ?_
  refine LV_run (kc' := kc) (ks' := ks) (ZRun_V (M := ML) (M' := M_X11_check) (As := []) (rest := []) (n := 0) (q_check hR hI ) cb_X11_check wd_3_192 wd_3_193 wd_3_194 (cR_k hR) (by decide) rfl rfl dL_law_1077 (Nat.le_of_ble_eq_true rfl) (Nat.le_of_ble_eq_true rfl)) (Nat.add_le_add_left (Nat.le_of_ble_eq_true rfl) _) (Nat.add_le_add_left (Nat.le_of_ble_eq_true rfl) _) rfl (fun r9 σ9 hp9 hz9 => ?_)
  obtain ⟨rfl, hR9⟩ := hp9
  refine LV_aload_n (n := 1081) dL_law_1080 rfl rfl rfl ?_
  refine LV_swap ?_
  refine LV_run (kc' := kc) (ks' := ks) (ZRun_V (M := ML) (M' := M_X12_check) (As := []) (rest := [Ai _]) (n := 0) (c_check (rR_zU hM _) hI ) cb_X12_check wd_6_59 wd_6_60 wd_6_61 (rf_sh (rR_zU hM (zn σ9))).1 (by decide) rfl rfl dL_law_1081 (Nat.le_of_ble_eq_true rfl) (Nat.le_of_ble_eq_true rfl)) (Nat.le_refl _) (Nat.le_refl _) rfl (fun r8 ρ8 hp8 hz8 => ?_)
  obtain ⟨rfl, hM8⟩ := hp8
  refine LV_swap ?_
  refine LV_icmp_eq (tgt := 1684) (n := 1087) dL_law_1084 (by decide) rfl (fun _ => ?_) (fun h9 => absurd rfl h9)
  exact k _ _ _ (cR_zU hR9 hz8) hM8 (ki_check hI)
set_option maxHeartbeats 1000000 in
theorem lw_case_25 {b L : Nat} {xs : Nat → Int32} (hL : L ≤ 3584) {c x i kc ks : Nat} {σ ρ : ZS} {T : TS} (hR : cR c σ T) (hM : rR x ρ T) (hI : tI T) (hi : i + 7 ≤ L) (k : ∀ (σ' ρ' : ZS) (T' : TS), cR c σ' T' → rR x ρ' T' → tI T' → LV b L xs 1684 [some (Ar (some b)), some (Ar (some c)), some (Ar (some x)), some (Ai (nI i))] [] σ' ρ' kc ks) : LV b L xs 1089 [some (Ar (some b)), some (Ar (some c)), some (Ar (some x)), some (Ai (nI i))] [] σ ρ (kc + 8) (ks + 200) := by
  refine LV_aload_n (n := 1090) dL_law_1089 rfl rfl rfl ?_
  refine LV_aload_n (n := 1091) dL_law_1090 rfl rfl rfl ?_
  refine LV_iload_n (n := 1092) dL_law_1091 rfl rfl rfl ?_
  refine LV_iconst (v := nI 1) (n := 1093) dL_law_1092 rfl rfl ?_
  refine LV_iaddN (n := 1094) dL_law_1093 rfl ?_
  refine LV_sld (j := i + 1) (n := 1095) dL_law_1094 rfl (by omega) hL ?_
  refine LV_aload_n (n := 1096) dL_law_1095 rfl rfl rfl ?_
  refine LV_iload_n (n := 1097) dL_law_1096 rfl rfl rfl ?_
  refine LV_iconst (v := nI 2) (n := 1098) dL_law_1097 rfl rfl ?_
  refine LV_iaddN (n := 1099) dL_law_1098 rfl ?_
  refine LV_sld (j := i + 2) (n := 1100) dL_law_1099 rfl (by omega) hL ?_
  refine LV_run (kc' := kc) (ks' := ks) (ZRun_V (M := ML) (M' := M_X11_finding) (As := [Ai (xs (i + 1)), Ai (xs (i + 2))]) (rest := []) (n := 2) (q_finding hR hI (xs (i + 1)) (xs (i + 2))) cb_X11_finding wd_4_3 wd_4_4 wd_4_5 (cR_k hR) (by decide) rfl rfl dL_law_1100 (Nat.le_of_ble_eq_true rfl) (Nat.le_of_ble_eq_true rfl)) (Nat.add_le_add_left (Nat.le_of_ble_eq_true rfl) _) (Nat.add_le_add_left (Nat.le_of_ble_eq_true rfl) _) rfl (fun r9 σ9 hp9 hz9 => ?_)
  obtain ⟨rfl, hR9⟩ := hp9
  refine LV_aload_n (n := 1104) dL_law_1103 rfl rfl rfl ?_
  refine LV_aload_n (n := 1105) dL_law_1104 rfl rfl rfl ?_
  refine LV_iload_n (n := 1106) dL_law_1105 rfl rfl rfl ?_
  refine LV_iconst (v := nI 1) (n := 1107) dL_law_1106 rfl rfl ?_
  refine LV_iaddN (n := 1108) dL_law_1107 rfl ?_
  refine LV_sld (j := i + 1) (n := 1109) dL_law_1108 rfl (by omega) hL ?_
  refine LV_aload_n (n := 1110) dL_law_1109 rfl rfl rfl ?_
  refine LV_iload_n (n := 1111) dL_law_1110 rfl rfl rfl ?_
  refine LV_iconst (v := nI 2) (n := 1112) dL_law_1111 rfl rfl ?_
  refine LV_iaddN (n := 1113) dL_law_1112 rfl ?_
  refine LV_sld (j := i + 2) (n := 1114) dL_law_1113 rfl (by omega) hL ?_
  refine LV_swap ?_
  refine LV_run (kc' := kc) (ks' := ks) (ZRun_V (M := ML) (M' := M_X12_finding) (As := [Ai (xs (i + 1)), Ai (xs (i + 2))]) (rest := [Ai _]) (n := 2) (c_finding (rR_zU hM _) hI (xs (i + 1)) (xs (i + 2))) cb_X12_finding wd_6_87 wd_6_88 wd_6_89 (rf_sh (rR_zU hM (zn σ9))).1 (by decide) rfl rfl dL_law_1114 (Nat.le_of_ble_eq_true rfl) (Nat.le_of_ble_eq_true rfl)) (Nat.le_refl _) (Nat.le_refl _) rfl (fun r8 ρ8 hp8 hz8 => ?_)
  obtain ⟨rfl, hM8⟩ := hp8
  refine LV_swap ?_
  refine LV_icmp_eq (tgt := 1684) (n := 1120) dL_law_1117 (by decide) rfl (fun _ => ?_) (fun h9 => absurd rfl h9)
  exact k _ _ _ (cR_zU hR9 hz8) hM8 (ki_finding hI _ _)
set_option maxHeartbeats 1000000 in
theorem lw_case_26 {b L : Nat} {xs : Nat → Int32} (hL : L ≤ 3584) {c x i kc ks : Nat} {σ ρ : ZS} {T : TS} (hR : cR c σ T) (hM : rR x ρ T) (hI : tI T) (hi : i + 7 ≤ L) (k : ∀ (σ' ρ' : ZS) (T' : TS), cR c σ' T' → rR x ρ' T' → tI T' → LV b L xs 1684 [some (Ar (some b)), some (Ar (some c)), some (Ar (some x)), some (Ai (nI i))] [] σ' ρ' kc ks) : LV b L xs 1122 [some (Ar (some b)), some (Ar (some c)), some (Ar (some x)), some (Ai (nI i))] [] σ ρ (kc + 8) (ks + 200) := by
  refine LV_aload_n (n := 1123) dL_law_1122 rfl rfl rfl ?_
  refine LV_aload_n (n := 1124) dL_law_1123 rfl rfl rfl ?_
  refine LV_iload_n (n := 1125) dL_law_1124 rfl rfl rfl ?_
  refine LV_iconst (v := nI 1) (n := 1126) dL_law_1125 rfl rfl ?_
  refine LV_iaddN (n := 1127) dL_law_1126 rfl ?_
  refine LV_sld (j := i + 1) (n := 1128) dL_law_1127 rfl (by omega) hL ?_
  refine LV_aload_n (n := 1129) dL_law_1128 rfl rfl rfl ?_
  refine LV_iload_n (n := 1130) dL_law_1129 rfl rfl rfl ?_
  refine LV_iconst (v := nI 2) (n := 1131) dL_law_1130 rfl rfl ?_
  refine LV_iaddN (n := 1132) dL_law_1131 rfl ?_
  refine LV_sld (j := i + 2) (n := 1133) dL_law_1132 rfl (by omega) hL ?_
  refine LV_run (kc' := kc) (ks' := ks) (ZRun_V (M := ML) (M' := M_X11_equal) (As := [Ai (xs (i + 1)), Ai (xs (i + 2))]) (rest := []) (n := 2) (q_equal hR hI (xs (i + 1)) (xs (i + 2))) cb_X11_equal wd_4_10 wd_4_11 wd_4_12 (cR_k hR) (by decide) rfl rfl dL_law_1133 (Nat.le_of_ble_eq_true rfl) (Nat.le_of_ble_eq_true rfl)) (Nat.add_le_add_left (Nat.le_of_ble_eq_true rfl) _) (Nat.add_le_add_left (Nat.le_of_ble_eq_true rfl) _) rfl (fun r9 σ9 hp9 hz9 => ?_)
  obtain ⟨rfl, hR9⟩ := hp9
  refine LV_aload_n (n := 1137) dL_law_1136 rfl rfl rfl ?_
  refine LV_aload_n (n := 1138) dL_law_1137 rfl rfl rfl ?_
  refine LV_iload_n (n := 1139) dL_law_1138 rfl rfl rfl ?_
  refine LV_iconst (v := nI 1) (n := 1140) dL_law_1139 rfl rfl ?_
  refine LV_iaddN (n := 1141) dL_law_1140 rfl ?_
  refine LV_sld (j := i + 1) (n := 1142) dL_law_1141 rfl (by omega) hL ?_
  refine LV_aload_n (n := 1143) dL_law_1142 rfl rfl rfl ?_
  refine LV_iload_n (n := 1144) dL_law_1143 rfl rfl rfl ?_
  refine LV_iconst (v := nI 2) (n := 1145) dL_law_1144 rfl rfl ?_
  refine LV_iaddN (n := 1146) dL_law_1145 rfl ?_
  refine LV_sld (j := i + 2) (n := 1147) dL_law_1146 rfl (by omega) hL ?_
  refine LV_swap ?_
  refine LV_run (kc' := kc) (ks' := ks) (ZRun_V (M := ML) (M' := M_X12_equal) (As := [Ai (xs (i + 1)), Ai (xs (i + 2))]) (rest := [Ai _]) (n := 2) (c_equal (rR_zU hM _) hI (xs (i + 1)) (xs (i + 2))) cb_X12_equal wd_6_91 wd_6_92 wd_6_93 (rf_sh (rR_zU hM (zn σ9))).1 (by decide) rfl rfl dL_law_1147 (Nat.le_of_ble_eq_true rfl) (Nat.le_of_ble_eq_true rfl)) (Nat.le_refl _) (Nat.le_refl _) rfl (fun r8 ρ8 hp8 hz8 => ?_)
  obtain ⟨rfl, hM8⟩ := hp8
  refine LV_swap ?_
  refine LV_icmp_eq (tgt := 1684) (n := 1153) dL_law_1150 (by decide) rfl (fun _ => ?_) (fun h9 => absurd rfl h9)
  exact k _ _ _ (cR_zU hR9 hz8) hM8 (ki_equal hI _ _)
set_option maxHeartbeats 1000000 in
theorem lw_case_27 {b L : Nat} {xs : Nat → Int32} (hL : L ≤ 3584) {c x i kc ks : Nat} {σ ρ : ZS} {T : TS} (hR : cR c σ T) (hM : rR x ρ T) (hI : tI T) (hi : i + 7 ≤ L) (k : ∀ (σ' ρ' : ZS) (T' : TS), cR c σ' T' → rR x ρ' T' → tI T' → LV b L xs 1684 [some (Ar (some b)), some (Ar (some c)), some (Ar (some x)), some (Ai (nI i))] [] σ' ρ' kc ks) : LV b L xs 1155 [some (Ar (some b)), some (Ar (some c)), some (Ar (some x)), some (Ai (nI i))] [] σ ρ (kc + 8) (ks + 200) := by
  refine LV_aload_n (n := 1156) dL_law_1155 rfl rfl rfl ?_
  refine LV_aload_n (n := 1157) dL_law_1156 rfl rfl rfl ?_
  refine LV_iload_n (n := 1158) dL_law_1157 rfl rfl rfl ?_
  refine LV_iconst (v := nI 1) (n := 1159) dL_law_1158 rfl rfl ?_
  refine LV_iaddN (n := 1160) dL_law_1159 rfl ?_
  refine LV_sld (j := i + 1) (n := 1161) dL_law_1160 rfl (by omega) hL ?_
  refine LV_aload_n (n := 1162) dL_law_1161 rfl rfl rfl ?_
  refine LV_iload_n (n := 1163) dL_law_1162 rfl rfl rfl ?_
  refine LV_iconst (v := nI 2) (n := 1164) dL_law_1163 rfl rfl ?_
  refine LV_iaddN (n := 1165) dL_law_1164 rfl ?_
  refine LV_sld (j := i + 2) (n := 1166) dL_law_1165 rfl (by omega) hL ?_
  refine LV_aload_n (n := 1167) dL_law_1166 rfl rfl rfl ?_
  refine LV_iload_n (n := 1168) dL_law_1167 rfl rfl rfl ?_
  refine LV_iconst (v := nI 3) (n := 1169) dL_law_1168 rfl rfl ?_
  refine LV_iaddN (n := 1170) dL_law_1169 rfl ?_
  refine LV_sld (j := i + 3) (n := 1171) dL_law_1170 rfl (by omega) hL ?_
  refine LV_run (kc' := kc) (ks' := ks) (ZRun_V (M := ML) (M' := M_X11_rack) (As := [Ai (xs (i + 1)), Ai (xs (i + 2)), Ai (xs (i + 3))]) (rest := []) (n := 3) (q_rack hR hI (xs (i + 1)) (xs (i + 2)) (xs (i + 3))) cb_X11_rack wd_4_35 wd_4_36 wd_4_37 (cR_k hR) (by decide) rfl rfl dL_law_1171 (Nat.le_of_ble_eq_true rfl) (Nat.le_of_ble_eq_true rfl)) (Nat.add_le_add_left (Nat.le_of_ble_eq_true rfl) _) (Nat.add_le_add_left (Nat.le_of_ble_eq_true rfl) _) rfl (fun r9 σ9 hp9 hz9 => ?_)
  obtain ⟨rfl, hR9⟩ := hp9
  refine LV_aload_n (n := 1175) dL_law_1174 rfl rfl rfl ?_
  refine LV_aload_n (n := 1176) dL_law_1175 rfl rfl rfl ?_
  refine LV_iload_n (n := 1177) dL_law_1176 rfl rfl rfl ?_
  refine LV_iconst (v := nI 1) (n := 1178) dL_law_1177 rfl rfl ?_
  refine LV_iaddN (n := 1179) dL_law_1178 rfl ?_
  refine LV_sld (j := i + 1) (n := 1180) dL_law_1179 rfl (by omega) hL ?_
  refine LV_aload_n (n := 1181) dL_law_1180 rfl rfl rfl ?_
  refine LV_iload_n (n := 1182) dL_law_1181 rfl rfl rfl ?_
  refine LV_iconst (v := nI 2) (n := 1183) dL_law_1182 rfl rfl ?_
  refine LV_iaddN (n := 1184) dL_law_1183 rfl ?_
  refine LV_sld (j := i + 2) (n := 1185) dL_law_1184 rfl (by omega) hL ?_
  refine LV_aload_n (n := 1186) dL_law_1185 rfl rfl rfl ?_
  refine LV_iload_n (n := 1187) dL_law_1186 rfl rfl rfl ?_
  refine LV_iconst (v := nI 3) (n := 1188) dL_law_1187 rfl rfl ?_
  refine LV_iaddN (n := 1189) dL_law_1188 rfl ?_
  refine LV_sld (j := i + 3) (n := 1190) dL_law_1189 rfl (by omega) hL ?_
  refine LV_swap ?_
  refine LV_run (kc' := kc) (ks' := ks) (ZRun_V (M := ML) (M' := M_X12_rack) (As := [Ai (xs (i + 1)), Ai (xs (i + 2)), Ai (xs (i + 3))]) (rest := [Ai _]) (n := 3) (c_rack (rR_zU hM _) hI (xs (i + 1)) (xs (i + 2)) (xs (i + 3))) cb_X12_rack wd_6_103 wd_6_104 wd_6_105 (rf_sh (rR_zU hM (zn σ9))).1 (by decide) rfl rfl dL_law_1190 (Nat.le_of_ble_eq_true rfl) (Nat.le_of_ble_eq_true rfl)) (Nat.le_refl _) (Nat.le_refl _) rfl (fun r8 ρ8 hp8 hz8 => ?_)
  obtain ⟨rfl, hM8⟩ := hp8
  refine LV_swap ?_
  refine LV_icmp_eq (tgt := 1684) (n := 1196) dL_law_1193 (by decide) rfl (fun _ => ?_) (fun h9 => absurd rfl h9)
  exact k _ _ _ (cR_zU hR9 hz8) hM8 (ki_rack hI _ _ _)
set_option maxHeartbeats 1000000 in
theorem lw_case_28 {b L : Nat} {xs : Nat → Int32} (hL : L ≤ 3584) {c x i kc ks : Nat} {σ ρ : ZS} {T : TS} (hR : cR c σ T) (hM : rR x ρ T) (hI : tI T) (hi : i + 7 ≤ L) (k : ∀ (σ' ρ' : ZS) (T' : TS), cR c σ' T' → rR x ρ' T' → tI T' → LV b L xs 1684 [some (Ar (some b)), some (Ar (some c)), some (Ar (some x)), some (Ai (nI i))] [] σ' ρ' kc ks) : LV b L xs 1198 [some (Ar (some b)), some (Ar (some c)), some (Ar (some x)), some (Ai (nI i))] [] σ ρ (kc + 8) (ks + 200) := by
  refine LV_aload_n (n := 1199) dL_law_1198 rfl rfl rfl ?_
  refine LV_aload_n (n := 1200) dL_law_1199 rfl rfl rfl ?_
  refine LV_iload_n (n := 1201) dL_law_1200 rfl rfl rfl ?_
  refine LV_iconst (v := nI 1) (n := 1202) dL_law_1201 rfl rfl ?_
  refine LV_iaddN (n := 1203) dL_law_1202 rfl ?_
  refine LV_sld (j := i + 1) (n := 1204) dL_law_1203 rfl (by omega) hL ?_
  refine LV_aload_n (n := 1205) dL_law_1204 rfl rfl rfl ?_
  refine LV_iload_n (n := 1206) dL_law_1205 rfl rfl rfl ?_
  refine LV_iconst (v := nI 2) (n := 1207) dL_law_1206 rfl rfl ?_
  refine LV_iaddN (n := 1208) dL_law_1207 rfl ?_
  refine LV_sld (j := i + 2) (n := 1209) dL_law_1208 rfl (by omega) hL ?_
  refine LV_aload_n (n := 1210) dL_law_1209 rfl rfl rfl ?_
  refine LV_iload_n (n := 1211) dL_law_1210 rfl rfl rfl ?_
  refine LV_iconst (v := nI 3) (n := 1212) dL_law_1211 rfl rfl ?_
  refine LV_iaddN (n := 1213) dL_law_1212 rfl ?_
  refine LV_sld (j := i + 3) (n := 1214) dL_law_1213 rfl (by omega) hL ?_
  refine LV_run (kc' := kc) (ks' := ks) (ZRun_V (M := ML) (M' := M_X11_hold) (As := [Ai (xs (i + 1)), Ai (xs (i + 2)), Ai (xs (i + 3))]) (rest := []) (n := 3) (q_hold hR hI (xs (i + 1)) (xs (i + 2)) (xs (i + 3))) cb_X11_hold wd_4_62 wd_4_63 wd_4_64 (cR_k hR) (by decide) rfl rfl dL_law_1214 (Nat.le_of_ble_eq_true rfl) (Nat.le_of_ble_eq_true rfl)) (Nat.add_le_add_left (Nat.le_of_ble_eq_true rfl) _) (Nat.add_le_add_left (Nat.le_of_ble_eq_true rfl) _) rfl (fun r9 σ9 hp9 hz9 => ?_)
  obtain ⟨rfl, hR9⟩ := hp9
  refine LV_aload_n (n := 1218) dL_law_1217 rfl rfl rfl ?_
  refine LV_aload_n (n := 1219) dL_law_1218 rfl rfl rfl ?_
  refine LV_iload_n (n := 1220) dL_law_1219 rfl rfl rfl ?_
  refine LV_iconst (v := nI 1) (n := 1221) dL_law_1220 rfl rfl ?_
  refine LV_iaddN (n := 1222) dL_law_1221 rfl ?_
  refine LV_sld (j := i + 1) (n := 1223) dL_law_1222 rfl (by omega) hL ?_
  refine LV_aload_n (n := 1224) dL_law_1223 rfl rfl rfl ?_
  refine LV_iload_n (n := 1225) dL_law_1224 rfl rfl rfl ?_
  refine LV_iconst (v := nI 2) (n := 1226) dL_law_1225 rfl rfl ?_
  refine LV_iaddN (n := 1227) dL_law_1226 rfl ?_
  refine LV_sld (j := i + 2) (n := 1228) dL_law_1227 rfl (by omega) hL ?_
  refine LV_aload_n (n := 1229) dL_law_1228 rfl rfl rfl ?_
  refine LV_iload_n (n := 1230) dL_law_1229 rfl rfl rfl ?_
  refine LV_iconst (v := nI 3) (n := 1231) dL_law_1230 rfl rfl ?_
  refine LV_iaddN (n := 1232) dL_law_1231 rfl ?_
  refine LV_sld (j := i + 3) (n := 1233) dL_law_1232 rfl (by omega) hL ?_
  refine LV_swap ?_
  refine LV_run (kc' := kc) (ks' := ks) (ZRun_V (M := ML) (M' := M_X12_hold) (As := [Ai (xs (i + 1)), Ai (xs (i + 2)), Ai (xs (i + 3))]) (rest := [Ai _]) (n := 3) (c_hold (rR_zU hM _) hI (xs (i + 1)) (xs (i + 2)) (xs (i + 3))) cb_X12_hold wd_6_107 wd_6_108 wd_6_109 (rf_sh (rR_zU hM (zn σ9))).1 (by decide) rfl rfl dL_law_1233 (Nat.le_of_ble_eq_true rfl) (Nat.le_of_ble_eq_true rfl)) (Nat.le_refl _) (Nat.le_refl _) rfl (fun r8 ρ8 hp8 hz8 => ?_)
  obtain ⟨rfl, hM8⟩ := hp8
  refine LV_swap ?_
  refine LV_icmp_eq (tgt := 1684) (n := 1239) dL_law_1236 (by decide) rfl (fun _ => ?_) (fun h9 => absurd rfl h9)
  exact k _ _ _ (cR_zU hR9 hz8) hM8 (ki_hold hI _ _ _)
set_option maxHeartbeats 1000000 in
theorem lw_case_29 {b L : Nat} {xs : Nat → Int32} (hL : L ≤ 3584) {c x i kc ks : Nat} {σ ρ : ZS} {T : TS} (hR : cR c σ T) (hM : rR x ρ T) (hI : tI T) (hi : i + 7 ≤ L) (k : ∀ (σ' ρ' : ZS) (T' : TS), cR c σ' T' → rR x ρ' T' → tI T' → LV b L xs 1684 [some (Ar (some b)), some (Ar (some c)), some (Ar (some x)), some (Ai (nI i))] [] σ' ρ' kc ks) : LV b L xs 1241 [some (Ar (some b)), some (Ar (some c)), some (Ar (some x)), some (Ai (nI i))] [] σ ρ (kc + 8) (ks + 200) := by
  refine LV_aload_n (n := 1242) dL_law_1241 rfl rfl rfl ?_
  refine LV_aload_n (n := 1243) dL_law_1242 rfl rfl rfl ?_
  refine LV_iload_n (n := 1244) dL_law_1243 rfl rfl rfl ?_
  refine LV_iconst (v := nI 1) (n := 1245) dL_law_1244 rfl rfl ?_
  refine LV_iaddN (n := 1246) dL_law_1245 rfl ?_
  refine LV_sld (j := i + 1) (n := 1247) dL_law_1246 rfl (by omega) hL ?_
  refine LV_aload_n (n := 1248) dL_law_1247 rfl rfl rfl ?_
  refine LV_iload_n (n := 1249) dL_law_1248 rfl rfl rfl ?_
  refine LV_iconst (v := nI 2) (n := 1250) dL_law_1249 rfl rfl ?_
  refine LV_iaddN (n := 1251) dL_law_1250 rfl ?_
  refine LV_sld (j := i + 2) (n := 1252) dL_law_1251 rfl (by omega) hL ?_
  refine LV_run (kc' := kc) (ks' := ks) (ZRun_V (M := ML) (M' := M_X11_held) (As := [Ai (xs (i + 1)), Ai (xs (i + 2))]) (rest := []) (n := 2) (q_held hR hI (xs (i + 1)) (xs (i + 2))) cb_X11_held wd_4_73 wd_4_74 wd_4_75 (cR_k hR) (by decide) rfl rfl dL_law_1252 (Nat.le_of_ble_eq_true rfl) (Nat.le_of_ble_eq_true rfl)) (Nat.add_le_add_left (Nat.le_of_ble_eq_true rfl) _) (Nat.add_le_add_left (Nat.le_of_ble_eq_true rfl) _) rfl (fun r9 σ9 hp9 hz9 => ?_)
  obtain ⟨rfl, hR9⟩ := hp9
  refine LV_aload_n (n := 1256) dL_law_1255 rfl rfl rfl ?_
  refine LV_aload_n (n := 1257) dL_law_1256 rfl rfl rfl ?_
  refine LV_iload_n (n := 1258) dL_law_1257 rfl rfl rfl ?_
  refine LV_iconst (v := nI 1) (n := 1259) dL_law_1258 rfl rfl ?_
  refine LV_iaddN (n := 1260) dL_law_1259 rfl ?_
  refine LV_sld (j := i + 1) (n := 1261) dL_law_1260 rfl (by omega) hL ?_
  refine LV_aload_n (n := 1262) dL_law_1261 rfl rfl rfl ?_
  refine LV_iload_n (n := 1263) dL_law_1262 rfl rfl rfl ?_
  refine LV_iconst (v := nI 2) (n := 1264) dL_law_1263 rfl rfl ?_
  refine LV_iaddN (n := 1265) dL_law_1264 rfl ?_
  refine LV_sld (j := i + 2) (n := 1266) dL_law_1265 rfl (by omega) hL ?_
  refine LV_swap ?_
  refine LV_run (kc' := kc) (ks' := ks) (ZRun_V (M := ML) (M' := M_X12_held) (As := [Ai (xs (i + 1)), Ai (xs (i + 2))]) (rest := [Ai _]) (n := 2) (c_held (rR_zU hM _) hI (xs (i + 1)) (xs (i + 2))) cb_X12_held wd_6_115 wd_6_116 wd_6_117 (rf_sh (rR_zU hM (zn σ9))).1 (by decide) rfl rfl dL_law_1266 (Nat.le_of_ble_eq_true rfl) (Nat.le_of_ble_eq_true rfl)) (Nat.le_refl _) (Nat.le_refl _) rfl (fun r8 ρ8 hp8 hz8 => ?_)
  obtain ⟨rfl, hM8⟩ := hp8
  refine LV_swap ?_
  refine LV_icmp_eq (tgt := 1684) (n := 1272) dL_law_1269 (by decide) rfl (fun _ => ?_) (fun h9 => absurd rfl h9)
  exact k _ _ _ (cR_zU hR9 hz8) hM8 (ki_held hI _ _)
set_option maxHeartbeats 1000000 in
theorem lw_case_30 {b L : Nat} {xs : Nat → Int32} (hL : L ≤ 3584) {c x i kc ks : Nat} {σ ρ : ZS} {T : TS} (hR : cR c σ T) (hM : rR x ρ T) (hI : tI T) (hi : i + 7 ≤ L) (k : ∀ (σ' ρ' : ZS) (T' : TS), cR c σ' T' → rR x ρ' T' → tI T' → LV b L xs 1684 [some (Ar (some b)), some (Ar (some c)), some (Ar (some x)), some (Ai (nI i))] [] σ' ρ' kc ks) : LV b L xs 1274 [some (Ar (some b)), some (Ar (some c)), some (Ar (some x)), some (Ai (nI i))] [] σ ρ (kc + 8) (ks + 200) := by
  refine LV_aload_n (n := 1275) dL_law_1274 rfl rfl rfl ?_
  refine LV_aload_n (n := 1276) dL_law_1275 rfl rfl rfl ?_
  refine LV_iload_n (n := 1277) dL_law_1276 rfl rfl rfl ?_
  refine LV_iconst (v := nI 1) (n := 1278) dL_law_1277 rfl rfl ?_
  refine LV_iaddN (n := 1279) dL_law_1278 rfl ?_
  refine LV_sld (j := i + 1) (n := 1280) dL_law_1279 rfl (by omega) hL ?_
  refine LV_aload_n (n := 1281) dL_law_1280 rfl rfl rfl ?_
  refine LV_iload_n (n := 1282) dL_law_1281 rfl rfl rfl ?_
  refine LV_iconst (v := nI 2) (n := 1283) dL_law_1282 rfl rfl ?_
  refine LV_iaddN (n := 1284) dL_law_1283 rfl ?_
  refine LV_sld (j := i + 2) (n := 1285) dL_law_1284 rfl (by omega) hL ?_
  refine LV_aload_n (n := 1286) dL_law_1285 rfl rfl rfl ?_
  refine LV_iload_n (n := 1287) dL_law_1286 rfl rfl rfl ?_
  refine LV_iconst (v := nI 3) (n := 1288) dL_law_1287 rfl rfl ?_
  refine LV_iaddN (n := 1289) dL_law_1288 rfl ?_
  refine LV_sld (j := i + 3) (n := 1290) dL_law_1289 rfl (by omega) hL ?_
  refine LV_aload_n (n := 1291) dL_law_1290 rfl rfl rfl ?_
  refine LV_iload_n (n := 1292) dL_law_1291 rfl rfl rfl ?_
  refine LV_iconst (v := nI 4) (n := 1293) dL_law_1292 rfl rfl ?_
  refine LV_iaddN (n := 1294) dL_law_1293 rfl ?_
  refine LV_sld (j := i + 4) (n := 1295) dL_law_1294 rfl (by omega) hL ?_
  refine LV_run (kc' := kc) (ks' := ks) (ZRun_V (M := ML) (M' := M_X11_slide) (As := [Ai (xs (i + 1)), Ai (xs (i + 2)), Ai (xs (i + 3)), Ai (xs (i + 4))]) (rest := []) (n := 4) (q_slide hR hI (xs (i + 1)) (xs (i + 2)) (xs (i + 3)) (xs (i + 4))) cb_X11_slide wd_4_77 wd_4_78 wd_4_79 (cR_k hR) (by decide) rfl rfl dL_law_1295 (Nat.le_of_ble_eq_true rfl) (Nat.le_of_ble_eq_true rfl)) (Nat.add_le_add_left (Nat.le_of_ble_eq_true rfl) _) (Nat.add_le_add_left (Nat.le_of_ble_eq_true rfl) _) rfl (fun r9 σ9 hp9 hz9 => ?_)
  obtain ⟨rfl, hR9⟩ := hp9
  refine LV_aload_n (n := 1299) dL_law_1298 rfl rfl rfl ?_
  refine LV_aload_n (n := 1300) dL_law_1299 rfl rfl rfl ?_
  refine LV_iload_n (n := 1301) dL_law_1300 rfl rfl rfl ?_
  refine LV_iconst (v := nI 1) (n := 1302) dL_law_1301 rfl rfl ?_
  refine LV_iaddN (n := 1303) dL_law_1302 rfl ?_
  refine LV_sld (j := i + 1) (n := 1304) dL_law_1303 rfl (by omega) hL ?_
  refine LV_aload_n (n := 1305) dL_law_1304 rfl rfl rfl ?_
  refine LV_iload_n (n := 1306) dL_law_1305 rfl rfl rfl ?_
  refine LV_iconst (v := nI 2) (n := 1307) dL_law_1306 rfl rfl ?_
  refine LV_iaddN (n := 1308) dL_law_1307 rfl ?_
  refine LV_sld (j := i + 2) (n := 1309) dL_law_1308 rfl (by omega) hL ?_
  refine LV_aload_n (n := 1310) dL_law_1309 rfl rfl rfl ?_
  refine LV_iload_n (n := 1311) dL_law_1310 rfl rfl rfl ?_
  refine LV_iconst (v := nI 3) (n := 1312) dL_law_1311 rfl rfl ?_
  refine LV_iaddN (n := 1313) dL_law_1312 rfl ?_
  refine LV_sld (j := i + 3) (n := 1314) dL_law_1313 rfl (by omega) hL ?_
  refine LV_aload_n (n := 1315) dL_law_1314 rfl rfl rfl ?_
  refine LV_iload_n (n := 1316) dL_law_1315 rfl rfl rfl ?_
  refine LV_iconst (v := nI 4) (n := 1317) dL_law_1316 rfl rfl ?_
  refine LV_iaddN (n := 1318) dL_law_1317 rfl ?_
  refine LV_sld (j := i + 4) (n := 1319) dL_law_1318 rfl (by omega) hL ?_
  refine LV_swap ?_
  refine LV_run (kc' := kc) (ks' := ks) (ZRun_V (M := ML) (M' := M_X12_slide) (As := [Ai (xs (i + 1)), Ai (xs (i + 2)), Ai (xs (i + 3)), Ai (xs (i + 4))]) (rest := [Ai _]) (n := 4) (c_slide (rR_zU hM _) hI (xs (i + 1)) (xs (i + 2)) (xs (i + 3)) (xs (i + 4))) cb_X12_slide wd_6_119 wd_6_120 wd_6_121 (rf_sh (rR_zU hM (zn σ9))).1 (by decide) rfl rfl dL_law_1319 (Nat.le_of_ble_eq_true rfl) (Nat.le_of_ble_eq_true rfl)) (Nat.le_refl _) (Nat.le_refl _) rfl (fun r8 ρ8 hp8 hz8 => ?_)
  obtain ⟨rfl, hM8⟩ := hp8
  refine LV_swap ?_
  refine LV_icmp_eq (tgt := 1684) (n := 1325) dL_law_1322 (by decide) rfl (fun _ => ?_) (fun h9 => absurd rfl h9)
  exact k _ _ _ (cR_zU hR9 hz8) hM8 (ki_slide hI _ _ _ _)
set_option maxHeartbeats 1000000 in
theorem lw_case_31 {b L : Nat} {xs : Nat → Int32} (hL : L ≤ 3584) {c x i kc ks : Nat} {σ ρ : ZS} {T : TS} (hR : cR c σ T) (hM : rR x ρ T) (hI : tI T) (hi : i + 7 ≤ L) (k : ∀ (σ' ρ' : ZS) (T' : TS), cR c σ' T' → rR x ρ' T' → tI T' → LV b L xs 1684 [some (Ar (some b)), some (Ar (some c)), some (Ar (some x)), some (Ai (nI i))] [] σ' ρ' kc ks) : LV b L xs 1327 [some (Ar (some b)), some (Ar (some c)), some (Ar (some x)), some (Ai (nI i))] [] σ ρ (kc + 8) (ks + 200) := by
  refine LV_aload_n (n := 1328) dL_law_1327 rfl rfl rfl ?_
  refine LV_aload_n (n := 1329) dL_law_1328 rfl rfl rfl ?_
  refine LV_iload_n (n := 1330) dL_law_1329 rfl rfl rfl ?_
  refine LV_iconst (v := nI 1) (n := 1331) dL_law_1330 rfl rfl ?_
  refine LV_iaddN (n := 1332) dL_law_1331 rfl ?_
  refine LV_sld (j := i + 1) (n := 1333) dL_law_1332 rfl (by omega) hL ?_
  refine LV_aload_n (n := 1334) dL_law_1333 rfl rfl rfl ?_
  refine LV_iload_n (n := 1335) dL_law_1334 rfl rfl rfl ?_
  refine LV_iconst (v := nI 2) (n := 1336) dL_law_1335 rfl rfl ?_
  refine LV_iaddN (n := 1337) dL_law_1336 rfl ?_
  refine LV_sld (j := i + 2) (n := 1338) dL_law_1337 rfl (by omega) hL ?_
  refine LV_aload_n (n := 1339) dL_law_1338 rfl rfl rfl ?_
  refine LV_iload_n (n := 1340) dL_law_1339 rfl rfl rfl ?_
  refine LV_iconst (v := nI 3) (n := 1341) dL_law_1340 rfl rfl ?_
  refine LV_iaddN (n := 1342) dL_law_1341 rfl ?_
  refine LV_sld (j := i + 3) (n := 1343) dL_law_1342 rfl (by omega) hL ?_
  refine LV_run (kc' := kc) (ks' := ks) (ZRun_V (M := ML) (M' := M_X11_shelf) (As := [Ai (xs (i + 1)), Ai (xs (i + 2)), Ai (xs (i + 3))]) (rest := []) (n := 3) (q_shelf hR hI (xs (i + 1)) (xs (i + 2)) (xs (i + 3))) cb_X11_shelf wd_4_88 wd_4_89 wd_4_90 (cR_k hR) (by decide) rfl rfl dL_law_1343 (Nat.le_of_ble_eq_true rfl) (Nat.le_of_ble_eq_true rfl)) (Nat.add_le_add_left (Nat.le_of_ble_eq_true rfl) _) (Nat.add_le_add_left (Nat.le_of_ble_eq_true rfl) _) rfl (fun r9 σ9 hp9 hz9 => ?_)
  obtain ⟨rfl, hR9⟩ := hp9
  refine LV_aload_n (n := 1347) dL_law_1346 rfl rfl rfl ?_
  refine LV_aload_n (n := 1348) dL_law_1347 rfl rfl rfl ?_
  refine LV_iload_n (n := 1349) dL_law_1348 rfl rfl rfl ?_
  refine LV_iconst (v := nI 1) (n := 1350) dL_law_1349 rfl rfl ?_
  refine LV_iaddN (n := 1351) dL_law_1350 rfl ?_
  refine LV_sld (j := i + 1) (n := 1352) dL_law_1351 rfl (by omega) hL ?_
  refine LV_aload_n (n := 1353) dL_law_1352 rfl rfl rfl ?_
  refine LV_iload_n (n := 1354) dL_law_1353 rfl rfl rfl ?_
  refine LV_iconst (v := nI 2) (n := 1355) dL_law_1354 rfl rfl ?_
  refine LV_iaddN (n := 1356) dL_law_1355 rfl ?_
  refine LV_sld (j := i + 2) (n := 1357) dL_law_1356 rfl (by omega) hL ?_
  refine LV_aload_n (n := 1358) dL_law_1357 rfl rfl rfl ?_
  refine LV_iload_n (n := 1359) dL_law_1358 rfl rfl rfl ?_
  refine LV_iconst (v := nI 3) (n := 1360) dL_law_1359 rfl rfl ?_
  refine LV_iaddN (n := 1361) dL_law_1360 rfl ?_
  refine LV_sld (j := i + 3) (n := 1362) dL_law_1361 rfl (by omega) hL ?_
  refine LV_swap ?_
  refine LV_run (kc' := kc) (ks' := ks) (ZRun_V (M := ML) (M' := M_X12_shelf) (As := [Ai (xs (i + 1)), Ai (xs (i + 2)), Ai (xs (i + 3))]) (rest := [Ai _]) (n := 3) (c_shelf (rR_zU hM _) hI (xs (i + 1)) (xs (i + 2)) (xs (i + 3))) cb_X12_shelf wd_6_126 wd_6_127 wd_6_128 (rf_sh (rR_zU hM (zn σ9))).1 (by decide) rfl rfl dL_law_1362 (Nat.le_of_ble_eq_true rfl) (Nat.le_of_ble_eq_true rfl)) (Nat.le_refl _) (Nat.le_refl _) rfl (fun r8 ρ8 hp8 hz8 => ?_)
  obtain ⟨rfl, hM8⟩ := hp8
  refine LV_swap ?_
  refine LV_icmp_eq (tgt := 1684) (n := 1368) dL_law_1365 (by decide) rfl (fun _ => ?_) (fun h9 => absurd rfl h9)
  exact k _ _ _ (cR_zU hR9 hz8) hM8 (ki_shelf hI _ _ _)
set_option maxHeartbeats 1000000 in
theorem lw_case_32 {b L : Nat} {xs : Nat → Int32} (hL : L ≤ 3584) {c x i kc ks : Nat} {σ ρ : ZS} {T : TS} (hR : cR c σ T) (hM : rR x ρ T) (hI : tI T) (hi : i + 7 ≤ L) (k : ∀ (σ' ρ' : ZS) (T' : TS), cR c σ' T' → rR x ρ' T' → tI T' → LV b L xs 1684 [some (Ar (some b)), some (Ar (some c)), some (Ar (some x)), some (Ai (nI i))] [] σ' ρ' kc ks) : LV b L xs 1370 [some (Ar (some b)), some (Ar (some c)), some (Ar (some x)), some (Ai (nI i))] [] σ ρ (kc + 8) (ks + 200) := by
  by_cases hz : xs (i + 2) = 0
  · skip
    refine LV_aload_n (n := 1371) dL_law_1370 rfl rfl rfl ?_
    refine LV_aload_n (n := 1372) dL_law_1371 rfl rfl rfl ?_
    refine LV_iload_n (n := 1373) dL_law_1372 rfl rfl rfl ?_
    refine LV_iconst (v := nI 1) (n := 1374) dL_law_1373 rfl rfl ?_
    refine LV_iaddN (n := 1375) dL_law_1374 rfl ?_
    refine LV_sld (j := i + 1) (n := 1376) dL_law_1375 rfl (by omega) hL ?_
    refine LV_aload_n (n := 1377) dL_law_1376 rfl rfl rfl ?_
    refine LV_iload_n (n := 1378) dL_law_1377 rfl rfl rfl ?_
    refine LV_iconst (v := nI 2) (n := 1379) dL_law_1378 rfl rfl ?_
    refine LV_iaddN (n := 1380) dL_law_1379 rfl ?_
    refine LV_sld (j := i + 2) (n := 1381) dL_law_1380 rfl (by omega) hL ?_
    refine LV_if_eq (tgt := 1388) (n := 1384) dL_law_1381 (by decide) rfl (fun hz9 => ?_) (fun hz9 => ?_)
    · skip
      refine LV_iconst (v := nI 0) (n := 1389) dL_law_1388 rfl rfl ?_
      refine LV_aload_n (n := 1390) dL_law_1389 rfl rfl rfl ?_
      refine LV_iload_n (n := 1391) dL_law_1390 rfl rfl rfl ?_
      refine LV_iconst (v := nI 3) (n := 1392) dL_law_1391 rfl rfl ?_
      refine LV_iaddN (n := 1393) dL_law_1392 rfl ?_
      refine LV_sld (j := i + 3) (n := 1394) dL_law_1393 rfl (by omega) hL ?_
      refine LV_aload_n (n := 1395) dL_law_1394 rfl rfl rfl ?_
      refine LV_iload_n (n := 1396) dL_law_1395 rfl rfl rfl ?_
      refine LV_iconst (v := nI 4) (n := 1397) dL_law_1396 rfl rfl ?_
      refine LV_iaddN (n := 1398) dL_law_1397 rfl ?_
      refine LV_sld (j := i + 4) (n := 1399) dL_law_1398 rfl (by omega) hL ?_
      refine LV_run (kc' := kc) (ks' := ks) (ZRun_V (M := ML) (M' := M_X11_lay) (As := [Ai (xs (i + 1)), Ai (bI false), Ai (xs (i + 3)), Ai (xs (i + 4))]) (rest := []) (n := 4) (q_lay hR hI (xs (i + 1)) false (xs (i + 3)) (xs (i + 4))) cb_X11_lay wd_4_92 wd_4_93 wd_4_94 (cR_k hR) (by decide) rfl rfl dL_law_1399 (Nat.le_of_ble_eq_true rfl) (Nat.le_of_ble_eq_true rfl)) (Nat.add_le_add_left (Nat.le_of_ble_eq_true rfl) _) (Nat.add_le_add_left (Nat.le_of_ble_eq_true rfl) _) rfl (fun r9 σ9 hp9 hz9 => ?_)
      obtain ⟨rfl, hR9⟩ := hp9
      refine LV_aload_n (n := 1403) dL_law_1402 rfl rfl rfl ?_
      refine LV_aload_n (n := 1404) dL_law_1403 rfl rfl rfl ?_
      refine LV_iload_n (n := 1405) dL_law_1404 rfl rfl rfl ?_
      refine LV_iconst (v := nI 1) (n := 1406) dL_law_1405 rfl rfl ?_
      refine LV_iaddN (n := 1407) dL_law_1406 rfl ?_
      refine LV_sld (j := i + 1) (n := 1408) dL_law_1407 rfl (by omega) hL ?_
      refine LV_aload_n (n := 1409) dL_law_1408 rfl rfl rfl ?_
      refine LV_iload_n (n := 1410) dL_law_1409 rfl rfl rfl ?_
      refine LV_iconst (v := nI 2) (n := 1411) dL_law_1410 rfl rfl ?_
      refine LV_iaddN (n := 1412) dL_law_1411 rfl ?_
      refine LV_sld (j := i + 2) (n := 1413) dL_law_1412 rfl (by omega) hL ?_
      refine LV_if_eq (tgt := 1420) (n := 1416) dL_law_1413 (by decide) rfl (fun hz9 => ?_) (fun hz9 => ?_)
      · skip
        refine LV_iconst (v := nI 0) (n := 1421) dL_law_1420 rfl rfl ?_
        refine LV_aload_n (n := 1422) dL_law_1421 rfl rfl rfl ?_
        refine LV_iload_n (n := 1423) dL_law_1422 rfl rfl rfl ?_
        refine LV_iconst (v := nI 3) (n := 1424) dL_law_1423 rfl rfl ?_
        refine LV_iaddN (n := 1425) dL_law_1424 rfl ?_
        refine LV_sld (j := i + 3) (n := 1426) dL_law_1425 rfl (by omega) hL ?_
        refine LV_aload_n (n := 1427) dL_law_1426 rfl rfl rfl ?_
        refine LV_iload_n (n := 1428) dL_law_1427 rfl rfl rfl ?_
        refine LV_iconst (v := nI 4) (n := 1429) dL_law_1428 rfl rfl ?_
        refine LV_iaddN (n := 1430) dL_law_1429 rfl ?_
        refine LV_sld (j := i + 4) (n := 1431) dL_law_1430 rfl (by omega) hL ?_
        refine LV_swap ?_
        refine LV_run (kc' := kc) (ks' := ks) (ZRun_V (M := ML) (M' := M_X12_lay) (As := [Ai (xs (i + 1)), Ai (bI false), Ai (xs (i + 3)), Ai (xs (i + 4))]) (rest := [Ai _]) (n := 4) (c_lay (rR_zU hM _) hI (xs (i + 1)) false (xs (i + 3)) (xs (i + 4))) cb_X12_lay wd_6_130 wd_6_131 wd_6_132 (rf_sh (rR_zU hM (zn σ9))).1 (by decide) rfl rfl dL_law_1431 (Nat.le_of_ble_eq_true rfl) (Nat.le_of_ble_eq_true rfl)) (Nat.le_refl _) (Nat.le_refl _) rfl (fun r8 ρ8 hp8 hz8 => ?_)
        obtain ⟨rfl, hM8⟩ := hp8
        refine LV_swap ?_
        refine LV_icmp_eq (tgt := 1684) (n := 1437) dL_law_1434 (by decide) rfl (fun _ => ?_) (fun h9 => absurd rfl h9)
        exact k _ _ _ (cR_zU hR9 hz8) hM8 (ki_lay hI _ _ _ _)
      · exact absurd hz hz9
    · exact absurd hz hz9
  · skip
    refine LV_aload_n (n := 1371) dL_law_1370 rfl rfl rfl ?_
    refine LV_aload_n (n := 1372) dL_law_1371 rfl rfl rfl ?_
    refine LV_iload_n (n := 1373) dL_law_1372 rfl rfl rfl ?_
    refine LV_iconst (v := nI 1) (n := 1374) dL_law_1373 rfl rfl ?_
    refine LV_iaddN (n := 1375) dL_law_1374 rfl ?_
    refine LV_sld (j := i + 1) (n := 1376) dL_law_1375 rfl (by omega) hL ?_
    refine LV_aload_n (n := 1377) dL_law_1376 rfl rfl rfl ?_
    refine LV_iload_n (n := 1378) dL_law_1377 rfl rfl rfl ?_
    refine LV_iconst (v := nI 2) (n := 1379) dL_law_1378 rfl rfl ?_
    refine LV_iaddN (n := 1380) dL_law_1379 rfl ?_
    refine LV_sld (j := i + 2) (n := 1381) dL_law_1380 rfl (by omega) hL ?_
    refine LV_if_eq (tgt := 1388) (n := 1384) dL_law_1381 (by decide) rfl (fun hz9 => ?_) (fun hz9 => ?_)
    · exact absurd hz9 hz
    · skip
      refine LV_iconst (v := nI 1) (n := 1385) dL_law_1384 rfl rfl ?_
      refine LV_goto (tgt := 1389) dL_law_1385 (by decide) ?_
      refine LV_aload_n (n := 1390) dL_law_1389 rfl rfl rfl ?_
      refine LV_iload_n (n := 1391) dL_law_1390 rfl rfl rfl ?_
      refine LV_iconst (v := nI 3) (n := 1392) dL_law_1391 rfl rfl ?_
      refine LV_iaddN (n := 1393) dL_law_1392 rfl ?_
      refine LV_sld (j := i + 3) (n := 1394) dL_law_1393 rfl (by omega) hL ?_
      refine LV_aload_n (n := 1395) dL_law_1394 rfl rfl rfl ?_
      refine LV_iload_n (n := 1396) dL_law_1395 rfl rfl rfl ?_
      refine LV_iconst (v := nI 4) (n := 1397) dL_law_1396 rfl rfl ?_
      refine LV_iaddN (n := 1398) dL_law_1397 rfl ?_
      refine LV_sld (j := i + 4) (n := 1399) dL_law_1398 rfl (by omega) hL ?_
      refine LV_run (kc' := kc) (ks' := ks) (ZRun_V (M := ML) (M' := M_X11_lay) (As := [Ai (xs (i + 1)), Ai (bI true), Ai (xs (i + 3)), Ai (xs (i + 4))]) (rest := []) (n := 4) (q_lay hR hI (xs (i + 1)) true (xs (i + 3)) (xs (i + 4))) cb_X11_lay wd_4_92 wd_4_93 wd_4_94 (cR_k hR) (by decide) rfl rfl dL_law_1399 (Nat.le_of_ble_eq_true rfl) (Nat.le_of_ble_eq_true rfl)) (Nat.add_le_add_left (Nat.le_of_ble_eq_true rfl) _) (Nat.add_le_add_left (Nat.le_of_ble_eq_true rfl) _) rfl (fun r9 σ9 hp9 hz9 => ?_)
      obtain ⟨rfl, hR9⟩ := hp9
      refine LV_aload_n (n := 1403) dL_law_1402 rfl rfl rfl ?_
      refine LV_aload_n (n := 1404) dL_law_1403 rfl rfl rfl ?_
      refine LV_iload_n (n := 1405) dL_law_1404 rfl rfl rfl ?_
      refine LV_iconst (v := nI 1) (n := 1406) dL_law_1405 rfl rfl ?_
      refine LV_iaddN (n := 1407) dL_law_1406 rfl ?_
      refine LV_sld (j := i + 1) (n := 1408) dL_law_1407 rfl (by omega) hL ?_
      refine LV_aload_n (n := 1409) dL_law_1408 rfl rfl rfl ?_
      refine LV_iload_n (n := 1410) dL_law_1409 rfl rfl rfl ?_
      refine LV_iconst (v := nI 2) (n := 1411) dL_law_1410 rfl rfl ?_
      refine LV_iaddN (n := 1412) dL_law_1411 rfl ?_
      refine LV_sld (j := i + 2) (n := 1413) dL_law_1412 rfl (by omega) hL ?_
      refine LV_if_eq (tgt := 1420) (n := 1416) dL_law_1413 (by decide) rfl (fun hz9 => ?_) (fun hz9 => ?_)
      · exact absurd hz9 hz
      · skip
        refine LV_iconst (v := nI 1) (n := 1417) dL_law_1416 rfl rfl ?_
        refine LV_goto (tgt := 1421) dL_law_1417 (by decide) ?_
        refine LV_aload_n (n := 1422) dL_law_1421 rfl rfl rfl ?_
        refine LV_iload_n (n := 1423) dL_law_1422 rfl rfl rfl ?_
        refine LV_iconst (v := nI 3) (n := 1424) dL_law_1423 rfl rfl ?_
        refine LV_iaddN (n := 1425) dL_law_1424 rfl ?_
        refine LV_sld (j := i + 3) (n := 1426) dL_law_1425 rfl (by omega) hL ?_
        refine LV_aload_n (n := 1427) dL_law_1426 rfl rfl rfl ?_
        refine LV_iload_n (n := 1428) dL_law_1427 rfl rfl rfl ?_
        refine LV_iconst (v := nI 4) (n := 1429) dL_law_1428 rfl rfl ?_
        refine LV_iaddN (n := 1430) dL_law_1429 rfl ?_
        refine LV_sld (j := i + 4) (n := 1431) dL_law_1430 rfl (by omega) hL ?_
        refine LV_swap ?_
        refine LV_run (kc' := kc) (ks' := ks) (ZRun_V (M := ML) (M' := M_X12_lay) (As := [Ai (xs (i + 1)), Ai (bI true), Ai (xs (i + 3)), Ai (xs (i + 4))]) (rest := [Ai _]) (n := 4) (c_lay (rR_zU hM _) hI (xs (i + 1)) true (xs (i + 3)) (xs (i + 4))) cb_X12_lay wd_6_130 wd_6_131 wd_6_132 (rf_sh (rR_zU hM (zn σ9))).1 (by decide) rfl rfl dL_law_1431 (Nat.le_of_ble_eq_true rfl) (Nat.le_of_ble_eq_true rfl)) (Nat.le_refl _) (Nat.le_refl _) rfl (fun r8 ρ8 hp8 hz8 => ?_)
        obtain ⟨rfl, hM8⟩ := hp8
        refine LV_swap ?_
        refine LV_icmp_eq (tgt := 1684) (n := 1437) dL_law_1434 (by decide) rfl (fun _ => ?_) (fun h9 => absurd rfl h9)
        exact k _ _ _ (cR_zU hR9 hz8) hM8 (ki_lay hI _ _ _ _)
set_option maxHeartbeats 1000000 in
theorem lw_case_33 {b L : Nat} {xs : Nat → Int32} (hL : L ≤ 3584) {c x i kc ks : Nat} {σ ρ : ZS} {T : TS} (hR : cR c σ T) (hM : rR x ρ T) (hI : tI T) (hi : i + 7 ≤ L) (k : ∀ (σ' ρ' : ZS) (T' : TS), cR c σ' T' → rR x ρ' T' → tI T' → LV b L xs 1684 [some (Ar (some b)), some (Ar (some c)), some (Ar (some x)), some (Ai (nI i))] [] σ' ρ' kc ks) : LV b L xs 1439 [some (Ar (some b)), some (Ar (some c)), some (Ar (some x)), some (Ai (nI i))] [] σ ρ (kc + 8) (ks + 200) := by
  refine LV_aload_n (n := 1440) dL_law_1439 rfl rfl rfl ?_
  refine LV_aload_n (n := 1441) dL_law_1440 rfl rfl rfl ?_
  refine LV_iload_n (n := 1442) dL_law_1441 rfl rfl rfl ?_
  refine LV_iconst (v := nI 1) (n := 1443) dL_law_1442 rfl rfl ?_
  refine LV_iaddN (n := 1444) dL_law_1443 rfl ?_
  refine LV_sld (j := i + 1) (n := 1445) dL_law_1444 rfl (by omega) hL ?_
  refine LV_aload_n (n := 1446) dL_law_1445 rfl rfl rfl ?_
  refine LV_iload_n (n := 1447) dL_law_1446 rfl rfl rfl ?_
  refine LV_iconst (v := nI 2) (n := 1448) dL_law_1447 rfl rfl ?_
  refine LV_iaddN (n := 1449) dL_law_1448 rfl ?_
  refine LV_sld (j := i + 2) (n := 1450) dL_law_1449 rfl (by omega) hL ?_
  refine LV_run (kc' := kc) (ks' := ks) (ZRun_V (M := ML) (M' := M_X11_item) (As := [Ai (xs (i + 1)), Ai (xs (i + 2))]) (rest := []) (n := 2) (q_item hR hI (xs (i + 1)) (xs (i + 2))) cb_X11_item wd_4_111 wd_4_112 wd_4_113 (cR_k hR) (by decide) rfl rfl dL_law_1450 (Nat.le_of_ble_eq_true rfl) (Nat.le_of_ble_eq_true rfl)) (Nat.add_le_add_left (Nat.le_of_ble_eq_true rfl) _) (Nat.add_le_add_left (Nat.le_of_ble_eq_true rfl) _) rfl (fun r9 σ9 hp9 hz9 => ?_)
  obtain ⟨rfl, hR9⟩ := hp9
  refine LV_aload_n (n := 1454) dL_law_1453 rfl rfl rfl ?_
  refine LV_aload_n (n := 1455) dL_law_1454 rfl rfl rfl ?_
  refine LV_iload_n (n := 1456) dL_law_1455 rfl rfl rfl ?_
  refine LV_iconst (v := nI 1) (n := 1457) dL_law_1456 rfl rfl ?_
  refine LV_iaddN (n := 1458) dL_law_1457 rfl ?_
  refine LV_sld (j := i + 1) (n := 1459) dL_law_1458 rfl (by omega) hL ?_
  refine LV_aload_n (n := 1460) dL_law_1459 rfl rfl rfl ?_
  refine LV_iload_n (n := 1461) dL_law_1460 rfl rfl rfl ?_
  refine LV_iconst (v := nI 2) (n := 1462) dL_law_1461 rfl rfl ?_
  refine LV_iaddN (n := 1463) dL_law_1462 rfl ?_
  refine LV_sld (j := i + 2) (n := 1464) dL_law_1463 rfl (by omega) hL ?_
  refine LV_swap ?_
  refine LV_run (kc' := kc) (ks' := ks) (ZRun_V (M := ML) (M' := M_X12_item) (As := [Ai (xs (i + 1)), Ai (xs (i + 2))]) (rest := [Ai _]) (n := 2) (c_item (rR_zU hM _) hI (xs (i + 1)) (xs (i + 2))) cb_X12_item wd_6_138 wd_6_139 wd_6_140 (rf_sh (rR_zU hM (zn σ9))).1 (by decide) rfl rfl dL_law_1464 (Nat.le_of_ble_eq_true rfl) (Nat.le_of_ble_eq_true rfl)) (Nat.le_refl _) (Nat.le_refl _) rfl (fun r8 ρ8 hp8 hz8 => ?_)
  obtain ⟨rfl, hM8⟩ := hp8
  refine LV_swap ?_
  refine LV_icmp_eq (tgt := 1684) (n := 1470) dL_law_1467 (by decide) rfl (fun _ => ?_) (fun h9 => absurd rfl h9)
  exact k _ _ _ (cR_zU hR9 hz8) hM8 (ki_item hI _ _)
set_option maxHeartbeats 1000000 in
theorem lw_case_34 {b L : Nat} {xs : Nat → Int32} (hL : L ≤ 3584) {c x i kc ks : Nat} {σ ρ : ZS} {T : TS} (hR : cR c σ T) (hM : rR x ρ T) (hI : tI T) (hi : i + 7 ≤ L) (k : ∀ (σ' ρ' : ZS) (T' : TS), cR c σ' T' → rR x ρ' T' → tI T' → LV b L xs 1684 [some (Ar (some b)), some (Ar (some c)), some (Ar (some x)), some (Ai (nI i))] [] σ' ρ' kc ks) : LV b L xs 1472 [some (Ar (some b)), some (Ar (some c)), some (Ar (some x)), some (Ai (nI i))] [] σ ρ (kc + 8) (ks + 200) := by
  refine LV_aload_n (n := 1473) dL_law_1472 rfl rfl rfl ?_
  refine LV_aload_n (n := 1474) dL_law_1473 rfl rfl rfl ?_
  refine LV_iload_n (n := 1475) dL_law_1474 rfl rfl rfl ?_
  refine LV_iconst (v := nI 1) (n := 1476) dL_law_1475 rfl rfl ?_
  refine LV_iaddN (n := 1477) dL_law_1476 rfl ?_
  refine LV_sld (j := i + 1) (n := 1478) dL_law_1477 rfl (by omega) hL ?_
  refine LV_aload_n (n := 1479) dL_law_1478 rfl rfl rfl ?_
  refine LV_iload_n (n := 1480) dL_law_1479 rfl rfl rfl ?_
  refine LV_iconst (v := nI 2) (n := 1481) dL_law_1480 rfl rfl ?_
  refine LV_iaddN (n := 1482) dL_law_1481 rfl ?_
  refine LV_sld (j := i + 2) (n := 1483) dL_law_1482 rfl (by omega) hL ?_
  refine LV_aload_n (n := 1484) dL_law_1483 rfl rfl rfl ?_
  refine LV_iload_n (n := 1485) dL_law_1484 rfl rfl rfl ?_
  refine LV_iconst (v := nI 3) (n := 1486) dL_law_1485 rfl rfl ?_
  refine LV_iaddN (n := 1487) dL_law_1486 rfl ?_
  refine LV_sld (j := i + 3) (n := 1488) dL_law_1487 rfl (by omega) hL ?_
  refine LV_run (kc' := kc) (ks' := ks) (ZRun_V (M := ML) (M' := M_X11_lift) (As := [Ai (xs (i + 1)), Ai (xs (i + 2)), Ai (xs (i + 3))]) (rest := []) (n := 3) (q_lift hR hI (xs (i + 1)) (xs (i + 2)) (xs (i + 3))) cb_X11_lift wd_4_115 wd_4_116 wd_4_117 (cR_k hR) (by decide) rfl rfl dL_law_1488 (Nat.le_of_ble_eq_true rfl) (Nat.le_of_ble_eq_true rfl)) (Nat.add_le_add_left (Nat.le_of_ble_eq_true rfl) _) (Nat.add_le_add_left (Nat.le_of_ble_eq_true rfl) _) rfl (fun r9 σ9 hp9 hz9 => ?_)
  obtain ⟨rfl, hR9⟩ := hp9
  refine LV_aload_n (n := 1492) dL_law_1491 rfl rfl rfl ?_
  refine LV_aload_n (n := 1493) dL_law_1492 rfl rfl rfl ?_
  refine LV_iload_n (n := 1494) dL_law_1493 rfl rfl rfl ?_
  refine LV_iconst (v := nI 1) (n := 1495) dL_law_1494 rfl rfl ?_
  refine LV_iaddN (n := 1496) dL_law_1495 rfl ?_
  refine LV_sld (j := i + 1) (n := 1497) dL_law_1496 rfl (by omega) hL ?_
  refine LV_aload_n (n := 1498) dL_law_1497 rfl rfl rfl ?_
  refine LV_iload_n (n := 1499) dL_law_1498 rfl rfl rfl ?_
  refine LV_iconst (v := nI 2) (n := 1500) dL_law_1499 rfl rfl ?_
  refine LV_iaddN (n := 1501) dL_law_1500 rfl ?_
  refine LV_sld (j := i + 2) (n := 1502) dL_law_1501 rfl (by omega) hL ?_
  refine LV_aload_n (n := 1503) dL_law_1502 rfl rfl rfl ?_
  refine LV_iload_n (n := 1504) dL_law_1503 rfl rfl rfl ?_
  refine LV_iconst (v := nI 3) (n := 1505) dL_law_1504 rfl rfl ?_
  refine LV_iaddN (n := 1506) dL_law_1505 rfl ?_
  refine LV_sld (j := i + 3) (n := 1507) dL_law_1506 rfl (by omega) hL ?_
  refine LV_swap ?_
  refine LV_run (kc' := kc) (ks' := ks) (ZRun_V (M := ML) (M' := M_X12_lift) (As := [Ai (xs (i + 1)), Ai (xs (i + 2)), Ai (xs (i + 3))]) (rest := [Ai _]) (n := 3) (c_lift (rR_zU hM _) hI (xs (i + 1)) (xs (i + 2)) (xs (i + 3))) cb_X12_lift wd_6_142 wd_6_143 wd_6_144 (rf_sh (rR_zU hM (zn σ9))).1 (by decide) rfl rfl dL_law_1507 (Nat.le_of_ble_eq_true rfl) (Nat.le_of_ble_eq_true rfl)) (Nat.le_refl _) (Nat.le_refl _) rfl (fun r8 ρ8 hp8 hz8 => ?_)
  obtain ⟨rfl, hM8⟩ := hp8
  refine LV_swap ?_
  refine LV_icmp_eq (tgt := 1684) (n := 1513) dL_law_1510 (by decide) rfl (fun _ => ?_) (fun h9 => absurd rfl h9)
  exact k _ _ _ (cR_zU hR9 hz8) hM8 (ki_lift hI _ _ _)
set_option maxHeartbeats 1000000 in
theorem lw_case_35 {b L : Nat} {xs : Nat → Int32} (hL : L ≤ 3584) {c x i kc ks : Nat} {σ ρ : ZS} {T : TS} (hR : cR c σ T) (hM : rR x ρ T) (hI : tI T) (hi : i + 7 ≤ L) (k : ∀ (σ' ρ' : ZS) (T' : TS), cR c σ' T' → rR x ρ' T' → tI T' → LV b L xs 1684 [some (Ar (some b)), some (Ar (some c)), some (Ar (some x)), some (Ai (nI i))] [] σ' ρ' kc ks) : LV b L xs 1515 [some (Ar (some b)), some (Ar (some c)), some (Ar (some x)), some (Ai (nI i))] [] σ ρ (kc + 8) (ks + 200) := by
  refine LV_aload_n (n := 1516) dL_law_1515 rfl rfl rfl ?_
  refine LV_aload_n (n := 1517) dL_law_1516 rfl rfl rfl ?_
  refine LV_iload_n (n := 1518) dL_law_1517 rfl rfl rfl ?_
  refine LV_iconst (v := nI 1) (n := 1519) dL_law_1518 rfl rfl ?_
  refine LV_iaddN (n := 1520) dL_law_1519 rfl ?_
  refine LV_sld (j := i + 1) (n := 1521) dL_law_1520 rfl (by omega) hL ?_
  refine LV_aload_n (n := 1522) dL_law_1521 rfl rfl rfl ?_
  refine LV_iload_n (n := 1523) dL_law_1522 rfl rfl rfl ?_
  refine LV_iconst (v := nI 2) (n := 1524) dL_law_1523 rfl rfl ?_
  refine LV_iaddN (n := 1525) dL_law_1524 rfl ?_
  refine LV_sld (j := i + 2) (n := 1526) dL_law_1525 rfl (by omega) hL ?_
  refine LV_aload_n (n := 1527) dL_law_1526 rfl rfl rfl ?_
  refine LV_iload_n (n := 1528) dL_law_1527 rfl rfl rfl ?_
  refine LV_iconst (v := nI 3) (n := 1529) dL_law_1528 rfl rfl ?_
  refine LV_iaddN (n := 1530) dL_law_1529 rfl ?_
  refine LV_sld (j := i + 3) (n := 1531) dL_law_1530 rfl (by omega) hL ?_
  refine LV_aload_n (n := 1532) dL_law_1531 rfl rfl rfl ?_
  refine LV_iload_n (n := 1533) dL_law_1532 rfl rfl rfl ?_
  refine LV_iconst (v := nI 4) (n := 1534) dL_law_1533 rfl rfl ?_
  refine LV_iaddN (n := 1535) dL_law_1534 rfl ?_
  refine LV_sld (j := i + 4) (n := 1536) dL_law_1535 rfl (by omega) hL ?_
  refine LV_aload_n (n := 1537) dL_law_1536 rfl rfl rfl ?_
  refine LV_iload_n (n := 1538) dL_law_1537 rfl rfl rfl ?_
  refine LV_iconst (v := nI 5) (n := 1539) dL_law_1538 rfl rfl ?_
  refine LV_iaddN (n := 1540) dL_law_1539 rfl ?_
  refine LV_sld (j := i + 5) (n := 1541) dL_law_1540 rfl (by omega) hL ?_
  refine LV_run (kc' := kc) (ks' := ks) (ZRun_V (M := ML) (M' := M_X11_copy) (As := [Ai (xs (i + 1)), Ai (xs (i + 2)), Ai (xs (i + 3)), Ai (xs (i + 4)), Ai (xs (i + 5))]) (rest := []) (n := 5) (q_copy hR hI (xs (i + 1)) (xs (i + 2)) (xs (i + 3)) (xs (i + 4)) (xs (i + 5))) cb_X11_copy wd_4_119 wd_4_120 wd_4_121 (cR_k hR) (by decide) rfl rfl dL_law_1541 (Nat.le_of_ble_eq_true rfl) (Nat.le_of_ble_eq_true rfl)) (Nat.add_le_add_left (Nat.le_of_ble_eq_true rfl) _) (Nat.add_le_add_left (Nat.le_of_ble_eq_true rfl) _) rfl (fun r9 σ9 hp9 hz9 => ?_)
  obtain ⟨rfl, hR9⟩ := hp9
  refine LV_aload_n (n := 1545) dL_law_1544 rfl rfl rfl ?_
  refine LV_aload_n (n := 1546) dL_law_1545 rfl rfl rfl ?_
  refine LV_iload_n (n := 1547) dL_law_1546 rfl rfl rfl ?_
  refine LV_iconst (v := nI 1) (n := 1548) dL_law_1547 rfl rfl ?_
  refine LV_iaddN (n := 1549) dL_law_1548 rfl ?_
  refine LV_sld (j := i + 1) (n := 1550) dL_law_1549 rfl (by omega) hL ?_
  refine LV_aload_n (n := 1551) dL_law_1550 rfl rfl rfl ?_
  refine LV_iload_n (n := 1552) dL_law_1551 rfl rfl rfl ?_
  refine LV_iconst (v := nI 2) (n := 1553) dL_law_1552 rfl rfl ?_
  refine LV_iaddN (n := 1554) dL_law_1553 rfl ?_
  refine LV_sld (j := i + 2) (n := 1555) dL_law_1554 rfl (by omega) hL ?_
  refine LV_aload_n (n := 1556) dL_law_1555 rfl rfl rfl ?_
  refine LV_iload_n (n := 1557) dL_law_1556 rfl rfl rfl ?_
  refine LV_iconst (v := nI 3) (n := 1558) dL_law_1557 rfl rfl ?_
  refine LV_iaddN (n := 1559) dL_law_1558 rfl ?_
  refine LV_sld (j := i + 3) (n := 1560) dL_law_1559 rfl (by omega) hL ?_
  refine LV_aload_n (n := 1561) dL_law_1560 rfl rfl rfl ?_
  refine LV_iload_n (n := 1562) dL_law_1561 rfl rfl rfl ?_
  refine LV_iconst (v := nI 4) (n := 1563) dL_law_1562 rfl rfl ?_
  refine LV_iaddN (n := 1564) dL_law_1563 rfl ?_
  refine LV_sld (j := i + 4) (n := 1565) dL_law_1564 rfl (by omega) hL ?_
  refine LV_aload_n (n := 1566) dL_law_1565 rfl rfl rfl ?_
  refine LV_iload_n (n := 1567) dL_law_1566 rfl rfl rfl ?_
  refine LV_iconst (v := nI 5) (n := 1568) dL_law_1567 rfl rfl ?_
  refine LV_iaddN (n := 1569) dL_law_1568 rfl ?_
  refine LV_sld (j := i + 5) (n := 1570) dL_law_1569 rfl (by omega) hL ?_
  refine LV_swap ?_
  refine LV_run (kc' := kc) (ks' := ks) (ZRun_V (M := ML) (M' := M_X12_copy) (As := [Ai (xs (i + 1)), Ai (xs (i + 2)), Ai (xs (i + 3)), Ai (xs (i + 4)), Ai (xs (i + 5))]) (rest := [Ai _]) (n := 5) (c_copy (rR_zU hM _) hI (xs (i + 1)) (xs (i + 2)) (xs (i + 3)) (xs (i + 4)) (xs (i + 5))) cb_X12_copy wd_6_147 wd_6_148 wd_6_149 (rf_sh (rR_zU hM (zn σ9))).1 (by decide) rfl rfl dL_law_1570 (Nat.le_of_ble_eq_true rfl) (Nat.le_of_ble_eq_true rfl)) (Nat.le_refl _) (Nat.le_refl _) rfl (fun r8 ρ8 hp8 hz8 => ?_)
  obtain ⟨rfl, hM8⟩ := hp8
  refine LV_swap ?_
  refine LV_icmp_eq (tgt := 1684) (n := 1576) dL_law_1573 (by decide) rfl (fun _ => ?_) (fun h9 => absurd rfl h9)
  exact k _ _ _ (cR_zU hR9 hz8) hM8 (ki_copy hI _ _ _ _ _)
set_option maxHeartbeats 1000000 in
theorem lw_case_36 {b L : Nat} {xs : Nat → Int32} (hL : L ≤ 3584) {c x i kc ks : Nat} {σ ρ : ZS} {T : TS} (hR : cR c σ T) (hM : rR x ρ T) (hI : tI T) (hi : i + 7 ≤ L) (k : ∀ (σ' ρ' : ZS) (T' : TS), cR c σ' T' → rR x ρ' T' → tI T' → LV b L xs 1684 [some (Ar (some b)), some (Ar (some c)), some (Ar (some x)), some (Ai (nI i))] [] σ' ρ' kc ks) : LV b L xs 1578 [some (Ar (some b)), some (Ar (some c)), some (Ar (some x)), some (Ai (nI i))] [] σ ρ (kc + 8) (ks + 200) := by
  refine LV_aload_n (n := 1579) dL_law_1578 rfl rfl rfl ?_
  refine LV_aload_n (n := 1580) dL_law_1579 rfl rfl rfl ?_
  refine LV_iload_n (n := 1581) dL_law_1580 rfl rfl rfl ?_
  refine LV_iconst (v := nI 1) (n := 1582) dL_law_1581 rfl rfl ?_
  refine LV_iaddN (n := 1583) dL_law_1582 rfl ?_
  refine LV_sld (j := i + 1) (n := 1584) dL_law_1583 rfl (by omega) hL ?_
  refine LV_aload_n (n := 1585) dL_law_1584 rfl rfl rfl ?_
  refine LV_iload_n (n := 1586) dL_law_1585 rfl rfl rfl ?_
  refine LV_iconst (v := nI 2) (n := 1587) dL_law_1586 rfl rfl ?_
  refine LV_iaddN (n := 1588) dL_law_1587 rfl ?_
  refine LV_sld (j := i + 2) (n := 1589) dL_law_1588 rfl (by omega) hL ?_
  refine LV_run (kc' := kc) (ks' := ks) (ZRun_V (M := ML) (M' := M_X11_play) (As := [Ai (xs (i + 1)), Ai (xs (i + 2))]) (rest := []) (n := 2) (q_play hR hI (xs (i + 1)) (xs (i + 2))) cb_X11_play wd_4_123 wd_4_124 wd_4_125 (cR_k hR) (by decide) rfl rfl dL_law_1589 (Nat.le_of_ble_eq_true rfl) (Nat.le_of_ble_eq_true rfl)) (Nat.add_le_add_left (Nat.le_of_ble_eq_true rfl) _) (Nat.add_le_add_left (Nat.le_of_ble_eq_true rfl) _) rfl (fun r9 σ9 hp9 hz9 => ?_)
  obtain ⟨rfl, hR9⟩ := hp9
  refine LV_aload_n (n := 1593) dL_law_1592 rfl rfl rfl ?_
  refine LV_aload_n (n := 1594) dL_law_1593 rfl rfl rfl ?_
  refine LV_iload_n (n := 1595) dL_law_1594 rfl rfl rfl ?_
  refine LV_iconst (v := nI 1) (n := 1596) dL_law_1595 rfl rfl ?_
  refine LV_iaddN (n := 1597) dL_law_1596 rfl ?_
  refine LV_sld (j := i + 1) (n := 1598) dL_law_1597 rfl (by omega) hL ?_
  refine LV_aload_n (n := 1599) dL_law_1598 rfl rfl rfl ?_
  refine LV_iload_n (n := 1600) dL_law_1599 rfl rfl rfl ?_
  refine LV_iconst (v := nI 2) (n := 1601) dL_law_1600 rfl rfl ?_
  refine LV_iaddN (n := 1602) dL_law_1601 rfl ?_
  refine LV_sld (j := i + 2) (n := 1603) dL_law_1602 rfl (by omega) hL ?_
  refine LV_swap ?_
  refine LV_run (kc' := kc) (ks' := ks) (ZRun_V (M := ML) (M' := M_X12_play) (As := [Ai (xs (i + 1)), Ai (xs (i + 2))]) (rest := [Ai _]) (n := 2) (c_play (rR_zU hM _) hI (xs (i + 1)) (xs (i + 2))) cb_X12_play wd_6_151 wd_6_152 wd_6_153 (rf_sh (rR_zU hM (zn σ9))).1 (by decide) rfl rfl dL_law_1603 (Nat.le_of_ble_eq_true rfl) (Nat.le_of_ble_eq_true rfl)) (Nat.le_refl _) (Nat.le_refl _) rfl (fun r8 ρ8 hp8 hz8 => ?_)
  obtain ⟨rfl, hM8⟩ := hp8
  refine LV_swap ?_
  refine LV_icmp_eq (tgt := 1684) (n := 1609) dL_law_1606 (by decide) rfl (fun _ => ?_) (fun h9 => absurd rfl h9)
  exact k _ _ _ (cR_zU hR9 hz8) hM8 (ki_play hI _ _)
set_option maxHeartbeats 1000000 in
theorem lw_case_37 {b L : Nat} {xs : Nat → Int32} (hL : L ≤ 3584) {c x i kc ks : Nat} {σ ρ : ZS} {T : TS} (hR : cR c σ T) (hM : rR x ρ T) (hI : tI T) (hi : i + 7 ≤ L) (k : ∀ (σ' ρ' : ZS) (T' : TS), cR c σ' T' → rR x ρ' T' → tI T' → LV b L xs 1684 [some (Ar (some b)), some (Ar (some c)), some (Ar (some x)), some (Ai (nI i))] [] σ' ρ' kc ks) : LV b L xs 1611 [some (Ar (some b)), some (Ar (some c)), some (Ar (some x)), some (Ai (nI i))] [] σ ρ (kc + 8) (ks + 200) := by
  refine LV_aload_n (n := 1612) dL_law_1611 rfl rfl rfl ?_
  refine LV_aload_n (n := 1613) dL_law_1612 rfl rfl rfl ?_
  refine LV_iload_n (n := 1614) dL_law_1613 rfl rfl rfl ?_
  refine LV_iconst (v := nI 1) (n := 1615) dL_law_1614 rfl rfl ?_
  refine LV_iaddN (n := 1616) dL_law_1615 rfl ?_
  refine LV_sld (j := i + 1) (n := 1617) dL_law_1616 rfl (by omega) hL ?_
  refine LV_run (kc' := kc) (ks' := ks) (ZRun_V (M := ML) (M' := M_X11_failures) (As := [Ai (xs (i + 1))]) (rest := []) (n := 1) (q_failures hR hI (xs (i + 1))) cb_X11_failures wd_4_127 wd_4_128 wd_4_129 (cR_k hR) (by decide) rfl rfl dL_law_1617 (Nat.le_of_ble_eq_true rfl) (Nat.le_of_ble_eq_true rfl)) (Nat.add_le_add_left (Nat.le_of_ble_eq_true rfl) _) (Nat.add_le_add_left (Nat.le_of_ble_eq_true rfl) _) rfl (fun r9 σ9 hp9 hz9 => ?_)
  obtain ⟨rfl, hR9⟩ := hp9
  refine LV_aload_n (n := 1621) dL_law_1620 rfl rfl rfl ?_
  refine LV_aload_n (n := 1622) dL_law_1621 rfl rfl rfl ?_
  refine LV_iload_n (n := 1623) dL_law_1622 rfl rfl rfl ?_
  refine LV_iconst (v := nI 1) (n := 1624) dL_law_1623 rfl rfl ?_
  refine LV_iaddN (n := 1625) dL_law_1624 rfl ?_
  refine LV_sld (j := i + 1) (n := 1626) dL_law_1625 rfl (by omega) hL ?_
  refine LV_swap ?_
  refine LV_run (kc' := kc) (ks' := ks) (ZRun_V (M := ML) (M' := M_X12_failures) (As := [Ai (xs (i + 1))]) (rest := [Ai _]) (n := 1) (c_failures (rR_zU hM _) hI (xs (i + 1))) cb_X12_failures wd_6_155 wd_6_156 wd_6_157 (rf_sh (rR_zU hM (zn σ9))).1 (by decide) rfl rfl dL_law_1626 (Nat.le_of_ble_eq_true rfl) (Nat.le_of_ble_eq_true rfl)) (Nat.le_refl _) (Nat.le_refl _) rfl (fun r8 ρ8 hp8 hz8 => ?_)
  obtain ⟨rfl, hM8⟩ := hp8
  refine LV_swap ?_
  refine LV_icmp_eq (tgt := 1684) (n := 1632) dL_law_1629 (by decide) rfl (fun _ => ?_) (fun h9 => absurd rfl h9)
  exact k _ _ _ (cR_zU hR9 hz8) hM8 hI
set_option maxHeartbeats 1000000 in
theorem lw_case_38 {b L : Nat} {xs : Nat → Int32} (hL : L ≤ 3584) {c x i kc ks : Nat} {σ ρ : ZS} {T : TS} (hR : cR c σ T) (hM : rR x ρ T) (hI : tI T) (hi : i + 7 ≤ L) (k : ∀ (σ' ρ' : ZS) (T' : TS), cR c σ' T' → rR x ρ' T' → tI T' → LV b L xs 1684 [some (Ar (some b)), some (Ar (some c)), some (Ar (some x)), some (Ai (nI i))] [] σ' ρ' kc ks) : LV b L xs 1634 [some (Ar (some b)), some (Ar (some c)), some (Ar (some x)), some (Ai (nI i))] [] σ ρ (kc + 8) (ks + 200) := by
  refine LV_aload_n (n := 1635) dL_law_1634 rfl rfl rfl ?_
  refine LV_run (kc' := kc) (ks' := ks) (ZRun_V (M := ML) (M' := M_X11_status) (As := []) (rest := []) (n := 0) (q_status hR hI ) cb_X11_status wd_4_131 wd_4_132 wd_4_133 (cR_k hR) (by decide) rfl rfl dL_law_1635 (Nat.le_of_ble_eq_true rfl) (Nat.le_of_ble_eq_true rfl)) (Nat.add_le_add_left (Nat.le_of_ble_eq_true rfl) _) (Nat.add_le_add_left (Nat.le_of_ble_eq_true rfl) _) rfl (fun r9 σ9 hp9 hz9 => ?_)
  obtain ⟨rfl, hR9⟩ := hp9
  refine LV_aload_n (n := 1639) dL_law_1638 rfl rfl rfl ?_
  refine LV_swap ?_
  refine LV_run (kc' := kc) (ks' := ks) (ZRun_V (M := ML) (M' := M_X12_status) (As := []) (rest := [Ai _]) (n := 0) (c_status (rR_zU hM _) hI ) cb_X12_status wd_6_159 wd_6_160 wd_6_161 (rf_sh (rR_zU hM (zn σ9))).1 (by decide) rfl rfl dL_law_1639 (Nat.le_of_ble_eq_true rfl) (Nat.le_of_ble_eq_true rfl)) (Nat.le_refl _) (Nat.le_refl _) rfl (fun r8 ρ8 hp8 hz8 => ?_)
  obtain ⟨rfl, hM8⟩ := hp8
  refine LV_swap ?_
  refine LV_icmp_eq (tgt := 1684) (n := 1645) dL_law_1642 (by decide) rfl (fun _ => ?_) (fun h9 => absurd rfl h9)
  exact k _ _ _ (cR_zU hR9 hz8) hM8 hI
set_option maxHeartbeats 1000000 in
theorem lw_case_39 {b L : Nat} {xs : Nat → Int32} (hL : L ≤ 3584) {c x i kc ks : Nat} {σ ρ : ZS} {T : TS} (hR : cR c σ T) (hM : rR x ρ T) (hI : tI T) (hi : i + 7 ≤ L) (k : ∀ (σ' ρ' : ZS) (T' : TS), cR c σ' T' → rR x ρ' T' → tI T' → LV b L xs 1684 [some (Ar (some b)), some (Ar (some c)), some (Ar (some x)), some (Ai (nI i))] [] σ' ρ' kc ks) : LV b L xs 1647 [some (Ar (some b)), some (Ar (some c)), some (Ar (some x)), some (Ai (nI i))] [] σ ρ (kc + 8) (ks + 200) := by
  refine LV_aload_n (n := 1648) dL_law_1647 rfl rfl rfl ?_
  refine LV_run (kc' := kc) (ks' := ks) (ZRun_V (M := ML) (M' := M_X11_trace) (As := []) (rest := []) (n := 0) (q_trace hR hI ) cb_X11_trace wd_4_135 wd_4_136 wd_4_137 (cR_k hR) (by decide) rfl rfl dL_law_1648 (Nat.le_of_ble_eq_true rfl) (Nat.le_of_ble_eq_true rfl)) (Nat.add_le_add_left (Nat.le_of_ble_eq_true rfl) _) (Nat.add_le_add_left (Nat.le_of_ble_eq_true rfl) _) rfl (fun r9 σ9 hp9 hz9 => ?_)
  obtain ⟨rfl, hR9⟩ := hp9
  refine LV_aload_n (n := 1652) dL_law_1651 rfl rfl rfl ?_
  refine LV_swap ?_
  refine LV_run (kc' := kc) (ks' := ks) (ZRun_V (M := ML) (M' := M_X12_trace) (As := []) (rest := [Al _]) (n := 0) (c_trace (rR_zU hM _) hI ) cb_X12_trace wd_6_163 wd_6_164 wd_6_165 (rf_sh (rR_zU hM (zn σ9))).1 (by decide) rfl rfl dL_law_1652 (Nat.le_of_ble_eq_true rfl) (Nat.le_of_ble_eq_true rfl)) (Nat.le_refl _) (Nat.le_refl _) rfl (fun r8 ρ8 hp8 hz8 => ?_)
  obtain ⟨rfl, hM8⟩ := hp8
  refine LV_swap ?_
  refine LV_lcmp_eq (tgt := 1684) (pc1 := 1656) (n := 1659) dL_law_1655 rfl dL_law_1656 (by decide) rfl (fun _ => ?_) (fun h9 => absurd rfl h9)
  exact k _ _ _ (cR_zU hR9 hz8) hM8 hI
set_option maxHeartbeats 1000000 in
theorem lw_case_40 {b L : Nat} {xs : Nat → Int32} (hL : L ≤ 3584) {c x i kc ks : Nat} {σ ρ : ZS} {T : TS} (hR : cR c σ T) (hM : rR x ρ T) (hI : tI T) (hi : i + 7 ≤ L) (k : ∀ (σ' ρ' : ZS) (T' : TS), cR c σ' T' → rR x ρ' T' → tI T' → LV b L xs 1684 [some (Ar (some b)), some (Ar (some c)), some (Ar (some x)), some (Ai (nI i))] [] σ' ρ' kc ks) : LV b L xs 1661 [some (Ar (some b)), some (Ar (some c)), some (Ar (some x)), some (Ai (nI i))] [] σ ρ (kc + 8) (ks + 200) := by
  refine LV_aload_n (n := 1662) dL_law_1661 rfl rfl rfl ?_
  refine LV_aload_n (n := 1663) dL_law_1662 rfl rfl rfl ?_
  refine LV_iload_n (n := 1664) dL_law_1663 rfl rfl rfl ?_
  refine LV_iconst (v := nI 1) (n := 1665) dL_law_1664 rfl rfl ?_
  refine LV_iaddN (n := 1666) dL_law_1665 rfl ?_
  refine LV_sld (j := i + 1) (n := 1667) dL_law_1666 rfl (by omega) hL ?_
  refine LV_run (kc' := kc) (ks' := ks) (ZRun_V (M := ML) (M' := M_X11_count) (As := [Ai (xs (i + 1))]) (rest := []) (n := 1) (q_count hR hI (xs (i + 1))) cb_X11_count wd_4_139 wd_4_140 wd_4_141 (cR_k hR) (by decide) rfl rfl dL_law_1667 (Nat.le_of_ble_eq_true rfl) (Nat.le_of_ble_eq_true rfl)) (Nat.add_le_add_left (Nat.le_of_ble_eq_true rfl) _) (Nat.add_le_add_left (Nat.le_of_ble_eq_true rfl) _) rfl (fun r9 σ9 hp9 hz9 => ?_)
  obtain ⟨rfl, hR9⟩ := hp9
  refine LV_aload_n (n := 1671) dL_law_1670 rfl rfl rfl ?_
  refine LV_aload_n (n := 1672) dL_law_1671 rfl rfl rfl ?_
  refine LV_iload_n (n := 1673) dL_law_1672 rfl rfl rfl ?_
  refine LV_iconst (v := nI 1) (n := 1674) dL_law_1673 rfl rfl ?_
  refine LV_iaddN (n := 1675) dL_law_1674 rfl ?_
  refine LV_sld (j := i + 1) (n := 1676) dL_law_1675 rfl (by omega) hL ?_
  refine LV_swap ?_
  refine LV_run (kc' := kc) (ks' := ks) (ZRun_V (M := ML) (M' := M_X12_count) (As := [Ai (xs (i + 1))]) (rest := [Ai _]) (n := 1) (c_count (rR_zU hM _) hI (xs (i + 1))) cb_X12_count wd_6_167 wd_6_168 wd_6_169 (rf_sh (rR_zU hM (zn σ9))).1 (by decide) rfl rfl dL_law_1676 (Nat.le_of_ble_eq_true rfl) (Nat.le_of_ble_eq_true rfl)) (Nat.le_refl _) (Nat.le_refl _) rfl (fun r8 ρ8 hp8 hz8 => ?_)
  obtain ⟨rfl, hM8⟩ := hp8
  refine LV_swap ?_
  refine LV_icmp_eq (tgt := 1684) (n := 1682) dL_law_1679 (by decide) rfl (fun _ => ?_) (fun h9 => absurd rfl h9)
  exact k _ _ _ (cR_zU hR9 hz8) hM8 hI
