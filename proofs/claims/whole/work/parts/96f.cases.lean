section
/-! the law's cases -/
set_option maxHeartbeats 2000000 in
set_option maxRecDepth 100000 in
theorem lt_count {l : Launch} {E : QE} {T : Nat → Nat × Nat} {b Ln : Nat} {xs : Nat → Int32} {i : Int} {kc ks : Nat} (hi : 0 ≤ i ∧ i + 4 ≤ (Ln : Int)) (hLn : Ln ≤ 2048) (hkc : kc ≤ 601024) (hks : ks ≤ 7293034) (hn : NXT l E T b Ln xs i kc ks) {c : Int} (hc : 0 ≤ c ∧ c ≤ 3) {I : Nat → Nat → Int} {J : Nat → Nat → Int64} {R : Nat → Nat → Option Nat} {x5 x6 x7 x8 : Option Value} (hr : RLx T c I (fun I9 => y_count I9 (xs (i + 1).toNat).toInt) J R) : GoT l E Y_L_law kc ks 1005 [some (.ref b), some (.ref (E.1 + 0)), some (.ref (E.1 + 110)), some (.ref (E.1 + 124)), some (.int (iz i)), x5, x6, x7, x8] [.int (iz c)] (T, I, J, R, 125, 0) (TgW E b Ln xs) := by
  have hmv : MV I := hr.1
  have hmb : MdB T R 125 := hr.2.1
  have h110 : T 110 = (5, 0) := hmb.1
  have h124 : T 124 = (10, 1) := hr.2.2.2.2.2.2.1
  have e0 : (y_count I (xs (i + 1).toNat).toInt).2 110 0 = c := hr.2.2.1
  have e1 : c = 0 → J 124 0 = (iz (y_count I (xs (i + 1).toNat).toInt).1).toInt64 := hr.2.2.2.1
  have hq : QR T (y_count I (xs (i + 1).toNat).toInt).2 R := hr.2.2.2.2
  clear hr
  refine g_istore5 (Y := Y_L_law) (pc' := 1007) dL_law_1005 rfl (Nat.le_of_ble_eq_true rfl) rfl ?_
  refine g_aload2 (Y := Y_L_law) (pc' := 1008) dL_law_1007 rfl ?_
  refine g_aload0 (Y := Y_L_law) (pc' := 1009) dL_law_1008 rfl ?_
  refine g_iload4 (Y := Y_L_law) (pc' := 1011) dL_law_1009 rfl ?_
  refine g_iconst (Y := Y_L_law) (pc' := 1012) dL_law_1011 rfl ?_
  refine g_iadd (Y := Y_L_law) (pc' := 1013) dL_law_1012 rfl ?_
  refine g_xld (pc' := 1014) dL_law_1013 rfl ⟨by omega, by omega⟩ hLn ?_
  refine g_callVv (Y := Y_L_law) (c := 5) (k := 110) (s_X5_count hmb hmv (xs (i + 1).toNat).toInt (i32rg _)) (pc' := 1017) dL_law_1014 rfl cv_W_132 (q_fit_mk (Nat.le_of_ble_eq_true rfl) (Nat.le_of_ble_eq_true rfl) hkc hks) h110 (by show (110 : Nat) < 125; decide) ⟨by decide, _, rfl, rfl⟩ rfl rfl rfl rfl ?_
  generalize y_count I (xs (i + 1).toNat).toInt = r at e0 e1 hq ⊢
  refine g_istore6 (Y := Y_L_law) (pc' := 1019) dL_law_1017 rfl (Nat.le_of_ble_eq_true rfl) rfl ?_
  refine g_aload2 (Y := Y_L_law) (pc' := 1020) dL_law_1019 rfl ?_
  refine g_callVv (Y := Y_L_law) (c := 5) (k := 110) (s_X5_thrown hmb) (pc' := 1023) dL_law_1020 rfl cv_W_80 (q_fit_mk (Nat.le_of_ble_eq_true rfl) (Nat.le_of_ble_eq_true rfl) hkc hks) h110 (by show (110 : Nat) < 125; decide) ⟨by decide, _, rfl, rfl⟩ rfl rfl rfl rfl ?_
  refine g_iload5 (Y := Y_L_law) (pc' := 1025) dL_law_1023 rfl ?_
  refine g_icmp_eq (Y := Y_L_law) (t := 1030) (pc' := 1028) dL_law_1025 (by decide) rfl ⟨by omega, by omega⟩ ⟨by omega, by omega⟩ (fun h9 => ?_) (fun h9 => absurd e0 h9)
  refine g_iload5 (Y := Y_L_law) (pc' := 1032) dL_law_1030 rfl ?_
  refine g_if_ne (Y := Y_L_law) (t := 1047) (pc' := 1035) dL_law_1032 (by decide) rfl ⟨by omega, by omega⟩ (fun h8 => ?_) (fun h8 => ?_)
  · refine g_goto (Y := Y_L_law) (t := 1323) dL_law_1047 (by decide) ?_
    exact hn _ _ _ _ _ _ _ _ _ hq (Nat.le_refl _) (Nat.le_refl _)
  · refine g_aload3 (Y := Y_L_law) (pc' := 1036) dL_law_1035 rfl ?_
    refine g_iconst (Y := Y_L_law) (pc' := 1037) dL_law_1036 rfl ?_
    refine g_lald (Y := Y_L_law) (pc' := 1038) dL_law_1037 rfl h124 (by decide) (by decide) ⟨by decide, by decide⟩ ?_
    refine g_iload6 (Y := Y_L_law) (pc' := 1040) dL_law_1038 rfl ?_
    refine g_i2l (Y := Y_L_law) (pc' := 1041) dL_law_1040 rfl ?_
    refine g_lcmp (Y := Y_L_law) (v := 0) (pc' := 1042) dL_law_1041 rfl (by rw [show J 124 (0 : Int).toNat = _ from e1 h8]; exact lcmp_eq _) ?_
    refine g_if_eq (Y := Y_L_law) (t := 1047) (pc' := 1045) dL_law_1042 (by decide) rfl ⟨by decide, by decide⟩ (fun _ => ?_) (fun h7 => absurd rfl h7)
    refine g_goto (Y := Y_L_law) (t := 1323) dL_law_1047 (by decide) ?_
    exact hn _ _ _ _ _ _ _ _ _ hq (Nat.le_refl _) (Nat.le_refl _)
set_option maxHeartbeats 2000000 in
set_option maxRecDepth 100000 in
theorem lc_15 {l : Launch} {E : QE} {T : Nat → Nat × Nat} {b Ln : Nat} {xs : Nat → Int32} {i : Int} {kc ks : Nat} (hl9 : l.stackTraces = false) (hi : 0 ≤ i ∧ i + 4 ≤ (Ln : Int)) (hLn : Ln ≤ 2048) (hkc : kc + 1 ≤ 601024) (hks : ks + 6 ≤ 7293034) (hn : NXT l E T b Ln xs i (kc + 1) (ks + 6)) {I : Nat → Nat → Int} {J : Nat → Nat → Int64} {R : Nat → Nat → Option Nat} {x5 x6 x7 x8 : Option Value} (hq : QR T I R) : GoT l E Y_L_law kc ks 994 [some (.ref b), some (.ref (E.1 + 0)), some (.ref (E.1 + 110)), some (.ref (E.1 + 124)), some (.int (iz i)), x5, x6, x7, x8] [] (T, I, J, R, 125, 0) (TgW E b Ln xs) := by
  refine g_aload1 (Y := Y_L_law) (pc' := 995) dL_law_994 rfl ?_
  refine g_aload0 (Y := Y_L_law) (pc' := 996) dL_law_995 rfl ?_
  refine g_iload4 (Y := Y_L_law) (pc' := 998) dL_law_996 rfl ?_
  refine g_iconst (Y := Y_L_law) (pc' := 999) dL_law_998 rfl ?_
  refine g_iadd (Y := Y_L_law) (pc' := 1000) dL_law_999 rfl ?_
  refine g_xld (pc' := 1001) dL_law_1000 rfl ⟨by omega, by omega⟩ hLn ?_
  refine g_aload3 (Y := Y_L_law) (pc' := 1002) dL_law_1001 rfl ?_
  refine g_callL (s_L_count hl9 hq.1 hq.2.2.2.1 hq.2.2.1 (xs (i + 1).toNat).toInt (i32rg _)) (pc' := 1005) dL_law_1002 rfl cv_W_130 (q_fit_mk (Nat.le_of_ble_eq_true rfl) (Nat.le_of_ble_eq_true rfl) hkc hks) rfl rfl rfl (fun r w1 hr => ?_)
  have hm := ml_count (J := J) hq (xs (i + 1).toNat).toInt (i32rg _)
  rcases hr with ⟨hx, rfl, rfl⟩ | ⟨hx, rfl, rfl⟩
  · exact lt_count (kc := kc + 1) (ks := ks + 6) hi hLn hkc hks hn (by decide) (hm.1 hx)
  · exact lt_count (kc := kc + 1) (ks := ks + 6) hi hLn hkc hks hn (by decide) (hm.2 hx)
set_option maxHeartbeats 2000000 in
set_option maxRecDepth 100000 in
theorem lt_setting {l : Launch} {E : QE} {T : Nat → Nat × Nat} {b Ln : Nat} {xs : Nat → Int32} {i : Int} {kc ks : Nat} (hi : 0 ≤ i ∧ i + 4 ≤ (Ln : Int)) (hLn : Ln ≤ 2048) (hkc : kc ≤ 601024) (hks : ks ≤ 7293034) (hn : NXT l E T b Ln xs i kc ks) {c : Int} (hc : 0 ≤ c ∧ c ≤ 3) {I : Nat → Nat → Int} {J : Nat → Nat → Int64} {R : Nat → Nat → Option Nat} {x5 x6 x7 x8 : Option Value} (hr : RLx T c I (fun I9 => y_setting I9 (xs (i + 1).toNat).toInt) J R) : GoT l E Y_L_law kc ks 1061 [some (.ref b), some (.ref (E.1 + 0)), some (.ref (E.1 + 110)), some (.ref (E.1 + 124)), some (.int (iz i)), x5, x6, x7, x8] [.int (iz c)] (T, I, J, R, 125, 0) (TgW E b Ln xs) := by
  have hmv : MV I := hr.1
  have hmb : MdB T R 125 := hr.2.1
  have h110 : T 110 = (5, 0) := hmb.1
  have h124 : T 124 = (10, 1) := hr.2.2.2.2.2.2.1
  have e0 : (y_setting I (xs (i + 1).toNat).toInt).2 110 0 = c := hr.2.2.1
  have e1 : c = 0 → J 124 0 = (iz (y_setting I (xs (i + 1).toNat).toInt).1).toInt64 := hr.2.2.2.1
  have hq : QR T (y_setting I (xs (i + 1).toNat).toInt).2 R := hr.2.2.2.2
  clear hr
  refine g_istore5 (Y := Y_L_law) (pc' := 1063) dL_law_1061 rfl (Nat.le_of_ble_eq_true rfl) rfl ?_
  refine g_aload2 (Y := Y_L_law) (pc' := 1064) dL_law_1063 rfl ?_
  refine g_aload0 (Y := Y_L_law) (pc' := 1065) dL_law_1064 rfl ?_
  refine g_iload4 (Y := Y_L_law) (pc' := 1067) dL_law_1065 rfl ?_
  refine g_iconst (Y := Y_L_law) (pc' := 1068) dL_law_1067 rfl ?_
  refine g_iadd (Y := Y_L_law) (pc' := 1069) dL_law_1068 rfl ?_
  refine g_xld (pc' := 1070) dL_law_1069 rfl ⟨by omega, by omega⟩ hLn ?_
  refine g_callVv (Y := Y_L_law) (c := 5) (k := 110) (s_X5_setting hmb hmv (xs (i + 1).toNat).toInt (i32rg _)) (pc' := 1073) dL_law_1070 rfl cv_W_135 (q_fit_mk (Nat.le_of_ble_eq_true rfl) (Nat.le_of_ble_eq_true rfl) hkc hks) h110 (by show (110 : Nat) < 125; decide) ⟨by decide, _, rfl, rfl⟩ rfl rfl rfl rfl ?_
  generalize y_setting I (xs (i + 1).toNat).toInt = r at e0 e1 hq ⊢
  refine g_istore6 (Y := Y_L_law) (pc' := 1075) dL_law_1073 rfl (Nat.le_of_ble_eq_true rfl) rfl ?_
  refine g_aload2 (Y := Y_L_law) (pc' := 1076) dL_law_1075 rfl ?_
  refine g_callVv (Y := Y_L_law) (c := 5) (k := 110) (s_X5_thrown hmb) (pc' := 1079) dL_law_1076 rfl cv_W_80 (q_fit_mk (Nat.le_of_ble_eq_true rfl) (Nat.le_of_ble_eq_true rfl) hkc hks) h110 (by show (110 : Nat) < 125; decide) ⟨by decide, _, rfl, rfl⟩ rfl rfl rfl rfl ?_
  refine g_iload5 (Y := Y_L_law) (pc' := 1081) dL_law_1079 rfl ?_
  refine g_icmp_eq (Y := Y_L_law) (t := 1086) (pc' := 1084) dL_law_1081 (by decide) rfl ⟨by omega, by omega⟩ ⟨by omega, by omega⟩ (fun h9 => ?_) (fun h9 => absurd e0 h9)
  refine g_iload5 (Y := Y_L_law) (pc' := 1088) dL_law_1086 rfl ?_
  refine g_if_ne (Y := Y_L_law) (t := 1103) (pc' := 1091) dL_law_1088 (by decide) rfl ⟨by omega, by omega⟩ (fun h8 => ?_) (fun h8 => ?_)
  · refine g_goto (Y := Y_L_law) (t := 1323) dL_law_1103 (by decide) ?_
    exact hn _ _ _ _ _ _ _ _ _ hq (Nat.le_refl _) (Nat.le_refl _)
  · refine g_aload3 (Y := Y_L_law) (pc' := 1092) dL_law_1091 rfl ?_
    refine g_iconst (Y := Y_L_law) (pc' := 1093) dL_law_1092 rfl ?_
    refine g_lald (Y := Y_L_law) (pc' := 1094) dL_law_1093 rfl h124 (by decide) (by decide) ⟨by decide, by decide⟩ ?_
    refine g_iload6 (Y := Y_L_law) (pc' := 1096) dL_law_1094 rfl ?_
    refine g_i2l (Y := Y_L_law) (pc' := 1097) dL_law_1096 rfl ?_
    refine g_lcmp (Y := Y_L_law) (v := 0) (pc' := 1098) dL_law_1097 rfl (by rw [show J 124 (0 : Int).toNat = _ from e1 h8]; exact lcmp_eq _) ?_
    refine g_if_eq (Y := Y_L_law) (t := 1103) (pc' := 1101) dL_law_1098 (by decide) rfl ⟨by decide, by decide⟩ (fun _ => ?_) (fun h7 => absurd rfl h7)
    refine g_goto (Y := Y_L_law) (t := 1323) dL_law_1103 (by decide) ?_
    exact hn _ _ _ _ _ _ _ _ _ hq (Nat.le_refl _) (Nat.le_refl _)
set_option maxHeartbeats 2000000 in
set_option maxRecDepth 100000 in
theorem lc_16 {l : Launch} {E : QE} {T : Nat → Nat × Nat} {b Ln : Nat} {xs : Nat → Int32} {i : Int} {kc ks : Nat} (hl9 : l.stackTraces = false) (hi : 0 ≤ i ∧ i + 4 ≤ (Ln : Int)) (hLn : Ln ≤ 2048) (hkc : kc + 1 ≤ 601024) (hks : ks + 6 ≤ 7293034) (hn : NXT l E T b Ln xs i (kc + 1) (ks + 6)) {I : Nat → Nat → Int} {J : Nat → Nat → Int64} {R : Nat → Nat → Option Nat} {x5 x6 x7 x8 : Option Value} (hq : QR T I R) : GoT l E Y_L_law kc ks 1050 [some (.ref b), some (.ref (E.1 + 0)), some (.ref (E.1 + 110)), some (.ref (E.1 + 124)), some (.int (iz i)), x5, x6, x7, x8] [] (T, I, J, R, 125, 0) (TgW E b Ln xs) := by
  refine g_aload1 (Y := Y_L_law) (pc' := 1051) dL_law_1050 rfl ?_
  refine g_aload0 (Y := Y_L_law) (pc' := 1052) dL_law_1051 rfl ?_
  refine g_iload4 (Y := Y_L_law) (pc' := 1054) dL_law_1052 rfl ?_
  refine g_iconst (Y := Y_L_law) (pc' := 1055) dL_law_1054 rfl ?_
  refine g_iadd (Y := Y_L_law) (pc' := 1056) dL_law_1055 rfl ?_
  refine g_xld (pc' := 1057) dL_law_1056 rfl ⟨by omega, by omega⟩ hLn ?_
  refine g_aload3 (Y := Y_L_law) (pc' := 1058) dL_law_1057 rfl ?_
  refine g_callL (s_L_setting hl9 hq.1 hq.2.2.2.1 hq.2.2.1 (xs (i + 1).toNat).toInt (i32rg _)) (pc' := 1061) dL_law_1058 rfl cv_W_133 (q_fit_mk (Nat.le_of_ble_eq_true rfl) (Nat.le_of_ble_eq_true rfl) hkc hks) rfl rfl rfl (fun r w1 hr => ?_)
  have hm := ml_setting (J := J) hq (xs (i + 1).toNat).toInt (i32rg _)
  rcases hr with ⟨hx, rfl, rfl⟩ | ⟨hx, rfl, rfl⟩
  · exact lt_setting (kc := kc + 1) (ks := ks + 6) hi hLn hkc hks hn (by decide) (hm.1 hx)
  · exact lt_setting (kc := kc + 1) (ks := ks + 6) hi hLn hkc hks hn (by decide) (hm.2 hx)
set_option maxHeartbeats 2000000 in
set_option maxRecDepth 100000 in
theorem lt_ifFailed {l : Launch} {E : QE} {T : Nat → Nat × Nat} {b Ln : Nat} {xs : Nat → Int32} {i : Int} {kc ks : Nat} (hi : 0 ≤ i ∧ i + 4 ≤ (Ln : Int)) (hLn : Ln ≤ 2048) (hkc : kc ≤ 601024) (hks : ks ≤ 7293034) (hn : NXT l E T b Ln xs i kc ks) {c : Int} (hc : 0 ≤ c ∧ c ≤ 3) {I : Nat → Nat → Int} {J : Nat → Nat → Int64} {R : Nat → Nat → Option Nat} {x5 x6 x7 x8 : Option Value} (hr : RLx T c I (fun I9 => y_iff I9 (xs (i + 1).toNat).toInt (xs (i + 2).toNat).toInt (xs (i + 3).toNat).toInt) J R) : GoT l E Y_L_law kc ks 1129 [some (.ref b), some (.ref (E.1 + 0)), some (.ref (E.1 + 110)), some (.ref (E.1 + 124)), some (.int (iz i)), x5, x6, x7, x8] [.int (iz c)] (T, I, J, R, 125, 0) (TgW E b Ln xs) := by
  have hmv : MV I := hr.1
  have hmb : MdB T R 125 := hr.2.1
  have h110 : T 110 = (5, 0) := hmb.1
  have h124 : T 124 = (10, 1) := hr.2.2.2.2.2.2.1
  have e0 : (y_iff I (xs (i + 1).toNat).toInt (xs (i + 2).toNat).toInt (xs (i + 3).toNat).toInt).2 110 0 = c := hr.2.2.1
  have e1 : c = 0 → J 124 0 = (iz (y_iff I (xs (i + 1).toNat).toInt (xs (i + 2).toNat).toInt (xs (i + 3).toNat).toInt).1).toInt64 := hr.2.2.2.1
  have hq : QR T (y_iff I (xs (i + 1).toNat).toInt (xs (i + 2).toNat).toInt (xs (i + 3).toNat).toInt).2 R := hr.2.2.2.2
  clear hr
  refine g_istore5 (Y := Y_L_law) (pc' := 1131) dL_law_1129 rfl (Nat.le_of_ble_eq_true rfl) rfl ?_
  refine g_aload2 (Y := Y_L_law) (pc' := 1132) dL_law_1131 rfl ?_
  refine g_aload0 (Y := Y_L_law) (pc' := 1133) dL_law_1132 rfl ?_
  refine g_iload4 (Y := Y_L_law) (pc' := 1135) dL_law_1133 rfl ?_
  refine g_iconst (Y := Y_L_law) (pc' := 1136) dL_law_1135 rfl ?_
  refine g_iadd (Y := Y_L_law) (pc' := 1137) dL_law_1136 rfl ?_
  refine g_xld (pc' := 1138) dL_law_1137 rfl ⟨by omega, by omega⟩ hLn ?_
  refine g_aload0 (Y := Y_L_law) (pc' := 1139) dL_law_1138 rfl ?_
  refine g_iload4 (Y := Y_L_law) (pc' := 1141) dL_law_1139 rfl ?_
  refine g_iconst (Y := Y_L_law) (pc' := 1142) dL_law_1141 rfl ?_
  refine g_iadd (Y := Y_L_law) (pc' := 1143) dL_law_1142 rfl ?_
  refine g_xld (pc' := 1144) dL_law_1143 rfl ⟨by omega, by omega⟩ hLn ?_
  refine g_aload0 (Y := Y_L_law) (pc' := 1145) dL_law_1144 rfl ?_
  refine g_iload4 (Y := Y_L_law) (pc' := 1147) dL_law_1145 rfl ?_
  refine g_iconst (Y := Y_L_law) (pc' := 1148) dL_law_1147 rfl ?_
  refine g_iadd (Y := Y_L_law) (pc' := 1149) dL_law_1148 rfl ?_
  refine g_xld (pc' := 1150) dL_law_1149 rfl ⟨by omega, by omega⟩ hLn ?_
  refine g_callVv (Y := Y_L_law) (c := 5) (k := 110) (s_X5_ifFailed hmb hmv (xs (i + 1).toNat).toInt (i32rg _) (xs (i + 2).toNat).toInt (i32rg _) (xs (i + 3).toNat).toInt (i32rg _)) (pc' := 1153) dL_law_1150 rfl cv_W_138 (q_fit_mk (Nat.le_of_ble_eq_true rfl) (Nat.le_of_ble_eq_true rfl) hkc hks) h110 (by show (110 : Nat) < 125; decide) ⟨by decide, _, rfl, rfl⟩ rfl rfl rfl rfl ?_
  generalize y_iff I (xs (i + 1).toNat).toInt (xs (i + 2).toNat).toInt (xs (i + 3).toNat).toInt = r at e0 e1 hq ⊢
  refine g_istore6 (Y := Y_L_law) (pc' := 1155) dL_law_1153 rfl (Nat.le_of_ble_eq_true rfl) rfl ?_
  refine g_aload2 (Y := Y_L_law) (pc' := 1156) dL_law_1155 rfl ?_
  refine g_callVv (Y := Y_L_law) (c := 5) (k := 110) (s_X5_thrown hmb) (pc' := 1159) dL_law_1156 rfl cv_W_80 (q_fit_mk (Nat.le_of_ble_eq_true rfl) (Nat.le_of_ble_eq_true rfl) hkc hks) h110 (by show (110 : Nat) < 125; decide) ⟨by decide, _, rfl, rfl⟩ rfl rfl rfl rfl ?_
  refine g_iload5 (Y := Y_L_law) (pc' := 1161) dL_law_1159 rfl ?_
  refine g_icmp_eq (Y := Y_L_law) (t := 1166) (pc' := 1164) dL_law_1161 (by decide) rfl ⟨by omega, by omega⟩ ⟨by omega, by omega⟩ (fun h9 => ?_) (fun h9 => absurd e0 h9)
  refine g_iload5 (Y := Y_L_law) (pc' := 1168) dL_law_1166 rfl ?_
  refine g_if_ne (Y := Y_L_law) (t := 1183) (pc' := 1171) dL_law_1168 (by decide) rfl ⟨by omega, by omega⟩ (fun h8 => ?_) (fun h8 => ?_)
  · refine g_goto (Y := Y_L_law) (t := 1323) dL_law_1183 (by decide) ?_
    exact hn _ _ _ _ _ _ _ _ _ hq (Nat.le_refl _) (Nat.le_refl _)
  · refine g_aload3 (Y := Y_L_law) (pc' := 1172) dL_law_1171 rfl ?_
    refine g_iconst (Y := Y_L_law) (pc' := 1173) dL_law_1172 rfl ?_
    refine g_lald (Y := Y_L_law) (pc' := 1174) dL_law_1173 rfl h124 (by decide) (by decide) ⟨by decide, by decide⟩ ?_
    refine g_iload6 (Y := Y_L_law) (pc' := 1176) dL_law_1174 rfl ?_
    refine g_i2l (Y := Y_L_law) (pc' := 1177) dL_law_1176 rfl ?_
    refine g_lcmp (Y := Y_L_law) (v := 0) (pc' := 1178) dL_law_1177 rfl (by rw [show J 124 (0 : Int).toNat = _ from e1 h8]; exact lcmp_eq _) ?_
    refine g_if_eq (Y := Y_L_law) (t := 1183) (pc' := 1181) dL_law_1178 (by decide) rfl ⟨by decide, by decide⟩ (fun _ => ?_) (fun h7 => absurd rfl h7)
    refine g_goto (Y := Y_L_law) (t := 1323) dL_law_1183 (by decide) ?_
    exact hn _ _ _ _ _ _ _ _ _ hq (Nat.le_refl _) (Nat.le_refl _)
set_option maxHeartbeats 2000000 in
set_option maxRecDepth 100000 in
theorem lc_17 {l : Launch} {E : QE} {T : Nat → Nat × Nat} {b Ln : Nat} {xs : Nat → Int32} {i : Int} {kc ks : Nat} (hl9 : l.stackTraces = false) (hi : 0 ≤ i ∧ i + 4 ≤ (Ln : Int)) (hLn : Ln ≤ 2048) (hkc : kc + 1 ≤ 601024) (hks : ks + 6 ≤ 7293034) (hn : NXT l E T b Ln xs i (kc + 1) (ks + 6)) {I : Nat → Nat → Int} {J : Nat → Nat → Int64} {R : Nat → Nat → Option Nat} {x5 x6 x7 x8 : Option Value} (hq : QR T I R) : GoT l E Y_L_law kc ks 1106 [some (.ref b), some (.ref (E.1 + 0)), some (.ref (E.1 + 110)), some (.ref (E.1 + 124)), some (.int (iz i)), x5, x6, x7, x8] [] (T, I, J, R, 125, 0) (TgW E b Ln xs) := by
  refine g_aload1 (Y := Y_L_law) (pc' := 1107) dL_law_1106 rfl ?_
  refine g_aload0 (Y := Y_L_law) (pc' := 1108) dL_law_1107 rfl ?_
  refine g_iload4 (Y := Y_L_law) (pc' := 1110) dL_law_1108 rfl ?_
  refine g_iconst (Y := Y_L_law) (pc' := 1111) dL_law_1110 rfl ?_
  refine g_iadd (Y := Y_L_law) (pc' := 1112) dL_law_1111 rfl ?_
  refine g_xld (pc' := 1113) dL_law_1112 rfl ⟨by omega, by omega⟩ hLn ?_
  refine g_aload0 (Y := Y_L_law) (pc' := 1114) dL_law_1113 rfl ?_
  refine g_iload4 (Y := Y_L_law) (pc' := 1116) dL_law_1114 rfl ?_
  refine g_iconst (Y := Y_L_law) (pc' := 1117) dL_law_1116 rfl ?_
  refine g_iadd (Y := Y_L_law) (pc' := 1118) dL_law_1117 rfl ?_
  refine g_xld (pc' := 1119) dL_law_1118 rfl ⟨by omega, by omega⟩ hLn ?_
  refine g_aload0 (Y := Y_L_law) (pc' := 1120) dL_law_1119 rfl ?_
  refine g_iload4 (Y := Y_L_law) (pc' := 1122) dL_law_1120 rfl ?_
  refine g_iconst (Y := Y_L_law) (pc' := 1123) dL_law_1122 rfl ?_
  refine g_iadd (Y := Y_L_law) (pc' := 1124) dL_law_1123 rfl ?_
  refine g_xld (pc' := 1125) dL_law_1124 rfl ⟨by omega, by omega⟩ hLn ?_
  refine g_aload3 (Y := Y_L_law) (pc' := 1126) dL_law_1125 rfl ?_
  refine g_callL (s_L_ifFailed hl9 hq.1 hq.2.2.2.1 hq.2.2.1 (xs (i + 1).toNat).toInt (i32rg _) (xs (i + 2).toNat).toInt (i32rg _) (xs (i + 3).toNat).toInt (i32rg _)) (pc' := 1129) dL_law_1126 rfl cv_W_136 (q_fit_mk (Nat.le_of_ble_eq_true rfl) (Nat.le_of_ble_eq_true rfl) hkc hks) rfl rfl rfl (fun r w1 hr => ?_)
  have hm := ml_ifFailed (J := J) hq (xs (i + 1).toNat).toInt (i32rg _) (xs (i + 2).toNat).toInt (i32rg _) (xs (i + 3).toNat).toInt (i32rg _)
  rcases hr with ⟨hx, rfl, rfl⟩ | ⟨hx, rfl, rfl⟩
  · exact lt_ifFailed (kc := kc + 1) (ks := ks + 6) hi hLn hkc hks hn (by decide) (hm.1 hx)
  · exact lt_ifFailed (kc := kc + 1) (ks := ks + 6) hi hLn hkc hks hn (by decide) (hm.2 hx)
set_option maxHeartbeats 2000000 in
set_option maxRecDepth 100000 in
theorem lt_find {l : Launch} {E : QE} {T : Nat → Nat × Nat} {b Ln : Nat} {xs : Nat → Int32} {i : Int} {kc ks : Nat} (hi : 0 ≤ i ∧ i + 4 ≤ (Ln : Int)) (hLn : Ln ≤ 2048) (hkc : kc ≤ 601024) (hks : ks ≤ 7293034) (hn : NXT l E T b Ln xs i kc ks) {c : Int} (hc : 0 ≤ c ∧ c ≤ 3) {I : Nat → Nat → Int} {J : Nat → Nat → Int64} {R : Nat → Nat → Option Nat} {x5 x6 x7 x8 : Option Value} (hr : RLx T c I (fun I9 => y_find I9 (xs (i + 1).toNat).toInt) J R) : GoT l E Y_L_law kc ks 1223 [some (.ref b), some (.ref (E.1 + 0)), some (.ref (E.1 + 110)), some (.ref (E.1 + 124)), some (.int (iz i)), x5, x6, x7, x8] [.int (iz c)] (T, I, J, R, 125, 0) (TgW E b Ln xs) := by
  have hmv : MV I := hr.1
  have hmb : MdB T R 125 := hr.2.1
  have h110 : T 110 = (5, 0) := hmb.1
  have h124 : T 124 = (10, 1) := hr.2.2.2.2.2.2.1
  have e0 : (y_find I (xs (i + 1).toNat).toInt).2 110 0 = c := hr.2.2.1
  have e1 : c = 0 → J 124 0 = (iz (y_find I (xs (i + 1).toNat).toInt).1).toInt64 := hr.2.2.2.1
  have hq : QR T (y_find I (xs (i + 1).toNat).toInt).2 R := hr.2.2.2.2
  clear hr
  refine g_istore5 (Y := Y_L_law) (pc' := 1225) dL_law_1223 rfl (Nat.le_of_ble_eq_true rfl) rfl ?_
  refine g_aload2 (Y := Y_L_law) (pc' := 1226) dL_law_1225 rfl ?_
  refine g_aload0 (Y := Y_L_law) (pc' := 1227) dL_law_1226 rfl ?_
  refine g_iload4 (Y := Y_L_law) (pc' := 1229) dL_law_1227 rfl ?_
  refine g_iconst (Y := Y_L_law) (pc' := 1230) dL_law_1229 rfl ?_
  refine g_iadd (Y := Y_L_law) (pc' := 1231) dL_law_1230 rfl ?_
  refine g_xld (pc' := 1232) dL_law_1231 rfl ⟨by omega, by omega⟩ hLn ?_
  refine g_callVv (Y := Y_L_law) (c := 5) (k := 110) (s_X5_find hmb hmv (xs (i + 1).toNat).toInt (i32rg _)) (pc' := 1235) dL_law_1232 rfl cv_W_149 (q_fit_mk (Nat.le_of_ble_eq_true rfl) (Nat.le_of_ble_eq_true rfl) hkc hks) h110 (by show (110 : Nat) < 125; decide) ⟨by decide, _, rfl, rfl⟩ rfl rfl rfl rfl ?_
  generalize y_find I (xs (i + 1).toNat).toInt = r at e0 e1 hq ⊢
  refine g_istore6 (Y := Y_L_law) (pc' := 1237) dL_law_1235 rfl (Nat.le_of_ble_eq_true rfl) rfl ?_
  refine g_aload2 (Y := Y_L_law) (pc' := 1238) dL_law_1237 rfl ?_
  refine g_callVv (Y := Y_L_law) (c := 5) (k := 110) (s_X5_thrown hmb) (pc' := 1241) dL_law_1238 rfl cv_W_80 (q_fit_mk (Nat.le_of_ble_eq_true rfl) (Nat.le_of_ble_eq_true rfl) hkc hks) h110 (by show (110 : Nat) < 125; decide) ⟨by decide, _, rfl, rfl⟩ rfl rfl rfl rfl ?_
  refine g_iload5 (Y := Y_L_law) (pc' := 1243) dL_law_1241 rfl ?_
  refine g_icmp_eq (Y := Y_L_law) (t := 1248) (pc' := 1246) dL_law_1243 (by decide) rfl ⟨by omega, by omega⟩ ⟨by omega, by omega⟩ (fun h9 => ?_) (fun h9 => absurd e0 h9)
  refine g_iload5 (Y := Y_L_law) (pc' := 1250) dL_law_1248 rfl ?_
  refine g_if_ne (Y := Y_L_law) (t := 1265) (pc' := 1253) dL_law_1250 (by decide) rfl ⟨by omega, by omega⟩ (fun h8 => ?_) (fun h8 => ?_)
  · refine g_goto (Y := Y_L_law) (t := 1323) dL_law_1265 (by decide) ?_
    exact hn _ _ _ _ _ _ _ _ _ hq (Nat.le_refl _) (Nat.le_refl _)
  · refine g_aload3 (Y := Y_L_law) (pc' := 1254) dL_law_1253 rfl ?_
    refine g_iconst (Y := Y_L_law) (pc' := 1255) dL_law_1254 rfl ?_
    refine g_lald (Y := Y_L_law) (pc' := 1256) dL_law_1255 rfl h124 (by decide) (by decide) ⟨by decide, by decide⟩ ?_
    refine g_iload6 (Y := Y_L_law) (pc' := 1258) dL_law_1256 rfl ?_
    refine g_i2l (Y := Y_L_law) (pc' := 1259) dL_law_1258 rfl ?_
    refine g_lcmp (Y := Y_L_law) (v := 0) (pc' := 1260) dL_law_1259 rfl (by rw [show J 124 (0 : Int).toNat = _ from e1 h8]; exact lcmp_eq _) ?_
    refine g_if_eq (Y := Y_L_law) (t := 1265) (pc' := 1263) dL_law_1260 (by decide) rfl ⟨by decide, by decide⟩ (fun _ => ?_) (fun h7 => absurd rfl h7)
    refine g_goto (Y := Y_L_law) (t := 1323) dL_law_1265 (by decide) ?_
    exact hn _ _ _ _ _ _ _ _ _ hq (Nat.le_refl _) (Nat.le_refl _)
set_option maxHeartbeats 2000000 in
set_option maxRecDepth 100000 in
theorem lc_20 {l : Launch} {E : QE} {T : Nat → Nat × Nat} {b Ln : Nat} {xs : Nat → Int32} {i : Int} {kc ks : Nat} (hl9 : l.stackTraces = false) (hi : 0 ≤ i ∧ i + 4 ≤ (Ln : Int)) (hLn : Ln ≤ 2048) (hkc : kc + 1 ≤ 601024) (hks : ks + 6 ≤ 7293034) (hn : NXT l E T b Ln xs i (kc + 1) (ks + 6)) {I : Nat → Nat → Int} {J : Nat → Nat → Int64} {R : Nat → Nat → Option Nat} {x5 x6 x7 x8 : Option Value} (hq : QR T I R) : GoT l E Y_L_law kc ks 1212 [some (.ref b), some (.ref (E.1 + 0)), some (.ref (E.1 + 110)), some (.ref (E.1 + 124)), some (.int (iz i)), x5, x6, x7, x8] [] (T, I, J, R, 125, 0) (TgW E b Ln xs) := by
  refine g_aload1 (Y := Y_L_law) (pc' := 1213) dL_law_1212 rfl ?_
  refine g_aload0 (Y := Y_L_law) (pc' := 1214) dL_law_1213 rfl ?_
  refine g_iload4 (Y := Y_L_law) (pc' := 1216) dL_law_1214 rfl ?_
  refine g_iconst (Y := Y_L_law) (pc' := 1217) dL_law_1216 rfl ?_
  refine g_iadd (Y := Y_L_law) (pc' := 1218) dL_law_1217 rfl ?_
  refine g_xld (pc' := 1219) dL_law_1218 rfl ⟨by omega, by omega⟩ hLn ?_
  refine g_aload3 (Y := Y_L_law) (pc' := 1220) dL_law_1219 rfl ?_
  refine g_callL (s_L_find hl9 hq.1 hq.2.2.2.1 hq.2.2.1 (xs (i + 1).toNat).toInt (i32rg _)) (pc' := 1223) dL_law_1220 rfl cv_W_147 (q_fit_mk (Nat.le_of_ble_eq_true rfl) (Nat.le_of_ble_eq_true rfl) hkc hks) rfl rfl rfl (fun r w1 hr => ?_)
  have hm := ml_find (J := J) hq (xs (i + 1).toNat).toInt (i32rg _)
  rcases hr with ⟨hx, rfl, rfl⟩ | ⟨hx, rfl, rfl⟩
  · exact lt_find (kc := kc + 1) (ks := ks + 6) hi hLn hkc hks hn (by decide) (hm.1 hx)
  · exact lt_find (kc := kc + 1) (ks := ks + 6) hi hLn hkc hks hn (by decide) (hm.2 hx)
end
