section
/-! the law's cases -/
set_option maxHeartbeats 2000000 in
set_option maxRecDepth 100000 in
theorem lc_8 {l : Launch} {E : QE} {T : Nat → Nat × Nat} {b Ln : Nat} {xs : Nat → Int32} {i : Int} {kc ks : Nat} (hl9 : l.stackTraces = false) (hi : 0 ≤ i ∧ i + 4 ≤ (Ln : Int)) (hLn : Ln ≤ 2048) (hkc : kc + 1 ≤ 601024) (hks : ks + 6 ≤ 7293034) (hn : NXT l E T b Ln xs i (kc + 1) (ks + 6)) {I : Nat → Nat → Int} {J : Nat → Nat → Int64} {R : Nat → Nat → Option Nat} {x5 x6 x7 x8 : Option Value} (hq : QR T I R) : GoT l E Y_L_law kc ks 664 [some (.ref b), some (.ref (E.1 + 0)), some (.ref (E.1 + 110)), some (.ref (E.1 + 124)), some (.int (iz i)), x5, x6, x7, x8] [] (T, I, J, R, 125, 0) (TgW E b Ln xs) := by
  have h0 : T 0 = (4, 0) := hq.1.1
  have hmb : MdB T R 125 := hq.2.1
  have h110 : T 110 = (5, 0) := hmb.1
  have hk1 : kc ≤ 601024 := by omega
  have hs1 : ks ≤ 7293034 := by omega
  obtain ⟨I1, hI1, m1, m2, m3, m4⟩ := ml_clearBuffer (J := J) hq
  refine g_aload1 (Y := Y_L_law) (pc' := 665) dL_law_664 rfl ?_
  refine g_callVv (Y := Y_L_law) (c := 4) (k := 0) (s_X4_clearBuffer hq.1 hq.2.2.2.1) (pc' := 668) dL_law_665 rfl cv_W_106 (q_fit_mk (Nat.le_of_ble_eq_true rfl) (Nat.le_of_ble_eq_true rfl) hk1 hs1) h0 (by show (0 : Nat) < 125; decide) ⟨by decide, _, rfl, rfl⟩ rfl rfl rfl rfl ?_
  rw [← hI1]
  refine g_aload2 (Y := Y_L_law) (pc' := 669) dL_law_668 rfl ?_
  refine g_callVv (Y := Y_L_law) (c := 5) (k := 110) (s_X5_clearBuffer hmb) (pc' := 672) dL_law_669 rfl cv_W_109 (q_fit_mk (Nat.le_of_ble_eq_true rfl) (Nat.le_of_ble_eq_true rfl) hk1 hs1) h110 (by show (110 : Nat) < 125; decide) ⟨by decide, _, rfl, rfl⟩ rfl rfl rfl rfl ?_
  rw [← m2]
  refine g_icmp_eq (Y := Y_L_law) (t := 1323) (pc' := 675) dL_law_672 (by decide) rfl m3 m3 (fun h9 => ?_) (fun h9 => absurd rfl h9)
  exact hn _ _ _ _ _ _ _ _ _ m4 (by omega) (by omega)
set_option maxHeartbeats 2000000 in
set_option maxRecDepth 100000 in
theorem lc_9 {l : Launch} {E : QE} {T : Nat → Nat × Nat} {b Ln : Nat} {xs : Nat → Int32} {i : Int} {kc ks : Nat} (hl9 : l.stackTraces = false) (hi : 0 ≤ i ∧ i + 4 ≤ (Ln : Int)) (hLn : Ln ≤ 2048) (hkc : kc + 1 ≤ 601024) (hks : ks + 6 ≤ 7293034) (hn : NXT l E T b Ln xs i (kc + 1) (ks + 6)) {I : Nat → Nat → Int} {J : Nat → Nat → Int64} {R : Nat → Nat → Option Nat} {x5 x6 x7 x8 : Option Value} (hq : QR T I R) : GoT l E Y_L_law kc ks 677 [some (.ref b), some (.ref (E.1 + 0)), some (.ref (E.1 + 110)), some (.ref (E.1 + 124)), some (.int (iz i)), x5, x6, x7, x8] [] (T, I, J, R, 125, 0) (TgW E b Ln xs) := by
  have h0 : T 0 = (4, 0) := hq.1.1
  have hmb : MdB T R 125 := hq.2.1
  have h110 : T 110 = (5, 0) := hmb.1
  have hk1 : kc ≤ 601024 := by omega
  have hs1 : ks ≤ 7293034 := by omega
  obtain ⟨I1, hI1, m1, m2, m3, m4⟩ := ml_firstError (J := J) hq
  refine g_aload1 (Y := Y_L_law) (pc' := 678) dL_law_677 rfl ?_
  refine g_callVv (Y := Y_L_law) (c := 4) (k := 0) (s_X4_firstError hq.1 hq.2.2.2.1) (pc' := 681) dL_law_678 rfl cv_W_110 (q_fit_mk (Nat.le_of_ble_eq_true rfl) (Nat.le_of_ble_eq_true rfl) hk1 hs1) h0 (by show (0 : Nat) < 125; decide) ⟨by decide, _, rfl, rfl⟩ rfl rfl rfl rfl ?_
  rw [← hI1]
  refine g_aload2 (Y := Y_L_law) (pc' := 682) dL_law_681 rfl ?_
  refine g_callVv (Y := Y_L_law) (c := 5) (k := 110) (s_X5_firstError hmb m1.2.2.1) (pc' := 685) dL_law_682 rfl cv_W_113 (q_fit_mk (Nat.le_of_ble_eq_true rfl) (Nat.le_of_ble_eq_true rfl) hk1 hs1) h110 (by show (110 : Nat) < 125; decide) ⟨by decide, _, rfl, rfl⟩ rfl rfl rfl rfl ?_
  rw [← m2]
  refine g_icmp_eq (Y := Y_L_law) (t := 1323) (pc' := 688) dL_law_685 (by decide) rfl m3 m3 (fun h9 => ?_) (fun h9 => absurd rfl h9)
  exact hn _ _ _ _ _ _ _ _ _ m4 (by omega) (by omega)
set_option maxHeartbeats 2000000 in
set_option maxRecDepth 100000 in
theorem lc_18 {l : Launch} {E : QE} {T : Nat → Nat × Nat} {b Ln : Nat} {xs : Nat → Int32} {i : Int} {kc ks : Nat} (hl9 : l.stackTraces = false) (hi : 0 ≤ i ∧ i + 4 ≤ (Ln : Int)) (hLn : Ln ≤ 2048) (hkc : kc + 1 ≤ 601024) (hks : ks + 6 ≤ 7293034) (hn : NXT l E T b Ln xs i (kc + 1) (ks + 6)) {I : Nat → Nat → Int} {J : Nat → Nat → Int64} {R : Nat → Nat → Option Nat} {x5 x6 x7 x8 : Option Value} (hq : QR T I R) : GoT l E Y_L_law kc ks 1186 [some (.ref b), some (.ref (E.1 + 0)), some (.ref (E.1 + 110)), some (.ref (E.1 + 124)), some (.int (iz i)), x5, x6, x7, x8] [] (T, I, J, R, 125, 0) (TgW E b Ln xs) := by
  have h0 : T 0 = (4, 0) := hq.1.1
  have hmb : MdB T R 125 := hq.2.1
  have h110 : T 110 = (5, 0) := hmb.1
  have hk1 : kc ≤ 601024 := by omega
  have hs1 : ks ≤ 7293034 := by omega
  obtain ⟨I1, hI1, m1, m2, m3, m4⟩ := ml_worst (J := J) hq
  refine g_aload1 (Y := Y_L_law) (pc' := 1187) dL_law_1186 rfl ?_
  refine g_callVv (Y := Y_L_law) (c := 4) (k := 0) (s_X4_worst hq.1 hq.2.2.2.1) (pc' := 1190) dL_law_1187 rfl cv_W_139 (q_fit_mk (Nat.le_of_ble_eq_true rfl) (Nat.le_of_ble_eq_true rfl) hk1 hs1) h0 (by show (0 : Nat) < 125; decide) ⟨by decide, _, rfl, rfl⟩ rfl rfl rfl rfl ?_
  subst hI1
  refine g_aload2 (Y := Y_L_law) (pc' := 1191) dL_law_1190 rfl ?_
  refine g_callVv (Y := Y_L_law) (c := 5) (k := 110) (s_X5_worst hmb m1) (pc' := 1194) dL_law_1191 rfl cv_W_142 (q_fit_mk (Nat.le_of_ble_eq_true rfl) (Nat.le_of_ble_eq_true rfl) hk1 hs1) h110 (by show (110 : Nat) < 125; decide) ⟨by decide, _, rfl, rfl⟩ rfl rfl rfl rfl ?_
  rw [← m2]
  refine g_icmp_eq (Y := Y_L_law) (t := 1323) (pc' := 1197) dL_law_1194 (by decide) rfl m3 m3 (fun h9 => ?_) (fun h9 => absurd rfl h9)
  exact hn _ _ _ _ _ _ _ _ _ m4 (by omega) (by omega)
set_option maxHeartbeats 2000000 in
set_option maxRecDepth 100000 in
theorem lc_19 {l : Launch} {E : QE} {T : Nat → Nat × Nat} {b Ln : Nat} {xs : Nat → Int32} {i : Int} {kc ks : Nat} (hl9 : l.stackTraces = false) (hi : 0 ≤ i ∧ i + 4 ≤ (Ln : Int)) (hLn : Ln ≤ 2048) (hkc : kc + 1 ≤ 601024) (hks : ks + 6 ≤ 7293034) (hn : NXT l E T b Ln xs i (kc + 1) (ks + 6)) {I : Nat → Nat → Int} {J : Nat → Nat → Int64} {R : Nat → Nat → Option Nat} {x5 x6 x7 x8 : Option Value} (hq : QR T I R) : GoT l E Y_L_law kc ks 1199 [some (.ref b), some (.ref (E.1 + 0)), some (.ref (E.1 + 110)), some (.ref (E.1 + 124)), some (.int (iz i)), x5, x6, x7, x8] [] (T, I, J, R, 125, 0) (TgW E b Ln xs) := by
  have h0 : T 0 = (4, 0) := hq.1.1
  have hmb : MdB T R 125 := hq.2.1
  have h110 : T 110 = (5, 0) := hmb.1
  have hk1 : kc ≤ 601024 := by omega
  have hs1 : ks ≤ 7293034 := by omega
  obtain ⟨I1, hI1, m1, m2, m3, m4⟩ := ml_untidy (J := J) hq
  refine g_aload1 (Y := Y_L_law) (pc' := 1200) dL_law_1199 rfl ?_
  refine g_callVv (Y := Y_L_law) (c := 4) (k := 0) (s_X4_untidy hq.1 hq.2.2.2.1) (pc' := 1203) dL_law_1200 rfl cv_W_143 (q_fit_mk (Nat.le_of_ble_eq_true rfl) (Nat.le_of_ble_eq_true rfl) hk1 hs1) h0 (by show (0 : Nat) < 125; decide) ⟨by decide, _, rfl, rfl⟩ rfl rfl rfl rfl ?_
  rw [← hI1]
  refine g_aload2 (Y := Y_L_law) (pc' := 1204) dL_law_1203 rfl ?_
  refine g_callVv (Y := Y_L_law) (c := 5) (k := 110) (s_X5_untidy hmb m1) (pc' := 1207) dL_law_1204 rfl cv_W_146 (q_fit_mk (Nat.le_of_ble_eq_true rfl) (Nat.le_of_ble_eq_true rfl) hk1 hs1) h110 (by show (110 : Nat) < 125; decide) ⟨by decide, _, rfl, rfl⟩ rfl rfl rfl rfl ?_
  rw [← m2]
  refine g_icmp_eq (Y := Y_L_law) (t := 1323) (pc' := 1210) dL_law_1207 (by decide) rfl m3 m3 (fun h9 => ?_) (fun h9 => absurd rfl h9)
  exact hn _ _ _ _ _ _ _ _ _ m4 (by omega) (by omega)
set_option maxHeartbeats 2000000 in
set_option maxRecDepth 100000 in
theorem lc_21 {l : Launch} {E : QE} {T : Nat → Nat × Nat} {b Ln : Nat} {xs : Nat → Int32} {i : Int} {kc ks : Nat} (hl9 : l.stackTraces = false) (hi : 0 ≤ i ∧ i + 4 ≤ (Ln : Int)) (hLn : Ln ≤ 2048) (hkc : kc + 1 ≤ 601024) (hks : ks + 6 ≤ 7293034) (hn : NXT l E T b Ln xs i (kc + 1) (ks + 6)) {I : Nat → Nat → Int} {J : Nat → Nat → Int64} {R : Nat → Nat → Option Nat} {x5 x6 x7 x8 : Option Value} (hq : QR T I R) : GoT l E Y_L_law kc ks 1268 [some (.ref b), some (.ref (E.1 + 0)), some (.ref (E.1 + 110)), some (.ref (E.1 + 124)), some (.int (iz i)), x5, x6, x7, x8] [] (T, I, J, R, 125, 0) (TgW E b Ln xs) := by
  have h0 : T 0 = (4, 0) := hq.1.1
  have hmb : MdB T R 125 := hq.2.1
  have h110 : T 110 = (5, 0) := hmb.1
  have hk1 : kc ≤ 601024 := by omega
  have hs1 : ks ≤ 7293034 := by omega
  obtain ⟨m1, m2, m4⟩ := ml_goodShare (J := J) hq
  have hgr := good_rg (thr_ZV (t := 0) hq.2.2.2.2.1.1)
  refine g_aload1 (Y := Y_L_law) (pc' := 1269) dL_law_1268 rfl ?_
  refine g_callVv (Y := Y_L_law) (c := 4) (k := 0) (s_X4_goodShare hq.1 hq.2.2.2.1 m1) (pc' := 1272) dL_law_1269 rfl cv_W_150 (q_fit_mk (Nat.le_of_ble_eq_true rfl) (Nat.le_of_ble_eq_true rfl) hk1 hs1) h0 (by show (0 : Nat) < 125; decide) ⟨by decide, _, rfl, rfl⟩ rfl rfl rfl rfl ?_
  refine g_dstore5 (Y := Y_L_law) (pc' := 1274) dL_law_1272 rfl (Nat.le_of_ble_eq_true rfl) rfl ?_
  refine g_aload2 (Y := Y_L_law) (pc' := 1275) dL_law_1274 rfl ?_
  refine g_callVv (Y := Y_L_law) (c := 5) (k := 110) (s_X5_goodShare hmb hq.2.2.2.2.1 hgr) (pc' := 1278) dL_law_1275 rfl cv_W_154 (q_fit_mk (Nat.le_of_ble_eq_true rfl) (Nat.le_of_ble_eq_true rfl) hk1 hs1) h110 (by show (110 : Nat) < 125; decide) ⟨by decide, _, rfl, rfl⟩ rfl rfl rfl rfl ?_
  refine g_dstore7 (Y := Y_L_law) (pc' := 1280) dL_law_1278 rfl (Nat.le_of_ble_eq_true rfl) rfl ?_
  refine g_dload5 (Y := Y_L_law) (pc' := 1282) dL_law_1280 rfl ?_
  refine g_dload7 (Y := Y_L_law) (pc' := 1284) dL_law_1282 rfl ?_
  rw [m2]
  refine g_dcmp (Y := Y_L_law) (v := 0) (pc' := 1285) dL_law_1284 rfl (dcmp_eq0 hgr) ?_
  refine g_if_eq (Y := Y_L_law) (t := 1306) (pc' := 1288) dL_law_1285 (by decide) rfl ⟨by decide, by decide⟩ (fun _ => ?_) (fun h7 => absurd rfl h7)
  refine g_goto (Y := Y_L_law) (t := 1323) dL_law_1306 (by decide) ?_
  exact hn _ _ _ _ _ _ _ _ _ m4 (by omega) (by omega)
set_option maxHeartbeats 2000000 in
set_option maxRecDepth 100000 in
theorem lc_22 {l : Launch} {E : QE} {T : Nat → Nat × Nat} {b Ln : Nat} {xs : Nat → Int32} {i : Int} {kc ks : Nat} (hl9 : l.stackTraces = false) (hi : 0 ≤ i ∧ i + 4 ≤ (Ln : Int)) (hLn : Ln ≤ 2048) (hkc : kc + 1 ≤ 601024) (hks : ks + 6 ≤ 7293034) (hn : NXT l E T b Ln xs i (kc + 1) (ks + 6)) {I : Nat → Nat → Int} {J : Nat → Nat → Int64} {R : Nat → Nat → Option Nat} {x5 x6 x7 x8 : Option Value} (hq : QR T I R) : GoT l E Y_L_law kc ks 1309 [some (.ref b), some (.ref (E.1 + 0)), some (.ref (E.1 + 110)), some (.ref (E.1 + 124)), some (.int (iz i)), x5, x6, x7, x8] [] (T, I, J, R, 125, 0) (TgW E b Ln xs) := by
  have h0 : T 0 = (4, 0) := hq.1.1
  have hmb : MdB T R 125 := hq.2.1
  have h110 : T 110 = (5, 0) := hmb.1
  have hk1 : kc ≤ 601024 := by omega
  have hs1 : ks ≤ 7293034 := by omega
  obtain ⟨m0, m1, m2, m4⟩ := ml_digest (J := J) hq
  refine g_aload1 (Y := Y_L_law) (pc' := 1310) dL_law_1309 rfl ?_
  refine g_callVv (Y := Y_L_law) (c := 4) (k := 0) (s_X4_digest hq.1 hq.2.2.2.1 m0) (pc' := 1313) dL_law_1310 rfl cv_W_155 (q_fit_mk (Nat.le_of_ble_eq_true rfl) (Nat.le_of_ble_eq_true rfl) hk1 hs1) h0 (by show (0 : Nat) < 125; decide) ⟨by decide, _, rfl, rfl⟩ rfl rfl rfl rfl ?_
  refine g_aload2 (Y := Y_L_law) (pc' := 1314) dL_law_1313 rfl ?_
  refine g_callVv (Y := Y_L_law) (c := 5) (k := 110) (s_X5_digest hmb m1) (pc' := 1317) dL_law_1314 rfl cv_W_159 (q_fit_mk (Nat.le_of_ble_eq_true rfl) (Nat.le_of_ble_eq_true rfl) hk1 hs1) h110 (by show (110 : Nat) < 125; decide) ⟨by decide, _, rfl, rfl⟩ rfl rfl rfl rfl ?_
  refine g_lcmp (Y := Y_L_law) (v := 0) (pc' := 1318) dL_law_1317 rfl (by rw [← m2]; exact lcmp_eq _) ?_
  refine g_if_eq (Y := Y_L_law) (t := 1323) (pc' := 1321) dL_law_1318 (by decide) rfl ⟨by decide, by decide⟩ (fun _ => ?_) (fun h7 => absurd rfl h7)
  exact hn _ _ _ _ _ _ _ _ _ m4 (by omega) (by omega)
end
