/-! the law: the choice of the case, the loop, the start -/
section
set_option maxHeartbeats 4000000 in
set_option maxRecDepth 100000 in
theorem law_sw {l : Launch} {E : QE} {T : Nat → Nat × Nat} {b Ln : Nat} {xs : Nat → Int32} {i : Int} {kc ks : Nat} (hl9 : l.stackTraces = false) (hi : 0 ≤ i ∧ i + 4 ≤ (Ln : Int)) (hLn : Ln ≤ 2048) (hkc : kc + 1 ≤ 601024) (hks : ks + 6 ≤ 7293034) (hn : NXT l E T b Ln xs i (kc + 1) (ks + 6)) {I : Nat → Nat → Int} {J : Nat → Nat → Int64} {R : Nat → Nat → Option Nat} {x5 x6 x7 x8 : Option Value} (hq : QR T I R) {w : Nat} (hw : w < 32) : GoT l E Y_L_law kc ks 39 [some (.ref b), some (.ref (E.1 + 0)), some (.ref (E.1 + 110)), some (.ref (E.1 + 124)), some (.int (iz i)), x5, x6, x7, x8] [.int (iz (w : Int))] (T, I, J, R, 125, 0) (TgW E b Ln xs) := by
  by_cases h : 22 < w
  · refine g_tswOut (Y := Y_L_law) (t := 1323) dL_law_39 ⟨by omega, by omega⟩ (Or.inr (by omega)) (by decide) ?_
    exact hn _ _ _ _ _ _ _ _ _ hq (Nat.le_succ _) (by omega)
  · match w, h with
    | 0, _ => exact g_tswIn (Y := Y_L_law) (t := 144) (off := 105) dL_law_39 ⟨by decide, by decide⟩ (by decide) (by decide) rfl (by decide) (lc_0 hl9 hi hLn hkc hks hn hq)
    | 1, _ => exact g_tswIn (Y := Y_L_law) (t := 212) (off := 173) dL_law_39 ⟨by decide, by decide⟩ (by decide) (by decide) rfl (by decide) (lc_1 hl9 hi hLn hkc hks hn hq)
    | 2, _ => exact g_tswIn (Y := Y_L_law) (t := 292) (off := 253) dL_law_39 ⟨by decide, by decide⟩ (by decide) (by decide) rfl (by decide) (lc_2 hl9 hi hLn hkc hks hn hq)
    | 3, _ => exact g_tswIn (Y := Y_L_law) (t := 348) (off := 309) dL_law_39 ⟨by decide, by decide⟩ (by decide) (by decide) rfl (by decide) (lc_3 hl9 hi hLn hkc hks hn hq)
    | 4, _ => exact g_tswIn (Y := Y_L_law) (t := 416) (off := 377) dL_law_39 ⟨by decide, by decide⟩ (by decide) (by decide) rfl (by decide) (lc_4 hl9 hi hLn hkc hks hn hq)
    | 5, _ => exact g_tswIn (Y := Y_L_law) (t := 484) (off := 445) dL_law_39 ⟨by decide, by decide⟩ (by decide) (by decide) rfl (by decide) (lc_5 hl9 hi hLn hkc hks hn hq)
    | 6, _ => exact g_tswIn (Y := Y_L_law) (t := 540) (off := 501) dL_law_39 ⟨by decide, by decide⟩ (by decide) (by decide) rfl (by decide) (lc_6 hl9 hi hLn hkc hks hn hq)
    | 7, _ => exact g_tswIn (Y := Y_L_law) (t := 608) (off := 569) dL_law_39 ⟨by decide, by decide⟩ (by decide) (by decide) rfl (by decide) (lc_7 hl9 hi hLn hkc hks hn hq)
    | 8, _ => exact g_tswIn (Y := Y_L_law) (t := 664) (off := 625) dL_law_39 ⟨by decide, by decide⟩ (by decide) (by decide) rfl (by decide) (lc_8 hl9 hi hLn hkc hks hn hq)
    | 9, _ => exact g_tswIn (Y := Y_L_law) (t := 677) (off := 638) dL_law_39 ⟨by decide, by decide⟩ (by decide) (by decide) rfl (by decide) (lc_9 hl9 hi hLn hkc hks hn hq)
    | 10, _ => exact g_tswIn (Y := Y_L_law) (t := 690) (off := 651) dL_law_39 ⟨by decide, by decide⟩ (by decide) (by decide) rfl (by decide) (lc_10 hl9 hi hLn hkc hks hn hq)
    | 11, _ => exact g_tswIn (Y := Y_L_law) (t := 734) (off := 695) dL_law_39 ⟨by decide, by decide⟩ (by decide) (by decide) rfl (by decide) (lc_11 hl9 hi hLn hkc hks hn hq)
    | 12, _ => exact g_tswIn (Y := Y_L_law) (t := 778) (off := 739) dL_law_39 ⟨by decide, by decide⟩ (by decide) (by decide) rfl (by decide) (lc_12 hl9 hi hLn hkc hks hn hq)
    | 13, _ => exact g_tswIn (Y := Y_L_law) (t := 858) (off := 819) dL_law_39 ⟨by decide, by decide⟩ (by decide) (by decide) rfl (by decide) (lc_13 hl9 hi hLn hkc hks hn hq)
    | 14, _ => exact g_tswIn (Y := Y_L_law) (t := 926) (off := 887) dL_law_39 ⟨by decide, by decide⟩ (by decide) (by decide) rfl (by decide) (lc_14 hl9 hi hLn hkc hks hn hq)
    | 15, _ => exact g_tswIn (Y := Y_L_law) (t := 994) (off := 955) dL_law_39 ⟨by decide, by decide⟩ (by decide) (by decide) rfl (by decide) (lc_15 hl9 hi hLn hkc hks hn hq)
    | 16, _ => exact g_tswIn (Y := Y_L_law) (t := 1050) (off := 1011) dL_law_39 ⟨by decide, by decide⟩ (by decide) (by decide) rfl (by decide) (lc_16 hl9 hi hLn hkc hks hn hq)
    | 17, _ => exact g_tswIn (Y := Y_L_law) (t := 1106) (off := 1067) dL_law_39 ⟨by decide, by decide⟩ (by decide) (by decide) rfl (by decide) (lc_17 hl9 hi hLn hkc hks hn hq)
    | 18, _ => exact g_tswIn (Y := Y_L_law) (t := 1186) (off := 1147) dL_law_39 ⟨by decide, by decide⟩ (by decide) (by decide) rfl (by decide) (lc_18 hl9 hi hLn hkc hks hn hq)
    | 19, _ => exact g_tswIn (Y := Y_L_law) (t := 1199) (off := 1160) dL_law_39 ⟨by decide, by decide⟩ (by decide) (by decide) rfl (by decide) (lc_19 hl9 hi hLn hkc hks hn hq)
    | 20, _ => exact g_tswIn (Y := Y_L_law) (t := 1212) (off := 1173) dL_law_39 ⟨by decide, by decide⟩ (by decide) (by decide) rfl (by decide) (lc_20 hl9 hi hLn hkc hks hn hq)
    | 21, _ => exact g_tswIn (Y := Y_L_law) (t := 1268) (off := 1229) dL_law_39 ⟨by decide, by decide⟩ (by decide) (by decide) rfl (by decide) (lc_21 hl9 hi hLn hkc hks hn hq)
    | 22, _ => exact g_tswIn (Y := Y_L_law) (t := 1309) (off := 1270) dL_law_39 ⟨by decide, by decide⟩ (by decide) (by decide) rfl (by decide) (lc_22 hl9 hi hLn hkc hks hn hq)
    | w + 23, h => exact absurd (show 22 < w + 23 by omega) h
set_option maxHeartbeats 4000000 in
set_option maxRecDepth 100000 in
theorem law_loop {l : Launch} {E : QE} {T : Nat → Nat × Nat} {b Ln : Nat} {xs : Nat → Int32} (hl9 : l.stackTraces = false) (hLn : Ln ≤ 2048) : ∀ (m : Nat) (i : Int) (kc ks : Nat), 0 ≤ i → i ≤ 2052 → (Ln : Int) - i ≤ 4 * (m : Int) + 3 → kc + m ≤ 601024 → ks + 6 * m ≤ 7293034 → ∀ {I : Nat → Nat → Int} {J : Nat → Nat → Int64} {R : Nat → Nat → Option Nat} {x5 x6 x7 x8 : Option Value}, QR T I R → GoT l E Y_L_law kc ks 23 [some (.ref b), some (.ref (E.1 + 0)), some (.ref (E.1 + 110)), some (.ref (E.1 + 124)), some (.int (iz i)), x5, x6, x7, x8] [] (T, I, J, R, 125, 0) (TgW E b Ln xs) := by
  intro m
  induction m with
  | zero =>
    intro i kc ks h0 h1 hm hkc hks I J R x5 x6 x7 x8 hq
    refine g_iload4 (Y := Y_L_law) (pc' := 25) dL_law_23 rfl ?_
    refine g_aload0 (Y := Y_L_law) (pc' := 26) dL_law_25 rfl ?_
    refine g_xlen (pc' := 27) dL_law_26 rfl hLn ?_
    refine g_iconst (Y := Y_L_law) (pc' := 28) dL_law_27 rfl ?_
    refine g_isub (Y := Y_L_law) (pc' := 29) dL_law_28 rfl ?_
    refine g_icmp_gt (Y := Y_L_law) (t := 1329) (pc' := 32) dL_law_29 (by decide) rfl ⟨by omega, by omega⟩ ⟨by omega, by omega⟩ (fun h9 => ?_) (fun h9 => absurd (by omega) h9)
    refine g_iconst (Y := Y_L_law) (pc' := 1330) dL_law_1329 rfl ?_
    exact g_lawend dL_law_1330 (by omega) (by omega)
  | succ m ih =>
    intro i kc ks h0 h1 hm hkc hks I J R x5 x6 x7 x8 hq
    refine g_iload4 (Y := Y_L_law) (pc' := 25) dL_law_23 rfl ?_
    refine g_aload0 (Y := Y_L_law) (pc' := 26) dL_law_25 rfl ?_
    refine g_xlen (pc' := 27) dL_law_26 rfl hLn ?_
    refine g_iconst (Y := Y_L_law) (pc' := 28) dL_law_27 rfl ?_
    refine g_isub (Y := Y_L_law) (pc' := 29) dL_law_28 rfl ?_
    refine g_icmp_gt (Y := Y_L_law) (t := 1329) (pc' := 32) dL_law_29 (by decide) rfl ⟨by omega, by omega⟩ ⟨by omega, by omega⟩ (fun h9 => ?_) (fun h9 => ?_)
    · refine g_iconst (Y := Y_L_law) (pc' := 1330) dL_law_1329 rfl ?_
      exact g_lawend dL_law_1330 (by omega) (by omega)
    · refine g_aload0 (Y := Y_L_law) (pc' := 33) dL_law_32 rfl ?_
      refine g_iload4 (Y := Y_L_law) (pc' := 35) dL_law_33 rfl ?_
      refine g_xld (pc' := 36) dL_law_35 rfl ⟨h0, by omega⟩ hLn ?_
      refine g_bipush (Y := Y_L_law) (pc' := 38) dL_law_36 (by decide) rfl ?_
      obtain ⟨w, hw, he⟩ := iand31 (iz (xs i.toNat).toInt)
      refine g_iand (Y := Y_L_law) (pc' := 39) dL_law_38 rfl he ?_
      refine law_sw hl9 ⟨h0, by omega⟩ hLn (by omega) (by omega) ?_ hq hw
      intro I1 J1 R1 kc1 ks1 y5 y6 y7 y8 hq1 hc1 hs1
      refine g_iinc4 (Y := Y_L_law) (pc' := 1326) dL_law_1323 rfl (Nat.le_of_ble_eq_true rfl) rfl ?_
      refine g_goto (Y := Y_L_law) (t := 23) dL_law_1326 (by decide) ?_
      exact ih (i + 4) kc1 ks1 (by omega) (by omega) (by omega) (by omega) (by omega) hq1
def qTs : List (Nat × Nat) := [(4, 0), (3, 0), (6, 12), (6, 3), (6, 480), (6, 480), (6, 576), (2, 0), (8, 22), (6, 576), (7, 576), (6, 12), (6, 12), (1, 0), (1, 0), (1, 0), (1, 0), (1, 0), (1, 0), (1, 0), (1, 0), (1, 0), (1, 0), (1, 0), (1, 0), (1, 0), (1, 0), (1, 0), (1, 0), (1, 0), (1, 0), (1, 0), (1, 0), (1, 0), (1, 0), (9, 6), (0, 0), (6, 60), (6, 15), (7, 15), (3, 0), (6, 12), (6, 3), (6, 480), (6, 480), (6, 576), (2, 0), (8, 22), (6, 576), (7, 576), (6, 12), (6, 12), (1, 0), (1, 0), (1, 0), (1, 0), (1, 0), (1, 0), (1, 0), (1, 0), (1, 0), (1, 0), (1, 0), (1, 0), (1, 0), (1, 0), (1, 0), (1, 0), (1, 0), (1, 0), (1, 0), (1, 0), (1, 0), (1, 0), (3, 0), (6, 12), (6, 3), (6, 480), (6, 480), (6, 576), (3, 0), (6, 12), (6, 3), (6, 480), (6, 480), (6, 576), (3, 0), (6, 12), (6, 3), (6, 480), (6, 480), (6, 576), (3, 0), (6, 12), (6, 3), (6, 480), (6, 480), (6, 576), (3, 0), (6, 12), (6, 3), (6, 480), (6, 480), (6, 576), (3, 0), (6, 12), (6, 3), (6, 480), (6, 480), (6, 576), (5, 0), (6, 1554), (6, 9324), (6, 1554), (6, 60), (6, 66), (6, 66), (6, 66), (6, 66), (6, 66), (6, 66), (6, 576), (7, 576), (6, 60), (10, 1)]
def qT (n : Nat) : Nat × Nat := qTs.getD n (0, 0)
end
