/-! LineMap: looks, clear, takeSpots -/
def f_isSpot (I : Nat → Nat → Int) (k : Nat) (c : Int) : Int := if (0 ≤ c ∧ c < 576) ∧ ¬ I (k + 3) c.toNat = 0 then 1 else 0
def f_isAv (I : Nat → Nat → Int) (k : Nat) (c : Int) : Int := if (0 ≤ c ∧ c < 576) ∧ I (k + 3) c.toNat = 0 ∧ 0 < I (k + 2) c.toNat then 1 else 0
def f_isGood (I : Nat → Nat → Int) (k : Nat) (c : Int) : Int := if (0 ≤ c ∧ c < 576) ∧ I (k + 3) c.toNat = 0 ∧ I (k + 2) c.toNat = 0 then 1 else 0
def f_hits (I : Nat → Nat → Int) (k : Nat) (c : Int) : Int := if 0 ≤ c ∧ c < 576 then I (k + 2) c.toNat else 0
set_option maxHeartbeats 2000000 in
set_option maxRecDepth 100000 in
theorem s_X2_isSpot {l : Launch} {E : QE} {T : Nat → Nat × Nat} {I : Nat → Nat → Int} {J : Nat → Nat → Int64} {R : Nat → Nat → Option Nat} {n z : Nat} {k : Nat} (hk : LmB T R n k) (c : Int) (hc : -2147483648 ≤ c ∧ c < 2147483648) (hb : ∀ j : Nat, I (k + 3) j = 0 ∨ I (k + 3) j = 1)  : SpV l E Y_X2_isSpot [.ref (E.1 + k), .int (iz c)] (T, I, J, R, n, z) (.int (iz (f_isSpot I k c))) (T, I, J, R, n, z) := by
  obtain ⟨t0, t1, t2, t3, t4, t5, r0, r1, r2, r3, r4, rl, hn⟩ := hk
  have hb1 := hb c.toNat
  unfold f_isSpot
  refine Sp.of [some (.ref (E.1 + k)), some (.int (iz c))] (by decide +kernel) (Nat.le_of_ble_eq_true rfl) (fun _ h => h) ?_
  refine g_iload1 (Y := Y_X2_isSpot) (pc' := 1) dX2_isSpot_0 rfl ?_
  refine g_callSNv (Y := Y_X2_isSpot) (s_X4_isCell _ ⟨by omega, by omega⟩) (pc' := 4) dX2_isSpot_1 rfl cv_X2_65 rfl rfl rfl rfl rfl ?_
  refine g_if_eq (Y := Y_X2_isSpot) (t := 20) (pc' := 7) dX2_isSpot_4 (by decide) rfl ⟨by omega, by omega⟩ (fun h4 => ?_) (fun h4 => ?_)
  · refine g_iconst (Y := Y_X2_isSpot) (pc' := 21) dX2_isSpot_20 rfl ?_
    exact g_zret (Y := Y_X2_isSpot) dX2_isSpot_21 rfl (by decide) (Nat.zero_le _) (Nat.zero_le _) (⟨vi (by first | omega | (split <;> omega) | rfl), rfl⟩)
  · refine g_aload0 (Y := Y_X2_isSpot) (pc' := 8) dX2_isSpot_7 rfl ?_
    refine g_getR (Y := Y_X2_isSpot) (pc' := 11) dX2_isSpot_8 rfl fl_X2_21 rfl (by assumption) (by omega) (by assumption) ?_
    refine g_iload1 (Y := Y_X2_isSpot) (pc' := 12) dX2_isSpot_11 rfl ?_
    refine g_zald (Y := Y_X2_isSpot) (pc' := 13) dX2_isSpot_12 rfl (by assumption) (by omega) (by decide) ⟨by omega, by omega⟩ ?_
    refine g_if_eq (Y := Y_X2_isSpot) (t := 20) (pc' := 16) dX2_isSpot_13 (by decide) rfl ⟨by omega, by omega⟩ (fun h13 => ?_) (fun h13 => ?_)
    · refine g_iconst (Y := Y_X2_isSpot) (pc' := 21) dX2_isSpot_20 rfl ?_
      exact g_zret (Y := Y_X2_isSpot) dX2_isSpot_21 rfl (by decide) (Nat.zero_le _) (Nat.zero_le _) (⟨vi (by first | omega | (split <;> omega) | rfl), rfl⟩)
    · refine g_iconst (Y := Y_X2_isSpot) (pc' := 17) dX2_isSpot_16 rfl ?_
      refine g_goto (Y := Y_X2_isSpot) (t := 21) dX2_isSpot_17 (by decide) ?_
      exact g_zret (Y := Y_X2_isSpot) dX2_isSpot_21 rfl (by decide) (Nat.zero_le _) (Nat.zero_le _) (⟨vi (by first | omega | (split <;> omega) | rfl), rfl⟩)
set_option maxHeartbeats 2000000 in
set_option maxRecDepth 100000 in
theorem s_X2_isAvoided {l : Launch} {E : QE} {T : Nat → Nat × Nat} {I : Nat → Nat → Int} {J : Nat → Nat → Int64} {R : Nat → Nat → Option Nat} {n z : Nat} {k : Nat} (hk : LmB T R n k) (c : Int) (hc : -2147483648 ≤ c ∧ c < 2147483648) (hb : ∀ j : Nat, I (k + 3) j = 0 ∨ I (k + 3) j = 1) (hh : (∀ j : Nat, -2147483648 ≤ I (k + 2) j ∧ I (k + 2) j < 2147483648))  : SpV l E Y_X2_isAvoided [.ref (E.1 + k), .int (iz c)] (T, I, J, R, n, z) (.int (iz (f_isAv I k c))) (T, I, J, R, n, z) := by
  obtain ⟨t0, t1, t2, t3, t4, t5, r0, r1, r2, r3, r4, rl, hn⟩ := hk
  have hb1 := hb c.toNat
  unfold f_isAv
  have hh1 := hh c.toNat
  refine Sp.of [some (.ref (E.1 + k)), some (.int (iz c))] (by decide +kernel) (Nat.le_of_ble_eq_true rfl) (fun _ h => h) ?_
  refine g_iload1 (Y := Y_X2_isAvoided) (pc' := 1) dX2_isAvoided_0 rfl ?_
  refine g_callSNv (Y := Y_X2_isAvoided) (s_X4_isCell _ ⟨by omega, by omega⟩) (pc' := 4) dX2_isAvoided_1 rfl cv_X2_65 rfl rfl rfl rfl rfl ?_
  refine g_if_eq (Y := Y_X2_isAvoided) (t := 29) (pc' := 7) dX2_isAvoided_4 (by decide) rfl ⟨by omega, by omega⟩ (fun h4 => ?_) (fun h4 => ?_)
  · refine g_iconst (Y := Y_X2_isAvoided) (pc' := 30) dX2_isAvoided_29 rfl ?_
    exact g_zret (Y := Y_X2_isAvoided) dX2_isAvoided_30 rfl (by decide) (Nat.zero_le _) (Nat.zero_le _) (⟨vi (by first | omega | (split <;> omega) | rfl), rfl⟩)
  · refine g_aload0 (Y := Y_X2_isAvoided) (pc' := 8) dX2_isAvoided_7 rfl ?_
    refine g_getR (Y := Y_X2_isAvoided) (pc' := 11) dX2_isAvoided_8 rfl fl_X2_21 rfl (by assumption) (by omega) (by assumption) ?_
    refine g_iload1 (Y := Y_X2_isAvoided) (pc' := 12) dX2_isAvoided_11 rfl ?_
    refine g_zald (Y := Y_X2_isAvoided) (pc' := 13) dX2_isAvoided_12 rfl (by assumption) (by omega) (by decide) ⟨by omega, by omega⟩ ?_
    refine g_if_ne (Y := Y_X2_isAvoided) (t := 29) (pc' := 16) dX2_isAvoided_13 (by decide) rfl ⟨by omega, by omega⟩ (fun h13 => ?_) (fun h13 => ?_)
    · refine g_iconst (Y := Y_X2_isAvoided) (pc' := 30) dX2_isAvoided_29 rfl ?_
      exact g_zret (Y := Y_X2_isAvoided) dX2_isAvoided_30 rfl (by decide) (Nat.zero_le _) (Nat.zero_le _) (⟨vi (by first | omega | (split <;> omega) | rfl), rfl⟩)
    · refine g_aload0 (Y := Y_X2_isAvoided) (pc' := 17) dX2_isAvoided_16 rfl ?_
      refine g_getR (Y := Y_X2_isAvoided) (pc' := 20) dX2_isAvoided_17 rfl fl_X2_17 rfl (by assumption) (by omega) (by assumption) ?_
      refine g_iload1 (Y := Y_X2_isAvoided) (pc' := 21) dX2_isAvoided_20 rfl ?_
      refine g_iald (Y := Y_X2_isAvoided) (pc' := 22) dX2_isAvoided_21 rfl (by assumption) (by omega) (by decide) ⟨by omega, by omega⟩ ?_
      refine g_if_le (Y := Y_X2_isAvoided) (t := 29) (pc' := 25) dX2_isAvoided_22 (by decide) rfl ⟨by omega, by omega⟩ (fun h22 => ?_) (fun h22 => ?_)
      · refine g_iconst (Y := Y_X2_isAvoided) (pc' := 30) dX2_isAvoided_29 rfl ?_
        exact g_zret (Y := Y_X2_isAvoided) dX2_isAvoided_30 rfl (by decide) (Nat.zero_le _) (Nat.zero_le _) (⟨vi (by first | omega | (split <;> omega) | rfl), rfl⟩)
      · refine g_iconst (Y := Y_X2_isAvoided) (pc' := 26) dX2_isAvoided_25 rfl ?_
        refine g_goto (Y := Y_X2_isAvoided) (t := 30) dX2_isAvoided_26 (by decide) ?_
        exact g_zret (Y := Y_X2_isAvoided) dX2_isAvoided_30 rfl (by decide) (Nat.zero_le _) (Nat.zero_le _) (⟨vi (by first | omega | (split <;> omega) | rfl), rfl⟩)
set_option maxHeartbeats 2000000 in
set_option maxRecDepth 100000 in
theorem s_X2_isGood {l : Launch} {E : QE} {T : Nat → Nat × Nat} {I : Nat → Nat → Int} {J : Nat → Nat → Int64} {R : Nat → Nat → Option Nat} {n z : Nat} {k : Nat} (hk : LmB T R n k) (c : Int) (hc : -2147483648 ≤ c ∧ c < 2147483648) (hb : ∀ j : Nat, I (k + 3) j = 0 ∨ I (k + 3) j = 1) (hh : (∀ j : Nat, -2147483648 ≤ I (k + 2) j ∧ I (k + 2) j < 2147483648))  : SpV l E Y_X2_isGood [.ref (E.1 + k), .int (iz c)] (T, I, J, R, n, z) (.int (iz (f_isGood I k c))) (T, I, J, R, n, z) := by
  obtain ⟨t0, t1, t2, t3, t4, t5, r0, r1, r2, r3, r4, rl, hn⟩ := hk
  have hb1 := hb c.toNat
  unfold f_isGood
  have hh1 := hh c.toNat
  refine Sp.of [some (.ref (E.1 + k)), some (.int (iz c))] (by decide +kernel) (Nat.le_of_ble_eq_true rfl) (fun _ h => h) ?_
  refine g_iload1 (Y := Y_X2_isGood) (pc' := 1) dX2_isGood_0 rfl ?_
  refine g_callSNv (Y := Y_X2_isGood) (s_X4_isCell _ ⟨by omega, by omega⟩) (pc' := 4) dX2_isGood_1 rfl cv_X2_65 rfl rfl rfl rfl rfl ?_
  refine g_if_eq (Y := Y_X2_isGood) (t := 29) (pc' := 7) dX2_isGood_4 (by decide) rfl ⟨by omega, by omega⟩ (fun h4 => ?_) (fun h4 => ?_)
  · refine g_iconst (Y := Y_X2_isGood) (pc' := 30) dX2_isGood_29 rfl ?_
    exact g_zret (Y := Y_X2_isGood) dX2_isGood_30 rfl (by decide) (Nat.zero_le _) (Nat.zero_le _) (⟨vi (by first | omega | (split <;> omega) | rfl), rfl⟩)
  · refine g_aload0 (Y := Y_X2_isGood) (pc' := 8) dX2_isGood_7 rfl ?_
    refine g_getR (Y := Y_X2_isGood) (pc' := 11) dX2_isGood_8 rfl fl_X2_21 rfl (by assumption) (by omega) (by assumption) ?_
    refine g_iload1 (Y := Y_X2_isGood) (pc' := 12) dX2_isGood_11 rfl ?_
    refine g_zald (Y := Y_X2_isGood) (pc' := 13) dX2_isGood_12 rfl (by assumption) (by omega) (by decide) ⟨by omega, by omega⟩ ?_
    refine g_if_ne (Y := Y_X2_isGood) (t := 29) (pc' := 16) dX2_isGood_13 (by decide) rfl ⟨by omega, by omega⟩ (fun h13 => ?_) (fun h13 => ?_)
    · refine g_iconst (Y := Y_X2_isGood) (pc' := 30) dX2_isGood_29 rfl ?_
      exact g_zret (Y := Y_X2_isGood) dX2_isGood_30 rfl (by decide) (Nat.zero_le _) (Nat.zero_le _) (⟨vi (by first | omega | (split <;> omega) | rfl), rfl⟩)
    · refine g_aload0 (Y := Y_X2_isGood) (pc' := 17) dX2_isGood_16 rfl ?_
      refine g_getR (Y := Y_X2_isGood) (pc' := 20) dX2_isGood_17 rfl fl_X2_17 rfl (by assumption) (by omega) (by assumption) ?_
      refine g_iload1 (Y := Y_X2_isGood) (pc' := 21) dX2_isGood_20 rfl ?_
      refine g_iald (Y := Y_X2_isGood) (pc' := 22) dX2_isGood_21 rfl (by assumption) (by omega) (by decide) ⟨by omega, by omega⟩ ?_
      refine g_if_ne (Y := Y_X2_isGood) (t := 29) (pc' := 25) dX2_isGood_22 (by decide) rfl ⟨by omega, by omega⟩ (fun h22 => ?_) (fun h22 => ?_)
      · refine g_iconst (Y := Y_X2_isGood) (pc' := 30) dX2_isGood_29 rfl ?_
        exact g_zret (Y := Y_X2_isGood) dX2_isGood_30 rfl (by decide) (Nat.zero_le _) (Nat.zero_le _) (⟨vi (by first | omega | (split <;> omega) | rfl), rfl⟩)
      · refine g_iconst (Y := Y_X2_isGood) (pc' := 26) dX2_isGood_25 rfl ?_
        refine g_goto (Y := Y_X2_isGood) (t := 30) dX2_isGood_26 (by decide) ?_
        exact g_zret (Y := Y_X2_isGood) dX2_isGood_30 rfl (by decide) (Nat.zero_le _) (Nat.zero_le _) (⟨vi (by first | omega | (split <;> omega) | rfl), rfl⟩)
set_option maxHeartbeats 2000000 in
set_option maxRecDepth 100000 in
theorem s_X2_hitsOf {l : Launch} {E : QE} {T : Nat → Nat × Nat} {I : Nat → Nat → Int} {J : Nat → Nat → Int64} {R : Nat → Nat → Option Nat} {n z : Nat} {k : Nat} (hk : LmB T R n k) (c : Int) (hc : -2147483648 ≤ c ∧ c < 2147483648)  : SpV l E Y_X2_hitsOf [.ref (E.1 + k), .int (iz c)] (T, I, J, R, n, z) (.int (iz (f_hits I k c))) (T, I, J, R, n, z) := by
  obtain ⟨t0, t1, t2, t3, t4, t5, r0, r1, r2, r3, r4, rl, hn⟩ := hk
  unfold f_hits
  refine Sp.of [some (.ref (E.1 + k)), some (.int (iz c))] (by decide +kernel) (Nat.le_of_ble_eq_true rfl) (fun _ h => h) ?_
  refine g_iload1 (Y := Y_X2_hitsOf) (pc' := 1) dX2_hitsOf_0 rfl ?_
  refine g_callSNv (Y := Y_X2_hitsOf) (s_X4_isCell _ ⟨by omega, by omega⟩) (pc' := 4) dX2_hitsOf_1 rfl cv_X2_65 rfl rfl rfl rfl rfl ?_
  refine g_if_eq (Y := Y_X2_hitsOf) (t := 16) (pc' := 7) dX2_hitsOf_4 (by decide) rfl ⟨by omega, by omega⟩ (fun h4 => ?_) (fun h4 => ?_)
  · refine g_iconst (Y := Y_X2_hitsOf) (pc' := 17) dX2_hitsOf_16 rfl ?_
    exact g_iret (Y := Y_X2_hitsOf) dX2_hitsOf_17 rfl (Nat.zero_le _) (Nat.zero_le _) (⟨vi (by first | omega | (split <;> omega) | rfl), rfl⟩)
  · refine g_aload0 (Y := Y_X2_hitsOf) (pc' := 8) dX2_hitsOf_7 rfl ?_
    refine g_getR (Y := Y_X2_hitsOf) (pc' := 11) dX2_hitsOf_8 rfl fl_X2_17 rfl (by assumption) (by omega) (by assumption) ?_
    refine g_iload1 (Y := Y_X2_hitsOf) (pc' := 12) dX2_hitsOf_11 rfl ?_
    refine g_iald (Y := Y_X2_hitsOf) (pc' := 13) dX2_hitsOf_12 rfl (by assumption) (by omega) (by decide) ⟨by omega, by omega⟩ ?_
    refine g_goto (Y := Y_X2_hitsOf) (t := 17) dX2_hitsOf_13 (by decide) ?_
    exact g_iret (Y := Y_X2_hitsOf) dX2_hitsOf_17 rfl (Nat.zero_le _) (Nat.zero_le _) (⟨vi (by first | omega | (split <;> omega) | rfl), rfl⟩)
set_option maxHeartbeats 2000000 in
set_option maxRecDepth 100000 in
theorem s_X2_lineAt_in {l : Launch} {E : QE} {T : Nat → Nat × Nat} {I : Nat → Nat → Int} {J : Nat → Nat → Int64} {R : Nat → Nat → Option Nat} {n z : Nat} {k : Nat} (hk : LmB T R n k) (h6 : 0 ≤ I k 6 ∧ I k 6 ≤ 22) (i : Nat) (hi : (i : Int) < I k 6) : SpV l E Y_X2_lineAt [.ref (E.1 + k), .int (iz (i : Int))] (T, I, J, R, n, z) (.ref (E.1 + (k + 6 + i))) (T, I, J, R, n, z) := by
  obtain ⟨t0, t1, t2, t3, t4, t5, r0, r1, r2, r3, r4, rl, hn⟩ := hk
  refine Sp.of [some (.ref (E.1 + k)), some (.int (iz (i : Int)))] (by decide +kernel) (Nat.le_of_ble_eq_true rfl) (fun _ h => h) ?_
  refine g_iload1 (Y := Y_X2_lineAt) (pc' := 1) dX2_lineAt_0 rfl ?_
  refine g_if_lt (Y := Y_X2_lineAt) (t := 30) (pc' := 4) dX2_lineAt_1 (by decide) rfl ⟨by omega, by omega⟩ (fun h1 => ?_) (fun h1 => ?_)
  · exfalso; omega
  · refine g_iload1 (Y := Y_X2_lineAt) (pc' := 5) dX2_lineAt_4 rfl ?_
    refine g_aload0 (Y := Y_X2_lineAt) (pc' := 6) dX2_lineAt_5 rfl ?_
    refine g_getI (Y := Y_X2_lineAt) (pc' := 9) dX2_lineAt_6 rfl fl_X2_35 rfl (by assumption) (by omega) ?_
    refine g_icmp_ge (Y := Y_X2_lineAt) (t := 30) (pc' := 12) dX2_lineAt_9 (by decide) rfl ⟨by omega, by omega⟩ ⟨by omega, by omega⟩ (fun h9 => ?_) (fun h9 => ?_)
    · exfalso; omega
    · refine g_iload1 (Y := Y_X2_lineAt) (pc' := 13) dX2_lineAt_12 rfl ?_
      refine g_aload0 (Y := Y_X2_lineAt) (pc' := 14) dX2_lineAt_13 rfl ?_
      refine g_getR (Y := Y_X2_lineAt) (pc' := 17) dX2_lineAt_14 rfl fl_X2_11 rfl (by assumption) (by omega) (by assumption) ?_
      refine g_alen (Y := Y_X2_lineAt) (pc' := 18) dX2_lineAt_17 rfl (by assumption) (by decide) (by omega) ?_
      refine g_icmp_ge (Y := Y_X2_lineAt) (t := 30) (pc' := 21) dX2_lineAt_18 (by decide) rfl ⟨by omega, by omega⟩ ⟨by omega, by omega⟩ (fun h18 => ?_) (fun h18 => ?_)
      · exfalso; omega
      · refine g_aload0 (Y := Y_X2_lineAt) (pc' := 22) dX2_lineAt_21 rfl ?_
        refine g_getR (Y := Y_X2_lineAt) (pc' := 25) dX2_lineAt_22 rfl fl_X2_11 rfl (by assumption) (by omega) (by assumption) ?_
        refine g_iload1 (Y := Y_X2_lineAt) (pc' := 26) dX2_lineAt_25 rfl ?_
        refine g_aald (Y := Y_X2_lineAt) (pc' := 27) dX2_lineAt_26 rfl (by assumption) (by decide) (by omega) (by decide) ⟨by omega, by omega⟩ (rl i (by omega)).1 ?_
        refine g_goto (Y := Y_X2_lineAt) (t := 31) dX2_lineAt_27 (by decide) ?_
        exact g_aret (Y := Y_X2_lineAt) dX2_lineAt_31 rfl (Or.inr ⟨_, rfl⟩) (Nat.zero_le _) (Nat.zero_le _) (⟨rfl, rfl⟩)
set_option maxHeartbeats 2000000 in
set_option maxRecDepth 100000 in
theorem s_X2_lineAt_out {l : Launch} {E : QE} {T : Nat → Nat × Nat} {I : Nat → Nat → Int} {J : Nat → Nat → Int64} {R : Nat → Nat → Option Nat} {n z : Nat} {k : Nat} (hk : LmB T R n k) (h6 : 0 ≤ I k 6 ∧ I k 6 ≤ 22) (i : Int) (hir : -2147483648 ≤ i ∧ i < 2147483648) (hi : i < 0 ∨ I k 6 ≤ i) : SpV l E Y_X2_lineAt [.ref (E.1 + k), .int (iz i)] (T, I, J, R, n, z) (.null) (T, I, J, R, n, z) := by
  obtain ⟨t0, t1, t2, t3, t4, t5, r0, r1, r2, r3, r4, rl, hn⟩ := hk
  refine Sp.of [some (.ref (E.1 + k)), some (.int (iz i))] (by decide +kernel) (Nat.le_of_ble_eq_true rfl) (fun _ h => h) ?_
  refine g_iload1 (Y := Y_X2_lineAt) (pc' := 1) dX2_lineAt_0 rfl ?_
  refine g_if_lt (Y := Y_X2_lineAt) (t := 30) (pc' := 4) dX2_lineAt_1 (by decide) rfl ⟨by omega, by omega⟩ (fun h1 => ?_) (fun h1 => ?_)
  · refine g_null (Y := Y_X2_lineAt) (pc' := 31) dX2_lineAt_30 rfl ?_
    exact g_aret (Y := Y_X2_lineAt) dX2_lineAt_31 rfl (Or.inl rfl) (Nat.zero_le _) (Nat.zero_le _) (⟨rfl, rfl⟩)
  · refine g_iload1 (Y := Y_X2_lineAt) (pc' := 5) dX2_lineAt_4 rfl ?_
    refine g_aload0 (Y := Y_X2_lineAt) (pc' := 6) dX2_lineAt_5 rfl ?_
    refine g_getI (Y := Y_X2_lineAt) (pc' := 9) dX2_lineAt_6 rfl fl_X2_35 rfl (by assumption) (by omega) ?_
    refine g_icmp_ge (Y := Y_X2_lineAt) (t := 30) (pc' := 12) dX2_lineAt_9 (by decide) rfl ⟨by omega, by omega⟩ ⟨by omega, by omega⟩ (fun h9 => ?_) (fun h9 => ?_)
    · refine g_null (Y := Y_X2_lineAt) (pc' := 31) dX2_lineAt_30 rfl ?_
      exact g_aret (Y := Y_X2_lineAt) dX2_lineAt_31 rfl (Or.inl rfl) (Nat.zero_le _) (Nat.zero_le _) (⟨rfl, rfl⟩)
    · refine g_iload1 (Y := Y_X2_lineAt) (pc' := 13) dX2_lineAt_12 rfl ?_
      refine g_aload0 (Y := Y_X2_lineAt) (pc' := 14) dX2_lineAt_13 rfl ?_
      refine g_getR (Y := Y_X2_lineAt) (pc' := 17) dX2_lineAt_14 rfl fl_X2_11 rfl (by assumption) (by omega) (by assumption) ?_
      refine g_alen (Y := Y_X2_lineAt) (pc' := 18) dX2_lineAt_17 rfl (by assumption) (by decide) (by omega) ?_
      refine g_icmp_ge (Y := Y_X2_lineAt) (t := 30) (pc' := 21) dX2_lineAt_18 (by decide) rfl ⟨by omega, by omega⟩ ⟨by omega, by omega⟩ (fun h18 => ?_) (fun h18 => ?_)
      · refine g_null (Y := Y_X2_lineAt) (pc' := 31) dX2_lineAt_30 rfl ?_
        exact g_aret (Y := Y_X2_lineAt) dX2_lineAt_31 rfl (Or.inl rfl) (Nat.zero_le _) (Nat.zero_le _) (⟨rfl, rfl⟩)
      · exfalso; omega
set_option maxHeartbeats 2000000 in
set_option maxRecDepth 100000 in
theorem s_X2_trackOf {l : Launch} {E : QE} {T : Nat → Nat × Nat} {I : Nat → Nat → Int} {J : Nat → Nat → Int64} {R : Nat → Nat → Option Nat} {n z : Nat} {k : Nat} (hk : LmB T R n k) (i : Nat) (hi : i < 12) : SpV l E Y_X2_trackOf [.ref (E.1 + k), .int (iz (i : Int))] (T, I, J, R, n, z) (.int (iz (I (k + 4) i))) (T, I, J, R, n, z) := by
  obtain ⟨t0, t1, t2, t3, t4, t5, r0, r1, r2, r3, r4, rl, hn⟩ := hk
  refine Sp.of [some (.ref (E.1 + k)), some (.int (iz (i : Int)))] (by decide +kernel) (Nat.le_of_ble_eq_true rfl) (fun _ h => h) ?_
  refine g_iload1 (Y := Y_X2_trackOf) (pc' := 1) dX2_trackOf_0 rfl ?_
  refine g_if_lt (Y := Y_X2_trackOf) (t := 22) (pc' := 4) dX2_trackOf_1 (by decide) rfl ⟨by omega, by omega⟩ (fun h1 => ?_) (fun h1 => ?_)
  · exfalso; omega
  · refine g_iload1 (Y := Y_X2_trackOf) (pc' := 5) dX2_trackOf_4 rfl ?_
    refine g_aload0 (Y := Y_X2_trackOf) (pc' := 6) dX2_trackOf_5 rfl ?_
    refine g_getR (Y := Y_X2_trackOf) (pc' := 9) dX2_trackOf_6 rfl fl_X2_25 rfl (by assumption) (by omega) (by assumption) ?_
    refine g_alen (Y := Y_X2_trackOf) (pc' := 10) dX2_trackOf_9 rfl (by assumption) (by decide) (by omega) ?_
    refine g_icmp_ge (Y := Y_X2_trackOf) (t := 22) (pc' := 13) dX2_trackOf_10 (by decide) rfl ⟨by omega, by omega⟩ ⟨by omega, by omega⟩ (fun h10 => ?_) (fun h10 => ?_)
    · exfalso; omega
    · refine g_aload0 (Y := Y_X2_trackOf) (pc' := 14) dX2_trackOf_13 rfl ?_
      refine g_getR (Y := Y_X2_trackOf) (pc' := 17) dX2_trackOf_14 rfl fl_X2_25 rfl (by assumption) (by omega) (by assumption) ?_
      refine g_iload1 (Y := Y_X2_trackOf) (pc' := 18) dX2_trackOf_17 rfl ?_
      refine g_iald (Y := Y_X2_trackOf) (pc' := 19) dX2_trackOf_18 rfl (by assumption) (by omega) (by decide) ⟨by omega, by omega⟩ ?_
      refine g_goto (Y := Y_X2_trackOf) (t := 23) dX2_trackOf_19 (by decide) ?_
      exact g_iret (Y := Y_X2_trackOf) dX2_trackOf_23 rfl (Nat.zero_le _) (Nat.zero_le _) (⟨rfl, rfl⟩)
set_option maxHeartbeats 2000000 in
set_option maxRecDepth 100000 in
theorem s_X2_sectorOf {l : Launch} {E : QE} {T : Nat → Nat × Nat} {I : Nat → Nat → Int} {J : Nat → Nat → Int64} {R : Nat → Nat → Option Nat} {n z : Nat} {k : Nat} (hk : LmB T R n k) (i : Nat) (hi : i < 12) : SpV l E Y_X2_sectorOf [.ref (E.1 + k), .int (iz (i : Int))] (T, I, J, R, n, z) (.int (iz (I (k + 5) i))) (T, I, J, R, n, z) := by
  obtain ⟨t0, t1, t2, t3, t4, t5, r0, r1, r2, r3, r4, rl, hn⟩ := hk
  refine Sp.of [some (.ref (E.1 + k)), some (.int (iz (i : Int)))] (by decide +kernel) (Nat.le_of_ble_eq_true rfl) (fun _ h => h) ?_
  refine g_iload1 (Y := Y_X2_sectorOf) (pc' := 1) dX2_sectorOf_0 rfl ?_
  refine g_if_lt (Y := Y_X2_sectorOf) (t := 22) (pc' := 4) dX2_sectorOf_1 (by decide) rfl ⟨by omega, by omega⟩ (fun h1 => ?_) (fun h1 => ?_)
  · exfalso; omega
  · refine g_iload1 (Y := Y_X2_sectorOf) (pc' := 5) dX2_sectorOf_4 rfl ?_
    refine g_aload0 (Y := Y_X2_sectorOf) (pc' := 6) dX2_sectorOf_5 rfl ?_
    refine g_getR (Y := Y_X2_sectorOf) (pc' := 9) dX2_sectorOf_6 rfl fl_X2_28 rfl (by assumption) (by omega) (by assumption) ?_
    refine g_alen (Y := Y_X2_sectorOf) (pc' := 10) dX2_sectorOf_9 rfl (by assumption) (by decide) (by omega) ?_
    refine g_icmp_ge (Y := Y_X2_sectorOf) (t := 22) (pc' := 13) dX2_sectorOf_10 (by decide) rfl ⟨by omega, by omega⟩ ⟨by omega, by omega⟩ (fun h10 => ?_) (fun h10 => ?_)
    · exfalso; omega
    · refine g_aload0 (Y := Y_X2_sectorOf) (pc' := 14) dX2_sectorOf_13 rfl ?_
      refine g_getR (Y := Y_X2_sectorOf) (pc' := 17) dX2_sectorOf_14 rfl fl_X2_28 rfl (by assumption) (by omega) (by assumption) ?_
      refine g_iload1 (Y := Y_X2_sectorOf) (pc' := 18) dX2_sectorOf_17 rfl ?_
      refine g_iald (Y := Y_X2_sectorOf) (pc' := 19) dX2_sectorOf_18 rfl (by assumption) (by omega) (by decide) ⟨by omega, by omega⟩ ?_
      refine g_goto (Y := Y_X2_sectorOf) (t := 23) dX2_sectorOf_19 (by decide) ?_
      exact g_iret (Y := Y_X2_sectorOf) dX2_sectorOf_23 rfl (Nat.zero_le _) (Nat.zero_le _) (⟨rfl, rfl⟩)
def f_clr (I : Nat → Nat → Int) (k : Nat) : Nat → Nat → Nat → Nat → Int
  | 0, _ => I
  | m + 1, i => f_clr (u2 (u2 I (k + 2) i 0) (k + 3) i 0) k m (i + 1)
def f_z3 (I : Nat → Nat → Int) (k : Nat) : Nat → Nat → Int := u2 (u2 (u2 I k 5 0) k 6 0) k 7 0
def f_clear (I : Nat → Nat → Int) (k : Nat) : Nat → Nat → Int := f_z3 (f_clr I k 576 0) k
set_option maxHeartbeats 2000000 in
set_option maxRecDepth 100000 in
theorem s_X2_clear_lp {l : Launch} {E : QE} {T : Nat → Nat × Nat} {J : Nat → Nat → Int64} {R : Nat → Nat → Option Nat} {n z : Nat} {k : Nat} (hk : LmB T R n k) {K : Option Value → QW → Prop} : ∀ (m i : Nat) (I : Nat → Nat → Int), i + m = 576 → (∀ L1 : Int, Go l E Y_X2_clear 0 0 29 [some (.ref (E.1 + k)), some (.int (iz L1))] [] (T, f_clr I k m i, J, R, n, z) K) → Go l E Y_X2_clear 0 0 2 [some (.ref (E.1 + k)), some (.int (iz (i : Int)))] [] (T, I, J, R, n, z) K := by
  obtain ⟨t0, t1, t2, t3, t4, t5, r0, r1, r2, r3, r4, rl, hn⟩ := hk
  intro m
  induction m with
  | zero =>
    intro i I hm hend
    refine g_iload1 (Y := Y_X2_clear) (pc' := 3) dX2_clear_2 rfl ?_
    refine g_sipush (Y := Y_X2_clear) (pc' := 6) dX2_clear_3 rfl (by decide) ?_
    refine g_icmp_ge (Y := Y_X2_clear) (t := 29) (pc' := 9) dX2_clear_6 (by decide) rfl ⟨by omega, by omega⟩ ⟨by omega, by omega⟩ (fun h6 => ?_) (fun h6 => ?_)
    · exact hend _
    · exfalso; omega
  | succ m ih =>
    intro i I hm hend
    refine g_iload1 (Y := Y_X2_clear) (pc' := 3) dX2_clear_2 rfl ?_
    refine g_sipush (Y := Y_X2_clear) (pc' := 6) dX2_clear_3 rfl (by decide) ?_
    refine g_icmp_ge (Y := Y_X2_clear) (t := 29) (pc' := 9) dX2_clear_6 (by decide) rfl ⟨by omega, by omega⟩ ⟨by omega, by omega⟩ (fun h6 => ?_) (fun h6 => ?_)
    · exfalso; omega
    · refine g_aload0 (Y := Y_X2_clear) (pc' := 10) dX2_clear_9 rfl ?_
      refine g_getR (Y := Y_X2_clear) (pc' := 13) dX2_clear_10 rfl fl_X2_17 rfl (by assumption) (by omega) (by assumption) ?_
      refine g_iload1 (Y := Y_X2_clear) (pc' := 14) dX2_clear_13 rfl ?_
      refine g_iconst (Y := Y_X2_clear) (pc' := 15) dX2_clear_14 rfl ?_
      refine g_iast (Y := Y_X2_clear) (pc' := 16) dX2_clear_15 rfl (by assumption) (by omega) (by decide) ⟨by omega, by omega⟩ ?_
      refine g_aload0 (Y := Y_X2_clear) (pc' := 17) dX2_clear_16 rfl ?_
      refine g_getR (Y := Y_X2_clear) (pc' := 20) dX2_clear_17 rfl fl_X2_21 rfl (by assumption) (by omega) (by assumption) ?_
      refine g_iload1 (Y := Y_X2_clear) (pc' := 21) dX2_clear_20 rfl ?_
      refine g_iconst (Y := Y_X2_clear) (pc' := 22) dX2_clear_21 rfl ?_
      refine g_zast (Y := Y_X2_clear) (pc' := 23) dX2_clear_22 rfl (by assumption) (by omega) (by decide) ⟨by omega, by omega⟩ (by decide) ?_
      refine g_iinc1 (Y := Y_X2_clear) (pc' := 26) dX2_clear_23 rfl (Nat.le_of_ble_eq_true rfl) rfl ?_
      refine g_goto (Y := Y_X2_clear) (t := 2) dX2_clear_26 (by decide) ?_
      exact ih (i + 1) _ (by omega) hend
set_option maxHeartbeats 2000000 in
set_option maxRecDepth 100000 in
theorem s_X2_clear {l : Launch} {E : QE} {T : Nat → Nat × Nat} {I : Nat → Nat → Int} {J : Nat → Nat → Int64} {R : Nat → Nat → Option Nat} {n z : Nat} {k : Nat} (hk : LmB T R n k)  : SpN l E Y_X2_clear [.ref (E.1 + k)] (T, I, J, R, n, z) (T, f_clear I k, J, R, n, z) := by
  obtain ⟨t0, t1, t2, t3, t4, t5, r0, r1, r2, r3, r4, rl, hn⟩ := hk
  refine Sp.of [some (.ref (E.1 + k)), none] (by decide +kernel) (Nat.le_of_ble_eq_true rfl) (fun _ h => h) ?_
  refine g_iconst (Y := Y_X2_clear) (pc' := 1) dX2_clear_0 rfl ?_
  refine g_istore1 (Y := Y_X2_clear) (pc' := 2) dX2_clear_1 rfl (Nat.le_of_ble_eq_true rfl) rfl ?_
  refine s_X2_clear_lp ⟨t0, t1, t2, t3, t4, t5, r0, r1, r2, r3, r4, rl, hn⟩ 576 0 I rfl (fun L1 => ?_)
  refine g_aload0 (Y := Y_X2_clear) (pc' := 30) dX2_clear_29 rfl ?_
  refine g_iconst (Y := Y_X2_clear) (pc' := 31) dX2_clear_30 rfl ?_
  refine g_putI (Y := Y_X2_clear) (pc' := 34) dX2_clear_31 rfl fp_X2_31 rfl (by assumption) (by omega) ?_
  refine g_aload0 (Y := Y_X2_clear) (pc' := 35) dX2_clear_34 rfl ?_
  refine g_iconst (Y := Y_X2_clear) (pc' := 36) dX2_clear_35 rfl ?_
  refine g_putI (Y := Y_X2_clear) (pc' := 39) dX2_clear_36 rfl fp_X2_35 rfl (by assumption) (by omega) ?_
  refine g_aload0 (Y := Y_X2_clear) (pc' := 40) dX2_clear_39 rfl ?_
  refine g_iconst (Y := Y_X2_clear) (pc' := 41) dX2_clear_40 rfl ?_
  refine g_putI (Y := Y_X2_clear) (pc' := 44) dX2_clear_41 rfl fp_X2_38 rfl (by assumption) (by omega) ?_
  exact g_vret (Y := Y_X2_clear) dX2_clear_44 rfl (Nat.zero_le _) (Nat.zero_le _) (⟨rfl, rfl⟩)
def f_tk1 (I : Nat → Nat → Int) (k i : Nat) (c : Int) : Nat → Nat → Int := f_tk2 (u2 (u2 (u2 I (k + 3) c.toNat 1) (k + 4) i (c.tdiv 24)) (k + 5) i (c - c.tdiv 24 * 24)) k
where f_tk2 (I : Nat → Nat → Int) (k : Nat) : Nat → Nat → Int := u2 I k 5 (I k 5 + 1)
def f_tk (k ks : Nat) : Nat → Nat → (Nat → Nat → Int) → Nat → Nat → Int
  | 0, _, I => I
  | m + 1, i, I => if 0 ≤ I (ks + 1) i ∧ I (ks + 1) i < 576 then f_tk k ks m (i + 1) (f_tk1 I k i (I (ks + 1) i)) else f_tk k ks m (i + 1) I
set_option maxHeartbeats 2000000 in
set_option maxRecDepth 100000 in
theorem s_X2_takeSpots_lp {l : Launch} {E : QE} {T : Nat → Nat × Nat} {J : Nat → Nat → Int64} {R : Nat → Nat → Option Nat} {n z : Nat} {k : Nat} (hk : LmB T R n k) {ks : Nat} (hks : StB T R n ks) (hdj : ks + 6 ≤ k ∨ k + 28 ≤ ks) {K : Option Value → QW → Prop} (cnt : Int) (hcn : 0 ≤ cnt ∧ cnt ≤ 12) : ∀ (m i : Nat) (I : Nat → Nat → Int) (x3 : Option Value), I ks 5 = cnt → (∀ j : Nat, -2147483648 ≤ I (ks + 1) j ∧ I (ks + 1) j < 2147483648) → i + m = cnt.toNat → (∀ L2 : Int, ∀ L3, Go l E Y_X2_takeSpots 0 0 72 [some (.ref (E.1 + k)), some (.ref (E.1 + ks)), some (.int (iz L2)), L3] [] (T, f_tk k ks m i I, J, R, n, z) K) → Go l E Y_X2_takeSpots 0 0 2 [some (.ref (E.1 + k)), some (.ref (E.1 + ks)), some (.int (iz (i : Int))), x3] [] (T, I, J, R, n, z) K := by
  obtain ⟨t0, t1, t2, t3, t4, t5, r0, r1, r2, r3, r4, rl, hn⟩ := hk
  obtain ⟨v0, v1, v2, v3, v4, v5, q0, q1, q2, q3, q4, hn2⟩ := hks
  intro m
  induction m with
  | zero =>
    intro i I x3 hI hs hm hend
    refine g_iload2 (Y := Y_X2_takeSpots) (pc' := 3) dX2_takeSpots_2 rfl ?_
    refine g_aload1 (Y := Y_X2_takeSpots) (pc' := 4) dX2_takeSpots_3 rfl ?_
    refine g_getI (Y := Y_X2_takeSpots) (pc' := 7) dX2_takeSpots_4 rfl fl_X2_68 rfl (by assumption) (by omega) ?_
    refine g_icmp_ge (Y := Y_X2_takeSpots) (t := 72) (pc' := 10) dX2_takeSpots_7 (by decide) rfl ⟨by omega, by omega⟩ ⟨by omega, by omega⟩ (fun h7 => ?_) (fun h7 => ?_)
    · exact hend _ _
    · exfalso; omega
  | succ m ih =>
    intro i I x3 hI hs hm hend
    have hsi := hs i
    refine g_iload2 (Y := Y_X2_takeSpots) (pc' := 3) dX2_takeSpots_2 rfl ?_
    refine g_aload1 (Y := Y_X2_takeSpots) (pc' := 4) dX2_takeSpots_3 rfl ?_
    refine g_getI (Y := Y_X2_takeSpots) (pc' := 7) dX2_takeSpots_4 rfl fl_X2_68 rfl (by assumption) (by omega) ?_
    refine g_icmp_ge (Y := Y_X2_takeSpots) (t := 72) (pc' := 10) dX2_takeSpots_7 (by decide) rfl ⟨by omega, by omega⟩ ⟨by omega, by omega⟩ (fun h7 => ?_) (fun h7 => ?_)
    · exfalso; omega
    · refine g_iload2 (Y := Y_X2_takeSpots) (pc' := 11) dX2_takeSpots_10 rfl ?_
      refine g_bipush (Y := Y_X2_takeSpots) (pc' := 13) dX2_takeSpots_11 rfl (by decide) ?_
      refine g_icmp_ge (Y := Y_X2_takeSpots) (t := 72) (pc' := 16) dX2_takeSpots_13 (by decide) rfl ⟨by omega, by omega⟩ ⟨by omega, by omega⟩ (fun h13 => ?_) (fun h13 => ?_)
      · exfalso; omega
      · refine g_aload1 (Y := Y_X2_takeSpots) (pc' := 17) dX2_takeSpots_16 rfl ?_
        refine g_iload2 (Y := Y_X2_takeSpots) (pc' := 18) dX2_takeSpots_17 rfl ?_
        refine g_callVv (Y := Y_X2_takeSpots) (c := 3) (s_X3_cellOfSpot_in (J := J) (z := z) ⟨v0, v1, v2, v3, v4, v5, q0, q1, q2, q3, q4, hn2⟩ (by rw [hI]; exact hcn) i (by omega)) (pc' := 21) dX2_takeSpots_18 rfl cv_X2_71 rfl (by assumption) (by show _ < n; omega) ⟨by decide, _, rfl, rfl⟩ rfl rfl rfl rfl ?_
        refine g_istore3 (Y := Y_X2_takeSpots) (pc' := 22) dX2_takeSpots_21 rfl (Nat.le_of_ble_eq_true rfl) rfl ?_
        refine g_iload3 (Y := Y_X2_takeSpots) (pc' := 23) dX2_takeSpots_22 rfl ?_
        refine g_callSNv (Y := Y_X2_takeSpots) (s_X4_isCell _ ⟨by omega, by omega⟩) (pc' := 26) dX2_takeSpots_23 rfl cv_X2_65 rfl rfl rfl rfl rfl ?_
        refine g_if_eq (Y := Y_X2_takeSpots) (t := 66) (pc' := 29) dX2_takeSpots_26 (by decide) rfl ⟨by omega, by omega⟩ (fun h26 => ?_) (fun h26 => ?_)
        · have e : f_tk k ks (m + 1) i I = f_tk k ks m (i + 1) I := if_neg (by omega)
          rw [e] at hend
          refine g_iinc2 (Y := Y_X2_takeSpots) (pc' := 69) dX2_takeSpots_66 rfl (Nat.le_of_ble_eq_true rfl) rfl ?_
          refine g_goto (Y := Y_X2_takeSpots) (t := 2) dX2_takeSpots_69 (by decide) ?_
          first
            | exact ih (i + 1) _ _ hI hs (by omega) hend
            | exact ih (i + 1) (f_tk1 I k i (I (ks + 1) i)) _ ((congrFun (ek _ (Or.inl rfl)) 5).trans hI) (fun j => by rw [congrFun (ek _ (Or.inr rfl)) j]; exact hs j) (by omega) hend
        · have hc9 : 0 ≤ I (ks + 1) i ∧ I (ks + 1) i < 576 := by omega
          have e : f_tk k ks (m + 1) i I = f_tk k ks m (i + 1) (f_tk1 I k i (I (ks + 1) i)) := if_pos hc9
          rw [e] at hend
          have ek : ∀ a : Nat, a = ks ∨ a = ks + 1 → f_tk1 I k i (I (ks + 1) i) a = I a := by
            intro a ha
            unfold f_tk1 f_tk1.f_tk2
            rw [u2_ne (by omega), u2_ne (by omega), u2_ne (by omega), u2_ne (by omega)]
          refine g_aload0 (Y := Y_X2_takeSpots) (pc' := 30) dX2_takeSpots_29 rfl ?_
          refine g_getR (Y := Y_X2_takeSpots) (pc' := 33) dX2_takeSpots_30 rfl fl_X2_21 rfl (by assumption) (by omega) (by assumption) ?_
          refine g_iload3 (Y := Y_X2_takeSpots) (pc' := 34) dX2_takeSpots_33 rfl ?_
          refine g_iconst (Y := Y_X2_takeSpots) (pc' := 35) dX2_takeSpots_34 rfl ?_
          refine g_zast (Y := Y_X2_takeSpots) (pc' := 36) dX2_takeSpots_35 rfl (by assumption) (by omega) (by decide) ⟨by omega, by omega⟩ (by decide) ?_
          refine g_aload0 (Y := Y_X2_takeSpots) (pc' := 37) dX2_takeSpots_36 rfl ?_
          refine g_getR (Y := Y_X2_takeSpots) (pc' := 40) dX2_takeSpots_37 rfl fl_X2_25 rfl (by assumption) (by omega) (by assumption) ?_
          refine g_iload2 (Y := Y_X2_takeSpots) (pc' := 41) dX2_takeSpots_40 rfl ?_
          refine g_iload3 (Y := Y_X2_takeSpots) (pc' := 42) dX2_takeSpots_41 rfl ?_
          refine g_bipush (Y := Y_X2_takeSpots) (pc' := 44) dX2_takeSpots_42 rfl (by decide) ?_
          refine g_idiv (Y := Y_X2_takeSpots) (pc' := 45) dX2_takeSpots_44 rfl ⟨by omega, by omega⟩ ⟨by omega, by omega⟩ (by omega) ?_
          refine g_iast (Y := Y_X2_takeSpots) (pc' := 46) dX2_takeSpots_45 rfl (by assumption) (by omega) (by decide) ⟨by omega, by omega⟩ ?_
          refine g_aload0 (Y := Y_X2_takeSpots) (pc' := 47) dX2_takeSpots_46 rfl ?_
          refine g_getR (Y := Y_X2_takeSpots) (pc' := 50) dX2_takeSpots_47 rfl fl_X2_28 rfl (by assumption) (by omega) (by assumption) ?_
          refine g_iload2 (Y := Y_X2_takeSpots) (pc' := 51) dX2_takeSpots_50 rfl ?_
          refine g_iload3 (Y := Y_X2_takeSpots) (pc' := 52) dX2_takeSpots_51 rfl ?_
          refine g_bipush (Y := Y_X2_takeSpots) (pc' := 54) dX2_takeSpots_52 rfl (by decide) ?_
          refine g_irem (Y := Y_X2_takeSpots) (pc' := 55) dX2_takeSpots_54 rfl ⟨by omega, by omega⟩ ⟨by omega, by omega⟩ (by omega) ?_
          refine g_iast (Y := Y_X2_takeSpots) (pc' := 56) dX2_takeSpots_55 rfl (by assumption) (by omega) (by decide) ⟨by omega, by omega⟩ ?_
          refine g_aload0 (Y := Y_X2_takeSpots) (pc' := 57) dX2_takeSpots_56 rfl ?_
          refine g_dup (Y := Y_X2_takeSpots) (pc' := 58) dX2_takeSpots_57 rfl rfl ?_
          refine g_getI (Y := Y_X2_takeSpots) (pc' := 61) dX2_takeSpots_58 rfl fl_X2_31 rfl (by assumption) (by omega) ?_
          refine g_iconst (Y := Y_X2_takeSpots) (pc' := 62) dX2_takeSpots_61 rfl ?_
          refine g_iadd (Y := Y_X2_takeSpots) (pc' := 63) dX2_takeSpots_62 rfl ?_
          refine g_putI (Y := Y_X2_takeSpots) (pc' := 66) dX2_takeSpots_63 rfl fp_X2_31 rfl (by assumption) (by omega) ?_
          refine g_iinc2 (Y := Y_X2_takeSpots) (pc' := 69) dX2_takeSpots_66 rfl (Nat.le_of_ble_eq_true rfl) rfl ?_
          refine g_goto (Y := Y_X2_takeSpots) (t := 2) dX2_takeSpots_69 (by decide) ?_
          first
            | exact ih (i + 1) _ _ hI hs (by omega) hend
            | exact ih (i + 1) (f_tk1 I k i (I (ks + 1) i)) _ ((congrFun (ek _ (Or.inl rfl)) 5).trans hI) (fun j => by rw [congrFun (ek _ (Or.inr rfl)) j]; exact hs j) (by omega) hend
set_option maxHeartbeats 2000000 in
set_option maxRecDepth 100000 in
theorem s_X2_takeSpots {l : Launch} {E : QE} {T : Nat → Nat × Nat} {I : Nat → Nat → Int} {J : Nat → Nat → Int64} {R : Nat → Nat → Option Nat} {n z : Nat} {k : Nat} (hk : LmB T R n k) {ks : Nat} (hks : StB T R n ks) (hdj : ks + 6 ≤ k ∨ k + 28 ≤ ks) (hcn : 0 ≤ I ks 5 ∧ I ks 5 ≤ 12) (hs : ∀ j : Nat, -2147483648 ≤ I (ks + 1) j ∧ I (ks + 1) j < 2147483648) : SpN l E Y_X2_takeSpots [.ref (E.1 + k), .ref (E.1 + ks)] (T, I, J, R, n, z) (T, f_tk k ks (I ks 5).toNat 0 I, J, R, n, z) := by
  obtain ⟨t0, t1, t2, t3, t4, t5, r0, r1, r2, r3, r4, rl, hn⟩ := hk
  obtain ⟨v0, v1, v2, v3, v4, v5, q0, q1, q2, q3, q4, hn2⟩ := hks
  refine Sp.of [some (.ref (E.1 + k)), some (.ref (E.1 + ks)), none, none] (by decide +kernel) (Nat.le_of_ble_eq_true rfl) (fun _ h => h) ?_
  refine g_iconst (Y := Y_X2_takeSpots) (pc' := 1) dX2_takeSpots_0 rfl ?_
  refine g_istore2 (Y := Y_X2_takeSpots) (pc' := 2) dX2_takeSpots_1 rfl (Nat.le_of_ble_eq_true rfl) rfl ?_
  refine s_X2_takeSpots_lp ⟨t0, t1, t2, t3, t4, t5, r0, r1, r2, r3, r4, rl, hn⟩ ⟨v0, v1, v2, v3, v4, v5, q0, q1, q2, q3, q4, hn2⟩ hdj _ hcn (I ks 5).toNat 0 I _ rfl hs (by omega) (fun L2 L3 => ?_)
  exact g_vret (Y := Y_X2_takeSpots) dX2_takeSpots_72 rfl (Nat.zero_le _) (Nat.zero_le _) (⟨rfl, rfl⟩)
