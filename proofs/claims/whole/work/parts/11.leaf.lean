/-! the smallest methods of the class -/
abbrev KV (v : Value) (w : QW) : Option Value → QW → Prop := fun r1 w1 => r1 = some v ∧ w1 = w
abbrev KN (w : QW) : Option Value → QW → Prop := fun r1 w1 => r1 = none ∧ w1 = w
set_option maxHeartbeats 2000000 in
set_option maxRecDepth 100000 in
theorem s_X4_isCell {l : Launch} {E : QE} {w : QW} (x : Int) (hx : -2147483648 ≤ x ∧ x < 2147483648) : SpV l E Y_X4_isCell [.int (iz x)] w (.int (iz (if 0 ≤ x ∧ x < 576 then 1 else 0))) w := by
  refine Sp.of [some (.int (iz x))] (by decide +kernel) (Nat.le_of_ble_eq_true rfl) (fun _ h => h) ?_
  refine g_iload0 (Y := Y_X4_isCell) (pc' := 1) dX4_isCell_0 rfl ?_
  refine g_if_lt (Y := Y_X4_isCell) (t := 15) (pc' := 4) dX4_isCell_1 (by decide) rfl ⟨by omega, by omega⟩ (fun h1 => ?_) (fun h1 => ?_)
  · refine g_iconst (Y := Y_X4_isCell) (pc' := 16) dX4_isCell_15 rfl ?_
    exact g_zret (Y := Y_X4_isCell) dX4_isCell_16 rfl (by decide) (Nat.zero_le _) (Nat.zero_le _) (⟨vi (by first | omega | (split <;> omega) | rfl), rfl⟩)
  · refine g_iload0 (Y := Y_X4_isCell) (pc' := 5) dX4_isCell_4 rfl ?_
    refine g_sipush (Y := Y_X4_isCell) (pc' := 8) dX4_isCell_5 rfl (by decide) ?_
    refine g_icmp_ge (Y := Y_X4_isCell) (t := 15) (pc' := 11) dX4_isCell_8 (by decide) rfl ⟨by omega, by omega⟩ ⟨by omega, by omega⟩ (fun h8 => ?_) (fun h8 => ?_)
    · refine g_iconst (Y := Y_X4_isCell) (pc' := 16) dX4_isCell_15 rfl ?_
      exact g_zret (Y := Y_X4_isCell) dX4_isCell_16 rfl (by decide) (Nat.zero_le _) (Nat.zero_le _) (⟨vi (by first | omega | (split <;> omega) | rfl), rfl⟩)
    · refine g_iconst (Y := Y_X4_isCell) (pc' := 12) dX4_isCell_11 rfl ?_
      refine g_goto (Y := Y_X4_isCell) (t := 16) dX4_isCell_12 (by decide) ?_
      exact g_zret (Y := Y_X4_isCell) dX4_isCell_16 rfl (by decide) (Nat.zero_le _) (Nat.zero_le _) (⟨vi (by first | omega | (split <;> omega) | rfl), rfl⟩)
set_option maxHeartbeats 2000000 in
set_option maxRecDepth 100000 in
theorem s_X4_isSpare {l : Launch} {E : QE} {w : QW} (x : Int) (hx : -2147483648 ≤ x ∧ x < 2147483648) : SpV l E Y_X4_isSpare [.int (iz x)] w (.int (iz (if 480 ≤ x ∧ x < 576 then 1 else 0))) w := by
  refine Sp.of [some (.int (iz x))] (by decide +kernel) (Nat.le_of_ble_eq_true rfl) (fun _ h => h) ?_
  refine g_iload0 (Y := Y_X4_isSpare) (pc' := 1) dX4_isSpare_0 rfl ?_
  refine g_sipush (Y := Y_X4_isSpare) (pc' := 4) dX4_isSpare_1 rfl (by decide) ?_
  refine g_icmp_lt (Y := Y_X4_isSpare) (t := 18) (pc' := 7) dX4_isSpare_4 (by decide) rfl ⟨by omega, by omega⟩ ⟨by omega, by omega⟩ (fun h4 => ?_) (fun h4 => ?_)
  · refine g_iconst (Y := Y_X4_isSpare) (pc' := 19) dX4_isSpare_18 rfl ?_
    exact g_zret (Y := Y_X4_isSpare) dX4_isSpare_19 rfl (by decide) (Nat.zero_le _) (Nat.zero_le _) (⟨vi (by first | omega | (split <;> omega) | rfl), rfl⟩)
  · refine g_iload0 (Y := Y_X4_isSpare) (pc' := 8) dX4_isSpare_7 rfl ?_
    refine g_sipush (Y := Y_X4_isSpare) (pc' := 11) dX4_isSpare_8 rfl (by decide) ?_
    refine g_icmp_ge (Y := Y_X4_isSpare) (t := 18) (pc' := 14) dX4_isSpare_11 (by decide) rfl ⟨by omega, by omega⟩ ⟨by omega, by omega⟩ (fun h11 => ?_) (fun h11 => ?_)
    · refine g_iconst (Y := Y_X4_isSpare) (pc' := 19) dX4_isSpare_18 rfl ?_
      exact g_zret (Y := Y_X4_isSpare) dX4_isSpare_19 rfl (by decide) (Nat.zero_le _) (Nat.zero_le _) (⟨vi (by first | omega | (split <;> omega) | rfl), rfl⟩)
    · refine g_iconst (Y := Y_X4_isSpare) (pc' := 15) dX4_isSpare_14 rfl ?_
      refine g_goto (Y := Y_X4_isSpare) (t := 19) dX4_isSpare_15 (by decide) ?_
      exact g_zret (Y := Y_X4_isSpare) dX4_isSpare_19 rfl (by decide) (Nat.zero_le _) (Nat.zero_le _) (⟨vi (by first | omega | (split <;> omega) | rfl), rfl⟩)
set_option maxHeartbeats 2000000 in
set_option maxRecDepth 100000 in
theorem s_X4_isBlock {l : Launch} {E : QE} {w : QW} (x : Int) (hx : -2147483648 ≤ x ∧ x < 2147483648) : SpV l E Y_X4_isBlock [.int (iz x)] w (.int (iz (if 0 ≤ x ∧ x < 480 then 1 else 0))) w := by
  refine Sp.of [some (.int (iz x))] (by decide +kernel) (Nat.le_of_ble_eq_true rfl) (fun _ h => h) ?_
  refine g_iload0 (Y := Y_X4_isBlock) (pc' := 1) dX4_isBlock_0 rfl ?_
  refine g_if_lt (Y := Y_X4_isBlock) (t := 15) (pc' := 4) dX4_isBlock_1 (by decide) rfl ⟨by omega, by omega⟩ (fun h1 => ?_) (fun h1 => ?_)
  · refine g_iconst (Y := Y_X4_isBlock) (pc' := 16) dX4_isBlock_15 rfl ?_
    exact g_zret (Y := Y_X4_isBlock) dX4_isBlock_16 rfl (by decide) (Nat.zero_le _) (Nat.zero_le _) (⟨vi (by first | omega | (split <;> omega) | rfl), rfl⟩)
  · refine g_iload0 (Y := Y_X4_isBlock) (pc' := 5) dX4_isBlock_4 rfl ?_
    refine g_sipush (Y := Y_X4_isBlock) (pc' := 8) dX4_isBlock_5 rfl (by decide) ?_
    refine g_icmp_ge (Y := Y_X4_isBlock) (t := 15) (pc' := 11) dX4_isBlock_8 (by decide) rfl ⟨by omega, by omega⟩ ⟨by omega, by omega⟩ (fun h8 => ?_) (fun h8 => ?_)
    · refine g_iconst (Y := Y_X4_isBlock) (pc' := 16) dX4_isBlock_15 rfl ?_
      exact g_zret (Y := Y_X4_isBlock) dX4_isBlock_16 rfl (by decide) (Nat.zero_le _) (Nat.zero_le _) (⟨vi (by first | omega | (split <;> omega) | rfl), rfl⟩)
    · refine g_iconst (Y := Y_X4_isBlock) (pc' := 12) dX4_isBlock_11 rfl ?_
      refine g_goto (Y := Y_X4_isBlock) (t := 16) dX4_isBlock_12 (by decide) ?_
      exact g_zret (Y := Y_X4_isBlock) dX4_isBlock_16 rfl (by decide) (Nat.zero_le _) (Nat.zero_le _) (⟨vi (by first | omega | (split <;> omega) | rfl), rfl⟩)
set_option maxHeartbeats 2000000 in
set_option maxRecDepth 100000 in
theorem s_X4_isValue {l : Launch} {E : QE} {w : QW} (x : Int) (hx : -2147483648 ≤ x ∧ x < 2147483648) : SpV l E Y_X4_isValue [.int (iz x)] w (.int (iz (if 0 ≤ x ∧ x ≤ 999 then 1 else 0))) w := by
  refine Sp.of [some (.int (iz x))] (by decide +kernel) (Nat.le_of_ble_eq_true rfl) (fun _ h => h) ?_
  refine g_iload0 (Y := Y_X4_isValue) (pc' := 1) dX4_isValue_0 rfl ?_
  refine g_if_lt (Y := Y_X4_isValue) (t := 15) (pc' := 4) dX4_isValue_1 (by decide) rfl ⟨by omega, by omega⟩ (fun h1 => ?_) (fun h1 => ?_)
  · refine g_iconst (Y := Y_X4_isValue) (pc' := 16) dX4_isValue_15 rfl ?_
    exact g_zret (Y := Y_X4_isValue) dX4_isValue_16 rfl (by decide) (Nat.zero_le _) (Nat.zero_le _) (⟨vi (by first | omega | (split <;> omega) | rfl), rfl⟩)
  · refine g_iload0 (Y := Y_X4_isValue) (pc' := 5) dX4_isValue_4 rfl ?_
    refine g_sipush (Y := Y_X4_isValue) (pc' := 8) dX4_isValue_5 rfl (by decide) ?_
    refine g_icmp_gt (Y := Y_X4_isValue) (t := 15) (pc' := 11) dX4_isValue_8 (by decide) rfl ⟨by omega, by omega⟩ ⟨by omega, by omega⟩ (fun h8 => ?_) (fun h8 => ?_)
    · refine g_iconst (Y := Y_X4_isValue) (pc' := 16) dX4_isValue_15 rfl ?_
      exact g_zret (Y := Y_X4_isValue) dX4_isValue_16 rfl (by decide) (Nat.zero_le _) (Nat.zero_le _) (⟨vi (by first | omega | (split <;> omega) | rfl), rfl⟩)
    · refine g_iconst (Y := Y_X4_isValue) (pc' := 12) dX4_isValue_11 rfl ?_
      refine g_goto (Y := Y_X4_isValue) (t := 16) dX4_isValue_12 (by decide) ?_
      exact g_zret (Y := Y_X4_isValue) dX4_isValue_16 rfl (by decide) (Nat.zero_le _) (Nat.zero_le _) (⟨vi (by first | omega | (split <;> omega) | rfl), rfl⟩)
set_option maxHeartbeats 2000000 in
set_option maxRecDepth 100000 in
theorem s_X4_isSetting {l : Launch} {E : QE} {w : QW} (x : Int) (hx : -2147483648 ≤ x ∧ x < 2147483648) : SpV l E Y_X4_isSetting [.int (iz x)] w (.int (iz (if 0 ≤ x ∧ x < 3 then 1 else 0))) w := by
  refine Sp.of [some (.int (iz x))] (by decide +kernel) (Nat.le_of_ble_eq_true rfl) (fun _ h => h) ?_
  refine g_iload0 (Y := Y_X4_isSetting) (pc' := 1) dX4_isSetting_0 rfl ?_
  refine g_if_lt (Y := Y_X4_isSetting) (t := 13) (pc' := 4) dX4_isSetting_1 (by decide) rfl ⟨by omega, by omega⟩ (fun h1 => ?_) (fun h1 => ?_)
  · refine g_iconst (Y := Y_X4_isSetting) (pc' := 14) dX4_isSetting_13 rfl ?_
    exact g_zret (Y := Y_X4_isSetting) dX4_isSetting_14 rfl (by decide) (Nat.zero_le _) (Nat.zero_le _) (⟨vi (by first | omega | (split <;> omega) | rfl), rfl⟩)
  · refine g_iload0 (Y := Y_X4_isSetting) (pc' := 5) dX4_isSetting_4 rfl ?_
    refine g_iconst (Y := Y_X4_isSetting) (pc' := 6) dX4_isSetting_5 rfl ?_
    refine g_icmp_ge (Y := Y_X4_isSetting) (t := 13) (pc' := 9) dX4_isSetting_6 (by decide) rfl ⟨by omega, by omega⟩ ⟨by omega, by omega⟩ (fun h6 => ?_) (fun h6 => ?_)
    · refine g_iconst (Y := Y_X4_isSetting) (pc' := 14) dX4_isSetting_13 rfl ?_
      exact g_zret (Y := Y_X4_isSetting) dX4_isSetting_14 rfl (by decide) (Nat.zero_le _) (Nat.zero_le _) (⟨vi (by first | omega | (split <;> omega) | rfl), rfl⟩)
    · refine g_iconst (Y := Y_X4_isSetting) (pc' := 10) dX4_isSetting_9 rfl ?_
      refine g_goto (Y := Y_X4_isSetting) (t := 14) dX4_isSetting_10 (by decide) ?_
      exact g_zret (Y := Y_X4_isSetting) dX4_isSetting_14 rfl (by decide) (Nat.zero_le _) (Nat.zero_le _) (⟨vi (by first | omega | (split <;> omega) | rfl), rfl⟩)
set_option maxHeartbeats 2000000 in
set_option maxRecDepth 100000 in
theorem s_X0_isCode {l : Launch} {E : QE} {w : QW} (x : Int) (hx : -2147483648 ≤ x ∧ x < 2147483648) : SpV l E Y_X0_isCode [.int (iz x)] w (.int (iz (if 33 ≤ x ∧ x ≤ 126 then 1 else 0))) w := by
  refine Sp.of [some (.int (iz x))] (by decide +kernel) (Nat.le_of_ble_eq_true rfl) (fun _ h => h) ?_
  refine g_iload0 (Y := Y_X0_isCode) (pc' := 1) dX0_isCode_0 rfl ?_
  refine g_bipush (Y := Y_X0_isCode) (pc' := 3) dX0_isCode_1 rfl (by decide) ?_
  refine g_icmp_lt (Y := Y_X0_isCode) (t := 16) (pc' := 6) dX0_isCode_3 (by decide) rfl ⟨by omega, by omega⟩ ⟨by omega, by omega⟩ (fun h3 => ?_) (fun h3 => ?_)
  · refine g_iconst (Y := Y_X0_isCode) (pc' := 17) dX0_isCode_16 rfl ?_
    exact g_zret (Y := Y_X0_isCode) dX0_isCode_17 rfl (by decide) (Nat.zero_le _) (Nat.zero_le _) (⟨vi (by first | omega | (split <;> omega) | rfl), rfl⟩)
  · refine g_iload0 (Y := Y_X0_isCode) (pc' := 7) dX0_isCode_6 rfl ?_
    refine g_bipush (Y := Y_X0_isCode) (pc' := 9) dX0_isCode_7 rfl (by decide) ?_
    refine g_icmp_gt (Y := Y_X0_isCode) (t := 16) (pc' := 12) dX0_isCode_9 (by decide) rfl ⟨by omega, by omega⟩ ⟨by omega, by omega⟩ (fun h9 => ?_) (fun h9 => ?_)
    · refine g_iconst (Y := Y_X0_isCode) (pc' := 17) dX0_isCode_16 rfl ?_
      exact g_zret (Y := Y_X0_isCode) dX0_isCode_17 rfl (by decide) (Nat.zero_le _) (Nat.zero_le _) (⟨vi (by first | omega | (split <;> omega) | rfl), rfl⟩)
    · refine g_iconst (Y := Y_X0_isCode) (pc' := 13) dX0_isCode_12 rfl ?_
      refine g_goto (Y := Y_X0_isCode) (t := 17) dX0_isCode_13 (by decide) ?_
      exact g_zret (Y := Y_X0_isCode) dX0_isCode_17 rfl (by decide) (Nat.zero_le _) (Nat.zero_le _) (⟨vi (by first | omega | (split <;> omega) | rfl), rfl⟩)
set_option maxHeartbeats 2000000 in
set_option maxRecDepth 100000 in
theorem s_X4_inDrive {l : Launch} {E : QE} {w : QW} (x y : Int) (hx : -2147483648 ≤ x ∧ x < 2147483648) (hy : -2147483648 ≤ y ∧ y < 2147483648) : SpV l E Y_X4_inDrive [.int (iz x), .int (iz y)] w (.int (iz (if (0 ≤ x ∧ x < 24) ∧ 0 ≤ y ∧ y < 24 then 1 else 0))) w := by
  refine Sp.of [some (.int (iz x)), some (.int (iz y))] (by decide +kernel) (Nat.le_of_ble_eq_true rfl) (fun _ h => h) ?_
  refine g_iload0 (Y := Y_X4_inDrive) (pc' := 1) dX4_inDrive_0 rfl ?_
  refine g_if_lt (Y := Y_X4_inDrive) (t := 24) (pc' := 4) dX4_inDrive_1 (by decide) rfl ⟨by omega, by omega⟩ (fun h1 => ?_) (fun h1 => ?_)
  · refine g_iconst (Y := Y_X4_inDrive) (pc' := 25) dX4_inDrive_24 rfl ?_
    exact g_zret (Y := Y_X4_inDrive) dX4_inDrive_25 rfl (by decide) (Nat.zero_le _) (Nat.zero_le _) (⟨vi (by first | omega | (split <;> omega) | rfl), rfl⟩)
  · refine g_iload0 (Y := Y_X4_inDrive) (pc' := 5) dX4_inDrive_4 rfl ?_
    refine g_bipush (Y := Y_X4_inDrive) (pc' := 7) dX4_inDrive_5 rfl (by decide) ?_
    refine g_icmp_ge (Y := Y_X4_inDrive) (t := 24) (pc' := 10) dX4_inDrive_7 (by decide) rfl ⟨by omega, by omega⟩ ⟨by omega, by omega⟩ (fun h7 => ?_) (fun h7 => ?_)
    · refine g_iconst (Y := Y_X4_inDrive) (pc' := 25) dX4_inDrive_24 rfl ?_
      exact g_zret (Y := Y_X4_inDrive) dX4_inDrive_25 rfl (by decide) (Nat.zero_le _) (Nat.zero_le _) (⟨vi (by first | omega | (split <;> omega) | rfl), rfl⟩)
    · refine g_iload1 (Y := Y_X4_inDrive) (pc' := 11) dX4_inDrive_10 rfl ?_
      refine g_if_lt (Y := Y_X4_inDrive) (t := 24) (pc' := 14) dX4_inDrive_11 (by decide) rfl ⟨by omega, by omega⟩ (fun h11 => ?_) (fun h11 => ?_)
      · refine g_iconst (Y := Y_X4_inDrive) (pc' := 25) dX4_inDrive_24 rfl ?_
        exact g_zret (Y := Y_X4_inDrive) dX4_inDrive_25 rfl (by decide) (Nat.zero_le _) (Nat.zero_le _) (⟨vi (by first | omega | (split <;> omega) | rfl), rfl⟩)
      · refine g_iload1 (Y := Y_X4_inDrive) (pc' := 15) dX4_inDrive_14 rfl ?_
        refine g_bipush (Y := Y_X4_inDrive) (pc' := 17) dX4_inDrive_15 rfl (by decide) ?_
        refine g_icmp_ge (Y := Y_X4_inDrive) (t := 24) (pc' := 20) dX4_inDrive_17 (by decide) rfl ⟨by omega, by omega⟩ ⟨by omega, by omega⟩ (fun h17 => ?_) (fun h17 => ?_)
        · refine g_iconst (Y := Y_X4_inDrive) (pc' := 25) dX4_inDrive_24 rfl ?_
          exact g_zret (Y := Y_X4_inDrive) dX4_inDrive_25 rfl (by decide) (Nat.zero_le _) (Nat.zero_le _) (⟨vi (by first | omega | (split <;> omega) | rfl), rfl⟩)
        · refine g_iconst (Y := Y_X4_inDrive) (pc' := 21) dX4_inDrive_20 rfl ?_
          refine g_goto (Y := Y_X4_inDrive) (t := 25) dX4_inDrive_21 (by decide) ?_
          exact g_zret (Y := Y_X4_inDrive) dX4_inDrive_25 rfl (by decide) (Nat.zero_le _) (Nat.zero_le _) (⟨vi (by first | omega | (split <;> omega) | rfl), rfl⟩)
set_option maxHeartbeats 2000000 in
set_option maxRecDepth 100000 in
theorem s_X4_cellNumber {l : Launch} {E : QE} {w : QW} (x y : Int) : SpV l E Y_X4_cellNumber [.int (iz x), .int (iz y)] w (.int (iz (x * 24 + y))) w := by
  refine Sp.of [some (.int (iz x)), some (.int (iz y))] (by decide +kernel) (Nat.le_of_ble_eq_true rfl) (fun _ h => h) ?_
  refine g_iload0 (Y := Y_X4_cellNumber) (pc' := 1) dX4_cellNumber_0 rfl ?_
  refine g_bipush (Y := Y_X4_cellNumber) (pc' := 3) dX4_cellNumber_1 rfl (by decide) ?_
  refine g_imul (Y := Y_X4_cellNumber) (pc' := 4) dX4_cellNumber_3 rfl ?_
  refine g_iload1 (Y := Y_X4_cellNumber) (pc' := 5) dX4_cellNumber_4 rfl ?_
  refine g_iadd (Y := Y_X4_cellNumber) (pc' := 6) dX4_cellNumber_5 rfl ?_
  exact g_iret (Y := Y_X4_cellNumber) dX4_cellNumber_6 rfl (Nat.zero_le _) (Nat.zero_le _) (⟨vi (by first | omega | (split <;> omega) | rfl), rfl⟩)
set_option maxHeartbeats 2000000 in
set_option maxRecDepth 100000 in
theorem s_X3_valueOf {l : Launch} {E : QE} {T : Nat → Nat × Nat} {I : Nat → Nat → Int} {J : Nat → Nat → Int64} {R : Nat → Nat → Option Nat} {n z : Nat} {k : Nat} (hk : StB T R n k) (b : Int) (hb : -2147483648 ≤ b ∧ b < 2147483648) : SpV l E Y_X3_valueOf [.ref (E.1 + k), .int (iz b)] (T, I, J, R, n, z) (.int (iz (if 0 ≤ b ∧ b < 480 then I (k + 3) b.toNat else -1))) (T, I, J, R, n, z) := by
  obtain ⟨t0, t1, t2, t3, t4, t5, r0, r1, r2, r3, r4, hn⟩ := hk
  refine Sp.of [some (.ref (E.1 + k)), some (.int (iz b))] (by decide +kernel) (Nat.le_of_ble_eq_true rfl) (fun _ h => h) ?_
  refine g_iload1 (Y := Y_X3_valueOf) (pc' := 1) dX3_valueOf_0 rfl ?_
  refine g_callSNv (Y := Y_X3_valueOf) (s_X4_isBlock _ ⟨by omega, by omega⟩) (pc' := 4) dX3_valueOf_1 rfl cv_X3_46 rfl rfl rfl rfl rfl ?_
  refine g_if_eq (Y := Y_X3_valueOf) (t := 16) (pc' := 7) dX3_valueOf_4 (by decide) rfl ⟨by omega, by omega⟩ (fun h4 => ?_) (fun h4 => ?_)
  · refine g_iconst (Y := Y_X3_valueOf) (pc' := 17) dX3_valueOf_16 rfl ?_
    exact g_iret (Y := Y_X3_valueOf) dX3_valueOf_17 rfl (Nat.zero_le _) (Nat.zero_le _) (⟨vi (by first | omega | (split <;> omega) | rfl), rfl⟩)
  · refine g_aload0 (Y := Y_X3_valueOf) (pc' := 8) dX3_valueOf_7 rfl ?_
    refine g_getR (Y := Y_X3_valueOf) (pc' := 11) dX3_valueOf_8 rfl fl_X3_18 rfl (by assumption) (by omega) (by assumption) ?_
    refine g_iload1 (Y := Y_X3_valueOf) (pc' := 12) dX3_valueOf_11 rfl ?_
    refine g_iald (Y := Y_X3_valueOf) (pc' := 13) dX3_valueOf_12 rfl (by assumption) (by omega) (by decide) ⟨by omega, by omega⟩ ?_
    refine g_goto (Y := Y_X3_valueOf) (t := 17) dX3_valueOf_13 (by decide) ?_
    exact g_iret (Y := Y_X3_valueOf) dX3_valueOf_17 rfl (Nat.zero_le _) (Nat.zero_le _) (⟨vi (by first | omega | (split <;> omega) | rfl), rfl⟩)
