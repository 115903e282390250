/-! the reference: its smallest methods -/
def MdB (T : Nat → Nat × Nat) (R : Nat → Nat → Option Nat) (n : Nat) : Prop :=
  T 110 = (5, 0) ∧ T 111 = (6, 1554) ∧ T 112 = (6, 9324) ∧ T 113 = (6, 1554) ∧ T 114 = (6, 60) ∧ T 115 = (6, 66) ∧ T 116 = (6, 66) ∧ T 117 = (6, 66) ∧ T 118 = (6, 66) ∧ T 119 = (6, 66) ∧ T 120 = (6, 66) ∧ T 121 = (6, 576) ∧ T 122 = (7, 576) ∧ T 123 = (6, 60) ∧
  R 110 1 = some 111 ∧ R 110 2 = some 112 ∧ R 110 4 = some 113 ∧ R 110 5 = some 114 ∧ R 110 8 = some 115 ∧ R 110 9 = some 116 ∧ R 110 10 = some 117 ∧ R 110 11 = some 118 ∧ R 110 12 = some 119 ∧ R 110 13 = some 120 ∧ R 110 14 = some 121 ∧ R 110 15 = some 122 ∧ R 110 16 = some 123 ∧ 124 ≤ n
/-- the reference's row of numbers, its ranges -/
def ZV (I : Nat → Nat → Int) : Prop := (0 ≤ I 111 3 ∧ I 111 3 ≤ 12) ∧ (∀ j : Nat, j < 12 → -1 ≤ I 111 (6 + j) ∧ I 111 (6 + j) < 576) ∧ (∀ j : Nat, (j : Int) < I 111 3 → 0 ≤ I 111 (6 + j)) ∧ (∀ i j : Nat, (i : Int) < I 111 3 → (j : Int) < I 111 3 → I 111 (6 + i) = I 111 (6 + j) → i = j) ∧
  (∀ j : Nat, j < 3 → 0 ≤ I 111 j ∧ I 111 j ≤ 8) ∧ I 111 2 ≤ 6 ∧ (∀ j : Nat, j < 480 → -1 ≤ I 111 (18 + j) ∧ I 111 (18 + j) ≤ 999) ∧ (∀ j : Nat, j < 480 → -1 ≤ I 111 (498 + j) ∧ I 111 (498 + j) < 576) ∧ (∀ j : Nat, j < 576 → -1 ≤ I 111 (978 + j) ∧ I 111 (978 + j) < 480)
set_option maxHeartbeats 2000000 in
set_option maxRecDepth 100000 in
theorem s_X5_thrown {l : Launch} {E : QE} {T : Nat → Nat × Nat} {I : Nat → Nat → Int} {J : Nat → Nat → Int64} {R : Nat → Nat → Option Nat} {n z : Nat} (hk : MdB T R n)  : SpV l E Y_X5_thrown [.ref (E.1 + 110)] (T, I, J, R, n, z) (.int (iz (I 110 0))) (T, I, J, R, n, z) := by
  obtain ⟨t0, t1, t2, t3, t4, t5, t6, t7, t8, t9, t10, t11, t12, t13, r1, r2, r4, r5, r8, r9, r10, r11, r12, r13, r14, r15, r16, hn⟩ := hk
  refine Sp.of [some (.ref (E.1 + 110))] (by decide +kernel) (Nat.le_of_ble_eq_true rfl) (fun _ h => h) ?_
  refine g_aload0 (Y := Y_X5_thrown) (pc' := 1) dX5_thrown_0 rfl ?_
  refine g_getI (Y := Y_X5_thrown) (pc' := 4) dX5_thrown_1 rfl fl_X5_50 rfl (by assumption) (by omega) ?_
  exact g_iret (Y := Y_X5_thrown) dX5_thrown_4 rfl (Nat.zero_le _) (Nat.zero_le _) (⟨rfl, rfl⟩)
set_option maxHeartbeats 2000000 in
set_option maxRecDepth 100000 in
theorem s_X5_in {l : Launch} {E : QE} {w : QW} (v a b : Int) (hv : -2147483648 ≤ v ∧ v < 2147483648) (ha : -2147483648 ≤ a ∧ a < 2147483648) (hb : -2147483648 ≤ b ∧ b < 2147483648) : SpV l E Y_X5_in [.int (iz v), .int (iz a), .int (iz b)] w (.int (iz (if a ≤ v ∧ v ≤ b then 1 else 0))) w := by
  refine Sp.of [some (.int (iz v)), some (.int (iz a)), some (.int (iz b))] (by decide +kernel) (Nat.le_of_ble_eq_true rfl) (fun _ h => h) ?_
  refine g_iload0 (Y := Y_X5_in) (pc' := 1) dX5_in_0 rfl ?_
  refine g_iload1 (Y := Y_X5_in) (pc' := 2) dX5_in_1 rfl ?_
  refine g_icmp_lt (Y := Y_X5_in) (t := 14) (pc' := 5) dX5_in_2 (by decide) rfl ⟨by omega, by omega⟩ ⟨by omega, by omega⟩ (fun h2 => ?_) (fun h2 => ?_)
  · refine g_iconst (Y := Y_X5_in) (pc' := 15) dX5_in_14 rfl ?_
    exact g_zret (Y := Y_X5_in) dX5_in_15 rfl (by decide) (Nat.zero_le _) (Nat.zero_le _) (⟨vi (by first | omega | (split <;> omega) | rfl), rfl⟩)
  · refine g_iload0 (Y := Y_X5_in) (pc' := 6) dX5_in_5 rfl ?_
    refine g_iload2 (Y := Y_X5_in) (pc' := 7) dX5_in_6 rfl ?_
    refine g_icmp_gt (Y := Y_X5_in) (t := 14) (pc' := 10) dX5_in_7 (by decide) rfl ⟨by omega, by omega⟩ ⟨by omega, by omega⟩ (fun h7 => ?_) (fun h7 => ?_)
    · refine g_iconst (Y := Y_X5_in) (pc' := 15) dX5_in_14 rfl ?_
      exact g_zret (Y := Y_X5_in) dX5_in_15 rfl (by decide) (Nat.zero_le _) (Nat.zero_le _) (⟨vi (by first | omega | (split <;> omega) | rfl), rfl⟩)
    · refine g_iconst (Y := Y_X5_in) (pc' := 11) dX5_in_10 rfl ?_
      refine g_goto (Y := Y_X5_in) (t := 15) dX5_in_11 (by decide) ?_
      exact g_zret (Y := Y_X5_in) dX5_in_15 rfl (by decide) (Nat.zero_le _) (Nat.zero_le _) (⟨vi (by first | omega | (split <;> omega) | rfl), rfl⟩)
set_option maxHeartbeats 2000000 in
set_option maxRecDepth 100000 in
theorem s_X5_isPlace {l : Launch} {E : QE} {w : QW} (x y : Int) (hx : -2147483648 ≤ x ∧ x < 2147483648) (hy : -2147483648 ≤ y ∧ y < 2147483648) : SpV l E Y_X5_isPlace [.int (iz x), .int (iz y)] w (.int (iz (if (0 ≤ x ∧ x ≤ 23) ∧ 0 ≤ y ∧ y ≤ 23 then 1 else 0))) w := by
  refine Sp.of [some (.int (iz x)), some (.int (iz y))] (by decide +kernel) (Nat.le_of_ble_eq_true rfl) (fun _ h => h) ?_
  refine g_iload0 (Y := Y_X5_isPlace) (pc' := 1) dX5_isPlace_0 rfl ?_
  refine g_iconst (Y := Y_X5_isPlace) (pc' := 2) dX5_isPlace_1 rfl ?_
  refine g_bipush (Y := Y_X5_isPlace) (pc' := 4) dX5_isPlace_2 rfl (by decide) ?_
  refine g_callSv (Y := Y_X5_isPlace) (s_X5_in x 0 23 ⟨by omega, by omega⟩ ⟨by decide, by decide⟩ ⟨by decide, by decide⟩) (pc' := 7) dX5_isPlace_4 rfl cv_X5_54 rfl rfl rfl rfl rfl ?_
  refine g_if_eq (Y := Y_X5_isPlace) (t := 24) (pc' := 10) dX5_isPlace_7 (by decide) rfl ⟨by omega, by omega⟩ (fun h7 => ?_) (fun h7 => ?_)
  · refine g_iconst (Y := Y_X5_isPlace) (pc' := 25) dX5_isPlace_24 rfl ?_
    exact g_zret (Y := Y_X5_isPlace) dX5_isPlace_25 rfl (by decide) (Nat.zero_le _) (Nat.zero_le _) (⟨vi (by first | omega | (split <;> omega) | rfl), rfl⟩)
  · refine g_iload1 (Y := Y_X5_isPlace) (pc' := 11) dX5_isPlace_10 rfl ?_
    refine g_iconst (Y := Y_X5_isPlace) (pc' := 12) dX5_isPlace_11 rfl ?_
    refine g_bipush (Y := Y_X5_isPlace) (pc' := 14) dX5_isPlace_12 rfl (by decide) ?_
    refine g_callSv (Y := Y_X5_isPlace) (s_X5_in y 0 23 ⟨by omega, by omega⟩ ⟨by decide, by decide⟩ ⟨by decide, by decide⟩) (pc' := 17) dX5_isPlace_14 rfl cv_X5_54 rfl rfl rfl rfl rfl ?_
    refine g_if_eq (Y := Y_X5_isPlace) (t := 24) (pc' := 20) dX5_isPlace_17 (by decide) rfl ⟨by omega, by omega⟩ (fun h17 => ?_) (fun h17 => ?_)
    · refine g_iconst (Y := Y_X5_isPlace) (pc' := 25) dX5_isPlace_24 rfl ?_
      exact g_zret (Y := Y_X5_isPlace) dX5_isPlace_25 rfl (by decide) (Nat.zero_le _) (Nat.zero_le _) (⟨vi (by first | omega | (split <;> omega) | rfl), rfl⟩)
    · refine g_iconst (Y := Y_X5_isPlace) (pc' := 21) dX5_isPlace_20 rfl ?_
      refine g_goto (Y := Y_X5_isPlace) (t := 25) dX5_isPlace_21 (by decide) ?_
      exact g_zret (Y := Y_X5_isPlace) dX5_isPlace_25 rfl (by decide) (Nat.zero_le _) (Nat.zero_le _) (⟨vi (by first | omega | (split <;> omega) | rfl), rfl⟩)
set_option maxHeartbeats 2000000 in
set_option maxRecDepth 100000 in
theorem s_X5_isBlock {l : Launch} {E : QE} {w : QW} (x : Int) (hx : -2147483648 ≤ x ∧ x < 2147483648) : SpV l E Y_X5_isBlock [.int (iz x)] w (.int (iz (if 0 ≤ x ∧ x ≤ 479 then 1 else 0))) w := by
  refine Sp.of [some (.int (iz x))] (by decide +kernel) (Nat.le_of_ble_eq_true rfl) (fun _ h => h) ?_
  refine g_iload0 (Y := Y_X5_isBlock) (pc' := 1) dX5_isBlock_0 rfl ?_
  refine g_iconst (Y := Y_X5_isBlock) (pc' := 2) dX5_isBlock_1 rfl ?_
  refine g_sipush (Y := Y_X5_isBlock) (pc' := 5) dX5_isBlock_2 rfl (by decide) ?_
  refine g_callSv (Y := Y_X5_isBlock) (s_X5_in x 0 479 ⟨by omega, by omega⟩ ⟨by decide, by decide⟩ ⟨by decide, by decide⟩) (pc' := 8) dX5_isBlock_5 rfl cv_X5_54 rfl rfl rfl rfl rfl ?_
  exact g_zret (Y := Y_X5_isBlock) dX5_isBlock_8 rfl (by split <;> simp) (Nat.zero_le _) (Nat.zero_le _) (⟨rfl, rfl⟩)
set_option maxHeartbeats 2000000 in
set_option maxRecDepth 100000 in
theorem s_X5_isValue {l : Launch} {E : QE} {w : QW} (x : Int) (hx : -2147483648 ≤ x ∧ x < 2147483648) : SpV l E Y_X5_isValue [.int (iz x)] w (.int (iz (if 0 ≤ x ∧ x ≤ 999 then 1 else 0))) w := by
  refine Sp.of [some (.int (iz x))] (by decide +kernel) (Nat.le_of_ble_eq_true rfl) (fun _ h => h) ?_
  refine g_iload0 (Y := Y_X5_isValue) (pc' := 1) dX5_isValue_0 rfl ?_
  refine g_iconst (Y := Y_X5_isValue) (pc' := 2) dX5_isValue_1 rfl ?_
  refine g_sipush (Y := Y_X5_isValue) (pc' := 5) dX5_isValue_2 rfl (by decide) ?_
  refine g_callSv (Y := Y_X5_isValue) (s_X5_in x 0 999 ⟨by omega, by omega⟩ ⟨by decide, by decide⟩ ⟨by decide, by decide⟩) (pc' := 8) dX5_isValue_5 rfl cv_X5_54 rfl rfl rfl rfl rfl ?_
  exact g_zret (Y := Y_X5_isValue) dX5_isValue_8 rfl (by split <;> simp) (Nat.zero_le _) (Nat.zero_le _) (⟨rfl, rfl⟩)
set_option maxHeartbeats 2000000 in
set_option maxRecDepth 100000 in
theorem s_X5_spot {l : Launch} {E : QE} {T : Nat → Nat × Nat} {I : Nat → Nat → Int} {J : Nat → Nat → Int64} {R : Nat → Nat → Option Nat} {n z : Nat} (hk : MdB T R n) (i : Nat) (hi : i < 12) : SpV l E Y_X5_spot [.ref (E.1 + 110), .int (iz (i : Int))] (T, I, J, R, n, z) (.int (iz (I 111 (6 + i)))) (T, I, J, R, n, z) := by
  obtain ⟨t0, t1, t2, t3, t4, t5, t6, t7, t8, t9, t10, t11, t12, t13, r1, r2, r4, r5, r8, r9, r10, r11, r12, r13, r14, r15, r16, hn⟩ := hk
  refine Sp.of [some (.ref (E.1 + 110)), some (.int (iz (i : Int)))] (by decide +kernel) (Nat.le_of_ble_eq_true rfl) (fun _ h => h) ?_
  refine g_aload0 (Y := Y_X5_spot) (pc' := 1) dX5_spot_0 rfl ?_
  refine g_getR (Y := Y_X5_spot) (pc' := 4) dX5_spot_1 rfl fl_X5_7 rfl (by assumption) (by omega) (by assumption) ?_
  refine g_bipush (Y := Y_X5_spot) (pc' := 6) dX5_spot_4 rfl (by decide) ?_
  refine g_iload1 (Y := Y_X5_spot) (pc' := 7) dX5_spot_6 rfl ?_
  refine g_iadd (Y := Y_X5_spot) (pc' := 8) dX5_spot_7 rfl ?_
  refine g_iald (Y := Y_X5_spot) (pc' := 9) dX5_spot_8 rfl (by assumption) (by omega) (by decide) ⟨by omega, by omega⟩ ?_
  exact g_iret (Y := Y_X5_spot) dX5_spot_9 rfl (Nat.zero_le _) (Nat.zero_le _) (⟨vi (by rw [show ((6 : Int) + (i : Int)).toNat = 6 + i by omega]), rfl⟩)
set_option maxHeartbeats 2000000 in
set_option maxRecDepth 100000 in
theorem s_X5_where {l : Launch} {E : QE} {T : Nat → Nat × Nat} {I : Nat → Nat → Int} {J : Nat → Nat → Int64} {R : Nat → Nat → Option Nat} {n z : Nat} (hk : MdB T R n) (i : Nat) (hi : i < 480) : SpV l E Y_X5_where [.ref (E.1 + 110), .int (iz (i : Int))] (T, I, J, R, n, z) (.int (iz (I 111 (498 + i)))) (T, I, J, R, n, z) := by
  obtain ⟨t0, t1, t2, t3, t4, t5, t6, t7, t8, t9, t10, t11, t12, t13, r1, r2, r4, r5, r8, r9, r10, r11, r12, r13, r14, r15, r16, hn⟩ := hk
  refine Sp.of [some (.ref (E.1 + 110)), some (.int (iz (i : Int)))] (by decide +kernel) (Nat.le_of_ble_eq_true rfl) (fun _ h => h) ?_
  refine g_aload0 (Y := Y_X5_where) (pc' := 1) dX5_where_0 rfl ?_
  refine g_getR (Y := Y_X5_where) (pc' := 4) dX5_where_1 rfl fl_X5_7 rfl (by assumption) (by omega) (by assumption) ?_
  refine g_sipush (Y := Y_X5_where) (pc' := 7) dX5_where_4 rfl (by decide) ?_
  refine g_iload1 (Y := Y_X5_where) (pc' := 8) dX5_where_7 rfl ?_
  refine g_iadd (Y := Y_X5_where) (pc' := 9) dX5_where_8 rfl ?_
  refine g_iald (Y := Y_X5_where) (pc' := 10) dX5_where_9 rfl (by assumption) (by omega) (by decide) ⟨by omega, by omega⟩ ?_
  exact g_iret (Y := Y_X5_where) dX5_where_10 rfl (Nat.zero_le _) (Nat.zero_le _) (⟨vi (by rw [show ((498 : Int) + (i : Int)).toNat = 498 + i by omega]), rfl⟩)
set_option maxHeartbeats 2000000 in
set_option maxRecDepth 100000 in
theorem s_X5_taken {l : Launch} {E : QE} {T : Nat → Nat × Nat} {I : Nat → Nat → Int} {J : Nat → Nat → Int64} {R : Nat → Nat → Option Nat} {n z : Nat} (hk : MdB T R n) (i : Nat) (hi : i < 576) : SpV l E Y_X5_taken [.ref (E.1 + 110), .int (iz (i : Int))] (T, I, J, R, n, z) (.int (iz (I 111 (978 + i)))) (T, I, J, R, n, z) := by
  obtain ⟨t0, t1, t2, t3, t4, t5, t6, t7, t8, t9, t10, t11, t12, t13, r1, r2, r4, r5, r8, r9, r10, r11, r12, r13, r14, r15, r16, hn⟩ := hk
  refine Sp.of [some (.ref (E.1 + 110)), some (.int (iz (i : Int)))] (by decide +kernel) (Nat.le_of_ble_eq_true rfl) (fun _ h => h) ?_
  refine g_aload0 (Y := Y_X5_taken) (pc' := 1) dX5_taken_0 rfl ?_
  refine g_getR (Y := Y_X5_taken) (pc' := 4) dX5_taken_1 rfl fl_X5_7 rfl (by assumption) (by omega) (by assumption) ?_
  refine g_sipush (Y := Y_X5_taken) (pc' := 7) dX5_taken_4 rfl (by decide) ?_
  refine g_iload1 (Y := Y_X5_taken) (pc' := 8) dX5_taken_7 rfl ?_
  refine g_iadd (Y := Y_X5_taken) (pc' := 9) dX5_taken_8 rfl ?_
  refine g_iald (Y := Y_X5_taken) (pc' := 10) dX5_taken_9 rfl (by assumption) (by omega) (by decide) ⟨by omega, by omega⟩ ?_
  exact g_iret (Y := Y_X5_taken) dX5_taken_10 rfl (Nat.zero_le _) (Nat.zero_le _) (⟨vi (by rw [show ((978 : Int) + (i : Int)).toNat = 978 + i by omega]), rfl⟩)
/-- the last of the places i, i + 1 .. (m of them) where f is x; else b -/
def fndL (f : Nat → Int) (x : Int) : Nat → Nat → Int → Int
  | 0, _, b => b
  | m + 1, i, b => fndL f x m (i + 1) (if f i = x then (i : Int) else b)
def m_spotAt (I : Nat → Nat → Int) (x : Int) : Int := fndL (fun k => I 111 (6 + k)) x (I 111 3).toNat 0 (-1)
theorem fndL_rg (f : Nat → Int) (x : Int) : ∀ (m i : Nat) (b : Int), -1 ≤ b → b < i → -1 ≤ fndL f x m i b ∧ fndL f x m i b < i + m
  | 0, i, b, h1, h2 => by unfold fndL; omega
  | m + 1, i, b, h1, h2 => by
    unfold fndL
    by_cases h : f i = x
    · rw [if_pos h]; have := fndL_rg f x m (i + 1) i (by omega) (by omega); omega
    · rw [if_neg h]; have := fndL_rg f x m (i + 1) b h1 (by omega); omega
set_option maxHeartbeats 2000000 in
set_option maxRecDepth 100000 in
theorem s_X5_spotAt_lp {l : Launch} {E : QE} {T : Nat → Nat × Nat} {I : Nat → Nat → Int} {J : Nat → Nat → Int64} {R : Nat → Nat → Option Nat} {n z : Nat} (hk : MdB T R n) (hz9 : ZV I) (x : Int) (hx : -2147483648 ≤ x ∧ x < 2147483648) : ∀ (m i : Nat) (b : Int), i + m = (I 111 3).toNat → Go l E Y_X5_spotAt 0 0 4 [some (.ref (E.1 + 110)), some (.int (iz x)), some (.int (iz b)), some (.int (iz (i : Int)))] [] (T, I, J, R, n, z) (KV (.int (iz (fndL (fun k => I 111 (6 + k)) x m i b))) (T, I, J, R, n, z)) := by
  have hk0 := hk
  obtain ⟨t0, t1, t2, t3, t4, t5, t6, t7, t8, t9, t10, t11, t12, t13, r1, r2, r4, r5, r8, r9, r10, r11, r12, r13, r14, r15, r16, hn⟩ := hk
  obtain ⟨z3, zs, zs0, zd, zt, zt2, zv, zw, zk⟩ := id hz9
  intro m
  induction m with
  | zero =>
    intro i b hm
    refine g_iload3 (Y := Y_X5_spotAt) (pc' := 5) dX5_spotAt_4 rfl ?_
    refine g_aload0 (Y := Y_X5_spotAt) (pc' := 6) dX5_spotAt_5 rfl ?_
    refine g_getR (Y := Y_X5_spotAt) (pc' := 9) dX5_spotAt_6 rfl fl_X5_7 rfl (by assumption) (by omega) (by assumption) ?_
    refine g_iconst (Y := Y_X5_spotAt) (pc' := 10) dX5_spotAt_9 rfl ?_
    refine g_iald (Y := Y_X5_spotAt) (pc' := 11) dX5_spotAt_10 rfl (by assumption) (by omega) (by decide) ⟨by omega, by omega⟩ ?_
    rw [show Int.toNat 3 = 3 from rfl]
    refine g_icmp_ge (Y := Y_X5_spotAt) (t := 35) (pc' := 14) dX5_spotAt_11 (by decide) rfl ⟨by omega, by omega⟩ (show -2147483648 ≤ I 111 3 ∧ I 111 3 < 2147483648 by omega) (fun h11 => ?_) (fun h11 => ?_)
    · refine g_iload2 (Y := Y_X5_spotAt) (pc' := 36) dX5_spotAt_35 rfl ?_
      exact g_iret (Y := Y_X5_spotAt) dX5_spotAt_36 rfl (Nat.zero_le _) (Nat.zero_le _) (⟨rfl, rfl⟩)
    · exfalso; omega
  | succ m ih =>
    intro i b hm
    have zsi := zs i (by omega)
    refine g_iload3 (Y := Y_X5_spotAt) (pc' := 5) dX5_spotAt_4 rfl ?_
    refine g_aload0 (Y := Y_X5_spotAt) (pc' := 6) dX5_spotAt_5 rfl ?_
    refine g_getR (Y := Y_X5_spotAt) (pc' := 9) dX5_spotAt_6 rfl fl_X5_7 rfl (by assumption) (by omega) (by assumption) ?_
    refine g_iconst (Y := Y_X5_spotAt) (pc' := 10) dX5_spotAt_9 rfl ?_
    refine g_iald (Y := Y_X5_spotAt) (pc' := 11) dX5_spotAt_10 rfl (by assumption) (by omega) (by decide) ⟨by omega, by omega⟩ ?_
    rw [show Int.toNat 3 = 3 from rfl]
    refine g_icmp_ge (Y := Y_X5_spotAt) (t := 35) (pc' := 14) dX5_spotAt_11 (by decide) rfl ⟨by omega, by omega⟩ (show -2147483648 ≤ I 111 3 ∧ I 111 3 < 2147483648 by omega) (fun h11 => ?_) (fun h11 => ?_)
    · exfalso; omega
    · refine g_aload0 (Y := Y_X5_spotAt) (pc' := 15) dX5_spotAt_14 rfl ?_
      refine g_iload3 (Y := Y_X5_spotAt) (pc' := 16) dX5_spotAt_15 rfl ?_
      refine g_callVv (Y := Y_X5_spotAt) (c := 5) (s_X5_spot hk0 i (by omega)) (pc' := 19) dX5_spotAt_16 rfl cv_X5_58 rfl (by assumption) (by show _ < n; omega) ⟨by decide, _, rfl, rfl⟩ rfl rfl rfl rfl ?_
      refine g_iload1 (Y := Y_X5_spotAt) (pc' := 20) dX5_spotAt_19 rfl ?_
      refine g_icmp_ne (Y := Y_X5_spotAt) (t := 27) (pc' := 23) dX5_spotAt_20 (by decide) rfl ⟨by omega, by omega⟩ ⟨by omega, by omega⟩ (fun h20 => ?_) (fun h20 => ?_)
      · have e : fndL (fun k => I 111 (6 + k)) x (m + 1) i b = fndL (fun k => I 111 (6 + k)) x m (i + 1) b := by show fndL _ x m (i + 1) (if _ then _ else _) = _; rw [if_neg h20]
        rw [e]
        refine g_iload2 (Y := Y_X5_spotAt) (pc' := 28) dX5_spotAt_27 rfl ?_
        refine g_istore2 (Y := Y_X5_spotAt) (pc' := 29) dX5_spotAt_28 rfl (Nat.le_of_ble_eq_true rfl) rfl ?_
        refine g_iinc3 (Y := Y_X5_spotAt) (pc' := 32) dX5_spotAt_29 rfl (Nat.le_of_ble_eq_true rfl) rfl ?_
        refine g_goto (Y := Y_X5_spotAt) (t := 4) dX5_spotAt_32 (by decide) ?_
        exact ih (i + 1) _ (by omega)
      · have e : fndL (fun k => I 111 (6 + k)) x (m + 1) i b = fndL (fun k => I 111 (6 + k)) x m (i + 1) (i : Int) := by show fndL _ x m (i + 1) (if _ then _ else _) = _; rw [if_pos h20]
        rw [e]
        refine g_iload3 (Y := Y_X5_spotAt) (pc' := 24) dX5_spotAt_23 rfl ?_
        refine g_goto (Y := Y_X5_spotAt) (t := 28) dX5_spotAt_24 (by decide) ?_
        refine g_istore2 (Y := Y_X5_spotAt) (pc' := 29) dX5_spotAt_28 rfl (Nat.le_of_ble_eq_true rfl) rfl ?_
        refine g_iinc3 (Y := Y_X5_spotAt) (pc' := 32) dX5_spotAt_29 rfl (Nat.le_of_ble_eq_true rfl) rfl ?_
        refine g_goto (Y := Y_X5_spotAt) (t := 4) dX5_spotAt_32 (by decide) ?_
        exact ih (i + 1) _ (by omega)
set_option maxHeartbeats 2000000 in
set_option maxRecDepth 100000 in
theorem s_X5_spotAt {l : Launch} {E : QE} {T : Nat → Nat × Nat} {I : Nat → Nat → Int} {J : Nat → Nat → Int64} {R : Nat → Nat → Option Nat} {n z : Nat} (hk : MdB T R n) (hz9 : ZV I) (x : Int) (hx : -2147483648 ≤ x ∧ x < 2147483648) : SpV l E Y_X5_spotAt [.ref (E.1 + 110), .int (iz x)] (T, I, J, R, n, z) (.int (iz (m_spotAt I x))) (T, I, J, R, n, z) := by
  have hk0 := hk
  obtain ⟨t0, t1, t2, t3, t4, t5, t6, t7, t8, t9, t10, t11, t12, t13, r1, r2, r4, r5, r8, r9, r10, r11, r12, r13, r14, r15, r16, hn⟩ := hk
  refine Sp.of [some (.ref (E.1 + 110)), some (.int (iz x)), none, none] (by decide +kernel) (Nat.le_of_ble_eq_true rfl) (fun _ h => h) ?_
  refine g_iconst (Y := Y_X5_spotAt) (pc' := 1) dX5_spotAt_0 rfl ?_
  refine g_istore2 (Y := Y_X5_spotAt) (pc' := 2) dX5_spotAt_1 rfl (Nat.le_of_ble_eq_true rfl) rfl ?_
  refine g_iconst (Y := Y_X5_spotAt) (pc' := 3) dX5_spotAt_2 rfl ?_
  refine g_istore3 (Y := Y_X5_spotAt) (pc' := 4) dX5_spotAt_3 rfl (Nat.le_of_ble_eq_true rfl) rfl ?_
  exact s_X5_spotAt_lp hk0 hz9 x hx (I 111 3).toNat 0 (-1) (by omega)
