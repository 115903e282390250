/-! State: spots go, a state is copied -/
/-- the spots from i + 1 on (m of them) are moved one place down -/
def f_shl (I : Nat → Nat → Int) (k : Nat) : Nat → Nat → Nat → Nat → Int
  | 0, _ => I
  | m + 1, i => f_shl (u2 I (k + 1) i (I (k + 1) (i + 1))) k m (i + 1)
def f_less (I : Nat → Nat → Int) (k : Nat) : Nat → Nat → Int := u2 I k 5 (I k 5 - 1)
def f_removeSpot (I : Nat → Nat → Int) (k : Nat) (x : Int) : Nat → Nat → Int :=
  if f_spotAt I k x = -1 then I else f_less (f_shl I k ((I k 5).toNat - 1 - (f_spotAt I k x).toNat) (f_spotAt I k x).toNat) k
set_option maxHeartbeats 2000000 in
set_option maxRecDepth 100000 in
theorem s_X3_removeSpot_lp {l : Launch} {E : QE} {T : Nat → Nat × Nat} {J : Nat → Nat → Int64} {R : Nat → Nat → Option Nat} {n z : Nat} {k : Nat} (hk : StB T R n k) {K : Option Value → QW → Prop} {x1 : Option Value} {y : Int} : ∀ (m i : Nat) (I : Nat → Nat → Int), (0 ≤ I k 5 ∧ I k 5 ≤ 12) → i + 1 + m = (I k 5).toNat → (∀ L4 : Option Value, Go l E Y_X3_removeSpot 0 0 57 [some (.ref (E.1 + k)), x1, some (.int (iz y)), L4] [] (T, f_shl I k m i, J, R, n, z) K) → Go l E Y_X3_removeSpot 0 0 16 [some (.ref (E.1 + k)), x1, some (.int (iz y)), some (.int (iz ((i : Int) + 1)))] [] (T, I, J, R, n, z) K := by
  obtain ⟨t0, t1, t2, t3, t4, t5, r0, r1, r2, r3, r4, hn⟩ := hk
  intro m
  induction m with
  | zero =>
    intro i I hcn hm hend
    refine g_iload3 (Y := Y_X3_removeSpot) (pc' := 17) dX3_removeSpot_16 rfl ?_
    refine g_if_le (Y := Y_X3_removeSpot) (t := 57) (pc' := 20) dX3_removeSpot_17 (by decide) rfl ⟨by omega, by omega⟩ (fun h17 => ?_) (fun h17 => ?_)
    · exfalso; omega
    · refine g_iload3 (Y := Y_X3_removeSpot) (pc' := 21) dX3_removeSpot_20 rfl ?_
      refine g_aload0 (Y := Y_X3_removeSpot) (pc' := 22) dX3_removeSpot_21 rfl ?_
      refine g_getI (Y := Y_X3_removeSpot) (pc' := 25) dX3_removeSpot_22 rfl fl_X3_27 rfl (by assumption) (by omega) ?_
      refine g_icmp_ge (Y := Y_X3_removeSpot) (t := 57) (pc' := 28) dX3_removeSpot_25 (by decide) rfl ⟨by omega, by omega⟩ ⟨by omega, by omega⟩ (fun h25 => ?_) (fun h25 => ?_)
      · exact hend _
      · exfalso; omega
  | succ m ih =>
    intro i I hcn hm hend
    refine g_iload3 (Y := Y_X3_removeSpot) (pc' := 17) dX3_removeSpot_16 rfl ?_
    refine g_if_le (Y := Y_X3_removeSpot) (t := 57) (pc' := 20) dX3_removeSpot_17 (by decide) rfl ⟨by omega, by omega⟩ (fun h17 => ?_) (fun h17 => ?_)
    · exfalso; omega
    · refine g_iload3 (Y := Y_X3_removeSpot) (pc' := 21) dX3_removeSpot_20 rfl ?_
      refine g_aload0 (Y := Y_X3_removeSpot) (pc' := 22) dX3_removeSpot_21 rfl ?_
      refine g_getI (Y := Y_X3_removeSpot) (pc' := 25) dX3_removeSpot_22 rfl fl_X3_27 rfl (by assumption) (by omega) ?_
      refine g_icmp_ge (Y := Y_X3_removeSpot) (t := 57) (pc' := 28) dX3_removeSpot_25 (by decide) rfl ⟨by omega, by omega⟩ ⟨by omega, by omega⟩ (fun h25 => ?_) (fun h25 => ?_)
      · exfalso; omega
      · refine g_iload3 (Y := Y_X3_removeSpot) (pc' := 29) dX3_removeSpot_28 rfl ?_
        refine g_aload0 (Y := Y_X3_removeSpot) (pc' := 30) dX3_removeSpot_29 rfl ?_
        refine g_getR (Y := Y_X3_removeSpot) (pc' := 33) dX3_removeSpot_30 rfl fl_X3_9 rfl (by assumption) (by omega) (by assumption) ?_
        refine g_alen (Y := Y_X3_removeSpot) (pc' := 34) dX3_removeSpot_33 rfl (by assumption) (by decide) (by omega) ?_
        refine g_icmp_ge (Y := Y_X3_removeSpot) (t := 57) (pc' := 37) dX3_removeSpot_34 (by decide) rfl ⟨by omega, by omega⟩ ⟨by omega, by omega⟩ (fun h34 => ?_) (fun h34 => ?_)
        · exfalso; omega
        · refine g_aload0 (Y := Y_X3_removeSpot) (pc' := 38) dX3_removeSpot_37 rfl ?_
          refine g_getR (Y := Y_X3_removeSpot) (pc' := 41) dX3_removeSpot_38 rfl fl_X3_9 rfl (by assumption) (by omega) (by assumption) ?_
          refine g_iload3 (Y := Y_X3_removeSpot) (pc' := 42) dX3_removeSpot_41 rfl ?_
          refine g_iconst (Y := Y_X3_removeSpot) (pc' := 43) dX3_removeSpot_42 rfl ?_
          refine g_isub (Y := Y_X3_removeSpot) (pc' := 44) dX3_removeSpot_43 rfl ?_
          refine g_aload0 (Y := Y_X3_removeSpot) (pc' := 45) dX3_removeSpot_44 rfl ?_
          refine g_getR (Y := Y_X3_removeSpot) (pc' := 48) dX3_removeSpot_45 rfl fl_X3_9 rfl (by assumption) (by omega) (by assumption) ?_
          refine g_iload3 (Y := Y_X3_removeSpot) (pc' := 49) dX3_removeSpot_48 rfl ?_
          refine g_iald (Y := Y_X3_removeSpot) (pc' := 50) dX3_removeSpot_49 rfl (by assumption) (by omega) (by decide) ⟨by omega, by omega⟩ ?_
          refine g_iast (Y := Y_X3_removeSpot) (pc' := 51) dX3_removeSpot_50 rfl (by assumption) (by omega) (by decide) ⟨by omega, by omega⟩ ?_
          rw [show ((i : Int) + 1 - 1).toNat = i by omega, show ((i : Int) + 1).toNat = i + 1 by omega]
          have e5 : u2 I (k + 1) i (I (k + 1) (i + 1)) k = I k := u2_ne (by omega)
          refine g_iinc3 (Y := Y_X3_removeSpot) (pc' := 54) dX3_removeSpot_51 rfl (Nat.le_of_ble_eq_true rfl) rfl ?_
          refine g_goto (Y := Y_X3_removeSpot) (t := 16) dX3_removeSpot_54 (by decide) ?_
          exact ih (i + 1) _ (by rw [e5]; exact hcn) (by rw [e5]; omega) hend
set_option maxHeartbeats 2000000 in
set_option maxRecDepth 100000 in
theorem s_X3_removeSpot {l : Launch} {E : QE} {T : Nat → Nat × Nat} {I : Nat → Nat → Int} {J : Nat → Nat → Int64} {R : Nat → Nat → Option Nat} {n z : Nat} {k : Nat} (hk : StB T R n k) (hcn : 0 ≤ I k 5 ∧ I k 5 ≤ 12) (hs : (∀ j : Nat, -2147483648 ≤ I (k + 1) j ∧ I (k + 1) j < 2147483648)) (x : Int) (hx : -2147483648 ≤ x ∧ x < 2147483648) : SpN l E Y_X3_removeSpot [.ref (E.1 + k), .int (iz x)] (T, I, J, R, n, z) (T, f_removeSpot I k x, J, R, n, z) := by
  obtain ⟨t0, t1, t2, t3, t4, t5, r0, r1, r2, r3, r4, hn⟩ := hk
  have hq := spotAt_rg I k x hcn
  unfold f_removeSpot
  refine Sp.of [some (.ref (E.1 + k)), some (.int (iz x)), none, none] (by decide +kernel) (Nat.le_of_ble_eq_true rfl) (fun _ h => h) ?_
  refine g_aload0 (Y := Y_X3_removeSpot) (pc' := 1) dX3_removeSpot_0 rfl ?_
  refine g_iload1 (Y := Y_X3_removeSpot) (pc' := 2) dX3_removeSpot_1 rfl ?_
  refine g_callVv (Y := Y_X3_removeSpot) (c := 3) (s_X3_spotAt ⟨t0, t1, t2, t3, t4, t5, r0, r1, r2, r3, r4, hn⟩ hcn hs x hx) (pc' := 5) dX3_removeSpot_2 rfl cv_X3_63 rfl (by assumption) (by show _ < n; omega) ⟨by decide, _, rfl, rfl⟩ rfl rfl rfl rfl ?_
  refine g_istore2 (Y := Y_X3_removeSpot) (pc' := 6) dX3_removeSpot_5 rfl (Nat.le_of_ble_eq_true rfl) rfl ?_
  refine g_iload2 (Y := Y_X3_removeSpot) (pc' := 7) dX3_removeSpot_6 rfl ?_
  refine g_iconst (Y := Y_X3_removeSpot) (pc' := 8) dX3_removeSpot_7 rfl ?_
  refine g_icmp_ne (Y := Y_X3_removeSpot) (t := 12) (pc' := 11) dX3_removeSpot_8 (by decide) rfl ⟨by omega, by omega⟩ ⟨by omega, by omega⟩ (fun h8 => ?_) (fun h8 => ?_)
  · rw [if_neg h8]
    obtain ⟨j, hj⟩ : ∃ j : Nat, f_spotAt I k x = (j : Int) := ⟨(f_spotAt I k x).toNat, by omega⟩
    rw [hj]
    refine g_iload2 (Y := Y_X3_removeSpot) (pc' := 13) dX3_removeSpot_12 rfl ?_
    refine g_iconst (Y := Y_X3_removeSpot) (pc' := 14) dX3_removeSpot_13 rfl ?_
    refine g_iadd (Y := Y_X3_removeSpot) (pc' := 15) dX3_removeSpot_14 rfl ?_
    refine g_istore3 (Y := Y_X3_removeSpot) (pc' := 16) dX3_removeSpot_15 rfl (Nat.le_of_ble_eq_true rfl) rfl ?_
    refine s_X3_removeSpot_lp ⟨t0, t1, t2, t3, t4, t5, r0, r1, r2, r3, r4, hn⟩ ((I k 5).toNat - 1 - j) j I hcn (by omega) (fun L4 => ?_)
    refine g_aload0 (Y := Y_X3_removeSpot) (pc' := 58) dX3_removeSpot_57 rfl ?_
    refine g_dup (Y := Y_X3_removeSpot) (pc' := 59) dX3_removeSpot_58 rfl rfl ?_
    refine g_getI (Y := Y_X3_removeSpot) (pc' := 62) dX3_removeSpot_59 rfl fl_X3_27 rfl (by assumption) (by omega) ?_
    refine g_iconst (Y := Y_X3_removeSpot) (pc' := 63) dX3_removeSpot_62 rfl ?_
    refine g_isub (Y := Y_X3_removeSpot) (pc' := 64) dX3_removeSpot_63 rfl ?_
    refine g_putI (Y := Y_X3_removeSpot) (pc' := 67) dX3_removeSpot_64 rfl fp_X3_27 rfl (by assumption) (by omega) ?_
    exact g_vret (Y := Y_X3_removeSpot) dX3_removeSpot_67 rfl (Nat.zero_le _) (Nat.zero_le _) (⟨rfl, rfl⟩)
  · rw [if_pos h8]
    exact g_vret (Y := Y_X3_removeSpot) dX3_removeSpot_11 rfl (Nat.zero_le _) (Nat.zero_le _) (⟨rfl, rfl⟩)
def cp (I : Nat → Nat → Int) (s d : Nat) (m : Int) : Nat → Nat → Int := fun a => if a = d then (fun j : Nat => if (j : Int) < m then I s j else I d j) else I a
def f_cp5 (I : Nat → Nat → Int) (k2 k : Nat) : Nat → Nat → Int := cp (cp (cp (cp (cp I (k2 + 1) (k + 1) 12) (k2 + 2) (k + 2) 3) (k2 + 3) (k + 3) 480) (k2 + 4) (k + 4) 480) (k2 + 5) (k + 5) 576
def f_mv (I : Nat → Nat → Int) (k2 k j : Nat) : Nat → Nat → Int := u2 I k j (I k2 j)
/-- the state at k becomes that at k2 -/
def f_copy (I : Nat → Nat → Int) (k2 k : Nat) : Nat → Nat → Int := f_mv (f_mv (f_mv (f_cp5 I k2 k) k2 k 5) k2 k 6) k2 k 7
set_option maxHeartbeats 2000000 in
set_option maxRecDepth 100000 in
theorem s_X3_copyFrom {l : Launch} {E : QE} {T : Nat → Nat × Nat} {I : Nat → Nat → Int} {J : Nat → Nat → Int64} {R : Nat → Nat → Option Nat} {n : Nat} {k : Nat} (hk : StB T R n k) {k2 : Nat} (hk2 : StB T R n k2) : SpN l E Y_X3_copyFrom [.ref (E.1 + k), .ref (E.1 + k2)] (T, I, J, R, n, 0) (T, f_copy I k2 k, J, R, n, 0) := by
  obtain ⟨t0, t1, t2, t3, t4, t5, r0, r1, r2, r3, r4, hn⟩ := hk
  obtain ⟨v0, v1, v2, v3, v4, v5, q0, q1, q2, q3, q4, hn2⟩ := hk2
  refine Sp.of [some (.ref (E.1 + k)), some (.ref (E.1 + k2))] (by decide +kernel) (Nat.le_of_ble_eq_true rfl) (fun _ h => h) ?_
  refine g_aload1 (Y := Y_X3_copyFrom) (pc' := 1) dX3_copyFrom_0 rfl ?_
  refine g_ifnonnull (Y := Y_X3_copyFrom) (t := 5) dX3_copyFrom_1 (by decide) ?_
  refine g_aload1 (Y := Y_X3_copyFrom) (pc' := 6) dX3_copyFrom_5 rfl ?_
  refine g_getR (Y := Y_X3_copyFrom) (pc' := 9) dX3_copyFrom_6 rfl fl_X3_9 rfl (by assumption) (by omega) (by assumption) ?_
  refine g_iconst (Y := Y_X3_copyFrom) (pc' := 10) dX3_copyFrom_9 rfl ?_
  refine g_aload0 (Y := Y_X3_copyFrom) (pc' := 11) dX3_copyFrom_10 rfl ?_
  refine g_getR (Y := Y_X3_copyFrom) (pc' := 14) dX3_copyFrom_11 rfl fl_X3_9 rfl (by assumption) (by omega) (by assumption) ?_
  refine g_iconst (Y := Y_X3_copyFrom) (pc' := 15) dX3_copyFrom_14 rfl ?_
  refine g_bipush (Y := Y_X3_copyFrom) (pc' := 17) dX3_copyFrom_15 rfl (by decide) ?_
  refine g_copy (Y := Y_X3_copyFrom) (pc' := 20) dX3_copyFrom_17 rfl ⟨(q_w 265 (by decide +kernel) rfl), (q_w 267 (by decide +kernel) rfl), (q_w 266 (by decide +kernel) rfl), (q_w 13 (by decide +kernel) rfl)⟩ (Nat.le_of_ble_eq_true rfl) (Nat.le_of_ble_eq_true rfl) (by assumption) (by assumption) (by omega) (by omega) (by decide) (by decide) ?_
  refine g_aload1 (Y := Y_X3_copyFrom) (pc' := 21) dX3_copyFrom_20 rfl ?_
  refine g_getR (Y := Y_X3_copyFrom) (pc' := 24) dX3_copyFrom_21 rfl fl_X3_15 rfl (by assumption) (by omega) (by assumption) ?_
  refine g_iconst (Y := Y_X3_copyFrom) (pc' := 25) dX3_copyFrom_24 rfl ?_
  refine g_aload0 (Y := Y_X3_copyFrom) (pc' := 26) dX3_copyFrom_25 rfl ?_
  refine g_getR (Y := Y_X3_copyFrom) (pc' := 29) dX3_copyFrom_26 rfl fl_X3_15 rfl (by assumption) (by omega) (by assumption) ?_
  refine g_iconst (Y := Y_X3_copyFrom) (pc' := 30) dX3_copyFrom_29 rfl ?_
  refine g_iconst (Y := Y_X3_copyFrom) (pc' := 31) dX3_copyFrom_30 rfl ?_
  refine g_copy (Y := Y_X3_copyFrom) (pc' := 34) dX3_copyFrom_31 rfl ⟨(q_w 265 (by decide +kernel) rfl), (q_w 267 (by decide +kernel) rfl), (q_w 266 (by decide +kernel) rfl), (q_w 13 (by decide +kernel) rfl)⟩ (Nat.le_of_ble_eq_true rfl) (Nat.le_of_ble_eq_true rfl) (by assumption) (by assumption) (by omega) (by omega) (by decide) (by decide) ?_
  refine g_aload1 (Y := Y_X3_copyFrom) (pc' := 35) dX3_copyFrom_34 rfl ?_
  refine g_getR (Y := Y_X3_copyFrom) (pc' := 38) dX3_copyFrom_35 rfl fl_X3_18 rfl (by assumption) (by omega) (by assumption) ?_
  refine g_iconst (Y := Y_X3_copyFrom) (pc' := 39) dX3_copyFrom_38 rfl ?_
  refine g_aload0 (Y := Y_X3_copyFrom) (pc' := 40) dX3_copyFrom_39 rfl ?_
  refine g_getR (Y := Y_X3_copyFrom) (pc' := 43) dX3_copyFrom_40 rfl fl_X3_18 rfl (by assumption) (by omega) (by assumption) ?_
  refine g_iconst (Y := Y_X3_copyFrom) (pc' := 44) dX3_copyFrom_43 rfl ?_
  refine g_sipush (Y := Y_X3_copyFrom) (pc' := 47) dX3_copyFrom_44 rfl (by decide) ?_
  refine g_copy (Y := Y_X3_copyFrom) (pc' := 50) dX3_copyFrom_47 rfl ⟨(q_w 265 (by decide +kernel) rfl), (q_w 267 (by decide +kernel) rfl), (q_w 266 (by decide +kernel) rfl), (q_w 13 (by decide +kernel) rfl)⟩ (Nat.le_of_ble_eq_true rfl) (Nat.le_of_ble_eq_true rfl) (by assumption) (by assumption) (by omega) (by omega) (by decide) (by decide) ?_
  refine g_aload1 (Y := Y_X3_copyFrom) (pc' := 51) dX3_copyFrom_50 rfl ?_
  refine g_getR (Y := Y_X3_copyFrom) (pc' := 54) dX3_copyFrom_51 rfl fl_X3_21 rfl (by assumption) (by omega) (by assumption) ?_
  refine g_iconst (Y := Y_X3_copyFrom) (pc' := 55) dX3_copyFrom_54 rfl ?_
  refine g_aload0 (Y := Y_X3_copyFrom) (pc' := 56) dX3_copyFrom_55 rfl ?_
  refine g_getR (Y := Y_X3_copyFrom) (pc' := 59) dX3_copyFrom_56 rfl fl_X3_21 rfl (by assumption) (by omega) (by assumption) ?_
  refine g_iconst (Y := Y_X3_copyFrom) (pc' := 60) dX3_copyFrom_59 rfl ?_
  refine g_sipush (Y := Y_X3_copyFrom) (pc' := 63) dX3_copyFrom_60 rfl (by decide) ?_
  refine g_copy (Y := Y_X3_copyFrom) (pc' := 66) dX3_copyFrom_63 rfl ⟨(q_w 265 (by decide +kernel) rfl), (q_w 267 (by decide +kernel) rfl), (q_w 266 (by decide +kernel) rfl), (q_w 13 (by decide +kernel) rfl)⟩ (Nat.le_of_ble_eq_true rfl) (Nat.le_of_ble_eq_true rfl) (by assumption) (by assumption) (by omega) (by omega) (by decide) (by decide) ?_
  refine g_aload1 (Y := Y_X3_copyFrom) (pc' := 67) dX3_copyFrom_66 rfl ?_
  refine g_getR (Y := Y_X3_copyFrom) (pc' := 70) dX3_copyFrom_67 rfl fl_X3_24 rfl (by assumption) (by omega) (by assumption) ?_
  refine g_iconst (Y := Y_X3_copyFrom) (pc' := 71) dX3_copyFrom_70 rfl ?_
  refine g_aload0 (Y := Y_X3_copyFrom) (pc' := 72) dX3_copyFrom_71 rfl ?_
  refine g_getR (Y := Y_X3_copyFrom) (pc' := 75) dX3_copyFrom_72 rfl fl_X3_24 rfl (by assumption) (by omega) (by assumption) ?_
  refine g_iconst (Y := Y_X3_copyFrom) (pc' := 76) dX3_copyFrom_75 rfl ?_
  refine g_sipush (Y := Y_X3_copyFrom) (pc' := 79) dX3_copyFrom_76 rfl (by decide) ?_
  refine g_copy (Y := Y_X3_copyFrom) (pc' := 82) dX3_copyFrom_79 rfl ⟨(q_w 265 (by decide +kernel) rfl), (q_w 267 (by decide +kernel) rfl), (q_w 266 (by decide +kernel) rfl), (q_w 13 (by decide +kernel) rfl)⟩ (Nat.le_of_ble_eq_true rfl) (Nat.le_of_ble_eq_true rfl) (by assumption) (by assumption) (by omega) (by omega) (by decide) (by decide) ?_
  refine g_aload0 (Y := Y_X3_copyFrom) (pc' := 83) dX3_copyFrom_82 rfl ?_
  refine g_aload1 (Y := Y_X3_copyFrom) (pc' := 84) dX3_copyFrom_83 rfl ?_
  refine g_getI (Y := Y_X3_copyFrom) (pc' := 87) dX3_copyFrom_84 rfl fl_X3_27 rfl (by assumption) (by omega) ?_
  refine g_putI (Y := Y_X3_copyFrom) (pc' := 90) dX3_copyFrom_87 rfl fp_X3_27 rfl (by assumption) (by omega) ?_
  refine g_aload0 (Y := Y_X3_copyFrom) (pc' := 91) dX3_copyFrom_90 rfl ?_
  refine g_aload1 (Y := Y_X3_copyFrom) (pc' := 92) dX3_copyFrom_91 rfl ?_
  refine g_getI (Y := Y_X3_copyFrom) (pc' := 95) dX3_copyFrom_92 rfl fl_X3_31 rfl (by assumption) (by omega) ?_
  refine g_putI (Y := Y_X3_copyFrom) (pc' := 98) dX3_copyFrom_95 rfl fp_X3_31 rfl (by assumption) (by omega) ?_
  refine g_aload0 (Y := Y_X3_copyFrom) (pc' := 99) dX3_copyFrom_98 rfl ?_
  refine g_aload1 (Y := Y_X3_copyFrom) (pc' := 100) dX3_copyFrom_99 rfl ?_
  refine g_getI (Y := Y_X3_copyFrom) (pc' := 103) dX3_copyFrom_100 rfl fl_X3_34 rfl (by assumption) (by omega) ?_
  refine g_putI (Y := Y_X3_copyFrom) (pc' := 106) dX3_copyFrom_103 rfl fp_X3_34 rfl (by assumption) (by omega) ?_
  exact g_vret (Y := Y_X3_copyFrom) dX3_copyFrom_106 rfl (Nat.zero_le _) (Nat.zero_le _) (⟨rfl, rfl⟩)
