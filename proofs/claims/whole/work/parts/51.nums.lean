/-! the reference: numbers of lines -/
/-- the number of steps of n &= n - 1 down to 0 -/
def kbL : Nat → Nat → Nat
  | 0, _ => 0
  | f + 1, m => if m = 0 then 0 else kbL f (m &&& (m - 1)) + 1
def kbOk : Nat → Nat → Bool
  | 0, _ => false
  | f + 1, m => if m = 0 then true else kbOk f (m &&& (m - 1))
set_option maxRecDepth 100000 in
theorem kb_all : ∀ m : Nat, m < 4096 → kbOk 14 m = true ∧ kbL 14 m = ((List.range 12).filter (fun j => m.testBit j)).length := by decide +kernel
theorem mul_rg24 {x y : Int} (hx : -24 < x ∧ x < 24) (hy : -24 < y ∧ y < 24) : -600 < x * y ∧ x * y < 600 := by
  have h1 : (x * y).natAbs = x.natAbs * y.natAbs := Int.natAbs_mul x y
  have h2 : x.natAbs * y.natAbs ≤ 23 * 23 := Nat.mul_le_mul (by omega) (by omega)
  omega
def m_ta (I : Nat → Nat → Int) (i j : Nat) : Int := (I 111 (6 + j)).tdiv 24 - (I 111 (6 + i)).tdiv 24
def tm24 (x : Int) : Int := x - x.tdiv 24 * 24
def m_sa (I : Nat → Nat → Int) (i j : Nat) : Int := tm24 (I 111 (6 + j)) - tm24 (I 111 (6 + i))
theorem td24 {x : Int} (h : -1 ≤ x ∧ x < 576) : (0 ≤ x.tdiv 24 ∧ x.tdiv 24 < 24) ∧ -1 ≤ tm24 x ∧ tm24 x < 24 := by
  unfold tm24
  by_cases h0 : 0 ≤ x
  · rw [Int.tdiv_eq_ediv_of_nonneg h0]; omega
  · have : x = -1 := by omega
    subst this; decide
theorem td24_0 {x : Int} (h : 0 ≤ x ∧ x < 576) : (0 ≤ x.tdiv 24 ∧ x.tdiv 24 < 24) ∧ 0 ≤ tm24 x ∧ tm24 x < 24 := by
  unfold tm24
  rw [Int.tdiv_eq_ediv_of_nonneg h.1]; omega
theorem m_ta_rg {I : Nat → Nat → Int} (hz9 : ZV I) {i j : Nat} (hi : (i : Int) < I 111 3) (hj : (j : Int) < I 111 3) : -24 < m_ta I i j ∧ m_ta I i j < 24 := by
  have z3 := hz9.1
  have a := td24 (hz9.2.1 i (by omega))
  have b := td24 (hz9.2.1 j (by omega))
  unfold m_ta
  omega
theorem m_sa_rg {I : Nat → Nat → Int} (hz9 : ZV I) {i j : Nat} (hi : (i : Int) < I 111 3) (hj : (j : Int) < I 111 3) : -24 < m_sa I i j ∧ m_sa I i j < 24 := by
  have z3 := hz9.1
  have a := td24_0 ⟨hz9.2.2.1 i hi, (hz9.2.1 i (by omega)).2⟩
  have b := td24_0 ⟨hz9.2.2.1 j hj, (hz9.2.1 j (by omega)).2⟩
  unfold m_sa
  omega
/-- two spots that are not one: they differ in a track or a sector -/
theorem m_apart {I : Nat → Nat → Int} (hz9 : ZV I) {i j : Nat} (hi : (i : Int) < I 111 3) (hj : (j : Int) < I 111 3) (hne : i ≠ j) : ¬ (m_ta I i j = 0 ∧ m_sa I i j = 0) := by
  have z3 := hz9.1
  have a0 := hz9.2.2.1 i hi
  have b0 := hz9.2.2.1 j hj
  have hd := fun e => hne (hz9.2.2.2.1 i j hi hj e)
  unfold m_ta m_sa tm24
  rw [Int.tdiv_eq_ediv_of_nonneg a0, Int.tdiv_eq_ediv_of_nonneg b0]
  intro ⟨h1, h2⟩
  exact hd (by omega)
set_option maxHeartbeats 2000000 in
set_option maxRecDepth 100000 in
theorem s_X5_sizeOf {l : Launch} {E : QE} {w : QW} (x : Int) (hx : -2147483648 ≤ x ∧ x < 2147483648) (hx2 : x ≠ -2147483648) : SpV l E Y_X5_sizeOf [.int (iz x)] w (.int (iz (iabs x))) w := by
  refine Sp.of [some (.int (iz x))] (by decide +kernel) (Nat.le_of_ble_eq_true rfl) (fun _ h => h) ?_
  refine g_iload0 (Y := Y_X5_sizeOf) (pc' := 1) dX5_sizeOf_0 rfl ?_
  refine g_if_ge (Y := Y_X5_sizeOf) (t := 9) (pc' := 4) dX5_sizeOf_1 (by decide) rfl ⟨by omega, by omega⟩ (fun h1 => ?_) (fun h1 => ?_)
  · have e : iabs x = x := if_pos h1
    rw [e]
    refine g_iload0 (Y := Y_X5_sizeOf) (pc' := 10) dX5_sizeOf_9 rfl ?_
    exact g_iret (Y := Y_X5_sizeOf) dX5_sizeOf_10 rfl (Nat.zero_le _) (Nat.zero_le _) (⟨rfl, rfl⟩)
  · have e : iabs x = -x := by unfold iabs; rw [if_neg (by omega)]; omega
    rw [e]
    refine g_iload0 (Y := Y_X5_sizeOf) (pc' := 5) dX5_sizeOf_4 rfl ?_
    refine g_ineg (Y := Y_X5_sizeOf) (pc' := 6) dX5_sizeOf_5 rfl ?_
    refine g_goto (Y := Y_X5_sizeOf) (t := 10) dX5_sizeOf_6 (by decide) ?_
    exact g_iret (Y := Y_X5_sizeOf) dX5_sizeOf_10 rfl (Nat.zero_le _) (Nat.zero_le _) (⟨rfl, rfl⟩)
set_option maxHeartbeats 2000000 in
set_option maxRecDepth 100000 in
theorem s_X5_common_lp {l : Launch} {E : QE} {w : QW} {a0 b0 : Int} : ∀ (f b a : Nat) (x4 : Option Value), b ≤ f → a < 10000 → b < 10000 → Go l E Y_X5_common 0 0 4 [some (.int (iz a0)), some (.int (iz b0)), some (.int (iz ((a : Nat) : Int))), some (.int (iz ((b : Nat) : Int))), x4] [] w (KV (.int (iz ((Nat.gcd a b : Nat) : Int))) w) := by
  intro f
  induction f with
  | zero =>
    intro b a x4 hf ha hb
    have hb0 : b = 0 := by omega
    subst hb0
    rw [Nat.gcd_zero_right]
    refine g_iload3 (Y := Y_X5_common) (pc' := 5) dX5_common_4 rfl ?_
    refine g_if_le (Y := Y_X5_common) (t := 21) (pc' := 8) dX5_common_5 (by decide) rfl ⟨by omega, by omega⟩ (fun h5 => ?_) (fun h5 => ?_)
    · refine g_iload2 (Y := Y_X5_common) (pc' := 22) dX5_common_21 rfl ?_
      exact g_iret (Y := Y_X5_common) dX5_common_22 rfl (Nat.zero_le _) (Nat.zero_le _) (⟨rfl, rfl⟩)
    · exfalso; omega
  | succ f ih =>
    intro b a x4 hf ha hb
    refine g_iload3 (Y := Y_X5_common) (pc' := 5) dX5_common_4 rfl ?_
    refine g_if_le (Y := Y_X5_common) (t := 21) (pc' := 8) dX5_common_5 (by decide) rfl ⟨by omega, by omega⟩ (fun h5 => ?_) (fun h5 => ?_)
    · have hb0 : b = 0 := by omega
      subst hb0
      rw [Nat.gcd_zero_right]
      refine g_iload2 (Y := Y_X5_common) (pc' := 22) dX5_common_21 rfl ?_
      exact g_iret (Y := Y_X5_common) dX5_common_22 rfl (Nat.zero_le _) (Nat.zero_le _) (⟨rfl, rfl⟩)
    · have hlt := Nat.mod_lt a (show b > 0 by omega)
      have e : Nat.gcd a b = Nat.gcd b (a % b) := by rw [Nat.gcd_comm a b, Nat.gcd_rec b a, Nat.gcd_comm]
      have e5 : (a : Int) - (a : Int).tdiv (b : Int) * (b : Int) = ((a % b : Nat) : Int) := by
        have q := Nat.mod_add_div a b
        have q2 : ((a % b : Nat) : Int) + (b : Int) * ((a / b : Nat) : Int) = (a : Int) := by exact_mod_cast q
        have q3 : (a : Int).tdiv (b : Int) = ((a / b : Nat) : Int) := rfl
        rw [q3, Int.mul_comm]; omega
      rw [e]
      refine g_iload2 (Y := Y_X5_common) (pc' := 9) dX5_common_8 rfl ?_
      refine g_iload3 (Y := Y_X5_common) (pc' := 10) dX5_common_9 rfl ?_
      refine g_irem (Y := Y_X5_common) (pc' := 11) dX5_common_10 rfl ⟨by omega, by omega⟩ ⟨by omega, by omega⟩ (by omega) ?_
      refine g_istore4 (Y := Y_X5_common) (pc' := 13) dX5_common_11 rfl (Nat.le_of_ble_eq_true rfl) rfl ?_
      refine g_iload3 (Y := Y_X5_common) (pc' := 14) dX5_common_13 rfl ?_
      refine g_istore2 (Y := Y_X5_common) (pc' := 15) dX5_common_14 rfl (Nat.le_of_ble_eq_true rfl) rfl ?_
      refine g_iload4 (Y := Y_X5_common) (pc' := 17) dX5_common_15 rfl ?_
      refine g_istore3 (Y := Y_X5_common) (pc' := 18) dX5_common_17 rfl (Nat.le_of_ble_eq_true rfl) rfl ?_
      refine g_goto (Y := Y_X5_common) (t := 4) dX5_common_18 (by decide) ?_
      rw [e5]
      exact ih (a % b) b _ (by omega) hb (by omega)
set_option maxHeartbeats 2000000 in
set_option maxRecDepth 100000 in
theorem s_X5_common {l : Launch} {E : QE} {w : QW} (a b : Nat) (ha : a < 10000) (hb : b < 10000) : SpV l E Y_X5_common [.int (iz (a : Int)), .int (iz (b : Int))] w (.int (iz ((Nat.gcd a b : Nat) : Int))) w := by
  refine Sp.of [some (.int (iz (a : Int))), some (.int (iz (b : Int))), none, none, none] (by decide +kernel) (Nat.le_of_ble_eq_true rfl) (fun _ h => h) ?_
  refine g_iload0 (Y := Y_X5_common) (pc' := 1) dX5_common_0 rfl ?_
  refine g_istore2 (Y := Y_X5_common) (pc' := 2) dX5_common_1 rfl (Nat.le_of_ble_eq_true rfl) rfl ?_
  refine g_iload1 (Y := Y_X5_common) (pc' := 3) dX5_common_2 rfl ?_
  refine g_istore3 (Y := Y_X5_common) (pc' := 4) dX5_common_3 rfl (Nat.le_of_ble_eq_true rfl) rfl ?_
  exact s_X5_common_lp b b a _ (Nat.le_refl _) ha hb
set_option maxHeartbeats 2000000 in
set_option maxRecDepth 100000 in
theorem s_X5_bits_lp {l : Launch} {E : QE} {w : QW} {m0 : Int} : ∀ (f m : Nat) (n : Int), kbOk f m = true → m < 4096 → 0 ≤ n → n + f < 1000 → Go l E Y_X5_bits 0 0 4 [some (.int (iz m0)), some (.int (iz n)), some (.int (iz (m : Int)))] [] w (KV (.int (iz (n + (kbL f m : Nat)))) w) := by
  intro f
  induction f with
  | zero =>
    intro m n hok hm hn hnf
    exact absurd hok Bool.false_ne_true
  | succ f ih =>
    intro m n hok hm hn hnf
    refine g_iload2 (Y := Y_X5_bits) (pc' := 5) dX5_bits_4 rfl ?_
    refine g_if_eq (Y := Y_X5_bits) (t := 20) (pc' := 8) dX5_bits_5 (by decide) rfl ⟨by omega, by omega⟩ (fun h5 => ?_) (fun h5 => ?_)
    · have hm0 : m = 0 := by omega
      subst hm0
      have e : n + ((kbL (f + 1) 0 : Nat) : Int) = n := by show n + ((0 : Nat) : Int) = n; omega
      rw [e]
      refine g_iload1 (Y := Y_X5_bits) (pc' := 21) dX5_bits_20 rfl ?_
      exact g_iret (Y := Y_X5_bits) dX5_bits_21 rfl (Nat.zero_le _) (Nat.zero_le _) (⟨rfl, rfl⟩)
    · have hm0 : ¬ m = 0 := by omega
      have e : kbL (f + 1) m = kbL f (m &&& (m - 1)) + 1 := if_neg hm0
      have e2 : kbOk (f + 1) m = kbOk f (m &&& (m - 1)) := if_neg hm0
      rw [e2] at hok
      rw [e]
      have hle : m &&& (m - 1) ≤ m := Nat.and_le_left
      refine g_iinc1 (Y := Y_X5_bits) (pc' := 11) dX5_bits_8 rfl (Nat.le_of_ble_eq_true rfl) rfl ?_
      refine g_iload2 (Y := Y_X5_bits) (pc' := 12) dX5_bits_11 rfl ?_
      refine g_iload2 (Y := Y_X5_bits) (pc' := 13) dX5_bits_12 rfl ?_
      refine g_iconst (Y := Y_X5_bits) (pc' := 14) dX5_bits_13 rfl ?_
      refine g_isub (Y := Y_X5_bits) (pc' := 15) dX5_bits_14 rfl ?_
      refine g_iand (Y := Y_X5_bits) (v := ((m &&& (m - 1) : Nat) : Int)) (pc' := 16) dX5_bits_15 rfl (by rw [show (m : Int) - 1 = ((m - 1 : Nat) : Int) by omega]; exact iz_and m (m - 1)) ?_
      refine g_istore2 (Y := Y_X5_bits) (pc' := 17) dX5_bits_16 rfl (Nat.le_of_ble_eq_true rfl) rfl ?_
      refine g_goto (Y := Y_X5_bits) (t := 4) dX5_bits_17 (by decide) ?_
      have e3 : n + ((kbL f (m &&& (m - 1)) + 1 : Nat) : Int) = n + 1 + ((kbL f (m &&& (m - 1)) : Nat) : Int) := by omega
      rw [e3]
      exact ih _ _ hok (by omega) (by omega) (by omega)
set_option maxHeartbeats 2000000 in
set_option maxRecDepth 100000 in
theorem s_X5_bits {l : Launch} {E : QE} {w : QW} (m : Int) (hm : 0 ≤ m ∧ m < 4096) : SpV l E Y_X5_bits [.int (iz m)] w (.int (iz (pcn m))) w := by
  obtain ⟨m, rfl⟩ : ∃ m9 : Nat, m = (m9 : Int) := ⟨m.toNat, by omega⟩
  obtain ⟨k1, k2⟩ := kb_all m (by omega)
  have e : pcn (m : Int) = 0 + ((kbL 14 m : Nat) : Int) := by rw [k2]; show _ = (0 : Int) + _; rw [Int.zero_add]; rfl
  rw [e]
  refine Sp.of [some (.int (iz m)), none, none] (by decide +kernel) (Nat.le_of_ble_eq_true rfl) (fun _ h => h) ?_
  refine g_iconst (Y := Y_X5_bits) (pc' := 1) dX5_bits_0 rfl ?_
  refine g_istore1 (Y := Y_X5_bits) (pc' := 2) dX5_bits_1 rfl (Nat.le_of_ble_eq_true rfl) rfl ?_
  refine g_iload0 (Y := Y_X5_bits) (pc' := 3) dX5_bits_2 rfl ?_
  refine g_istore2 (Y := Y_X5_bits) (pc' := 4) dX5_bits_3 rfl (Nat.le_of_ble_eq_true rfl) rfl ?_
  exact s_X5_bits_lp 14 m 0 k1 (by omega) (by decide) (by decide)
set_option maxHeartbeats 2000000 in
set_option maxRecDepth 100000 in
theorem s_X5_tracksApart {l : Launch} {E : QE} {T : Nat → Nat × Nat} {I : Nat → Nat → Int} {J : Nat → Nat → Int64} {R : Nat → Nat → Option Nat} {n z : Nat} (hk : MdB T R n) (hz9 : ZV I) (i j : Nat) (hi : (i : Int) < I 111 3) (hj : (j : Int) < I 111 3) : SpV l E Y_X5_tracksApart [.ref (E.1 + 110), .int (iz (i : Int)), .int (iz (j : Int))] (T, I, J, R, n, z) (.int (iz (m_ta I i j))) (T, I, J, R, n, z) := by
  have hk0 := hk
  obtain ⟨t0, t1, t2, t3, t4, t5, t6, t7, t8, t9, t10, t11, t12, t13, r1, r2, r4, r5, r8, r9, r10, r11, r12, r13, r14, r15, r16, hn⟩ := hk
  obtain ⟨z3, zs, zs0, zd, zt, zt2, zv, zw, zk⟩ := id hz9
  have ai := zs i (by omega)
  have aj := zs j (by omega)
  refine Sp.of [some (.ref (E.1 + 110)), some (.int (iz (i : Int))), some (.int (iz (j : Int)))] (by decide +kernel) (Nat.le_of_ble_eq_true rfl) (fun _ h => h) ?_
  refine g_aload0 (Y := Y_X5_tracksApart) (pc' := 1) dX5_tracksApart_0 rfl ?_
  refine g_iload2 (Y := Y_X5_tracksApart) (pc' := 2) dX5_tracksApart_1 rfl ?_
  refine g_callVv (Y := Y_X5_tracksApart) (c := 5) (s_X5_spot hk0 j (by omega)) (pc' := 5) dX5_tracksApart_2 rfl cv_X5_58 rfl (by assumption) (by show _ < n; omega) ⟨by decide, _, rfl, rfl⟩ rfl rfl rfl rfl ?_
  refine g_bipush (Y := Y_X5_tracksApart) (pc' := 7) dX5_tracksApart_5 rfl (by decide) ?_
  refine g_idiv (Y := Y_X5_tracksApart) (pc' := 8) dX5_tracksApart_7 rfl ⟨by omega, by omega⟩ ⟨by omega, by omega⟩ (by omega) ?_
  refine g_aload0 (Y := Y_X5_tracksApart) (pc' := 9) dX5_tracksApart_8 rfl ?_
  refine g_iload1 (Y := Y_X5_tracksApart) (pc' := 10) dX5_tracksApart_9 rfl ?_
  refine g_callVv (Y := Y_X5_tracksApart) (c := 5) (s_X5_spot hk0 i (by omega)) (pc' := 13) dX5_tracksApart_10 rfl cv_X5_58 rfl (by assumption) (by show _ < n; omega) ⟨by decide, _, rfl, rfl⟩ rfl rfl rfl rfl ?_
  refine g_bipush (Y := Y_X5_tracksApart) (pc' := 15) dX5_tracksApart_13 rfl (by decide) ?_
  refine g_idiv (Y := Y_X5_tracksApart) (pc' := 16) dX5_tracksApart_15 rfl ⟨by omega, by omega⟩ ⟨by omega, by omega⟩ (by omega) ?_
  refine g_isub (Y := Y_X5_tracksApart) (pc' := 17) dX5_tracksApart_16 rfl ?_
  exact g_iret (Y := Y_X5_tracksApart) dX5_tracksApart_17 rfl (Nat.zero_le _) (Nat.zero_le _) (⟨rfl, rfl⟩)
set_option maxHeartbeats 2000000 in
set_option maxRecDepth 100000 in
theorem s_X5_sectorsApart {l : Launch} {E : QE} {T : Nat → Nat × Nat} {I : Nat → Nat → Int} {J : Nat → Nat → Int64} {R : Nat → Nat → Option Nat} {n z : Nat} (hk : MdB T R n) (hz9 : ZV I) (i j : Nat) (hi : (i : Int) < I 111 3) (hj : (j : Int) < I 111 3) : SpV l E Y_X5_sectorsApart [.ref (E.1 + 110), .int (iz (i : Int)), .int (iz (j : Int))] (T, I, J, R, n, z) (.int (iz (m_sa I i j))) (T, I, J, R, n, z) := by
  have hk0 := hk
  obtain ⟨t0, t1, t2, t3, t4, t5, t6, t7, t8, t9, t10, t11, t12, t13, r1, r2, r4, r5, r8, r9, r10, r11, r12, r13, r14, r15, r16, hn⟩ := hk
  obtain ⟨z3, zs, zs0, zd, zt, zt2, zv, zw, zk⟩ := id hz9
  have ai := zs i (by omega)
  have aj := zs j (by omega)
  refine Sp.of [some (.ref (E.1 + 110)), some (.int (iz (i : Int))), some (.int (iz (j : Int)))] (by decide +kernel) (Nat.le_of_ble_eq_true rfl) (fun _ h => h) ?_
  refine g_aload0 (Y := Y_X5_sectorsApart) (pc' := 1) dX5_sectorsApart_0 rfl ?_
  refine g_iload2 (Y := Y_X5_sectorsApart) (pc' := 2) dX5_sectorsApart_1 rfl ?_
  refine g_callVv (Y := Y_X5_sectorsApart) (c := 5) (s_X5_spot hk0 j (by omega)) (pc' := 5) dX5_sectorsApart_2 rfl cv_X5_58 rfl (by assumption) (by show _ < n; omega) ⟨by decide, _, rfl, rfl⟩ rfl rfl rfl rfl ?_
  refine g_bipush (Y := Y_X5_sectorsApart) (pc' := 7) dX5_sectorsApart_5 rfl (by decide) ?_
  refine g_irem (Y := Y_X5_sectorsApart) (pc' := 8) dX5_sectorsApart_7 rfl ⟨by omega, by omega⟩ ⟨by omega, by omega⟩ (by omega) ?_
  refine g_aload0 (Y := Y_X5_sectorsApart) (pc' := 9) dX5_sectorsApart_8 rfl ?_
  refine g_iload1 (Y := Y_X5_sectorsApart) (pc' := 10) dX5_sectorsApart_9 rfl ?_
  refine g_callVv (Y := Y_X5_sectorsApart) (c := 5) (s_X5_spot hk0 i (by omega)) (pc' := 13) dX5_sectorsApart_10 rfl cv_X5_58 rfl (by assumption) (by show _ < n; omega) ⟨by decide, _, rfl, rfl⟩ rfl rfl rfl rfl ?_
  refine g_bipush (Y := Y_X5_sectorsApart) (pc' := 15) dX5_sectorsApart_13 rfl (by decide) ?_
  refine g_irem (Y := Y_X5_sectorsApart) (pc' := 16) dX5_sectorsApart_15 rfl ⟨by omega, by omega⟩ ⟨by omega, by omega⟩ (by omega) ?_
  refine g_isub (Y := Y_X5_sectorsApart) (pc' := 17) dX5_sectorsApart_16 rfl ?_
  exact g_iret (Y := Y_X5_sectorsApart) dX5_sectorsApart_17 rfl (Nat.zero_le _) (Nat.zero_le _) (⟨rfl, rfl⟩)
set_option maxHeartbeats 2000000 in
set_option maxRecDepth 100000 in
theorem s_X5_isStraight {l : Launch} {E : QE} {T : Nat → Nat × Nat} {I : Nat → Nat → Int} {J : Nat → Nat → Int64} {R : Nat → Nat → Option Nat} {n z : Nat} (hk : MdB T R n) (hz9 : ZV I) (i j k9 : Nat) (hi : (i : Int) < I 111 3) (hj : (j : Int) < I 111 3) (h9 : (k9 : Int) < I 111 3) : SpV l E Y_X5_isStraight [.ref (E.1 + 110), .int (iz (i : Int)), .int (iz (j : Int)), .int (iz (k9 : Int))] (T, I, J, R, n, z) (.int (iz (if m_ta I i j * m_sa I i k9 = m_ta I i k9 * m_sa I i j then 1 else 0))) (T, I, J, R, n, z) := by
  have hk0 := hk
  obtain ⟨t0, t1, t2, t3, t4, t5, t6, t7, t8, t9, t10, t11, t12, t13, r1, r2, r4, r5, r8, r9, r10, r11, r12, r13, r14, r15, r16, hn⟩ := hk
  obtain ⟨z3, zs, zs0, zd, zt, zt2, zv, zw, zk⟩ := id hz9
  have p1 := mul_rg24 (m_ta_rg hz9 hi hj) (m_sa_rg hz9 hi h9)
  have p2 := mul_rg24 (m_ta_rg hz9 hi h9) (m_sa_rg hz9 hi hj)
  refine Sp.of [some (.ref (E.1 + 110)), some (.int (iz (i : Int))), some (.int (iz (j : Int))), some (.int (iz (k9 : Int)))] (by decide +kernel) (Nat.le_of_ble_eq_true rfl) (fun _ h => h) ?_
  refine g_aload0 (Y := Y_X5_isStraight) (pc' := 1) dX5_isStraight_0 rfl ?_
  refine g_iload1 (Y := Y_X5_isStraight) (pc' := 2) dX5_isStraight_1 rfl ?_
  refine g_iload2 (Y := Y_X5_isStraight) (pc' := 3) dX5_isStraight_2 rfl ?_
  refine g_callVv (Y := Y_X5_isStraight) (c := 5) (s_X5_tracksApart hk0 hz9 i j hi hj) (pc' := 6) dX5_isStraight_3 rfl cv_X5_65 rfl (by assumption) (by show _ < n; omega) ⟨by decide, _, rfl, rfl⟩ rfl rfl rfl rfl ?_
  refine g_aload0 (Y := Y_X5_isStraight) (pc' := 7) dX5_isStraight_6 rfl ?_
  refine g_iload1 (Y := Y_X5_isStraight) (pc' := 8) dX5_isStraight_7 rfl ?_
  refine g_iload3 (Y := Y_X5_isStraight) (pc' := 9) dX5_isStraight_8 rfl ?_
  refine g_callVv (Y := Y_X5_isStraight) (c := 5) (s_X5_sectorsApart hk0 hz9 i k9 hi h9) (pc' := 12) dX5_isStraight_9 rfl cv_X5_69 rfl (by assumption) (by show _ < n; omega) ⟨by decide, _, rfl, rfl⟩ rfl rfl rfl rfl ?_
  refine g_imul (Y := Y_X5_isStraight) (pc' := 13) dX5_isStraight_12 rfl ?_
  refine g_aload0 (Y := Y_X5_isStraight) (pc' := 14) dX5_isStraight_13 rfl ?_
  refine g_iload1 (Y := Y_X5_isStraight) (pc' := 15) dX5_isStraight_14 rfl ?_
  refine g_iload3 (Y := Y_X5_isStraight) (pc' := 16) dX5_isStraight_15 rfl ?_
  refine g_callVv (Y := Y_X5_isStraight) (c := 5) (s_X5_tracksApart hk0 hz9 i k9 hi h9) (pc' := 19) dX5_isStraight_16 rfl cv_X5_65 rfl (by assumption) (by show _ < n; omega) ⟨by decide, _, rfl, rfl⟩ rfl rfl rfl rfl ?_
  refine g_aload0 (Y := Y_X5_isStraight) (pc' := 20) dX5_isStraight_19 rfl ?_
  refine g_iload1 (Y := Y_X5_isStraight) (pc' := 21) dX5_isStraight_20 rfl ?_
  refine g_iload2 (Y := Y_X5_isStraight) (pc' := 22) dX5_isStraight_21 rfl ?_
  refine g_callVv (Y := Y_X5_isStraight) (c := 5) (s_X5_sectorsApart hk0 hz9 i j hi hj) (pc' := 25) dX5_isStraight_22 rfl cv_X5_69 rfl (by assumption) (by show _ < n; omega) ⟨by decide, _, rfl, rfl⟩ rfl rfl rfl rfl ?_
  refine g_imul (Y := Y_X5_isStraight) (pc' := 26) dX5_isStraight_25 rfl ?_
  refine g_icmp_ne (Y := Y_X5_isStraight) (t := 33) (pc' := 29) dX5_isStraight_26 (by decide) rfl ⟨by omega, by omega⟩ ⟨by omega, by omega⟩ (fun h26 => ?_) (fun h26 => ?_)
  · have e : (if m_ta I i j * m_sa I i k9 = m_ta I i k9 * m_sa I i j then (1 : Int) else 0) = 0 := if_neg h26
    rw [e]
    refine g_iconst (Y := Y_X5_isStraight) (pc' := 34) dX5_isStraight_33 rfl ?_
    exact g_zret (Y := Y_X5_isStraight) dX5_isStraight_34 rfl (by decide) (Nat.zero_le _) (Nat.zero_le _) (⟨rfl, rfl⟩)
  · have e : (if m_ta I i j * m_sa I i k9 = m_ta I i k9 * m_sa I i j then (1 : Int) else 0) = 1 := if_pos h26
    rw [e]
    refine g_iconst (Y := Y_X5_isStraight) (pc' := 30) dX5_isStraight_29 rfl ?_
    refine g_goto (Y := Y_X5_isStraight) (t := 34) dX5_isStraight_30 (by decide) ?_
    exact g_zret (Y := Y_X5_isStraight) dX5_isStraight_34 rfl (by decide) (Nat.zero_le _) (Nat.zero_le _) (⟨rfl, rfl⟩)
