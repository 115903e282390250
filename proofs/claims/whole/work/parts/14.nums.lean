/-! numbers -/
theorem iz_shl1 {s : Int} (h : 0 ≤ s ∧ s < 12) : iz 1 <<< (iz s &&& 31) = iz (((2 ^ s.toNat : Nat)) : Int) := by
  have key : ∀ j : Fin 12, iz 1 <<< (iz (j.val : Int) &&& 31) = iz (((2 ^ j.val : Nat)) : Int) := by decide
  have := key ⟨s.toNat, by omega⟩
  rw [show ((⟨s.toNat, by omega⟩ : Fin 12).val : Int) = s by show (s.toNat : Int) = s; omega] at this
  exact this
theorem iz_nat (n : Nat) : iz (n : Int) = Int32.ofNat n := Int32.ofInt_eq_ofNat
theorem iz_or (a b : Nat) : iz (a : Int) ||| iz (b : Int) = iz ((a ||| b : Nat) : Int) := by
  rw [iz_nat, iz_nat, iz_nat]
  apply Int32.toBitVec.inj
  simp [BitVec.ofNat_or]
theorem iz_and (a b : Nat) : iz (a : Int) &&& iz (b : Int) = iz ((a &&& b : Nat) : Int) := by
  rw [iz_nat, iz_nat, iz_nat]
  apply Int32.toBitVec.inj
  simp [BitVec.ofNat_and]
def obit (m s : Int) : Int := ((m.toNat ||| 2 ^ s.toNat : Nat) : Int)
theorem iz_obit {m s : Int} (hm : 0 ≤ m) : iz m ||| iz (((2 ^ s.toNat : Nat)) : Int) = iz (obit m s) := by
  have h := iz_or m.toNat (2 ^ s.toNat)
  rw [show ((m.toNat : Nat) : Int) = m by omega] at h
  exact h
theorem obit_rg {m s : Int} (hm : 0 ≤ m ∧ m < 4096) (hs : 0 ≤ s ∧ s < 12) : 0 ≤ obit m s ∧ obit m s < 4096 := by
  unfold obit
  have h1 : m.toNat < 2 ^ 12 := by omega
  have h2 : 2 ^ s.toNat < 2 ^ 12 := Nat.pow_lt_pow_right (by omega) (by omega)
  have := Nat.or_lt_two_pow h1 h2
  omega
theorem tdiv_rg {a b B : Int} (h : -B < a ∧ a < B) : -B < a.tdiv b ∧ a.tdiv b < B := by
  have h1 := Int.natAbs_tdiv a b
  have h2 : (a.tdiv b).natAbs ≤ a.natAbs := by rw [h1]; exact Nat.div_le_self _ _
  omega
theorem mulb {a b A B : Int} (ha : -A ≤ a ∧ a ≤ A) (hb : -B ≤ b ∧ b ≤ B) : -(A * B) ≤ a * b ∧ a * b ≤ A * B := by
  have h1 : (a * b).natAbs = a.natAbs * b.natAbs := Int.natAbs_mul a b
  have h2 : a.natAbs * b.natAbs ≤ A.natAbs * B.natAbs := Nat.mul_le_mul (by omega) (by omega)
  have h3 : (A * B).natAbs = A.natAbs * B.natAbs := Int.natAbs_mul A B
  have h4 : 0 ≤ A * B := Int.mul_nonneg (by omega) (by omega)
  omega
theorem lcmp_z (a b : Int64) : lg_cmp a b = iz (lg_cmp a b).toInt := (Int32.ofInt_toInt _).symm
theorem lcmp_rg (a b : Int64) : -2147483648 ≤ (lg_cmp a b).toInt ∧ (lg_cmp a b).toInt < 2147483648 := ⟨by have := (lg_cmp a b).le_toInt; omega, by have := (lg_cmp a b).toInt_lt; omega⟩
theorem lcmp_0 (a b : Int64) : (lg_cmp a b).toInt = 0 ↔ a = b := by
  unfold lg_cmp
  by_cases h1 : a > b
  · rw [if_pos h1]
    refine ⟨fun h => absurd h (by decide), fun h => ?_⟩
    subst h
    exact absurd (Int64.lt_iff_toInt_lt.mp h1) (by omega)
  · rw [if_neg h1]
    by_cases h2 : a = b
    · rw [if_pos h2]; exact ⟨fun _ => h2, fun _ => by decide⟩
    · rw [if_neg h2]; exact ⟨fun h => absurd h (by decide), fun h => absurd h h2⟩
