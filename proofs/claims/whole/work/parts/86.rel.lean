/-! what ties the object under test to the reference -/
/-- state k of the object is the row z of the reference -/
def SRel (I : Nat → Nat → Int) (k : Nat) (z : Nat → Int) : Prop := I k 5 = z 3 ∧ I k 6 = z 4 ∧ I k 7 = z 5 ∧ (∀ j : Nat, (j : Int) < z 3 → I (k + 1) j = z (6 + j)) ∧ (∀ j, j < 3 → I (k + 2) j = z j) ∧ (∀ b, b < 480 → I (k + 3) b = z (18 + b)) ∧ (∀ b, b < 480 → I (k + 4) b = z (498 + b)) ∧ ∀ c, c < 576 → I (k + 5) c = z (978 + c)
/-- places and holders are each other's inverse; a block has a place if it has a value; this is its home or a spare cell -/
def WF (z : Nat → Int) : Prop := (∀ b : Nat, b < 480 → z (498 + b) ≠ -1 → z (978 + (z (498 + b)).toNat) = (b : Int)) ∧ (∀ c : Nat, c < 576 → z (978 + c) ≠ -1 → z (498 + (z (978 + c)).toNat) = (c : Int)) ∧ (∀ b : Nat, b < 480 → (z (18 + b) = -1 ↔ z (498 + b) = -1)) ∧ (∀ b : Nat, b < 480 → z (498 + b) = -1 ∨ z (498 + b) = (b : Int) ∨ 480 ≤ z (498 + b)) ∧ 3 ≤ z 0
/-- the text -/
def TRel (I : Nat → Nat → Int) : Prop := I 36 3 = I 110 6 ∧ ∀ j : Nat, (j : Int) < I 110 6 → I 37 j = I 114 j
/-- line kl of the object is line i of the map M of the reference -/
def LRel (I : Nat → Nat → Int) (kl : Nat) (M : Nat → Nat → Int) (i : Nat) : Prop := I kl 0 = M 115 i ∧ I kl 1 = M 116 i ∧ I kl 2 = M 117 i ∧ I kl 4 = (M 120 i).tdiv 24 ∧ I kl 5 = tm24 (M 120 i) ∧ M 118 i ≤ I kl 6 ∧ I kl 6 + I kl 3 - 1 ≤ M 119 i ∧ 0 ≤ I kl 3 ∧ ∀ s : Int, M 118 i ≤ s → s ≤ M 119 i → (m_cellOf M i s ≠ -1 ↔ I kl 6 ≤ s ∧ s < I kl 6 + I kl 3)
/-- map k of the object is the map M of the reference -/
def MRel (I : Nat → Nat → Int) (k : Nat) (M : Nat → Nat → Int) : Prop := I k 6 = M 110 7 ∧ I k 7 = m_avM M ∧ (∀ c, c < 576 → I (k + 2) c = M 121 c) ∧ (∀ c, c < 576 → I (k + 3) c = M 122 c) ∧ ∀ i : Nat, (i : Int) < M 110 7 → LRel I (k + 6 + i) M i
/-- map k of the object is what the reference lays from the spots and settings of z -/
def MR (I : Nat → Nat → Int) (k : Nat) (z : Nat → Int) : Prop := ∀ M : Nat → Nat → Int, ZV M → HB M → (∀ j : Nat, j < 18 → j ≠ 4 → j ≠ 5 → M 111 j = z j) → MRel I k (m_lay M)
def RR (I : Nat → Nat → Int) (R : Nat → Nat → Option Nat) : Prop := SRel I 1 (I 111) ∧ WF (I 111) ∧ TRel I ∧ I 0 3 = I 110 3 ∧ (∀ s : Nat, (s : Int) < I 110 3 → SRel I (f_sv R s) (fun j => I 112 (s * 1554 + j)) ∧ WF (fun j => I 112 (s * 1554 + j))) ∧ MR I 7 (I 111)
/-- between calls -/
def QR (T : Nat → Nat × Nat) (I : Nat → Nat → Int) (R : Nat → Nat → Option Nat) : Prop := ScB T R 125 ∧ MdB T R 125 ∧ T 124 = (10, 1) ∧ XV I ∧ MV I ∧ RR I R
/-- the object has answered with the code c, leaving I1, J1, R1; so the reference answers -/
def RLx (T : Nat → Nat × Nat) (c : Int) (I1 : Nat → Nat → Int) (y : (Nat → Nat → Int) → Int × (Nat → Nat → Int)) (J1 : Nat → Nat → Int64) (R1 : Nat → Nat → Option Nat) : Prop := MV I1 ∧ MdB T R1 125 ∧ (y I1).2 110 0 = c ∧ (c = 0 → J1 124 0 = (iz (y I1).1).toInt64) ∧ QR T (y I1).2 R1
/-- numbers of a row of steps -/
def ci (g : Int → Bool) : Nat → Int → Int
  | 0, _ => 0
  | m + 1, s => (if g s = true then 1 else 0) + ci g m (s + 1)
theorem u2_if {I : Nat → Nat → Int} {k j a b : Nat} {x : Int} : u2 I k j x a b = if a = k ∧ b = j then x else I a b := by
  unfold u2
  by_cases h : a = k
  · by_cases h2 : b = j
    · simp [h, h2]
    · simp [h, h2]
  · simp [h]
theorem ci_add (g : Int → Bool) : ∀ (m n : Nat) (s : Int), ci g (m + n) s = ci g m s + ci g n (s + m)
  | 0, n, s => by
    rw [Nat.zero_add]
    unfold ci
    rw [show s + ((0 : Nat) : Int) = s by omega]
    cases n <;> simp [ci]
  | m + 1, n, s => by
    rw [show m + 1 + n = (m + n) + 1 by omega]
    unfold ci
    rw [ci_add g m n (s + 1), show s + 1 + (m : Int) = s + ((m + 1 : Nat) : Int) by omega]
    cases n <;> simp only [ci] <;> omega
theorem ci_0 (g : Int → Bool) : ∀ (m : Nat) (s : Int), (∀ x, s ≤ x → x < s + m → g x = false) → ci g m s = 0
  | 0, _, _ => rfl
  | m + 1, s, h => by
    unfold ci
    rw [h s (by omega) (by omega), ci_0 g m (s + 1) (fun x h1 h2 => h x (by omega) (by omega))]
    decide
theorem ci_sh (g g' : Int → Bool) : ∀ (m : Nat) (s s' : Int), (∀ d : Nat, d < m → g (s + d) = g' (s' + d)) → ci g m s = ci g' m s'
  | 0, _, _, _ => rfl
  | m + 1, s, s', h => by
    unfold ci
    have h0 := h 0 (by omega)
    rw [show s + ((0 : Nat) : Int) = s by omega, show s' + ((0 : Nat) : Int) = s' by omega] at h0
    rw [h0, ci_sh g g' m (s + 1) (s' + 1) (fun d hd => by
      have := h (d + 1) (by omega)
      rw [show s + 1 + (d : Int) = s + ((d + 1 : Nat) : Int) by omega, show s' + 1 + (d : Int) = s' + ((d + 1 : Nat) : Int) by omega]
      exact this)]
/-- a row with numbers in a part of it alone -/
theorem ci_part (g g' : Int → Bool) {lo hi l s' : Int} {m : Nat} (hm : lo ≤ l ∧ l + m - 1 ≤ hi) (h0 : ∀ x, lo ≤ x → x ≤ hi → ¬ (l ≤ x ∧ x < l + m) → g x = false) (h1 : ∀ d : Nat, d < m → g (l + d) = g' (s' + d)) : ci g (hi - lo + 1).toNat lo = ci g' m s' := by
  rw [show (hi - lo + 1).toNat = (l - lo).toNat + (m + (hi - (l + m - 1)).toNat) by omega, ci_add, ci_add]
  rw [ci_0 g (l - lo).toNat lo (fun x a b => h0 x (by omega) (by omega) (by omega)), show lo + (((l - lo).toNat : Nat) : Int) = l by omega]
  rw [ci_0 g (hi - (l + m - 1)).toNat (l + m) (fun x a b => h0 x (by omega) (by omega) (by omega)), ci_sh g g' m l s' h1]
  omega
