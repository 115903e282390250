/-! what ties the object under test to the reference -/
/-! what ties the object under test to the reference -/
/-- state k of the object is the row z of the reference -/
def SRel (I : Nat → Nat → Int) (k : Nat) (z : Nat → Int) : Prop := I k 5 = z 3 ∧ I k 6 = z 4 ∧ I k 7 = z 5 ∧ (∀ j : Nat, (j : Int) < z 3 → I (k + 1) j = z (6 + j)) ∧ (∀ j, j < 3 → I (k + 2) j = z j) ∧ (∀ b, b < 480 → I (k + 3) b = z (18 + b)) ∧ (∀ b, b < 480 → I (k + 4) b = z (498 + b)) ∧ ∀ c, c < 576 → I (k + 5) c = z (978 + c)
/-- places and holders are each other's inverse; a block has a place if it has a value -/
def WF (z : Nat → Int) : Prop := (∀ b, b < 480 → z (498 + b) ≠ -1 → z (978 + (z (498 + b)).toNat) = b) ∧ (∀ c, c < 576 → z (978 + c) ≠ -1 → z (498 + (z (978 + c)).toNat) = c) ∧ (∀ b, b < 480 → (z (18 + b) = -1 ↔ z (498 + b) = -1)) ∧ 3 ≤ z 0
/-- the text -/
def TRel (I : Nat → Nat → Int) : Prop := I 36 3 = I 110 6 ∧ ∀ j : Nat, (j : Int) < I 110 6 → I 37 j = I 114 j ∧ 33 ≤ I 114 j
/-- line kl of the object is line i of the map M of the reference -/
def LRel (I : Nat → Nat → Int) (kl : Nat) (M : Nat → Nat → Int) (i : Nat) : Prop := I kl 0 = M 115 i ∧ I kl 1 = M 116 i ∧ I kl 2 = M 117 i ∧ I kl 4 = (M 120 i).tdiv 24 ∧ I kl 5 = tm24 (M 120 i) ∧ M 118 i ≤ I kl 6 ∧ I kl 6 + I kl 3 - 1 ≤ M 119 i ∧ 0 ≤ I kl 3 ∧ ∀ s : Int, M 118 i ≤ s → s ≤ M 119 i → (m_cellOf M i s ≠ -1 ↔ I kl 6 ≤ s ∧ s < I kl 6 + I kl 3)
/-- map k of the object is the map M of the reference -/
def MRel (I : Nat → Nat → Int) (k : Nat) (M : Nat → Nat → Int) : Prop := I k 6 = M 110 7 ∧ I k 7 = m_avM M ∧ (∀ c, c < 576 → I (k + 2) c = M 121 c) ∧ (∀ c, c < 576 → I (k + 3) c = M 122 c) ∧ ∀ i : Nat, (i : Int) < M 110 7 → LRel I (k + 6 + i) M i
def RR (I : Nat → Nat → Int) (R : Nat → Nat → Option Nat) : Prop := SRel I 1 (I 111) ∧ WF (I 111) ∧ TRel I ∧ I 0 3 = I 110 3 ∧ (∀ s : Nat, (s : Int) < I 110 3 → SRel I (f_sv R s) (fun j => I 112 (s * 1554 + j)) ∧ WF (fun j => I 112 (s * 1554 + j))) ∧ MRel I 7 (m_lay I)
/-- between calls -/
def QR (T : Nat → Nat × Nat) (I : Nat → Nat → Int) (R : Nat → Nat → Option Nat) : Prop := ScB T R 125 ∧ MdB T R 125 ∧ T 124 = (10, 1) ∧ XV I ∧ MV I ∧ RR I R
/-- the object has answered with the code c, leaving I1, J1, R1; so the reference answers -/
def RLx (T : Nat → Nat × Nat) (c : Int) (I1 : Nat → Nat → Int) (y : (Nat → Nat → Int) → Int × (Nat → Nat → Int)) (J1 : Nat → Nat → Int64) (R1 : Nat → Nat → Option Nat) : Prop := MV I1 ∧ MdB T R1 125 ∧ (y I1).2 110 0 = c ∧ (c = 0 → J1 124 0 = (iz (y I1).1).toInt64) ∧ QR T (y I1).2 R1
