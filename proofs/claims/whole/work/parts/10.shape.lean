/-! SHAPES: where objects lie (their first cell), what their fields refer to -/
def StB (T : Nat → Nat × Nat) (R : Nat → Nat → Option Nat) (n k : Nat) : Prop :=
  T k = (3, 0) ∧ T (k + 1) = (6, 12) ∧ T (k + 2) = (6, 3) ∧ T (k + 3) = (6, 480) ∧ T (k + 4) = (6, 480) ∧ T (k + 5) = (6, 576) ∧
  R k 0 = some (k + 1) ∧ R k 1 = some (k + 2) ∧ R k 2 = some (k + 3) ∧ R k 3 = some (k + 4) ∧ R k 4 = some (k + 5) ∧ k + 6 ≤ n
def LnB (T : Nat → Nat × Nat) (n k : Nat) : Prop := T k = (1, 0) ∧ k < n
def LmB (T : Nat → Nat × Nat) (R : Nat → Nat → Option Nat) (n k : Nat) : Prop :=
  T k = (2, 0) ∧ T (k + 1) = (8, 22) ∧ T (k + 2) = (6, 576) ∧ T (k + 3) = (7, 576) ∧ T (k + 4) = (6, 12) ∧ T (k + 5) = (6, 12) ∧
  R k 0 = some (k + 1) ∧ R k 1 = some (k + 2) ∧ R k 2 = some (k + 3) ∧ R k 3 = some (k + 4) ∧ R k 4 = some (k + 5) ∧
  (∀ j : Nat, j < 22 → R (k + 1) j = some (k + 6 + j) ∧ T (k + 6 + j) = (1, 0)) ∧ k + 28 ≤ n
def TxB (T : Nat → Nat × Nat) (R : Nat → Nat → Option Nat) (n k : Nat) : Prop :=
  T k = (0, 0) ∧ T (k + 1) = (6, 60) ∧ T (k + 2) = (6, 15) ∧ T (k + 3) = (7, 15) ∧ R k 0 = some (k + 1) ∧ R k 1 = some (k + 2) ∧ R k 2 = some (k + 3) ∧ k + 4 ≤ n
