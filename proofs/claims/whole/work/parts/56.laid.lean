/-! the reference: the lines that are laid stand -/
theorem layLine_LQ {I : Nat → Nat → Int} (hz9 : ZV I) {i j : Nat} (hij : i < j) (hj : (j : Int) < I 111 3) (hL : 0 ≤ I 110 7 ∧ I 110 7 < 66) (h : ∀ q : Nat, (q : Int) < I 110 7 → LQ I q) : ∀ q : Nat, (q : Int) < m_layLine I i j 110 7 → LQ (m_layLine I i j) q := by
  have hi : (i : Int) < I 111 3 := by omega
  obtain ⟨hst1, g0, g1⟩ := ln1_StpV hz9 hi hj (by omega) hL
  have hz1 : ZV (m_ln1 I i j) := ZV_ne hz9 ln1_111
  have e13 : m_ln1 I i j 111 3 = I 111 3 := by rw [ln1_111]
  have ok1 : lpOk (m_lnS (m_ln1 I i j) i j) := lpL_ok hz1 (by rw [e13]; exact hi) _ 0 _ (by rw [e13]; omega) ⟨by decide, Or.inr rfl, by decide, by decide⟩
  have o1 : ∀ q : Nat, (q : Int) < I 110 7 → LQ (m_ln1 I i j) q := fun q hq => by
    have hne : q ≠ (I 110 7).toNat := by omega
    have e1 : m_ln1 I i j 116 q = I 116 q := by unfold m_ln1; rw [u2_ne (by decide), u2_nj hne]
    have e2 : m_ln1 I i j 117 q = I 117 q := by unfold m_ln1; rw [u2_nj hne, u2_ne (by decide)]
    have e3 : ∀ a, a ≠ 116 → a ≠ 117 → m_ln1 I i j a = I a := fun a h1 h2 => by unfold m_ln1; rw [u2_ne h2, u2_ne h1]
    unfold LQ
    rw [e1, e2, e3 120 (by decide) (by decide), e3 118 (by decide) (by decide), e3 119 (by decide) (by decide), e3 115 (by decide) (by decide)]
    exact h q hq
  unfold m_layLine m_ln3
  split
  · obtain ⟨q1, q2, q3, q4⟩ := id ok1
    obtain ⟨st0, st1, st2, st3⟩ := id hst1
    generalize m_lnS (m_ln1 I i j) i j = s at q1 q2 q3 q4
    generalize hI1 : m_ln1 I i j = I1 at hz1 o1 st0 st1 st2 st3
    have e7 : I1 110 7 = I 110 7 := by rw [← hI1, ln1_110]
    have e6 : I1 111 = I 111 := by rw [← hI1, ln1_111]
    intro q hq
    have hq7 : m_ln2 I1 i s 110 7 = I1 110 7 + 1 := by unfold m_ln2; rw [u2_at]
    rw [hq7] at hq
    have a120 : m_ln2 I1 i s 120 q = if q = (I1 110 7).toNat then I1 111 (6 + i) else I1 120 q := by unfold m_ln2; rw [u2_ne (by decide), u2_ne (by decide), u2_ne (by decide), u2k, u2_ne (by decide : (120 : Nat) ≠ 115)]
    have a115 : m_ln2 I1 i s 115 q = if q = (I1 110 7).toNat then s.1 else I1 115 q := by unfold m_ln2; rw [u2_ne (by decide), u2_ne (by decide), u2_ne (by decide), u2_ne (by decide), u2k]
    have a118 : m_ln2 I1 i s 118 q = if q = (I1 110 7).toNat then s.2.2.1 - I1 111 2 else I1 118 q := by unfold m_ln2; rw [u2_ne (by decide), u2_ne (by decide), u2k, u2_ne (by decide : (118 : Nat) ≠ 120), u2_ne (by decide : (118 : Nat) ≠ 115)]
    have a119 : m_ln2 I1 i s 119 q = if q = (I1 110 7).toNat then s.2.2.2 + I1 111 2 else I1 119 q := by unfold m_ln2; rw [u2_ne (by decide), u2k, u2_ne (by decide : (119 : Nat) ≠ 118), u2_ne (by decide : (119 : Nat) ≠ 120), u2_ne (by decide : (119 : Nat) ≠ 115)]
    have a116 : m_ln2 I1 i s 116 q = I1 116 q := by unfold m_ln2; rw [u2_ne (by decide), u2_ne (by decide), u2_ne (by decide), u2_ne (by decide), u2_ne (by decide)]
    have a117 : m_ln2 I1 i s 117 q = I1 117 q := by unfold m_ln2; rw [u2_ne (by decide), u2_ne (by decide), u2_ne (by decide), u2_ne (by decide), u2_ne (by decide)]
    unfold LQ
    rw [a120, a116, a117, a118, a119, a115]
    by_cases hqL : q = (I1 110 7).toNat
    · rw [if_pos hqL, if_pos hqL, if_pos hqL, if_pos hqL, hqL, e6]
      have z2 := hz9.2.2.2.2.1 2 (by decide)
      have z26 := hz9.2.2.2.2.2.1
      have zs := hz9.2.1 i (by have := hz9.1; omega)
      have zs0 := hz9.2.2.1 i hi
      exact ⟨by omega, st1, st2, by omega, by omega, q1⟩
    · rw [if_neg hqL, if_neg hqL, if_neg hqL, if_neg hqL]
      exact o1 q (by omega)
  · intro q hq
    rw [ln1_110] at hq
    exact o1 q hq
def m_a2 (i : Nat) : Nat → Nat → (Nat → Nat → Int) → Nat → Nat → Int
  | 0, _, I => I
  | f + 1, j, I => m_a2 i f (j + 1) (m_layLine I i j)
def m_a1 : Nat → Nat → (Nat → Nat → Int) → Nat → Nat → Int
  | 0, _, I => I
  | f + 1, i, I => m_a1 f (i + 1) (m_a2 i f (i + 1) I)
/-- while lines are laid: the row of numbers, how many lines, that they stand -/
def AInv (nn : Nat) (I : Nat → Nat → Int) (B : Int) : Prop := ZV I ∧ I 111 3 = (nn : Int) ∧ (0 ≤ I 110 7 ∧ I 110 7 ≤ B) ∧ ∀ q : Nat, (q : Int) < I 110 7 → LQ I q
theorem AInv_1 {nn : Nat} {I : Nat → Nat → Int} {B : Int} (h : AInv nn I B) (hB : B < 66) {i j : Nat} (hij : i < j) (hj : j < nn) : AInv nn (m_layLine I i j) (B + 1) := by
  obtain ⟨h1, h2, h3, h4⟩ := h
  have e : m_layLine I i j 111 = I 111 := layLine_ne (by omega)
  have e7 := layLine_7 (I := I) (i := i) (j := j)
  exact ⟨ZV_ne h1 e, by rw [e]; exact h2, by omega, layLine_LQ h1 hij (by omega) (by omega) h4⟩
theorem AInv_2 {nn i : Nat} : ∀ (f j : Nat) (I : Nat → Nat → Int) (B : Int), AInv nn I B → B + f ≤ 66 → i < j → j + f = nn → AInv nn (m_a2 i f j I) (B + f)
  | 0, j, I, B, h, _, _, _ => by unfold m_a2; rw [show B + ((0 : Nat) : Int) = B by omega]; exact h
  | f + 1, j, I, B, h, hB, hij, hf => by
    unfold m_a2
    have q := AInv_2 (nn := nn) (i := i) f (j + 1) _ (B + 1) (AInv_1 h (by omega) hij (by omega)) (by omega) (by omega) (by omega)
    rw [show B + ((f + 1 : Nat) : Int) = B + 1 + (f : Int) by omega]
    exact q
def tri : Nat → Nat
  | 0 => 0
  | f + 1 => tri f + f
theorem AInv_3 {nn : Nat} : ∀ (f i : Nat) (I : Nat → Nat → Int) (B : Int), AInv nn I B → B + tri f ≤ 66 → i + f = nn → AInv nn (m_a1 f i I) (B + tri f)
  | 0, i, I, B, h, _, _ => by unfold m_a1 tri; rw [show B + ((0 : Nat) : Int) = B by omega]; exact h
  | f + 1, i, I, B, h, hB, hf => by
    unfold tri at hB ⊢
    unfold m_a1
    have q := AInv_3 (nn := nn) f (i + 1) _ (B + f) (AInv_2 (nn := nn) (i := i) f (i + 1) I B h (by omega) (by omega) (by omega)) (by omega) (by omega)
    rw [show B + ((tri f + f : Nat) : Int) = B + (f : Int) + (tri f : Int) by omega]
    exact q
theorem tri12 : ∀ f : Nat, f ≤ 12 → tri f ≤ 66 := by decide
