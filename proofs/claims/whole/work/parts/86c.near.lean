/-! the reference: which spots lie on a line, whether they are near -/
theorem obt1 {m : Int} {p : Nat} : obt m p = 1 ↔ m.toNat.testBit p = true := by
  unfold obt
  split
  · rename_i h; simp [h]
  · rename_i h; simp [h]
theorem obit_bit {m : Int} {k p : Nat} : (obit m k).toNat.testBit p = true ↔ m.toNat.testBit p = true ∨ p = k := by
  unfold obit
  rw [show (((m.toNat ||| 2 ^ (k : Int).toNat : Nat) : Int)).toNat = m.toNat ||| 2 ^ k by rw [Int.toNat_natCast, Int.toNat_natCast], Nat.testBit_or, Nat.testBit_two_pow]
  simp only [Bool.or_eq_true, decide_eq_true_eq]
  constructor
  · rintro (h | h)
    · exact Or.inl h
    · exact Or.inr h.symm
  · rintro (h | h)
    · exact Or.inl h
    · exact Or.inr h.symm
theorem nxL_le {M : Nat → Nat → Int} {i : Nat} {mask : Int} {k : Nat} (X : Int) : ∀ (f m : Nat) (x : Int), nxL M i mask k f m x ≤ X ↔ x ≤ X ∨ ∃ q : Nat, m ≤ q ∧ q < m + f ∧ 0 < m_its M i mask k q ∧ m_its M i mask k q ≤ X
  | 0, m, x => by
    constructor
    · intro h; exact Or.inl h
    · rintro (h | ⟨q, h1, h2, _⟩)
      · exact h
      · omega
  | f + 1, m, x => by
    unfold nxL
    rw [nxL_le X f (m + 1)]
    constructor
    · rintro (h | ⟨q, h1, h2, h3⟩)
      · by_cases hc : 0 < m_its M i mask k m ∧ m_its M i mask k m < x
        · rw [if_pos hc] at h
          exact Or.inr ⟨m, by omega, by omega, hc.1, h⟩
        · rw [if_neg hc] at h
          exact Or.inl h
      · exact Or.inr ⟨q, by omega, by omega, h3⟩
    · rintro (h | ⟨q, h1, h2, h3, h4⟩)
      · left
        split <;> omega
      · by_cases hq : q = m
        · subst hq
          left
          split <;> omega
        · exact Or.inr ⟨q, by omega, by omega, h3, h4⟩
theorem nrL_ne {M : Nat → Nat → Int} {i : Nat} {mask : Int} : ∀ (f k : Nat) (a : Int), ¬ nrL M i mask f k a = 0 ↔ ¬ a = 0 ∧ ∀ q : Nat, k ≤ q → q < k + f → (m_next M i mask q = 1000 ∨ m_next M i mask q ≤ M 111 1)
  | 0, k, a => by
    constructor
    · intro h; exact ⟨h, fun q h1 h2 => by omega⟩
    · intro h; exact h.1
  | f + 1, k, a => by
    unfold nrL
    rw [nrL_ne f (k + 1)]
    constructor
    · rintro ⟨h1, h2⟩
      by_cases hc : ¬ a = 0 ∧ (m_next M i mask k = 1000 ∨ m_next M i mask k ≤ M 111 1)
      · refine ⟨hc.1, fun q q1 q2 => ?_⟩
        by_cases hq : q = k
        · subst hq; exact hc.2
        · exact h2 q (by omega) (by omega)
      · rw [if_neg hc] at h1; exact absurd rfl h1
    · rintro ⟨h1, h2⟩
      rw [if_pos ⟨h1, h2 k (by omega) (by omega)⟩]
      exact ⟨by decide, fun q q1 q2 => h2 q (by omega) (by omega)⟩
/-- near, told by spots -/
theorem near_iff {M : Nat → Nat → Int} (hz : ZV M) {i : Nat} {mask : Int} (hi : (i : Int) < M 111 3) : ¬ m_near M i mask = 0 ↔ ∀ k : Nat, (k : Int) < M 111 3 → mask.toNat.testBit k = true → (∃ m : Nat, (m : Int) < M 111 3 ∧ mask.toNat.testBit m = true ∧ m_st M i k < m_st M i m) → ∃ m : Nat, (m : Int) < M 111 3 ∧ mask.toNat.testBit m = true ∧ m_st M i k < m_st M i m ∧ m_st M i m ≤ m_st M i k + M 111 1 := by
  have z3 := hz.1
  have z1 := hz.2.2.2.2.1 1 (by decide)
  have hn : (((M 111 3).toNat : Nat) : Int) = M 111 3 := by omega
  unfold m_near
  rw [nrL_ne]
  have its : ∀ k m : Nat, m_its M i mask k m = if mask.toNat.testBit m = true then m_st M i m - m_st M i k else 0 := fun k m => by
    unfold m_its
    by_cases hb : mask.toNat.testBit m = true
    · rw [if_pos (obt1.mpr hb), if_pos hb]
    · rw [if_neg (fun q => hb (obt1.mp q)), if_neg hb]
  constructor
  · rintro ⟨-, h⟩ k hk hb ⟨m, hm, hmb, hlt⟩
    have sk := m_st_rg hz hi hk
    have sm := m_st_rg hz hi hm
    have h1 := h k (by omega) (by omega)
    unfold m_next at h1
    rw [if_pos (obt1.mpr hb)] at h1
    have h9 : nxL M i mask k (M 111 3).toNat 0 1000 ≤ 999 := (nxL_le 999 _ 0 1000).mpr (Or.inr ⟨m, by omega, by omega, by rw [its, if_pos hmb]; omega, by rw [its, if_pos hmb]; omega⟩)
    rcases h1 with h1 | h1
    · omega
    · rcases (nxL_le (M 111 1) _ 0 1000).mp h1 with h2 | ⟨q, q1, q2, q3, q4⟩
      · omega
      · rw [its] at q3 q4
        by_cases hqb : mask.toNat.testBit q = true
        · rw [if_pos hqb] at q3 q4
          exact ⟨q, by omega, hqb, by omega, by omega⟩
        · rw [if_neg hqb] at q3; omega
  · intro h
    refine ⟨by decide, fun k k1 k2 => ?_⟩
    unfold m_next
    by_cases hb : mask.toNat.testBit k = true
    · rw [if_pos (obt1.mpr hb)]
      by_cases he : ∃ m : Nat, (m : Int) < M 111 3 ∧ mask.toNat.testBit m = true ∧ m_st M i k < m_st M i m
      · obtain ⟨m, m1, m2, m3, m4⟩ := h k (by omega) hb he
        right
        exact (nxL_le (M 111 1) _ 0 1000).mpr (Or.inr ⟨m, by omega, by omega, by rw [its, if_pos m2]; omega, by rw [its, if_pos m2]; omega⟩)
      · left
        have r := nxL_rg (I := M) (i := i) (mask := mask) (k := k) (M 111 3).toNat 0 1000 (by decide)
        by_cases h9 : nxL M i mask k (M 111 3).toNat 0 1000 ≤ 999
        · rcases (nxL_le 999 _ 0 1000).mp h9 with h2 | ⟨q, q1, q2, q3, q4⟩
          · omega
          · rw [its] at q3 q4
            by_cases hqb : mask.toNat.testBit q = true
            · rw [if_pos hqb] at q3 q4
              exact absurd ⟨q, by omega, hqb, by omega⟩ he
            · rw [if_neg hqb] at q3; omega
        · omega
    · rw [if_neg (fun q => hb (obt1.mp q))]
      exact Or.inl rfl
/-! the spots of a line -/
theorem lpL_add {M : Nat → Nat → Int} {i j : Nat} : ∀ (f g k : Nat) (s : Int × Int × Int × Int), lpL M i j (f + g) k s = lpL M i j g (k + f) (lpL M i j f k s)
  | 0, g, k, s => by
    rw [Nat.zero_add]
    rfl
  | f + 1, g, k, s => by
    rw [show f + 1 + g = (f + g) + 1 by omega]
    show lpL M i j (f + g) (k + 1) (lpM M i j k s) = lpL M i j g (k + (f + 1)) (lpL M i j f (k + 1) (lpM M i j k s))
    rw [lpL_add f g (k + 1), show k + 1 + f = k + (f + 1) by omega]
theorem lpL_skip {M : Nat → Nat → Int} {i j : Nat} : ∀ (f k : Nat) (s : Int × Int × Int × Int), (∀ q : Nat, k ≤ q → q < k + f → ¬ m_str M i j q) → lpL M i j f k s = s
  | 0, _, _, _ => rfl
  | f + 1, k, s, h => by
    unfold lpL
    have e : lpM M i j k s = s := by
      unfold lpM
      exact if_neg (h k (by omega) (by omega))
    rw [e]
    exact lpL_skip f (k + 1) s (fun q h1 h2 => h q (by omega) (by omega))
theorem lpM_1 {M : Nat → Nat → Int} {i j k : Nat} {s : Int × Int × Int × Int} (h : m_str M i j k) : lpM M i j k s = (obit s.1 k, (if ¬ s.2.1 = 0 ∧ (k = i ∨ j ≤ k) then 1 else 0), (if m_st M i k < s.2.2.1 then m_st M i k else s.2.2.1), (if s.2.2.2 < m_st M i k then m_st M i k else s.2.2.2)) := by
  unfold lpM
  exact if_pos h
theorem lpM_0 {M : Nat → Nat → Int} {i j k : Nat} {s : Int × Int × Int × Int} (h : ¬ m_str M i j k) : lpM M i j k s = s := by
  unfold lpM
  exact if_neg h
theorem lpL_bit {M : Nat → Nat → Int} {i j p : Nat} : ∀ (f k : Nat) (s : Int × Int × Int × Int), (lpL M i j f k s).1.toNat.testBit p = true ↔ s.1.toNat.testBit p = true ∨ (k ≤ p ∧ p < k + f ∧ m_str M i j p)
  | 0, k, s => by
    constructor
    · intro h; exact Or.inl h
    · rintro (h | ⟨h1, h2, _⟩)
      · exact h
      · omega
  | f + 1, k, s => by
    unfold lpL
    rw [lpL_bit f (k + 1)]
    by_cases hs : m_str M i j k
    · rw [lpM_1 hs]
      show (obit s.1 k).toNat.testBit p = true ∨ _ ↔ _
      rw [obit_bit]
      constructor
      · rintro ((h | h) | ⟨h1, h2, h3⟩)
        · exact Or.inl h
        · subst h; exact Or.inr ⟨by omega, by omega, hs⟩
        · exact Or.inr ⟨by omega, by omega, h3⟩
      · rintro (h | ⟨h1, h2, h3⟩)
        · exact Or.inl (Or.inl h)
        · by_cases hp : p = k
          · exact Or.inl (Or.inr hp)
          · exact Or.inr ⟨by omega, by omega, h3⟩
    · rw [lpM_0 hs]
      constructor
      · rintro (h | ⟨h1, h2, h3⟩)
        · exact Or.inl h
        · exact Or.inr ⟨by omega, by omega, h3⟩
      · rintro (h | ⟨h1, h2, h3⟩)
        · exact Or.inl h
        · by_cases hp : p = k
          · subst hp; exact absurd h3 hs
          · exact Or.inr ⟨by omega, by omega, h3⟩
theorem lpL_first {M : Nat → Nat → Int} {i j : Nat} : ∀ (f k : Nat) (s : Int × Int × Int × Int), ¬ (lpL M i j f k s).2.1 = 0 ↔ ¬ s.2.1 = 0 ∧ ∀ q : Nat, k ≤ q → q < k + f → m_str M i j q → (q = i ∨ j ≤ q)
  | 0, k, s => by
    constructor
    · intro h; exact ⟨h, fun q h1 h2 => by omega⟩
    · intro h; exact h.1
  | f + 1, k, s => by
    unfold lpL
    rw [lpL_first f (k + 1)]
    by_cases hs : m_str M i j k
    · rw [lpM_1 hs]
      show ¬ (if ¬ s.2.1 = 0 ∧ (k = i ∨ j ≤ k) then (1 : Int) else 0) = 0 ∧ _ ↔ _
      constructor
      · rintro ⟨h1, h2⟩
        by_cases hc : ¬ s.2.1 = 0 ∧ (k = i ∨ j ≤ k)
        · refine ⟨hc.1, fun q q1 q2 q3 => ?_⟩
          by_cases hq : q = k
          · subst hq; exact hc.2
          · exact h2 q (by omega) (by omega) q3
        · rw [if_neg hc] at h1; exact absurd rfl h1
      · rintro ⟨h1, h2⟩
        rw [if_pos ⟨h1, h2 k (by omega) (by omega) hs⟩]
        exact ⟨by decide, fun q q1 q2 q3 => h2 q (by omega) (by omega) q3⟩
    · rw [lpM_0 hs]
      constructor
      · rintro ⟨h1, h2⟩
        refine ⟨h1, fun q q1 q2 q3 => ?_⟩
        by_cases hq : q = k
        · subst hq; exact absurd q3 hs
        · exact h2 q (by omega) (by omega) q3
      · rintro ⟨h1, h2⟩
        exact ⟨h1, fun q q1 q2 q3 => h2 q (by omega) (by omega) q3⟩
/-- low and high: their spots -/
theorem lpL_low {M : Nat → Nat → Int} {i j : Nat} : ∀ (f k : Nat) (s : Int × Int × Int × Int), ((lpL M i j f k s).2.2.1 ≤ s.2.2.1 ∧ ∀ q : Nat, k ≤ q → q < k + f → m_str M i j q → (lpL M i j f k s).2.2.1 ≤ m_st M i q) ∧ ((lpL M i j f k s).2.2.1 = s.2.2.1 ∨ ∃ q : Nat, k ≤ q ∧ q < k + f ∧ m_str M i j q ∧ (lpL M i j f k s).2.2.1 = m_st M i q)
  | 0, k, s => ⟨⟨Int.le_refl _, fun q h1 h2 => by omega⟩, Or.inl rfl⟩
  | f + 1, k, s => by
    unfold lpL
    by_cases hs : m_str M i j k
    · have ih := lpL_low (M := M) (i := i) (j := j) f (k + 1) (lpM M i j k s)
      have e : (lpM M i j k s).2.2.1 = if m_st M i k < s.2.2.1 then m_st M i k else s.2.2.1 := by rw [lpM_1 hs]
      rw [e] at ih
      obtain ⟨⟨a1, a2⟩, a3⟩ := ih
      refine ⟨⟨by split at a1 <;> omega, fun q q1 q2 q3 => ?_⟩, ?_⟩
      · by_cases hq : q = k
        · subst hq; split at a1 <;> omega
        · exact a2 q (by omega) (by omega) q3
      · rcases a3 with a3 | ⟨q, q1, q2, q3, q4⟩
        · by_cases hc : m_st M i k < s.2.2.1
          · rw [if_pos hc] at a3; exact Or.inr ⟨k, by omega, by omega, hs, a3⟩
          · rw [if_neg hc] at a3; exact Or.inl a3
        · exact Or.inr ⟨q, by omega, by omega, q3, q4⟩
    · rw [lpM_0 hs]
      obtain ⟨⟨a1, a2⟩, a3⟩ := lpL_low (M := M) (i := i) (j := j) f (k + 1) s
      refine ⟨⟨a1, fun q q1 q2 q3 => ?_⟩, ?_⟩
      · by_cases hq : q = k
        · subst hq; exact absurd q3 hs
        · exact a2 q (by omega) (by omega) q3
      · rcases a3 with a3 | ⟨q, q1, q2, q3, q4⟩
        · exact Or.inl a3
        · exact Or.inr ⟨q, by omega, by omega, q3, q4⟩
theorem lpL_high {M : Nat → Nat → Int} {i j : Nat} : ∀ (f k : Nat) (s : Int × Int × Int × Int), (s.2.2.2 ≤ (lpL M i j f k s).2.2.2 ∧ ∀ q : Nat, k ≤ q → q < k + f → m_str M i j q → m_st M i q ≤ (lpL M i j f k s).2.2.2) ∧ ((lpL M i j f k s).2.2.2 = s.2.2.2 ∨ ∃ q : Nat, k ≤ q ∧ q < k + f ∧ m_str M i j q ∧ (lpL M i j f k s).2.2.2 = m_st M i q)
  | 0, k, s => ⟨⟨Int.le_refl _, fun q h1 h2 => by omega⟩, Or.inl rfl⟩
  | f + 1, k, s => by
    unfold lpL
    by_cases hs : m_str M i j k
    · have ih := lpL_high (M := M) (i := i) (j := j) f (k + 1) (lpM M i j k s)
      have e : (lpM M i j k s).2.2.2 = if s.2.2.2 < m_st M i k then m_st M i k else s.2.2.2 := by rw [lpM_1 hs]
      rw [e] at ih
      obtain ⟨⟨a1, a2⟩, a3⟩ := ih
      refine ⟨⟨by split at a1 <;> omega, fun q q1 q2 q3 => ?_⟩, ?_⟩
      · by_cases hq : q = k
        · subst hq; split at a1 <;> omega
        · exact a2 q (by omega) (by omega) q3
      · rcases a3 with a3 | ⟨q, q1, q2, q3, q4⟩
        · by_cases hc : s.2.2.2 < m_st M i k
          · rw [if_pos hc] at a3; exact Or.inr ⟨k, by omega, by omega, hs, a3⟩
          · rw [if_neg hc] at a3; exact Or.inl a3
        · exact Or.inr ⟨q, by omega, by omega, q3, q4⟩
    · rw [lpM_0 hs]
      obtain ⟨⟨a1, a2⟩, a3⟩ := lpL_high (M := M) (i := i) (j := j) f (k + 1) s
      refine ⟨⟨a1, fun q q1 q2 q3 => ?_⟩, ?_⟩
      · by_cases hq : q = k
        · subst hq; exact absurd q3 hs
        · exact a2 q (by omega) (by omega) q3
      · rcases a3 with a3 | ⟨q, q1, q2, q3, q4⟩
        · exact Or.inl a3
        · exact Or.inr ⟨q, by omega, by omega, q3, q4⟩
