/-! the reference: the map that is laid is in order -/
/-- the rows of hits and of marks are empty behind the last cell -/
def HB (I : Nat → Nat → Int) : Prop := ∀ j : Nat, 576 ≤ j → I 121 j = 0 ∧ I 122 j = 0
theorem HB_ne {I I' : Nat → Nat → Int} (h : HB I) (e1 : I' 121 = I 121) (e2 : I' 122 = I 122) : HB I' := by
  unfold HB
  rw [e1, e2]
  exact h
theorem lb_121 : ∀ (f c : Nat) (I : Nat → Nat → Int) (j : Nat), m_lb f c I 121 j = if c ≤ j ∧ j < c + f then 0 else I 121 j
  | 0, c, I, j => by
    rw [if_neg (by omega)]
    rfl
  | f + 1, c, I, j => by
    unfold m_lb
    rw [lb_121 f (c + 1) _ j, u2_ne (by decide), u2k]
    by_cases h : c + 1 ≤ j ∧ j < c + 1 + f
    · rw [if_pos h, if_pos (by omega)]
    · rw [if_neg h]
      by_cases g : j = c
      · rw [if_pos g, if_pos (by omega)]
      · rw [if_neg g, if_neg (by omega)]
theorem lb_122 : ∀ (f c : Nat) (I : Nat → Nat → Int) (j : Nat), m_lb f c I 122 j = if c ≤ j ∧ j < c + f then 0 else I 122 j
  | 0, c, I, j => by
    rw [if_neg (by omega)]
    rfl
  | f + 1, c, I, j => by
    unfold m_lb
    rw [lb_122 f (c + 1) _ j, u2k, u2_ne (by decide)]
    by_cases h : c + 1 ≤ j ∧ j < c + 1 + f
    · rw [if_pos h, if_pos (by omega)]
    · rw [if_neg h]
      by_cases g : j = c
      · rw [if_pos g, if_pos (by omega)]
      · rw [if_neg g, if_neg (by omega)]
theorem lc_122 : ∀ (f k : Nat) (I : Nat → Nat → Int) (j : Nat), ((∃ q : Nat, k ≤ q ∧ q < k + f ∧ (I 111 (6 + q)).toNat = j) → m_lc f k I 122 j = 1) ∧ ((¬ ∃ q : Nat, k ≤ q ∧ q < k + f ∧ (I 111 (6 + q)).toNat = j) → m_lc f k I 122 j = I 122 j)
  | 0, k, I, j => ⟨fun ⟨q, h1, h2, _⟩ => by omega, fun _ => rfl⟩
  | f + 1, k, I, j => by
    have ih := lc_122 f (k + 1) (u2 I 122 (I 111 (6 + k)).toNat 1) j
    have e : u2 I 122 (I 111 (6 + k)).toNat 1 111 = I 111 := u2_ne (by decide)
    rw [e, u2k] at ih
    refine ⟨fun ⟨q, h1, h2, h3⟩ => ?_, fun hn => ?_⟩
    · show m_lc f (k + 1) _ 122 j = 1
      by_cases hq : ∃ q : Nat, k + 1 ≤ q ∧ q < k + 1 + f ∧ (I 111 (6 + q)).toNat = j
      · exact ih.1 hq
      · rw [ih.2 hq]
        have : q = k := Decidable.byContradiction fun hne => hq ⟨q, by omega, by omega, h3⟩
        rw [this] at h3
        rw [if_pos h3.symm]
    · show m_lc f (k + 1) _ 122 j = I 122 j
      rw [ih.2 (fun ⟨q, h1, h2, h3⟩ => hn ⟨q, by omega, by omega, h3⟩), if_neg (fun h => hn ⟨k, by omega, by omega, h.symm⟩)]
theorem ld2_HV {q : Nat} : ∀ (f : Nat) (s : Int) (I : Nat → Nat → Int) (B : Int), (∀ j : Nat, 0 ≤ I 121 j ∧ I 121 j ≤ B) → ∀ j : Nat, 0 ≤ m_ld2 q f s I 121 j ∧ m_ld2 q f s I 121 j ≤ B + f
  | 0, _, I, B, h, j => by have := h j; show 0 ≤ I 121 j ∧ I 121 j ≤ B + ((0 : Nat) : Int); omega
  | f + 1, s, I, B, h, j => by
    unfold m_ld2
    have q9 := ld2_HV (q := q) f (s + 1) (if m_cellOf I q s = -1 then I else u2 I 121 (m_cellOf I q s).toNat (I 121 (m_cellOf I q s).toNat + 1)) (B + 1) (fun i => by
      have hi := h i
      split
      · omega
      · rw [u2k]
        split
        · have := h (m_cellOf I q s).toNat; omega
        · omega) j
    omega
theorem ld2_hi {q : Nat} : ∀ (f : Nat) (s : Int) (I : Nat → Nat → Int) (j : Nat), 576 ≤ j → m_ld2 q f s I 121 j = I 121 j
  | 0, _, _, _, _ => rfl
  | f + 1, s, I, j, h => by
    unfold m_ld2
    have hc := m_cellOf_rg (I := I) (q := q) (s := s)
    rw [ld2_hi f (s + 1) _ j h]
    split
    · rfl
    · rw [u2k, if_neg (by omega)]
theorem ld1_hi : ∀ (f q : Nat) (I : Nat → Nat → Int) (j : Nat), 576 ≤ j → m_ld1 f q I 121 j = I 121 j
  | 0, _, _, _, _ => rfl
  | f + 1, q, I, j, h => by
    unfold m_ld1
    rw [ld1_hi f (q + 1) _ j h, ld2_hi _ _ _ j h]
theorem ld1_HV : ∀ (f q : Nat) (I : Nat → Nat → Int) (B : Int), (∀ k : Nat, q ≤ k → k < q + f → LQ I k) → (∀ j : Nat, 0 ≤ I 121 j ∧ I 121 j ≤ B) → ∀ j : Nat, 0 ≤ m_ld1 f q I 121 j ∧ m_ld1 f q I 121 j ≤ B + 80 * f
  | 0, _, I, B, _, h, j => by have := h j; show 0 ≤ I 121 j ∧ I 121 j ≤ B + 80 * ((0 : Nat) : Int); omega
  | f + 1, q, I, B, hl, h, j => by
    unfold m_ld1
    obtain ⟨-, -, -, l4, l5, -⟩ := hl q (by omega) (by omega)
    have h2 := ld2_HV (q := q) (I 119 q - I 118 q + 1).toNat (I 118 q) I B h
    have h3 := ld1_HV f (q + 1) (m_ld2 q (I 119 q - I 118 q + 1).toNat (I 118 q) I) (B + 80) (fun k g1 g2 => LQ_ne (hl k (by omega) (by omega)) (fun a g3 g4 => ld2_ne _ _ _ _ (by omega))) (fun i => by have := h2 i; omega) j
    omega
theorem lay_rows {I : Nat → Nat → Int} {a : Nat} (h : a ≠ 121) : m_lay I a = m_lay3 I a := by
  unfold m_lay
  rw [ld1_ne _ _ _ _ h]
theorem lay_LV {I : Nat → Nat → Int} (hz9 : ZV I) (hb9 : HB I) : LV (m_lay I) := by
  obtain ⟨h1, h2, h3, h4⟩ := lay1_A hz9
  have z3 := hz9.1
  have e7 : m_lay I 110 7 = m_lay1 I 110 7 := by rw [lay_rows (by decide), lay3_ne (by decide)]
  have e37 : m_lay3 I 110 7 = m_lay1 I 110 7 := by rw [lay3_ne (by decide)]
  have em : m_lb 576 0 (m_lay1 I) 111 = m_lay1 I 111 := lb_ne _ _ _ _ (by decide) (by decide)
  have e1 : ∀ a, a = 121 ∨ a = 122 → m_lay1 I a = I a := fun a ha => by
    unfold m_lay1
    rw [a1_ne _ _ _ _ (by omega), u2_ne (by omega)]
  have h121 : ∀ j, m_lay3 I 121 j = 0 := fun j => by
    unfold m_lay3
    rw [lc_ne _ _ _ _ (by decide), lb_121]
    split
    · rfl
    · rw [e1 _ (Or.inl rfl)]; exact (hb9 j (by omega)).1
  refine ⟨by rw [e7]; exact h3, fun q hq => ?_, fun j => ?_, fun j => ?_⟩
  · rw [e7] at hq
    exact LQ_ne (h4 q hq) (fun a g1 g2 => by rw [lay_rows (by omega), lay3_ne (by omega)])
  · have q := ld1_HV (m_lay3 I 110 7).toNat 0 (m_lay3 I) 0 (fun k g1 g2 => LQ_ne (h4 k (by omega)) (fun a g3 g4 => lay3_ne (by omega))) (fun i => by rw [h121]; decide) j
    unfold m_lay
    omega
  · rw [lay_rows (by decide)]
    unfold m_lay3
    obtain ⟨c1, c2⟩ := lc_122 (I 111 3).toNat 0 (m_lb 576 0 (m_lay1 I)) j
    by_cases h : ∃ q : Nat, 0 ≤ q ∧ q < 0 + (I 111 3).toNat ∧ (m_lb 576 0 (m_lay1 I) 111 (6 + q)).toNat = j
    · exact Or.inr (c1 h)
    · rw [c2 h, lb_122]
      split
      · exact Or.inl rfl
      · rw [e1 _ (Or.inr rfl)]; exact Or.inl (hb9 j (by omega)).2
theorem lay_HR {I : Nat → Nat → Int} (hz9 : ZV I) (hb9 : HB I) : HR (m_lay I) := by
  obtain ⟨-, -, h3, h4⟩ := lay_LV hz9 hb9
  exact ⟨fun j => by have := h3 j; omega, h4⟩
theorem lay_HB {I : Nat → Nat → Int} (hz9 : ZV I) (hb9 : HB I) : HB (m_lay I) := by
  intro j hj
  have e1 : ∀ a, a = 121 ∨ a = 122 → m_lay1 I a = I a := fun a ha => by
    unfold m_lay1
    rw [a1_ne _ _ _ _ (by omega), u2_ne (by omega)]
  have em : m_lb 576 0 (m_lay1 I) 111 = I 111 := by
    rw [lb_ne _ _ _ _ (by decide) (by decide)]
    unfold m_lay1
    rw [a1_ne _ _ _ _ (by decide), u2_ne (by decide)]
  constructor
  · unfold m_lay
    rw [ld1_hi _ _ _ j hj]
    unfold m_lay3
    rw [lc_ne _ _ _ _ (by decide), lb_121, if_neg (by omega), e1 _ (Or.inl rfl)]
    exact (hb9 j hj).1
  · rw [lay_rows (by decide)]
    unfold m_lay3
    rw [(lc_122 (I 111 3).toNat 0 (m_lb 576 0 (m_lay1 I)) j).2 (fun ⟨q, g1, g2, g3⟩ => by
      rw [em] at g3
      have z3 := hz9.1
      have := hz9.2.1 q (by omega)
      omega), lb_122, if_neg (by omega), e1 _ (Or.inr rfl)]
    exact (hb9 j hj).2
