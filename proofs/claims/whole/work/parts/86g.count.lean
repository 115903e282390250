/-! at most 22 lines: each has three pairs of spots of its own -/
theorem par3 {v1 v2 w1 w2 x1 x2 : Int} (hv : ¬ (v1 = 0 ∧ v2 = 0)) (h1 : v1 * w2 = w1 * v2) (h2 : v1 * x2 = x1 * v2) : w1 * x2 = x1 * w2 := by
  by_cases h : v1 = 0
  · have hv2 : v2 ≠ 0 := fun q => hv ⟨h, q⟩
    rw [h, Int.zero_mul] at h1 h2
    have e1 : w1 = 0 := by
      rcases Int.mul_eq_zero.mp h1.symm with q | q
      · exact q
      · exact absurd q hv2
    have e2 : x1 = 0 := by
      rcases Int.mul_eq_zero.mp h2.symm with q | q
      · exact q
      · exact absurd q hv2
    rw [e1, e2, Int.zero_mul, Int.zero_mul]
  · have e : v1 * (w1 * x2) = v1 * (x1 * w2) := by
      calc v1 * (w1 * x2) = w1 * (v1 * x2) := Int.mul_left_comm _ _ _
        _ = w1 * (x1 * v2) := by rw [h2]
        _ = x1 * (w1 * v2) := Int.mul_left_comm _ _ _
        _ = x1 * (v1 * w2) := by rw [h1]
        _ = v1 * (x1 * w2) := Int.mul_left_comm _ _ _
    exact Int.eq_of_mul_eq_mul_left h e
/-- what lies on a line with p lies so as p sees it -/
theorem str_shift {M : Nat → Nat → Int} {a b p r : Nat} (h1 : m_str M a b p) : m_str M a b r ↔ m_ta M a b * m_sa M p r = m_ta M p r * m_sa M a b := by
  unfold m_str at h1 ⊢
  have e1 : m_sa M a r = m_sa M a p + m_sa M p r := by unfold m_sa; omega
  have e2 : m_ta M a r = m_ta M a p + m_ta M p r := by unfold m_ta; omega
  rw [e1, e2, Int.mul_add, Int.add_mul, h1]
  constructor
  · intro h; omega
  · intro h; omega
theorem str_same {M : Nat → Nat → Int} (hz : ZV M) {a b a' b' p p' : Nat} (hab : (a : Int) < M 111 3 ∧ (b : Int) < M 111 3 ∧ a ≠ b) (hpp : (p : Int) < M 111 3 ∧ (p' : Int) < M 111 3 ∧ p ≠ p') (h1 : m_str M a b p) (h2 : m_str M a b p') (g1 : m_str M a' b' p) (g2 : m_str M a' b' p') (r : Nat) (hr : m_str M a b r) : m_str M a' b' r := by
  have hv := m_apart hz hab.1 hab.2.1 hab.2.2
  have hw := m_apart hz hpp.1 hpp.2.1 hpp.2.2
  have k1 := (str_shift h1).mp h2
  have k2 := (str_shift h1).mp hr
  have k3 := (str_shift g1).mp g2
  have k4 := par3 hv k1 k2
  have k5 := par3 (x1 := m_ta M p r) (x2 := m_sa M p r) hw k3.symm k4
  exact (str_shift g1).mpr k5
theorem LN_same {M : Nat → Nat → Int} (hz : ZV M) {a b a' b' p p' : Nat} (hab : a < b ∧ (b : Int) < M 111 3) (hab' : a' < b' ∧ (b' : Int) < M 111 3) (hL : ∀ q : Nat, (q : Int) < M 111 3 → m_str M a b q → q = a ∨ b ≤ q) (hL' : ∀ q : Nat, (q : Int) < M 111 3 → m_str M a' b' q → q = a' ∨ b' ≤ q) (hpp : (p : Int) < M 111 3 ∧ (p' : Int) < M 111 3 ∧ p ≠ p') (h1 : m_str M a b p) (h2 : m_str M a b p') (g1 : m_str M a' b' p) (g2 : m_str M a' b' p') : a = a' ∧ b = b' := by
  have t1 := fun r => str_same hz ⟨by omega, hab.2, by omega⟩ hpp h1 h2 g1 g2 r
  have t2 := fun r => str_same hz ⟨by omega, hab'.2, by omega⟩ hpp g1 g2 h1 h2 r
  have q1 := hL' a (by omega) (t1 a str_a)
  have q2 := hL a' (by omega) (t2 a' str_a)
  have q3 := hL' b hab.2 (t1 b str_b)
  have q4 := hL b' hab'.2 (t2 b' str_b)
  omega
def tri3 (A B C : Nat → Nat) (k : Nat) : Nat := if k % 3 = 0 then 12 * A (k / 3) + B (k / 3) else if k % 3 = 1 then 12 * A (k / 3) + C (k / 3) else 12 * B (k / 3) + C (k / 3)
theorem pairs66 : cntL (fun c => decide (c / 12 < c % 12 ∧ c < 144)) 576 0 0 = 66 := by decide +kernel
theorem lines22 {M : Nat → Nat → Int} (hz : ZV M) {L : Nat} {A B C : Nat → Nat} (h : ∀ q, q < L → A q < B q ∧ B q < C q ∧ (C q : Int) < M 111 3 ∧ (∀ p : Nat, (p : Int) < M 111 3 → m_str M (A q) (B q) p → p = A q ∨ B q ≤ p) ∧ m_str M (A q) (B q) (C q)) (inj : ∀ q q', q < L → q' < L → A q = A q' → B q = B q' → q = q') : 3 * L ≤ 66 := by
  have z3 := hz.1
  have key : ∀ k, k < 3 * L → ∃ x y : Nat, tri3 A B C k = 12 * x + y ∧ x < y ∧ y < 12 ∧ (y : Int) < M 111 3 ∧ m_str M (A (k / 3)) (B (k / 3)) x ∧ m_str M (A (k / 3)) (B (k / 3)) y ∧ (k % 3 = 0 → x = A (k / 3) ∧ y = B (k / 3)) ∧ (k % 3 = 1 → x = A (k / 3) ∧ y = C (k / 3)) ∧ (k % 3 = 2 → x = B (k / 3) ∧ y = C (k / 3)) := fun k hk => by
    obtain ⟨h1, h2, h3, h4, h5⟩ := h (k / 3) (by omega)
    unfold tri3
    by_cases q0 : k % 3 = 0
    · exact ⟨A (k / 3), B (k / 3), by rw [if_pos q0], h1, by omega, by omega, str_a, str_b, fun _ => ⟨rfl, rfl⟩, fun q => by omega, fun q => by omega⟩
    · by_cases q1 : k % 3 = 1
      · exact ⟨A (k / 3), C (k / 3), by rw [if_neg q0, if_pos q1], by omega, by omega, h3, str_a, h5, fun q => by omega, fun _ => ⟨rfl, rfl⟩, fun q => by omega⟩
      · exact ⟨B (k / 3), C (k / 3), by rw [if_neg q0, if_neg q1], h2, by omega, h3, str_b, h5, fun q => by omega, fun q => by omega, fun _ => ⟨rfl, rfl⟩⟩
  have e := cntL_apart (tri3 A B C) (3 * L) (fun k hk => by
    obtain ⟨x, y, e1, e2, e3, _⟩ := key k hk
    omega) (fun i j hi hj hij => by
    obtain ⟨x, y, e1, e2, e3, e4, e5, e6, e7, e8, e9⟩ := key i hi
    obtain ⟨x', y', f1, f2, f3, f4, f5, f6, f7, f8, f9⟩ := key j hj
    have hx : x = x' := by omega
    have hy : y = y' := by omega
    subst hx
    subst hy
    obtain ⟨h1, h2, h3, h4, h5⟩ := h (i / 3) (by omega)
    obtain ⟨g1, g2, g3, g4, g5⟩ := h (j / 3) (by omega)
    have s := LN_same hz ⟨h1, by omega⟩ ⟨g1, by omega⟩ h4 g4 ⟨by omega, e4, by omega⟩ e5 e6 f5 f6
    have hq := inj (i / 3) (j / 3) (by omega) (by omega) s.1 s.2
    rw [← hq] at f7 f8 f9
    by_cases q0 : i % 3 = 0
    · have := e7 q0
      by_cases r0 : j % 3 = 0
      · omega
      · by_cases r1 : j % 3 = 1
        · have := f8 r1; omega
        · have := f9 (by omega); omega
    · by_cases q1 : i % 3 = 1
      · have := e8 q1
        by_cases r0 : j % 3 = 0
        · have := f7 r0; omega
        · by_cases r1 : j % 3 = 1
          · omega
          · have := f9 (by omega); omega
      · have := e9 (by omega)
        by_cases r0 : j % 3 = 0
        · have := f7 r0; omega
        · by_cases r1 : j % 3 = 1
          · have := f8 r1; omega
          · omega)
  have l := cntL_le (f := anyS (tri3 A B C) (3 * L)) (g := fun c => decide (c / 12 < c % 12 ∧ c < 144)) (fun c hc => by
    obtain ⟨k, hk, hkc⟩ := (anyS_iff _ _ _).mp hc
    obtain ⟨x, y, e1, e2, e3, _⟩ := key k hk
    rw [decide_eq_true_eq]
    omega) 576 0
  rw [e, pairs66] at l
  omega
/-- the lines that are laid so far, by the first two spots of each -/
def LNS (M : Nat → Nat → Int) (i j : Nat) : Prop := ∃ A B : Nat → Nat, (∀ q : Nat, (q : Int) < M 110 7 → A q < B q ∧ (B q : Int) < M 111 3 ∧ LNP M (A q) (B q) ∧ (A q < i ∨ A q = i ∧ B q < j)) ∧ ∀ q q' : Nat, (q : Int) < M 110 7 → (q' : Int) < M 110 7 → A q = A q' → B q = B q' → q = q'
theorem LNS_22 {M : Nat → Nat → Int} (hz : ZV M) (h7 : 0 ≤ M 110 7) {i j : Nat} (hij : i < j) (hj : (j : Int) < M 111 3) (h : LNS M i j) (hL : LNP M i j) : M 110 7 < 22 := by
  obtain ⟨A, B, h1, h2⟩ := h
  have hC : ∀ q : Nat, ∃ c : Nat, (q : Int) < M 110 7 → B q < c ∧ (c : Int) < M 111 3 ∧ m_str M (A q) (B q) c := fun q => by
    by_cases hq : (q : Int) < M 110 7
    · obtain ⟨c, hc⟩ := (h1 q hq).2.2.1.2
      exact ⟨c, fun _ => hc⟩
    · exact ⟨0, fun w => absurd w hq⟩
  obtain ⟨c0, hc0⟩ := hL.2
  let C : Nat → Nat := fun q => Classical.choose (hC q)
  have hC' : ∀ q : Nat, (q : Int) < M 110 7 → B q < C q ∧ (C q : Int) < M 111 3 ∧ m_str M (A q) (B q) (C q) := fun q => Classical.choose_spec (hC q)
  have r := lines22 hz (L := (M 110 7).toNat + 1) (A := fun q => if q = (M 110 7).toNat then i else A q) (B := fun q => if q = (M 110 7).toNat then j else B q) (C := fun q => if q = (M 110 7).toNat then c0 else C q)
    (fun q hq => by
      try dsimp only
      by_cases h9 : q = (M 110 7).toNat
      · rw [if_pos h9, if_pos h9, if_pos h9]
        exact ⟨hij, hc0.1, hc0.2.1, hL.1, hc0.2.2⟩
      · rw [if_neg h9, if_neg h9, if_neg h9]
        have k1 := h1 q (by omega)
        have k2 := hC' q (by omega)
        exact ⟨k1.1, k2.1, k2.2.1, k1.2.2.1.1, k2.2.2⟩)
    (fun q q' hq hq' e1 e2 => by
      try dsimp only at e1 e2
      by_cases h9 : q = (M 110 7).toNat
      · by_cases h8 : q' = (M 110 7).toNat
        · omega
        · rw [if_pos h9, if_neg h8] at e1 e2
          have k1 := h1 q' (by omega)
          omega
      · by_cases h8 : q' = (M 110 7).toNat
        · rw [if_neg h9, if_pos h8] at e1 e2
          have k1 := h1 q (by omega)
          omega
        · rw [if_neg h9, if_neg h8] at e1 e2
          exact h2 q q' (by omega) (by omega) e1 e2)
  omega
