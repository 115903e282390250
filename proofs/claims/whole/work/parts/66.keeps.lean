/-! the reference: its numbers stay in order -/
theorem ZV_u2 {I : Nat → Nat → Int} {p : Nat} {x : Int} (h : ZV I) (hp : p = 4 ∨ p = 5 ∨ (18 ≤ p ∧ p < 498 ∧ -1 ≤ x ∧ x ≤ 999) ∨ (498 ≤ p ∧ p < 978 ∧ -1 ≤ x ∧ x < 480) ∨ (498 ≤ p ∧ p < 978 ∧ -1 ≤ x ∧ x < 576) ∨ (978 ≤ p ∧ -1 ≤ x ∧ x < 480)) : ZV (u2 I 111 p x) := by
  obtain ⟨z3, zs, zs0, zd, zt, zt2, zv, zw, zk⟩ := h
  have e : ∀ q, q ≠ p → u2 I 111 p x 111 q = I 111 q := fun q hq => by rw [u2k]; exact if_neg hq
  have e3 := e 3 (by omega)
  refine ⟨by rw [e3]; exact z3, fun j hj => by rw [e _ (by omega)]; exact zs j hj, fun j hj => ?_, fun i j hi hj he => ?_, fun j hj => by rw [e _ (by omega)]; exact zt j hj, by rw [e _ (by omega)]; exact zt2, fun j hj => ?_, fun j hj => ?_, fun j hj => ?_⟩
  · rw [e3] at hj
    rw [e _ (by omega)]
    exact zs0 j hj
  · rw [e3] at hi hj
    rw [e _ (by omega), e _ (by omega)] at he
    exact zd i j hi hj he
  · rw [u2k]
    split
    · omega
    · exact zv j hj
  · rw [u2k]
    split
    · omega
    · exact zw j hj
  · rw [u2k]
    split
    · omega
    · exact zk j hj
theorem HR_ne {I I' : Nat → Nat → Int} (h : HR I) (e1 : I' 121 = I 121) (e2 : I' 122 = I 122) : HR I' := by
  unfold HR
  rw [e1, e2]
  exact h
theorem bring_ne {I : Nat → Nat → Int} {b a : Nat} {c : Int} (h : a ≠ 111) : m_bring I b c a = I a := by
  unfold m_bring m_brg2 m_brg1
  split
  · rw [u2_ne h, u2_ne h, u2_ne h, u2_ne h]
  · rw [u2_ne h, u2_ne h]
theorem bring_ZV {I : Nat → Nat → Int} (hz9 : ZV I) {b : Nat} (hb : b < 480) {c : Int} (hc : 0 ≤ c ∧ c < 576) : ZV (m_bring I b c) := by
  have w := hz9.2.2.2.2.2.2.2.1 b hb
  unfold m_bring m_brg2 m_brg1
  split
  · exact ZV_u2 (ZV_u2 (ZV_u2 (ZV_u2 hz9 (by omega)) (by omega)) (by omega)) (by omega)
  · exact ZV_u2 (ZV_u2 hz9 (by omega)) (by omega)
theorem write_ne {I : Nat → Nat → Int} {b a : Nat} {v : Int} (h : a ≠ 111) : m_write I b v a = I a := by
  unfold m_write
  rw [u2_ne h, bring_ne h]
theorem write_ZV {I : Nat → Nat → Int} (hz9 : ZV I) {b : Nat} (hb : b < 480) {v : Int} (hv : -1 ≤ v ∧ v ≤ 999) (hg : ¬ m_goal I b = -1) : ZV (m_write I b v) := by
  have gr := m_goal_rg hz9 hb
  unfold m_write
  exact ZV_u2 (bring_ZV hz9 hb (by omega)) (by omega)
theorem lose_ne {I : Nat → Nat → Int} {b a : Nat} (h : a ≠ 111) : m_lose I b a = I a := by
  unfold m_lose
  rw [u2_ne h, u2_ne h, u2_ne h]
theorem lose_ZV {I : Nat → Nat → Int} (hz9 : ZV I) {b : Nat} (hb : b < 480) : ZV (m_lose I b) := by
  have w := hz9.2.2.2.2.2.2.2.1 b hb
  unfold m_lose
  exact ZV_u2 (ZV_u2 (ZV_u2 hz9 (by omega)) (by omega)) (by omega)
theorem tgoal_rg {I : Nat → Nat → Int} {b : Nat} (hb : b < 480) : m_tgoal I b = I 111 (498 + b) ∨ 0 ≤ m_tgoal I b ∧ m_tgoal I b < 576 := by
  have q := frL_rg I 96 480
  have q2 : m_free I = -1 ∨ ((480 : Nat) : Int) ≤ m_free I ∧ m_free I < ((480 : Nat) : Int) + ((96 : Nat) : Int) := q
  unfold m_tgoal
  split
  · exact Or.inl rfl
  · split
    · omega
    · split
      · exact Or.inl rfl
      · split
        · exact Or.inl rfl
        · omega
/-- the last of the places where f is x, if there is one -/
theorem fndL_spec (f : Nat → Int) (x : Int) : ∀ (m i : Nat) (b : Int), (fndL f x m i b = b ∧ ∀ k : Nat, i ≤ k → k < i + m → f k ≠ x) ∨ (∃ k : Nat, i ≤ k ∧ k < i + m ∧ f k = x ∧ fndL f x m i b = (k : Int))
  | 0, i, b => Or.inl ⟨rfl, fun k h1 h2 => by omega⟩
  | m + 1, i, b => by
    unfold fndL
    by_cases h : f i = x
    · rw [if_pos h]
      right
      rcases fndL_spec f x m (i + 1) (i : Int) with ⟨h1, -⟩ | ⟨k, h1, h2, h3, h4⟩
      · exact ⟨i, by omega, by omega, h, h1⟩
      · exact ⟨k, by omega, by omega, h3, h4⟩
    · rw [if_neg h]
      rcases fndL_spec f x m (i + 1) b with ⟨h1, h2⟩ | ⟨k, h1, h2, h3, h4⟩
      · refine Or.inl ⟨h1, fun k g1 g2 => ?_⟩
        by_cases e : k = i
        · rw [e]; exact h
        · exact h2 k (by omega) (by omega)
      · exact Or.inr ⟨k, by omega, by omega, h3, h4⟩
theorem m_spotAt_spec {I : Nat → Nat → Int} (hz9 : ZV I) (x : Int) : (m_spotAt I x = -1 ∧ ∀ k : Nat, (k : Int) < I 111 3 → I 111 (6 + k) ≠ x) ∨ (∃ k : Nat, (k : Int) < I 111 3 ∧ I 111 (6 + k) = x ∧ m_spotAt I x = (k : Int)) := by
  have z3 := hz9.1
  rcases fndL_spec (fun k => I 111 (6 + k)) x (I 111 3).toNat 0 (-1) with ⟨h1, h2⟩ | ⟨k, h1, h2, h3, h4⟩
  · exact Or.inl ⟨h1, fun k hk => h2 k (by omega) (by omega)⟩
  · exact Or.inr ⟨k, by omega, h3, h4⟩
theorem fail1_at {I : Nat → Nat → Int} (hz9 : ZV I) {c : Nat} (p : Nat) : m_fail1 I c 111 p = if p = 3 then I 111 3 + 1 else if p = 6 + (I 111 3).toNat then (c : Int) else I 111 p := by
  have z3 := hz9.1
  unfold m_fail1
  rw [u2k]
  by_cases h : p = 3
  · rw [if_pos h, if_pos h, u2k, if_neg (by omega)]
  · rw [if_neg h, if_neg h, u2k]
    by_cases g : p = 6 + (I 111 3).toNat
    · rw [if_pos g, if_pos (by omega)]
    · rw [if_neg g, if_neg (by omega)]
theorem fail1_ZV {I : Nat → Nat → Int} (hz9 : ZV I) {c : Nat} (hc : c < 576) (h12 : I 111 3 < 12) (hs : m_spotAt I c = -1) : ZV (m_fail1 I c) := by
  have hsp : ∀ k : Nat, (k : Int) < I 111 3 → I 111 (6 + k) ≠ c := by
    rcases m_spotAt_spec hz9 (c : Int) with ⟨-, h⟩ | ⟨k, h1, h2, h3⟩
    · exact h
    · omega
  obtain ⟨z3, zs, zs0, zd, zt, zt2, zv, zw, zk⟩ := id hz9
  have e := fun p => fail1_at (c := c) hz9 p
  have e3 : m_fail1 I c 111 3 = I 111 3 + 1 := by rw [e, if_pos rfl]
  have eo : ∀ p, p ≠ 3 → p ≠ 6 + (I 111 3).toNat → m_fail1 I c 111 p = I 111 p := fun p h1 h2 => by rw [e, if_neg h1, if_neg h2]
  have en : ∀ j : Nat, j = (I 111 3).toNat → m_fail1 I c 111 (6 + j) = c := fun j h1 => by rw [e, if_neg (by omega), if_pos (by omega)]
  refine ⟨by omega, fun j hj => ?_, fun j hj => ?_, fun i j hi hj he => ?_, fun j hj => by rw [eo _ (by omega) (by omega)]; exact zt j hj, by rw [eo _ (by omega) (by omega)]; exact zt2, fun j hj => by rw [eo _ (by omega) (by omega)]; exact zv j hj, fun j hj => by rw [eo _ (by omega) (by omega)]; exact zw j hj, fun j hj => by rw [eo _ (by omega) (by omega)]; exact zk j hj⟩
  · by_cases h : j = (I 111 3).toNat
    · rw [en j h]; omega
    · rw [eo _ (by omega) (by omega)]; exact zs j hj
  · rw [e3] at hj
    by_cases h : j = (I 111 3).toNat
    · rw [en j h]; omega
    · rw [eo _ (by omega) (by omega)]; exact zs0 j (by omega)
  · rw [e3] at hi hj
    by_cases h : i = (I 111 3).toNat
    · by_cases g : j = (I 111 3).toNat
      · omega
      · rw [en i h, eo _ (by omega) (by omega)] at he
        exact absurd he.symm (hsp j (by omega))
    · by_cases g : j = (I 111 3).toNat
      · rw [en j g, eo _ (by omega) (by omega)] at he
        exact absurd he (hsp i (by omega))
      · rw [eo _ (by omega) (by omega), eo _ (by omega) (by omega)] at he
        exact zd i j (by omega) (by omega) he
theorem fail1_ne {I : Nat → Nat → Int} {c a : Nat} (h : a ≠ 111) : m_fail1 I c a = I a := by
  unfold m_fail1
  rw [u2_ne h, u2_ne h]
def m_fail2 (I : Nat → Nat → Int) : Nat → Nat → Int := u2 I 111 4 (I 111 4 + 1)
def m_failIt (I : Nat → Nat → Int) (c : Nat) : Nat → Nat → Int := if m_fail1 I c 111 (978 + c) = -1 then m_fail1 I c else m_fail2 (m_lose (m_fail1 I c) (m_fail1 I c 111 (978 + c)).toNat)
theorem failIt_ne {I : Nat → Nat → Int} {c a : Nat} (h : a ≠ 111) : m_failIt I c a = I a := by
  unfold m_failIt m_fail2
  split
  · exact fail1_ne h
  · rw [u2_ne h, lose_ne h, fail1_ne h]
theorem failIt_ZV {I : Nat → Nat → Int} (hz9 : ZV I) {c : Nat} (hc : c < 576) (h12 : I 111 3 < 12) (hs : m_spotAt I c = -1) : ZV (m_failIt I c) := by
  have h1 := fail1_ZV hz9 hc h12 hs
  have k := h1.2.2.2.2.2.2.2.2 c hc
  unfold m_failIt m_fail2
  split
  · exact h1
  · exact ZV_u2 (lose_ZV h1 (by omega)) (by omega)
/-- a spot is taken out: the spots behind it come nearer -/
def m_hl : Nat → Nat → (Nat → Nat → Int) → Nat → Nat → Int
  | 0, _, I => I
  | f + 1, k, I => m_hl f (k + 1) (u2 I 111 (6 + k) (I 111 (6 + k + 1)))
def m_hl0 (I : Nat → Nat → Int) : Nat → Nat → Int := u2 I 111 3 (I 111 3 - 1)
def m_hl9 (I : Nat → Nat → Int) : Nat → Nat → Int := u2 I 111 (6 + I 111 3).toNat (-1)
def m_healIt (I : Nat → Nat → Int) (x : Int) : Nat → Nat → Int := m_hl9 (m_hl (I 111 3 - 1 - m_spotAt I x).toNat (m_spotAt I x).toNat (m_hl0 I))
theorem hl_ne : ∀ (f k : Nat) (I : Nat → Nat → Int) (a : Nat), a ≠ 111 → m_hl f k I a = I a
  | 0, _, _, _, _ => rfl
  | f + 1, k, I, a, h => by
    unfold m_hl
    rw [hl_ne f (k + 1) _ a h, u2_ne h]
theorem healIt_ne {I : Nat → Nat → Int} {x : Int} {a : Nat} (h : a ≠ 111) : m_healIt I x a = I a := by
  unfold m_healIt m_hl9 m_hl0
  rw [u2_ne h, hl_ne _ _ _ _ h, u2_ne h]
theorem hl_at : ∀ (f k : Nat) (I : Nat → Nat → Int) (p : Nat), m_hl f k I 111 p = if 6 + k ≤ p ∧ p < 6 + k + f then I 111 (p + 1) else I 111 p
  | 0, k, I, p => by
    rw [if_neg (by omega)]
    rfl
  | f + 1, k, I, p => by
    unfold m_hl
    rw [hl_at f (k + 1) _ p, u2k, u2k]
    by_cases h : p = 6 + k
    · rw [if_neg (by omega), if_pos h, if_pos (by omega), h]
    · by_cases g : 6 + (k + 1) ≤ p ∧ p < 6 + (k + 1) + f
      · rw [if_pos g, if_neg (by omega), if_pos (by omega)]
      · rw [if_neg g, if_neg h, if_neg (by omega)]
theorem healIt_at {I : Nat → Nat → Int} (hz9 : ZV I) {x : Int} (hs : ¬ m_spotAt I x = -1) (p : Nat) : m_healIt I x 111 p = if p = 6 + (I 111 3 - 1).toNat then -1 else if p = 3 then I 111 3 - 1 else if 6 + m_spotAt I x ≤ p ∧ (p : Int) < 6 + (I 111 3 - 1) then I 111 (p + 1) else I 111 p := by
  have z3 := hz9.1
  rcases m_spotAt_spec hz9 x with ⟨h, -⟩ | ⟨k, h1, h2, h3⟩
  · exact absurd h hs
  have e : ∀ q, m_hl (I 111 3 - 1 - m_spotAt I x).toNat (m_spotAt I x).toNat (m_hl0 I) 111 q = if 6 + m_spotAt I x ≤ q ∧ (q : Int) < 6 + (I 111 3 - 1) then I 111 (q + 1) else if q = 3 then I 111 3 - 1 else I 111 q := by
    intro q
    rw [hl_at]
    unfold m_hl0
    rw [u2k, u2k]
    by_cases h : 6 + m_spotAt I x ≤ q ∧ (q : Int) < 6 + (I 111 3 - 1)
    · rw [if_pos h, if_pos (by omega), if_neg (by omega)]
    · rw [if_neg h, if_neg (by omega)]
  unfold m_healIt m_hl9
  rw [u2k, e, e, if_neg (show ¬ (6 + m_spotAt I x ≤ ((3 : Nat) : Int) ∧ ((3 : Nat) : Int) < 6 + (I 111 3 - 1)) by omega), if_pos rfl]
  by_cases h : p = 6 + (I 111 3 - 1).toNat
  · rw [if_pos h, if_pos (by omega)]
  · rw [if_neg h, if_neg (by omega)]
    by_cases g : p = 3
    · rw [if_neg (by omega), if_pos g, if_pos g]
    · rw [if_neg g, if_neg g]
theorem healIt_ZV {I : Nat → Nat → Int} (hz9 : ZV I) {x : Int} (hs : ¬ m_spotAt I x = -1) : ZV (m_healIt I x) := by
  have e := fun p => healIt_at hz9 hs p
  obtain ⟨k, h1, h2, h3⟩ : ∃ k : Nat, (k : Int) < I 111 3 ∧ I 111 (6 + k) = x ∧ m_spotAt I x = (k : Int) := by
    rcases m_spotAt_spec hz9 x with ⟨h, -⟩ | h
    · exact absurd h hs
    · exact h
  obtain ⟨z3, zs, zs0, zd, zt, zt2, zv, zw, zk⟩ := id hz9
  have e3 : m_healIt I x 111 3 = I 111 3 - 1 := by rw [e, if_neg (by omega), if_pos rfl]
  have eo : ∀ p, p ≠ 3 → (p < 6 + k ∨ 6 + (I 111 3 - 1).toNat < p) → m_healIt I x 111 p = I 111 p := fun p g1 g2 => by rw [e, if_neg (by omega), if_neg g1, if_neg (by omega)]
  have ek : ∀ j : Nat, k ≤ j → (j : Int) < I 111 3 - 1 → m_healIt I x 111 (6 + j) = I 111 (6 + (j + 1)) := fun j g1 g2 => by rw [e, if_neg (by omega), if_neg (by omega), if_pos (by omega)]; rfl
  have en : ∀ j : Nat, j = (I 111 3 - 1).toNat → m_healIt I x 111 (6 + j) = -1 := fun j g1 => by rw [e, if_pos (by omega)]
  refine ⟨by omega, fun j hj => ?_, fun j hj => ?_, fun i j hi hj he => ?_, fun j hj => ?_, by rw [eo _ (by omega) (by omega)]; exact zt2, fun j hj => by rw [eo _ (by omega) (by omega)]; exact zv j hj, fun j hj => by rw [eo _ (by omega) (by omega)]; exact zw j hj, fun j hj => by rw [eo _ (by omega) (by omega)]; exact zk j hj⟩
  · by_cases h : j = (I 111 3 - 1).toNat
    · rw [en j h]; omega
    · by_cases g : k ≤ j ∧ (j : Int) < I 111 3 - 1
      · rw [ek j g.1 g.2]; exact zs (j + 1) (by omega)
      · rw [eo _ (by omega) (by omega)]; exact zs j hj
  · rw [e3] at hj
    by_cases g : k ≤ j
    · rw [ek j g hj]; exact zs0 (j + 1) (by omega)
    · rw [eo _ (by omega) (by omega)]; exact zs0 j (by omega)
  · rw [e3] at hi hj
    by_cases g : k ≤ i
    · by_cases g2 : k ≤ j
      · rw [ek i g hi, ek j g2 hj] at he
        have q := zd (i + 1) (j + 1) (by omega) (by omega) he
        omega
      · rw [ek i g hi, eo _ (by omega) (by omega)] at he
        have q := zd (i + 1) j (by omega) (by omega) he
        omega
    · by_cases g2 : k ≤ j
      · rw [ek j g2 hj, eo _ (by omega) (by omega)] at he
        have q := zd i (j + 1) (by omega) (by omega) he
        omega
      · rw [eo _ (by omega) (by omega), eo _ (by omega) (by omega)] at he
        exact zd i j (by omega) (by omega) he
  · rw [eo _ (by omega) (by omega)]
    exact zt j hj
