/-! texts: what the automaton takes, and what the reference reads -/
def TXR (I M : Nat → Nat → Int) : Prop := I 36 3 = M 110 6 ∧ ∀ j : Nat, (j : Int) < M 110 6 → I 37 j = M 114 j
def ERV (r : Int × (Nat → Nat → Int)) (w : Int) : Prop := r.1 = w ∧ (f_tells1 r 36).1 = 0
theorem let_of {M : Nat → Nat → Int} {i : Nat} (h : M 110 18 = (i : Int)) : m_let M = if (i : Int) < M 110 6 then M 114 i else -1 := by
  unfold m_let
  rw [h, Int.toNat_natCast]
theorem t_rej {I : Nat → Nat → Int} {i m : Nat} {len : Int} (h3 : I 36 3 = len) (hm : (i : Int) + m = len) (h : m = 0 → (I 36 6 = 0 ∨ I 36 8 = -1)) (h2 : m ≠ 0 → f_take I 36 (I 37 i) = (0, I)) : ERV (f_scL 36 m i I) i := by
  cases m with
  | zero =>
    have h9 := h rfl
    unfold ERV f_scL f_tells1
    dsimp only
    rw [if_pos rfl]
    unfold f_endSpot
    rw [if_pos h9]
    exact ⟨by omega, rfl⟩
  | succ m =>
    have h9 := h2 (by omega)
    unfold ERV f_scL f_tells1
    rw [show (36 + 1 : Nat) = 37 from rfl, h9]
    dsimp only
    rw [if_pos rfl]
    dsimp only
    rw [if_neg (by omega)]
    exact ⟨rfl, rfl⟩
theorem t_acc {I I' : Nat → Nat → Int} {i m : Nat} (hm : m ≠ 0) (h : f_take I 36 (I 37 i) = (1, I')) : f_scL 36 m i I = f_scL 36 (m - 1) (i + 1) I' := by
  cases m with
  | zero => exact absurd rfl hm
  | succ m =>
    show (if (f_take I 36 (I 37 i)).1 = 0 then ((i : Int), (f_take I 36 (I 37 i)).2) else f_scL 36 m (i + 1) (f_take I 36 (I 37 i)).2) = _
    rw [h]
    rfl
/-- whatever isn't taken, by the state -/
theorem take_no {I : Nat → Nat → Int} {c : Int} (h44 : c = 44 → I 36 6 = 1 ∨ I 36 8 = -1) (h45 : c = 45 → I 36 5 = 1 ∨ I 36 6 = 1 ∨ I 36 8 ≠ -1) (h59 : c = 59 → I 36 6 = 0 ∨ I 36 8 = -1) (hd : 48 ≤ c → c ≤ 57 → I 36 8 ≠ -1 ∧ (I 36 8 = 0 ∨ 24 ≤ I 36 8 * 10 + (c - 48))) : f_take I 36 c = (0, I) := by
  unfold f_take
  by_cases q1 : c = 44
  · rw [if_pos q1]
    unfold f_comma
    have := h44 q1
    exact if_neg (by omega)
  · rw [if_neg q1]
    by_cases q2 : c = 45
    · rw [if_pos q2]
      unfold f_minus
      have := h45 q2
      exact if_neg (by omega)
    · rw [if_neg q2]
      by_cases q3 : c = 59
      · rw [if_pos q3]
        unfold f_endSpot
        exact if_pos (h59 q3)
      · rw [if_neg q3]
        by_cases q4 : 48 ≤ c ∧ c ≤ 57
        · rw [if_pos q4]
          have := hd q4.1 q4.2
          unfold f_digit
          rw [if_neg this.1]
          exact if_neg (by omega)
        · rw [if_neg q4]
theorem take_dig {I : Nat → Nat → Int} {c : Int} (hc : 48 ≤ c ∧ c ≤ 57) : f_take I 36 c = f_digit I 36 (c - 48) := by
  unfold f_take
  rw [if_neg (by omega), if_neg (by omega), if_neg (by omega), if_pos hc]
theorem want_at9 {M : Nat → Nat → Int} {s : Int} (hw : M 110 19 = -1) : m_want M s 110 18 = M 110 18 + 1 ∧ m_want M s 110 19 = (if s = 0 then M 110 18 else -1) ∧ m_want M s 110 17 = M 110 17 ∧ m_want M s 110 6 = M 110 6 ∧ m_want M s 114 = M 114 := by
  obtain ⟨e1, e2, e3, e4⟩ := m_want_at (I := M) (s := s)
  rw [if_pos hw] at e1 e2
  exact ⟨e1, e2, e3, e4, RK_want.1 114 (by decide) (by decide)⟩
theorem num_sim {I M : Nat → Nat → Int} {i m : Nat} (hT : TXR I M) (hi : M 110 18 = (i : Int)) (hw : M 110 19 = -1) (hm : (i : Int) + m = M 110 6) (h8 : I 36 8 = -1) (hmin : I 36 6 = 1 ∨ I 36 5 = 1 ∨ m_let M ≠ 45) :
    ((m_num M).2 110 19 = (i : Int) ∧ ERV (f_scL 36 m i I) i) ∨ ((m_num M).2 110 19 = -1 ∧ (0 ≤ (m_num M).1 ∧ (m_num M).1 < 24) ∧ ∃ i' m' : Nat, (m_num M).2 110 18 = (i' : Int) ∧ (i' : Int) + m' = M 110 6 ∧ i < i' ∧ f_scL 36 m i I = f_scL 36 m' i' (u2 I 36 8 (m_num M).1) ∧ ∀ d, 0 ≤ d → d ≤ 9 → m_let (m_num M).2 = 48 + d → (m_num M).1 = 0 ∨ 24 ≤ (m_num M).1 * 10 + d) := by
  have hl := let_of hi
  obtain ⟨w1, w2, w3, w4, w5⟩ := want_at9 (s := (if 0 ≤ m_let M - 48 ∧ m_let M - 48 ≤ 9 then 1 else 0)) hw
  unfold m_num m_nu1
  by_cases hd : 0 ≤ m_let M - 48 ∧ m_let M - 48 ≤ 9
  · right
    rw [if_pos hd] at w1 w2 w3 w4 w5 ⊢
    rw [if_neg (by decide)] at w2
    have hlt : (i : Int) < M 110 6 := by
      by_cases h9 : (i : Int) < M 110 6
      · exact h9
      · rw [if_neg h9] at hl; omega
    rw [if_pos hlt] at hl
    have hc : I 37 i = m_let M := by rw [hT.2 i hlt, hl]
    have t1 : f_take I 36 (I 37 i) = (1, u2 I 36 8 (m_let M - 48)) := by
      rw [hc, take_dig (by omega)]
      unfold f_digit
      rw [if_pos h8]
    have s1 := t_acc (m := m) (by omega) t1
    have hl1 := let_of (M := m_want M 1) (i := i + 1) (by rw [w1, hi]; omega)
    rw [w4, w5] at hl1
    generalize hv : m_let M - 48 = v at *
    unfold m_nu2
    by_cases hc2 : m_want M 1 110 19 = -1 ∧ 0 < v ∧ (0 ≤ m_let (m_want M 1) - 48 ∧ m_let (m_want M 1) - 48 ≤ 9) ∧ 10 * v + (m_let (m_want M 1) - 48) < 24
    · rw [if_pos hc2]
      have hlt1 : ((i + 1 : Nat) : Int) < M 110 6 := by
        by_cases h9 : ((i + 1 : Nat) : Int) < M 110 6
        · exact h9
        · rw [if_neg h9] at hl1; omega
      rw [if_pos hlt1] at hl1
      have hcc : u2 I 36 8 v 37 (i + 1) = m_let (m_want M 1) := by rw [u2_ne (by decide), hT.2 _ hlt1, hl1]
      have t2 : f_take (u2 I 36 8 v) 36 (u2 I 36 8 v 37 (i + 1)) = (1, u2 I 36 8 (10 * v + (m_let (m_want M 1) - 48))) := by
        rw [hcc, take_dig (by omega)]
        unfold f_digit
        rw [u2_at, if_neg (by omega), if_pos (by omega), u2_u2, Int.mul_comm v 10]
      have s2 := t_acc (m := m - 1) (by omega) t2
      refine ⟨?_, by dsimp only; omega, i + 2, m - 1 - 1, ?_, by omega, by omega, ?_, ?_⟩
      · dsimp only
        rw [m_nx_at, if_neg (by decide)]
        exact w2
      · dsimp only
        rw [m_nx_at, if_pos rfl, w1, hi]
        omega
      · dsimp only
        rw [s1, s2]
      · dsimp only
        intro d d1 d2 _
        omega
    · rw [if_neg hc2]
      refine ⟨w2, by dsimp only; omega, i + 1, m - 1, ?_, by omega, by omega, s1, ?_⟩
      · dsimp only
        rw [w1, hi]
        omega
      · dsimp only
        intro d d1 d2 d3
        by_cases hv0 : v = 0
        · exact Or.inl hv0
        · right
          by_cases h9 : 24 ≤ v * 10 + d
          · exact h9
          · exact absurd ⟨w2, by omega, by omega, by omega⟩ hc2
  · left
    rw [if_neg hd] at w1 w2 w3 w4 w5 ⊢
    rw [if_pos rfl] at w2
    unfold m_nu2
    rw [if_neg (fun q => by have := q.1; omega)]
    refine ⟨by dsimp only; rw [w2, hi], t_rej hT.1 hm (fun _ => Or.inr h8) (fun h0 => ?_)⟩
    have hlt : (i : Int) < M 110 6 := by omega
    rw [if_pos hlt] at hl
    have hc : I 37 i = m_let M := by rw [hT.2 i hlt, hl]
    rw [hc]
    exact take_no (fun _ => Or.inr h8) (fun q => by
      rcases hmin with h | h | h
      · exact Or.inr (Or.inl h)
      · exact Or.inl h
      · exact absurd q h) (fun _ => Or.inr h8) (fun q1 q2 => by omega)
/-- nothing moves once it is wrong -/
theorem want_w {M : Nat → Nat → Int} {s : Int} (hw : M 110 19 ≠ -1) : m_want M s = M := by
  unfold m_want
  exact if_neg hw
theorem num_w {M : Nat → Nat → Int} (hw : M 110 19 ≠ -1) : (m_num M).2 = M := by
  unfold m_num m_nu1
  rw [want_w hw]
  unfold m_nu2
  rw [if_neg (fun q => hw q.1)]
theorem u123_110 {M : Nat → Nat → Int} {t : Nat} {x : Int} : u2 M 123 t x 110 = M 110 := u2_ne (by decide)
theorem let_123 {M : Nat → Nat → Int} {t : Nat} {x : Int} : m_let (u2 M 123 t x) = m_let M := by
  unfold m_let
  rw [u123_110, u2_ne (by decide)]
theorem TXR_u {I M : Nat → Nat → Int} {j : Nat} {x : Int} (hj : j ≠ 3) (h : TXR I M) : TXR (u2 I 36 j x) M := ⟨by rw [u2_nj (by omega)]; exact h.1, fun q hq => by rw [u2_ne (by decide)]; exact h.2 q hq⟩
theorem TXR_M {I M M' : Nat → Nat → Int} (h6 : M' 110 6 = M 110 6) (h114 : M' 114 = M 114) (h : TXR I M) : TXR I M' := ⟨by rw [h6]; exact h.1, fun q hq => by rw [h114]; exact h.2 q (by omega)⟩
theorem num_rows {M : Nat → Nat → Int} : (m_num M).2 110 6 = M 110 6 ∧ (m_num M).2 114 = M 114 ∧ (m_num M).2 110 17 = M 110 17 := by
  have r := RK_num (I := M)
  refine ⟨r.2 6 (by decide) (by decide) (by decide), r.1 114 (by decide) (by decide), ?_⟩
  unfold m_num m_nu2
  have e3 := (m_want_at (I := M) (s := (if 0 ≤ m_let M - 48 ∧ m_let M - 48 ≤ 9 then 1 else 0))).2.2.1
  split
  · dsimp only
    rw [m_nx_at, if_neg (by decide)]
    exact e3
  · exact e3
