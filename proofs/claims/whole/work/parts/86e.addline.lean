/-! a line of the object and a line of the reference -/
/-- the spots behind the first two, and no spot ahead of these -/
def LNP (M : Nat → Nat → Int) (a b : Nat) : Prop := (∀ p : Nat, (p : Int) < M 111 3 → m_str M a b p → p = a ∨ b ≤ p) ∧ ∃ c : Nat, b < c ∧ (c : Int) < M 111 3 ∧ m_str M a b c
theorem str_111 {M M' : Nat → Nat → Int} (h : M' 111 = M 111) {a b p : Nat} : m_str M' a b p ↔ m_str M a b p := by
  unfold m_str m_ta m_sa
  rw [h]
theorem str_a {M : Nat → Nat → Int} {a b : Nat} : m_str M a b a := by
  unfold m_str m_ta m_sa
  simp
theorem str_b {M : Nat → Nat → Int} {a b : Nat} : m_str M a b b := by
  unfold m_str
  rfl
theorem pcn3_all : ∀ a : Nat, a < 12 → ∀ b : Nat, b < 12 → (List.range 12).countP (fun j => decide (j = a) || decide (j = b)) ≤ 2 := by decide +kernel
theorem pcn3 {m : Int} {a b : Nat} (ha : a < 12) (hb : b < 12) (h : 3 ≤ pcn m) : ∃ c : Nat, c ≠ a ∧ c ≠ b ∧ m.toNat.testBit c = true := by
  refine Classical.byContradiction fun hn => ?_
  have h1 : (List.range 12).countP (fun j => m.toNat.testBit j) ≤ (List.range 12).countP (fun j => decide (j = a) || decide (j = b)) := by
    apply List.countP_mono_left
    intro x _ hx
    by_cases q1 : x = a
    · simp [q1]
    · by_cases q2 : x = b
      · simp [q2]
      · exact absurd ⟨x, q1, q2, hx⟩ hn
  have h2 := pcn3_all a ha b hb
  unfold pcn at h
  rw [← List.countP_eq_length_filter] at h
  omega
theorem f_jn_ne (k kl : Nat) (mq : Int) {x : Nat} (hx : x ≠ kl) : ∀ (m i : Nat) (P : (Nat → Nat → Int) × (Nat → Nat → Int64)), (f_jn k kl mq m i P).1 x = P.1 x
  | 0, _, _ => rfl
  | m + 1, i, P => by
    unfold f_jn
    split
    · rw [f_jn_ne k kl mq hx m (i + 1)]
      show f_join P.1 kl _ _ _ x = _
      unfold f_join f_jhi f_jlo
      rw [u2_ne hx, u2_ne hx, u2_ne hx]
    · exact f_jn_ne k kl mq hx m (i + 1) P
theorem f_join_at {I : Nat → Nat → Int} {k j : Nat} {sp t s : Int} : f_join I k sp t s k j = if j = 7 then imax2 (I k 7) (f_steps I k t s) else if j = 6 then imin2 (I k 6) (f_steps I k t s) else if j = 0 then obit (I k 0) sp else I k j := by
  unfold f_join f_jhi f_jlo
  simp only [u2k, if_neg (by decide : ¬ (7 : Nat) = 6), if_neg (by decide : ¬ (7 : Nat) = 0), if_neg (by decide : ¬ (6 : Nat) = 0)]
theorem f_steps_of {I I' : Nat → Nat → Int} {k : Nat} {t s : Int} (h : ∀ j, j = 1 ∨ j = 2 ∨ j = 4 ∨ j = 5 → I' k j = I k j) : f_steps I' k t s = f_steps I k t s := by
  unfold f_steps
  rw [h 1 (by decide), h 2 (by decide), h 4 (by decide), h 5 (by decide)]
/-- the row of a line as it is aimed -/
def AIM (I : Nat → Nat → Int) (kl : Nat) (M : Nat → Nat → Int) (a : Nat) : Prop := I kl 1 = M 116 (M 110 7).toNat ∧ I kl 2 = M 117 (M 110 7).toNat ∧ I kl 4 = (M 111 (6 + a)).tdiv 24 ∧ I kl 5 = tm24 (M 111 (6 + a))
def DST (M : Nat → Nat → Int) : Prop := 0 ≤ M 116 (M 110 7).toNat ∧ (M 116 (M 110 7).toNat = 0 → M 117 (M 110 7).toNat = 1)
theorem steps_eq {I : Nat → Nat → Int} {kl : Nat} {M : Nat → Nat → Int} {a : Nat} (h : AIM I kl M a) (hd : DST M) (q : Nat) : f_steps I kl ((M 111 (6 + q)).tdiv 24) (tm24 (M 111 (6 + q))) = m_st M a q := by
  obtain ⟨h1, h2, h4, h5⟩ := h
  unfold f_steps m_st
  rw [h1, h2, h4, h5]
  by_cases h0 : M 116 (M 110 7).toNat = 0
  · have := hd.2 h0
    rw [if_pos h0, if_neg (by omega)]
    unfold f_ratio
    rw [if_neg (by omega)]
    rfl
  · have := hd.1
    rw [if_neg h0, if_pos (by omega)]
    rfl
/-- spots join the line, one by one, as the reference takes them -/
theorem jn_lpL {k kl : Nat} {mq : Int} {M : Nat → Nat → Int} {a b : Nat} (h4 : k + 4 ≠ kl) (h5 : k + 5 ≠ kl) (hz : ZV M) (ha : (a : Int) < M 111 3) (hd : DST M) : ∀ (f i : Nat) (P : (Nat → Nat → Int) × (Nat → Nat → Int64)) (s : Int × Int × Int × Int), (i : Int) + f ≤ M 111 3 → (∀ q : Nat, i ≤ q → q < i + f → P.1 (k + 4) q = (M 111 (6 + q)).tdiv 24 ∧ P.1 (k + 5) q = tm24 (M 111 (6 + q)) ∧ (obt mq q = 1 ↔ m_str M a b q)) → AIM P.1 kl M a → P.1 kl 0 = s.1 → P.1 kl 6 = s.2.2.1 → P.1 kl 7 = s.2.2.2 →
    ((f_jn k kl mq f i P).1 kl 0 = (lpL M a b f i s).1 ∧ (f_jn k kl mq f i P).1 kl 6 = (lpL M a b f i s).2.2.1 ∧ (f_jn k kl mq f i P).1 kl 7 = (lpL M a b f i s).2.2.2) ∧ (∀ j, j ≠ 0 → j ≠ 6 → j ≠ 7 → (f_jn k kl mq f i P).1 kl j = P.1 kl j) ∧ ∀ x : Int, 0 ≤ x ∧ x < 64 → (gbit ((f_jn k kl mq f i P).2 kl 8) x = 1 ↔ gbit (P.2 kl 8) x = 1 ∨ ∃ q : Nat, i ≤ q ∧ q < i + f ∧ m_str M a b q ∧ x = 24 + m_st M a q)
  | 0, i, P, s, _, _, _, h0, h6, h7 => ⟨⟨h0, h6, h7⟩, fun _ _ _ _ => rfl, fun x _ => ⟨fun h => Or.inl h, fun h => by
      rcases h with h | ⟨q, q1, q2, _⟩
      · exact h
      · omega⟩⟩
  | f + 1, i, P, s, hn, hc, hA, h0, h6, h7 => by
    have hci := hc i (by omega) (by omega)
    unfold f_jn lpL
    by_cases hs : m_str M a b i
    · rw [if_pos (hci.2.2.mpr hs), lpM_1 hs, hci.1, hci.2.1]
      have hst : f_steps P.1 kl ((M 111 (6 + i)).tdiv 24) (tm24 (M 111 (6 + i))) = m_st M a i := steps_eq hA hd i
      have hrg : -24 < m_st M a i ∧ m_st M a i < 24 := m_st_rg hz ha (by omega)
      have hJ : f_joinJ P.1 P.2 kl ((M 111 (6 + i)).tdiv 24) (tm24 (M 111 (6 + i))) kl 8 = jbit (P.2 kl 8) (24 + m_st M a i) := by
        unfold f_joinJ
        rw [u2_at, hst]
      have keep : ∀ x, x ≠ kl → f_join P.1 kl (i : Int) ((M 111 (6 + i)).tdiv 24) (tm24 (M 111 (6 + i))) x = P.1 x := fun x hx => by
        unfold f_join f_jhi f_jlo
        rw [u2_ne hx, u2_ne hx, u2_ne hx]
      have a0 : f_join P.1 kl (i : Int) ((M 111 (6 + i)).tdiv 24) (tm24 (M 111 (6 + i))) kl 0 = obit s.1 i := by
        rw [f_join_at, if_neg (by decide), if_neg (by decide), if_pos rfl, h0]
      have a6 : f_join P.1 kl (i : Int) ((M 111 (6 + i)).tdiv 24) (tm24 (M 111 (6 + i))) kl 6 = if m_st M a i < s.2.2.1 then m_st M a i else s.2.2.1 := by
        rw [f_join_at, if_neg (by decide), if_pos rfl, hst, h6]
        rfl
      have a7 : f_join P.1 kl (i : Int) ((M 111 (6 + i)).tdiv 24) (tm24 (M 111 (6 + i))) kl 7 = if s.2.2.2 < m_st M a i then m_st M a i else s.2.2.2 := by
        rw [f_join_at, if_pos rfl, hst, h7]
        rfl
      have aj : ∀ j, j ≠ 0 → j ≠ 6 → j ≠ 7 → f_join P.1 kl (i : Int) ((M 111 (6 + i)).tdiv 24) (tm24 (M 111 (6 + i))) kl j = P.1 kl j := fun j j0 j6 j7 => by
        rw [f_join_at, if_neg j7, if_neg j6, if_neg j0]
      obtain ⟨c1, c2, c3⟩ := jn_lpL h4 h5 hz ha hd f (i + 1) (f_join P.1 kl (i : Int) ((M 111 (6 + i)).tdiv 24) (tm24 (M 111 (6 + i))), f_joinJ P.1 P.2 kl ((M 111 (6 + i)).tdiv 24) (tm24 (M 111 (6 + i)))) (obit s.1 i, (if ¬ s.2.1 = 0 ∧ (i = a ∨ b ≤ i) then 1 else 0), (if m_st M a i < s.2.2.1 then m_st M a i else s.2.2.1), (if s.2.2.2 < m_st M a i then m_st M a i else s.2.2.2)) (by omega)
        (fun q q1 q2 => by
          show f_join P.1 kl _ _ _ (k + 4) q = _ ∧ f_join P.1 kl _ _ _ (k + 5) q = _ ∧ _
          rw [keep _ h4, keep _ h5]
          exact hc q (by omega) (by omega))
        ⟨(aj 1 (by decide) (by decide) (by decide)).trans hA.1, (aj 2 (by decide) (by decide) (by decide)).trans hA.2.1, (aj 4 (by decide) (by decide) (by decide)).trans hA.2.2.1, (aj 5 (by decide) (by decide) (by decide)).trans hA.2.2.2⟩ a0 a6 a7
      refine ⟨c1, fun j j0 j6 j7 => (c2 j j0 j6 j7).trans (aj j j0 j6 j7), fun x hx => (c3 x hx).trans ?_⟩
      show gbit (f_joinJ P.1 P.2 kl _ _ kl 8) x = 1 ∨ _ ↔ _
      rw [hJ, gbit_jbit (by omega) hx]
      constructor
      · rintro ((h | h) | ⟨q, q1, q2, q3, q4⟩)
        · exact Or.inl h
        · exact Or.inr ⟨i, by omega, by omega, hs, h⟩
        · exact Or.inr ⟨q, by omega, by omega, q3, q4⟩
      · rintro (h | ⟨q, q1, q2, q3, q4⟩)
        · exact Or.inl (Or.inl h)
        · by_cases hq : q = i
          · subst hq; exact Or.inl (Or.inr q4)
          · exact Or.inr ⟨q, by omega, by omega, q3, q4⟩
    · rw [if_neg (fun q => hs (hci.2.2.mp q)), lpM_0 hs]
      obtain ⟨c1, c2, c3⟩ := jn_lpL h4 h5 hz ha hd f (i + 1) P s (by omega) (fun q q1 q2 => hc q (by omega) (by omega)) hA h0 h6 h7
      refine ⟨c1, c2, fun x hx => (c3 x hx).trans ?_⟩
      constructor
      · rintro (h | ⟨q, q1, q2, q3, q4⟩)
        · exact Or.inl h
        · exact Or.inr ⟨q, by omega, by omega, q3, q4⟩
      · rintro (h | ⟨q, q1, q2, q3, q4⟩)
        · exact Or.inl h
        · by_cases hq : q = i
          · subst hq; exact absurd q3 hs
          · exact Or.inr ⟨q, by omega, by omega, q3, q4⟩
/-- the mask of a straight line -/
theorem msk_lpL {I : Nat → Nat → Int} {k : Nat} {M : Nat → Nat → Int} {a b : Nat} (hc : ∀ j : Nat, (j : Int) < M 111 3 → I (k + 4) j = (M 111 (6 + j)).tdiv 24 ∧ I (k + 5) j = tm24 (M 111 (6 + j))) (ha : (a : Int) < M 111 3) (hb : (b : Int) < M 111 3) : ∀ (f i : Nat) (s : Int × Int × Int × Int), (i : Int) + f ≤ M 111 3 → f_msk I k a b f i s.1 = (lpL M a b f i s).1
  | 0, _, _, _ => rfl
  | f + 1, i, s, hn => by
    unfold f_msk lpL
    have ca := hc a ha
    have cb := hc b hb
    have cq := hc i (by omega)
    have iff9 : (I (k + 4) i - I (k + 4) a) * (I (k + 5) b - I (k + 5) a) = (I (k + 5) i - I (k + 5) a) * (I (k + 4) b - I (k + 4) a) ↔ m_str M a b i := by
      rw [ca.1, ca.2, cb.1, cb.2, cq.1, cq.2]
      unfold m_str
      show m_ta M a i * m_sa M a b = m_sa M a i * m_ta M a b ↔ m_ta M a b * m_sa M a i = m_ta M a i * m_sa M a b
      rw [Int.mul_comm (m_sa M a i) (m_ta M a b)]
      exact ⟨fun h => h.symm, fun h => h.symm⟩
    by_cases hs : m_str M a b i
    · rw [if_pos (iff9.mpr hs), lpM_1 hs]
      exact msk_lpL hc ha hb f (i + 1) (obit s.1 i, (if ¬ s.2.1 = 0 ∧ (i = a ∨ b ≤ i) then 1 else 0), (if m_st M a i < s.2.2.1 then m_st M a i else s.2.2.1), (if s.2.2.2 < m_st M a i then m_st M a i else s.2.2.2)) (by omega)
    · rw [if_neg (fun q => hs (iff9.mp q)), lpM_0 hs]
      exact msk_lpL hc ha hb f (i + 1) s (by omega)
/-- whether the spots ahead of b are just a -/
theorem first_iff {S : Int} {a b n : Nat} {P : Nat → Prop} (hab : a < b) (hbn : b < n) (hP : P a) (hbit : ∀ p : Nat, S.toNat.testBit p = true ↔ p < n ∧ P p) : oand S (((2 ^ b : Nat) : Int) - 1) = ((2 ^ a : Nat) : Int) ↔ ∀ p : Nat, p < n → P p → p = a ∨ b ≤ p := by
  unfold oand
  have e : (((2 ^ b : Nat) : Int) - 1).toNat = 2 ^ b - 1 := by omega
  rw [e]
  constructor
  · intro h p hp h1
    have h2 : S.toNat &&& (2 ^ b - 1) = 2 ^ a := by exact_mod_cast h
    by_cases hpb : p < b
    · have h3 := congrArg (fun z => Nat.testBit z p) h2
      simp only [Nat.testBit_and, Nat.testBit_two_pow_sub_one, Nat.testBit_two_pow] at h3
      rw [(hbit p).mpr ⟨hp, h1⟩] at h3
      simp [hpb] at h3
      exact Or.inl h3.symm
    · exact Or.inr (by omega)
  · intro h
    have h2 : S.toNat &&& (2 ^ b - 1) = 2 ^ a := by
      apply Nat.eq_of_testBit_eq
      intro p
      rw [Nat.testBit_and, Nat.testBit_two_pow_sub_one, Nat.testBit_two_pow]
      by_cases hp : p = a
      · rw [(hbit p).mpr ⟨by omega, by rw [hp]; exact hP⟩]
        simp [hp, hab]
      · have : ¬ a = p := fun q => hp q.symm
        simp only [this, decide_false, Bool.and_eq_false_iff, decide_eq_false_iff_not]
        by_cases hpb : p < b
        · left
          cases hq : S.toNat.testBit p with
          | false => rfl
          | true =>
            have := (hbit p).mp hq
            have := h p this.1 this.2
            omega
        · right; exact hpb
    rw [h2]
