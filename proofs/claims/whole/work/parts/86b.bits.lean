/-! bits of a long; gaps between bits -/
theorem and1_iff (x : BitVec 64) : x &&& 1#64 = 1#64 ↔ x.getLsbD 0 = true := by
  constructor
  · intro h
    have h1 := congrArg (fun y : BitVec 64 => y.getLsbD 0) h
    simpa using h1
  · intro h
    apply BitVec.eq_of_getLsbD_eq
    intro i hi
    rw [BitVec.getLsbD_and, BitVec.getLsbD_one]
    by_cases h0 : i = 0
    · subst h0; simp [h]
    · simp [h0]
theorem sh64 : ∀ j : Fin 64, (((iz (j.val : Int)).toInt64 &&& 63).toBitVec.smod 64).toNat = j.val := by decide +kernel
theorem sh64e {e : Int} (h : 0 ≤ e ∧ e < 64) : (((iz e).toInt64 &&& 63).toBitVec.smod 64).toNat = e.toNat := by
  have hk := sh64 ⟨e.toNat, by omega⟩
  rw [show (((⟨e.toNat, by omega⟩ : Fin 64).val : Nat) : Int) = e by show ((e.toNat : Nat) : Int) = e; omega] at hk
  exact hk
theorem gbit_iff {b : Int64} {e : Int} (h : 0 ≤ e ∧ e < 64) : gbit b e = 1 ↔ b.toBitVec.getLsbD e.toNat = true := by
  unfold gbit
  rw [← Int64.toBitVec_inj]
  show (b.toBitVec.sshiftRight' (((iz e).toInt64 &&& 63).toBitVec.smod 64)) &&& 1#64 = 1#64 ↔ _
  rw [and1_iff, BitVec.getLsbD_sshiftRight', sh64e h, if_pos (by omega)]
  simp
theorem jbit_bit {b : Int64} {e : Int} (h : 0 ≤ e ∧ e < 64) (i : Nat) (hi : i < 64) : (jbit b e).toBitVec.getLsbD i = true ↔ b.toBitVec.getLsbD i = true ∨ i = e.toNat := by
  have e1 : (jbit b e).toBitVec = b.toBitVec ||| (1#64 <<< (((iz e).toInt64 &&& 63).toBitVec.smod 64)) := rfl
  rw [e1, BitVec.getLsbD_or, BitVec.shiftLeft_eq', sh64e h, BitVec.getLsbD_shiftLeft, BitVec.getLsbD_one]
  simp only [Bool.or_eq_true, Bool.and_eq_true, decide_eq_true_eq, Bool.not_eq_true', decide_eq_false_iff_not]
  constructor
  · rintro (h1 | h1)
    · exact Or.inl h1
    · exact Or.inr (by omega)
  · rintro (h1 | h1)
    · exact Or.inl h1
    · exact Or.inr (by omega)
theorem gbit_jbit {b : Int64} {e x : Int} (h : 0 ≤ e ∧ e < 64) (hx : 0 ≤ x ∧ x < 64) : gbit (jbit b e) x = 1 ↔ gbit b x = 1 ∨ x = e := by
  rw [gbit_iff hx, gbit_iff hx, jbit_bit h _ (by omega)]
  constructor
  · rintro (h1 | h1)
    · exact Or.inl h1
    · exact Or.inr (by omega)
  · rintro (h1 | h1)
    · exact Or.inl h1
    · exact Or.inr (by omega)
theorem gbit_0 {x : Int} (hx : 0 ≤ x ∧ x < 64) : ¬ gbit 0 x = 1 := by
  rw [gbit_iff hx]
  have e : (0 : Int64).toBitVec = 0#64 := rfl
  rw [e]
  simp
theorem gapL_iff (b : Int64) (X : Int) : ∀ (m : Nat) (st bf wd : Int), bf < st → (gapL b m st bf wd ≤ X ↔ wd ≤ X ∧ ∀ t, (t = bf ∨ (st ≤ t ∧ gbit b (24 + t) = 1)) → (∃ s, t < s ∧ st ≤ s ∧ s < st + m ∧ gbit b (24 + s) = 1) → ∃ s, t < s ∧ st ≤ s ∧ s < st + m ∧ gbit b (24 + s) = 1 ∧ s ≤ t + X)
  | 0, st, bf, wd, _ => by
    constructor
    · intro h
      exact ⟨h, fun t _ ⟨s, h1, h2, h3, _⟩ => by omega⟩
    · intro h
      exact h.1
  | m + 1, st, bf, wd, hb => by
    unfold gapL
    by_cases hP : gbit b (24 + st) = 1
    · rw [if_pos hP, gapL_iff b X m (st + 1) st _ (by omega)]
      constructor
      · rintro ⟨h1, h2⟩
        have h3 : wd ≤ X ∧ st - bf ≤ X := by unfold imax2 at h1; split at h1 <;> omega
        refine ⟨h3.1, fun t ht hs => ?_⟩
        by_cases ht0 : t < st
        · have : t = bf := by
            rcases ht with ht | ht
            · exact ht
            · omega
          exact ⟨st, ht0, by omega, by omega, hP, by omega⟩
        · obtain ⟨s, s1, s2, s3, s4⟩ := hs
          obtain ⟨s', p1, p2, p3, p4, p5⟩ := h2 t (by
            rcases ht with ht | ht
            · omega
            · by_cases h9 : t = st
              · exact Or.inl h9
              · exact Or.inr ⟨by omega, ht.2⟩) ⟨s, s1, by omega, by omega, s4⟩
          exact ⟨s', p1, by omega, by omega, p4, p5⟩
      · rintro ⟨h1, h2⟩
        refine ⟨?_, fun t ht hs => ?_⟩
        · obtain ⟨s', p1, p2, p3, p4, p5⟩ := h2 bf (Or.inl rfl) ⟨st, hb, by omega, by omega, hP⟩
          unfold imax2
          split <;> omega
        · obtain ⟨s, s1, s2, s3, s4⟩ := hs
          obtain ⟨s', p1, p2, p3, p4, p5⟩ := h2 t (by
            rcases ht with ht | ht
            · subst ht; exact Or.inr ⟨by omega, hP⟩
            · exact Or.inr ⟨by omega, ht.2⟩) ⟨s, s1, by omega, by omega, s4⟩
          refine ⟨s', p1, ?_, by omega, p4, p5⟩
          rcases ht with ht | ht <;> omega
    · rw [if_neg hP, gapL_iff b X m (st + 1) bf _ (by omega)]
      have ne : ∀ s, gbit b (24 + s) = 1 → s ≠ st := fun s h1 h2 => hP (by rw [← h2]; exact h1)
      constructor
      · rintro ⟨h1, h2⟩
        refine ⟨h1, fun t ht hs => ?_⟩
        obtain ⟨s, s1, s2, s3, s4⟩ := hs
        have := ne s s4
        obtain ⟨s', p1, p2, p3, p4, p5⟩ := h2 t (by
          rcases ht with ht | ht
          · exact Or.inl ht
          · have := ne t ht.2
            exact Or.inr ⟨by omega, ht.2⟩) ⟨s, s1, by omega, by omega, s4⟩
        exact ⟨s', p1, by omega, by omega, p4, p5⟩
      · rintro ⟨h1, h2⟩
        refine ⟨h1, fun t ht hs => ?_⟩
        obtain ⟨s, s1, s2, s3, s4⟩ := hs
        obtain ⟨s', p1, p2, p3, p4, p5⟩ := h2 t (by
          rcases ht with ht | ht
          · exact Or.inl ht
          · exact Or.inr ⟨by omega, ht.2⟩) ⟨s, s1, by omega, by omega, s4⟩
        have := ne s' p4
        exact ⟨s', p1, by omega, by omega, p4, p5⟩
