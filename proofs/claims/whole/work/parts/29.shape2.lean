/-! the object under test: where its parts lie; its states' ranges -/
def ScB (T : Nat → Nat × Nat) (R : Nat → Nat → Option Nat) (n : Nat) : Prop :=
  T 0 = (4, 0) ∧ R 0 0 = some 1 ∧ R 0 1 = some 7 ∧ R 0 2 = some 35 ∧ R 0 4 = some 36 ∧ R 0 5 = some 40 ∧ R 0 6 = some 46 ∧ T 35 = (9, 6) ∧
  StB T R n 1 ∧ LmB T R n 7 ∧ TxB T R n 36 ∧ StB T R n 40 ∧ LmB T R n 46 ∧ (∀ i : Nat, i < 6 → StB T R n (74 + 6 * i)) ∧
  (∀ j : Nat, j < 6 → ∃ i : Nat, i < 6 ∧ R 35 j = some (74 + 6 * i)) ∧ (∀ i j : Nat, i < 6 → j < 6 → R 35 i = R 35 j → i = j) ∧ 125 ≤ n
theorem StB_R {T : Nat → Nat × Nat} {R R' : Nat → Nat → Option Nat} {n k : Nat} (h : StB T R n k) (hR : R' k = R k) : StB T R' n k := by
  unfold StB at h ⊢
  rw [hR]
  exact h
theorem LmB_R {T : Nat → Nat × Nat} {R R' : Nat → Nat → Option Nat} {n k : Nat} (h : LmB T R n k) (hR : R' k = R k) (hR1 : R' (k + 1) = R (k + 1)) : LmB T R' n k := by
  unfold LmB at h ⊢
  rw [hR, hR1]
  exact h
theorem TxB_R {T : Nat → Nat × Nat} {R R' : Nat → Nat → Option Nat} {n k : Nat} (h : TxB T R n k) (hR : R' k = R k) : TxB T R' n k := by
  unfold TxB at h ⊢
  rw [hR]
  exact h
theorem ScB_R {T : Nat → Nat × Nat} {R R' : Nat → Nat → Option Nat} {n : Nat} (h : ScB T R n) (hR : ∀ a, a ≠ 35 → R' a = R a) (h1 : ∀ j : Nat, j < 6 → ∃ i : Nat, i < 6 ∧ R' 35 j = some (74 + 6 * i)) (h2 : ∀ i j : Nat, i < 6 → j < 6 → R' 35 i = R' 35 j → i = j) : ScB T R' n := by
  obtain ⟨a0, a1, a2, a3, a4, a5, a6, a7, a8, a9, a10, a11, a12, a13, a14, a15, a16⟩ := h
  have e0 := hR 0 (by omega)
  refine ⟨a0, by rw [e0]; exact a1, by rw [e0]; exact a2, by rw [e0]; exact a3, by rw [e0]; exact a4, by rw [e0]; exact a5, by rw [e0]; exact a6, a7, StB_R a8 (hR _ (by omega)), LmB_R a9 (hR _ (by omega)) (hR _ (by omega)), TxB_R a10 (hR _ (by omega)), StB_R a11 (hR _ (by omega)), LmB_R a12 (hR _ (by omega)) (hR _ (by omega)), fun i hi => StB_R (a13 i hi) (hR _ (by omega)), h1, h2, a16⟩
/-- a state's rows, their ranges -/
def StV (I : Nat → Nat → Int) (k : Nat) : Prop := (0 ≤ I k 5 ∧ I k 5 ≤ 12) ∧ (∀ j : Nat, 0 ≤ I (k + 1) j ∧ I (k + 1) j < 576) ∧ (∀ j : Nat, j < 3 → 0 ≤ I (k + 2) j ∧ I (k + 2) j ≤ 8) ∧ I (k + 2) 2 ≤ 6 ∧ (∀ j : Nat, -1 ≤ I (k + 3) j ∧ I (k + 3) j ≤ 999) ∧ (∀ j : Nat, -1 ≤ I (k + 4) j ∧ I (k + 4) j < 576) ∧ (∀ j : Nat, -1 ≤ I (k + 5) j ∧ I (k + 5) j < 480)
theorem StV_of {I I' : Nat → Nat → Int} {k k' : Nat} (h : StV I k) (h5 : I' k' 5 = I k 5) (h1 : ∀ j, I' (k' + 1) j = I (k + 1) j) (h2 : ∀ j, I' (k' + 2) j = I (k + 2) j) (h3 : ∀ j, I' (k' + 3) j = I (k + 3) j) (h4 : ∀ j, I' (k' + 4) j = I (k + 4) j) (hh : ∀ j, I' (k' + 5) j = I (k + 5) j) : StV I' k' := by
  obtain ⟨a1, a2, a3, a4, a5, a6, a7⟩ := h
  exact ⟨by rw [h5]; exact a1, fun j => by rw [h1]; exact a2 j, fun j hj => by rw [h2]; exact a3 j hj, by rw [h2]; exact a4, fun j => by rw [h3]; exact a5 j, fun j => by rw [h4]; exact a6 j, fun j => by rw [hh]; exact a7 j⟩
theorem cp_ne {I : Nat → Nat → Int} {s d a : Nat} {m : Int} (h : a ≠ d) : cp I s d m a = I a := if_neg h
theorem cp_at {I : Nat → Nat → Int} {s d : Nat} {m : Int} (j : Nat) : cp I s d m d j = if (j : Int) < m then I s j else I d j := by
  unfold cp
  rw [if_pos rfl]
theorem f_mv_ne {I : Nat → Nat → Int} {k2 k j a : Nat} (h : a ≠ k) : f_mv I k2 k j a = I a := u2_ne h
theorem f_copy_ne {I : Nat → Nat → Int} {k2 k a : Nat} (h : a < k ∨ k + 6 ≤ a) : f_copy I k2 k a = I a := by
  unfold f_copy f_cp5
  rw [f_mv_ne (by omega), f_mv_ne (by omega), f_mv_ne (by omega), cp_ne (by omega), cp_ne (by omega), cp_ne (by omega), cp_ne (by omega), cp_ne (by omega)]
theorem f_copy_k {I : Nat → Nat → Int} {k2 k : Nat} (hd : k2 + 6 ≤ k ∨ k + 6 ≤ k2) (j : Nat) : f_copy I k2 k k j = if j = 5 ∨ j = 6 ∨ j = 7 then I k2 j else I k j := by
  have e : ∀ a, a = k2 ∨ a = k → f_cp5 I k2 k a = I a := fun a ha => by
    unfold f_cp5
    rw [cp_ne (by omega), cp_ne (by omega), cp_ne (by omega), cp_ne (by omega), cp_ne (by omega)]
  unfold f_copy f_mv
  rw [u2_ne (by omega : k2 ≠ k), u2_ne (by omega : k2 ≠ k), u2_eq, u2_eq, u2_eq, e k (Or.inr rfl), e k2 (Or.inl rfl)]
  by_cases h7 : j = 7
  · subst h7; simp [u2_ne (by omega : k2 ≠ k), e k2 (Or.inl rfl)]
  · by_cases h6 : j = 6
    · subst h6; simp
    · by_cases h5 : j = 5
      · subst h5; simp
      · simp [h5, h6, h7]
theorem f_copy_1 {I : Nat → Nat → Int} {k2 k : Nat} (hd : k2 + 6 ≤ k ∨ k + 6 ≤ k2) (j : Nat) : f_copy I k2 k (k + 1) j = if (j : Int) < 12 then I (k2 + 1) j else I (k + 1) j := by
  unfold f_copy f_cp5
  rw [f_mv_ne (by omega), f_mv_ne (by omega), f_mv_ne (by omega), cp_ne (by omega), cp_ne (by omega), cp_ne (by omega), cp_ne (by omega), cp_at]
theorem f_copy_2 {I : Nat → Nat → Int} {k2 k : Nat} (hd : k2 + 6 ≤ k ∨ k + 6 ≤ k2) (j : Nat) : f_copy I k2 k (k + 2) j = if (j : Int) < 3 then I (k2 + 2) j else I (k + 2) j := by
  unfold f_copy f_cp5
  rw [f_mv_ne (by omega), f_mv_ne (by omega), f_mv_ne (by omega), cp_ne (by omega), cp_ne (by omega), cp_ne (by omega), cp_at, cp_ne (by omega), cp_ne (by omega)]
theorem f_copy_3 {I : Nat → Nat → Int} {k2 k : Nat} (hd : k2 + 6 ≤ k ∨ k + 6 ≤ k2) (j : Nat) : f_copy I k2 k (k + 3) j = if (j : Int) < 480 then I (k2 + 3) j else I (k + 3) j := by
  unfold f_copy f_cp5
  rw [f_mv_ne (by omega), f_mv_ne (by omega), f_mv_ne (by omega), cp_ne (by omega), cp_ne (by omega), cp_at, cp_ne (by omega), cp_ne (by omega), cp_ne (by omega), cp_ne (by omega)]
theorem f_copy_4 {I : Nat → Nat → Int} {k2 k : Nat} (hd : k2 + 6 ≤ k ∨ k + 6 ≤ k2) (j : Nat) : f_copy I k2 k (k + 4) j = if (j : Int) < 480 then I (k2 + 4) j else I (k + 4) j := by
  unfold f_copy f_cp5
  rw [f_mv_ne (by omega), f_mv_ne (by omega), f_mv_ne (by omega), cp_ne (by omega), cp_at, cp_ne (by omega), cp_ne (by omega), cp_ne (by omega), cp_ne (by omega), cp_ne (by omega), cp_ne (by omega)]
theorem f_copy_5 {I : Nat → Nat → Int} {k2 k : Nat} (hd : k2 + 6 ≤ k ∨ k + 6 ≤ k2) (j : Nat) : f_copy I k2 k (k + 5) j = if (j : Int) < 576 then I (k2 + 5) j else I (k + 5) j := by
  unfold f_copy f_cp5
  rw [f_mv_ne (by omega), f_mv_ne (by omega), f_mv_ne (by omega), cp_at, cp_ne (by omega), cp_ne (by omega), cp_ne (by omega), cp_ne (by omega), cp_ne (by omega), cp_ne (by omega), cp_ne (by omega), cp_ne (by omega)]
theorem StV_copy {I : Nat → Nat → Int} {k2 k : Nat} (hd : k2 + 6 ≤ k ∨ k + 6 ≤ k2) (h2 : StV I k2) (h : StV I k) : StV (f_copy I k2 k) k := by
  obtain ⟨a1, a2, a3, a4, a5, a6, a7⟩ := h2
  obtain ⟨b1, b2, b3, b4, b5, b6, b7⟩ := h
  refine ⟨?_, fun j => ?_, fun j hj => ?_, ?_, fun j => ?_, fun j => ?_, fun j => ?_⟩
  · rw [f_copy_k hd, if_pos (by omega)]; exact a1
  · rw [f_copy_1 hd]; split; exact a2 j; exact b2 j
  · rw [f_copy_2 hd, if_pos (by omega)]; exact a3 j hj
  · rw [f_copy_2 hd, if_pos (by decide)]; exact a4
  · rw [f_copy_3 hd]; split; exact a5 j; exact b5 j
  · rw [f_copy_4 hd]; split; exact a6 j; exact b6 j
  · rw [f_copy_5 hd]; split; exact a7 j; exact b7 j
theorem f_forget_ne {I : Nat → Nat → Int} {k a : Nat} {b : Int} (h : a ≠ k + 3) (h4 : a ≠ k + 4) (h5 : a ≠ k + 5) : f_forget I k b a = I a := by
  unfold f_forget
  split
  · rw [u2_ne h, u2_ne h4, u2_ne h5]
  · rfl
theorem u2_P {f : Nat → Nat → Int} {k j : Nat} {x : Int} {P : Int → Prop} {a : Nat} (h : ∀ i, P (f a i)) (hx : P x) (i : Nat) : P (u2 f k j x a i) := by
  by_cases ha : a = k
  · subst ha
    rw [u2k]
    by_cases hi : i = j
    · rw [if_pos hi]; exact hx
    · rw [if_neg hi]; exact h i
  · rw [u2_ne ha]; exact h i
theorem StV_forget {I : Nat → Nat → Int} {k : Nat} {b : Int} (h : StV I k) : StV (f_forget I k b) k := by
  obtain ⟨a1, a2, a3, a4, a5, a6, a7⟩ := h
  have r : ∀ a, a = k ∨ a = k + 1 ∨ a = k + 2 → f_forget I k b a = I a := fun a ha => f_forget_ne (by omega) (by omega) (by omega)
  refine ⟨by rw [r _ (Or.inl rfl)]; exact a1, by rw [r _ (Or.inr (Or.inl rfl))]; exact a2, by rw [r _ (Or.inr (Or.inr rfl))]; exact a3, by rw [r _ (Or.inr (Or.inr rfl))]; exact a4, fun j => ?_, fun j => ?_, fun j => ?_⟩
  all_goals
    unfold f_forget
    split
  · exact u2_P (P := fun x => -1 ≤ x ∧ x ≤ 999) (u2_P (P := fun x => -1 ≤ x ∧ x ≤ 999) (u2_P (P := fun x => -1 ≤ x ∧ x ≤ 999) a5 (by decide)) (by decide)) (by decide) j
  · exact a5 j
  · exact u2_P (P := fun x => -1 ≤ x ∧ x < 576) (u2_P (P := fun x => -1 ≤ x ∧ x < 576) (u2_P (P := fun x => -1 ≤ x ∧ x < 576) a6 (by decide)) (by decide)) (by decide) j
  · exact a6 j
  · exact u2_P (P := fun x => -1 ≤ x ∧ x < 480) (u2_P (P := fun x => -1 ≤ x ∧ x < 480) (u2_P (P := fun x => -1 ≤ x ∧ x < 480) a7 (by decide)) (by decide)) (by decide) j
  · exact a7 j
theorem f_add0_ne {I : Nat → Nat → Int} {k a : Nat} {x : Int} (h : a ≠ k) (h1 : a ≠ k + 1) : f_add0 I k x a = I a := by
  unfold f_add0
  rw [u2_ne h, u2_ne h1]
theorem StV_add0 {I : Nat → Nat → Int} {k : Nat} {x : Int} (h : StV I k) (hx : 0 ≤ x ∧ x < 576) (hc : I k 5 < 12) : StV (f_add0 I k x) k := by
  obtain ⟨a1, a2, a3, a4, a5, a6, a7⟩ := h
  refine ⟨?_, fun j => ?_, by rw [f_add0_ne (by omega) (by omega)]; exact a3, by rw [f_add0_ne (by omega) (by omega)]; exact a4, by rw [f_add0_ne (by omega) (by omega)]; exact a5, by rw [f_add0_ne (by omega) (by omega)]; exact a6, by rw [f_add0_ne (by omega) (by omega)]; exact a7⟩
  · unfold f_add0
    rw [u2_at, u2_ne (by omega)]; omega
  · unfold f_add0
    rw [u2_ne (by omega)]
    exact u2_P (P := fun x => 0 ≤ x ∧ x < 576) a2 hx j
theorem StV_k {I : Nat → Nat → Int} {k j : Nat} {x : Int} (h : StV I k) (hj : j ≠ 5) : StV (u2 I k j x) k := by
  obtain ⟨a1, a2, a3, a4, a5, a6, a7⟩ := h
  unfold StV
  rw [u2_ne (by omega : k + 1 ≠ k), u2_ne (by omega : k + 2 ≠ k), u2_ne (by omega : k + 3 ≠ k), u2_ne (by omega : k + 4 ≠ k), u2_ne (by omega : k + 5 ≠ k), u2_nj (Ne.symm hj)]
  exact ⟨a1, a2, a3, a4, a5, a6, a7⟩
theorem StV_addSpot {I : Nat → Nat → Int} {k : Nat} {x : Int} (h : StV I k) : StV (f_addSpot I k x) k := by
  unfold f_addSpot
  split
  · exact h
  · rename_i hc
    obtain ⟨c1, c2, c3⟩ := f_can_of hc
    have h0 := StV_add0 h c1 c2
    split
    · exact h0
    · unfold f_addL
      exact StV_k (StV_forget h0) (by decide)
theorem f_addSpot_ne {I : Nat → Nat → Int} {k a : Nat} {x : Int} (h : a < k ∨ k + 6 ≤ a) : f_addSpot I k x a = I a := by
  unfold f_addSpot
  split
  · rfl
  · split
    · exact f_add0_ne (by omega) (by omega)
    · unfold f_addL
      rw [u2_ne (by omega), f_forget_ne (by omega) (by omega) (by omega), f_add0_ne (by omega) (by omega)]
theorem f_shl_ne (k : Nat) : ∀ (m i : Nat) (I : Nat → Nat → Int) (a : Nat), a ≠ k + 1 → f_shl I k m i a = I a
  | 0, _, _, _, _ => rfl
  | m + 1, i, I, a, h => by
    unfold f_shl
    rw [f_shl_ne k m (i + 1) _ a h, u2_ne h]
theorem f_shl_P (k : Nat) {P : Int → Prop} : ∀ (m i : Nat) (I : Nat → Nat → Int), (∀ j, P (I (k + 1) j)) → ∀ j, P (f_shl I k m i (k + 1) j)
  | 0, _, _, h => h
  | m + 1, i, I, h => by
    unfold f_shl
    exact f_shl_P k m (i + 1) _ (fun j => u2_P h (h (i + 1)) j)
theorem f_removeSpot_ne {I : Nat → Nat → Int} {k a : Nat} {x : Int} (h : a ≠ k) (h1 : a ≠ k + 1) : f_removeSpot I k x a = I a := by
  unfold f_removeSpot f_less
  split
  · rfl
  · rw [u2_ne h, f_shl_ne _ _ _ _ _ h1]
theorem StV_removeSpot {I : Nat → Nat → Int} {k : Nat} {x : Int} (h : StV I k) : StV (f_removeSpot I k x) k := by
  have hq := spotAt_rg I k x h.1
  obtain ⟨a1, a2, a3, a4, a5, a6, a7⟩ := h
  refine ⟨?_, ?_, by rw [f_removeSpot_ne (by omega) (by omega)]; exact a3, by rw [f_removeSpot_ne (by omega) (by omega)]; exact a4, by rw [f_removeSpot_ne (by omega) (by omega)]; exact a5, by rw [f_removeSpot_ne (by omega) (by omega)]; exact a6, by rw [f_removeSpot_ne (by omega) (by omega)]; exact a7⟩
  all_goals
    unfold f_removeSpot f_less
    split
  · exact a1
  · rw [u2_at, f_shl_ne _ _ _ _ _ (by omega)]; omega
  · exact a2
  · rw [u2_ne (by omega)]
    exact f_shl_P k (P := fun x => 0 ≤ x ∧ x < 576) _ _ _ a2
theorem StV_place {I : Nat → Nat → Int} {k : Nat} {b c v : Int} (h : StV I k) (hb : 0 ≤ b ∧ b < 480) (hc : 0 ≤ c ∧ c < 576) (hv : -1 ≤ v ∧ v ≤ 999) : StV (f_place I k b c v) k := by
  obtain ⟨a1, a2, a3, a4, a5, a6, a7⟩ := h
  have e5 : f_place I k b c v k 5 = I k 5 := by
    unfold f_place f_lay f_leave
    split
    · split
      · rw [u2_ne (by omega), u2_ne (by omega), u2_ne (by omega), u2_nj (by decide), u2_ne (by omega)]
      · rw [u2_ne (by omega), u2_ne (by omega), u2_ne (by omega)]
    · rfl
  have e1 : ∀ a, a = k + 1 ∨ a = k + 2 → f_place I k b c v a = I a := by
    intro a ha
    unfold f_place f_lay f_leave
    split
    · split
      · rw [u2_ne (by omega), u2_ne (by omega), u2_ne (by omega), u2_ne (by omega), u2_ne (by omega)]
      · rw [u2_ne (by omega), u2_ne (by omega), u2_ne (by omega)]
    · rfl
  refine ⟨by rw [e5]; exact a1, by rw [e1 _ (Or.inl rfl)]; exact a2, by rw [e1 _ (Or.inr rfl)]; exact a3, by rw [e1 _ (Or.inr rfl)]; exact a4, fun j => ?_, fun j => ?_, fun j => ?_⟩
  · unfold f_place f_lay f_leave
    rw [if_pos ⟨hb, hc⟩]
    split
    · exact u2_P (P := fun x => -1 ≤ x ∧ x ≤ 999) (fun i => by rw [u2_ne (by omega), u2_ne (by omega), u2_ne (by omega), u2_ne (by omega)]; exact a5 i) hv j
    · exact u2_P (P := fun x => -1 ≤ x ∧ x ≤ 999) (fun i => by rw [u2_ne (by omega), u2_ne (by omega)]; exact a5 i) hv j
  · rw [f_place_4 hc]
    split
    · omega
    · exact a6 j
  · rw [f_place_5 hb hc]
    split
    · omega
    · split
      · decide
      · exact a7 j
theorem StV_ne {I I' : Nat → Nat → Int} {k : Nat} (h : StV I k) (he : ∀ a, k ≤ a → a < k + 6 → I' a = I a) : StV I' k := by
  unfold StV
  rw [he k (by omega) (by omega), he (k + 1) (by omega) (by omega), he (k + 2) (by omega) (by omega), he (k + 3) (by omega) (by omega), he (k + 4) (by omega) (by omega), he (k + 5) (by omega) (by omega)]
  exact h
theorem LmV_ne {I I' : Nat → Nat → Int} {k : Nat} (h : LmV I k) (he : ∀ a, k ≤ a → a < k + 6 → I' a = I a) : LmV I' k := by
  unfold LmV
  rw [he k (by omega) (by omega), he (k + 2) (by omega) (by omega), he (k + 3) (by omega) (by omega), he (k + 4) (by omega) (by omega), he (k + 5) (by omega) (by omega)]
  exact h
theorem TxV_ne {I I' : Nat → Nat → Int} {k : Nat} (h : TxV I k) (he : ∀ a, k ≤ a → a < k + 4 → I' a = I a) : TxV I' k := by
  unfold TxV
  rw [he k (by omega) (by omega), he (k + 1) (by omega) (by omega), he (k + 2) (by omega) (by omega), he (k + 3) (by omega) (by omega)]
  exact h
