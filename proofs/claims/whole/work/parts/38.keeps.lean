/-! the object's ints stay in order -/
theorem XV_ne1 {I I' : Nat → Nat → Int} (hv : XV I) (ne : ∀ a, a < 1 ∨ 7 ≤ a → I' a = I a) (h1 : StV I' 1) : XV I' := by
  obtain ⟨x1, x7, x46, x36, x40, x74, x3, xl, xl2⟩ := hv
  exact ⟨h1, LmV_ne x7 (fun a h1 h2 => ne a (by omega)), LmV_ne x46 (fun a h1 h2 => ne a (by omega)), TxV_ne x36 (fun a h1 h2 => ne a (by omega)), StV_ne x40 (fun a h1 h2 => ne a (by omega)), fun i hi => StV_ne (x74 i hi) (fun a h1 h2 => ne a (by omega)), by rw [ne 0 (by omega)]; exact x3, LIN_ne xl x7 (fun a h1 h2 => ne a (by omega)), LIN_ne xl2 x46 (fun a h1 h2 => ne a (by omega))⟩
theorem XV_ne36 {I I' : Nat → Nat → Int} (hv : XV I) (ne : ∀ a, a < 36 ∨ 40 ≤ a → I' a = I a) (h1 : TxV I' 36) : XV I' := by
  obtain ⟨x1, x7, x46, x36, x40, x74, x3, xl, xl2⟩ := hv
  exact ⟨StV_ne x1 (fun a h1 h2 => ne a (by omega)), LmV_ne x7 (fun a h1 h2 => ne a (by omega)), LmV_ne x46 (fun a h1 h2 => ne a (by omega)), h1, StV_ne x40 (fun a h1 h2 => ne a (by omega)), fun i hi => StV_ne (x74 i hi) (fun a h1 h2 => ne a (by omega)), by rw [ne 0 (by omega)]; exact x3, LIN_ne xl x7 (fun a h1 h2 => ne a (by omega)), LIN_ne xl2 x46 (fun a h1 h2 => ne a (by omega))⟩
theorem XV_place {I : Nat → Nat → Int} {b c v : Int} (hv : XV I) (hb : 0 ≤ b ∧ b < 480) (hc : 0 ≤ c ∧ c < 576) (h9 : -1 ≤ v ∧ v ≤ 999) : XV (f_place I 1 b c v) :=
  XV_ne1 hv (fun a ha => f_place_ne (by omega)) (StV_place hv.1 hb hc h9)
theorem XV_forget {I : Nat → Nat → Int} {b : Int} (hv : XV I) : XV (f_forget I 1 b) := XV_ne1 hv (fun a ha => f_forget_ne (by omega) (by omega) (by omega)) (StV_forget hv.1)
theorem XV_addSpot {I : Nat → Nat → Int} {x : Int} (hv : XV I) : XV (f_addSpot I 1 x) := XV_ne1 hv (fun a ha => f_addSpot_ne (by omega)) (StV_addSpot hv.1)
theorem XV_removeSpot {I : Nat → Nat → Int} {x : Int} (hv : XV I) : XV (f_removeSpot I 1 x) := XV_ne1 hv (fun a ha => f_removeSpot_ne (by omega) (by omega)) (StV_removeSpot hv.1)
theorem XV_tidyUp {I : Nat → Nat → Int} {m : Int} (hv : XV I) : XV (f_tidyUp I 1 7 m).2 := XV_ne1 hv (fun a ha => f_tidyUp_ne (by omega)) (StV_tidyUp hv.1)
theorem XV_back {I : Nat → Nat → Int} {i : Nat} (hv : XV I) (hi : i < 6) : XV (f_copy I (74 + 6 * i) 1) := XV_ne1 hv (fun a ha => f_copy_ne (by omega)) (StV_copy (by omega) (hv.2.2.2.2.2.1 i hi) hv.1)
theorem fits_rg {s v : Int} (h : ¬ f_fits s v = 0) : (0 ≤ s ∧ s < 3) ∧ 0 ≤ v ∧ v ≤ 8 ∧ (s = 2 → v ≤ 6) := by
  unfold f_fits at h
  have h1 := Decidable.byContradiction fun q => h (if_neg q)
  obtain ⟨⟨h2, h3⟩, h4, h5⟩ := h1
  obtain ⟨i, rfl⟩ : ∃ i : Nat, s = (i : Int) := ⟨s.toNat, by omega⟩
  have : i = 0 ∨ i = 1 ∨ i = 2 := by omega
  rcases this with rfl | rfl | rfl
  · have e1 : q_sv 0 (((0 : Nat) : Int)).toNat = 3 := rfl
    have e2 : q_sv 1 (((0 : Nat) : Int)).toNat = 6 := rfl
    omega
  · have e1 : q_sv 0 (((1 : Nat) : Int)).toNat = 1 := rfl
    have e2 : q_sv 1 (((1 : Nat) : Int)).toNat = 8 := rfl
    omega
  · have e1 : q_sv 0 (((2 : Nat) : Int)).toNat = 0 := rfl
    have e2 : q_sv 1 (((2 : Nat) : Int)).toNat = 6 := rfl
    omega
theorem XV_set {I : Nat → Nat → Int} {s v : Int} (hv : XV I) (h : ¬ f_fits s v = 0) : XV (f_changeSetting I 1 s v) := by
  obtain ⟨h1, h2, h3, h4⟩ := fits_rg h
  have e : f_changeSetting I 1 s v = u2 I (1 + 2) s.toNat v := if_pos h1
  rw [e]
  refine XV_ne1 hv (fun a ha => u2_ne (by omega)) ?_
  obtain ⟨a1, a2, a3, a4, a5, a6, a7⟩ := hv.1
  unfold StV
  rw [u2_ne (by omega : (1 : Nat) ≠ 1 + 2), u2_ne (by omega : (1 + 1 : Nat) ≠ 1 + 2), u2_ne (by omega : (1 + 3 : Nat) ≠ 1 + 2), u2_ne (by omega : (1 + 4 : Nat) ≠ 1 + 2), u2_ne (by omega : (1 + 5 : Nat) ≠ 1 + 2), u2k]
  refine ⟨a1, a2, fun j hj => ?_, ?_, a5, a6, a7⟩
  · rw [u2k]
    split
    · omega
    · exact a3 j hj
  · split
    · omega
    · exact a4
theorem f_av_rg {k : Nat} : ∀ (m i : Nat) (I : Nat → Nat → Int), 0 ≤ I k 7 → I k 7 ≤ (f_av k m i I) k 7 ∧ (f_av k m i I) k 7 ≤ I k 7 + m
  | 0, _, _, _ => ⟨Int.le_refl _, by unfold f_av; omega⟩
  | m + 1, i, I, h => by
    unfold f_av
    split
    · have q := f_av_rg m (i + 1) I h
      omega
    · have q := f_av_rg (k := k) m (i + 1) (f_inc7 I k) (by unfold f_inc7; rw [u2_at]; omega)
      have e : f_inc7 I k k 7 = I k 7 + 1 := by unfold f_inc7; rw [u2_at]
      rw [e] at q
      omega
theorem f_build_av {I : Nat → Nat → Int} {J : Nat → Nat → Int64} {k ks : Nat} (hd : ks + 6 ≤ k ∨ k + 28 ≤ ks) (hv : LmV I k) (hcn : 0 ≤ I ks 5 ∧ I ks 5 ≤ 12) (hset : ∀ j : Nat, j < 3 → 0 ≤ I (ks + 2) j ∧ I (ks + 2) j ≤ 8) (hset2 : I (ks + 2) 2 ≤ 6) : 0 ≤ (f_build I J k ks).1 k 7 ∧ (f_build I J k ks).1 k 7 ≤ 576 := by
  have h1 := f_b1_BOK (J := J) hd hv hcn hset hset2
  have h0 := f_b0_TOK hd hv hcn
  have e : (f_b1 I J k ks).1 k 7 = 0 := by rw [h1.2.1 7 (by decide), h0.2.1 7 (by decide), f_clear_k, if_pos (by decide)]
  have q := f_av_rg (k := k) 576 0 (f_b1 I J k ks).1 (by rw [e]; decide)
  show 0 ≤ f_av k 576 0 (f_b1 I J k ks).1 k 7 ∧ f_av k 576 0 (f_b1 I J k ks).1 k 7 ≤ 576
  omega
theorem XV_build {I : Nat → Nat → Int} {J : Nat → Nat → Int64} (hv : XV I) : XV (f_build I J 7 1).1 ∧ 0 ≤ (f_build I J 7 1).1 7 7 ∧ (f_build I J 7 1).1 7 7 ≤ 576 := by
  obtain ⟨x1, x7, x46, x36, x40, x74, x3, xl, xl2⟩ := hv
  have ne : ∀ a, a < 7 ∨ 35 ≤ a → (f_build I J 7 1).1 a = I a := fun a ha => f_build_ne (by omega) x7 x1.1 x1.2.2.1 x1.2.2.2.1 (by omega)
  exact ⟨⟨StV_ne x1 (fun a h1 h2 => ne a (by omega)), f_build_LmV (by omega) x7 x1.1 x1.2.2.1 x1.2.2.2.1, LmV_ne x46 (fun a h1 h2 => ne a (by omega)), TxV_ne x36 (fun a h1 h2 => ne a (by omega)), StV_ne x40 (fun a h1 h2 => ne a (by omega)), fun i hi => StV_ne (x74 i hi) (fun a h1 h2 => ne a (by omega)), by rw [ne 0 (by omega)]; exact x3, f_build_LIN (by omega) x7 x1.1 x1.2.2.1 x1.2.2.2.1, LIN_ne xl2 x46 (fun a h1 h2 => ne a (by omega))⟩, f_build_av (by omega) x7 x1.1 x1.2.2.1 x1.2.2.2.1⟩
theorem XV_type {I : Nat → Nat → Int} {c : Int} (hv : XV I) (hc : 0 ≤ c ∧ c ≤ 126) : XV (f_type I 36 c) := by
  obtain ⟨v3, v4, v5, v6, v7, v8, vc, vh, vo⟩ := hv.2.2.2.1
  unfold f_type
  split
  · unfold f_type.f_typ1
    refine XV_ne36 hv (fun a ha => by rw [u2_ne (by omega), u2_ne (by omega)]) ?_
    unfold TxV
    simp only [u2_ne (by omega : (36 : Nat) ≠ 36 + 1), u2_ne (by omega : (36 + 1 : Nat) ≠ 36), u2_ne (by omega : (36 + 2 : Nat) ≠ 36), u2_ne (by omega : (36 + 2 : Nat) ≠ 36 + 1), u2_ne (by omega : (36 + 3 : Nat) ≠ 36), u2_ne (by omega : (36 + 3 : Nat) ≠ 36 + 1), u2k]
    refine ⟨by rw [if_pos trivial]; omega, by rw [if_neg (by decide)]; exact v4, by rw [if_neg (by decide)]; exact v5, by rw [if_neg (by decide)]; exact v6, by rw [if_neg (by decide)]; exact v7, by rw [if_neg (by decide)]; exact v8, fun j => ?_, vh, vo⟩
    split
    · exact hc
    · exact vc j
  · exact hv
theorem TxV_tells {I : Nat → Nat → Int} {k : Nat} (hv : TxV I k) : TxV (f_tells I k).2 k ∧ TxK k I (f_tells I k).2 := by
  have h1 := TxV_scan hv
  unfold f_tells f_tells1
  split
  · have h2 := TxV_endSpot h1.1
    exact ⟨h2.1, TxK_trans h1.2 h2.2⟩
  · exact h1
theorem XV_scan {I : Nat → Nat → Int} (hv : XV I) : XV (f_scan I 36).2 := by
  have h := TxV_scan hv.2.2.2.1
  exact XV_ne36 hv (fun a ha => h.2.1 a (by omega) (by omega) (by omega)) h.1
theorem XV_tells {I : Nat → Nat → Int} (hv : XV I) : XV (f_tells I 36).2 := by
  have h := TxV_tells hv.2.2.2.1
  exact XV_ne36 hv (fun a ha => h.2.1 a (by omega) (by omega) (by omega)) h.1
theorem XV_empty {I : Nat → Nat → Int} (hv : XV I) : XV (u2 I 36 3 0) := by
  obtain ⟨v3, v4, v5, v6, v7, v8, vc, vh, vo⟩ := hv.2.2.2.1
  refine XV_ne36 hv (fun a ha => u2_ne (by omega)) ?_
  unfold TxV
  simp only [u2_ne (by omega : (36 + 1 : Nat) ≠ 36), u2_ne (by omega : (36 + 2 : Nat) ≠ 36), u2_ne (by omega : (36 + 3 : Nat) ≠ 36), u2k]
  exact ⟨by rw [if_pos trivial]; decide, by rw [if_neg (by decide)]; exact v4, by rw [if_neg (by decide)]; exact v5, by rw [if_neg (by decide)]; exact v6, by rw [if_neg (by decide)]; exact v7, by rw [if_neg (by decide)]; exact v8, vc, vh, vo⟩
theorem XV_follow {I : Nat → Nat → Int} {o : Nat} (hv : XV I) : XV (f_follow I o).2 := by
  unfold f_follow
  split
  · split
    · exact hv
    · exact XV_removeSpot hv
  · split
    · exact hv
    · exact XV_addSpot hv
theorem follow_ne {I : Nat → Nat → Int} {o a : Nat} (ha : a < 1 ∨ 7 ≤ a) : (f_follow I o).2 a = I a := by
  unfold f_follow
  split
  · split
    · rfl
    · exact f_removeSpot_ne (by omega) (by omega)
  · split
    · rfl
    · exact f_addSpot_ne (by omega)
theorem follow01 {I : Nat → Nat → Int} {o : Nat} : (f_follow I o).1 = 0 ∨ (f_follow I o).1 = 1 := by
  unfold f_follow
  split <;> split <;> simp
