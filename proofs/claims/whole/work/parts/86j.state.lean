/-! states: the object's and the reference's, after the same deeds -/
theorem SRel_of {I I' : Nat → Nat → Int} {k : Nat} {z z' : Nat → Int} (hI : ∀ a, k ≤ a → a < k + 6 → I' a = I a) (hz : ∀ j, j < 1554 → z' j = z j) (h3 : z 3 ≤ 12) (h : SRel I k z) : SRel I' k z' := by
  obtain ⟨a1, a2, a3, a4, a5, a6, a7, a8⟩ := h
  unfold SRel
  rw [hI k (by omega) (by omega), hI (k + 1) (by omega) (by omega), hI (k + 2) (by omega) (by omega), hI (k + 3) (by omega) (by omega), hI (k + 4) (by omega) (by omega), hI (k + 5) (by omega) (by omega), hz 3 (by decide), hz 4 (by decide), hz 5 (by decide)]
  exact ⟨a1, a2, a3, fun j hj => by rw [hz _ (by omega)]; exact a4 j hj, fun j hj => by rw [hz _ (by omega)]; exact a5 j hj, fun j hj => by rw [hz _ (by omega)]; exact a6 j hj, fun j hj => by rw [hz _ (by omega)]; exact a7 j hj, fun j hj => by rw [hz _ (by omega)]; exact a8 j hj⟩
def WW (V P H : Nat → Int) : Prop := (∀ b : Nat, b < 480 → P b ≠ -1 → H (P b).toNat = (b : Int)) ∧ (∀ c : Nat, c < 576 → H c ≠ -1 → P (H c).toNat = (c : Int)) ∧ (∀ b : Nat, b < 480 → (V b = -1 ↔ P b = -1)) ∧ ∀ b : Nat, b < 480 → P b = -1 ∨ P b = (b : Int) ∨ 480 ≤ P b
theorem WF_iff {z : Nat → Int} : WF z ↔ WW (fun b => z (18 + b)) (fun b => z (498 + b)) (fun c => z (978 + c)) ∧ 3 ≤ z 0 := by
  unfold WF WW
  constructor
  · rintro ⟨a, b, c, d, e⟩; exact ⟨⟨a, b, c, d⟩, e⟩
  · rintro ⟨⟨a, b, c, d⟩, e⟩; exact ⟨a, b, c, d, e⟩
theorem WW_of {V P H V' P' H' : Nat → Int} (hP : ∀ b, b < 480 → -1 ≤ P b ∧ P b < 576) (hH : ∀ c, c < 576 → -1 ≤ H c ∧ H c < 480) (eV : ∀ b, b < 480 → V' b = V b) (eP : ∀ b, b < 480 → P' b = P b) (eH : ∀ c, c < 576 → H' c = H c) (h : WW V P H) : WW V' P' H' := by
  obtain ⟨a, b, c, d⟩ := h
  refine ⟨fun x hx hn => ?_, fun x hx hn => ?_, fun x hx => ?_, fun x hx => ?_⟩
  · rw [eP x hx] at hn ⊢
    have := hP x hx
    rw [eH _ (by omega)]
    exact a x hx hn
  · rw [eH x hx] at hn ⊢
    have := hH x hx
    rw [eP _ (by omega)]
    exact b x hx hn
  · rw [eV x hx, eP x hx]
    exact c x hx
  · rw [eP x hx]
    exact d x hx
theorem WW_lose {V P H V' P' H' : Nat → Int} (hP : ∀ b, b < 480 → -1 ≤ P b ∧ P b < 576) (hH : ∀ c, c < 576 → -1 ≤ H c ∧ H c < 480) {b : Nat} (hb : b < 480) (hp : P b ≠ -1) (eV : ∀ x, x < 480 → V' x = if x = b then -1 else V x) (eP : ∀ x, x < 480 → P' x = if x = b then -1 else P x) (eH : ∀ c, c < 576 → H' c = if c = (P b).toNat then -1 else H c) (h : WW V P H) : WW V' P' H' := by
  obtain ⟨w1, w2, w3, w4⟩ := h
  have hpb := hP b hb
  have hb1 := w1 b hb hp
  refine ⟨fun x hx hn => ?_, fun x hx hn => ?_, fun x hx => ?_, fun x hx => ?_⟩
  · rw [eP x hx] at hn ⊢
    by_cases hxb : x = b
    · rw [if_pos hxb] at hn; exact absurd rfl hn
    · rw [if_neg hxb] at hn ⊢
      have hpx := hP x hx
      have hx1 := w1 x hx hn
      rw [eH _ (by omega), if_neg (fun q => by rw [q] at hx1; omega)]
      exact hx1
  · rw [eH x hx] at hn ⊢
    by_cases hxb : x = (P b).toNat
    · rw [if_pos hxb] at hn; exact absurd rfl hn
    · rw [if_neg hxb] at hn ⊢
      have hpx := hH x hx
      have hx1 := w2 x hx hn
      rw [eP _ (by omega), if_neg (fun q => by rw [q] at hx1; omega)]
      exact hx1
  · rw [eV x hx, eP x hx]
    by_cases hxb : x = b
    · rw [if_pos hxb, if_pos hxb]
    · rw [if_neg hxb, if_neg hxb]; exact w3 x hx
  · rw [eP x hx]
    by_cases hxb : x = b
    · rw [if_pos hxb]; exact Or.inl rfl
    · rw [if_neg hxb]; exact w4 x hx
theorem WW_place {V P H V' P' H' : Nat → Int} (hP : ∀ b, b < 480 → -1 ≤ P b ∧ P b < 576) (hH : ∀ c, c < 576 → -1 ≤ H c ∧ H c < 480) {b : Nat} (hb : b < 480) {c v : Int} (hc : 0 ≤ c ∧ c < 576) (hfree : H c.toNat = -1 ∨ H c.toNat = (b : Int)) (hcb : c = (b : Int) ∨ 480 ≤ c) (hv : v ≠ -1) (eV : ∀ x, x < 480 → V' x = if x = b then v else V x) (eP : ∀ x, x < 480 → P' x = if x = b then c else P x) (eH : ∀ x, x < 576 → H' x = if x = c.toNat then (b : Int) else if (P b ≠ -1 ∧ P b ≠ c) ∧ x = (P b).toNat then -1 else H x) (h : WW V P H) : WW V' P' H' := by
  obtain ⟨w1, w2, w3, w4⟩ := h
  have hpb := hP b hb
  refine ⟨fun x hx hn => ?_, fun x hx hn => ?_, fun x hx => ?_, fun x hx => ?_⟩
  · rw [eP x hx] at hn ⊢
    by_cases hxb : x = b
    · rw [if_pos hxb, eH _ (by omega), if_pos rfl, hxb]
    · rw [if_neg hxb] at hn ⊢
      have hpx := hP x hx
      have hx1 := w1 x hx hn
      have ne1 : (P x).toNat ≠ c.toNat := fun q => by rw [q] at hx1; omega
      rw [eH _ (by omega), if_neg ne1]
      by_cases h9 : P b ≠ -1 ∧ P b ≠ c
      · have hb1 := w1 b hb h9.1
        rw [if_neg (fun q => by rw [q.2] at hx1; omega)]
        exact hx1
      · rw [if_neg (fun q => h9 q.1)]
        exact hx1
  · rw [eH x hx] at hn ⊢
    by_cases hxc : x = c.toNat
    · rw [if_pos hxc, Int.toNat_natCast, eP b hb, if_pos rfl]
      omega
    · rw [if_neg hxc] at hn ⊢
      by_cases h9 : (P b ≠ -1 ∧ P b ≠ c) ∧ x = (P b).toNat
      · rw [if_pos h9] at hn; exact absurd rfl hn
      · rw [if_neg h9] at hn ⊢
        have hpx := hH x hx
        have hx1 := w2 x hx hn
        rw [eP _ (by omega), if_neg (fun q => by
          rw [q] at hx1
          exact h9 ⟨⟨by omega, by omega⟩, by omega⟩)]
        exact hx1
  · rw [eV x hx, eP x hx]
    by_cases hxb : x = b
    · rw [if_pos hxb, if_pos hxb]
      constructor
      · intro q; exact absurd q hv
      · intro q; omega
    · rw [if_neg hxb, if_neg hxb]; exact w3 x hx
  · rw [eP x hx]
    by_cases hxb : x = b
    · rw [if_pos hxb, hxb]; right; exact hcb
    · rw [if_neg hxb]; exact w4 x hx
theorem ZV_P {M : Nat → Nat → Int} (hz : ZV M) : (∀ b, b < 480 → -1 ≤ M 111 (498 + b) ∧ M 111 (498 + b) < 576) ∧ ∀ c, c < 576 → -1 ≤ M 111 (978 + c) ∧ M 111 (978 + c) < 480 := ⟨hz.2.2.2.2.2.2.2.1, hz.2.2.2.2.2.2.2.2⟩
theorem WF_of {M M' : Nat → Nat → Int} (hz : ZV M) (he : ∀ j, j < 1554 → M' 111 j = M 111 j) (h : WF (M 111)) : WF (M' 111) := by
  obtain ⟨h1, h2⟩ := WF_iff.mp h
  obtain ⟨r1, r2⟩ := ZV_P hz
  exact WF_iff.mpr ⟨WW_of r1 r2 (fun b hb => he _ (by omega)) (fun b hb => he _ (by omega)) (fun b hb => he _ (by omega)) h1, by rw [he 0 (by decide)]; exact h2⟩
theorem MR_of {I I' : Nat → Nat → Int} {k : Nat} {z z' : Nat → Int} (hI : ∀ a, k ≤ a → a < k + 28 → I' a = I a) (h6 : I k 6 ≤ 22) (hz : ∀ j, j < 18 → j ≠ 4 → j ≠ 5 → z' j = z j) (h : MR I k z) : MR I' k z' := by
  intro M hM hb he
  obtain ⟨a1, a2, a3, a4, a5⟩ := h M hM hb (fun j h1 h2 h3 => (he j h1 h2 h3).trans (hz j h1 h2 h3))
  refine ⟨by rw [hI k (by omega) (by omega)]; exact a1, by rw [hI k (by omega) (by omega)]; exact a2, fun c hc => by rw [hI _ (by omega) (by omega)]; exact a3 c hc, fun c hc => by rw [hI _ (by omega) (by omega)]; exact a4 c hc, fun i hi => LRel_of (hI _ (by omega) (by omega)) (fun _ _ _ => rfl) (a5 i hi)⟩
/-! a block comes to a cell -/
theorem bring_at {M : Nat → Nat → Int} (hz : ZV M) {b : Nat} (hb : b < 480) {c : Int} (hc : 0 ≤ c ∧ c < 576) (p : Nat) : m_bring M b c 111 p = if p = 978 + c.toNat then (b : Int) else if p = 498 + b then c else if (M 111 (498 + b) ≠ -1 ∧ M 111 (498 + b) ≠ c) ∧ p = 5 then M 111 5 + 1 else if (M 111 (498 + b) ≠ -1 ∧ M 111 (498 + b) ≠ c) ∧ p = 978 + (M 111 (498 + b)).toNat then -1 else M 111 p := by
  have hw := (ZV_P hz).1 b hb
  have e1 : (978 + c).toNat = 978 + c.toNat := by omega
  unfold m_bring m_brg2
  rw [e1]
  by_cases hcnd : M 111 (498 + b) ≠ -1 ∧ M 111 (498 + b) ≠ c
  · have e2 : (978 + M 111 (498 + b)).toNat = 978 + (M 111 (498 + b)).toNat := by omega
    rw [if_pos hcnd]
    unfold m_brg1
    rw [e2]
    simp only [u2_if, true_and, hcnd, not_false_eq_true, ne_eq, and_self]
    have e3 : ¬ (5 = 978 + (M 111 (498 + b)).toNat) := by omega
    rw [if_neg e3]
  · rw [if_neg hcnd]
    simp only [u2_if, true_and, hcnd, false_and, if_false]
/-- the object places a block -/
theorem place_at {I : Nat → Nat → Int} {k b : Nat} (hb : b < 480) {c v : Int} (hc : 0 ≤ c ∧ c < 576) (hw : -1 ≤ I (k + 4) b ∧ I (k + 4) b < 576) (x y : Nat) : f_place I k b c v x y = if x = k + 3 ∧ y = b then v else if x = k + 4 ∧ y = b then c else if x = k + 5 ∧ y = c.toNat then (b : Int) else if (I (k + 4) b ≠ -1 ∧ I (k + 4) b ≠ c) ∧ x = k ∧ y = 7 then I k 7 + 1 else if (I (k + 4) b ≠ -1 ∧ I (k + 4) b ≠ c) ∧ x = k + 5 ∧ y = (I (k + 4) b).toNat then -1 else I x y := by
  unfold f_place
  rw [Int.toNat_natCast, if_pos ⟨by omega, hc⟩]
  by_cases hcnd : I (k + 4) b ≠ -1 ∧ I (k + 4) b ≠ c
  · rw [if_pos ⟨by omega, hcnd.2⟩]
    unfold f_lay f_leave
    rw [Int.toNat_natCast]
    simp only [u2_if, true_and, hcnd, not_false_eq_true, ne_eq, and_self]
    have e3 : ¬ (k = k + 5 ∧ 7 = (I (k + 4) b).toNat) := by omega
    rw [if_neg e3]
  · rw [if_neg (fun q => hcnd ⟨by omega, q.2⟩)]
    unfold f_lay
    rw [Int.toNat_natCast]
    simp only [u2_if, hcnd, false_and, if_false]
