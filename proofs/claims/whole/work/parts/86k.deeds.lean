/-! deeds on a state: placed, lost, failed, healed -/
theorem place_rel {I M : Nat → Nat → Int} {k b : Nat} {c v : Int} {z' : Nat → Int} (hS : SRel I k (M 111)) (hW : WF (M 111)) (hz : ZV M) (hb : b < 480) (hc : 0 ≤ c ∧ c < 576) (hfree : M 111 (978 + c.toNat) = -1 ∨ M 111 (978 + c.toNat) = (b : Int)) (hcb : c = (b : Int) ∨ 480 ≤ c) (hv : v ≠ -1) (he : ∀ p, p < 1554 → z' p = if p = 18 + b then v else m_bring M b c 111 p) : SRel (f_place I k b c v) k z' ∧ WF z' := by
  obtain ⟨a1, a2, a3, a4, a5, a6, a7, a8⟩ := hS
  have z3 := hz.1
  have hw := (ZV_P hz).1 b hb
  have h7 := a7 b hb
  have hwI : -1 ≤ I (k + 4) b ∧ I (k + 4) b < 576 := by omega
  have hbr := bring_at hz hb hc
  have low : ∀ p, p < 18 → p ≠ 5 → z' p = M 111 p := fun p hp h5 => by
    rw [he p (by omega), if_neg (by omega), hbr, if_neg (by omega), if_neg (by omega), if_neg (by omega), if_neg (by omega)]
  have e5 : z' 5 = if M 111 (498 + b) ≠ -1 ∧ M 111 (498 + b) ≠ c then M 111 5 + 1 else M 111 5 := by
    rw [he 5 (by omega), if_neg (by omega), hbr, if_neg (by omega), if_neg (by omega)]
    by_cases h9 : M 111 (498 + b) ≠ -1 ∧ M 111 (498 + b) ≠ c
    · rw [if_pos ⟨h9, rfl⟩, if_pos h9]
    · rw [if_neg (fun q => h9 q.1), if_neg (fun q => h9 q.1), if_neg h9]
  have eV : ∀ x, x < 480 → z' (18 + x) = if x = b then v else M 111 (18 + x) := fun x hx => by
    rw [he _ (by omega)]
    by_cases hxb : x = b
    · rw [if_pos (by omega), if_pos hxb]
    · rw [if_neg (by omega), if_neg hxb, hbr, if_neg (by omega), if_neg (by omega), if_neg (by omega), if_neg (by omega)]
  have eP : ∀ x, x < 480 → z' (498 + x) = if x = b then c else M 111 (498 + x) := fun x hx => by
    rw [he _ (by omega), if_neg (by omega), hbr, if_neg (by omega)]
    by_cases hxb : x = b
    · rw [if_pos (by omega), if_pos hxb]
    · rw [if_neg (by omega), if_neg hxb, if_neg (by omega), if_neg (by omega)]
  have eH : ∀ x, x < 576 → z' (978 + x) = if x = c.toNat then (b : Int) else if (M 111 (498 + b) ≠ -1 ∧ M 111 (498 + b) ≠ c) ∧ x = (M 111 (498 + b)).toNat then -1 else M 111 (978 + x) := fun x hx => by
    rw [he _ (by omega), if_neg (by omega), hbr]
    by_cases hxc : x = c.toNat
    · rw [if_pos (by omega), if_pos hxc]
    · rw [if_neg (by omega), if_neg hxc, if_neg (by omega), if_neg (by omega)]
      by_cases h9 : (M 111 (498 + b) ≠ -1 ∧ M 111 (498 + b) ≠ c) ∧ x = (M 111 (498 + b)).toNat
      · rw [if_pos ⟨h9.1, by omega⟩, if_pos h9]
      · rw [if_neg (fun q => h9 ⟨q.1, by omega⟩), if_neg h9]
  have hpl := fun x y => place_at (I := I) (k := k) (v := v) hb hc hwI x y
  constructor
  · refine ⟨?_, ?_, ?_, fun j hj => ?_, fun j hj => ?_, fun x hx => ?_, fun x hx => ?_, fun x hx => ?_⟩
    · rw [low 3 (by decide) (by decide), hpl, if_neg (by omega), if_neg (by omega), if_neg (by omega), if_neg (by omega), if_neg (by omega)]
      exact a1
    · rw [low 4 (by decide) (by decide), hpl, if_neg (by omega), if_neg (by omega), if_neg (by omega), if_neg (by omega), if_neg (by omega)]
      exact a2
    · rw [e5, hpl, if_neg (by omega), if_neg (by omega), if_neg (by omega)]
      rw [h7]
      by_cases h9 : M 111 (498 + b) ≠ -1 ∧ M 111 (498 + b) ≠ c
      · rw [if_pos ⟨h9, rfl, rfl⟩, if_pos h9, a3]
      · rw [if_neg (fun q => h9 q.1), if_neg (fun q => h9 q.1), if_neg h9]
        exact a3
    · rw [low 3 (by decide) (by decide)] at hj
      rw [low _ (by omega) (by omega), hpl, if_neg (by omega), if_neg (by omega), if_neg (by omega), if_neg (by omega), if_neg (by omega)]
      exact a4 j hj
    · rw [low _ (by omega) (by omega), hpl, if_neg (by omega), if_neg (by omega), if_neg (by omega), if_neg (by omega), if_neg (by omega)]
      exact a5 j hj
    · rw [eV x hx, hpl]
      by_cases hxb : x = b
      · rw [if_pos ⟨rfl, hxb⟩, if_pos hxb]
      · rw [if_neg (by omega), if_neg hxb, if_neg (by omega), if_neg (by omega), if_neg (by omega), if_neg (by omega)]
        exact a6 x hx
    · rw [eP x hx, hpl, if_neg (by omega)]
      by_cases hxb : x = b
      · rw [if_pos ⟨rfl, hxb⟩, if_pos hxb]
      · rw [if_neg (by omega), if_neg hxb, if_neg (by omega), if_neg (by omega), if_neg (by omega)]
        exact a7 x hx
    · rw [eH x hx, hpl, if_neg (by omega), if_neg (by omega)]
      by_cases hxc : x = c.toNat
      · rw [if_pos ⟨rfl, hxc⟩, if_pos hxc]
      · rw [if_neg (fun q => hxc q.2), if_neg hxc, if_neg (by omega), h7]
        by_cases h9 : (M 111 (498 + b) ≠ -1 ∧ M 111 (498 + b) ≠ c) ∧ x = (M 111 (498 + b)).toNat
        · rw [if_pos ⟨h9.1, rfl, h9.2⟩, if_pos h9]
        · rw [if_neg (fun q => h9 ⟨q.1, q.2.2⟩), if_neg h9]
          exact a8 x hx
  · obtain ⟨h1, h2⟩ := WF_iff.mp hW
    obtain ⟨r1, r2⟩ := ZV_P hz
    exact WF_iff.mpr ⟨WW_place r1 r2 hb hc hfree hcb hv eV eP eH h1, by rw [low 0 (by decide) (by decide)]; exact h2⟩
/-! a block is lost -/
theorem lose_at {M : Nat → Nat → Int} {b : Nat} (hw : 0 ≤ M 111 (498 + b)) (p : Nat) : m_lose M b 111 p = if p = 18 + b then -1 else if p = 498 + b then -1 else if p = 978 + (M 111 (498 + b)).toNat then -1 else M 111 p := by
  have e2 : (978 + M 111 (498 + b)).toNat = 978 + (M 111 (498 + b)).toNat := by omega
  unfold m_lose
  rw [e2]
  simp only [u2_if, true_and]
theorem forget_at {I : Nat → Nat → Int} {k b : Nat} (hb : b < 480) (hw : 0 ≤ I (k + 4) b ∧ I (k + 4) b < 576) (x y : Nat) : f_forget I k b x y = if x = k + 3 ∧ y = b then -1 else if x = k + 4 ∧ y = b then -1 else if x = k + 5 ∧ y = (I (k + 4) b).toNat then -1 else I x y := by
  unfold f_forget
  rw [Int.toNat_natCast, if_pos ⟨by omega, hw.1, hw.2⟩]
  simp only [u2_if]
theorem forget_0 {I : Nat → Nat → Int} {k b : Nat} (hw : I (k + 4) b = -1) : f_forget I k b = I := by
  unfold f_forget
  rw [Int.toNat_natCast, if_neg (by omega)]
theorem lose_rel {I M : Nat → Nat → Int} {k b : Nat} {z' : Nat → Int} (hS : SRel I k (M 111)) (hW : WF (M 111)) (hz : ZV M) (hb : b < 480) (hw0 : M 111 (498 + b) ≠ -1) (he : ∀ p, p < 1554 → z' p = m_lose M b 111 p) : SRel (f_forget I k b) k z' ∧ WF z' := by
  obtain ⟨a1, a2, a3, a4, a5, a6, a7, a8⟩ := hS
  have z3 := hz.1
  have hw := (ZV_P hz).1 b hb
  have h7 := a7 b hb
  have hbr := lose_at (M := M) (b := b) (by omega)
  have hpl := forget_at (I := I) (k := k) hb (by omega)
  have low : ∀ p, p < 18 → z' p = M 111 p := fun p hp => by
    rw [he p (by omega), hbr, if_neg (by omega), if_neg (by omega), if_neg (by omega)]
  have eV : ∀ x, x < 480 → z' (18 + x) = if x = b then -1 else M 111 (18 + x) := fun x hx => by
    rw [he _ (by omega), hbr]
    by_cases hxb : x = b
    · rw [if_pos (by omega), if_pos hxb]
    · rw [if_neg (by omega), if_neg hxb, if_neg (by omega), if_neg (by omega)]
  have eP : ∀ x, x < 480 → z' (498 + x) = if x = b then -1 else M 111 (498 + x) := fun x hx => by
    rw [he _ (by omega), hbr, if_neg (by omega)]
    by_cases hxb : x = b
    · rw [if_pos (by omega), if_pos hxb]
    · rw [if_neg (by omega), if_neg hxb, if_neg (by omega)]
  have eH : ∀ x, x < 576 → z' (978 + x) = if x = (M 111 (498 + b)).toNat then -1 else M 111 (978 + x) := fun x hx => by
    rw [he _ (by omega), hbr, if_neg (by omega), if_neg (by omega)]
    by_cases hxb : x = (M 111 (498 + b)).toNat
    · rw [if_pos (by omega), if_pos hxb]
    · rw [if_neg (by omega), if_neg hxb]
  constructor
  · refine ⟨?_, ?_, ?_, fun j hj => ?_, fun j hj => ?_, fun x hx => ?_, fun x hx => ?_, fun x hx => ?_⟩
    · rw [low 3 (by decide), hpl, if_neg (by omega), if_neg (by omega), if_neg (by omega)]
      exact a1
    · rw [low 4 (by decide), hpl, if_neg (by omega), if_neg (by omega), if_neg (by omega)]
      exact a2
    · rw [low 5 (by decide), hpl, if_neg (by omega), if_neg (by omega), if_neg (by omega)]
      exact a3
    · rw [low 3 (by decide)] at hj
      rw [low _ (by omega), hpl, if_neg (by omega), if_neg (by omega), if_neg (by omega)]
      exact a4 j hj
    · rw [low _ (by omega), hpl, if_neg (by omega), if_neg (by omega), if_neg (by omega)]
      exact a5 j hj
    · rw [eV x hx, hpl]
      by_cases hxb : x = b
      · rw [if_pos ⟨rfl, hxb⟩, if_pos hxb]
      · rw [if_neg (by omega), if_neg hxb, if_neg (by omega), if_neg (by omega)]
        exact a6 x hx
    · rw [eP x hx, hpl, if_neg (by omega)]
      by_cases hxb : x = b
      · rw [if_pos ⟨rfl, hxb⟩, if_pos hxb]
      · rw [if_neg (by omega), if_neg hxb, if_neg (by omega)]
        exact a7 x hx
    · rw [eH x hx, hpl, if_neg (by omega), if_neg (by omega), h7]
      by_cases hxb : x = (M 111 (498 + b)).toNat
      · rw [if_pos ⟨rfl, hxb⟩, if_pos hxb]
      · rw [if_neg (fun q => hxb q.2), if_neg hxb]
        exact a8 x hx
  · obtain ⟨h1, h2⟩ := WF_iff.mp hW
    obtain ⟨r1, r2⟩ := ZV_P hz
    exact WF_iff.mpr ⟨WW_lose r1 r2 hb hw0 eV eP eH h1, by rw [low 0 (by decide)]; exact h2⟩
/-! which spot a cell is -/
theorem fnd_spec (f : Nat → Int) (x : Int) : ∀ (m i : Nat), (fnd f x m i = -1 ∧ ∀ q, i ≤ q → q < i + m → f q ≠ x) ∨ ∃ q : Nat, i ≤ q ∧ q < i + m ∧ f q = x ∧ fnd f x m i = (q : Int) ∧ ∀ r, i ≤ r → r < q → f r ≠ x
  | 0, i => Or.inl ⟨rfl, fun q h1 h2 => by omega⟩
  | m + 1, i => by
    unfold fnd
    by_cases h : f i = x
    · rw [if_pos h]
      exact Or.inr ⟨i, by omega, by omega, h, rfl, fun r h1 h2 => by omega⟩
    · rw [if_neg h]
      rcases fnd_spec f x m (i + 1) with ⟨h1, h2⟩ | ⟨q, q1, q2, q3, q4, q5⟩
      · exact Or.inl ⟨h1, fun q q1 q2 => by
          by_cases hq : q = i
          · rw [hq]; exact h
          · exact h2 q (by omega) (by omega)⟩
      · exact Or.inr ⟨q, by omega, by omega, q3, q4, fun r r1 r2 => by
          by_cases hq : r = i
          · rw [hq]; exact h
          · exact q5 r (by omega) r2⟩
theorem spotAt_eq {I M : Nat → Nat → Int} {k : Nat} (hS : SRel I k (M 111)) (hz : ZV M) (x : Int) : f_spotAt I k x = m_spotAt M x := by
  obtain ⟨a1, a2, a3, a4, -⟩ := hS
  have z3 := hz.1
  have dis := hz.2.2.2.1
  unfold f_spotAt
  rcases fnd_spec (I (k + 1)) x (I k 5).toNat 0 with ⟨h1, h2⟩ | ⟨q, q1, q2, q3, q4, q5⟩
  · rw [h1]
    rcases m_spotAt_spec hz x with ⟨g1, g2⟩ | ⟨r, r1, r2, r3⟩
    · rw [g1]
    · exact absurd ((a4 r r1).trans r2) (h2 r (by omega) (by omega))
  · rw [q4]
    have hq := a4 q (by omega)
    rcases m_spotAt_spec hz x with ⟨g1, g2⟩ | ⟨r, r1, r2, r3⟩
    · exact absurd (hq.symm.trans q3) (g2 q (by omega))
    · have := dis q r (by omega) r1 (by rw [r2, ← hq, q3])
      rw [r3, this]
theorem can_eq {I M : Nat → Nat → Int} {k : Nat} (hS : SRel I k (M 111)) (hz : ZV M) {x : Int} (hx : 0 ≤ x ∧ x < 576) : f_can I k x = m_can M x := by
  unfold f_can m_can
  rw [spotAt_eq hS hz, hS.1]
  by_cases h : M 111 3 < 12 ∧ m_spotAt M x = -1
  · rw [if_pos ⟨hx, h⟩, if_pos h]
  · rw [if_neg (fun q => h q.2), if_neg h]
/-! a cell fails -/
theorem add0_at {I : Nat → Nat → Int} {k : Nat} {x : Int} (a y : Nat) : f_add0 I k x a y = if a = k ∧ y = 5 then I k 5 + 1 else if a = k + 1 ∧ y = (I k 5).toNat then x else I a y := by
  unfold f_add0
  simp only [u2_if]
  have e : ¬ (k = k + 1 ∧ 5 = (I k 5).toNat) := by omega
  rw [if_neg e]
theorem add_rel {I M : Nat → Nat → Int} {k c : Nat} (hS : SRel I k (M 111)) (hW : WF (M 111)) (hz : ZV M) (hc : c < 576) (hcan : ¬ m_can M c = 0) : SRel (f_addSpot I k c) k (m_failIt M c 111) ∧ WF (m_failIt M c 111) := by
  obtain ⟨c1, c2⟩ := m_can_of hcan
  have z3 := hz.1
  have hf := fail1_at hz (c := c)
  have hS0 := hS
  obtain ⟨a1, a2, a3, a4, a5, a6, a7, a8⟩ := hS
  have hz1 : ZV (m_fail1 M c) := fail1_ZV hz hc c1 c2
  have low : ∀ p, p ≠ 3 → p ≠ 6 + (M 111 3).toNat → m_fail1 M c 111 p = M 111 p := fun p h1 h2 => by rw [hf, if_neg h1, if_neg h2]
  have s0 : SRel (f_add0 I k c) k (m_fail1 M c 111) := by
    refine ⟨?_, ?_, ?_, fun j hj => ?_, fun j hj => ?_, fun x hx => ?_, fun x hx => ?_, fun x hx => ?_⟩
    · rw [hf, if_pos rfl, add0_at, if_pos ⟨rfl, rfl⟩, a1]
    · rw [low 4 (by decide) (by omega), add0_at, if_neg (by omega), if_neg (by omega)]; exact a2
    · rw [low 5 (by decide) (by omega), add0_at, if_neg (by omega), if_neg (by omega)]; exact a3
    · rw [hf, if_pos rfl] at hj
      rw [add0_at, if_neg (c := k + 1 = k ∧ j = 5) (by omega), hf, if_neg (c := 6 + j = 3) (by omega), a1]
      by_cases h9 : j = (M 111 3).toNat
      · rw [if_pos ⟨rfl, h9⟩, if_pos (by omega)]
      · rw [if_neg (fun q => h9 q.2), if_neg (by omega)]
        exact a4 j (by omega)
    · rw [low j (by omega) (by omega), add0_at, if_neg (by omega), if_neg (by omega)]; exact a5 j hj
    · rw [low _ (by omega) (by omega), add0_at, if_neg (by omega), if_neg (by omega)]; exact a6 x hx
    · rw [low _ (by omega) (by omega), add0_at, if_neg (by omega), if_neg (by omega)]; exact a7 x hx
    · rw [low _ (by omega) (by omega), add0_at, if_neg (by omega), if_neg (by omega)]; exact a8 x hx
  have w0 : WF (m_fail1 M c 111) := by
    obtain ⟨h1, h2⟩ := WF_iff.mp hW
    obtain ⟨r1, r2⟩ := ZV_P hz
    exact WF_iff.mpr ⟨WW_of r1 r2 (fun b hb => low _ (by omega) (by omega)) (fun b hb => low _ (by omega) (by omega)) (fun b hb => low _ (by omega) (by omega)) h1, by rw [low 0 (by decide) (by omega)]; exact h2⟩
  have eI : ¬ f_can I k c = 0 := by rw [can_eq hS0 hz (by omega)]; exact hcan
  have h8 := a8 c hc
  have e8 : m_fail1 M c 111 (978 + c) = M 111 (978 + c) := low _ (by omega) (by omega)
  unfold f_addSpot m_failIt
  rw [if_neg eI, Int.toNat_natCast, h8, e8]
  by_cases ht : M 111 (978 + c) = -1
  · rw [if_pos ht, if_pos ht]
    exact ⟨s0, w0⟩
  · rw [if_neg ht, if_neg ht]
    have r8 := (ZV_P hz).2 c hc
    have hb : (M 111 (978 + c)).toNat < 480 := by omega
    have hplc : m_fail1 M c 111 (498 + (M 111 (978 + c)).toNat) ≠ -1 := by
      have := (WF_iff.mp w0).1.2.1 c hc (by dsimp only; rw [e8]; exact ht)
      dsimp only at this
      rw [e8] at this
      omega
    have hl := lose_rel (z' := m_lose (m_fail1 M c) (M 111 (978 + c)).toNat 111) s0 w0 hz1 hb hplc (fun _ _ => rfl)
    rw [show (((M 111 (978 + c)).toNat : Nat) : Int) = M 111 (978 + c) by omega] at hl
    unfold f_addL m_fail2
    obtain ⟨⟨b1, b2, b3, b4, b5, b6, b7, b8⟩, bw⟩ := hl
    generalize f_forget (f_add0 I k c) k (M 111 (978 + c)) = I1 at b1 b2 b3 b4 b5 b6 b7 b8
    have hzl : ZV (m_lose (m_fail1 M c) (M 111 (978 + c)).toNat) := lose_ZV hz1 hb
    generalize m_lose (m_fail1 M c) (M 111 (978 + c)).toNat = M1 at b1 b2 b3 b4 b5 b6 b7 b8 bw hzl
    have m4 : ∀ p, p ≠ 4 → u2 M1 111 4 (M1 111 4 + 1) 111 p = M1 111 p := fun p hp => u2_nj hp
    constructor
    · refine ⟨?_, ?_, ?_, fun j hj => ?_, fun j hj => ?_, fun x hx => ?_, fun x hx => ?_, fun x hx => ?_⟩
      · rw [m4 3 (by decide), u2_nj (by decide)]; exact b1
      · rw [u2_at, u2_at, b2]
      · rw [m4 5 (by decide), u2_nj (by decide)]; exact b3
      · rw [m4 3 (by decide)] at hj
        rw [m4 _ (by omega), u2_ne (by omega)]; exact b4 j hj
      · rw [m4 _ (by omega), u2_ne (by omega)]; exact b5 j hj
      · rw [m4 _ (by omega), u2_ne (by omega)]; exact b6 x hx
      · rw [m4 _ (by omega), u2_ne (by omega)]; exact b7 x hx
      · rw [m4 _ (by omega), u2_ne (by omega)]; exact b8 x hx
    · obtain ⟨h1, h2⟩ := WF_iff.mp bw
      obtain ⟨r1, r2⟩ := ZV_P hzl
      exact WF_iff.mpr ⟨WW_of r1 r2 (fun b hb => m4 _ (by omega)) (fun b hb => m4 _ (by omega)) (fun b hb => m4 _ (by omega)) h1, by rw [m4 0 (by decide)]; exact h2⟩
/-! a spot is good again -/
theorem shl_at (k : Nat) : ∀ (m i : Nat) (I : Nat → Nat → Int) (p : Nat), f_shl I k m i (k + 1) p = if i ≤ p ∧ p < i + m then I (k + 1) (p + 1) else I (k + 1) p
  | 0, i, I, p => by
    unfold f_shl
    rw [if_neg (by omega)]
  | m + 1, i, I, p => by
    unfold f_shl
    rw [shl_at k m (i + 1)]
    by_cases hp : p = i
    · subst hp
      rw [if_neg (by omega), if_pos (by omega), u2_at]
    · rw [u2_nj hp]
      by_cases h9 : i + 1 ≤ p ∧ p < i + 1 + m
      · rw [if_pos h9, if_pos (by omega), u2_nj (by omega)]
      · rw [if_neg h9, if_neg (by omega)]
theorem remove_rel {I M : Nat → Nat → Int} {k : Nat} {x : Int} (hS : SRel I k (M 111)) (hW : WF (M 111)) (hz : ZV M) (hs : ¬ m_spotAt M x = -1) : SRel (f_removeSpot I k x) k (m_healIt M x 111) ∧ WF (m_healIt M x 111) := by
  have hh := healIt_at hz hs
  have es := spotAt_eq hS hz x
  obtain ⟨a1, a2, a3, a4, a5, a6, a7, a8⟩ := hS
  have z3 := hz.1
  have hsr : 0 ≤ m_spotAt M x ∧ m_spotAt M x < M 111 3 := by
    rcases m_spotAt_spec hz x with ⟨g1, g2⟩ | ⟨r, r1, r2, r3⟩
    · exact absurd g1 hs
    · omega
  have low : ∀ p, p ≠ 3 → (p < 6 ∨ 18 ≤ p) → m_healIt M x 111 p = M 111 p := fun p h1 h2 => by
    rw [hh, if_neg (by omega), if_neg h1, if_neg (by omega)]
  have h3 : m_healIt M x 111 3 = M 111 3 - 1 := by rw [hh, if_neg (by omega), if_pos rfl]
  unfold f_removeSpot
  rw [es, if_neg hs, a1]
  have n1 : ∀ a, a ≠ k → a ≠ k + 1 → f_less (f_shl I k ((M 111 3).toNat - 1 - (m_spotAt M x).toNat) (m_spotAt M x).toNat) k a = I a := fun a h1 h2 => by
    unfold f_less
    rw [u2_ne h1, f_shl_ne _ _ _ _ _ h2]
  have nk : ∀ y, f_less (f_shl I k ((M 111 3).toNat - 1 - (m_spotAt M x).toNat) (m_spotAt M x).toNat) k k y = if y = 5 then M 111 3 - 1 else I k y := fun y => by
    unfold f_less
    rw [u2k, f_shl_ne _ _ _ _ _ (by omega), a1]
  have n2 : ∀ y, f_less (f_shl I k ((M 111 3).toNat - 1 - (m_spotAt M x).toNat) (m_spotAt M x).toNat) k (k + 1) y = if (m_spotAt M x).toNat ≤ y ∧ y < (m_spotAt M x).toNat + ((M 111 3).toNat - 1 - (m_spotAt M x).toNat) then I (k + 1) (y + 1) else I (k + 1) y := fun y => by
    unfold f_less
    rw [u2_ne (by omega), shl_at]
  constructor
  · refine ⟨?_, ?_, ?_, fun j hj => ?_, fun j hj => ?_, fun x hx => ?_, fun x hx => ?_, fun x hx => ?_⟩
    · rw [h3, nk, if_pos rfl]
    · rw [low 4 (by decide) (by decide), nk, if_neg (by decide)]; exact a2
    · rw [low 5 (by decide) (by decide), nk, if_neg (by decide)]; exact a3
    · rw [h3] at hj
      rw [n2, hh, if_neg (c := 6 + j = 6 + (M 111 3 - 1).toNat) (by omega), if_neg (c := 6 + j = 3) (by omega)]
      by_cases h9 : (m_spotAt M x).toNat ≤ j ∧ j < (m_spotAt M x).toNat + ((M 111 3).toNat - 1 - (m_spotAt M x).toNat)
      · rw [if_pos h9, if_pos (by omega)]
        exact a4 (j + 1) (by omega)
      · rw [if_neg h9, if_neg (by omega)]
        exact a4 j (by omega)
    · rw [low j (by omega) (by omega), n1 _ (by omega) (by omega)]; exact a5 j hj
    · rw [low _ (by omega) (by omega), n1 _ (by omega) (by omega)]; exact a6 x hx
    · rw [low _ (by omega) (by omega), n1 _ (by omega) (by omega)]; exact a7 x hx
    · rw [low _ (by omega) (by omega), n1 _ (by omega) (by omega)]; exact a8 x hx
  · obtain ⟨h1, h2⟩ := WF_iff.mp hW
    obtain ⟨r1, r2⟩ := ZV_P hz
    exact WF_iff.mpr ⟨WW_of r1 r2 (fun b hb => low _ (by omega) (by omega)) (fun b hb => low _ (by omega) (by omega)) (fun b hb => low _ (by omega) (by omega)) h1, by rw [low 0 (by decide) (by decide)]; exact h2⟩
