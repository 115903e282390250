/-! an order, and a text of orders -/
/-- in the second number of an order, told so far -/
def MID (I0 I : Nat → Nat → Int) (h s t n : Int) : Prop := (∀ a, a ≠ 36 → I a = I0 a) ∧ I 36 3 = I0 36 3 ∧ I 36 4 = I0 36 4 ∧ I 36 5 = h ∧ I 36 6 = s ∧ I 36 7 = t ∧ I 36 8 = n
theorem ro_sim {I M : Nat → Nat → Int} {i m o : Nat} (hT : TXR I M) (hi : M 110 18 = (i : Int)) (hw : M 110 19 = -1) (ho : M 110 17 = (o : Int)) (hm : (i : Int) + m = M 110 6) (h5 : I 36 5 = 0) (h6 : I 36 6 = 0) (h8 : I 36 8 = -1) :
    (∃ w : Nat, m_ro M 110 19 = (w : Int) ∧ ERV (f_scL 36 m i I) w) ∨ (m_ro M 110 19 = -1 ∧ ∃ (i' m' : Nat) (I' : Nat → Nat → Int), m_ro M 110 18 = (i' : Int) ∧ (i' : Int) + m' = M 110 6 ∧ f_scL 36 m i I = f_scL 36 m' i' I' ∧ MID I I' (m_ro M 123 (3 * o)) 1 (m_ro M 123 (3 * o + 1)) (m_ro M 123 (3 * o + 2)) ∧ m_ro M 123 (3 * o + 2) ≠ -1 ∧ ∀ d, 0 ≤ d → d ≤ 9 → m_let (m_ro M) = 48 + d → I' 36 8 = 0 ∨ 24 ≤ I' 36 8 * 10 + d) := by
  have et : (3 * M 110 17).toNat = 3 * o := by omega
  unfold m_ro
  rw [et]
  generalize 3 * o = t
  -- the sign
  have st1 : ∃ (i1 m1 : Nat) (I1 : Nat → Nat → Int) (hh : Int), m_ro1 M t 110 18 = (i1 : Int) ∧ m_ro1 M t 110 19 = -1 ∧ m_ro1 M t 110 6 = M 110 6 ∧ m_ro1 M t 114 = M 114 ∧ (i1 : Int) + m1 = M 110 6 ∧ f_scL 36 m i I = f_scL 36 m1 i1 I1 ∧ I1 = u2 I 36 5 hh ∧ m_ro1 M t 123 t = hh ∧ (I1 36 5 = 1 ∨ m_let (m_ro1 M t) ≠ 45) := by
    unfold m_ro1
    rw [let_123]
    have hl := let_of hi
    by_cases hc : m_let M = 45
    · rw [if_pos hc]
      have hlt : (i : Int) < M 110 6 := by
        by_cases h9 : (i : Int) < M 110 6
        · exact h9
        · rw [if_neg h9] at hl; omega
      rw [if_pos hlt] at hl
      have t1 : f_take I 36 (I 37 i) = (1, u2 I 36 5 1) := by
        rw [hT.2 i hlt, ← hl, hc]
        unfold f_take
        rw [if_neg (by decide), if_pos rfl]
        unfold f_minus
        rw [if_pos ⟨h5, h6, h8⟩]
      refine ⟨i + 1, m - 1, u2 I 36 5 1, 1, ?_, ?_, ?_, ?_, by omega, t_acc (by omega) t1, rfl, ?_, Or.inl u2_at⟩
      · rw [m_nx_at, if_pos rfl, u123_110, u123_110, hi]
        omega
      · rw [m_nx_at, if_neg (by decide), u123_110, u123_110]
        exact hw
      · rw [m_nx_at, if_neg (by decide), u123_110, u123_110]
      · unfold m_nx
        rw [u2_ne (by decide), u2_ne (by decide), u2_ne (by decide)]
      · unfold m_nx
        rw [u2_ne (by decide), u2_at]
    · rw [if_neg hc]
      refine ⟨i, m, u2 I 36 5 0, 0, by rw [u123_110]; exact hi, by rw [u123_110]; exact hw, by rw [u123_110], by rw [u2_ne (by decide)], hm, ?_, rfl, u2_at, Or.inr (by rw [let_123]; exact hc)⟩
      rw [u2_0 h5]
  obtain ⟨i1, m1, I1, hh, a1, a2, a3, a4, a5, a6, a7, a8, a9⟩ := st1
  unfold m_roT
  generalize m_ro1 M t = M1 at a1 a2 a3 a4 a8 a9 ⊢
  have hT1 : TXR I1 M1 := by rw [a7]; exact TXR_M a3 a4 (TXR_u (by decide) hT)
  have b8 : I1 36 8 = -1 := by rw [a7, u2_nj (by decide)]; exact h8
  have b6 : I1 36 6 = 0 := by rw [a7, u2_nj (by decide)]; exact h6
  have b5 : I1 36 5 = hh := by rw [a7, u2_at]
  -- the track
  have wrong : ∀ (X : Nat → Nat → Int) (t : Nat), X 110 19 ≠ -1 → m_ro5 (m_ro4 (m_ro3 X) t) 110 19 = X 110 19 := fun X t hX => by
    unfold m_ro5 m_ro4 m_ro3
    rw [want_w hX, num_w hX, u2_nj (by decide), u123_110]
  have e119 : ∀ (X : Nat → Nat → Int) (t : Nat), m_ro2 X t 110 = (m_num X).2 110 := fun X t => by
    unfold m_ro2
    exact u123_110
  rcases num_sim hT1 a1 a2 (by rw [a3]; exact a5) b8 (by
    rcases a9 with h | h
    · exact Or.inr (Or.inl h)
    · exact Or.inr (Or.inr h)) with ⟨c1, c2⟩ | ⟨c1, c2, i2, m2, c3, c4, c5, c6, c7⟩
  · left
    refine ⟨i1, ?_, by rw [a6]; exact c2⟩
    have e := e119 M1 t
    rw [wrong _ _ (by rw [e, c1]; omega), e]
    exact c1
  obtain ⟨n1, n2, n3⟩ := num_rows (M := M1)
  have eM2 : m_ro2 M1 t = u2 (m_num M1).2 123 (t + 1) (m_num M1).1 := rfl
  generalize hM2 : m_ro2 M1 t = M2
  rw [hM2] at eM2
  have d18 : M2 110 18 = (i2 : Int) := by rw [eM2, u123_110]; exact c3
  have d19 : M2 110 19 = -1 := by rw [eM2, u123_110]; exact c1
  have d6 : M2 110 6 = M 110 6 := by rw [eM2, u123_110, n1, a3]
  have d114 : M2 114 = M 114 := by rw [eM2, u2_ne (by decide), n2, a4]
  have dlet : m_let M2 = m_let (m_num M1).2 := by rw [eM2, let_123]
  have d123 : M2 123 t = hh ∧ M2 123 (t + 1) = (m_num M1).1 := by
    rw [eM2, u2_nj (by omega), u2_at, num_123]
    exact ⟨a8, rfl⟩
  generalize hv1 : (m_num M1).1 = v1 at c2 c6 c7 d123
  rw [a3] at c4
  generalize hI2 : u2 I1 36 8 v1 = I2 at c6
  have f8 : I2 36 8 = v1 := by rw [← hI2, u2_at]
  have f6 : I2 36 6 = 0 := by rw [← hI2, u2_nj (by decide)]; exact b6
  have f5 : I2 36 5 = hh := by rw [← hI2, u2_nj (by decide)]; exact b5
  have hT2 : TXR I2 M2 := by rw [← hI2]; exact TXR_M (by rw [d6, a3]) (by rw [d114, a4]) (TXR_u (by decide) hT1)
  -- the comma
  have hl2 := let_of d18
  obtain ⟨w1, w2, w3, w4, w5⟩ := want_at9 (s := (if m_let M2 = 44 then 1 else 0)) d19
  have eM3 : m_ro3 M2 = m_want M2 (if m_let M2 = 44 then 1 else 0) := rfl
  have e3123 : m_ro3 M2 123 = M2 123 := want_123
  rcases Classical.em (¬ m_let M2 = 44) with h44 | h44n
  · left
    refine ⟨i2, ?_, ?_⟩
    · have e3 : m_ro3 M2 110 19 = (i2 : Int) := by
        rw [eM3, w2, if_neg h44, if_pos rfl, d18]
      unfold m_ro5 m_ro4
      rw [num_w (by rw [e3]; omega), u2_nj (by decide), u123_110]
      exact e3
    · rw [a6, c6]
      refine t_rej hT2.1 (by rw [d6]; exact c4) (fun _ => Or.inl f6) (fun h0 => ?_)
      have hlt : (i2 : Int) < M2 110 6 := by omega
      rw [if_pos hlt] at hl2
      rw [hT2.2 i2 hlt, ← hl2]
      refine take_no (fun q => absurd q h44) (fun _ => Or.inr (Or.inr (by omega))) (fun _ => Or.inl f6) (fun q1 q2 => ⟨by omega, ?_⟩)
      rw [f8]
      exact c7 (m_let M2 - 48) (by omega) (by omega) (by rw [← dlet]; omega)
  have h44 : m_let M2 = 44 := Classical.not_not.mp h44n
  have hlt2 : (i2 : Int) < M2 110 6 := by
    by_cases h9 : (i2 : Int) < M2 110 6
    · exact h9
    · rw [if_neg h9] at hl2; omega
  rw [if_pos hlt2] at hl2
  have t3 : f_take I2 36 (I2 37 i2) = (1, f_co1 I2 36) := by
    rw [hT2.2 i2 hlt2, ← hl2, h44]
    unfold f_take
    rw [if_pos rfl]
    unfold f_comma
    rw [if_pos ⟨f6, by omega⟩]
  have s3 := t_acc (m := m2) (by omega) t3
  rw [← eM3] at w1 w2 w3 w4 w5
  rw [if_pos h44, if_neg (by decide)] at w2
  generalize hM3 : m_ro3 M2 = M3 at w1 w2 w3 w4 w5 e3123 ⊢
  have g18 : M3 110 18 = ((i2 + 1 : Nat) : Int) := by rw [w1, d18]; omega
  have co : ∀ j, f_co1 I2 36 36 j = if j = 6 then 1 else if j = 8 then -1 else if j = 7 then v1 else I2 36 j := fun j => by
    unfold f_co1
    simp only [u2_if, true_and]
    grind
  have cone : ∀ a, a ≠ 36 → f_co1 I2 36 a = I2 a := fun a ha => by
    unfold f_co1
    rw [u2_ne ha, u2_ne ha, u2_ne ha]
  have hT3 : TXR (f_co1 I2 36) M3 := ⟨by rw [co, if_neg (by decide), if_neg (by decide), if_neg (by decide), w4]; exact hT2.1, fun q hq => by rw [cone 37 (by decide), w5]; exact hT2.2 q (by omega)⟩
  generalize hI3 : f_co1 I2 36 = I3 at s3 co cone hT3
  -- the sector
  have eM4 : ∀ X, m_ro4 X t = u2 (m_num X).2 123 (t + 2) (m_num X).1 := fun _ => rfl
  obtain ⟨k1, k2, k3⟩ := num_rows (M := M3)
  have e5 : ∀ j, j ≠ 17 → m_ro5 (m_ro4 M3 t) 110 j = (m_num M3).2 110 j := fun j hj => by
    unfold m_ro5
    rw [u2_nj hj, eM4, u123_110]
  have e5r : m_ro5 (m_ro4 M3 t) 123 = m_ro4 M3 t 123 := by
    unfold m_ro5
    exact u2_ne (by decide)
  have e5l : m_let (m_ro5 (m_ro4 M3 t)) = m_let (m_num M3).2 := by
    unfold m_let
    rw [e5 18 (by decide), e5 6 (by decide)]
    have : m_ro5 (m_ro4 M3 t) 114 = (m_num M3).2 114 := by
      unfold m_ro5
      rw [u2_ne (by decide), eM4, u2_ne (by decide)]
    rw [this]
  rcases num_sim hT3 g18 w2 (m := m2 - 1) (by rw [w4, d6]; omega) (by rw [co, if_neg (by decide), if_pos rfl]) (Or.inl (by rw [co, if_pos rfl])) with ⟨p1, p2⟩ | ⟨p1, p2, i4, m4, p3, p4, p5, p6, p7⟩
  · left
    exact ⟨i2 + 1, by rw [e5 19 (by decide)]; exact p1, by rw [a6, c6, s3]; exact p2⟩
  · right
    have r4 : m_ro4 M3 t 123 t = hh ∧ m_ro4 M3 t 123 (t + 1) = v1 ∧ m_ro4 M3 t 123 (t + 2) = (m_num M3).1 := by
      rw [eM4, u2_nj (by omega), u2_nj (by omega), u2_at, num_123, e3123]
      exact ⟨d123.1, d123.2, rfl⟩
    refine ⟨by rw [e5 19 (by decide)]; exact p1, i4, m4, u2 I3 36 8 (m_num M3).1, by rw [e5 18 (by decide)]; exact p3, by rw [w4, d6] at p4; exact p4, by rw [a6, c6, s3, p6], ?_, by rw [e5r, r4.2.2]; omega, ?_⟩
    · rw [e5r, r4.1, r4.2.1, r4.2.2]
      refine ⟨fun a ha => ?_, ?_, ?_, ?_, ?_, ?_, u2_at⟩
      · rw [u2_ne ha, cone a ha, ← hI2, u2_ne ha, a7, u2_ne ha]
      · rw [u2_nj (by decide), co, if_neg (by decide), if_neg (by decide), if_neg (by decide), ← hI2, u2_nj (by decide), a7, u2_nj (by decide)]
      · rw [u2_nj (by decide), co, if_neg (by decide), if_neg (by decide), if_neg (by decide), ← hI2, u2_nj (by decide), a7, u2_nj (by decide)]
      · rw [u2_nj (by decide), co, if_neg (by decide), if_neg (by decide), if_neg (by decide)]
        exact f5
      · rw [u2_nj (by decide), co, if_pos rfl]
      · rw [u2_nj (by decide), co, if_neg (by decide), if_neg (by decide), if_pos rfl]
    · intro d d1 d2 d3
      rw [u2_at]
      exact p7 d d1 d2 (by rw [← e5l]; exact d3)
/-- the orders that are told -/
def ORD (I M : Nat → Nat → Int) : Prop := I 36 4 = M 110 17 ∧ ∀ q : Nat, (q : Int) < M 110 17 → I 38 q = 24 * M 123 (3 * q + 1) + M 123 (3 * q + 2) ∧ I 39 q = M 123 (3 * q)
theorem endSpot_ok {I0 I : Nat → Nat → Int} {h t n : Int} (hM : MID I0 I h 1 t n) (hn : n ≠ -1) {o : Nat} (ho : I0 36 4 = (o : Int)) (h15 : o < 15) : (f_endSpot I 36).1 = 1 ∧ (∀ a, a ≠ 36 → a ≠ 38 → a ≠ 39 → (f_endSpot I 36).2 a = I0 a) ∧ (f_endSpot I 36).2 36 3 = I0 36 3 ∧ (f_endSpot I 36).2 36 4 = ((o + 1 : Nat) : Int) ∧ (f_endSpot I 36).2 36 5 = 0 ∧ (f_endSpot I 36).2 36 6 = 0 ∧ (f_endSpot I 36).2 36 8 = -1 ∧ (∀ q, (f_endSpot I 36).2 38 q = if q = o then t * 24 + n else I0 38 q) ∧ ∀ q, (f_endSpot I 36).2 39 q = if q = o then h else I0 39 q := by
  obtain ⟨a1, a2, a3, a4, a5, a6, a7⟩ := hM
  unfold f_endSpot
  rw [if_neg (by omega)]
  dsimp only
  unfold f_endOrd
  rw [if_pos (by omega)]
  unfold f_eo3 f_eo2 f_eo1 f_begin
  have e4 : (I 36 4).toNat = o := by omega
  simp only [u2_if, e4, a5, a6, a7, a4]
  refine ⟨trivial, fun a h1 h2 h3 => ?_, ?_, ?_, ?_, ?_, ?_, fun q => ?_, fun q => ?_⟩
  · funext y
    simp only [u2_if]
    rw [if_neg (by omega), if_neg (by omega), if_neg (by omega), if_neg (by omega), if_neg (by omega), if_neg (by omega), a1 a h1]
  · simp
    exact a2
  · simp
    omega
  · simp
  · simp
  · simp
  · simp
    rw [a1 38 (by decide)]
  · simp
    rw [a1 39 (by decide), e4]
theorem m_ro_17 {M : Nat → Nat → Int} (hv : TV M) (ha : AV M) (hw : M 110 19 = -1) : m_ro M 110 17 = M 110 17 + 1 ∧ ∀ j, j < (3 * M 110 17).toNat → m_ro M 123 j = M 123 j := by
  obtain ⟨b1, b2, b3, b4, b5⟩ := roT_AV hv ha hw (t := (3 * M 110 17).toNat)
  exact ⟨b3, fun j hj => b5 j (Or.inl hj)⟩
theorem rb_sim : ∀ (f : Nat) (I M : Nat → Nat → Int) (i m o : Nat), TXR I M → TV M → AV M → OV M → M 110 18 = (i : Int) → M 110 19 = -1 → M 110 17 = (o : Int) → (i : Int) + m = M 110 6 → I 36 5 = 0 → I 36 6 = 0 → I 36 8 = -1 → ORD I M → 61 ≤ M 110 18 + (f : Int) →
    (∃ w : Nat, m_rbL f M 110 19 = (w : Int) ∧ ERV (f_scL 36 m i I) w) ∨ (m_rbL f M 110 19 = -1 ∧ (f_scL 36 m i I).1 = M 110 6 ∧ (f_tells1 (f_scL 36 m i I) 36).1 = 1 ∧ ORD (f_tells1 (f_scL 36 m i I) 36).2 (m_rbL f M))
  | 0, I, M, i, m, o, _, hv, ha, _, hi, hw, _, hm, _, _, _, _, hf => by
    have v1 := hv.1
    omega
  | f + 1, I, M, i, m, o, hT, hv, ha, hO, hi, hw, ho, hm, h5, h6, h8, hR, hf => by
    obtain ⟨c1, c2, c3⟩ := ro_OV hv ha hw hO
    obtain ⟨b1, b2, b3, b4, b5⟩ := roT_AV hv ha hw (t := (3 * M 110 17).toNat)
    obtain ⟨d1, d2, d3, d4, d5⟩ := semi_AV (I := m_ro M) b1 b2
    have r6 : m_ro M 110 6 = M 110 6 := RK_roT.2 6 (by decide) (by decide) (by decide)
    have r114 : m_ro M 114 = M 114 := RK_roT.1 114 (by decide) (by decide)
    have hv6 := hv.1
    have r123 : ∀ j, j < 3 * o → m_ro M 123 j = M 123 j := fun j hj => b5 j (Or.inl (by omega))
    unfold m_rbL
    rcases ro_sim hT hi hw ho hm h5 h6 h8 with ⟨w, w1, w2⟩ | ⟨p1, i', m', I', p2, p3, p4, p5, p6, p7⟩
    · left
      rw [if_neg (fun q => by have := q.1; omega)]
      exact ⟨w, w1, w2⟩
    · have c4 := c3 p1
      have h15 : o < 15 := by omega
      have hI4 : I 36 4 = (o : Int) := by rw [hR.1, ho]
      obtain ⟨x1, x2, x3, x4, x5, x6, x7, x8, x9⟩ := endSpot_ok p5 p6 hI4 h15
      obtain ⟨y1, y2, y3, y4, y5, y6, y7⟩ := id p5
      have hT' : TXR I' (m_ro M) := ⟨by rw [y2, r6]; exact hT.1, fun q hq => by rw [y1 37 (by decide), r114]; exact hT.2 q (by omega)⟩
      have ord' : ∀ (M9 : Nat → Nat → Int), M9 110 17 = m_ro M 110 17 → M9 123 = m_ro M 123 → ORD (f_endSpot I' 36).2 M9 := fun M9 g1 g2 => by
        refine ⟨by rw [x4, g1, c2, ho]; omega, fun q hq => ?_⟩
        rw [g1, c2, ho] at hq
        rw [x8, x9, g2]
        by_cases hqo : q = o
        · rw [if_pos hqo, if_pos hqo, hqo]
          exact ⟨by omega, rfl⟩
        · rw [if_neg hqo, if_neg hqo, r123 _ (by omega), r123 _ (by omega), r123 _ (by omega)]
          exact hR.2 q (by omega)
      by_cases hlt : m_ro M 110 18 < m_ro M 110 6
      · rw [if_pos ⟨p1, hlt⟩]
        have hl := let_of p2
        rw [if_pos (by omega)] at hl
        have hcc : I' 37 i' = m_let (m_ro M) := by rw [hT'.2 i' (by omega), hl]
        obtain ⟨w1, w2, w3, w4, w5⟩ := want_at9 (s := (if m_let (m_ro M) = 59 then 1 else 0)) p1
        have eS : m_semi (m_ro M) = m_want (m_ro M) (if m_let (m_ro M) = 59 then 1 else 0) := rfl
        by_cases h59 : m_let (m_ro M) = 59
        · rw [← eS] at w1 w2 w3 w4 w5
          rw [if_pos h59, if_neg (by decide)] at w2
          rw [if_pos w2]
          have t1 : f_take I' 36 (I' 37 i') = (1, (f_endSpot I' 36).2) := by
            rw [hcc, h59]
            unfold f_take
            rw [if_neg (by decide), if_neg (by decide), if_pos rfl]
            rw [← x1]
          have s1 := t_acc (m := m') (by omega) t1
          have d6 := (d3 w2).2
          have ih := rb_sim f (f_endSpot I' 36).2 (m_semi (m_ro M)) (i' + 1) (m' - 1) (o + 1) ⟨by rw [x3, w4, r6]; exact hT.1, fun q hq => by rw [x2 37 (by decide) (by decide) (by decide), w5, r114]; exact hT.2 q (by omega)⟩ d1 d2
            ⟨by rw [d4]; exact c1.1.1, by rw [d4, d6]; omega, fun k hk => by
              rw [d4] at hk
              rw [d5]
              exact c1.2.2 p1 k hk⟩ (by rw [w1, p2]; omega) w2 (by rw [w3, c2, ho]; omega) (by rw [w4, r6]; omega) x5 x6 x7 (ord' _ w3 d5) (by rw [w1]; omega)
          rw [p4, s1]
          rw [w4, r6] at ih
          exact ih
        · rw [← eS] at w1 w2 w3 w4 w5
          rw [if_neg h59, if_pos rfl] at w2
          rw [if_neg (by rw [w2, p2]; omega)]
          left
          refine ⟨i', by rw [w2, p2], ?_⟩
          rw [p4]
          refine t_rej hT'.1 (by rw [r6]; exact p3) (fun q => by omega) (fun _ => ?_)
          rw [hcc]
          refine take_no (fun _ => Or.inl y5) (fun _ => Or.inr (Or.inl y5)) (fun q => absurd q h59) (fun q1 q2 => ⟨by rw [y7]; exact p6, ?_⟩)
          exact p7 (m_let (m_ro M) - 48) (by omega) (by omega) (by omega)
      · rw [if_neg (fun q => hlt q.2)]
        right
        have hm0 : m' = 0 := by omega
        subst hm0
        rw [p4]
        have e0 : f_scL 36 0 i' I' = (I' 36 3, I') := rfl
        rw [e0]
        have e1 : f_tells1 (I' 36 3, I') 36 = f_endSpot I' 36 := by
          unfold f_tells1
          exact if_pos rfl
        rw [e1]
        exact ⟨p1, by dsimp only; rw [y2]; exact hT.1, x1, ord' _ rfl rfl⟩
