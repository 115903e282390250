/-! at the start -/
theorem StB_of {T : Nat → Nat × Nat} {R : Nat → Nat → Option Nat} {n k : Nat} (h : StT T k) (g : StR R k) (hn : k + 6 ≤ n) : StB T R n k :=
  ⟨h.1, h.2.1, h.2.2.1, h.2.2.2.1, h.2.2.2.2.1, h.2.2.2.2.2, g.1, g.2.1, g.2.2.1, g.2.2.2.1, g.2.2.2.2, hn⟩
theorem LmB_of {T : Nat → Nat × Nat} {R : Nat → Nat → Option Nat} {n k : Nat} (h : LmT T k) (g : LmR R k) (hn : k + 28 ≤ n) : LmB T R n k :=
  ⟨h.1, h.2.1, h.2.2.1, h.2.2.2.1, h.2.2.2.2.1, h.2.2.2.2.2.1, g.1, g.2.1, g.2.2.1, g.2.2.2.1, g.2.2.2.2.1, fun j hj => ⟨g.2.2.2.2.2 j hj, h.2.2.2.2.2.2 j hj⟩, hn⟩
theorem TxB_of {T : Nat → Nat × Nat} {R : Nat → Nat → Option Nat} {n k : Nat} (h : TxT T k) (g : TxR R k) (hn : k + 4 ≤ n) : TxB T R n k :=
  ⟨h.1, h.2.1, h.2.2.1, h.2.2.2, g.1, g.2.1, g.2.2, hn⟩
theorem StV_start {I : Nat → Nat → Int} {k : Nat} (h : StZ I k) : StV I k := by
  obtain ⟨h0, h1, h2, h3, h4, h5⟩ := h
  have q2 : ∀ j, j < 3 → 0 ≤ q_sv 2 j ∧ q_sv 2 j ≤ 8 := by decide
  refine ⟨by rw [h0]; decide, fun j => by rw [h1]; decide, fun j hj => by rw [h2, if_pos hj]; exact q2 j hj, by rw [h2]; decide, fun j => ?_, fun j => ?_, fun j => ?_⟩
  · rw [h3]; split <;> decide
  · rw [h4]; split <;> decide
  · rw [h5]; split <;> decide
theorem LmV_start {I : Nat → Nat → Int} {k : Nat} (h : ∀ a, k ≤ a → a < k + 28 → ∀ j, I a j = 0) : LmV I k := by
  have e : ∀ a j, k ≤ a → a < k + 28 → I a j = 0 := fun a j h1 h2 => h a h1 h2 j
  exact ⟨fun j => by rw [e _ _ (by omega) (by omega)]; decide, fun j => by rw [e _ _ (by omega) (by omega)]; decide, fun j => by rw [e _ _ (by omega) (by omega)]; decide, fun j _ => e _ _ (by omega) (by omega), fun j => Or.inl (e _ _ (by omega) (by omega)), by rw [e _ _ (by omega) (by omega)]; decide, by rw [e _ _ (by omega) (by omega)]; decide⟩
theorem MR_start {I : Nat → Nat → Int} {z : Nat → Int} (hz : z 3 = 0) (h : ∀ a, 7 ≤ a → a < 35 → ∀ j, I a j = 0) : MR I 7 z := by
  intro M hM hb he
  have m3 : M 111 3 = 0 := (he 3 (by decide) (by decide) (by decide)).trans hz
  have e1 : m_lay1 M = u2 M 110 7 0 := by
    unfold m_lay1
    rw [m3]
    rfl
  have r7 : m_lay M 110 7 = 0 := by rw [lay_rows (by decide), lay3_ne (by decide), e1, u2_at]
  have e3 : m_lay3 M 110 7 = 0 := by rw [lay3_ne (by decide), e1, u2_at]
  have r121 : ∀ c, c < 576 → m_lay M 121 c = 0 := fun c hc => by
    unfold m_lay
    rw [e3]
    show m_lay3 M 121 c = 0
    unfold m_lay3
    rw [lc_ne _ _ _ _ (by decide), lb_121, if_pos (by omega)]
  have r122 : ∀ c, c < 576 → m_lay M 122 c = 0 := fun c hc => by
    unfold m_lay
    rw [ld1_ne _ _ _ _ (by decide)]
    unfold m_lay3
    rw [m3]
    show m_lb 576 0 (m_lay1 M) 122 c = 0
    rw [lb_122, if_pos (by omega)]
  refine ⟨by rw [r7]; exact h 7 (by decide) (by decide) 6, ?_, fun c hc => by rw [r121 c hc]; exact h 9 (by decide) (by decide) c, fun c hc => by rw [r122 c hc]; exact h 10 (by decide) (by decide) c, fun i hi => by rw [r7] at hi; omega⟩
  rw [h 7 (by decide) (by decide) 7]
  unfold m_avM
  rw [cntL_none]
  intro c _ hc
  have : m_isAv (m_lay M) c = 0 := by
    unfold m_isAv
    rw [r121 c (by omega)]
    exact if_neg (fun q => by omega)
  rw [this]
  rfl
theorem zN_at : ∀ j, zN j = if j = 0 ∨ j = 1 then 3 else if j = 2 then 2 else if 6 ≤ j ∧ j < 1554 then -1 else 0 := fun _ => rfl
theorem QR_start {T : Nat → Nat × Nat} {I1 I2 : Nat → Nat → Int} {J : Nat → Nat → Int64} {R1 R2 : Nat → Nat → Option Nat} (hT : XT T) (hM : MdT T) (hO : T 124 = (10, 1)) (h1 : XN 6 I1 R1) (h0 : Z0 I1 J R1 110) (h2 : MN I1 I2 R1 R2) : QR T I2 R2 := by
  obtain ⟨t0, t1, t7, t35, t36, t40, t46, t74⟩ := hT
  obtain ⟨⟨x0, x1, x2, x4, x5, x6⟩, r1, r7, r36, r40, r46, r74, r35, z1, z40, z74, zz, z36⟩ := h1
  obtain ⟨n1, n2, n3, n4⟩ := h2
  have eR : ∀ a, a ≠ 110 → R2 a = R1 a := n2
  have eI : ∀ a, a ≠ 111 → I2 a = I1 a := n1
  have i0 : ∀ a j, a ≠ 111 → 110 ≤ a → I2 a j = 0 := fun a j ha h => by rw [eI a ha]; exact (h0 a h).1 j
  have iz0 : ∀ a, (a = 0 ∨ 7 ≤ a ∧ a < 40 ∧ a ≠ 36 ∨ 46 ≤ a ∧ a < 74) → ∀ j, I2 a j = 0 := fun a ha j => by rw [eI a (by omega)]; exact zz a ha j
  have zs : ∀ k, k + 6 ≤ 110 → StZ I1 k → StZ I2 k := fun k hk h => StZ_ne h (fun a _ h2 => eI a (by omega))
  have hsc : ScB T R2 125 := by
    refine ⟨t0, by rw [eR 0 (by decide)]; exact x0, by rw [eR 0 (by decide)]; exact x1, by rw [eR 0 (by decide)]; exact x2, by rw [eR 0 (by decide)]; exact x4, by rw [eR 0 (by decide)]; exact x5, by rw [eR 0 (by decide)]; exact x6, t35, StB_of t1 (StR_ne r1 (eR 1 (by decide))) (by decide), LmB_of t7 (LmR_ne r7 (eR 7 (by decide)) (eR 8 (by decide))) (by decide), TxB_of t36 (TxR_ne r36 (eR 36 (by decide))) (by decide), StB_of t40 (StR_ne r40 (eR 40 (by decide))) (by decide), LmB_of t46 (LmR_ne r46 (eR 46 (by decide)) (eR 47 (by decide))) (by decide), fun i hi => StB_of (t74 i hi) (StR_ne (r74 i hi) (eR _ (by omega))) (by omega), fun j hj => ⟨j, hj, by rw [eR 35 (by decide)]; exact r35 j hj⟩, fun i j hi hj e => ?_, by decide⟩
    rw [eR 35 (by decide), r35 i hi, r35 j hj] at e
    have := Option.some.inj e
    omega
  have hx : XV I2 := by
    refine ⟨StV_start (zs 1 (by decide) z1), LmV_start (fun a h1 h2 => iz0 a (by omega)), LmV_start (fun a h1 h2 => iz0 a (by omega)), ?_, StV_start (zs 40 (by decide) z40), fun i hi => StV_start (zs _ (by omega) (z74 i hi)), by rw [iz0 0 (by decide)]; decide, fun i hi => ?_, fun i hi => ?_⟩
    · have e : ∀ j, I2 36 j = if j = 8 then -1 else 0 := fun j => by rw [eI 36 (by decide)]; exact z36 j
      refine ⟨by rw [e]; decide, by rw [e]; decide, Or.inl (by rw [e]; rfl), Or.inl (by rw [e]; rfl), by rw [e]; decide, by rw [e]; decide, fun j => by rw [iz0 _ (by omega)]; decide, fun j => Or.inl (iz0 _ (by omega) j), fun j => by rw [iz0 _ (by omega)]; decide⟩
    · rw [iz0 7 (by decide)] at hi; omega
    · rw [iz0 46 (by decide)] at hi; omega
  have e3 : I2 111 3 = 0 := by rw [n4]; rfl
  have ez : ∀ j, 6 ≤ j → j < 1554 → I2 111 j = -1 := fun j h1 h2 => by rw [n4, zN_at, if_neg (by omega), if_neg (by omega), if_pos ⟨h1, h2⟩]
  have hz : ZV I2 := by
    have e0 : I2 111 0 = 3 := by rw [n4]; rfl
    have e1 : I2 111 1 = 3 := by rw [n4]; rfl
    have e2 : I2 111 2 = 2 := by rw [n4]; rfl
    refine ⟨by rw [e3]; decide, fun j hj => by rw [ez _ (by omega) (by omega)]; decide, fun j hj => by rw [e3] at hj; omega, fun i j hi => by rw [e3] at hi; omega, fun j hj => ?_, by rw [e2]; decide, fun j hj => by rw [ez _ (by omega) (by omega)]; decide, fun j hj => by rw [ez _ (by omega) (by omega)]; decide, fun j hj => by rw [ez _ (by omega) (by omega)]; decide⟩
    have hj3 : j = 0 ∨ j = 1 ∨ j = 2 := by omega
    rcases hj3 with rfl | rfl | rfl
    · rw [e0]; decide
    · rw [e1]; decide
    · rw [e2]; decide
  obtain ⟨s0, s1, s2, s3, s4, s5⟩ := zs 1 (by decide) z1
  refine QR_mk hsc (MdB_of hM n3 (by decide)) hO hx hz (fun j _ => ⟨i0 121 j (by decide) (by decide), i0 122 j (by decide) (by decide)⟩) ⟨by rw [i0 110 6 (by decide) (by decide)]; decide, fun j _ => by rw [i0 114 j (by decide) (by decide)]; decide⟩ (by rw [iz0 0 (by decide), i0 110 3 (by decide) (by decide)]) ?_ ?_ ⟨by rw [eI 36 (by decide), z36, i0 110 6 (by decide) (by decide)]; rfl, fun j hj => by rw [i0 110 6 (by decide) (by decide)] at hj; omega⟩ (fun s hs => by rw [i0 110 3 (by decide) (by decide)] at hs; omega) (MR_start e3 (fun a h1 h2 => iz0 a (by omega)))
  · refine ⟨by rw [s0, e3], by rw [s0, n4]; rfl, by rw [s0, n4]; rfl, fun j hj => by rw [e3] at hj; omega, fun j hj => ?_, fun b hb => by rw [s3, if_pos hb, ez _ (by omega) (by omega)], fun b hb => by rw [s4, if_pos hb, ez _ (by omega) (by omega)], fun b hb => by rw [s5, if_pos hb, ez _ (by omega) (by omega)]⟩
    rw [s2, if_pos hj, n4]
    have hj3 : j = 0 ∨ j = 1 ∨ j = 2 := by omega
    rcases hj3 with rfl | rfl | rfl <;> rfl
  · refine ⟨fun b hb q => absurd (ez _ (by omega) (by omega)) q, fun c hc q => absurd (ez _ (by omega) (by omega)) q, fun b hb => ?_, fun b hb => Or.inl (ez _ (by omega) (by omega)), by rw [n4]; decide⟩
    rw [ez _ (by omega) (by omega), ez _ (by omega) (by omega)]
