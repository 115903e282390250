/-! the map is built: the object's map is what the reference lays -/
theorem BL_bl2 {k ks a : Nat} (hd : ks + 6 ≤ k ∨ k + 28 ≤ ks) : ∀ (m b : Nat) (P : (Nat → Nat → Int) × (Nat → Nat → Int64)) (M : Nat → Nat → Int), ZV M → 3 ≤ M 111 0 → a < b → (b : Int) + m = M 111 3 → BL k ks P.1 M → LNS M a b → BL k ks (f_bl2 k ks a m b P).1 (m_a2 a m b M) ∧ LNS (m_a2 a m b M) a (b + m)
  | 0, b, P, M, _, _, _, _, h, g => ⟨h, g⟩
  | m + 1, b, P, M, hz, h3, hab, hn, h, g => by
    obtain ⟨s1, s2⟩ := BL_step hz h3 hd hab (by omega) h g
    have m1 : m_layLine M a b 111 = M 111 := layLine_7b
    have ih := BL_bl2 hd m (b + 1) (if (f_addLine P.1 P.2 k ks a b).1 = 0 then (f_addLine P.1 P.2 k ks a b).2 else f_bl2.f_hitn (f_addLine P.1 P.2 k ks a b).2 k) (m_layLine M a b) (ZV_ne hz m1) (by rw [m1]; exact h3) (by omega) (by rw [m1]; omega) s1 s2
    have e : f_bl2 k ks a (m + 1) b P = f_bl2 k ks a m (b + 1) (if (f_addLine P.1 P.2 k ks a b).1 = 0 then (f_addLine P.1 P.2 k ks a b).2 else f_bl2.f_hitn (f_addLine P.1 P.2 k ks a b).2 k) := by
      show (if (f_addLine P.1 P.2 k ks a b).1 = 0 then f_bl2 k ks a m (b + 1) (f_addLine P.1 P.2 k ks a b).2 else f_bl2 k ks a m (b + 1) (f_bl2.f_hitn (f_addLine P.1 P.2 k ks a b).2 k)) = _
      split <;> rfl
    rw [e, show b + (m + 1) = b + 1 + m by omega]
    exact ih
theorem BL_bl1 {k ks cnt : Nat} (hd : ks + 6 ≤ k ∨ k + 28 ≤ ks) : ∀ (m a : Nat) (P : (Nat → Nat → Int) × (Nat → Nat → Int64)) (M : Nat → Nat → Int), ZV M → 3 ≤ M 111 0 → (a : Int) + m = M 111 3 → (cnt : Int) = M 111 3 → BL k ks P.1 M → LNS M a (a + 1) → BL k ks (f_bl1 k ks cnt m a P).1 (m_a1 m a M)
  | 0, a, P, M, _, _, _, _, h, _ => h
  | m + 1, a, P, M, hz, h3, hn, hc, h, g => by
    show BL k ks (f_bl1 k ks cnt m (a + 1) (f_bl2 k ks a (cnt - (a + 1)) (a + 1) P)).1 (m_a1 m (a + 1) (m_a2 a m (a + 1) M))
    rw [show cnt - (a + 1) = m by omega]
    obtain ⟨s1, s2⟩ := BL_bl2 hd m (a + 1) P M hz h3 (by omega) (by omega) h g
    have m1 : m_a2 a m (a + 1) M 111 = M 111 := a2_ne _ _ _ _ (by decide)
    exact BL_bl1 hd m (a + 1) _ _ (ZV_ne hz m1) (by rw [m1]; exact h3) (by rw [m1]; omega) (by rw [m1]; exact hc) s1 (LNS_next s2 (by rw [m1]; omega))
/-- spots are taken -/
theorem f_tk1_at {I : Nat → Nat → Int} {k i : Nat} {c : Int} (x y : Nat) : f_tk1 I k i c x y = if x = k ∧ y = 5 then I k 5 + 1 else if x = k + 5 ∧ y = i then tm24 c else if x = k + 4 ∧ y = i then c.tdiv 24 else if x = k + 3 ∧ y = c.toNat then 1 else I x y := by
  unfold f_tk1 f_tk1.f_tk2 tm24
  simp only [u2_if]
  have e1 : ¬ (k = k + 5 ∧ 5 = i) := by omega
  have e2 : ¬ (k = k + 4 ∧ 5 = i) := by omega
  have e3 : ¬ (k = k + 3 ∧ 5 = c.toNat) := by omega
  simp only [if_neg e1, if_neg e2, if_neg e3]
theorem f_tk_at {k ks : Nat} (hd : ks + 6 ≤ k ∨ k + 28 ≤ ks) : ∀ (m i : Nat) (I : Nat → Nat → Int), (∀ q, i ≤ q → q < i + m → 0 ≤ I (ks + 1) q ∧ I (ks + 1) q < 576) →
    (f_tk k ks m i I k 5 = I k 5 + m) ∧ (∀ j, j ≠ 5 → f_tk k ks m i I k j = I k j) ∧ (∀ q, f_tk k ks m i I (k + 4) q = if i ≤ q ∧ q < i + m then (I (ks + 1) q).tdiv 24 else I (k + 4) q) ∧ (∀ q, f_tk k ks m i I (k + 5) q = if i ≤ q ∧ q < i + m then tm24 (I (ks + 1) q) else I (k + 5) q) ∧ (∀ c, ((∃ q, i ≤ q ∧ q < i + m ∧ (I (ks + 1) q).toNat = c) → f_tk k ks m i I (k + 3) c = 1) ∧ ((¬ ∃ q, i ≤ q ∧ q < i + m ∧ (I (ks + 1) q).toNat = c) → f_tk k ks m i I (k + 3) c = I (k + 3) c))
  | 0, i, I, _ => by
    unfold f_tk
    exact ⟨by omega, fun _ _ => rfl, fun q => by rw [if_neg (by omega)], fun q => by rw [if_neg (by omega)], fun c => ⟨fun ⟨q, h1, h2, _⟩ => by omega, fun _ => rfl⟩⟩
  | m + 1, i, I, h => by
    have hi := h i (by omega) (by omega)
    unfold f_tk
    rw [if_pos hi]
    have e1 : ∀ q, f_tk1 I k i (I (ks + 1) i) (ks + 1) q = I (ks + 1) q := fun q => by
      rw [f_tk1_at, if_neg (by omega), if_neg (by omega), if_neg (by omega), if_neg (by omega)]
    obtain ⟨a1, a2, a3, a4, a5⟩ := f_tk_at hd m (i + 1) (f_tk1 I k i (I (ks + 1) i)) (fun q h1 h2 => by rw [e1]; exact h q (by omega) (by omega))
    refine ⟨?_, fun j hj => ?_, fun q => ?_, fun q => ?_, fun c => ?_⟩
    · rw [a1, f_tk1_at, if_pos ⟨rfl, rfl⟩]
      omega
    · rw [a2 j hj, f_tk1_at, if_neg (by omega), if_neg (by omega), if_neg (by omega), if_neg (by omega)]
    · have e4 : f_tk1 I k i (I (ks + 1) i) (k + 4) q = if q = i then (I (ks + 1) i).tdiv 24 else I (k + 4) q := by
        rw [f_tk1_at, if_neg (by omega), if_neg (by omega)]
        by_cases h9 : q = i
        · rw [if_pos ⟨rfl, h9⟩, if_pos h9]
        · rw [if_neg (fun w => h9 w.2), if_neg h9, if_neg (by omega)]
      rw [a3, e1, e4]
      by_cases hq : q = i
      · rw [if_neg (by omega), if_pos hq, if_pos (by omega), hq]
      · rw [if_neg hq]
        by_cases h9 : i + 1 ≤ q ∧ q < i + 1 + m
        · rw [if_pos h9, if_pos (by omega)]
        · rw [if_neg h9, if_neg (by omega)]
    · have e5 : f_tk1 I k i (I (ks + 1) i) (k + 5) q = if q = i then tm24 (I (ks + 1) i) else I (k + 5) q := by
        rw [f_tk1_at, if_neg (by omega)]
        by_cases h9 : q = i
        · rw [if_pos ⟨rfl, h9⟩, if_pos h9]
        · rw [if_neg (fun w => h9 w.2), if_neg h9, if_neg (by omega), if_neg (by omega)]
      rw [a4, e1, e5]
      by_cases hq : q = i
      · rw [if_neg (by omega), if_pos hq, if_pos (by omega), hq]
      · rw [if_neg hq]
        by_cases h9 : i + 1 ≤ q ∧ q < i + 1 + m
        · rw [if_pos h9, if_pos (by omega)]
        · rw [if_neg h9, if_neg (by omega)]
    · obtain ⟨b1, b2⟩ := a5 c
      have e3 : f_tk1 I k i (I (ks + 1) i) (k + 3) c = if c = (I (ks + 1) i).toNat then 1 else I (k + 3) c := by
        rw [f_tk1_at, if_neg (by omega), if_neg (by omega), if_neg (by omega)]
        by_cases h9 : c = (I (ks + 1) i).toNat
        · rw [if_pos ⟨rfl, h9⟩, if_pos h9]
        · rw [if_neg (fun q => h9 q.2), if_neg h9]
      simp only [e1] at b1 b2
      rw [e3] at b2
      constructor
      · rintro ⟨q, q1, q2, q3⟩
        by_cases h9 : ∃ q, i + 1 ≤ q ∧ q < i + 1 + m ∧ (I (ks + 1) q).toNat = c
        · exact b1 h9
        · rw [b2 h9]
          have hq : q = i := by
            by_cases h8 : q = i
            · exact h8
            · exact absurd ⟨q, by omega, by omega, q3⟩ h9
          rw [if_pos (by rw [← q3, hq])]
      · intro h9
        rw [b2 (fun ⟨q, q1, q2, q3⟩ => h9 ⟨q, by omega, by omega, q3⟩), if_neg (fun q => h9 ⟨i, by omega, by omega, q.symm⟩)]
theorem cntL_cong {f g : Nat → Bool} : ∀ (m i : Nat) (a : Int), (∀ c, i ≤ c → c < i + m → f c = g c) → cntL f m i a = cntL g m i a
  | 0, _, _, _ => rfl
  | m + 1, i, a, h => by
    unfold cntL
    rw [h i (by omega) (by omega), cntL_cong m (i + 1) _ (fun c h1 h2 => h c (by omega) (by omega)), cntL_cong m (i + 1) _ (fun c h1 h2 => h c (by omega) (by omega))]
theorem isAv_inc {I : Nat → Nat → Int} {k : Nat} {x : Int} : f_isAv (f_inc7 I k) k x = f_isAv I k x := by
  unfold f_isAv f_inc7
  rw [u2_ne (by omega), u2_ne (by omega)]
theorem f_av_at (k : Nat) : ∀ (m c : Nat) (I : Nat → Nat → Int), f_av k m c I k 7 = cntL (fun x => decide (¬ f_isAv I k (x : Int) = 0)) m c (I k 7)
  | 0, _, _ => rfl
  | m + 1, c, I => by
    unfold f_av cntL
    by_cases h : f_isAv I k c = 0
    · rw [if_pos h, f_av_at k m (c + 1) I, if_neg (by rw [decide_eq_true_eq]; exact fun q => q h)]
    · rw [if_neg h, f_av_at k m (c + 1), if_pos (by rw [decide_eq_true_eq]; exact h)]
      simp only [isAv_inc]
      unfold f_inc7
      rw [u2_at]
theorem build_MR {I : Nat → Nat → Int} {J : Nat → Nat → Int64} {k ks : Nat} {z : Nat → Int} (hd : ks + 6 ≤ k ∨ k + 28 ≤ ks) (hv : LmV I k) (hS : StV I ks) (h5 : I ks 5 = z 3) (hsp : ∀ j : Nat, (j : Int) < z 3 → I (ks + 1) j = z (6 + j)) (hset : ∀ j, j < 3 → I (ks + 2) j = z j) (h3 : 3 ≤ z 0) : MR (f_build I J k ks).1 k z := by
  intro M hz hb he
  have m0 := he 0 (by decide) (by decide) (by decide)
  have m3 := he 3 (by decide) (by decide) (by decide)
  have z3 := hz.1
  have msp : ∀ j : Nat, (j : Int) < M 111 3 → I (ks + 1) j = M 111 (6 + j) := fun j hj => by
    rw [he (6 + j) (by omega) (by omega) (by omega)]
    exact hsp j (by omega)
  have msp' : ∀ j : Nat, j < 0 + (M 111 3).toNat → I (ks + 1) j = M 111 (6 + j) := fun j hj => msp j (by omega)
  -- the start
  have c5 : f_clear I k ks 5 = M 111 3 := by rw [f_clear_ne (by omega) (by omega) (by omega), h5, m3]
  have csp : ∀ q, f_clear I k (ks + 1) q = I (ks + 1) q := fun q => by rw [f_clear_ne (by omega) (by omega) (by omega)]
  obtain ⟨t1, t2, t3, t4, t5⟩ := f_tk_at hd (f_clear I k ks 5).toNat 0 (f_clear I k) (fun q _ _ => by rw [csp]; exact hS.2.1 q)
  have e0 : f_b0 I k ks = f_tk k ks (f_clear I k ks 5).toNat 0 (f_clear I k) := rfl
  rw [← e0] at t1 t2 t3 t4 t5
  rw [c5] at t1 t3 t4 t5
  have kk : ∀ j, f_clear I k k j = if j = 5 ∨ j = 6 ∨ j = 7 then 0 else I k j := fun j => f_clear_k
  have b05 : f_b0 I k ks k 5 = M 111 3 := by rw [t1, kk, if_pos (by decide)]; omega
  have b06 : f_b0 I k ks k 6 = 0 := by rw [t2 6 (by decide), kk, if_pos (by decide)]
  have b07 : f_b0 I k ks k 7 = 0 := by rw [t2 7 (by decide), kk, if_pos (by decide)]
  have bk0 := f_b0_BOK (ks := ks) hd hv hS.1
  have b02 : ∀ c, c < 576 → f_b0 I k ks (k + 2) c = 0 := fun c hc => by
    have := bk0.2.2.2.1 c
    omega
  have tok := f_b0_TOK (ks := ks) hd hv hS.1
  have bst : f_b0 I k ks (ks + 2) = I (ks + 2) := by rw [tok.1 (ks + 2) (by omega) (by omega) (by omega) (by omega), f_clear_ne (by omega) (by omega) (by omega)]
  have hz0 : ZV (u2 M 110 7 0) := ZV_ne hz (u2_ne (by decide))
  have hM1 : u2 M 110 7 0 111 = M 111 := u2_ne (by decide)
  have bl0 : BL k ks (f_b0 I k ks) (u2 M 110 7 0) := by
    unfold BL
    rw [u2_at, hM1]
    refine ⟨b06, by decide, b05, fun j hj => ?_, fun j hj => ?_, fun q hq => by omega, fun c hc => ?_⟩
    · rw [t3, t4, if_pos (by omega), if_pos (by omega), csp, msp j hj]
      exact ⟨rfl, rfl⟩
    · rw [bst, hset j hj, he j (by omega) (by omega) (by omega)]
    · rw [b02 c hc]
      rfl
  have bl1 := BL_bl1 (cnt := (f_b0 I k ks k 5).toNat) hd (f_b0 I k ks k 5).toNat 0 (f_b0 I k ks, J) (u2 M 110 7 0) hz0 (by rw [hM1, m0]; exact h3) (by rw [hM1, b05]; omega) (by rw [hM1, b05]; omega) bl0 ⟨fun _ => 0, fun _ => 0, fun q hq => by rw [u2_at] at hq; omega, fun q q' hq => by rw [u2_at] at hq; omega⟩
  have e1 : m_a1 (f_b0 I k ks k 5).toNat 0 (u2 M 110 7 0) = m_lay1 M := by rw [b05]; rfl
  have e2 : f_bl1 k ks (f_b0 I k ks k 5).toNat (f_b0 I k ks k 5).toNat 0 (f_b0 I k ks, J) = f_b1 I J k ks := rfl
  rw [e1, e2] at bl1
  have bk1 := f_b1_BOK (J := J) hd hv hS.1 hS.2.2.1 hS.2.2.2.1
  obtain ⟨l1, l2, l3, l4, l5, l6, l7⟩ := bl1
  -- the rows of the laid map
  have r7 : m_lay M 110 7 = m_lay1 M 110 7 := by rw [lay_rows (by decide), lay3_ne (by decide)]
  have rq : ∀ a, 115 ≤ a → a ≤ 120 → m_lay M a = m_lay1 M a := fun a h1 h2 => by rw [lay_rows (by omega), lay3_ne (by omega)]
  have r121 : ∀ c, c < 576 → m_lay M 121 c = hsF (m_lay1 M) c (m_lay1 M 110 7).toNat 0 := fun c hc => by
    unfold m_lay
    rw [ld1_at, hsF_cong (M := m_lay1 M) _ 0 (fun r _ _ => cnt1_of (fun a h1 h2 => by rw [lay3_ne (by omega)])), lay3_ne (a := 110) (by decide)]
    have e : m_lay3 M 121 c = 0 := by
      unfold m_lay3
      rw [lc_ne _ _ _ _ (by decide), lb_121, if_pos (by omega)]
    rw [e]
    omega
  have n4 : ∀ x, x ≠ k → (f_build I J k ks).1 x = (f_b1 I J k ks).1 x := fun x hx => f_av_ne k _ _ _ _ hx
  have nj : ∀ j, j ≠ 7 → (f_build I J k ks).1 k j = (f_b1 I J k ks).1 k j := fun j hj => f_av_nj k _ _ _ j hj
  have hits : ∀ c, c < 576 → (f_b1 I J k ks).1 (k + 2) c = m_lay M 121 c := fun c hc => by rw [l7 c hc, r121 c hc]
  have marks : ∀ c, c < 576 → (f_b1 I J k ks).1 (k + 3) c = m_lay M 122 c := fun c hc => by
    rw [bk1.1 (k + 3) (by omega) (by omega) (by omega)]
    unfold m_lay
    rw [ld1_ne _ _ _ _ (by decide)]
    unfold m_lay3
    obtain ⟨x1, x2⟩ := lc_122 (M 111 3).toNat 0 (m_lb 576 0 (m_lay1 M)) c
    obtain ⟨y1, y2⟩ := t5 c
    have eM : m_lb 576 0 (m_lay1 M) 111 = M 111 := by
      rw [lb_ne _ _ _ _ (by decide) (by decide)]
      unfold m_lay1
      rw [a1_ne _ _ _ _ (by decide), hM1]
    rw [eM] at x1 x2
    by_cases hq : ∃ q, 0 ≤ q ∧ q < 0 + (M 111 3).toNat ∧ (M 111 (6 + q)).toNat = c
    · rw [x1 hq, y1]
      obtain ⟨q, q1, q2, q3⟩ := hq
      exact ⟨q, q1, q2, by rw [csp, msp' q q2]; exact q3⟩
    · rw [x2 hq, y2, f_clear_at (Or.inr rfl), if_pos hc, lb_122, if_pos (by omega)]
      rintro ⟨q, q1, q2, q3⟩
      rw [csp, msp' q q2] at q3
      exact hq ⟨q, q1, q2, q3⟩
  refine ⟨?_, ?_, fun c hc => ?_, fun c hc => ?_, fun i hi => ?_⟩
  · rw [nj 6 (by decide), r7]
    exact l1
  · show f_av k 576 0 (f_b1 I J k ks).1 k 7 = _
    rw [f_av_at, bk1.2.1 7 (by decide), b07]
    unfold m_avM
    refine cntL_cong _ _ _ (fun c _ hc => ?_)
    have e : f_isAv (f_b1 I J k ks).1 k (c : Int) = m_isAv (m_lay M) c := by
      unfold f_isAv m_isAv
      rw [Int.toNat_natCast, hits c (by omega), marks c (by omega)]
      by_cases h9 : 0 < m_lay M 121 c ∧ m_lay M 122 c = 0
      · rw [if_pos ⟨by omega, h9.2, h9.1⟩, if_pos h9]
      · rw [if_neg (fun q => h9 ⟨q.2.2, q.2.1⟩), if_neg h9]
    rw [e]
  · rw [n4 (k + 2) (by omega)]
    exact hits c hc
  · rw [n4 (k + 3) (by omega)]
    exact marks c hc
  · rw [r7] at hi
    exact LRel_of (n4 _ (by omega)) (fun a h1 h2 => by rw [rq a h1 h2]) (l6 i hi)
