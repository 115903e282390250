/-! the lines that are laid are in order -/
def LIN (I : Nat → Nat → Int) (k : Nat) : Prop := ∀ i : Nat, (i : Int) < I k 6 → LOK I (k + 6 + i) ∧ 0 ≤ I (k + 6 + i) 0 ∧ I (k + 6 + i) 0 < 4096
theorem LOK_row {I I' : Nat → Nat → Int} {kl : Nat} (h : LOK I kl) (he : I' kl = I kl) : LOK I' kl := by
  unfold LOK at h ⊢
  rw [he]
  exact h
theorem addLine_LIN {I : Nat → Nat → Int} {J : Nat → Nat → Int64} {k ks a b : Nat} (hdj : ks + 6 ≤ k ∨ k + 28 ≤ ks) (ht : ∀ j : Nat, 0 ≤ I (k + 4) j ∧ I (k + 4) j < 24) (hs : ∀ j : Nat, 0 ≤ I (k + 5) j ∧ I (k + 5) j < 24) (hcn : 0 ≤ I k 5 ∧ I k 5 ≤ 12) (h6 : 0 ≤ I k 6 ∧ I k 6 ≤ 22) (h2 : 0 ≤ I (ks + 2) 2 ∧ I (ks + 2) 2 ≤ 6) (hab : a < b) (hbc : b < (I k 5).toNat) (hL : LIN I k) : LIN (f_addLine I J k ks a b).2.1 k := by
  unfold f_addLine
  split
  · rename_i hc
    have hJ : JOK I (k + 6 + (I k 6).toNat) (f_jd I J k a b).1 := JOK_jn (by omega) (by omega) ht hs _ _ _ (by omega) (JOK_aim (ht a) (hs a) (ht b) (hs b))
    generalize f_jd I J k a b = P at hJ
    have e2 : P.1 (ks + 2) 2 = I (ks + 2) 2 := congrFun (hJ.1 (ks + 2) (by omega)) 2
    have e6 : P.1 k 6 = I k 6 := congrFun (hJ.1 k (by omega)) 6
    unfold f_add2
    split
    · intro i hi
      dsimp only at hi ⊢
      rw [e6] at hi
      have er : P.1 (k + 6 + i) = I (k + 6 + i) := hJ.1 _ (by omega)
      obtain ⟨q1, q2⟩ := hL i hi
      exact ⟨LOK_row q1 er, by rw [er]; exact q2⟩
    · intro i hi
      dsimp only at hi ⊢
      have n6 : f_inc6 (f_spread P.1 (k + 6 + (I k 6).toNat) (P.1 (ks + 2) 2)) k k 6 = I k 6 + 1 := by
        unfold f_inc6
        rw [u2_at, f_spread_ne (by omega), e6]
      rw [n6] at hi
      have er0 : f_inc6 (f_spread P.1 (k + 6 + (I k 6).toNat) (P.1 (ks + 2) 2)) k (k + 6 + i) = f_spread P.1 (k + 6 + (I k 6).toNat) (P.1 (ks + 2) 2) (k + 6 + i) := by
        unfold f_inc6
        exact u2_ne (by omega)
      by_cases e : i = (I k 6).toNat
      · subst e
        have hL2 := LOK_spread hJ (b := P.1 (ks + 2) 2) (by rw [e2]; exact h2)
        refine ⟨LOK_row hL2 er0, ?_⟩
        rw [er0, f_spread_k 0 (by decide) (by decide) (by decide)]
        exact hJ.2.2.2.2.2.1
      · have er : f_inc6 (f_spread P.1 (k + 6 + (I k 6).toNat) (P.1 (ks + 2) 2)) k (k + 6 + i) = I (k + 6 + i) := by
          rw [er0, f_spread_ne (by omega)]
          exact hJ.1 _ (by omega)
        obtain ⟨q1, q2⟩ := hL i (by omega)
        exact ⟨LOK_row q1 er, by rw [er]; exact q2⟩
  · exact hL
theorem LIN_row {I I' : Nat → Nat → Int} {k : Nat} (h : LIN I k) (h6 : I' k 6 = I k 6) (he : ∀ a, k + 6 ≤ a → (a : Int) < k + 6 + I k 6 → I' a = I a) : LIN I' k := by
  intro i hi
  rw [h6] at hi
  have er : I' (k + 6 + i) = I (k + 6 + i) := he _ (by omega) (by omega)
  obtain ⟨q1, q2⟩ := h i hi
  exact ⟨LOK_row q1 er, by rw [er]; exact q2⟩
theorem LIN_bl2 {k ks a : Nat} {I0 : Nat → Nat → Int} (hb0 : B0 k ks I0) : ∀ (m b : Nat) (N : Int) (P : (Nat → Nat → Int) × (Nat → Nat → Int64)), a < b → b + m ≤ (I0 k 5).toNat → BOK k I0 N P.1 → LIN P.1 k → LIN (f_bl2 k ks a m b P).1 k
  | 0, _, _, _, _, _, _, h => h
  | m + 1, b, N, P, hab, hm, h, hL => by
    obtain ⟨hd, ht, hs, hc, hst, hs2⟩ := id hb0
    obtain ⟨g1, g2, g3, g4, g5⟩ := id h
    have e4 : P.1 (k + 4) = I0 (k + 4) := g1 _ (by omega) (by omega) (by omega)
    have e5 : P.1 (k + 5) = I0 (k + 5) := g1 _ (by omega) (by omega) (by omega)
    have ec : P.1 k 5 = I0 k 5 := g2 5 (by decide)
    have es : P.1 (ks + 2) = I0 (ks + 2) := g1 _ (by omega) (by omega) (by omega)
    have hst2 := hst 2 (by decide)
    have hL1 := addLine_LIN (I := P.1) (J := P.2) (a := a) (b := b) hd (by rw [e4]; exact ht) (by rw [e5]; exact hs) (by rw [ec]; exact hc) g3 (by rw [es]; omega) hab (by rw [ec]; omega) hL
    unfold f_bl2
    rcases BOK_step hb0 h hab (by omega : b < (I0 k 5).toNat) with ⟨q1, q2⟩ | ⟨q1, -, -, -, q2⟩
    · rw [if_pos q1]
      exact LIN_bl2 hb0 m (b + 1) (N + 60) _ (by omega) (by omega) q2 hL1
    · rw [if_neg (by omega)]
      refine LIN_bl2 hb0 m (b + 1) (N + 60) _ (by omega) (by omega) q2 (LIN_row hL1 ?_ ?_)
      · unfold f_bl2.f_hitn
        exact congrFun (f_hit_ne _ _ _ _ _ _ (by omega)) 6
      · intro x hx _
        unfold f_bl2.f_hitn
        exact f_hit_ne _ _ _ _ _ _ (by omega)
theorem LIN_bl1 {k ks cnt : Nat} {I0 : Nat → Nat → Int} (hb0 : B0 k ks I0) (hcnt : (I0 k 5).toNat = cnt) : ∀ (m a : Nat) (N : Int) (P : (Nat → Nat → Int) × (Nat → Nat → Int64)), a + m = cnt → BOK k I0 N P.1 → LIN P.1 k → LIN (f_bl1 k ks cnt m a P).1 k
  | 0, _, _, _, _, _, h => h
  | m + 1, a, N, P, hm, h, hL => by
    have h1 := BOK_bl2 (a := a) hb0 (cnt - (a + 1)) (a + 1) N P (by omega) (by omega) h
    have h2 := LIN_bl2 (a := a) hb0 (cnt - (a + 1)) (a + 1) N P (by omega) (by omega) h hL
    unfold f_bl1
    exact LIN_bl1 hb0 hcnt m (a + 1) _ _ (by omega) h1 h2
theorem f_build_LIN {I : Nat → Nat → Int} {J : Nat → Nat → Int64} {k ks : Nat} (hd : ks + 6 ≤ k ∨ k + 28 ≤ ks) (hv : LmV I k) (hcn : 0 ≤ I ks 5 ∧ I ks 5 ≤ 12) (hset : ∀ j : Nat, j < 3 → 0 ≤ I (ks + 2) j ∧ I (ks + 2) j ≤ 8) (hset2 : I (ks + 2) 2 ≤ 6) : LIN (f_build I J k ks).1 k := by
  have hb := f_b0_B0 hd hv hcn hset hset2
  have h0 := f_b0_TOK hd hv hcn
  have h6 : f_b0 I k ks k 6 = 0 := by rw [h0.2.1 6 (by decide), f_clear_k, if_pos (by decide)]
  have h1 : LIN (f_b1 I J k ks).1 k := by
    unfold f_b1
    refine LIN_bl1 hb rfl _ 0 0 (f_b0 I k ks, J) (by omega) (f_b0_BOK hd hv hcn) ?_
    intro i hi
    dsimp only at hi
    rw [h6] at hi
    omega
  refine LIN_row h1 (f_av_nj _ _ _ _ _ (by decide)) (fun a ha _ => f_av_ne _ _ _ _ _ (by omega))
