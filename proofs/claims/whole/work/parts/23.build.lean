/-! LineMap.build: its loops -/
def f_bl2 (k ks a : Nat) : Nat → Nat → (Nat → Nat → Int) × (Nat → Nat → Int64) → (Nat → Nat → Int) × (Nat → Nat → Int64)
  | 0, _, P => P
  | m + 1, b, P => if (f_addLine P.1 P.2 k ks a b).1 = 0 then f_bl2 k ks a m (b + 1) (f_addLine P.1 P.2 k ks a b).2 else f_bl2 k ks a m (b + 1) (f_hitn (f_addLine P.1 P.2 k ks a b).2 k)
where f_hitn (P : (Nat → Nat → Int) × (Nat → Nat → Int64)) (k : Nat) : (Nat → Nat → Int) × (Nat → Nat → Int64) := (f_hit k (k + 6 + (P.1 k 6 - 1).toNat) (P.1 (k + 6 + (P.1 k 6 - 1).toNat) 3).toNat 0 P.1, P.2)
def f_bl1 (k ks cnt : Nat) : Nat → Nat → (Nat → Nat → Int) × (Nat → Nat → Int64) → (Nat → Nat → Int) × (Nat → Nat → Int64)
  | 0, _, P => P
  | m + 1, a, P => f_bl1 k ks cnt m (a + 1) (f_bl2 k ks a (cnt - (a + 1)) (a + 1) P)
def f_inc7 (I : Nat → Nat → Int) (k : Nat) : Nat → Nat → Int := u2 I k 7 (I k 7 + 1)
def f_av (k : Nat) : Nat → Nat → (Nat → Nat → Int) → Nat → Nat → Int
  | 0, _, I => I
  | m + 1, c, I => if f_isAv I k c = 0 then f_av k m (c + 1) I else f_av k m (c + 1) (f_inc7 I k)
def f_b0 (I : Nat → Nat → Int) (k ks : Nat) : Nat → Nat → Int := f_tk k ks (f_clear I k ks 5).toNat 0 (f_clear I k)
def f_b1 (I : Nat → Nat → Int) (J : Nat → Nat → Int64) (k ks : Nat) : (Nat → Nat → Int) × (Nat → Nat → Int64) := f_bl1 k ks (f_b0 I k ks k 5).toNat (f_b0 I k ks k 5).toNat 0 (f_b0 I k ks, J)
/-- the lines of the state at ks, and what they do to each cell -/
def f_build (I : Nat → Nat → Int) (J : Nat → Nat → Int64) (k ks : Nat) : (Nat → Nat → Int) × (Nat → Nat → Int64) := (f_av k 576 0 (f_b1 I J k ks).1, (f_b1 I J k ks).2)
/-- while the lines are laid -/
def BOK (k : Nat) (I0 : Nat → Nat → Int) (N : Int) (I : Nat → Nat → Int) : Prop := (∀ x, x ≠ k → x ≠ k + 2 → x < k + 6 ∨ k + 28 ≤ x → I x = I0 x) ∧ (∀ j, j ≠ 6 → I k j = I0 k j) ∧ (0 ≤ I k 6 ∧ I k 6 ≤ 22) ∧ (∀ j : Nat, 0 ≤ I (k + 2) j ∧ I (k + 2) j ≤ N) ∧ (∀ j : Nat, 576 ≤ j → I (k + 2) j = 0)
theorem BOK_more {k : Nat} {I0 I : Nat → Nat → Int} {N M : Int} (h : BOK k I0 N I) (hm : N ≤ M) : BOK k I0 M I := ⟨h.1, h.2.1, h.2.2.1, fun j => ⟨(h.2.2.2.1 j).1, Int.le_trans (h.2.2.2.1 j).2 hm⟩, h.2.2.2.2⟩
theorem f_hit_hi (k kl : Nat) : ∀ (m i : Nat) (I : Nat → Nat → Int) (j : Nat), 576 ≤ j → f_hit k kl m i I (k + 2) j = I (k + 2) j
  | 0, _, _, _, _ => rfl
  | m + 1, i, I, j, h => by
    unfold f_hit
    by_cases q : 0 ≤ f_cellAt I kl i ∧ f_cellAt I kl i < 576
    · rw [if_pos q, f_hit_hi k kl m (i + 1) _ j h, u2_nj (by omega)]
    · rw [if_neg q]; exact f_hit_hi k kl m (i + 1) I j h
/-- what the base is while lines are laid -/
def B0 (k ks : Nat) (I0 : Nat → Nat → Int) : Prop := (ks + 6 ≤ k ∨ k + 28 ≤ ks) ∧ (∀ j : Nat, 0 ≤ I0 (k + 4) j ∧ I0 (k + 4) j < 24) ∧ (∀ j : Nat, 0 ≤ I0 (k + 5) j ∧ I0 (k + 5) j < 24) ∧ (0 ≤ I0 k 5 ∧ I0 k 5 ≤ 12) ∧ (∀ j : Nat, j < 3 → 0 ≤ I0 (ks + 2) j ∧ I0 (ks + 2) j ≤ 8) ∧ I0 (ks + 2) 2 ≤ 6
theorem BOK_step {k ks a b : Nat} {I0 : Nat → Nat → Int} {N : Int} {P : (Nat → Nat → Int) × (Nat → Nat → Int64)} (hb0 : B0 k ks I0) (h : BOK k I0 N P.1) (hab : a < b) (hbc : b < (I0 k 5).toNat) :
    ((f_addLine P.1 P.2 k ks a b).1 = 0 ∧ BOK k I0 (N + 60) (f_addLine P.1 P.2 k ks a b).2.1) ∨ ((f_addLine P.1 P.2 k ks a b).1 = 1 ∧ 1 ≤ (f_addLine P.1 P.2 k ks a b).2.1 k 6 ∧ (f_addLine P.1 P.2 k ks a b).2.1 k 6 ≤ 22 ∧ LOK (f_addLine P.1 P.2 k ks a b).2.1 (k + 6 + ((f_addLine P.1 P.2 k ks a b).2.1 k 6 - 1).toNat) ∧ BOK k I0 (N + 60) (f_bl2.f_hitn (f_addLine P.1 P.2 k ks a b).2 k).1) := by
  obtain ⟨hd, ht, hs, hc, hst, hs2⟩ := hb0
  obtain ⟨g1, g2, g3, g4, g5⟩ := h
  have e4 : P.1 (k + 4) = I0 (k + 4) := g1 _ (by omega) (by omega) (by omega)
  have e5 : P.1 (k + 5) = I0 (k + 5) := g1 _ (by omega) (by omega) (by omega)
  have ec : P.1 k 5 = I0 k 5 := g2 5 (by decide)
  have es : P.1 (ks + 2) = I0 (ks + 2) := g1 _ (by omega) (by omega) (by omega)
  have hst2 := hst 2 (by decide)
  obtain ⟨a1, a2, a3⟩ := addLine_keeps (I := P.1) (J := P.2) (a := a) (b := b) hd (by rw [e4]; exact ht) (by rw [e5]; exact hs) (by rw [ec]; exact hc) g3 (by rw [es]; omega) hab (by rw [ec]; exact hbc)
  generalize f_addLine P.1 P.2 k ks a b = r at a1 a2 a3
  have e2 : r.2.1 (k + 2) = P.1 (k + 2) := a1 _ (by omega) (by omega)
  rcases a3 with ⟨q1, q2⟩ | ⟨q1, q2, q3, q4⟩
  · refine Or.inl ⟨q1, fun x h1 h2 h3 => (a1 x h1 h3).trans (g1 x h1 h2 h3), fun j hj => (a2 j hj).trans (g2 j hj), by rw [q2]; exact g3, ?_, ?_⟩
    · rw [e2]; intro j; have := g4 j; omega
    · rw [e2]; exact g5
  · have eL : k + 6 + (r.2.1 k 6 - 1).toNat = k + 6 + (P.1 k 6).toNat := by omega
    refine Or.inr ⟨q1, by omega, by omega, by rw [eL]; exact q4, ?_⟩
    unfold f_bl2.f_hitn
    dsimp only
    rw [eL]
    have hL3 : 0 ≤ r.2.1 (k + 6 + (P.1 k 6).toNat) 3 ∧ r.2.1 (k + 6 + (P.1 k 6).toNat) 3 ≤ 60 := q4.2.2.2.2.2
    refine ⟨fun x h1 h2 h3 => ?_, fun j hj => ?_, ?_, ?_, ?_⟩
    · rw [f_hit_ne _ _ _ _ _ _ h2]; exact (a1 x h1 h3).trans (g1 x h1 h2 h3)
    · rw [f_hit_ne _ _ _ _ _ _ (by omega)]; exact (a2 j hj).trans (g2 j hj)
    · rw [f_hit_ne _ _ _ _ _ _ (by omega), q2]; omega
    · intro j
      have := f_hit_rg k (k + 6 + (P.1 k 6).toNat) (B := N) (r.2.1 (k + 6 + (P.1 k 6).toNat) 3).toNat 0 r.2.1 (by rw [e2]; exact g4) j
      omega
    · intro j hj
      rw [f_hit_hi _ _ _ _ _ _ hj, e2]; exact g5 j hj
theorem BOK_bl2 {k ks a : Nat} {I0 : Nat → Nat → Int} (hb0 : B0 k ks I0) : ∀ (m b : Nat) (N : Int) (P : (Nat → Nat → Int) × (Nat → Nat → Int64)), a < b → b + m ≤ (I0 k 5).toNat → BOK k I0 N P.1 → BOK k I0 (N + 60 * m) (f_bl2 k ks a m b P).1
  | 0, _, N, _, _, _, h => BOK_more h (by omega)
  | m + 1, b, N, P, hab, hm, h => by
    unfold f_bl2
    rcases BOK_step hb0 h hab (by omega : b < (I0 k 5).toNat) with ⟨q1, q2⟩ | ⟨q1, -, -, -, q2⟩
    · rw [if_pos q1]
      exact BOK_more (BOK_bl2 hb0 m (b + 1) (N + 60) _ (by omega) (by omega) q2) (by omega)
    · rw [if_neg (by omega)]
      exact BOK_more (BOK_bl2 hb0 m (b + 1) (N + 60) _ (by omega) (by omega) q2) (by omega)
theorem BOK_bl1 {k ks cnt : Nat} {I0 : Nat → Nat → Int} (hb0 : B0 k ks I0) (hcnt : (I0 k 5).toNat = cnt) : ∀ (m a : Nat) (N : Int) (P : (Nat → Nat → Int) × (Nat → Nat → Int64)), a + m = cnt → BOK k I0 N P.1 → BOK k I0 (N + 720 * m) (f_bl1 k ks cnt m a P).1
  | 0, _, N, _, _, h => BOK_more h (by omega)
  | m + 1, a, N, P, hm, h => by
    unfold f_bl1
    have h1 := BOK_bl2 (a := a) hb0 (cnt - (a + 1)) (a + 1) N P (by omega) (by omega) h
    have hc := hb0.2.2.2.1
    exact BOK_more (BOK_bl1 hb0 hcnt m (a + 1) (N + 720) _ (by omega) (BOK_more h1 (by omega))) (by omega)
set_option maxHeartbeats 2000000 in
set_option maxRecDepth 100000 in
theorem s_X2_build_lp2 {l : Launch} {E : QE} {T : Nat → Nat × Nat} {R : Nat → Nat → Option Nat} {n z : Nat} {k : Nat} (hk : LmB T R n k) {ks : Nat} (hks : StB T R n ks) {K : Option Value → QW → Prop} {a : Nat} (I0 : Nat → Nat → Int) (hb0 : B0 k ks I0) : ∀ (m b : Nat) (N : Int) (P : (Nat → Nat → Int) × (Nat → Nat → Int64)), a < b → b + m = (I0 k 5).toNat → BOK k I0 N P.1 → (∀ L3 : Int, Go l E Y_X2_build 0 0 61 [some (.ref (E.1 + k)), some (.ref (E.1 + ks)), some (.int (iz (a : Int))), some (.int (iz L3))] [] (T, (f_bl2 k ks a m b P).1, (f_bl2 k ks a m b P).2, R, n, z) K) → Go l E Y_X2_build 0 0 23 [some (.ref (E.1 + k)), some (.ref (E.1 + ks)), some (.int (iz (a : Int))), some (.int (iz (b : Int)))] [] (T, P.1, P.2, R, n, z) K := by
  obtain ⟨t0, t1, t2, t3, t4, t5, r0, r1, r2, r3, r4, rl, hn⟩ := hk
  obtain ⟨v0, v1, v2, v3, v4, v5, q0, q1, q2, q3, q4, hn2⟩ := hks
  intro m
  induction m with
  | zero =>
    intro b N P hab hm hB hend
    obtain ⟨hd, ht, hs, hc, hst, hs2⟩ := id hb0
    obtain ⟨g1, g2, g3, g4, g5⟩ := id hB
    have e4 : P.1 (k + 4) = I0 (k + 4) := g1 _ (by omega) (by omega) (by omega)
    have e5 : P.1 (k + 5) = I0 (k + 5) := g1 _ (by omega) (by omega) (by omega)
    have ec : P.1 k 5 = I0 k 5 := g2 5 (by decide)
    have es : P.1 (ks + 2) = I0 (ks + 2) := g1 _ (by omega) (by omega) (by omega)
    
    refine g_iload3 (Y := Y_X2_build) (pc' := 24) dX2_build_23 rfl ?_
    refine g_aload0 (Y := Y_X2_build) (pc' := 25) dX2_build_24 rfl ?_
    refine g_getI (Y := Y_X2_build) (pc' := 28) dX2_build_25 rfl fl_X2_31 rfl (by assumption) (by omega) ?_
    refine g_icmp_ge (Y := Y_X2_build) (t := 61) (pc' := 31) dX2_build_28 (by decide) rfl ⟨by omega, by omega⟩ ⟨by omega, by omega⟩ (fun h28 => ?_) (fun h28 => ?_)
    · exact hend _
    · exfalso; omega
  | succ m ih =>
    intro b N P hab hm hB hend
    obtain ⟨hd, ht, hs, hc, hst, hs2⟩ := id hb0
    obtain ⟨g1, g2, g3, g4, g5⟩ := id hB
    have e4 : P.1 (k + 4) = I0 (k + 4) := g1 _ (by omega) (by omega) (by omega)
    have e5 : P.1 (k + 5) = I0 (k + 5) := g1 _ (by omega) (by omega) (by omega)
    have ec : P.1 k 5 = I0 k 5 := g2 5 (by decide)
    have es : P.1 (ks + 2) = I0 (ks + 2) := g1 _ (by omega) (by omega) (by omega)
    have hr := BOK_step hb0 hB hab (by omega : b < (I0 k 5).toNat)
    have hsp := s_X2_addLine (l := l) (E := E) (J := P.2) (I := P.1) (z := z) ⟨t0, t1, t2, t3, t4, t5, r0, r1, r2, r3, r4, rl, hn⟩ ⟨v0, v1, v2, v3, v4, v5, q0, q1, q2, q3, q4, hn2⟩ hd (by rw [e4]; exact ht) (by rw [e5]; exact hs) (by rw [ec]; exact hc) g3 (by rw [es]; exact hst) (by rw [es]; exact hs2) a b hab (by rw [ec]; omega)
    have e : f_bl2 k ks a (m + 1) b P = if (f_addLine P.1 P.2 k ks a b).1 = 0 then f_bl2 k ks a m (b + 1) (f_addLine P.1 P.2 k ks a b).2 else f_bl2 k ks a m (b + 1) (f_bl2.f_hitn (f_addLine P.1 P.2 k ks a b).2 k) := rfl
    rw [e] at hend
    clear e
    generalize (f_addLine P.1 P.2 k ks a b) = r at hr hsp hend
    have hr01 : r.1 = 0 ∨ r.1 = 1 := by rcases hr with h | h; exact Or.inl h.1; exact Or.inr h.1
    refine g_iload3 (Y := Y_X2_build) (pc' := 24) dX2_build_23 rfl ?_
    refine g_aload0 (Y := Y_X2_build) (pc' := 25) dX2_build_24 rfl ?_
    refine g_getI (Y := Y_X2_build) (pc' := 28) dX2_build_25 rfl fl_X2_31 rfl (by assumption) (by omega) ?_
    refine g_icmp_ge (Y := Y_X2_build) (t := 61) (pc' := 31) dX2_build_28 (by decide) rfl ⟨by omega, by omega⟩ ⟨by omega, by omega⟩ (fun h28 => ?_) (fun h28 => ?_)
    · exfalso; omega
    · refine g_aload0 (Y := Y_X2_build) (pc' := 32) dX2_build_31 rfl ?_
      refine g_aload1 (Y := Y_X2_build) (pc' := 33) dX2_build_32 rfl ?_
      refine g_iload2 (Y := Y_X2_build) (pc' := 34) dX2_build_33 rfl ?_
      refine g_iload3 (Y := Y_X2_build) (pc' := 35) dX2_build_34 rfl ?_
      refine g_callVv (Y := Y_X2_build) (c := 2) (hsp) (pc' := 38) dX2_build_35 rfl cv_X2_49 rfl (by assumption) (by show _ < n; omega) ⟨by decide, _, rfl, rfl⟩ rfl rfl rfl rfl ?_
      refine g_if_eq (Y := Y_X2_build) (t := 55) (pc' := 41) dX2_build_38 (by decide) rfl ⟨by omega, by omega⟩ (fun h38 => ?_) (fun h38 => ?_)
      · rw [if_pos h38] at hend
        have hB2 : BOK k I0 (N + 60) r.2.1 := by rcases hr with q | q; exact q.2; exact absurd h38 (by rw [q.1]; decide)
        refine g_iinc3 (Y := Y_X2_build) (pc' := 58) dX2_build_55 rfl (Nat.le_of_ble_eq_true rfl) rfl ?_
        refine g_goto (Y := Y_X2_build) (t := 23) dX2_build_58 (by decide) ?_
        first
          | exact ih (b + 1) (N + 60) r.2 (by omega) (by omega) hB2 hend
          | exact ih (b + 1) (N + 60) (f_bl2.f_hitn r.2 k) (by omega) (by omega) w4 hend
      · rw [if_neg h38] at hend
        obtain ⟨-, w1, w2, w3, w4⟩ : r.1 = 1 ∧ 1 ≤ r.2.1 k 6 ∧ r.2.1 k 6 ≤ 22 ∧ LOK r.2.1 (k + 6 + (r.2.1 k 6 - 1).toNat) ∧ BOK k I0 (N + 60) (f_bl2.f_hitn r.2 k).1 := by rcases hr with q | q; exact absurd q.1 h38; exact q
        refine g_aload0 (Y := Y_X2_build) (pc' := 42) dX2_build_41 rfl ?_
        refine g_aload0 (Y := Y_X2_build) (pc' := 43) dX2_build_42 rfl ?_
        refine g_aload0 (Y := Y_X2_build) (pc' := 44) dX2_build_43 rfl ?_
        refine g_getI (Y := Y_X2_build) (pc' := 47) dX2_build_44 rfl fl_X2_35 rfl (by assumption) (by omega) ?_
        refine g_iconst (Y := Y_X2_build) (pc' := 48) dX2_build_47 rfl ?_
        refine g_isub (Y := Y_X2_build) (pc' := 49) dX2_build_48 rfl ?_
        rw [show iz (r.2.1 k 6 - 1) = iz (((r.2.1 k 6 - 1).toNat : Nat) : Int) by rw [show (((r.2.1 k 6 - 1).toNat : Nat) : Int) = r.2.1 k 6 - 1 by omega]]
        refine g_callVv (Y := Y_X2_build) (c := 2) (s_X2_lineAt_in ⟨t0, t1, t2, t3, t4, t5, r0, r1, r2, r3, r4, rl, hn⟩ ⟨by omega, by omega⟩ (r.2.1 k 6 - 1).toNat (by omega)) (pc' := 52) dX2_build_49 rfl cv_X2_53 rfl (by assumption) (by show _ < n; omega) ⟨by decide, _, rfl, rfl⟩ rfl rfl rfl rfl ?_
        refine g_callVn (Y := Y_X2_build) (c := 2) (s_X2_hitCells ⟨t0, t1, t2, t3, t4, t5, r0, r1, r2, r3, r4, rl, hn⟩ (kl := k + 6 + (r.2.1 k 6 - 1).toNat) ⟨(rl _ (by omega)).2, by omega⟩ (by omega) w3.1 w3.2.1 w3.2.2.1 w3.2.2.2.1 w3.2.2.2.2.1 w3.2.2.2.2.2) (pc' := 55) dX2_build_52 rfl cv_X2_57 rfl (by assumption) (by show _ < n; omega) ⟨by decide, _, rfl, rfl⟩ rfl rfl rfl rfl ?_
        refine g_iinc3 (Y := Y_X2_build) (pc' := 58) dX2_build_55 rfl (Nat.le_of_ble_eq_true rfl) rfl ?_
        refine g_goto (Y := Y_X2_build) (t := 23) dX2_build_58 (by decide) ?_
        first
          | exact ih (b + 1) (N + 60) r.2 (by omega) (by omega) hB2 hend
          | exact ih (b + 1) (N + 60) (f_bl2.f_hitn r.2 k) (by omega) (by omega) w4 hend
set_option maxHeartbeats 2000000 in
set_option maxRecDepth 100000 in
theorem s_X2_build_lp1 {l : Launch} {E : QE} {T : Nat → Nat × Nat} {R : Nat → Nat → Option Nat} {n z : Nat} {k : Nat} (hk : LmB T R n k) {ks : Nat} (hks : StB T R n ks) {K : Option Value → QW → Prop} (I0 : Nat → Nat → Int) (hb0 : B0 k ks I0) : ∀ (m a : Nat) (N : Int) (P : (Nat → Nat → Int) × (Nat → Nat → Int64)) (x3 : Option Value), a + m = (I0 k 5).toNat → BOK k I0 N P.1 → (∀ (L2 : Int) L3, Go l E Y_X2_build 0 0 67 [some (.ref (E.1 + k)), some (.ref (E.1 + ks)), some (.int (iz L2)), L3] [] (T, (f_bl1 k ks (I0 k 5).toNat m a P).1, (f_bl1 k ks (I0 k 5).toNat m a P).2, R, n, z) K) → Go l E Y_X2_build 0 0 11 [some (.ref (E.1 + k)), some (.ref (E.1 + ks)), some (.int (iz (a : Int))), x3] [] (T, P.1, P.2, R, n, z) K := by
  obtain ⟨t0, t1, t2, t3, t4, t5, r0, r1, r2, r3, r4, rl, hn⟩ := hk
  obtain ⟨v0, v1, v2, v3, v4, v5, q0, q1, q2, q3, q4, hn2⟩ := hks
  intro m
  induction m with
  | zero =>
    intro a N P x3 hm hB hend
    obtain ⟨hd, ht, hs, hc, hst, hs2⟩ := id hb0
    obtain ⟨g1, g2, g3, g4, g5⟩ := id hB
    have e4 : P.1 (k + 4) = I0 (k + 4) := g1 _ (by omega) (by omega) (by omega)
    have e5 : P.1 (k + 5) = I0 (k + 5) := g1 _ (by omega) (by omega) (by omega)
    have ec : P.1 k 5 = I0 k 5 := g2 5 (by decide)
    have es : P.1 (ks + 2) = I0 (ks + 2) := g1 _ (by omega) (by omega) (by omega)
    
    refine g_iload2 (Y := Y_X2_build) (pc' := 12) dX2_build_11 rfl ?_
    refine g_aload0 (Y := Y_X2_build) (pc' := 13) dX2_build_12 rfl ?_
    refine g_getI (Y := Y_X2_build) (pc' := 16) dX2_build_13 rfl fl_X2_31 rfl (by assumption) (by omega) ?_
    refine g_icmp_ge (Y := Y_X2_build) (t := 67) (pc' := 19) dX2_build_16 (by decide) rfl ⟨by omega, by omega⟩ ⟨by omega, by omega⟩ (fun h16 => ?_) (fun h16 => ?_)
    · exact hend _ _
    · exfalso; omega
  | succ m ih =>
    intro a N P x3 hm hB hend
    obtain ⟨hd, ht, hs, hc, hst, hs2⟩ := id hb0
    obtain ⟨g1, g2, g3, g4, g5⟩ := id hB
    have e4 : P.1 (k + 4) = I0 (k + 4) := g1 _ (by omega) (by omega) (by omega)
    have e5 : P.1 (k + 5) = I0 (k + 5) := g1 _ (by omega) (by omega) (by omega)
    have ec : P.1 k 5 = I0 k 5 := g2 5 (by decide)
    have es : P.1 (ks + 2) = I0 (ks + 2) := g1 _ (by omega) (by omega) (by omega)
    
    refine g_iload2 (Y := Y_X2_build) (pc' := 12) dX2_build_11 rfl ?_
    refine g_aload0 (Y := Y_X2_build) (pc' := 13) dX2_build_12 rfl ?_
    refine g_getI (Y := Y_X2_build) (pc' := 16) dX2_build_13 rfl fl_X2_31 rfl (by assumption) (by omega) ?_
    refine g_icmp_ge (Y := Y_X2_build) (t := 67) (pc' := 19) dX2_build_16 (by decide) rfl ⟨by omega, by omega⟩ ⟨by omega, by omega⟩ (fun h16 => ?_) (fun h16 => ?_)
    · exfalso; omega
    · refine g_iload2 (Y := Y_X2_build) (pc' := 20) dX2_build_19 rfl ?_
      refine g_iconst (Y := Y_X2_build) (pc' := 21) dX2_build_20 rfl ?_
      refine g_iadd (Y := Y_X2_build) (pc' := 22) dX2_build_21 rfl ?_
      refine g_istore3 (Y := Y_X2_build) (pc' := 23) dX2_build_22 rfl (Nat.le_of_ble_eq_true rfl) rfl ?_
      refine s_X2_build_lp2 ⟨t0, t1, t2, t3, t4, t5, r0, r1, r2, r3, r4, rl, hn⟩ ⟨v0, v1, v2, v3, v4, v5, q0, q1, q2, q3, q4, hn2⟩ I0 hb0 ((I0 k 5).toNat - (a + 1)) (a + 1) N P (by omega) (by omega) hB (fun L3 => ?_)
      refine g_iinc2 (Y := Y_X2_build) (pc' := 64) dX2_build_61 rfl (Nat.le_of_ble_eq_true rfl) rfl ?_
      refine g_goto (Y := Y_X2_build) (t := 11) dX2_build_64 (by decide) ?_
      exact ih (a + 1) _ _ _ (by omega) (BOK_bl2 hb0 _ _ N P (by omega) (by omega) hB) hend
set_option maxHeartbeats 2000000 in
set_option maxRecDepth 100000 in
theorem s_X2_build_av {l : Launch} {E : QE} {T : Nat → Nat × Nat} {J : Nat → Nat → Int64} {R : Nat → Nat → Option Nat} {n z : Nat} {k : Nat} (hk : LmB T R n k) {ks : Nat} {K : Option Value → QW → Prop} : ∀ (m c : Nat) (I : Nat → Nat → Int) (x3 : Option Value), c + m = 576 → (∀ j : Nat, I (k + 3) j = 0 ∨ I (k + 3) j = 1) → (∀ j : Nat, -2147483648 ≤ I (k + 2) j ∧ I (k + 2) j < 2147483648) → (∀ L2 : Int, ∀ L3, Go l E Y_X2_build 0 0 100 [some (.ref (E.1 + k)), some (.ref (E.1 + ks)), some (.int (iz L2)), L3] [] (T, f_av k m c I, J, R, n, z) K) → Go l E Y_X2_build 0 0 69 [some (.ref (E.1 + k)), some (.ref (E.1 + ks)), some (.int (iz (c : Int))), x3] [] (T, I, J, R, n, z) K := by
  obtain ⟨t0, t1, t2, t3, t4, t5, r0, r1, r2, r3, r4, rl, hn⟩ := hk
  intro m
  induction m with
  | zero =>
    intro c I x3 hm hb hh hend
    refine g_iload2 (Y := Y_X2_build) (pc' := 70) dX2_build_69 rfl ?_
    refine g_sipush (Y := Y_X2_build) (pc' := 73) dX2_build_70 rfl (by decide) ?_
    refine g_icmp_ge (Y := Y_X2_build) (t := 100) (pc' := 76) dX2_build_73 (by decide) rfl ⟨by omega, by omega⟩ ⟨by omega, by omega⟩ (fun h73 => ?_) (fun h73 => ?_)
    · exact hend _ _
    · exfalso; omega
  | succ m ih =>
    intro c I x3 hm hb hh hend
    have hav : f_isAv I k c = 0 ∨ f_isAv I k c = 1 := by unfold f_isAv; split <;> simp
    refine g_iload2 (Y := Y_X2_build) (pc' := 70) dX2_build_69 rfl ?_
    refine g_sipush (Y := Y_X2_build) (pc' := 73) dX2_build_70 rfl (by decide) ?_
    refine g_icmp_ge (Y := Y_X2_build) (t := 100) (pc' := 76) dX2_build_73 (by decide) rfl ⟨by omega, by omega⟩ ⟨by omega, by omega⟩ (fun h73 => ?_) (fun h73 => ?_)
    · exfalso; omega
    · refine g_aload0 (Y := Y_X2_build) (pc' := 77) dX2_build_76 rfl ?_
      refine g_iload2 (Y := Y_X2_build) (pc' := 78) dX2_build_77 rfl ?_
      refine g_callVv (Y := Y_X2_build) (c := 2) (s_X2_isAvoided ⟨t0, t1, t2, t3, t4, t5, r0, r1, r2, r3, r4, rl, hn⟩ (c : Int) ⟨by omega, by omega⟩ hb hh) (pc' := 81) dX2_build_78 rfl cv_X2_61 rfl (by assumption) (by show _ < n; omega) ⟨by decide, _, rfl, rfl⟩ rfl rfl rfl rfl ?_
      refine g_if_eq (Y := Y_X2_build) (t := 94) (pc' := 84) dX2_build_81 (by decide) rfl ⟨by omega, by omega⟩ (fun h81 => ?_) (fun h81 => ?_)
      · have e : f_av k (m + 1) c I = f_av k m (c + 1) I := if_pos h81
        rw [e] at hend
        refine g_iinc2 (Y := Y_X2_build) (pc' := 97) dX2_build_94 rfl (Nat.le_of_ble_eq_true rfl) rfl ?_
        refine g_goto (Y := Y_X2_build) (t := 69) dX2_build_97 (by decide) ?_
        first
          | exact ih (c + 1) I _ (by omega) hb hh hend
          | exact ih (c + 1) (f_inc7 I k) _ (by omega) (by unfold f_inc7; rw [u2_ne (by omega)]; exact hb) (by unfold f_inc7; rw [u2_ne (by omega)]; exact hh) hend
      · have e : f_av k (m + 1) c I = f_av k m (c + 1) (f_inc7 I k) := if_neg h81
        rw [e] at hend
        refine g_aload0 (Y := Y_X2_build) (pc' := 85) dX2_build_84 rfl ?_
        refine g_dup (Y := Y_X2_build) (pc' := 86) dX2_build_85 rfl rfl ?_
        refine g_getI (Y := Y_X2_build) (pc' := 89) dX2_build_86 rfl fl_X2_38 rfl (by assumption) (by omega) ?_
        refine g_iconst (Y := Y_X2_build) (pc' := 90) dX2_build_89 rfl ?_
        refine g_iadd (Y := Y_X2_build) (pc' := 91) dX2_build_90 rfl ?_
        refine g_putI (Y := Y_X2_build) (pc' := 94) dX2_build_91 rfl fp_X2_38 rfl (by assumption) (by omega) ?_
        refine g_iinc2 (Y := Y_X2_build) (pc' := 97) dX2_build_94 rfl (Nat.le_of_ble_eq_true rfl) rfl ?_
        refine g_goto (Y := Y_X2_build) (t := 69) dX2_build_97 (by decide) ?_
        first
          | exact ih (c + 1) I _ (by omega) hb hh hend
          | exact ih (c + 1) (f_inc7 I k) _ (by omega) (by unfold f_inc7; rw [u2_ne (by omega)]; exact hb) (by unfold f_inc7; rw [u2_ne (by omega)]; exact hh) hend
