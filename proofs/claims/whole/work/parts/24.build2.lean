/-! LineMap.build -/
theorem f_b0_TOK {I : Nat → Nat → Int} {k ks : Nat} (hd : ks + 6 ≤ k ∨ k + 28 ≤ ks) (hv : LmV I k) (hcn : 0 ≤ I ks 5 ∧ I ks 5 ≤ 12) : TOK k (f_clear I k) 12 (f_b0 I k ks) := by
  obtain ⟨v4, v5, v2, v2h, v3, vc, v6⟩ := hv
  have e5 : f_clear I k ks 5 = I ks 5 := congrFun (f_clear_ne (by omega) (by omega) (by omega)) 5
  unfold f_b0
  rw [e5]
  refine TOK_more (TOK_tk (I ks 5).toNat 0 0 _ ⟨fun _ _ _ _ _ => rfl, fun _ _ => rfl, ?_, fun j => ?_, ?_, ?_⟩) (by omega)
  · rw [f_clear_k, if_pos (by decide)]; decide
  · rw [f_clear_at (Or.inr rfl)]
    split
    · exact Or.inl rfl
    · exact v3 j
  · rw [f_clear_ne (by omega) (by omega) (by omega)]; exact v4
  · rw [f_clear_ne (by omega) (by omega) (by omega)]; exact v5
theorem f_b0_B0 {I : Nat → Nat → Int} {k ks : Nat} (hd : ks + 6 ≤ k ∨ k + 28 ≤ ks) (hv : LmV I k) (hcn : 0 ≤ I ks 5 ∧ I ks 5 ≤ 12) (hset : ∀ j : Nat, j < 3 → 0 ≤ I (ks + 2) j ∧ I (ks + 2) j ≤ 8) (hset2 : I (ks + 2) 2 ≤ 6) : B0 k ks (f_b0 I k ks) := by
  have h := f_b0_TOK hd hv hcn
  have es : f_b0 I k ks (ks + 2) = I (ks + 2) := (h.1 (ks + 2) (by omega) (by omega) (by omega) (by omega)).trans (f_clear_ne (by omega) (by omega) (by omega))
  exact ⟨hd, h.2.2.2.2.1, h.2.2.2.2.2, h.2.2.1, by rw [es]; exact hset, by rw [es]; exact hset2⟩
theorem f_b0_BOK {I : Nat → Nat → Int} {k ks : Nat} (hd : ks + 6 ≤ k ∨ k + 28 ≤ ks) (hv : LmV I k) (hcn : 0 ≤ I ks 5 ∧ I ks 5 ≤ 12) : BOK k (f_b0 I k ks) 0 (f_b0 I k ks) := by
  have h := f_b0_TOK hd hv hcn
  have e2 : f_b0 I k ks (k + 2) = f_clear I k (k + 2) := h.1 _ (by omega) (by omega) (by omega) (by omega)
  refine ⟨fun _ _ _ _ => rfl, fun _ _ => rfl, ?_, fun j => ?_, fun j hj => ?_⟩
  · rw [h.2.1 6 (by decide), f_clear_k, if_pos (by decide)]; decide
  · rw [e2, f_clear_at (Or.inl rfl)]
    split
    · decide
    · rw [hv.2.2.2.1 j (by omega)]; decide
  · rw [e2, f_clear_at (Or.inl rfl), if_neg (by omega)]; exact hv.2.2.2.1 j hj
theorem f_b1_BOK {I : Nat → Nat → Int} {J : Nat → Nat → Int64} {k ks : Nat} (hd : ks + 6 ≤ k ∨ k + 28 ≤ ks) (hv : LmV I k) (hcn : 0 ≤ I ks 5 ∧ I ks 5 ≤ 12) (hset : ∀ j : Nat, j < 3 → 0 ≤ I (ks + 2) j ∧ I (ks + 2) j ≤ 8) (hset2 : I (ks + 2) 2 ≤ 6) : BOK k (f_b0 I k ks) 8640 (f_b1 I J k ks).1 := by
  have hb := f_b0_B0 hd hv hcn hset hset2
  exact BOK_more (BOK_bl1 hb rfl _ 0 0 (f_b0 I k ks, J) (by omega) (f_b0_BOK hd hv hcn)) (by have := hb.2.2.2.1; omega)
theorem f_av_ne (k : Nat) : ∀ (m c : Nat) (I : Nat → Nat → Int) (a : Nat), a ≠ k → f_av k m c I a = I a
  | 0, _, _, _, _ => rfl
  | m + 1, c, I, a, h => by
    unfold f_av
    split
    · exact f_av_ne k m (c + 1) I a h
    · rw [f_av_ne k m (c + 1) _ a h]; unfold f_inc7; exact u2_ne h
theorem f_av_nj (k : Nat) : ∀ (m c : Nat) (I : Nat → Nat → Int) (j : Nat), j ≠ 7 → f_av k m c I k j = I k j
  | 0, _, _, _, _ => rfl
  | m + 1, c, I, j, h => by
    unfold f_av
    split
    · exact f_av_nj k m (c + 1) I j h
    · rw [f_av_nj k m (c + 1) _ j h]; unfold f_inc7; exact u2_nj h
theorem f_jn_J (k kl : Nat) (mq : Int) : ∀ (m i : Nat) (P : (Nat → Nat → Int) × (Nat → Nat → Int64)) (x : Nat), x ≠ kl → (f_jn k kl mq m i P).2 x = P.2 x
  | 0, _, _, _, _ => rfl
  | m + 1, i, P, x, h => by
    unfold f_jn
    split
    · rw [f_jn_J k kl mq m (i + 1) _ x h]; show u2 _ _ _ _ x = _; exact u2_ne h
    · exact f_jn_J k kl mq m (i + 1) P x h
theorem f_addLine_J {I : Nat → Nat → Int} {J : Nat → Nat → Int64} {k ks a b x : Nat} (h6 : 0 ≤ I k 6) (hx : x < k + 6 ∨ k + 28 ≤ x) : (f_addLine I J k ks a b).2.2 x = J x := by
  unfold f_addLine
  split
  · rename_i hc
    have e : (f_jd I J k a b).2 x = J x := by
      unfold f_jd
      rw [f_jn_J _ _ _ _ _ _ _ (by omega)]
      show u2 J _ _ _ x = _
      exact u2_ne (by omega)
    unfold f_add2
    split <;> exact e
  · rfl
theorem f_bl2_J {k ks a : Nat} {I0 : Nat → Nat → Int} (hb0 : B0 k ks I0) {x : Nat} (hx : x < k + 6 ∨ k + 28 ≤ x) : ∀ (m b : Nat) (N : Int) (P : (Nat → Nat → Int) × (Nat → Nat → Int64)), a < b → b + m ≤ (I0 k 5).toNat → BOK k I0 N P.1 → (f_bl2 k ks a m b P).2 x = P.2 x
  | 0, _, _, _, _, _, _ => rfl
  | m + 1, b, N, P, hab, hm, h => by
    have e := f_addLine_J (I := P.1) (J := P.2) (k := k) (ks := ks) (a := a) (b := b) h.2.2.1.1 hx
    unfold f_bl2
    rcases BOK_step hb0 h hab (by omega : b < (I0 k 5).toNat) with ⟨q1, q2⟩ | ⟨q1, -, -, -, q2⟩
    · rw [if_pos q1, f_bl2_J hb0 hx m (b + 1) (N + 60) _ (by omega) (by omega) q2]
      exact e
    · rw [if_neg (by omega), f_bl2_J hb0 hx m (b + 1) (N + 60) _ (by omega) (by omega) q2]
      exact e
theorem f_bl1_J {k ks cnt : Nat} {I0 : Nat → Nat → Int} (hb0 : B0 k ks I0) (hcnt : (I0 k 5).toNat = cnt) {x : Nat} (hx : x < k + 6 ∨ k + 28 ≤ x) : ∀ (m a : Nat) (N : Int) (P : (Nat → Nat → Int) × (Nat → Nat → Int64)), a + m = cnt → BOK k I0 N P.1 → (f_bl1 k ks cnt m a P).2 x = P.2 x
  | 0, _, _, _, _, _ => rfl
  | m + 1, a, N, P, hm, h => by
    unfold f_bl1
    have h1 := BOK_bl2 (a := a) hb0 (cnt - (a + 1)) (a + 1) N P (by omega) (by omega) h
    rw [f_bl1_J hb0 hcnt hx m (a + 1) _ _ (by omega) h1, f_bl2_J hb0 hx _ _ N P (by omega) (by omega) h]
/-- what build keeps, and what it leaves -/
theorem f_build_ne {I : Nat → Nat → Int} {J : Nat → Nat → Int64} {k ks x : Nat} (hd : ks + 6 ≤ k ∨ k + 28 ≤ ks) (hv : LmV I k) (hcn : 0 ≤ I ks 5 ∧ I ks 5 ≤ 12) (hset : ∀ j : Nat, j < 3 → 0 ≤ I (ks + 2) j ∧ I (ks + 2) j ≤ 8) (hset2 : I (ks + 2) 2 ≤ 6) (hx : x < k ∨ k + 28 ≤ x ∨ x = k + 1) : (f_build I J k ks).1 x = I x := by
  have h1 := f_b1_BOK (J := J) hd hv hcn hset hset2
  have h0 := f_b0_TOK hd hv hcn
  show f_av k 576 0 (f_b1 I J k ks).1 x = I x
  rw [f_av_ne k _ _ _ _ (by omega), h1.1 x (by omega) (by omega) (by omega), h0.1 x (by omega) (by omega) (by omega) (by omega)]
  exact f_clear_ne (by omega) (by omega) (by omega)
theorem f_build_J {I : Nat → Nat → Int} {J : Nat → Nat → Int64} {k ks x : Nat} (hd : ks + 6 ≤ k ∨ k + 28 ≤ ks) (hv : LmV I k) (hcn : 0 ≤ I ks 5 ∧ I ks 5 ≤ 12) (hset : ∀ j : Nat, j < 3 → 0 ≤ I (ks + 2) j ∧ I (ks + 2) j ≤ 8) (hset2 : I (ks + 2) 2 ≤ 6) (hx : x < k + 6 ∨ k + 28 ≤ x) : (f_build I J k ks).2 x = J x := by
  show (f_b1 I J k ks).2 x = J x
  unfold f_b1
  exact f_bl1_J (f_b0_B0 hd hv hcn hset hset2) rfl hx _ 0 0 _ (by omega) (f_b0_BOK hd hv hcn)
theorem f_build_LmV {I : Nat → Nat → Int} {J : Nat → Nat → Int64} {k ks : Nat} (hd : ks + 6 ≤ k ∨ k + 28 ≤ ks) (hv : LmV I k) (hcn : 0 ≤ I ks 5 ∧ I ks 5 ≤ 12) (hset : ∀ j : Nat, j < 3 → 0 ≤ I (ks + 2) j ∧ I (ks + 2) j ≤ 8) (hset2 : I (ks + 2) 2 ≤ 6) : LmV (f_build I J k ks).1 k := by
  have h1 := f_b1_BOK (J := J) hd hv hcn hset hset2
  have h0 := f_b0_TOK hd hv hcn
  obtain ⟨g1, g2, g3, g4, g5⟩ := h1
  have r : ∀ x, x ≠ k → (f_build I J k ks).1 x = (f_b1 I J k ks).1 x := fun x hx => f_av_ne k _ _ _ _ hx
  have rk : ∀ j, j ≠ 7 → (f_build I J k ks).1 k j = (f_b1 I J k ks).1 k j := fun j hj => f_av_nj k _ _ _ j hj
  refine ⟨?_, ?_, ?_, ?_, ?_, ?_, ?_⟩
  · rw [r _ (by omega), g1 _ (by omega) (by omega) (by omega)]; exact h0.2.2.2.2.1
  · rw [r _ (by omega), g1 _ (by omega) (by omega) (by omega)]; exact h0.2.2.2.2.2
  · rw [r _ (by omega)]; intro j; have := g4 j; omega
  · rw [r _ (by omega)]; exact g5
  · rw [r _ (by omega), g1 _ (by omega) (by omega) (by omega)]; exact h0.2.2.2.1
  · rw [rk 5 (by decide), g2 5 (by decide)]; exact h0.2.2.1
  · rw [rk 6 (by decide)]; exact g3
set_option maxHeartbeats 2000000 in
set_option maxRecDepth 100000 in
theorem s_X2_build {l : Launch} {E : QE} {T : Nat → Nat × Nat} {I : Nat → Nat → Int} {J : Nat → Nat → Int64} {R : Nat → Nat → Option Nat} {n z : Nat} {k : Nat} (hk : LmB T R n k) {ks : Nat} (hks : StB T R n ks) (hdj : ks + 6 ≤ k ∨ k + 28 ≤ ks) (hv : LmV I k) (hcn : 0 ≤ I ks 5 ∧ I ks 5 ≤ 12) (hsp : ∀ j : Nat, -2147483648 ≤ I (ks + 1) j ∧ I (ks + 1) j < 2147483648) (hset : ∀ j : Nat, j < 3 → 0 ≤ I (ks + 2) j ∧ I (ks + 2) j ≤ 8) (hset2 : I (ks + 2) 2 ≤ 6) : SpN l E Y_X2_build [.ref (E.1 + k), .ref (E.1 + ks)] (T, I, J, R, n, z) (T, (f_build I J k ks).1, (f_build I J k ks).2, R, n, z) := by
  obtain ⟨t0, t1, t2, t3, t4, t5, r0, r1, r2, r3, r4, rl, hn⟩ := hk
  obtain ⟨v0, v1, v2, v3, v4, v5, q0, q1, q2, q3, q4, hn2⟩ := hks
  have ek : f_clear I k ks = I ks := f_clear_ne (by omega) (by omega) (by omega)
  have ek1 : f_clear I k (ks + 1) = I (ks + 1) := f_clear_ne (by omega) (by omega) (by omega)
  refine Sp.of [some (.ref (E.1 + k)), some (.ref (E.1 + ks)), none, none] (by decide +kernel) (Nat.le_of_ble_eq_true rfl) (fun _ h => h) ?_
  refine g_aload0 (Y := Y_X2_build) (pc' := 1) dX2_build_0 rfl ?_
  refine g_callVn (Y := Y_X2_build) (c := 2) (s_X2_clear ⟨t0, t1, t2, t3, t4, t5, r0, r1, r2, r3, r4, rl, hn⟩) (pc' := 4) dX2_build_1 rfl cv_X2_42 rfl (by assumption) (by show _ < n; omega) ⟨by decide, _, rfl, rfl⟩ rfl rfl rfl rfl ?_
  refine g_aload0 (Y := Y_X2_build) (pc' := 5) dX2_build_4 rfl ?_
  refine g_aload1 (Y := Y_X2_build) (pc' := 6) dX2_build_5 rfl ?_
  refine g_callVn (Y := Y_X2_build) (c := 2) (s_X2_takeSpots (I := f_clear I k) ⟨t0, t1, t2, t3, t4, t5, r0, r1, r2, r3, r4, rl, hn⟩ ⟨v0, v1, v2, v3, v4, v5, q0, q1, q2, q3, q4, hn2⟩ hdj (by rw [ek]; exact hcn) (by rw [ek1]; exact hsp)) (pc' := 9) dX2_build_6 rfl cv_X2_45 rfl (by assumption) (by show _ < n; omega) ⟨by decide, _, rfl, rfl⟩ rfl rfl rfl rfl ?_
  refine g_iconst (Y := Y_X2_build) (pc' := 10) dX2_build_9 rfl ?_
  refine g_istore2 (Y := Y_X2_build) (pc' := 11) dX2_build_10 rfl (Nat.le_of_ble_eq_true rfl) rfl ?_
  refine s_X2_build_lp1 ⟨t0, t1, t2, t3, t4, t5, r0, r1, r2, r3, r4, rl, hn⟩ ⟨v0, v1, v2, v3, v4, v5, q0, q1, q2, q3, q4, hn2⟩ (f_b0 I k ks) (f_b0_B0 hdj hv hcn hset hset2) (f_b0 I k ks k 5).toNat 0 0 (f_b0 I k ks, J) _ (by omega) (f_b0_BOK hdj hv hcn) (fun L2 L3 => ?_)
  refine g_iconst (Y := Y_X2_build) (pc' := 68) dX2_build_67 rfl ?_
  refine g_istore2 (Y := Y_X2_build) (pc' := 69) dX2_build_68 rfl (Nat.le_of_ble_eq_true rfl) rfl ?_
  have hB := f_b1_BOK (J := J) hdj hv hcn hset hset2
  refine s_X2_build_av ⟨t0, t1, t2, t3, t4, t5, r0, r1, r2, r3, r4, rl, hn⟩ 576 0 (f_b1 I J k ks).1 _ (by omega) (by rw [hB.1 _ (by omega) (by omega) (by omega)]; exact (f_b0_TOK hdj hv hcn).2.2.2.1) (fun j => ⟨by have := hB.2.2.2.1 j; omega, by have := hB.2.2.2.1 j; omega⟩) (fun L2 L3 => ?_)
  exact g_vret (Y := Y_X2_build) dX2_build_100 rfl (Nat.zero_le _) (Nat.zero_le _) (⟨rfl, rfl⟩)
