/-! constructors: the object -/
set_option maxHeartbeats 2000000 in
set_option maxRecDepth 100000 in
theorem s_X4_init {l : Launch} {E : QE} {T : Nat → Nat × Nat} {I : Nat → Nat → Int} {J : Nat → Nat → Int64} {R : Nat → Nat → Option Nat} (ht : XT T) (hz0 : Z0 I J R 0) : Sp l E Y_X4_init [.ref (E.1 + 0)] (T, I, J, R, 1, 2) (fun r w => r = none ∧ ∃ (I' : Nat → Nat → Int) (R' : Nat → Nat → Option Nat), w = (T, I', J, R', 110, 111) ∧ XN 6 I' R' ∧ Z0 I' J R' 110) := by
  have t0 := ht.1
  refine Sp.of [some (.ref (E.1 + 0)), none] (by decide +kernel) (Nat.le_of_ble_eq_true rfl) (fun _ h => h) ?_
  refine g_aload0 (Y := Y_X4_init) (pc' := 1) dX4_init_0 rfl ?_
  refine g_objInit (Y := Y_X4_init) (pc' := 4) dX4_init_1 rfl (q_w 21 (by decide +kernel) rfl) (q_w 22 (by decide +kernel) rfl) (q_w 23 (by decide +kernel) rfl) (by first | exact Nat.le_of_ble_eq_true rfl | (show _ ≤ _; omega)) (by first | exact Nat.le_of_ble_eq_true rfl | (show _ ≤ _; omega)) ?_
  refine g_aload0 (Y := Y_X4_init) (pc' := 5) dX4_init_4 rfl ?_
  refine g_new (Y := Y_X4_init) (n := 1) (pc' := 8) dX4_init_5 rfl nw_X4_7 ht.2.1.1 (fun j => (hz0 1 (by omega)).1 j) (fun j => (hz0 1 (by omega)).2.1 j) (fun j => (hz0 1 (by omega)).2.2 j) (by first | exact Nat.le_of_ble_eq_true rfl | (show _ ≤ _; omega)) (by first | exact Nat.le_of_ble_eq_true rfl | (show _ ≤ _; omega)) ?_
  refine g_dup (Y := Y_X4_init) (pc' := 9) dX4_init_8 rfl rfl ?_
  refine g_callI (Y := Y_X4_init) (s_X3_init (k := 1) ht.2.1.1 ht.2.1.2.1 ht.2.1.2.2.1 ht.2.1.2.2.2.1 ht.2.1.2.2.2.2.1 ht.2.1.2.2.2.2.2 (hz0.le (Nat.zero_le _))) (pc' := 12) dX4_init_9 rfl cv_X4_9 rfl rfl rfl rfl (fun r w1 hr => ?_)
  obtain ⟨rfl, I1, R1, rfl, h1⟩ := hr
  have z1 : Z0 I1 J R1 7 := StN_Z0 (hz0.le (Nat.zero_le _)) h1 (by omega)
  refine g_putR (Y := Y_X4_init) (pc' := 15) dX4_init_12 rfl fp_X4_10 rfl (by assumption) (by omega) rfl ⟨rfl, rfl⟩ ?_
  have z1a : Z0 I1 J (u2 R1 0 0 (some 1)) 7 := z1.ne (fun _ _ => rfl) (fun _ _ => rfl) (fun a ha => u2_ne (by omega))
  generalize hRa : u2 R1 0 0 (some 1) = Ra at z1a ⊢
  refine g_aload0 (Y := Y_X4_init) (pc' := 16) dX4_init_15 rfl ?_
  refine g_new (Y := Y_X4_init) (n := 7) (pc' := 19) dX4_init_16 rfl nw_X4_16 ht.2.2.1.1 (fun j => (z1a 7 (by omega)).1 j) (fun j => (z1a 7 (by omega)).2.1 j) (fun j => (z1a 7 (by omega)).2.2 j) (by first | exact Nat.le_of_ble_eq_true rfl | (show _ ≤ _; omega)) (by first | exact Nat.le_of_ble_eq_true rfl | (show _ ≤ _; omega)) ?_
  refine g_dup (Y := Y_X4_init) (pc' := 20) dX4_init_19 rfl rfl ?_
  refine g_callI (Y := Y_X4_init) (s_X2_init (k := 7) ht.2.2.1.1 ht.2.2.1.2.1 ht.2.2.1.2.2.1 ht.2.2.1.2.2.2.1 ht.2.2.1.2.2.2.2.1 ht.2.2.1.2.2.2.2.2.1 ht.2.2.1.2.2.2.2.2.2 z1a) (pc' := 23) dX4_init_20 rfl cv_X4_18 rfl rfl rfl rfl (fun r w1 hr => ?_)
  obtain ⟨rfl, R2, rfl, h2⟩ := hr
  have z2 : Z0 I1 J R2 35 := (z1a.le (by omega)).ne (fun _ _ => rfl) (fun _ _ => rfl) (fun a ha => h2.1 a (by omega) (by omega))
  refine g_putR (Y := Y_X4_init) (pc' := 26) dX4_init_23 rfl fp_X4_19 rfl (by assumption) (by omega) rfl ⟨rfl, rfl⟩ ?_
  have z2a : Z0 I1 J (u2 R2 0 1 (some 7)) 35 := z2.ne (fun _ _ => rfl) (fun _ _ => rfl) (fun a ha => u2_ne (by omega))
  generalize hRb : u2 R2 0 1 (some 7) = Rb at z2a ⊢
  refine g_aload0 (Y := Y_X4_init) (pc' := 27) dX4_init_26 rfl ?_
  refine g_bipush (Y := Y_X4_init) (pc' := 29) dX4_init_27 rfl (by decide) ?_
  refine g_newQ (Y := Y_X4_init) (n := 35) (len := 6) (kd := 9) (ti := 0) (C0 := RX3) (pc' := 32) dX4_init_29 rfl (by first | exact Or.inl ⟨rfl, rfl⟩ | exact Or.inr ⟨rfl, rfl⟩) (q_w 24 (by decide +kernel) rfl) ht.2.2.2.1 (fun j => (z2a 35 (by omega)).2.2 j) (by decide) (by first | exact Nat.le_of_ble_eq_true rfl | (show _ ≤ _; omega)) (by first | exact Nat.le_of_ble_eq_true rfl | (show _ ≤ _; omega)) ?_
  refine g_putR (Y := Y_X4_init) (pc' := 35) dX4_init_32 rfl fp_X4_23 rfl (by assumption) (by omega) rfl ⟨rfl, rfl⟩ ?_
  have z3a : Z0 I1 J (u2 Rb 0 2 (some 35)) 36 := (z2a.le (by omega)).ne (fun _ _ => rfl) (fun _ _ => rfl) (fun a ha => u2_ne (by omega))
  generalize hRc : u2 Rb 0 2 (some 35) = Rc at z3a ⊢
  refine g_aload0 (Y := Y_X4_init) (pc' := 36) dX4_init_35 rfl ?_
  refine g_iconst (Y := Y_X4_init) (pc' := 37) dX4_init_36 rfl ?_
  refine g_putI (Y := Y_X4_init) (pc' := 40) dX4_init_37 rfl fp_X4_27 rfl (by assumption) (by omega) ?_
  rw [u2_0 (by rw [h1.1 0 (by omega)]; exact (hz0 0 (Nat.le_refl 0)).1 3)]
  refine g_aload0 (Y := Y_X4_init) (pc' := 41) dX4_init_40 rfl ?_
  refine g_new (Y := Y_X4_init) (n := 36) (pc' := 44) dX4_init_41 rfl nw_X4_31 ht.2.2.2.2.1.1 (fun j => (z3a 36 (by omega)).1 j) (fun j => (z3a 36 (by omega)).2.1 j) (fun j => (z3a 36 (by omega)).2.2 j) (by first | exact Nat.le_of_ble_eq_true rfl | (show _ ≤ _; omega)) (by first | exact Nat.le_of_ble_eq_true rfl | (show _ ≤ _; omega)) ?_
  refine g_dup (Y := Y_X4_init) (pc' := 45) dX4_init_44 rfl rfl ?_
  refine g_callIN (Y := Y_X4_init) (s_X0_init (k := 36) ht.2.2.2.2.1.1 ht.2.2.2.2.1.2.1 ht.2.2.2.2.1.2.2.1 ht.2.2.2.2.1.2.2.2 z3a) (pc' := 48) dX4_init_45 rfl cv_X4_33 rfl rfl rfl rfl (fun r w1 hr => ?_)
  obtain ⟨rfl, I2, R3, rfl, h3⟩ := hr
  have z4 : Z0 I2 J R3 40 := (z3a.le (by omega)).ne (fun a ha => h3.1 a (by omega)) (fun _ _ => rfl) (fun a ha => h3.2.1 a (by omega))
  refine g_putR (Y := Y_X4_init) (pc' := 51) dX4_init_48 rfl fp_X4_34 rfl (by assumption) (by omega) rfl ⟨rfl, rfl⟩ ?_
  have z4a : Z0 I2 J (u2 R3 0 4 (some 36)) 40 := z4.ne (fun _ _ => rfl) (fun _ _ => rfl) (fun a ha => u2_ne (by omega))
  generalize hRd : u2 R3 0 4 (some 36) = Rd at z4a ⊢
  refine g_aload0 (Y := Y_X4_init) (pc' := 52) dX4_init_51 rfl ?_
  refine g_new (Y := Y_X4_init) (n := 40) (pc' := 55) dX4_init_52 rfl nw_X4_7 ht.2.2.2.2.2.1.1 (fun j => (z4a 40 (by omega)).1 j) (fun j => (z4a 40 (by omega)).2.1 j) (fun j => (z4a 40 (by omega)).2.2 j) (by first | exact Nat.le_of_ble_eq_true rfl | (show _ ≤ _; omega)) (by first | exact Nat.le_of_ble_eq_true rfl | (show _ ≤ _; omega)) ?_
  refine g_dup (Y := Y_X4_init) (pc' := 56) dX4_init_55 rfl rfl ?_
  refine g_callI (Y := Y_X4_init) (s_X3_init (k := 40) ht.2.2.2.2.2.1.1 ht.2.2.2.2.2.1.2.1 ht.2.2.2.2.2.1.2.2.1 ht.2.2.2.2.2.1.2.2.2.1 ht.2.2.2.2.2.1.2.2.2.2.1 ht.2.2.2.2.2.1.2.2.2.2.2 z4a) (pc' := 59) dX4_init_56 rfl cv_X4_9 rfl rfl rfl rfl (fun r w1 hr => ?_)
  obtain ⟨rfl, I3, R4, rfl, h4⟩ := hr
  have z5 : Z0 I3 J R4 46 := StN_Z0 (z4a.le (by omega)) h4 (by omega)
  refine g_putR (Y := Y_X4_init) (pc' := 62) dX4_init_59 rfl fp_X4_38 rfl (by assumption) (by omega) rfl ⟨rfl, rfl⟩ ?_
  have z5a : Z0 I3 J (u2 R4 0 5 (some 40)) 46 := z5.ne (fun _ _ => rfl) (fun _ _ => rfl) (fun a ha => u2_ne (by omega))
  generalize hRe : u2 R4 0 5 (some 40) = Re at z5a ⊢
  refine g_aload0 (Y := Y_X4_init) (pc' := 63) dX4_init_62 rfl ?_
  refine g_new (Y := Y_X4_init) (n := 46) (pc' := 66) dX4_init_63 rfl nw_X4_16 ht.2.2.2.2.2.2.1.1 (fun j => (z5a 46 (by omega)).1 j) (fun j => (z5a 46 (by omega)).2.1 j) (fun j => (z5a 46 (by omega)).2.2 j) (by first | exact Nat.le_of_ble_eq_true rfl | (show _ ≤ _; omega)) (by first | exact Nat.le_of_ble_eq_true rfl | (show _ ≤ _; omega)) ?_
  refine g_dup (Y := Y_X4_init) (pc' := 67) dX4_init_66 rfl rfl ?_
  refine g_callI (Y := Y_X4_init) (s_X2_init (k := 46) ht.2.2.2.2.2.2.1.1 ht.2.2.2.2.2.2.1.2.1 ht.2.2.2.2.2.2.1.2.2.1 ht.2.2.2.2.2.2.1.2.2.2.1 ht.2.2.2.2.2.2.1.2.2.2.2.1 ht.2.2.2.2.2.2.1.2.2.2.2.2.1 ht.2.2.2.2.2.2.1.2.2.2.2.2.2 z5a) (pc' := 70) dX4_init_67 rfl cv_X4_18 rfl rfl rfl rfl (fun r w1 hr => ?_)
  obtain ⟨rfl, R5, rfl, h5⟩ := hr
  have z6 : Z0 I3 J R5 74 := (z5a.le (by omega)).ne (fun _ _ => rfl) (fun _ _ => rfl) (fun a ha => h5.1 a (by omega) (by omega))
  refine g_putR (Y := Y_X4_init) (pc' := 73) dX4_init_70 rfl fp_X4_41 rfl (by assumption) (by omega) rfl ⟨rfl, rfl⟩ ?_
  refine g_iconst (Y := Y_X4_init) (pc' := 74) dX4_init_73 rfl ?_
  refine g_istore1 (Y := Y_X4_init) (pc' := 75) dX4_init_74 rfl (Nat.le_of_ble_eq_true rfl) rfl ?_
  have z6a : Z0 I3 J (u2 R5 0 6 (some 46)) 74 := z6.ne (fun _ _ => rfl) (fun _ _ => rfl) (fun a ha => u2_ne (by omega))
  generalize hRf : u2 R5 0 6 (some 46) = Rf at z6a ⊢
  have eF : ∀ a, a ≠ 0 → Rf a = R5 a := fun a ha => by rw [← hRf]; exact u2_ne ha
  have eE : ∀ a, a ≠ 0 → Re a = R4 a := fun a ha => by rw [← hRe]; exact u2_ne ha
  have eD : ∀ a, a ≠ 0 → Rd a = R3 a := fun a ha => by rw [← hRd]; exact u2_ne ha
  have eC : ∀ a, a ≠ 0 → Rc a = Rb a := fun a ha => by rw [← hRc]; exact u2_ne ha
  have eB : ∀ a, a ≠ 0 → Rb a = R2 a := fun a ha => by rw [← hRb]; exact u2_ne ha
  have eA : ∀ a, a ≠ 0 → Ra a = R1 a := fun a ha => by rw [← hRa]; exact u2_ne ha
  have q1 : ∀ a, a ≠ 0 → a ≠ 46 → a ≠ 47 → a ≠ 40 → Rf a = R3 a := fun a g0 g1 g2 g3 => by rw [eF a g0, h5.1 a g1 g2, eE a g0, h4.2.1 a g3, eD a g0]
  have q2 : ∀ a, a ≠ 0 → a ≠ 46 → a ≠ 47 → a ≠ 40 → a ≠ 36 → Rf a = R2 a := fun a g0 g1 g2 g3 g4 => by rw [q1 a g0 g1 g2 g3, h3.2.1 a g4, eC a g0, eB a g0]
  have q3 : ∀ a, a ≠ 0 → a ≠ 46 → a ≠ 47 → a ≠ 40 → a ≠ 36 → a ≠ 7 → a ≠ 8 → Rf a = R1 a := fun a g0 g1 g2 g3 g4 g5 g6 => by rw [q2 a g0 g1 g2 g3 g4, h2.1 a g5 g6, eA a g0]
  have xn : XN 0 I3 Rf := by
    refine ⟨⟨?_, ?_, ?_, ?_, ?_, ?_⟩, ?_, ?_, ?_, ?_, ?_, fun q hq => absurd hq (Nat.not_lt_zero q), fun q hq => absurd hq (Nat.not_lt_zero q), ?_, ?_, fun q hq => absurd hq (Nat.not_lt_zero q), fun a ha j => ?_, fun j => ?_⟩
    · rw [← hRf, u2_nj (by decide), h5.1 0 (by decide) (by decide), ← hRe, u2_nj (by decide), h4.2.1 0 (by decide), ← hRd, u2_nj (by decide), h3.2.1 0 (by decide), ← hRc, u2_nj (by decide), ← hRb, u2_nj (by decide), h2.1 0 (by decide) (by decide), ← hRa, u2_at]
    · rw [← hRf, u2_nj (by decide), h5.1 0 (by decide) (by decide), ← hRe, u2_nj (by decide), h4.2.1 0 (by decide), ← hRd, u2_nj (by decide), h3.2.1 0 (by decide), ← hRc, u2_nj (by decide), ← hRb, u2_at]
    · rw [← hRf, u2_nj (by decide), h5.1 0 (by decide) (by decide), ← hRe, u2_nj (by decide), h4.2.1 0 (by decide), ← hRd, u2_nj (by decide), h3.2.1 0 (by decide), ← hRc, u2_at]
    · rw [← hRf, u2_nj (by decide), h5.1 0 (by decide) (by decide), ← hRe, u2_nj (by decide), h4.2.1 0 (by decide), ← hRd, u2_at]
    · rw [← hRf, u2_nj (by decide), h5.1 0 (by decide) (by decide), ← hRe, u2_at]
    · rw [← hRf, u2_at]
    · unfold StR
      rw [q3 1 (by decide) (by decide) (by decide) (by decide) (by decide) (by decide) (by decide)]
      exact ⟨h1.2.2.1, h1.2.2.2.1, h1.2.2.2.2.1, h1.2.2.2.2.2.1, h1.2.2.2.2.2.2.1⟩
    · unfold LmR
      rw [q2 7 (by decide) (by decide) (by decide) (by decide) (by decide), q2 (7 + 1) (by decide) (by decide) (by decide) (by decide) (by decide)]
      exact h2.2
    · unfold TxR
      rw [q1 36 (by decide) (by decide) (by decide) (by decide)]
      exact ⟨h3.2.2.1, h3.2.2.2.1, h3.2.2.2.2.1⟩
    · unfold StR
      rw [eF 40 (by decide), h5.1 40 (by decide) (by decide), eE 40 (by decide)]
      exact ⟨h4.2.2.1, h4.2.2.2.1, h4.2.2.2.2.1, h4.2.2.2.2.2.1, h4.2.2.2.2.2.2.1⟩
    · unfold LmR
      rw [eF 46 (by decide), eF (46 + 1) (by decide)]
      exact h5.2
    · refine StZ_ne (I := I1) h1.2.2.2.2.2.2.2 (fun a g1 g2 => ?_)
      rw [h4.1 a (by omega), h3.1 a (by omega)]
    · exact h4.2.2.2.2.2.2.2
    · rw [h4.1 a (by omega), h3.1 a (by omega)]
      rw [h1.1 a (by omega)]
      exact (hz0 a (Nat.zero_le a)).1 j
    · rw [h4.1 36 (by omega)]
      exact h3.2.2.2.2.2 j
  exact s_X4_init_lp (l := l) (E := E) ht 6 0 _ _ I3 Rf rfl (Nat.le_of_ble_eq_true rfl) (Nat.le_of_ble_eq_true rfl) xn z6a
