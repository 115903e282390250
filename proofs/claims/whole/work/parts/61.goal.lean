/-! the reference: where a block would go -/
def m_goal (I : Nat → Nat → Int) (b : Nat) : Int := if ¬ I 111 (498 + b) = -1 ∧ ¬ m_isGd I (I 111 (498 + b)).toNat = 0 then I 111 (498 + b) else if ¬ m_isGd I b = 0 then (b : Int) else m_free I
theorem frL_rg (I : Nat → Nat → Int) : ∀ f c : Nat, frL I f c = -1 ∨ (c : Int) ≤ frL I f c ∧ frL I f c < c + f
  | 0, _ => Or.inl rfl
  | f + 1, c => by
    unfold frL
    split
    · omega
    · have q := frL_rg I f (c + 1); omega
theorem m_goal_rg {I : Nat → Nat → Int} (hz9 : ZV I) {b : Nat} (hb : b < 480) : m_goal I b = -1 ∨ 0 ≤ m_goal I b ∧ m_goal I b < 576 := by
  have w := hz9.2.2.2.2.2.2.2.1 b hb
  unfold m_goal
  split
  · omega
  · split
    · omega
    · have q := frL_rg I 96 480
      unfold m_free
      omega
def m_brg1 (I : Nat → Nat → Int) (b : Nat) : Nat → Nat → Int := u2 (u2 I 111 (978 + I 111 (498 + b)).toNat (-1)) 111 5 (u2 I 111 (978 + I 111 (498 + b)).toNat (-1) 111 5 + 1)
def m_brg2 (I : Nat → Nat → Int) (b : Nat) (c : Int) : Nat → Nat → Int := u2 (u2 I 111 (498 + b) c) 111 (978 + c).toNat b
def m_bring (I : Nat → Nat → Int) (b : Nat) (c : Int) : Nat → Nat → Int := m_brg2 (if ¬ I 111 (498 + b) = -1 ∧ ¬ I 111 (498 + b) = c then m_brg1 I b else I) b c
set_option maxHeartbeats 2000000 in
set_option maxRecDepth 100000 in
theorem s_X5_goalOf {l : Launch} {E : QE} {T : Nat → Nat × Nat} {I : Nat → Nat → Int} {J : Nat → Nat → Int64} {R : Nat → Nat → Option Nat} {n z : Nat} (hk : MdB T R n) (hz9 : ZV I) (hh9 : HR I) (b : Nat) (hb : b < 480) : SpV l E Y_X5_goalOf [.ref (E.1 + 110), .int (iz (b : Int))] (T, I, J, R, n, z) (.int (iz (m_goal I b))) (T, I, J, R, n, z) := by
  have hk0 := hk
  obtain ⟨t0, t1, t2, t3, t4, t5, t6, t7, t8, t9, t10, t11, t12, t13, r1, r2, r4, r5, r8, r9, r10, r11, r12, r13, r14, r15, r16, hn⟩ := hk
  have w := hz9.2.2.2.2.2.2.2.1 b hb
  have g1 := m_isGd01 (I := I) (c := b)
  have g2 := m_isGd01 (I := I) (c := (I 111 (498 + b)).toNat)
  refine Sp.of [some (.ref (E.1 + 110)), some (.int (iz (b : Int)))] (by decide +kernel) (Nat.le_of_ble_eq_true rfl) (fun _ h => h) ?_
  refine g_aload0 (Y := Y_X5_goalOf) (pc' := 1) dX5_goalOf_0 rfl ?_
  refine g_iload1 (Y := Y_X5_goalOf) (pc' := 2) dX5_goalOf_1 rfl ?_
  refine g_callVv (Y := Y_X5_goalOf) (c := 5) (s_X5_where hk0 b (by omega)) (pc' := 5) dX5_goalOf_2 rfl cv_X5_111 rfl (by assumption) (by show _ < n; omega) ⟨by decide, _, rfl, rfl⟩ rfl rfl rfl rfl ?_
  refine g_iconst (Y := Y_X5_goalOf) (pc' := 6) dX5_goalOf_5 rfl ?_
  refine g_icmp_eq (Y := Y_X5_goalOf) (t := 27) (pc' := 9) dX5_goalOf_6 (by decide) rfl ⟨by omega, by omega⟩ ⟨by omega, by omega⟩ (fun h6 => ?_) (fun h6 => ?_)
  · have n1 : ¬ (¬ I 111 (498 + b) = -1 ∧ ¬ m_isGd I (I 111 (498 + b)).toNat = 0) := fun q9 => q9.1 h6
    refine g_aload0 (Y := Y_X5_goalOf) (pc' := 28) dX5_goalOf_27 rfl ?_
    refine g_iload1 (Y := Y_X5_goalOf) (pc' := 29) dX5_goalOf_28 rfl ?_
    refine g_callVv (Y := Y_X5_goalOf) (c := 5) (s_X5_isGood hk0 hh9 b (by omega)) (pc' := 32) dX5_goalOf_29 rfl cv_X5_104 rfl (by assumption) (by show _ < n; omega) ⟨by decide, _, rfl, rfl⟩ rfl rfl rfl rfl ?_
    refine g_if_eq (Y := Y_X5_goalOf) (t := 39) (pc' := 35) dX5_goalOf_32 (by decide) rfl ⟨by omega, by omega⟩ (fun h32 => ?_) (fun h32 => ?_)
    · have e : m_goal I b = m_free I := (if_neg n1).trans (if_neg (by omega))
      rw [e]
      refine g_aload0 (Y := Y_X5_goalOf) (pc' := 40) dX5_goalOf_39 rfl ?_
      refine g_callVv (Y := Y_X5_goalOf) (c := 5) (s_X5_freeSpare hk0 hz9 hh9) (pc' := 43) dX5_goalOf_40 rfl cv_X5_114 rfl (by assumption) (by show _ < n; omega) ⟨by decide, _, rfl, rfl⟩ rfl rfl rfl rfl ?_
      exact g_iret (Y := Y_X5_goalOf) dX5_goalOf_43 rfl (Nat.zero_le _) (Nat.zero_le _) (⟨rfl, rfl⟩)
    · have e : m_goal I b = (b : Int) := (if_neg n1).trans (if_pos h32)
      rw [e]
      refine g_iload1 (Y := Y_X5_goalOf) (pc' := 36) dX5_goalOf_35 rfl ?_
      refine g_goto (Y := Y_X5_goalOf) (t := 43) dX5_goalOf_36 (by decide) ?_
      exact g_iret (Y := Y_X5_goalOf) dX5_goalOf_43 rfl (Nat.zero_le _) (Nat.zero_le _) (⟨rfl, rfl⟩)
  · refine g_aload0 (Y := Y_X5_goalOf) (pc' := 10) dX5_goalOf_9 rfl ?_
    refine g_aload0 (Y := Y_X5_goalOf) (pc' := 11) dX5_goalOf_10 rfl ?_
    refine g_iload1 (Y := Y_X5_goalOf) (pc' := 12) dX5_goalOf_11 rfl ?_
    refine g_callVv (Y := Y_X5_goalOf) (c := 5) (s_X5_where hk0 b (by omega)) (pc' := 15) dX5_goalOf_12 rfl cv_X5_111 rfl (by assumption) (by show _ < n; omega) ⟨by decide, _, rfl, rfl⟩ rfl rfl rfl rfl ?_
    refine g_callVv (Y := Y_X5_goalOf) (c := 5) ((show SpV l E Y_X5_isGood [.ref (E.1 + 110), .int (iz (I 111 (498 + b)))] _ (.int (iz (m_isGd I (I 111 (498 + b)).toNat))) _ from by
    have q := s_X5_isGood (l := l) (E := E) (J := J) (z := z) hk0 hh9 (I 111 (498 + b)).toNat (by omega)
    rw [show (((I 111 (498 + b)).toNat : Nat) : Int) = I 111 (498 + b) by omega] at q
    exact q)) (pc' := 18) dX5_goalOf_15 rfl cv_X5_104 rfl (by assumption) (by show _ < n; omega) ⟨by decide, _, rfl, rfl⟩ rfl rfl rfl rfl ?_
    refine g_if_eq (Y := Y_X5_goalOf) (t := 27) (pc' := 21) dX5_goalOf_18 (by decide) rfl ⟨by omega, by omega⟩ (fun h18 => ?_) (fun h18 => ?_)
    · have n1 : ¬ (¬ I 111 (498 + b) = -1 ∧ ¬ m_isGd I (I 111 (498 + b)).toNat = 0) := fun q9 => q9.2 h18
      refine g_aload0 (Y := Y_X5_goalOf) (pc' := 28) dX5_goalOf_27 rfl ?_
      refine g_iload1 (Y := Y_X5_goalOf) (pc' := 29) dX5_goalOf_28 rfl ?_
      refine g_callVv (Y := Y_X5_goalOf) (c := 5) (s_X5_isGood hk0 hh9 b (by omega)) (pc' := 32) dX5_goalOf_29 rfl cv_X5_104 rfl (by assumption) (by show _ < n; omega) ⟨by decide, _, rfl, rfl⟩ rfl rfl rfl rfl ?_
      refine g_if_eq (Y := Y_X5_goalOf) (t := 39) (pc' := 35) dX5_goalOf_32 (by decide) rfl ⟨by omega, by omega⟩ (fun h32 => ?_) (fun h32 => ?_)
      · have e : m_goal I b = m_free I := (if_neg n1).trans (if_neg (by omega))
        rw [e]
        refine g_aload0 (Y := Y_X5_goalOf) (pc' := 40) dX5_goalOf_39 rfl ?_
        refine g_callVv (Y := Y_X5_goalOf) (c := 5) (s_X5_freeSpare hk0 hz9 hh9) (pc' := 43) dX5_goalOf_40 rfl cv_X5_114 rfl (by assumption) (by show _ < n; omega) ⟨by decide, _, rfl, rfl⟩ rfl rfl rfl rfl ?_
        exact g_iret (Y := Y_X5_goalOf) dX5_goalOf_43 rfl (Nat.zero_le _) (Nat.zero_le _) (⟨rfl, rfl⟩)
      · have e : m_goal I b = (b : Int) := (if_neg n1).trans (if_pos h32)
        rw [e]
        refine g_iload1 (Y := Y_X5_goalOf) (pc' := 36) dX5_goalOf_35 rfl ?_
        refine g_goto (Y := Y_X5_goalOf) (t := 43) dX5_goalOf_36 (by decide) ?_
        exact g_iret (Y := Y_X5_goalOf) dX5_goalOf_43 rfl (Nat.zero_le _) (Nat.zero_le _) (⟨rfl, rfl⟩)
    · have e : m_goal I b = I 111 (498 + b) := if_pos ⟨h6, h18⟩
      rw [e]
      refine g_aload0 (Y := Y_X5_goalOf) (pc' := 22) dX5_goalOf_21 rfl ?_
      refine g_iload1 (Y := Y_X5_goalOf) (pc' := 23) dX5_goalOf_22 rfl ?_
      refine g_callVv (Y := Y_X5_goalOf) (c := 5) (s_X5_where hk0 b (by omega)) (pc' := 26) dX5_goalOf_23 rfl cv_X5_111 rfl (by assumption) (by show _ < n; omega) ⟨by decide, _, rfl, rfl⟩ rfl rfl rfl rfl ?_
      exact g_iret (Y := Y_X5_goalOf) dX5_goalOf_26 rfl (Nat.zero_le _) (Nat.zero_le _) (⟨rfl, rfl⟩)
