/-! the reference: good cells, free spares -/
def HR (I : Nat → Nat → Int) : Prop := (∀ j : Nat, -2147483648 ≤ I 121 j ∧ I 121 j < 2147483648) ∧ (∀ j : Nat, I 122 j = 0 ∨ I 122 j = 1)
def m_isAv (I : Nat → Nat → Int) (c : Nat) : Int := if 0 < I 121 c ∧ I 122 c = 0 then 1 else 0
def m_isGd (I : Nat → Nat → Int) (c : Nat) : Int := if I 121 c = 0 ∧ I 122 c = 0 then 1 else 0
def frL (I : Nat → Nat → Int) : Nat → Nat → Int
  | 0, _ => -1
  | f + 1, c => if ¬ m_isGd I c = 0 ∧ I 111 (978 + c) = -1 then (c : Int) else frL I f (c + 1)
def m_free (I : Nat → Nat → Int) : Int := frL I 96 480
theorem m_isGd01 {I : Nat → Nat → Int} {c : Nat} : m_isGd I c = 0 ∨ m_isGd I c = 1 := by unfold m_isGd; split <;> simp
theorem m_isAv01 {I : Nat → Nat → Int} {c : Nat} : m_isAv I c = 0 ∨ m_isAv I c = 1 := by unfold m_isAv; split <;> simp
set_option maxHeartbeats 2000000 in
set_option maxRecDepth 100000 in
theorem s_X5_isAvoided {l : Launch} {E : QE} {T : Nat → Nat × Nat} {I : Nat → Nat → Int} {J : Nat → Nat → Int64} {R : Nat → Nat → Option Nat} {n z : Nat} (hk : MdB T R n) (hh9 : HR I) (c : Nat) (hc : c < 576) : SpV l E Y_X5_isAvoided [.ref (E.1 + 110), .int (iz (c : Int))] (T, I, J, R, n, z) (.int (iz (m_isAv I c))) (T, I, J, R, n, z) := by
  have hk0 := hk
  obtain ⟨t0, t1, t2, t3, t4, t5, t6, t7, t8, t9, t10, t11, t12, t13, r1, r2, r4, r5, r8, r9, r10, r11, r12, r13, r14, r15, r16, hn⟩ := hk
  obtain ⟨hh1, hh2⟩ := hh9
  have c1 := hh1 c
  have c2 := hh2 c
  refine Sp.of [some (.ref (E.1 + 110)), some (.int (iz (c : Int)))] (by decide +kernel) (Nat.le_of_ble_eq_true rfl) (fun _ h => h) ?_
  refine g_aload0 (Y := Y_X5_isAvoided) (pc' := 1) dX5_isAvoided_0 rfl ?_
  refine g_getR (Y := Y_X5_isAvoided) (pc' := 4) dX5_isAvoided_1 rfl fl_X5_40 rfl (by assumption) (by omega) (by assumption) ?_
  refine g_iload1 (Y := Y_X5_isAvoided) (pc' := 5) dX5_isAvoided_4 rfl ?_
  refine g_iald (Y := Y_X5_isAvoided) (pc' := 6) dX5_isAvoided_5 rfl (by assumption) (by omega) (by decide) ⟨by omega, by omega⟩ ?_
  rw [show (c : Int).toNat = c from rfl]
  refine g_if_le (Y := Y_X5_isAvoided) (t := 22) (pc' := 9) dX5_isAvoided_6 (by decide) rfl ⟨by omega, by omega⟩ (fun h6 => ?_) (fun h6 => ?_)
  · have e : m_isAv I c = 0 := if_neg (by omega)
    rw [e]
    refine g_iconst (Y := Y_X5_isAvoided) (pc' := 23) dX5_isAvoided_22 rfl ?_
    exact g_zret (Y := Y_X5_isAvoided) dX5_isAvoided_23 rfl (by decide) (Nat.zero_le _) (Nat.zero_le _) (⟨rfl, rfl⟩)
  · refine g_aload0 (Y := Y_X5_isAvoided) (pc' := 10) dX5_isAvoided_9 rfl ?_
    refine g_getR (Y := Y_X5_isAvoided) (pc' := 13) dX5_isAvoided_10 rfl fl_X5_43 rfl (by assumption) (by omega) (by assumption) ?_
    refine g_iload1 (Y := Y_X5_isAvoided) (pc' := 14) dX5_isAvoided_13 rfl ?_
    refine g_zald (Y := Y_X5_isAvoided) (pc' := 15) dX5_isAvoided_14 rfl (by assumption) (by omega) (by decide) ⟨by omega, by omega⟩ ?_
    rw [show (c : Int).toNat = c from rfl]
    refine g_if_ne (Y := Y_X5_isAvoided) (t := 22) (pc' := 18) dX5_isAvoided_15 (by decide) rfl ⟨by omega, by omega⟩ (fun h15 => ?_) (fun h15 => ?_)
    · have e : m_isAv I c = 0 := if_neg (by omega)
      rw [e]
      refine g_iconst (Y := Y_X5_isAvoided) (pc' := 23) dX5_isAvoided_22 rfl ?_
      exact g_zret (Y := Y_X5_isAvoided) dX5_isAvoided_23 rfl (by decide) (Nat.zero_le _) (Nat.zero_le _) (⟨rfl, rfl⟩)
    · have e : m_isAv I c = 1 := if_pos (by omega)
      rw [e]
      refine g_iconst (Y := Y_X5_isAvoided) (pc' := 19) dX5_isAvoided_18 rfl ?_
      refine g_goto (Y := Y_X5_isAvoided) (t := 23) dX5_isAvoided_19 (by decide) ?_
      exact g_zret (Y := Y_X5_isAvoided) dX5_isAvoided_23 rfl (by decide) (Nat.zero_le _) (Nat.zero_le _) (⟨rfl, rfl⟩)
set_option maxHeartbeats 2000000 in
set_option maxRecDepth 100000 in
theorem s_X5_isGood {l : Launch} {E : QE} {T : Nat → Nat × Nat} {I : Nat → Nat → Int} {J : Nat → Nat → Int64} {R : Nat → Nat → Option Nat} {n z : Nat} (hk : MdB T R n) (hh9 : HR I) (c : Nat) (hc : c < 576) : SpV l E Y_X5_isGood [.ref (E.1 + 110), .int (iz (c : Int))] (T, I, J, R, n, z) (.int (iz (m_isGd I c))) (T, I, J, R, n, z) := by
  have hk0 := hk
  obtain ⟨t0, t1, t2, t3, t4, t5, t6, t7, t8, t9, t10, t11, t12, t13, r1, r2, r4, r5, r8, r9, r10, r11, r12, r13, r14, r15, r16, hn⟩ := hk
  obtain ⟨hh1, hh2⟩ := hh9
  have c1 := hh1 c
  have c2 := hh2 c
  refine Sp.of [some (.ref (E.1 + 110)), some (.int (iz (c : Int)))] (by decide +kernel) (Nat.le_of_ble_eq_true rfl) (fun _ h => h) ?_
  refine g_aload0 (Y := Y_X5_isGood) (pc' := 1) dX5_isGood_0 rfl ?_
  refine g_getR (Y := Y_X5_isGood) (pc' := 4) dX5_isGood_1 rfl fl_X5_40 rfl (by assumption) (by omega) (by assumption) ?_
  refine g_iload1 (Y := Y_X5_isGood) (pc' := 5) dX5_isGood_4 rfl ?_
  refine g_iald (Y := Y_X5_isGood) (pc' := 6) dX5_isGood_5 rfl (by assumption) (by omega) (by decide) ⟨by omega, by omega⟩ ?_
  rw [show (c : Int).toNat = c from rfl]
  refine g_if_ne (Y := Y_X5_isGood) (t := 22) (pc' := 9) dX5_isGood_6 (by decide) rfl ⟨by omega, by omega⟩ (fun h6 => ?_) (fun h6 => ?_)
  · have e : m_isGd I c = 0 := if_neg (by omega)
    rw [e]
    refine g_iconst (Y := Y_X5_isGood) (pc' := 23) dX5_isGood_22 rfl ?_
    exact g_zret (Y := Y_X5_isGood) dX5_isGood_23 rfl (by decide) (Nat.zero_le _) (Nat.zero_le _) (⟨rfl, rfl⟩)
  · refine g_aload0 (Y := Y_X5_isGood) (pc' := 10) dX5_isGood_9 rfl ?_
    refine g_getR (Y := Y_X5_isGood) (pc' := 13) dX5_isGood_10 rfl fl_X5_43 rfl (by assumption) (by omega) (by assumption) ?_
    refine g_iload1 (Y := Y_X5_isGood) (pc' := 14) dX5_isGood_13 rfl ?_
    refine g_zald (Y := Y_X5_isGood) (pc' := 15) dX5_isGood_14 rfl (by assumption) (by omega) (by decide) ⟨by omega, by omega⟩ ?_
    rw [show (c : Int).toNat = c from rfl]
    refine g_if_ne (Y := Y_X5_isGood) (t := 22) (pc' := 18) dX5_isGood_15 (by decide) rfl ⟨by omega, by omega⟩ (fun h15 => ?_) (fun h15 => ?_)
    · have e : m_isGd I c = 0 := if_neg (by omega)
      rw [e]
      refine g_iconst (Y := Y_X5_isGood) (pc' := 23) dX5_isGood_22 rfl ?_
      exact g_zret (Y := Y_X5_isGood) dX5_isGood_23 rfl (by decide) (Nat.zero_le _) (Nat.zero_le _) (⟨rfl, rfl⟩)
    · have e : m_isGd I c = 1 := if_pos (by omega)
      rw [e]
      refine g_iconst (Y := Y_X5_isGood) (pc' := 19) dX5_isGood_18 rfl ?_
      refine g_goto (Y := Y_X5_isGood) (t := 23) dX5_isGood_19 (by decide) ?_
      exact g_zret (Y := Y_X5_isGood) dX5_isGood_23 rfl (by decide) (Nat.zero_le _) (Nat.zero_le _) (⟨rfl, rfl⟩)
set_option maxHeartbeats 2000000 in
set_option maxRecDepth 100000 in
theorem s_X5_free_lp {l : Launch} {E : QE} {T : Nat → Nat × Nat} {I : Nat → Nat → Int} {J : Nat → Nat → Int64} {R : Nat → Nat → Option Nat} {n z : Nat} (hk : MdB T R n) (hz9 : ZV I) (hh9 : HR I) : ∀ (f c : Nat), c + f = 576 → Go l E Y_X5_freeSpare 0 0 4 [some (.ref (E.1 + 110)), some (.int (iz (c : Int)))] [] (T, I, J, R, n, z) (KV (.int (iz (frL I f c))) (T, I, J, R, n, z)) := by
  have hk0 := hk
  obtain ⟨t0, t1, t2, t3, t4, t5, t6, t7, t8, t9, t10, t11, t12, t13, r1, r2, r4, r5, r8, r9, r10, r11, r12, r13, r14, r15, r16, hn⟩ := hk
  intro f
  induction f with
  | zero =>
    intro c hf
    refine g_iload1 (Y := Y_X5_freeSpare) (pc' := 5) dX5_freeSpare_4 rfl ?_
    refine g_sipush (Y := Y_X5_freeSpare) (pc' := 8) dX5_freeSpare_5 rfl (by decide) ?_
    refine g_icmp_ge (Y := Y_X5_freeSpare) (t := 36) (pc' := 11) dX5_freeSpare_8 (by decide) rfl ⟨by omega, by omega⟩ ⟨by omega, by omega⟩ (fun h8 => ?_) (fun h8 => ?_)
    · refine g_iconst (Y := Y_X5_freeSpare) (pc' := 37) dX5_freeSpare_36 rfl ?_
      exact g_iret (Y := Y_X5_freeSpare) dX5_freeSpare_37 rfl (Nat.zero_le _) (Nat.zero_le _) (⟨rfl, rfl⟩)
    · exfalso; omega
  | succ f ih =>
    intro c hf
    have g01 := m_isGd01 (I := I) (c := c)
    have zkc := hz9.2.2.2.2.2.2.2.2 c (by omega)
    refine g_iload1 (Y := Y_X5_freeSpare) (pc' := 5) dX5_freeSpare_4 rfl ?_
    refine g_sipush (Y := Y_X5_freeSpare) (pc' := 8) dX5_freeSpare_5 rfl (by decide) ?_
    refine g_icmp_ge (Y := Y_X5_freeSpare) (t := 36) (pc' := 11) dX5_freeSpare_8 (by decide) rfl ⟨by omega, by omega⟩ ⟨by omega, by omega⟩ (fun h8 => ?_) (fun h8 => ?_)
    · exfalso; omega
    · refine g_aload0 (Y := Y_X5_freeSpare) (pc' := 12) dX5_freeSpare_11 rfl ?_
      refine g_iload1 (Y := Y_X5_freeSpare) (pc' := 13) dX5_freeSpare_12 rfl ?_
      refine g_callVv (Y := Y_X5_freeSpare) (c := 5) (s_X5_isGood hk0 hh9 c (by omega)) (pc' := 16) dX5_freeSpare_13 rfl cv_X5_104 rfl (by assumption) (by show _ < n; omega) ⟨by decide, _, rfl, rfl⟩ rfl rfl rfl rfl ?_
      refine g_if_eq (Y := Y_X5_freeSpare) (t := 30) (pc' := 19) dX5_freeSpare_16 (by decide) rfl ⟨by omega, by omega⟩ (fun h16 => ?_) (fun h16 => ?_)
      · have e : frL I (f + 1) c = frL I f (c + 1) := if_neg (fun q9 => q9.1 h16)
        rw [e]
        refine g_iinc1 (Y := Y_X5_freeSpare) (pc' := 33) dX5_freeSpare_30 rfl (Nat.le_of_ble_eq_true rfl) rfl ?_
        refine g_goto (Y := Y_X5_freeSpare) (t := 4) dX5_freeSpare_33 (by decide) ?_
        exact ih (c + 1) (by omega)
      · refine g_aload0 (Y := Y_X5_freeSpare) (pc' := 20) dX5_freeSpare_19 rfl ?_
        refine g_iload1 (Y := Y_X5_freeSpare) (pc' := 21) dX5_freeSpare_20 rfl ?_
        refine g_callVv (Y := Y_X5_freeSpare) (c := 5) (s_X5_taken hk0 c (by omega)) (pc' := 24) dX5_freeSpare_21 rfl cv_X5_108 rfl (by assumption) (by show _ < n; omega) ⟨by decide, _, rfl, rfl⟩ rfl rfl rfl rfl ?_
        refine g_iconst (Y := Y_X5_freeSpare) (pc' := 25) dX5_freeSpare_24 rfl ?_
        refine g_icmp_ne (Y := Y_X5_freeSpare) (t := 30) (pc' := 28) dX5_freeSpare_25 (by decide) rfl ⟨by omega, by omega⟩ ⟨by omega, by omega⟩ (fun h25 => ?_) (fun h25 => ?_)
        · have e : frL I (f + 1) c = frL I f (c + 1) := if_neg (fun q9 => h25 q9.2)
          rw [e]
          refine g_iinc1 (Y := Y_X5_freeSpare) (pc' := 33) dX5_freeSpare_30 rfl (Nat.le_of_ble_eq_true rfl) rfl ?_
          refine g_goto (Y := Y_X5_freeSpare) (t := 4) dX5_freeSpare_33 (by decide) ?_
          exact ih (c + 1) (by omega)
        · have e : frL I (f + 1) c = (c : Int) := if_pos ⟨h16, h25⟩
          rw [e]
          refine g_iload1 (Y := Y_X5_freeSpare) (pc' := 29) dX5_freeSpare_28 rfl ?_
          exact g_iret (Y := Y_X5_freeSpare) dX5_freeSpare_29 rfl (Nat.zero_le _) (Nat.zero_le _) (⟨rfl, rfl⟩)
set_option maxHeartbeats 2000000 in
set_option maxRecDepth 100000 in
theorem s_X5_freeSpare {l : Launch} {E : QE} {T : Nat → Nat × Nat} {I : Nat → Nat → Int} {J : Nat → Nat → Int64} {R : Nat → Nat → Option Nat} {n z : Nat} (hk : MdB T R n) (hz9 : ZV I) (hh9 : HR I)  : SpV l E Y_X5_freeSpare [.ref (E.1 + 110)] (T, I, J, R, n, z) (.int (iz (m_free I))) (T, I, J, R, n, z) := by
  have hk0 := hk
  refine Sp.of [some (.ref (E.1 + 110)), none] (by decide +kernel) (Nat.le_of_ble_eq_true rfl) (fun _ h => h) ?_
  refine g_sipush (Y := Y_X5_freeSpare) (pc' := 3) dX5_freeSpare_0 rfl (by decide) ?_
  refine g_istore1 (Y := Y_X5_freeSpare) (pc' := 4) dX5_freeSpare_3 rfl (Nat.le_of_ble_eq_true rfl) rfl ?_
  exact s_X5_free_lp hk0 hz9 hh9 96 480 rfl
