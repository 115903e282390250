/-! the reference: a block is written; where it is tidied to -/
def m_write (I : Nat → Nat → Int) (b : Nat) (v : Int) : Nat → Nat → Int := u2 (m_bring I b (m_goal I b)) 111 (18 + b) v
def m_fail1 (I : Nat → Nat → Int) (c : Nat) : Nat → Nat → Int := u2 (u2 I 111 (6 + I 111 3).toNat c) 111 3 (u2 I 111 (6 + I 111 3).toNat (c : Int) 111 3 + 1)
def m_tgoal (I : Nat → Nat → Int) (b : Nat) : Int :=
  if I 111 (498 + b) = -1 ∨ I 111 (498 + b) = b ∧ ¬ m_isGd I b = 0 then I 111 (498 + b)
  else if ¬ m_isGd I b = 0 then (b : Int)
  else if ¬ m_isGd I (I 111 (498 + b)).toNat = 0 then I 111 (498 + b)
  else if m_free I = -1 then I 111 (498 + b) else m_free I
set_option maxHeartbeats 2000000 in
set_option maxRecDepth 100000 in
theorem s_X5_writeIt {l : Launch} {E : QE} {T : Nat → Nat × Nat} {I : Nat → Nat → Int} {J : Nat → Nat → Int64} {R : Nat → Nat → Option Nat} {n z : Nat} (hk : MdB T R n) (hz9 : ZV I) (hh9 : HR I) (b : Nat) (hb : b < 480) (v : Int) (hg : ¬ m_goal I b = -1) : SpV l E Y_X5_writeIt [.ref (E.1 + 110), .int (iz (b : Int)), .int (iz v)] (T, I, J, R, n, z) (.int (iz (m_write I b v 111 (498 + b)))) (T, m_write I b v, J, R, n, z) := by
  have hk0 := hk
  obtain ⟨t0, t1, t2, t3, t4, t5, t6, t7, t8, t9, t10, t11, t12, t13, r1, r2, r4, r5, r8, r9, r10, r11, r12, r13, r14, r15, r16, hn⟩ := hk
  have gr := m_goal_rg hz9 hb
  refine Sp.of [some (.ref (E.1 + 110)), some (.int (iz (b : Int))), some (.int (iz v))] (by decide +kernel) (Nat.le_of_ble_eq_true rfl) (fun _ h => h) ?_
  refine g_aload0 (Y := Y_X5_writeIt) (pc' := 1) dX5_writeIt_0 rfl ?_
  refine g_iload1 (Y := Y_X5_writeIt) (pc' := 2) dX5_writeIt_1 rfl ?_
  refine g_aload0 (Y := Y_X5_writeIt) (pc' := 3) dX5_writeIt_2 rfl ?_
  refine g_iload1 (Y := Y_X5_writeIt) (pc' := 4) dX5_writeIt_3 rfl ?_
  refine g_callVv (Y := Y_X5_writeIt) (c := 5) (s_X5_goalOf hk0 hz9 hh9 b hb) (pc' := 7) dX5_writeIt_4 rfl cv_X5_118 rfl (by assumption) (by show _ < n; omega) ⟨by decide, _, rfl, rfl⟩ rfl rfl rfl rfl ?_
  refine g_callVn (Y := Y_X5_writeIt) (c := 5) (s_X5_bringTo hk0 hz9 b hb (m_goal I b) (by omega)) (pc' := 10) dX5_writeIt_7 rfl cv_X5_121 rfl (by assumption) (by show _ < n; omega) ⟨by decide, _, rfl, rfl⟩ rfl rfl rfl rfl ?_
  refine g_aload0 (Y := Y_X5_writeIt) (pc' := 11) dX5_writeIt_10 rfl ?_
  refine g_getR (Y := Y_X5_writeIt) (pc' := 14) dX5_writeIt_11 rfl fl_X5_7 rfl (by assumption) (by omega) (by assumption) ?_
  refine g_bipush (Y := Y_X5_writeIt) (pc' := 16) dX5_writeIt_14 rfl (by decide) ?_
  refine g_iload1 (Y := Y_X5_writeIt) (pc' := 17) dX5_writeIt_16 rfl ?_
  refine g_iadd (Y := Y_X5_writeIt) (pc' := 18) dX5_writeIt_17 rfl ?_
  refine g_iload2 (Y := Y_X5_writeIt) (pc' := 19) dX5_writeIt_18 rfl ?_
  refine g_iast (Y := Y_X5_writeIt) (pc' := 20) dX5_writeIt_19 rfl (by assumption) (by omega) (by decide) ⟨by omega, by omega⟩ ?_
  rw [show (18 + (b : Int)).toNat = 18 + b by omega]
  refine g_aload0 (Y := Y_X5_writeIt) (pc' := 21) dX5_writeIt_20 rfl ?_
  refine g_iload1 (Y := Y_X5_writeIt) (pc' := 22) dX5_writeIt_21 rfl ?_
  refine g_callVv (Y := Y_X5_writeIt) (c := 5) (s_X5_where hk0 b (by omega)) (pc' := 25) dX5_writeIt_22 rfl cv_X5_111 rfl (by assumption) (by show _ < n; omega) ⟨by decide, _, rfl, rfl⟩ rfl rfl rfl rfl ?_
  exact g_iret (Y := Y_X5_writeIt) dX5_writeIt_25 rfl (Nat.zero_le _) (Nat.zero_le _) (⟨rfl, rfl⟩)
set_option maxHeartbeats 2000000 in
set_option maxRecDepth 100000 in
theorem s_X5_linesNow {l : Launch} {E : QE} {T : Nat → Nat × Nat} {I : Nat → Nat → Int} {J : Nat → Nat → Int64} {R : Nat → Nat → Option Nat} {n z : Nat} (hk : MdB T R n) (hz9 : ZV I)  : SpV l E Y_X5_linesNow [.ref (E.1 + 110)] (T, I, J, R, n, z) (.int (iz (m_lay I 110 7))) (T, m_lay I, J, R, n, z) := by
  have hk0 := hk
  obtain ⟨t0, t1, t2, t3, t4, t5, t6, t7, t8, t9, t10, t11, t12, t13, r1, r2, r4, r5, r8, r9, r10, r11, r12, r13, r14, r15, r16, hn⟩ := hk
  refine Sp.of [some (.ref (E.1 + 110))] (by decide +kernel) (Nat.le_of_ble_eq_true rfl) (fun _ h => h) ?_
  refine g_aload0 (Y := Y_X5_linesNow) (pc' := 1) dX5_linesNow_0 rfl ?_
  refine g_callVn (Y := Y_X5_linesNow) (c := 5) (s_X5_lay hk0 hz9) (pc' := 4) dX5_linesNow_1 rfl cv_X5_130 rfl (by assumption) (by show _ < n; omega) ⟨by decide, _, rfl, rfl⟩ rfl rfl rfl rfl ?_
  refine g_aload0 (Y := Y_X5_linesNow) (pc' := 5) dX5_linesNow_4 rfl ?_
  refine g_getI (Y := Y_X5_linesNow) (pc' := 8) dX5_linesNow_5 rfl fl_X5_72 rfl (by assumption) (by omega) ?_
  exact g_iret (Y := Y_X5_linesNow) dX5_linesNow_8 rfl (Nat.zero_le _) (Nat.zero_le _) (⟨rfl, rfl⟩)
set_option maxHeartbeats 2000000 in
set_option maxRecDepth 100000 in
theorem s_X5_tidyGoal {l : Launch} {E : QE} {T : Nat → Nat × Nat} {I : Nat → Nat → Int} {J : Nat → Nat → Int64} {R : Nat → Nat → Option Nat} {n z : Nat} (hk : MdB T R n) (hz9 : ZV I) (hh9 : HR I) (b : Nat) (hb : b < 480) : SpV l E Y_X5_tidyGoal [.ref (E.1 + 110), .int (iz (b : Int))] (T, I, J, R, n, z) (.int (iz (m_tgoal I b))) (T, I, J, R, n, z) := by
  have hk0 := hk
  obtain ⟨t0, t1, t2, t3, t4, t5, t6, t7, t8, t9, t10, t11, t12, t13, r1, r2, r4, r5, r8, r9, r10, r11, r12, r13, r14, r15, r16, hn⟩ := hk
  have w := hz9.2.2.2.2.2.2.2.1 b hb
  have g1 := m_isGd01 (I := I) (c := b)
  have g2 := m_isGd01 (I := I) (c := (I 111 (498 + b)).toNat)
  have fr := frL_rg I 96 480
  have fr2 : m_free I = -1 ∨ ((480 : Nat) : Int) ≤ m_free I ∧ m_free I < ((480 : Nat) : Int) + ((96 : Nat) : Int) := fr
  refine Sp.of [some (.ref (E.1 + 110)), some (.int (iz (b : Int))), none, none] (by decide +kernel) (Nat.le_of_ble_eq_true rfl) (fun _ h => h) ?_
  refine g_aload0 (Y := Y_X5_tidyGoal) (pc' := 1) dX5_tidyGoal_0 rfl ?_
  refine g_iload1 (Y := Y_X5_tidyGoal) (pc' := 2) dX5_tidyGoal_1 rfl ?_
  refine g_callVv (Y := Y_X5_tidyGoal) (c := 5) (s_X5_where hk0 b (by omega)) (pc' := 5) dX5_tidyGoal_2 rfl cv_X5_111 rfl (by assumption) (by show _ < n; omega) ⟨by decide, _, rfl, rfl⟩ rfl rfl rfl rfl ?_
  refine g_istore2 (Y := Y_X5_tidyGoal) (pc' := 6) dX5_tidyGoal_5 rfl (Nat.le_of_ble_eq_true rfl) rfl ?_
  refine g_iload2 (Y := Y_X5_tidyGoal) (pc' := 7) dX5_tidyGoal_6 rfl ?_
  refine g_iconst (Y := Y_X5_tidyGoal) (pc' := 8) dX5_tidyGoal_7 rfl ?_
  refine g_icmp_eq (Y := Y_X5_tidyGoal) (t := 24) (pc' := 11) dX5_tidyGoal_8 (by decide) rfl ⟨by omega, by omega⟩ ⟨by omega, by omega⟩ (fun h8 => ?_) (fun h8 => ?_)
  · have e : m_tgoal I b = I 111 (498 + b) := if_pos (Or.inl h8)
    rw [e]
    refine g_iload2 (Y := Y_X5_tidyGoal) (pc' := 25) dX5_tidyGoal_24 rfl ?_
    exact g_iret (Y := Y_X5_tidyGoal) dX5_tidyGoal_25 rfl (Nat.zero_le _) (Nat.zero_le _) (⟨rfl, rfl⟩)
  · refine g_iload2 (Y := Y_X5_tidyGoal) (pc' := 12) dX5_tidyGoal_11 rfl ?_
    refine g_iload1 (Y := Y_X5_tidyGoal) (pc' := 13) dX5_tidyGoal_12 rfl ?_
    refine g_icmp_ne (Y := Y_X5_tidyGoal) (t := 26) (pc' := 16) dX5_tidyGoal_13 (by decide) rfl ⟨by omega, by omega⟩ ⟨by omega, by omega⟩ (fun h13 => ?_) (fun h13 => ?_)
    · have n1 : ¬ (I 111 (498 + b) = -1 ∨ I 111 (498 + b) = b ∧ ¬ m_isGd I b = 0) := by omega
      refine g_aload0 (Y := Y_X5_tidyGoal) (pc' := 27) dX5_tidyGoal_26 rfl ?_
      refine g_iload1 (Y := Y_X5_tidyGoal) (pc' := 28) dX5_tidyGoal_27 rfl ?_
      refine g_callVv (Y := Y_X5_tidyGoal) (c := 5) (s_X5_isGood hk0 hh9 b (by omega)) (pc' := 31) dX5_tidyGoal_28 rfl cv_X5_104 rfl (by assumption) (by show _ < n; omega) ⟨by decide, _, rfl, rfl⟩ rfl rfl rfl rfl ?_
      refine g_if_eq (Y := Y_X5_tidyGoal) (t := 36) (pc' := 34) dX5_tidyGoal_31 (by decide) rfl ⟨by omega, by omega⟩ (fun h31 => ?_) (fun h31 => ?_)
      · have n2 : ¬ ¬ m_isGd I b = 0 := by omega
        refine g_aload0 (Y := Y_X5_tidyGoal) (pc' := 37) dX5_tidyGoal_36 rfl ?_
        refine g_iload2 (Y := Y_X5_tidyGoal) (pc' := 38) dX5_tidyGoal_37 rfl ?_
        refine g_callVv (Y := Y_X5_tidyGoal) (c := 5) ((show SpV l E Y_X5_isGood [.ref (E.1 + 110), .int (iz (I 111 (498 + b)))] _ (.int (iz (m_isGd I (I 111 (498 + b)).toNat))) _ from by
    have q := s_X5_isGood (l := l) (E := E) (J := J) (z := z) hk0 hh9 (I 111 (498 + b)).toNat (by omega)
    rw [show (((I 111 (498 + b)).toNat : Nat) : Int) = I 111 (498 + b) by omega] at q
    exact q)) (pc' := 41) dX5_tidyGoal_38 rfl cv_X5_104 rfl (by assumption) (by show _ < n; omega) ⟨by decide, _, rfl, rfl⟩ rfl rfl rfl rfl ?_
        refine g_if_eq (Y := Y_X5_tidyGoal) (t := 48) (pc' := 44) dX5_tidyGoal_41 (by decide) rfl ⟨by omega, by omega⟩ (fun h41 => ?_) (fun h41 => ?_)
        · have n3 : ¬ ¬ m_isGd I (I 111 (498 + b)).toNat = 0 := by omega
          refine g_aload0 (Y := Y_X5_tidyGoal) (pc' := 49) dX5_tidyGoal_48 rfl ?_
          refine g_callVv (Y := Y_X5_tidyGoal) (c := 5) (s_X5_freeSpare hk0 hz9 hh9) (pc' := 52) dX5_tidyGoal_49 rfl cv_X5_114 rfl (by assumption) (by show _ < n; omega) ⟨by decide, _, rfl, rfl⟩ rfl rfl rfl rfl ?_
          refine g_istore3 (Y := Y_X5_tidyGoal) (pc' := 53) dX5_tidyGoal_52 rfl (Nat.le_of_ble_eq_true rfl) rfl ?_
          refine g_iload3 (Y := Y_X5_tidyGoal) (pc' := 54) dX5_tidyGoal_53 rfl ?_
          refine g_iconst (Y := Y_X5_tidyGoal) (pc' := 55) dX5_tidyGoal_54 rfl ?_
          refine g_icmp_ne (Y := Y_X5_tidyGoal) (t := 62) (pc' := 58) dX5_tidyGoal_55 (by decide) rfl ⟨by omega, by omega⟩ ⟨by omega, by omega⟩ (fun h55 => ?_) (fun h55 => ?_)
          · have e : m_tgoal I b = m_free I := (if_neg n1).trans ((if_neg n2).trans ((if_neg n3).trans (if_neg h55)))
            rw [e]
            refine g_iload3 (Y := Y_X5_tidyGoal) (pc' := 63) dX5_tidyGoal_62 rfl ?_
            exact g_iret (Y := Y_X5_tidyGoal) dX5_tidyGoal_63 rfl (Nat.zero_le _) (Nat.zero_le _) (⟨rfl, rfl⟩)
          · have e : m_tgoal I b = I 111 (498 + b) := (if_neg n1).trans ((if_neg n2).trans ((if_neg n3).trans (if_pos h55)))
            rw [e]
            refine g_iload2 (Y := Y_X5_tidyGoal) (pc' := 59) dX5_tidyGoal_58 rfl ?_
            refine g_goto (Y := Y_X5_tidyGoal) (t := 63) dX5_tidyGoal_59 (by decide) ?_
            exact g_iret (Y := Y_X5_tidyGoal) dX5_tidyGoal_63 rfl (Nat.zero_le _) (Nat.zero_le _) (⟨rfl, rfl⟩)
        · have e : m_tgoal I b = I 111 (498 + b) := (if_neg n1).trans ((if_neg n2).trans (if_pos h41))
          rw [e]
          refine g_iconst (Y := Y_X5_tidyGoal) (pc' := 45) dX5_tidyGoal_44 rfl ?_
          refine g_goto (Y := Y_X5_tidyGoal) (t := 52) dX5_tidyGoal_45 (by decide) ?_
          refine g_istore3 (Y := Y_X5_tidyGoal) (pc' := 53) dX5_tidyGoal_52 rfl (Nat.le_of_ble_eq_true rfl) rfl ?_
          refine g_iload3 (Y := Y_X5_tidyGoal) (pc' := 54) dX5_tidyGoal_53 rfl ?_
          refine g_iconst (Y := Y_X5_tidyGoal) (pc' := 55) dX5_tidyGoal_54 rfl ?_
          refine g_icmp_ne (Y := Y_X5_tidyGoal) (t := 62) (pc' := 58) dX5_tidyGoal_55 (by decide) rfl ⟨by omega, by omega⟩ ⟨by omega, by omega⟩ (fun h55 => ?_) (fun h55 => ?_)
          · exfalso; omega
          · refine g_iload2 (Y := Y_X5_tidyGoal) (pc' := 59) dX5_tidyGoal_58 rfl ?_
            refine g_goto (Y := Y_X5_tidyGoal) (t := 63) dX5_tidyGoal_59 (by decide) ?_
            exact g_iret (Y := Y_X5_tidyGoal) dX5_tidyGoal_63 rfl (Nat.zero_le _) (Nat.zero_le _) (⟨rfl, rfl⟩)
      · have e : m_tgoal I b = (b : Int) := (if_neg n1).trans (if_pos h31)
        rw [e]
        refine g_iload1 (Y := Y_X5_tidyGoal) (pc' := 35) dX5_tidyGoal_34 rfl ?_
        exact g_iret (Y := Y_X5_tidyGoal) dX5_tidyGoal_35 rfl (Nat.zero_le _) (Nat.zero_le _) (⟨rfl, rfl⟩)
    · refine g_aload0 (Y := Y_X5_tidyGoal) (pc' := 17) dX5_tidyGoal_16 rfl ?_
      refine g_iload1 (Y := Y_X5_tidyGoal) (pc' := 18) dX5_tidyGoal_17 rfl ?_
      refine g_callVv (Y := Y_X5_tidyGoal) (c := 5) (s_X5_isGood hk0 hh9 b (by omega)) (pc' := 21) dX5_tidyGoal_18 rfl cv_X5_104 rfl (by assumption) (by show _ < n; omega) ⟨by decide, _, rfl, rfl⟩ rfl rfl rfl rfl ?_
      refine g_if_eq (Y := Y_X5_tidyGoal) (t := 26) (pc' := 24) dX5_tidyGoal_21 (by decide) rfl ⟨by omega, by omega⟩ (fun h21 => ?_) (fun h21 => ?_)
      · have n1 : ¬ (I 111 (498 + b) = -1 ∨ I 111 (498 + b) = b ∧ ¬ m_isGd I b = 0) := by omega
        refine g_aload0 (Y := Y_X5_tidyGoal) (pc' := 27) dX5_tidyGoal_26 rfl ?_
        refine g_iload1 (Y := Y_X5_tidyGoal) (pc' := 28) dX5_tidyGoal_27 rfl ?_
        refine g_callVv (Y := Y_X5_tidyGoal) (c := 5) (s_X5_isGood hk0 hh9 b (by omega)) (pc' := 31) dX5_tidyGoal_28 rfl cv_X5_104 rfl (by assumption) (by show _ < n; omega) ⟨by decide, _, rfl, rfl⟩ rfl rfl rfl rfl ?_
        refine g_if_eq (Y := Y_X5_tidyGoal) (t := 36) (pc' := 34) dX5_tidyGoal_31 (by decide) rfl ⟨by omega, by omega⟩ (fun h31 => ?_) (fun h31 => ?_)
        · have n2 : ¬ ¬ m_isGd I b = 0 := by omega
          refine g_aload0 (Y := Y_X5_tidyGoal) (pc' := 37) dX5_tidyGoal_36 rfl ?_
          refine g_iload2 (Y := Y_X5_tidyGoal) (pc' := 38) dX5_tidyGoal_37 rfl ?_
          refine g_callVv (Y := Y_X5_tidyGoal) (c := 5) ((show SpV l E Y_X5_isGood [.ref (E.1 + 110), .int (iz (I 111 (498 + b)))] _ (.int (iz (m_isGd I (I 111 (498 + b)).toNat))) _ from by
    have q := s_X5_isGood (l := l) (E := E) (J := J) (z := z) hk0 hh9 (I 111 (498 + b)).toNat (by omega)
    rw [show (((I 111 (498 + b)).toNat : Nat) : Int) = I 111 (498 + b) by omega] at q
    exact q)) (pc' := 41) dX5_tidyGoal_38 rfl cv_X5_104 rfl (by assumption) (by show _ < n; omega) ⟨by decide, _, rfl, rfl⟩ rfl rfl rfl rfl ?_
          refine g_if_eq (Y := Y_X5_tidyGoal) (t := 48) (pc' := 44) dX5_tidyGoal_41 (by decide) rfl ⟨by omega, by omega⟩ (fun h41 => ?_) (fun h41 => ?_)
          · have n3 : ¬ ¬ m_isGd I (I 111 (498 + b)).toNat = 0 := by omega
            refine g_aload0 (Y := Y_X5_tidyGoal) (pc' := 49) dX5_tidyGoal_48 rfl ?_
            refine g_callVv (Y := Y_X5_tidyGoal) (c := 5) (s_X5_freeSpare hk0 hz9 hh9) (pc' := 52) dX5_tidyGoal_49 rfl cv_X5_114 rfl (by assumption) (by show _ < n; omega) ⟨by decide, _, rfl, rfl⟩ rfl rfl rfl rfl ?_
            refine g_istore3 (Y := Y_X5_tidyGoal) (pc' := 53) dX5_tidyGoal_52 rfl (Nat.le_of_ble_eq_true rfl) rfl ?_
            refine g_iload3 (Y := Y_X5_tidyGoal) (pc' := 54) dX5_tidyGoal_53 rfl ?_
            refine g_iconst (Y := Y_X5_tidyGoal) (pc' := 55) dX5_tidyGoal_54 rfl ?_
            refine g_icmp_ne (Y := Y_X5_tidyGoal) (t := 62) (pc' := 58) dX5_tidyGoal_55 (by decide) rfl ⟨by omega, by omega⟩ ⟨by omega, by omega⟩ (fun h55 => ?_) (fun h55 => ?_)
            · have e : m_tgoal I b = m_free I := (if_neg n1).trans ((if_neg n2).trans ((if_neg n3).trans (if_neg h55)))
              rw [e]
              refine g_iload3 (Y := Y_X5_tidyGoal) (pc' := 63) dX5_tidyGoal_62 rfl ?_
              exact g_iret (Y := Y_X5_tidyGoal) dX5_tidyGoal_63 rfl (Nat.zero_le _) (Nat.zero_le _) (⟨rfl, rfl⟩)
            · have e : m_tgoal I b = I 111 (498 + b) := (if_neg n1).trans ((if_neg n2).trans ((if_neg n3).trans (if_pos h55)))
              rw [e]
              refine g_iload2 (Y := Y_X5_tidyGoal) (pc' := 59) dX5_tidyGoal_58 rfl ?_
              refine g_goto (Y := Y_X5_tidyGoal) (t := 63) dX5_tidyGoal_59 (by decide) ?_
              exact g_iret (Y := Y_X5_tidyGoal) dX5_tidyGoal_63 rfl (Nat.zero_le _) (Nat.zero_le _) (⟨rfl, rfl⟩)
          · have e : m_tgoal I b = I 111 (498 + b) := (if_neg n1).trans ((if_neg n2).trans (if_pos h41))
            rw [e]
            refine g_iconst (Y := Y_X5_tidyGoal) (pc' := 45) dX5_tidyGoal_44 rfl ?_
            refine g_goto (Y := Y_X5_tidyGoal) (t := 52) dX5_tidyGoal_45 (by decide) ?_
            refine g_istore3 (Y := Y_X5_tidyGoal) (pc' := 53) dX5_tidyGoal_52 rfl (Nat.le_of_ble_eq_true rfl) rfl ?_
            refine g_iload3 (Y := Y_X5_tidyGoal) (pc' := 54) dX5_tidyGoal_53 rfl ?_
            refine g_iconst (Y := Y_X5_tidyGoal) (pc' := 55) dX5_tidyGoal_54 rfl ?_
            refine g_icmp_ne (Y := Y_X5_tidyGoal) (t := 62) (pc' := 58) dX5_tidyGoal_55 (by decide) rfl ⟨by omega, by omega⟩ ⟨by omega, by omega⟩ (fun h55 => ?_) (fun h55 => ?_)
            · exfalso; omega
            · refine g_iload2 (Y := Y_X5_tidyGoal) (pc' := 59) dX5_tidyGoal_58 rfl ?_
              refine g_goto (Y := Y_X5_tidyGoal) (t := 63) dX5_tidyGoal_59 (by decide) ?_
              exact g_iret (Y := Y_X5_tidyGoal) dX5_tidyGoal_63 rfl (Nat.zero_le _) (Nat.zero_le _) (⟨rfl, rfl⟩)
        · have e : m_tgoal I b = (b : Int) := (if_neg n1).trans (if_pos h31)
          rw [e]
          refine g_iload1 (Y := Y_X5_tidyGoal) (pc' := 35) dX5_tidyGoal_34 rfl ?_
          exact g_iret (Y := Y_X5_tidyGoal) dX5_tidyGoal_35 rfl (Nat.zero_le _) (Nat.zero_le _) (⟨rfl, rfl⟩)
      · have e : m_tgoal I b = I 111 (498 + b) := if_pos (Or.inr ⟨h13, h21⟩)
        rw [e]
        refine g_iload2 (Y := Y_X5_tidyGoal) (pc' := 25) dX5_tidyGoal_24 rfl ?_
        exact g_iret (Y := Y_X5_tidyGoal) dX5_tidyGoal_25 rfl (Nat.zero_le _) (Nat.zero_le _) (⟨rfl, rfl⟩)
