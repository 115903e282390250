/-! the reference: what else changes it -/
set_option maxHeartbeats 2000000 in
set_option maxRecDepth 100000 in
theorem s_X5_heal {l : Launch} {E : QE} {T : Nat → Nat × Nat} {I : Nat → Nat → Int} {J : Nat → Nat → Int64} {R : Nat → Nat → Option Nat} {n z : Nat} (hk : MdB T R n) (hm9 : MV I) (p : Int) (h_p : -2147483648 ≤ p ∧ p < 2147483648) (q : Int) (h_q : -2147483648 ≤ q ∧ q < 2147483648)  : SpV l E Y_X5_heal [.ref (E.1 + 110), .int (iz p), .int (iz q)] (T, I, J, R, n, z) (.int (iz (y_heal I p q).1)) (T, (y_heal I p q).2, J, R, n, z) := by
  have hk0 := hk
  obtain ⟨t0, t1, t2, t3, t4, t5, t6, t7, t8, t9, t10, t11, t12, t13, r1, r2, r4, r5, r8, r9, r10, r11, r12, r13, r14, r15, r16, hn⟩ := hk
  obtain ⟨hz9, hb9, hv9, h3, hsv9⟩ := id hm9
  obtain ⟨z3, zs, zs0, zd, zt, zt2, zv, zw, zk⟩ := id hz9
  have hz1 := sav1_ZV hz9
  have hb1 := sav1_HB hb9
  have e111 : m_sav1 I 111 = I 111 := sav1_111 (by decide) (by decide)
  have sr : -1 ≤ m_spotAt I (24 * p + q) ∧ m_spotAt I (24 * p + q) < 12 := by rcases m_spotAt_spec hz9 (24 * p + q) with ⟨h, -⟩ | ⟨q9, g1, g2, g3⟩ <;> omega
  refine Sp.of [some (.ref (E.1 + 110)), some (.int (iz p)), some (.int (iz q))] (by decide +kernel) (Nat.le_of_ble_eq_true rfl) (fun _ h => h) ?_
  refine g_aload0 (Y := Y_X5_heal) (pc' := 1) dX5_heal_0 rfl ?_
  refine g_iload1 (Y := Y_X5_heal) (pc' := 2) dX5_heal_1 rfl ?_
  refine g_iload2 (Y := Y_X5_heal) (pc' := 3) dX5_heal_2 rfl ?_
  refine g_callSv (Y := Y_X5_heal) (s_X5_isPlace p q h_p h_q) (pc' := 6) dX5_heal_3 rfl cv_X5_94 rfl rfl rfl rfl rfl ?_
  refine g_if_ne (Y := Y_X5_heal) (t := 13) (pc' := 9) dX5_heal_6 (by decide) rfl ⟨by omega, by omega⟩ (fun h6 => ?_) (fun h6 => ?_)
  · have hb := ifb_t h6
    refine g_aload0 (Y := Y_X5_heal) (pc' := 14) dX5_heal_13 rfl ?_
    refine g_bipush (Y := Y_X5_heal) (pc' := 16) dX5_heal_14 rfl (by decide) ?_
    refine g_iload1 (Y := Y_X5_heal) (pc' := 17) dX5_heal_16 rfl ?_
    refine g_imul (Y := Y_X5_heal) (pc' := 18) dX5_heal_17 rfl ?_
    refine g_iload2 (Y := Y_X5_heal) (pc' := 19) dX5_heal_18 rfl ?_
    refine g_iadd (Y := Y_X5_heal) (pc' := 20) dX5_heal_19 rfl ?_
    refine g_callVv (Y := Y_X5_heal) (c := 5) (s_X5_spotAt hk0 hz9 (24 * p + q) ⟨by omega, by omega⟩) (pc' := 23) dX5_heal_20 rfl cv_X5_143 rfl (by first | exact t0 | exact t1 | exact r1 | exact t2 | exact t3 | exact t4 | exact t5 | exact t6 | exact t7 | exact t8 | exact t9 | exact t10 | exact t11 | exact t12 | exact t13 | exact r2 | exact r4 | exact r5 | exact r8 | exact r9 | exact r10 | exact r11 | exact r12 | exact r13 | exact r14 | exact r15 | exact r16) (by show _ < n; omega) ⟨by decide, _, rfl, rfl⟩ rfl rfl rfl rfl ?_
    refine g_iconst (Y := Y_X5_heal) (pc' := 24) dX5_heal_23 rfl ?_
    refine g_icmp_ne (Y := Y_X5_heal) (t := 31) (pc' := 27) dX5_heal_24 (by decide) rfl ⟨by omega, by omega⟩ ⟨by omega, by omega⟩ (fun h24 => ?_) (fun h24 => ?_)
    · have hz2 : ZV (m_healIt (m_sav1 I) (24 * p + q)) := healIt_ZV hz1 (by rw [spotAt_ne e111]; exact h24)
      have e : y_heal I p q = (m_lay (m_healIt (m_sav1 I) (24 * p + q)) 110 7, m_lay (m_healIt (m_sav1 I) (24 * p + q))) := (if_pos hb).trans (if_neg h24)
      have e1 : (y_heal I p q).1 = m_lay (m_healIt (m_sav1 I) (24 * p + q)) 110 7 := by rw [e]
      have e2 : (y_heal I p q).2 = m_lay (m_healIt (m_sav1 I) (24 * p + q)) := by rw [e]
      rw [e1, e2]
      clear e e1 e2
      refine g_iconst (Y := Y_X5_heal) (pc' := 32) dX5_heal_31 rfl ?_
      refine g_putI (Y := Y_X5_heal) (pc' := 35) dX5_heal_32 rfl fp_X5_50 rfl (by first | exact t0 | exact t1 | exact r1 | exact t2 | exact t3 | exact t4 | exact t5 | exact t6 | exact t7 | exact t8 | exact t9 | exact t10 | exact t11 | exact t12 | exact t13 | exact r2 | exact r4 | exact r5 | exact r8 | exact r9 | exact r10 | exact r11 | exact r12 | exact r13 | exact r14 | exact r15 | exact r16) (by omega) ?_
      refine g_aload0 (Y := Y_X5_heal) (pc' := 36) dX5_heal_35 rfl ?_
      refine g_getI (Y := Y_X5_heal) (pc' := 39) dX5_heal_36 rfl fl_X5_50 rfl (by first | exact t0 | exact t1 | exact r1 | exact t2 | exact t3 | exact t4 | exact t5 | exact t6 | exact t7 | exact t8 | exact t9 | exact t10 | exact t11 | exact t12 | exact t13 | exact r2 | exact r4 | exact r5 | exact r8 | exact r9 | exact r10 | exact r11 | exact r12 | exact r13 | exact r14 | exact r15 | exact r16) (by omega) ?_
      rw [u2_at]
      refine g_if_le (Y := Y_X5_heal) (t := 44) (pc' := 42) dX5_heal_39 (by decide) rfl ⟨by omega, by omega⟩ (fun h39 => ?_) (fun h39 => ?_)
      · refine g_aload0 (Y := Y_X5_heal) (pc' := 45) dX5_heal_44 rfl ?_
        refine g_callVn (Y := Y_X5_heal) (c := 5) (s_X5_sav1 (I := I) hk0 h3) (pc' := 48) dX5_heal_45 rfl cv_X5_133 rfl (by first | exact t0 | exact t1 | exact r1 | exact t2 | exact t3 | exact t4 | exact t5 | exact t6 | exact t7 | exact t8 | exact t9 | exact t10 | exact t11 | exact t12 | exact t13 | exact r2 | exact r4 | exact r5 | exact r8 | exact r9 | exact r10 | exact r11 | exact r12 | exact r13 | exact r14 | exact r15 | exact r16) (by show _ < n; omega) ⟨by decide, _, rfl, rfl⟩ rfl rfl rfl rfl ?_
        refine g_aload0 (Y := Y_X5_heal) (pc' := 49) dX5_heal_48 rfl ?_
        refine g_bipush (Y := Y_X5_heal) (pc' := 51) dX5_heal_49 rfl (by decide) ?_
        refine g_iload1 (Y := Y_X5_heal) (pc' := 52) dX5_heal_51 rfl ?_
        refine g_imul (Y := Y_X5_heal) (pc' := 53) dX5_heal_52 rfl ?_
        refine g_iload2 (Y := Y_X5_heal) (pc' := 54) dX5_heal_53 rfl ?_
        refine g_iadd (Y := Y_X5_heal) (pc' := 55) dX5_heal_54 rfl ?_
        refine g_callVn (Y := Y_X5_heal) (c := 5) (s_X5_healIt (I := m_sav1 I) hk0 hz1 (24 * p + q) ⟨by omega, by omega⟩ (by rw [spotAt_ne e111]; exact h24)) (pc' := 58) dX5_heal_55 rfl cv_X5_155 rfl (by first | exact t0 | exact t1 | exact r1 | exact t2 | exact t3 | exact t4 | exact t5 | exact t6 | exact t7 | exact t8 | exact t9 | exact t10 | exact t11 | exact t12 | exact t13 | exact r2 | exact r4 | exact r5 | exact r8 | exact r9 | exact r10 | exact r11 | exact r12 | exact r13 | exact r14 | exact r15 | exact r16) (by show _ < n; omega) ⟨by decide, _, rfl, rfl⟩ rfl rfl rfl rfl ?_
        refine g_aload0 (Y := Y_X5_heal) (pc' := 59) dX5_heal_58 rfl ?_
        refine g_callVv (Y := Y_X5_heal) (c := 5) (s_X5_linesNow (I := m_healIt (m_sav1 I) (24 * p + q)) hk0 hz2) (pc' := 62) dX5_heal_59 rfl cv_X5_152 rfl (by first | exact t0 | exact t1 | exact r1 | exact t2 | exact t3 | exact t4 | exact t5 | exact t6 | exact t7 | exact t8 | exact t9 | exact t10 | exact t11 | exact t12 | exact t13 | exact r2 | exact r4 | exact r5 | exact r8 | exact r9 | exact r10 | exact r11 | exact r12 | exact r13 | exact r14 | exact r15 | exact r16) (by show _ < n; omega) ⟨by decide, _, rfl, rfl⟩ rfl rfl rfl rfl ?_
        exact g_iret (Y := Y_X5_heal) dX5_heal_62 rfl (Nat.zero_le _) (Nat.zero_le _) (⟨rfl, rfl⟩)
      · exact absurd (by decide) h39
    · have e : y_heal I p q = (0, m_thr I 2) := (if_pos hb).trans (if_pos h24)
      have e1 : (y_heal I p q).1 = 0 := by rw [e]
      have e2 : (y_heal I p q).2 = m_thr I 2 := by rw [e]
      rw [e1, e2]
      clear e e1 e2
      refine g_iconst (Y := Y_X5_heal) (pc' := 28) dX5_heal_27 rfl ?_
      refine g_goto (Y := Y_X5_heal) (t := 32) dX5_heal_28 (by decide) ?_
      refine g_putI (Y := Y_X5_heal) (pc' := 35) dX5_heal_32 rfl fp_X5_50 rfl (by first | exact t0 | exact t1 | exact r1 | exact t2 | exact t3 | exact t4 | exact t5 | exact t6 | exact t7 | exact t8 | exact t9 | exact t10 | exact t11 | exact t12 | exact t13 | exact r2 | exact r4 | exact r5 | exact r8 | exact r9 | exact r10 | exact r11 | exact r12 | exact r13 | exact r14 | exact r15 | exact r16) (by omega) ?_
      refine g_aload0 (Y := Y_X5_heal) (pc' := 36) dX5_heal_35 rfl ?_
      refine g_getI (Y := Y_X5_heal) (pc' := 39) dX5_heal_36 rfl fl_X5_50 rfl (by first | exact t0 | exact t1 | exact r1 | exact t2 | exact t3 | exact t4 | exact t5 | exact t6 | exact t7 | exact t8 | exact t9 | exact t10 | exact t11 | exact t12 | exact t13 | exact r2 | exact r4 | exact r5 | exact r8 | exact r9 | exact r10 | exact r11 | exact r12 | exact r13 | exact r14 | exact r15 | exact r16) (by omega) ?_
      rw [u2_at]
      refine g_if_le (Y := Y_X5_heal) (t := 44) (pc' := 42) dX5_heal_39 (by decide) rfl ⟨by omega, by omega⟩ (fun h39 => ?_) (fun h39 => ?_)
      · exact absurd h39 (by decide)
      · refine g_iconst (Y := Y_X5_heal) (pc' := 43) dX5_heal_42 rfl ?_
        exact g_iret (Y := Y_X5_heal) dX5_heal_43 rfl (Nat.zero_le _) (Nat.zero_le _) (⟨rfl, rfl⟩)
  · have hb := ifb_f h6
    have e : y_heal I p q = (0, m_thr I 1) := if_neg hb
    have e1 : (y_heal I p q).1 = 0 := by rw [e]
    have e2 : (y_heal I p q).2 = m_thr I 1 := by rw [e]
    rw [e1, e2]
    clear e e1 e2
    refine g_iconst (Y := Y_X5_heal) (pc' := 10) dX5_heal_9 rfl ?_
    refine g_goto (Y := Y_X5_heal) (t := 32) dX5_heal_10 (by decide) ?_
    refine g_putI (Y := Y_X5_heal) (pc' := 35) dX5_heal_32 rfl fp_X5_50 rfl (by first | exact t0 | exact t1 | exact r1 | exact t2 | exact t3 | exact t4 | exact t5 | exact t6 | exact t7 | exact t8 | exact t9 | exact t10 | exact t11 | exact t12 | exact t13 | exact r2 | exact r4 | exact r5 | exact r8 | exact r9 | exact r10 | exact r11 | exact r12 | exact r13 | exact r14 | exact r15 | exact r16) (by omega) ?_
    refine g_aload0 (Y := Y_X5_heal) (pc' := 36) dX5_heal_35 rfl ?_
    refine g_getI (Y := Y_X5_heal) (pc' := 39) dX5_heal_36 rfl fl_X5_50 rfl (by first | exact t0 | exact t1 | exact r1 | exact t2 | exact t3 | exact t4 | exact t5 | exact t6 | exact t7 | exact t8 | exact t9 | exact t10 | exact t11 | exact t12 | exact t13 | exact r2 | exact r4 | exact r5 | exact r8 | exact r9 | exact r10 | exact r11 | exact r12 | exact r13 | exact r14 | exact r15 | exact r16) (by omega) ?_
    rw [u2_at]
    refine g_if_le (Y := Y_X5_heal) (t := 44) (pc' := 42) dX5_heal_39 (by decide) rfl ⟨by omega, by omega⟩ (fun h39 => ?_) (fun h39 => ?_)
    · exact absurd h39 (by decide)
    · refine g_iconst (Y := Y_X5_heal) (pc' := 43) dX5_heal_42 rfl ?_
      exact g_iret (Y := Y_X5_heal) dX5_heal_43 rfl (Nat.zero_le _) (Nat.zero_le _) (⟨rfl, rfl⟩)
