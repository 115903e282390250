/-! the reference: what else changes it -/
set_option maxHeartbeats 2000000 in
set_option maxRecDepth 100000 in
theorem s_X5_tidy {l : Launch} {E : QE} {T : Nat → Nat × Nat} {I : Nat → Nat → Int} {J : Nat → Nat → Int64} {R : Nat → Nat → Option Nat} {n z : Nat} (hk : MdB T R n) (hm9 : MV I) (p : Int) (h_p : -2147483648 ≤ p ∧ p < 2147483648)  : SpV l E Y_X5_tidy [.ref (E.1 + 110), .int (iz p)] (T, I, J, R, n, z) (.int (iz (y_tidy I p).1)) (T, (y_tidy I p).2, J, R, n, z) := by
  have hk0 := hk
  obtain ⟨t0, t1, t2, t3, t4, t5, t6, t7, t8, t9, t10, t11, t12, t13, r1, r2, r4, r5, r8, r9, r10, r11, r12, r13, r14, r15, r16, hn⟩ := hk
  obtain ⟨hz9, hb9, hv9, h3, hsv9⟩ := id hm9
  obtain ⟨z3, zs, zs0, zd, zt, zt2, zv, zw, zk⟩ := id hz9
  have hz1 := sav1_ZV hz9
  have hb1 := sav1_HB hb9
  have e111 : m_sav1 I 111 = I 111 := sav1_111 (by decide) (by decide)
  refine Sp.of [some (.ref (E.1 + 110)), some (.int (iz p))] (by decide +kernel) (Nat.le_of_ble_eq_true rfl) (fun _ h => h) ?_
  refine g_aload0 (Y := Y_X5_tidy) (pc' := 1) dX5_tidy_0 rfl ?_
  refine g_iload1 (Y := Y_X5_tidy) (pc' := 2) dX5_tidy_1 rfl ?_
  refine g_iconst (Y := Y_X5_tidy) (pc' := 3) dX5_tidy_2 rfl ?_
  refine g_bipush (Y := Y_X5_tidy) (pc' := 5) dX5_tidy_3 rfl (by decide) ?_
  refine g_callSv (Y := Y_X5_tidy) (s_X5_in p 1 99 h_p ⟨by decide, by decide⟩ ⟨by decide, by decide⟩) (pc' := 8) dX5_tidy_5 rfl cv_X5_54 rfl rfl rfl rfl rfl ?_
  refine g_if_eq (Y := Y_X5_tidy) (t := 15) (pc' := 11) dX5_tidy_8 (by decide) rfl ⟨by omega, by omega⟩ (fun h8 => ?_) (fun h8 => ?_)
  · have hb := ifb_f h8
    have e : y_tidy I p = (0, m_thr I 1) := if_neg hb
    have e1 : (y_tidy I p).1 = 0 := by rw [e]
    have e2 : (y_tidy I p).2 = m_thr I 1 := by rw [e]
    rw [e1, e2]
    clear e e1 e2
    refine g_iconst (Y := Y_X5_tidy) (pc' := 16) dX5_tidy_15 rfl ?_
    refine g_putI (Y := Y_X5_tidy) (pc' := 19) dX5_tidy_16 rfl fp_X5_50 rfl (by first | exact t0 | exact t1 | exact r1 | exact t2 | exact t3 | exact t4 | exact t5 | exact t6 | exact t7 | exact t8 | exact t9 | exact t10 | exact t11 | exact t12 | exact t13 | exact r2 | exact r4 | exact r5 | exact r8 | exact r9 | exact r10 | exact r11 | exact r12 | exact r13 | exact r14 | exact r15 | exact r16) (by omega) ?_
    refine g_aload0 (Y := Y_X5_tidy) (pc' := 20) dX5_tidy_19 rfl ?_
    refine g_getI (Y := Y_X5_tidy) (pc' := 23) dX5_tidy_20 rfl fl_X5_50 rfl (by first | exact t0 | exact t1 | exact r1 | exact t2 | exact t3 | exact t4 | exact t5 | exact t6 | exact t7 | exact t8 | exact t9 | exact t10 | exact t11 | exact t12 | exact t13 | exact r2 | exact r4 | exact r5 | exact r8 | exact r9 | exact r10 | exact r11 | exact r12 | exact r13 | exact r14 | exact r15 | exact r16) (by omega) ?_
    rw [u2_at]
    refine g_if_le (Y := Y_X5_tidy) (t := 28) (pc' := 26) dX5_tidy_23 (by decide) rfl ⟨by omega, by omega⟩ (fun h23 => ?_) (fun h23 => ?_)
    · exact absurd h23 (by decide)
    · refine g_iconst (Y := Y_X5_tidy) (pc' := 27) dX5_tidy_26 rfl ?_
      exact g_iret (Y := Y_X5_tidy) dX5_tidy_27 rfl (Nat.zero_le _) (Nat.zero_le _) (⟨rfl, rfl⟩)
  · have hb := ifb_t h8
    have e : y_tidy I p = m_tidyUp (m_sav1 I) p := if_pos hb
    rw [e]
    clear e
    refine g_iconst (Y := Y_X5_tidy) (pc' := 12) dX5_tidy_11 rfl ?_
    refine g_goto (Y := Y_X5_tidy) (t := 16) dX5_tidy_12 (by decide) ?_
    refine g_putI (Y := Y_X5_tidy) (pc' := 19) dX5_tidy_16 rfl fp_X5_50 rfl (by first | exact t0 | exact t1 | exact r1 | exact t2 | exact t3 | exact t4 | exact t5 | exact t6 | exact t7 | exact t8 | exact t9 | exact t10 | exact t11 | exact t12 | exact t13 | exact r2 | exact r4 | exact r5 | exact r8 | exact r9 | exact r10 | exact r11 | exact r12 | exact r13 | exact r14 | exact r15 | exact r16) (by omega) ?_
    refine g_aload0 (Y := Y_X5_tidy) (pc' := 20) dX5_tidy_19 rfl ?_
    refine g_getI (Y := Y_X5_tidy) (pc' := 23) dX5_tidy_20 rfl fl_X5_50 rfl (by first | exact t0 | exact t1 | exact r1 | exact t2 | exact t3 | exact t4 | exact t5 | exact t6 | exact t7 | exact t8 | exact t9 | exact t10 | exact t11 | exact t12 | exact t13 | exact r2 | exact r4 | exact r5 | exact r8 | exact r9 | exact r10 | exact r11 | exact r12 | exact r13 | exact r14 | exact r15 | exact r16) (by omega) ?_
    rw [u2_at]
    refine g_if_le (Y := Y_X5_tidy) (t := 28) (pc' := 26) dX5_tidy_23 (by decide) rfl ⟨by omega, by omega⟩ (fun h23 => ?_) (fun h23 => ?_)
    · refine g_aload0 (Y := Y_X5_tidy) (pc' := 29) dX5_tidy_28 rfl ?_
      refine g_callVn (Y := Y_X5_tidy) (c := 5) (s_X5_sav1 (I := I) hk0 h3) (pc' := 32) dX5_tidy_29 rfl cv_X5_133 rfl (by first | exact t0 | exact t1 | exact r1 | exact t2 | exact t3 | exact t4 | exact t5 | exact t6 | exact t7 | exact t8 | exact t9 | exact t10 | exact t11 | exact t12 | exact t13 | exact r2 | exact r4 | exact r5 | exact r8 | exact r9 | exact r10 | exact r11 | exact r12 | exact r13 | exact r14 | exact r15 | exact r16) (by show _ < n; omega) ⟨by decide, _, rfl, rfl⟩ rfl rfl rfl rfl ?_
      refine g_aload0 (Y := Y_X5_tidy) (pc' := 33) dX5_tidy_32 rfl ?_
      refine g_iload1 (Y := Y_X5_tidy) (pc' := 34) dX5_tidy_33 rfl ?_
      refine g_callVv (Y := Y_X5_tidy) (c := 5) (s_X5_tidyUp (I := m_sav1 I) hk0 hz1 hb1 p ⟨by omega, by omega⟩) (pc' := 37) dX5_tidy_34 rfl cv_X5_161 rfl (by first | exact t0 | exact t1 | exact r1 | exact t2 | exact t3 | exact t4 | exact t5 | exact t6 | exact t7 | exact t8 | exact t9 | exact t10 | exact t11 | exact t12 | exact t13 | exact r2 | exact r4 | exact r5 | exact r8 | exact r9 | exact r10 | exact r11 | exact r12 | exact r13 | exact r14 | exact r15 | exact r16) (by show _ < n; omega) ⟨by decide, _, rfl, rfl⟩ rfl rfl rfl rfl ?_
      exact g_iret (Y := Y_X5_tidy) dX5_tidy_37 rfl (Nat.zero_le _) (Nat.zero_le _) (⟨rfl, rfl⟩)
    · exact absurd (by decide) h23
