/-! the reference: its looks -/
set_option maxHeartbeats 2000000 in
set_option maxRecDepth 100000 in
theorem s_X5_count {l : Launch} {E : QE} {T : Nat → Nat × Nat} {I : Nat → Nat → Int} {J : Nat → Nat → Int64} {R : Nat → Nat → Option Nat} {n z : Nat} (hk : MdB T R n) (hm9 : MV I) (w : Int) (h_w : -2147483648 ≤ w ∧ w < 2147483648)  : SpV l E Y_X5_count [.ref (E.1 + 110), .int (iz w)] (T, I, J, R, n, z) (.int (iz (y_count I w).1)) (T, (y_count I w).2, J, R, n, z) := by
  have hk0 := hk
  obtain ⟨t0, t1, t2, t3, t4, t5, t6, t7, t8, t9, t10, t11, t12, t13, r1, r2, r4, r5, r8, r9, r10, r11, r12, r13, r14, r15, r16, hn⟩ := hk
  obtain ⟨hz9, hb9, hv9, h3, hsv9⟩ := id hm9
  obtain ⟨z3, zs, zs0, zd, zt, zt2, zv, zw, zk⟩ := id hz9
  have hz1 := thr_ZV (t := 0) hz9
  have hb1 := thr_HB (t := 0) hb9
  refine Sp.of [some (.ref (E.1 + 110)), some (.int (iz w))] (by decide +kernel) (Nat.le_of_ble_eq_true rfl) (fun _ h => h) ?_
  refine g_aload0 (Y := Y_X5_count) (pc' := 1) dX5_count_0 rfl ?_
  refine g_iload1 (Y := Y_X5_count) (pc' := 2) dX5_count_1 rfl ?_
  refine g_iconst (Y := Y_X5_count) (pc' := 3) dX5_count_2 rfl ?_
  refine g_bipush (Y := Y_X5_count) (pc' := 5) dX5_count_3 rfl (by decide) ?_
  refine g_callSv (Y := Y_X5_count) (s_X5_in w 0 9 h_w ⟨by decide, by decide⟩ ⟨by decide, by decide⟩) (pc' := 8) dX5_count_5 rfl cv_X5_54 rfl rfl rfl rfl rfl ?_
  refine g_if_eq (Y := Y_X5_count) (t := 15) (pc' := 11) dX5_count_8 (by decide) rfl ⟨by omega, by omega⟩ (fun h8 => ?_) (fun h8 => ?_)
  · have hb := ifb_f h8
    have e : y_count I w = (0, m_thr I 1) := if_neg hb
    have e1 : (y_count I w).1 = 0 := by rw [e]
    have e2 : (y_count I w).2 = m_thr I 1 := by rw [e]
    rw [e1, e2]
    clear e e1 e2
    refine g_iconst (Y := Y_X5_count) (pc' := 16) dX5_count_15 rfl ?_
    refine g_putI (Y := Y_X5_count) (pc' := 19) dX5_count_16 rfl fp_X5_50 rfl (by first | exact t0 | exact t1 | exact r1 | exact t2 | exact t3 | exact t4 | exact t5 | exact t6 | exact t7 | exact t8 | exact t9 | exact t10 | exact t11 | exact t12 | exact t13 | exact r2 | exact r4 | exact r5 | exact r8 | exact r9 | exact r10 | exact r11 | exact r12 | exact r13 | exact r14 | exact r15 | exact r16) (by omega) ?_
    refine g_aload0 (Y := Y_X5_count) (pc' := 20) dX5_count_19 rfl ?_
    refine g_getI (Y := Y_X5_count) (pc' := 23) dX5_count_20 rfl fl_X5_50 rfl (by first | exact t0 | exact t1 | exact r1 | exact t2 | exact t3 | exact t4 | exact t5 | exact t6 | exact t7 | exact t8 | exact t9 | exact t10 | exact t11 | exact t12 | exact t13 | exact r2 | exact r4 | exact r5 | exact r8 | exact r9 | exact r10 | exact r11 | exact r12 | exact r13 | exact r14 | exact r15 | exact r16) (by omega) ?_
    rw [u2_at]
    refine g_if_le (Y := Y_X5_count) (t := 30) (pc' := 26) dX5_count_23 (by decide) rfl ⟨by omega, by omega⟩ (fun h23 => ?_) (fun h23 => ?_)
    · exact absurd h23 (by decide)
    · refine g_iconst (Y := Y_X5_count) (pc' := 27) dX5_count_26 rfl ?_
      refine g_goto (Y := Y_X5_count) (t := 35) dX5_count_27 (by decide) ?_
      exact g_iret (Y := Y_X5_count) dX5_count_35 rfl (Nat.zero_le _) (Nat.zero_le _) (⟨rfl, rfl⟩)
  · have hb := ifb_t h8
    obtain ⟨w, rfl⟩ : ∃ w9 : Nat, w = (w9 : Int) := ⟨w.toNat, by omega⟩
    have e : y_count I w = (m_ctd (m_ctI (m_thr I 0) w) w, m_ctI (m_thr I 0) w) := if_pos hb
    have e1 : (y_count I w).1 = m_ctd (m_ctI (m_thr I 0) w) w := by rw [e]
    have e2 : (y_count I w).2 = m_ctI (m_thr I 0) w := by rw [e]
    rw [e1, e2]
    clear e e1 e2
    refine g_iconst (Y := Y_X5_count) (pc' := 12) dX5_count_11 rfl ?_
    refine g_goto (Y := Y_X5_count) (t := 16) dX5_count_12 (by decide) ?_
    refine g_putI (Y := Y_X5_count) (pc' := 19) dX5_count_16 rfl fp_X5_50 rfl (by first | exact t0 | exact t1 | exact r1 | exact t2 | exact t3 | exact t4 | exact t5 | exact t6 | exact t7 | exact t8 | exact t9 | exact t10 | exact t11 | exact t12 | exact t13 | exact r2 | exact r4 | exact r5 | exact r8 | exact r9 | exact r10 | exact r11 | exact r12 | exact r13 | exact r14 | exact r15 | exact r16) (by omega) ?_
    refine g_aload0 (Y := Y_X5_count) (pc' := 20) dX5_count_19 rfl ?_
    refine g_getI (Y := Y_X5_count) (pc' := 23) dX5_count_20 rfl fl_X5_50 rfl (by first | exact t0 | exact t1 | exact r1 | exact t2 | exact t3 | exact t4 | exact t5 | exact t6 | exact t7 | exact t8 | exact t9 | exact t10 | exact t11 | exact t12 | exact t13 | exact r2 | exact r4 | exact r5 | exact r8 | exact r9 | exact r10 | exact r11 | exact r12 | exact r13 | exact r14 | exact r15 | exact r16) (by omega) ?_
    rw [u2_at]
    refine g_if_le (Y := Y_X5_count) (t := 30) (pc' := 26) dX5_count_23 (by decide) rfl ⟨by omega, by omega⟩ (fun h23 => ?_) (fun h23 => ?_)
    · refine g_aload0 (Y := Y_X5_count) (pc' := 31) dX5_count_30 rfl ?_
      refine g_iload1 (Y := Y_X5_count) (pc' := 32) dX5_count_31 rfl ?_
      refine g_callVv (Y := Y_X5_count) (c := 5) (s_X5_counted (I := m_thr I 0) hk0 hz1 hb1 w (by omega)) (pc' := 35) dX5_count_32 rfl cv_X5_226 rfl (by first | exact t0 | exact t1 | exact r1 | exact t2 | exact t3 | exact t4 | exact t5 | exact t6 | exact t7 | exact t8 | exact t9 | exact t10 | exact t11 | exact t12 | exact t13 | exact r2 | exact r4 | exact r5 | exact r8 | exact r9 | exact r10 | exact r11 | exact r12 | exact r13 | exact r14 | exact r15 | exact r16) (by show _ < n; omega) ⟨by decide, _, rfl, rfl⟩ rfl rfl rfl rfl ?_
      exact g_iret (Y := Y_X5_count) dX5_count_35 rfl (Nat.zero_le _) (Nat.zero_le _) (⟨rfl, rfl⟩)
    · exact absurd (by decide) h23
