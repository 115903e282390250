/-! the reference: its looks -/
set_option maxHeartbeats 2000000 in
set_option maxRecDepth 100000 in
theorem s_X5_find {l : Launch} {E : QE} {T : Nat → Nat × Nat} {I : Nat → Nat → Int} {J : Nat → Nat → Int64} {R : Nat → Nat → Option Nat} {n z : Nat} (hk : MdB T R n) (hm9 : MV I) (v : Int) (h_v : -2147483648 ≤ v ∧ v < 2147483648)  : SpV l E Y_X5_find [.ref (E.1 + 110), .int (iz v)] (T, I, J, R, n, z) (.int (iz (y_find I v).1)) (T, (y_find I v).2, J, R, n, z) := by
  have hk0 := hk
  obtain ⟨t0, t1, t2, t3, t4, t5, t6, t7, t8, t9, t10, t11, t12, t13, r1, r2, r4, r5, r8, r9, r10, r11, r12, r13, r14, r15, r16, hn⟩ := hk
  obtain ⟨hz9, hb9, hv9, h3, hsv9⟩ := id hm9
  obtain ⟨z3, zs, zs0, zd, zt, zt2, zv, zw, zk⟩ := id hz9
  have hz1 := thr_ZV (t := 0) hz9
  have hb1 := thr_HB (t := 0) hb9
  refine Sp.of [some (.ref (E.1 + 110)), some (.int (iz v))] (by decide +kernel) (Nat.le_of_ble_eq_true rfl) (fun _ h => h) ?_
  refine g_aload0 (Y := Y_X5_find) (pc' := 1) dX5_find_0 rfl ?_
  refine g_iload1 (Y := Y_X5_find) (pc' := 2) dX5_find_1 rfl ?_
  refine g_callSv (Y := Y_X5_find) (s_X5_isValue v h_v) (pc' := 5) dX5_find_2 rfl cv_X5_127 rfl rfl rfl rfl rfl ?_
  refine g_if_eq (Y := Y_X5_find) (t := 12) (pc' := 8) dX5_find_5 (by decide) rfl ⟨by omega, by omega⟩ (fun h5 => ?_) (fun h5 => ?_)
  · have hb := ifb_f h5
    have e : y_find I v = (0, m_thr I 1) := if_neg hb
    have e1 : (y_find I v).1 = 0 := by rw [e]
    have e2 : (y_find I v).2 = m_thr I 1 := by rw [e]
    rw [e1, e2]
    clear e e1 e2
    refine g_iconst (Y := Y_X5_find) (pc' := 13) dX5_find_12 rfl ?_
    refine g_putI (Y := Y_X5_find) (pc' := 16) dX5_find_13 rfl fp_X5_50 rfl (by first | exact t0 | exact t1 | exact r1 | exact t2 | exact t3 | exact t4 | exact t5 | exact t6 | exact t7 | exact t8 | exact t9 | exact t10 | exact t11 | exact t12 | exact t13 | exact r2 | exact r4 | exact r5 | exact r8 | exact r9 | exact r10 | exact r11 | exact r12 | exact r13 | exact r14 | exact r15 | exact r16) (by omega) ?_
    refine g_aload0 (Y := Y_X5_find) (pc' := 17) dX5_find_16 rfl ?_
    refine g_getI (Y := Y_X5_find) (pc' := 20) dX5_find_17 rfl fl_X5_50 rfl (by first | exact t0 | exact t1 | exact r1 | exact t2 | exact t3 | exact t4 | exact t5 | exact t6 | exact t7 | exact t8 | exact t9 | exact t10 | exact t11 | exact t12 | exact t13 | exact r2 | exact r4 | exact r5 | exact r8 | exact r9 | exact r10 | exact r11 | exact r12 | exact r13 | exact r14 | exact r15 | exact r16) (by omega) ?_
    rw [u2_at]
    refine g_if_le (Y := Y_X5_find) (t := 27) (pc' := 23) dX5_find_20 (by decide) rfl ⟨by omega, by omega⟩ (fun h20 => ?_) (fun h20 => ?_)
    · exact absurd h20 (by decide)
    · refine g_iconst (Y := Y_X5_find) (pc' := 24) dX5_find_23 rfl ?_
      refine g_goto (Y := Y_X5_find) (t := 32) dX5_find_24 (by decide) ?_
      exact g_iret (Y := Y_X5_find) dX5_find_32 rfl (Nat.zero_le _) (Nat.zero_le _) (⟨rfl, rfl⟩)
  · have hb := ifb_t h5
    have e : y_find I v = (m_bwL (m_thr I 0) v 480 0, m_thr I 0) := if_pos hb
    have e1 : (y_find I v).1 = m_bwL (m_thr I 0) v 480 0 := by rw [e]
    have e2 : (y_find I v).2 = m_thr I 0 := by rw [e]
    rw [e1, e2]
    clear e e1 e2
    refine g_iconst (Y := Y_X5_find) (pc' := 9) dX5_find_8 rfl ?_
    refine g_goto (Y := Y_X5_find) (t := 13) dX5_find_9 (by decide) ?_
    refine g_putI (Y := Y_X5_find) (pc' := 16) dX5_find_13 rfl fp_X5_50 rfl (by first | exact t0 | exact t1 | exact r1 | exact t2 | exact t3 | exact t4 | exact t5 | exact t6 | exact t7 | exact t8 | exact t9 | exact t10 | exact t11 | exact t12 | exact t13 | exact r2 | exact r4 | exact r5 | exact r8 | exact r9 | exact r10 | exact r11 | exact r12 | exact r13 | exact r14 | exact r15 | exact r16) (by omega) ?_
    refine g_aload0 (Y := Y_X5_find) (pc' := 17) dX5_find_16 rfl ?_
    refine g_getI (Y := Y_X5_find) (pc' := 20) dX5_find_17 rfl fl_X5_50 rfl (by first | exact t0 | exact t1 | exact r1 | exact t2 | exact t3 | exact t4 | exact t5 | exact t6 | exact t7 | exact t8 | exact t9 | exact t10 | exact t11 | exact t12 | exact t13 | exact r2 | exact r4 | exact r5 | exact r8 | exact r9 | exact r10 | exact r11 | exact r12 | exact r13 | exact r14 | exact r15 | exact r16) (by omega) ?_
    rw [u2_at]
    refine g_if_le (Y := Y_X5_find) (t := 27) (pc' := 23) dX5_find_20 (by decide) rfl ⟨by omega, by omega⟩ (fun h20 => ?_) (fun h20 => ?_)
    · refine g_aload0 (Y := Y_X5_find) (pc' := 28) dX5_find_27 rfl ?_
      refine g_iload1 (Y := Y_X5_find) (pc' := 29) dX5_find_28 rfl ?_
      refine g_callVv (Y := Y_X5_find) (c := 5) (s_X5_blockWith (I := m_thr I 0) hk0 hz1 v hb) (pc' := 32) dX5_find_29 rfl cv_X5_244 rfl (by first | exact t0 | exact t1 | exact r1 | exact t2 | exact t3 | exact t4 | exact t5 | exact t6 | exact t7 | exact t8 | exact t9 | exact t10 | exact t11 | exact t12 | exact t13 | exact r2 | exact r4 | exact r5 | exact r8 | exact r9 | exact r10 | exact r11 | exact r12 | exact r13 | exact r14 | exact r15 | exact r16) (by show _ < n; omega) ⟨by decide, _, rfl, rfl⟩ rfl rfl rfl rfl ?_
      exact g_iret (Y := Y_X5_find) dX5_find_32 rfl (Nat.zero_le _) (Nat.zero_le _) (⟨rfl, rfl⟩)
    · exact absurd (by decide) h20
