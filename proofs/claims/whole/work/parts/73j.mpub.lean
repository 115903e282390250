/-! the reference: what else changes it -/
set_option maxHeartbeats 2000000 in
set_option maxRecDepth 100000 in
theorem s_X5_read {l : Launch} {E : QE} {T : Nat → Nat × Nat} {I : Nat → Nat → Int} {J : Nat → Nat → Int64} {R : Nat → Nat → Option Nat} {n z : Nat} (hk : MdB T R n) (hm9 : MV I)  : SpV l E Y_X5_read [.ref (E.1 + 110)] (T, I, J, R, n, z) (.int (iz (y_read I).1)) (T, (y_read I).2, J, R, n, z) := by
  have hk0 := hk
  obtain ⟨t0, t1, t2, t3, t4, t5, t6, t7, t8, t9, t10, t11, t12, t13, r1, r2, r4, r5, r8, r9, r10, r11, r12, r13, r14, r15, r16, hn⟩ := hk
  obtain ⟨hz9, hb9, hv9, h3, hsv9⟩ := id hm9
  obtain ⟨z3, zs, zs0, zd, zt, zt2, zv, zw, zk⟩ := id hz9
  obtain ⟨o1, o2, o3⟩ := rb_OR hv9
  have rk := RK_rb (I := I)
  have hzr : ZV (m_rb I) := ZV_ne hz9 (rk.1 111 (by decide) (by decide))
  have hz1 := sav1_ZV hzr
  have e3 : m_rb I 110 3 = I 110 3 := rk.2 3 (by decide) (by decide) (by decide)
  have e17 : m_sav1 (m_rb I) 110 17 = m_rb I 110 17 := by unfold m_sav1; rw [save_110, if_neg (by decide), thr_110 (by decide)]
  have e123 : m_sav1 (m_rb I) 123 = m_rb I 123 := sav1_111 (by decide) (by decide)
  refine Sp.of [some (.ref (E.1 + 110)), none] (by decide +kernel) (Nat.le_of_ble_eq_true rfl) (fun _ h => h) ?_
  refine g_aload0 (Y := Y_X5_read) (pc' := 1) dX5_read_0 rfl ?_
  refine g_aload0 (Y := Y_X5_read) (pc' := 2) dX5_read_1 rfl ?_
  refine g_callVv (Y := Y_X5_read) (c := 5) (s_X5_readBuffer hk0 hv9) (pc' := 5) dX5_read_2 rfl cv_X5_195 rfl (by first | exact t0 | exact t1 | exact r1 | exact t2 | exact t3 | exact t4 | exact t5 | exact t6 | exact t7 | exact t8 | exact t9 | exact t10 | exact t11 | exact t12 | exact t13 | exact r2 | exact r4 | exact r5 | exact r8 | exact r9 | exact r10 | exact r11 | exact r12 | exact r13 | exact r14 | exact r15 | exact r16) (by show _ < n; omega) ⟨by decide, _, rfl, rfl⟩ rfl rfl rfl rfl ?_
  refine g_iconst (Y := Y_X5_read) (pc' := 6) dX5_read_5 rfl ?_
  refine g_icmp_ne (Y := Y_X5_read) (t := 13) (pc' := 9) dX5_read_6 (by decide) rfl ⟨by omega, by omega⟩ ⟨by omega, by omega⟩ (fun h6 => ?_) (fun h6 => ?_)
  · have e : y_read I = (0, m_thr (m_rb I) 1) := if_neg h6
    have e1 : (y_read I).1 = 0 := by rw [e]
    have e2 : (y_read I).2 = m_thr (m_rb I) 1 := by rw [e]
    rw [e1, e2]
    clear e e1 e2
    refine g_iconst (Y := Y_X5_read) (pc' := 14) dX5_read_13 rfl ?_
    refine g_putI (Y := Y_X5_read) (pc' := 17) dX5_read_14 rfl fp_X5_50 rfl (by first | exact t0 | exact t1 | exact r1 | exact t2 | exact t3 | exact t4 | exact t5 | exact t6 | exact t7 | exact t8 | exact t9 | exact t10 | exact t11 | exact t12 | exact t13 | exact r2 | exact r4 | exact r5 | exact r8 | exact r9 | exact r10 | exact r11 | exact r12 | exact r13 | exact r14 | exact r15 | exact r16) (by omega) ?_
    refine g_aload0 (Y := Y_X5_read) (pc' := 18) dX5_read_17 rfl ?_
    refine g_getI (Y := Y_X5_read) (pc' := 21) dX5_read_18 rfl fl_X5_50 rfl (by first | exact t0 | exact t1 | exact r1 | exact t2 | exact t3 | exact t4 | exact t5 | exact t6 | exact t7 | exact t8 | exact t9 | exact t10 | exact t11 | exact t12 | exact t13 | exact r2 | exact r4 | exact r5 | exact r8 | exact r9 | exact r10 | exact r11 | exact r12 | exact r13 | exact r14 | exact r15 | exact r16) (by omega) ?_
    rw [u2_at]
    refine g_if_le (Y := Y_X5_read) (t := 26) (pc' := 24) dX5_read_21 (by decide) rfl ⟨by omega, by omega⟩ (fun h21 => ?_) (fun h21 => ?_)
    · exact absurd h21 (by decide)
    · refine g_iconst (Y := Y_X5_read) (pc' := 25) dX5_read_24 rfl ?_
      exact g_iret (Y := Y_X5_read) dX5_read_25 rfl (Nat.zero_le _) (Nat.zero_le _) (⟨rfl, rfl⟩)
  · have e : y_read I = ((m_doL (m_sav1 (m_rb I) 110 17).toNat 0 (m_sav1 (m_rb I))).1, u2 (m_doL (m_sav1 (m_rb I) 110 17).toNat 0 (m_sav1 (m_rb I))).2 110 6 0) := if_pos h6
    have e1 : (y_read I).1 = (m_doL (m_sav1 (m_rb I) 110 17).toNat 0 (m_sav1 (m_rb I))).1 := by rw [e]
    have e2 : (y_read I).2 = u2 (m_doL (m_sav1 (m_rb I) 110 17).toNat 0 (m_sav1 (m_rb I))).2 110 6 0 := by rw [e]
    rw [e1, e2]
    clear e e1 e2
    refine g_iconst (Y := Y_X5_read) (pc' := 10) dX5_read_9 rfl ?_
    refine g_goto (Y := Y_X5_read) (t := 14) dX5_read_10 (by decide) ?_
    refine g_putI (Y := Y_X5_read) (pc' := 17) dX5_read_14 rfl fp_X5_50 rfl (by first | exact t0 | exact t1 | exact r1 | exact t2 | exact t3 | exact t4 | exact t5 | exact t6 | exact t7 | exact t8 | exact t9 | exact t10 | exact t11 | exact t12 | exact t13 | exact r2 | exact r4 | exact r5 | exact r8 | exact r9 | exact r10 | exact r11 | exact r12 | exact r13 | exact r14 | exact r15 | exact r16) (by omega) ?_
    refine g_aload0 (Y := Y_X5_read) (pc' := 18) dX5_read_17 rfl ?_
    refine g_getI (Y := Y_X5_read) (pc' := 21) dX5_read_18 rfl fl_X5_50 rfl (by first | exact t0 | exact t1 | exact r1 | exact t2 | exact t3 | exact t4 | exact t5 | exact t6 | exact t7 | exact t8 | exact t9 | exact t10 | exact t11 | exact t12 | exact t13 | exact r2 | exact r4 | exact r5 | exact r8 | exact r9 | exact r10 | exact r11 | exact r12 | exact r13 | exact r14 | exact r15 | exact r16) (by omega) ?_
    rw [u2_at]
    refine g_if_le (Y := Y_X5_read) (t := 26) (pc' := 24) dX5_read_21 (by decide) rfl ⟨by omega, by omega⟩ (fun h21 => ?_) (fun h21 => ?_)
    · refine g_aload0 (Y := Y_X5_read) (pc' := 27) dX5_read_26 rfl ?_
      refine g_callVn (Y := Y_X5_read) (c := 5) (s_X5_sav1 (I := m_rb I) hk0 (by rw [e3]; exact h3)) (pc' := 30) dX5_read_27 rfl cv_X5_133 rfl (by first | exact t0 | exact t1 | exact r1 | exact t2 | exact t3 | exact t4 | exact t5 | exact t6 | exact t7 | exact t8 | exact t9 | exact t10 | exact t11 | exact t12 | exact t13 | exact r2 | exact r4 | exact r5 | exact r8 | exact r9 | exact r10 | exact r11 | exact r12 | exact r13 | exact r14 | exact r15 | exact r16) (by show _ < n; omega) ⟨by decide, _, rfl, rfl⟩ rfl rfl rfl rfl ?_
      refine g_iconst (Y := Y_X5_read) (pc' := 31) dX5_read_30 rfl ?_
      refine g_istore1 (Y := Y_X5_read) (pc' := 32) dX5_read_31 rfl (Nat.le_of_ble_eq_true rfl) rfl ?_
      exact s_X5_read_lp hk0 (m_sav1 (m_rb I) 110 17).toNat 0 (m_sav1 (m_rb I)) hz1 (by unfold OK9; rw [e17, e123]; exact o3 h6) (by rw [e17]; omega) (by rw [e17]; omega)
    · exact absurd (by decide) h21
