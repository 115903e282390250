/-! the reference: what it tells -/
set_option maxHeartbeats 2000000 in
set_option maxRecDepth 100000 in
theorem s_X5_wouldMove {l : Launch} {E : QE} {T : Nat → Nat × Nat} {I : Nat → Nat → Int} {J : Nat → Nat → Int64} {R : Nat → Nat → Option Nat} {n z : Nat} (hk : MdB T R n) (hz9 : ZV I) (hb9 : HB I)  : SpV l E Y_X5_wouldMove [.ref (E.1 + 110)] (T, I, J, R, n, z) (.int (iz (m_wm I).1)) (T, (m_wm I).2, J, R, n, z) := by
  have hk0 := hk
  obtain ⟨t0, t1, t2, t3, t4, t5, t6, t7, t8, t9, t10, t11, t12, t13, r1, r2, r4, r5, r8, r9, r10, r11, r12, r13, r14, r15, r16, hn⟩ := hk
  obtain ⟨z3, zs, zs0, zd, zt, zt2, zv, zw, zk⟩ := id hz9
  have hz1 := pa_ZV hz9
  have hb1 := pa_HB hb9
  have e : m_wm I = ((m_tidyUp (m_pa 1554 0 I) 480).1, m_bb 1554 0 (m_tidyUp (m_pa 1554 0 I) 480).2) := rfl
  have e1 : (m_wm I).1 = (m_tidyUp (m_pa 1554 0 I) 480).1 := by rw [e]
  have e2 : (m_wm I).2 = m_bb 1554 0 (m_tidyUp (m_pa 1554 0 I) 480).2 := by rw [e]
  rw [e1, e2]
  clear e e1 e2
  refine Sp.of [some (.ref (E.1 + 110)), none] (by decide +kernel) (Nat.le_of_ble_eq_true rfl) (fun _ h => h) ?_
  refine g_aload0 (Y := Y_X5_wouldMove) (pc' := 1) dX5_wouldMove_0 rfl ?_
  refine g_callVn (Y := Y_X5_wouldMove) (c := 5) (s_X5_putAside hk0) (pc' := 4) dX5_wouldMove_1 rfl cv_X5_229 rfl (by first | exact t0 | exact t1 | exact r1 | exact t2 | exact t3 | exact t4 | exact t5 | exact t6 | exact t7 | exact t8 | exact t9 | exact t10 | exact t11 | exact t12 | exact t13 | exact r2 | exact r4 | exact r5 | exact r8 | exact r9 | exact r10 | exact r11 | exact r12 | exact r13 | exact r14 | exact r15 | exact r16) (by show _ < n; omega) ⟨by decide, _, rfl, rfl⟩ rfl rfl rfl rfl ?_
  refine g_aload0 (Y := Y_X5_wouldMove) (pc' := 5) dX5_wouldMove_4 rfl ?_
  refine g_sipush (Y := Y_X5_wouldMove) (pc' := 8) dX5_wouldMove_5 rfl (by decide) ?_
  refine g_callVv (Y := Y_X5_wouldMove) (c := 5) (s_X5_tidyUp (I := m_pa 1554 0 I) hk0 hz1 hb1 480 (by decide)) (pc' := 11) dX5_wouldMove_8 rfl cv_X5_161 rfl (by first | exact t0 | exact t1 | exact r1 | exact t2 | exact t3 | exact t4 | exact t5 | exact t6 | exact t7 | exact t8 | exact t9 | exact t10 | exact t11 | exact t12 | exact t13 | exact r2 | exact r4 | exact r5 | exact r8 | exact r9 | exact r10 | exact r11 | exact r12 | exact r13 | exact r14 | exact r15 | exact r16) (by show _ < n; omega) ⟨by decide, _, rfl, rfl⟩ rfl rfl rfl rfl ?_
  refine g_istore1 (Y := Y_X5_wouldMove) (pc' := 12) dX5_wouldMove_11 rfl (Nat.le_of_ble_eq_true rfl) rfl ?_
  refine g_aload0 (Y := Y_X5_wouldMove) (pc' := 13) dX5_wouldMove_12 rfl ?_
  refine g_callVn (Y := Y_X5_wouldMove) (c := 5) (s_X5_bringBack (I := (m_tidyUp (m_pa 1554 0 I) 480).2) hk0) (pc' := 16) dX5_wouldMove_13 rfl cv_X5_232 rfl (by first | exact t0 | exact t1 | exact r1 | exact t2 | exact t3 | exact t4 | exact t5 | exact t6 | exact t7 | exact t8 | exact t9 | exact t10 | exact t11 | exact t12 | exact t13 | exact r2 | exact r4 | exact r5 | exact r8 | exact r9 | exact r10 | exact r11 | exact r12 | exact r13 | exact r14 | exact r15 | exact r16) (by show _ < n; omega) ⟨by decide, _, rfl, rfl⟩ rfl rfl rfl rfl ?_
  refine g_iload1 (Y := Y_X5_wouldMove) (pc' := 17) dX5_wouldMove_16 rfl ?_
  exact g_iret (Y := Y_X5_wouldMove) dX5_wouldMove_17 rfl (Nat.zero_le _) (Nat.zero_le _) (⟨rfl, rfl⟩)
