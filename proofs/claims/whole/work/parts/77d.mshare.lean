/-! the reference: the share, its bits; what looking leaves alone -/
set_option maxHeartbeats 2000000 in
set_option maxRecDepth 100000 in
theorem s_X5_goodShare {l : Launch} {E : QE} {T : Nat → Nat × Nat} {I : Nat → Nat → Int} {J : Nat → Nat → Int64} {R : Nat → Nat → Option Nat} {n z : Nat} (hk : MdB T R n) (hm9 : MV I) (h20 : 0 ≤ m_good (m_lay (m_thr I 0)) ∧ m_good (m_lay (m_thr I 0)) < 580) : SpV l E Y_X5_goodShare [.ref (E.1 + 110)] (T, I, J, R, n, z) (.double (f_shr (m_good (m_lay (m_thr I 0))))) (T, m_lay (m_thr I 0), J, R, n, z) := by
  have hk0 := hk
  obtain ⟨t0, t1, t2, t3, t4, t5, t6, t7, t8, t9, t10, t11, t12, t13, r1, r2, r4, r5, r8, r9, r10, r11, r12, r13, r14, r15, r16, hn⟩ := hk
  obtain ⟨hz9, hb9, hv9, h3, hsv9⟩ := id hm9
  obtain ⟨z3, zs, zs0, zd, zt, zt2, zv, zw, zk⟩ := id hz9
  have hz1 := thr_ZV (t := 0) hz9
  have hb1 := thr_HB (t := 0) hb9
  refine Sp.of [some (.ref (E.1 + 110))] (by decide +kernel) (Nat.le_of_ble_eq_true rfl) (fun _ h => h) ?_
  refine g_aload0 (Y := Y_X5_goodShare) (pc' := 1) dX5_goodShare_0 rfl ?_
  refine g_iconst (Y := Y_X5_goodShare) (pc' := 2) dX5_goodShare_1 rfl ?_
  refine g_putI (Y := Y_X5_goodShare) (pc' := 5) dX5_goodShare_2 rfl fp_X5_50 rfl (by first | exact t0 | exact t1 | exact r1 | exact t2 | exact t3 | exact t4 | exact t5 | exact t6 | exact t7 | exact t8 | exact t9 | exact t10 | exact t11 | exact t12 | exact t13 | exact r2 | exact r4 | exact r5 | exact r8 | exact r9 | exact r10 | exact r11 | exact r12 | exact r13 | exact r14 | exact r15 | exact r16) (by omega) ?_
  refine g_aload0 (Y := Y_X5_goodShare) (pc' := 6) dX5_goodShare_5 rfl ?_
  refine g_callVv (Y := Y_X5_goodShare) (c := 5) (s_X5_share (I := m_thr I 0) hk0 hz1 hb1 h20) (pc' := 9) dX5_goodShare_6 rfl cv_X5_249 rfl (by first | exact t0 | exact t1 | exact r1 | exact t2 | exact t3 | exact t4 | exact t5 | exact t6 | exact t7 | exact t8 | exact t9 | exact t10 | exact t11 | exact t12 | exact t13 | exact r2 | exact r4 | exact r5 | exact r8 | exact r9 | exact r10 | exact r11 | exact r12 | exact r13 | exact r14 | exact r15 | exact r16) (by show _ < n; omega) ⟨by decide, _, rfl, rfl⟩ rfl rfl rfl rfl ?_
  exact g_dret (Y := Y_X5_goodShare) dX5_goodShare_9 rfl (Nat.zero_le _) (Nat.zero_le _) (⟨rfl, rfl⟩)
