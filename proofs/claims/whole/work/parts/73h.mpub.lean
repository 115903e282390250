/-! the reference: what else changes it -/
set_option maxHeartbeats 2000000 in
set_option maxRecDepth 100000 in
theorem s_X5_clearBuffer {l : Launch} {E : QE} {T : Nat → Nat × Nat} {I : Nat → Nat → Int} {J : Nat → Nat → Int64} {R : Nat → Nat → Option Nat} {n z : Nat} (hk : MdB T R n)  : SpV l E Y_X5_clearBuffer [.ref (E.1 + 110)] (T, I, J, R, n, z) (.int (iz (I 110 6))) (T, u2 (m_thr I 0) 110 6 0, J, R, n, z) := by
  obtain ⟨t0, t1, t2, t3, t4, t5, t6, t7, t8, t9, t10, t11, t12, t13, r1, r2, r4, r5, r8, r9, r10, r11, r12, r13, r14, r15, r16, hn⟩ := hk
  have e6 : u2 I 110 0 0 110 6 = I 110 6 := u2_nj (by decide)
  refine Sp.of [some (.ref (E.1 + 110)), none] (by decide +kernel) (Nat.le_of_ble_eq_true rfl) (fun _ h => h) ?_
  refine g_aload0 (Y := Y_X5_clearBuffer) (pc' := 1) dX5_clearBuffer_0 rfl ?_
  refine g_iconst (Y := Y_X5_clearBuffer) (pc' := 2) dX5_clearBuffer_1 rfl ?_
  refine g_putI (Y := Y_X5_clearBuffer) (pc' := 5) dX5_clearBuffer_2 rfl fp_X5_50 rfl (by first | exact t0 | exact t1 | exact r1 | exact t2 | exact t3 | exact t4 | exact t5 | exact t6 | exact t7 | exact t8 | exact t9 | exact t10 | exact t11 | exact t12 | exact t13 | exact r2 | exact r4 | exact r5 | exact r8 | exact r9 | exact r10 | exact r11 | exact r12 | exact r13 | exact r14 | exact r15 | exact r16) (by omega) ?_
  refine g_aload0 (Y := Y_X5_clearBuffer) (pc' := 6) dX5_clearBuffer_5 rfl ?_
  refine g_getI (Y := Y_X5_clearBuffer) (pc' := 9) dX5_clearBuffer_6 rfl fl_X5_170 rfl (by first | exact t0 | exact t1 | exact r1 | exact t2 | exact t3 | exact t4 | exact t5 | exact t6 | exact t7 | exact t8 | exact t9 | exact t10 | exact t11 | exact t12 | exact t13 | exact r2 | exact r4 | exact r5 | exact r8 | exact r9 | exact r10 | exact r11 | exact r12 | exact r13 | exact r14 | exact r15 | exact r16) (by omega) ?_
  rw [e6]
  refine g_istore1 (Y := Y_X5_clearBuffer) (pc' := 10) dX5_clearBuffer_9 rfl (Nat.le_of_ble_eq_true rfl) rfl ?_
  refine g_aload0 (Y := Y_X5_clearBuffer) (pc' := 11) dX5_clearBuffer_10 rfl ?_
  refine g_iconst (Y := Y_X5_clearBuffer) (pc' := 12) dX5_clearBuffer_11 rfl ?_
  refine g_putI (Y := Y_X5_clearBuffer) (pc' := 15) dX5_clearBuffer_12 rfl fp_X5_170 rfl (by first | exact t0 | exact t1 | exact r1 | exact t2 | exact t3 | exact t4 | exact t5 | exact t6 | exact t7 | exact t8 | exact t9 | exact t10 | exact t11 | exact t12 | exact t13 | exact r2 | exact r4 | exact r5 | exact r8 | exact r9 | exact r10 | exact r11 | exact r12 | exact r13 | exact r14 | exact r15 | exact r16) (by omega) ?_
  refine g_iload1 (Y := Y_X5_clearBuffer) (pc' := 16) dX5_clearBuffer_15 rfl ?_
  exact g_iret (Y := Y_X5_clearBuffer) dX5_clearBuffer_16 rfl (Nat.zero_le _) (Nat.zero_le _) (⟨rfl, rfl⟩)
