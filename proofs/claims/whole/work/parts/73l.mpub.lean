/-! the reference: what else changes it -/
set_option maxHeartbeats 2000000 in
set_option maxRecDepth 100000 in
theorem s_X5_undo {l : Launch} {E : QE} {T : Nat → Nat × Nat} {I : Nat → Nat → Int} {J : Nat → Nat → Int64} {R : Nat → Nat → Option Nat} {n z : Nat} (hk : MdB T R n) (hm9 : MV I)  : SpV l E Y_X5_undo [.ref (E.1 + 110)] (T, I, J, R, n, z) (.int (iz (y_undo I).1)) (T, (y_undo I).2, J, R, n, z) := by
  have hk0 := hk
  obtain ⟨t0, t1, t2, t3, t4, t5, t6, t7, t8, t9, t10, t11, t12, t13, r1, r2, r4, r5, r8, r9, r10, r11, r12, r13, r14, r15, r16, hn⟩ := hk
  obtain ⟨hz9, hb9, hv9, h3, hsv9⟩ := id hm9
  obtain ⟨z3, zs, zs0, zd, zt, zt2, zv, zw, zk⟩ := id hz9
  have e3 : u2 I 110 0 0 110 3 = I 110 3 := u2_nj (by decide)
  refine Sp.of [some (.ref (E.1 + 110)), none] (by decide +kernel) (Nat.le_of_ble_eq_true rfl) (fun _ h => h) ?_
  refine g_aload0 (Y := Y_X5_undo) (pc' := 1) dX5_undo_0 rfl ?_
  refine g_aload0 (Y := Y_X5_undo) (pc' := 2) dX5_undo_1 rfl ?_
  refine g_getI (Y := Y_X5_undo) (pc' := 5) dX5_undo_2 rfl fl_X5_62 rfl (by first | exact t0 | exact t1 | exact r1 | exact t2 | exact t3 | exact t4 | exact t5 | exact t6 | exact t7 | exact t8 | exact t9 | exact t10 | exact t11 | exact t12 | exact t13 | exact r2 | exact r4 | exact r5 | exact r8 | exact r9 | exact r10 | exact r11 | exact r12 | exact r13 | exact r14 | exact r15 | exact r16) (by omega) ?_
  refine g_if_ne (Y := Y_X5_undo) (t := 12) (pc' := 8) dX5_undo_5 (by decide) rfl ⟨by omega, by omega⟩ (fun h5 => ?_) (fun h5 => ?_)
  · obtain ⟨d, hd⟩ : ∃ d : Nat, I 110 3 - 1 = (d : Int) := ⟨(I 110 3 - 1).toNat, by omega⟩
    have e : y_undo I = ((d : Int), m_unL d 1554 0 (m_un1 I)) := (if_neg h5).trans (by rw [hd]; rfl)
    have e1 : (y_undo I).1 = (d : Int) := by rw [e]
    have e2 : (y_undo I).2 = m_unL d 1554 0 (m_un1 I) := by rw [e]
    rw [e1, e2]
    clear e e1 e2
    refine g_iconst (Y := Y_X5_undo) (pc' := 13) dX5_undo_12 rfl ?_
    refine g_putI (Y := Y_X5_undo) (pc' := 16) dX5_undo_13 rfl fp_X5_50 rfl (by first | exact t0 | exact t1 | exact r1 | exact t2 | exact t3 | exact t4 | exact t5 | exact t6 | exact t7 | exact t8 | exact t9 | exact t10 | exact t11 | exact t12 | exact t13 | exact r2 | exact r4 | exact r5 | exact r8 | exact r9 | exact r10 | exact r11 | exact r12 | exact r13 | exact r14 | exact r15 | exact r16) (by omega) ?_
    refine g_aload0 (Y := Y_X5_undo) (pc' := 17) dX5_undo_16 rfl ?_
    refine g_getI (Y := Y_X5_undo) (pc' := 20) dX5_undo_17 rfl fl_X5_50 rfl (by first | exact t0 | exact t1 | exact r1 | exact t2 | exact t3 | exact t4 | exact t5 | exact t6 | exact t7 | exact t8 | exact t9 | exact t10 | exact t11 | exact t12 | exact t13 | exact r2 | exact r4 | exact r5 | exact r8 | exact r9 | exact r10 | exact r11 | exact r12 | exact r13 | exact r14 | exact r15 | exact r16) (by omega) ?_
    rw [u2_at]
    refine g_if_le (Y := Y_X5_undo) (t := 25) (pc' := 23) dX5_undo_20 (by decide) rfl ⟨by omega, by omega⟩ (fun h20 => ?_) (fun h20 => ?_)
    · refine g_aload0 (Y := Y_X5_undo) (pc' := 26) dX5_undo_25 rfl ?_
      refine g_dup (Y := Y_X5_undo) (pc' := 27) dX5_undo_26 rfl rfl ?_
      refine g_getI (Y := Y_X5_undo) (pc' := 30) dX5_undo_27 rfl fl_X5_62 rfl (by first | exact t0 | exact t1 | exact r1 | exact t2 | exact t3 | exact t4 | exact t5 | exact t6 | exact t7 | exact t8 | exact t9 | exact t10 | exact t11 | exact t12 | exact t13 | exact r2 | exact r4 | exact r5 | exact r8 | exact r9 | exact r10 | exact r11 | exact r12 | exact r13 | exact r14 | exact r15 | exact r16) (by omega) ?_
      rw [e3]
      refine g_iconst (Y := Y_X5_undo) (pc' := 31) dX5_undo_30 rfl ?_
      refine g_isub (Y := Y_X5_undo) (pc' := 32) dX5_undo_31 rfl ?_
      refine g_putI (Y := Y_X5_undo) (pc' := 35) dX5_undo_32 rfl fp_X5_62 rfl (by first | exact t0 | exact t1 | exact r1 | exact t2 | exact t3 | exact t4 | exact t5 | exact t6 | exact t7 | exact t8 | exact t9 | exact t10 | exact t11 | exact t12 | exact t13 | exact r2 | exact r4 | exact r5 | exact r8 | exact r9 | exact r10 | exact r11 | exact r12 | exact r13 | exact r14 | exact r15 | exact r16) (by omega) ?_
      refine g_iconst (Y := Y_X5_undo) (pc' := 36) dX5_undo_35 rfl ?_
      refine g_istore1 (Y := Y_X5_undo) (pc' := 37) dX5_undo_36 rfl (Nat.le_of_ble_eq_true rfl) rfl ?_
      exact s_X5_undo_lp hk0 (by omega) 1554 0 (m_un1 I) rfl (by unfold m_un1; rw [u2_at]; exact hd)
    · exact absurd (by decide) h20
  · have e : y_undo I = (0, m_thr I 1) := if_pos h5
    have e1 : (y_undo I).1 = 0 := by rw [e]
    have e2 : (y_undo I).2 = m_thr I 1 := by rw [e]
    rw [e1, e2]
    clear e e1 e2
    refine g_iconst (Y := Y_X5_undo) (pc' := 9) dX5_undo_8 rfl ?_
    refine g_goto (Y := Y_X5_undo) (t := 13) dX5_undo_9 (by decide) ?_
    refine g_putI (Y := Y_X5_undo) (pc' := 16) dX5_undo_13 rfl fp_X5_50 rfl (by first | exact t0 | exact t1 | exact r1 | exact t2 | exact t3 | exact t4 | exact t5 | exact t6 | exact t7 | exact t8 | exact t9 | exact t10 | exact t11 | exact t12 | exact t13 | exact r2 | exact r4 | exact r5 | exact r8 | exact r9 | exact r10 | exact r11 | exact r12 | exact r13 | exact r14 | exact r15 | exact r16) (by omega) ?_
    refine g_aload0 (Y := Y_X5_undo) (pc' := 17) dX5_undo_16 rfl ?_
    refine g_getI (Y := Y_X5_undo) (pc' := 20) dX5_undo_17 rfl fl_X5_50 rfl (by first | exact t0 | exact t1 | exact r1 | exact t2 | exact t3 | exact t4 | exact t5 | exact t6 | exact t7 | exact t8 | exact t9 | exact t10 | exact t11 | exact t12 | exact t13 | exact r2 | exact r4 | exact r5 | exact r8 | exact r9 | exact r10 | exact r11 | exact r12 | exact r13 | exact r14 | exact r15 | exact r16) (by omega) ?_
    rw [u2_at]
    refine g_if_le (Y := Y_X5_undo) (t := 25) (pc' := 23) dX5_undo_20 (by decide) rfl ⟨by omega, by omega⟩ (fun h20 => ?_) (fun h20 => ?_)
    · exact absurd h20 (by decide)
    · refine g_iconst (Y := Y_X5_undo) (pc' := 24) dX5_undo_23 rfl ?_
      exact g_iret (Y := Y_X5_undo) dX5_undo_24 rfl (Nat.zero_le _) (Nat.zero_le _) (⟨rfl, rfl⟩)
