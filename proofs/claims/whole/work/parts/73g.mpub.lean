/-! the reference: what else changes it -/
set_option maxHeartbeats 2000000 in
set_option maxRecDepth 100000 in
theorem s_X5_append {l : Launch} {E : QE} {T : Nat → Nat × Nat} {I : Nat → Nat → Int} {J : Nat → Nat → Int64} {R : Nat → Nat → Option Nat} {n z : Nat} (hk : MdB T R n) (hm9 : MV I) (p : Int) (h_p : -2147483648 ≤ p ∧ p < 2147483648)  : SpV l E Y_X5_append [.ref (E.1 + 110), .int (iz p)] (T, I, J, R, n, z) (.int (iz (y_append I p).1)) (T, (y_append I p).2, J, R, n, z) := by
  have hk0 := hk
  obtain ⟨t0, t1, t2, t3, t4, t5, t6, t7, t8, t9, t10, t11, t12, t13, r1, r2, r4, r5, r8, r9, r10, r11, r12, r13, r14, r15, r16, hn⟩ := hk
  obtain ⟨hz9, hb9, hv9, h3, hsv9⟩ := id hm9
  obtain ⟨z3, zs, zs0, zd, zt, zt2, zv, zw, zk⟩ := id hz9
  obtain ⟨v1, v2⟩ := id hv9
  have e6 : u2 I 110 0 0 110 6 = I 110 6 := u2_nj (by decide)
  refine Sp.of [some (.ref (E.1 + 110)), some (.int (iz p))] (by decide +kernel) (Nat.le_of_ble_eq_true rfl) (fun _ h => h) ?_
  refine g_aload0 (Y := Y_X5_append) (pc' := 1) dX5_append_0 rfl ?_
  refine g_iload1 (Y := Y_X5_append) (pc' := 2) dX5_append_1 rfl ?_
  refine g_bipush (Y := Y_X5_append) (pc' := 4) dX5_append_2 rfl (by decide) ?_
  refine g_bipush (Y := Y_X5_append) (pc' := 6) dX5_append_4 rfl (by decide) ?_
  refine g_callSv (Y := Y_X5_append) (s_X5_in p 33 126 h_p ⟨by decide, by decide⟩ ⟨by decide, by decide⟩) (pc' := 9) dX5_append_6 rfl cv_X5_54 rfl rfl rfl rfl rfl ?_
  refine g_if_ne (Y := Y_X5_append) (t := 16) (pc' := 12) dX5_append_9 (by decide) rfl ⟨by omega, by omega⟩ (fun h9 => ?_) (fun h9 => ?_)
  · have hb := ifb_t h9
    refine g_aload0 (Y := Y_X5_append) (pc' := 17) dX5_append_16 rfl ?_
    refine g_getI (Y := Y_X5_append) (pc' := 20) dX5_append_17 rfl fl_X5_170 rfl (by first | exact t0 | exact t1 | exact r1 | exact t2 | exact t3 | exact t4 | exact t5 | exact t6 | exact t7 | exact t8 | exact t9 | exact t10 | exact t11 | exact t12 | exact t13 | exact r2 | exact r4 | exact r5 | exact r8 | exact r9 | exact r10 | exact r11 | exact r12 | exact r13 | exact r14 | exact r15 | exact r16) (by omega) ?_
    refine g_bipush (Y := Y_X5_append) (pc' := 22) dX5_append_20 rfl (by decide) ?_
    refine g_icmp_ne (Y := Y_X5_append) (t := 29) (pc' := 25) dX5_append_22 (by decide) rfl ⟨by omega, by omega⟩ ⟨by omega, by omega⟩ (fun h22 => ?_) (fun h22 => ?_)
    · have e : y_append I p = (m_ty2 (m_typ (m_thr I 0) p) 110 6, m_ty2 (m_typ (m_thr I 0) p)) := (if_pos hb).trans (if_neg h22)
      have e1 : (y_append I p).1 = m_ty2 (m_typ (m_thr I 0) p) 110 6 := by rw [e]
      have e2 : (y_append I p).2 = m_ty2 (m_typ (m_thr I 0) p) := by rw [e]
      rw [e1, e2]
      clear e e1 e2
      refine g_iconst (Y := Y_X5_append) (pc' := 30) dX5_append_29 rfl ?_
      refine g_putI (Y := Y_X5_append) (pc' := 33) dX5_append_30 rfl fp_X5_50 rfl (by first | exact t0 | exact t1 | exact r1 | exact t2 | exact t3 | exact t4 | exact t5 | exact t6 | exact t7 | exact t8 | exact t9 | exact t10 | exact t11 | exact t12 | exact t13 | exact r2 | exact r4 | exact r5 | exact r8 | exact r9 | exact r10 | exact r11 | exact r12 | exact r13 | exact r14 | exact r15 | exact r16) (by omega) ?_
      refine g_aload0 (Y := Y_X5_append) (pc' := 34) dX5_append_33 rfl ?_
      refine g_getI (Y := Y_X5_append) (pc' := 37) dX5_append_34 rfl fl_X5_50 rfl (by first | exact t0 | exact t1 | exact r1 | exact t2 | exact t3 | exact t4 | exact t5 | exact t6 | exact t7 | exact t8 | exact t9 | exact t10 | exact t11 | exact t12 | exact t13 | exact r2 | exact r4 | exact r5 | exact r8 | exact r9 | exact r10 | exact r11 | exact r12 | exact r13 | exact r14 | exact r15 | exact r16) (by omega) ?_
      rw [u2_at]
      refine g_if_le (Y := Y_X5_append) (t := 42) (pc' := 40) dX5_append_37 (by decide) rfl ⟨by omega, by omega⟩ (fun h37 => ?_) (fun h37 => ?_)
      · refine g_aload0 (Y := Y_X5_append) (pc' := 43) dX5_append_42 rfl ?_
        refine g_getR (Y := Y_X5_append) (pc' := 46) dX5_append_43 rfl fl_X5_19 rfl (by first | exact t0 | exact t1 | exact r1 | exact t2 | exact t3 | exact t4 | exact t5 | exact t6 | exact t7 | exact t8 | exact t9 | exact t10 | exact t11 | exact t12 | exact t13 | exact r2 | exact r4 | exact r5 | exact r8 | exact r9 | exact r10 | exact r11 | exact r12 | exact r13 | exact r14 | exact r15 | exact r16) (by omega) (by first | exact t0 | exact t1 | exact r1 | exact t2 | exact t3 | exact t4 | exact t5 | exact t6 | exact t7 | exact t8 | exact t9 | exact t10 | exact t11 | exact t12 | exact t13 | exact r2 | exact r4 | exact r5 | exact r8 | exact r9 | exact r10 | exact r11 | exact r12 | exact r13 | exact r14 | exact r15 | exact r16) ?_
        refine g_aload0 (Y := Y_X5_append) (pc' := 47) dX5_append_46 rfl ?_
        refine g_getI (Y := Y_X5_append) (pc' := 50) dX5_append_47 rfl fl_X5_170 rfl (by first | exact t0 | exact t1 | exact r1 | exact t2 | exact t3 | exact t4 | exact t5 | exact t6 | exact t7 | exact t8 | exact t9 | exact t10 | exact t11 | exact t12 | exact t13 | exact r2 | exact r4 | exact r5 | exact r8 | exact r9 | exact r10 | exact r11 | exact r12 | exact r13 | exact r14 | exact r15 | exact r16) (by omega) ?_
        refine g_iload1 (Y := Y_X5_append) (pc' := 51) dX5_append_50 rfl ?_
        refine g_iast (Y := Y_X5_append) (pc' := 52) dX5_append_51 rfl (by first | exact t0 | exact t1 | exact r1 | exact t2 | exact t3 | exact t4 | exact t5 | exact t6 | exact t7 | exact t8 | exact t9 | exact t10 | exact t11 | exact t12 | exact t13 | exact r2 | exact r4 | exact r5 | exact r8 | exact r9 | exact r10 | exact r11 | exact r12 | exact r13 | exact r14 | exact r15 | exact r16) (by omega) (by decide) ⟨by omega, by omega⟩ ?_
        refine g_aload0 (Y := Y_X5_append) (pc' := 53) dX5_append_52 rfl ?_
        refine g_dup (Y := Y_X5_append) (pc' := 54) dX5_append_53 rfl rfl ?_
        refine g_getI (Y := Y_X5_append) (pc' := 57) dX5_append_54 rfl fl_X5_170 rfl (by first | exact t0 | exact t1 | exact r1 | exact t2 | exact t3 | exact t4 | exact t5 | exact t6 | exact t7 | exact t8 | exact t9 | exact t10 | exact t11 | exact t12 | exact t13 | exact r2 | exact r4 | exact r5 | exact r8 | exact r9 | exact r10 | exact r11 | exact r12 | exact r13 | exact r14 | exact r15 | exact r16) (by omega) ?_
        refine g_iconst (Y := Y_X5_append) (pc' := 58) dX5_append_57 rfl ?_
        refine g_iadd (Y := Y_X5_append) (pc' := 59) dX5_append_58 rfl ?_
        refine g_putI (Y := Y_X5_append) (pc' := 62) dX5_append_59 rfl fp_X5_170 rfl (by first | exact t0 | exact t1 | exact r1 | exact t2 | exact t3 | exact t4 | exact t5 | exact t6 | exact t7 | exact t8 | exact t9 | exact t10 | exact t11 | exact t12 | exact t13 | exact r2 | exact r4 | exact r5 | exact r8 | exact r9 | exact r10 | exact r11 | exact r12 | exact r13 | exact r14 | exact r15 | exact r16) (by omega) ?_
        refine g_aload0 (Y := Y_X5_append) (pc' := 63) dX5_append_62 rfl ?_
        refine g_getI (Y := Y_X5_append) (pc' := 66) dX5_append_63 rfl fl_X5_170 rfl (by first | exact t0 | exact t1 | exact r1 | exact t2 | exact t3 | exact t4 | exact t5 | exact t6 | exact t7 | exact t8 | exact t9 | exact t10 | exact t11 | exact t12 | exact t13 | exact r2 | exact r4 | exact r5 | exact r8 | exact r9 | exact r10 | exact r11 | exact r12 | exact r13 | exact r14 | exact r15 | exact r16) (by omega) ?_
        exact g_iret (Y := Y_X5_append) dX5_append_66 rfl (Nat.zero_le _) (Nat.zero_le _) (⟨rfl, rfl⟩)
      · exact absurd (by decide) h37
    · have e : y_append I p = (0, m_thr I 2) := (if_pos hb).trans (if_pos h22)
      have e1 : (y_append I p).1 = 0 := by rw [e]
      have e2 : (y_append I p).2 = m_thr I 2 := by rw [e]
      rw [e1, e2]
      clear e e1 e2
      refine g_iconst (Y := Y_X5_append) (pc' := 26) dX5_append_25 rfl ?_
      refine g_goto (Y := Y_X5_append) (t := 30) dX5_append_26 (by decide) ?_
      refine g_putI (Y := Y_X5_append) (pc' := 33) dX5_append_30 rfl fp_X5_50 rfl (by first | exact t0 | exact t1 | exact r1 | exact t2 | exact t3 | exact t4 | exact t5 | exact t6 | exact t7 | exact t8 | exact t9 | exact t10 | exact t11 | exact t12 | exact t13 | exact r2 | exact r4 | exact r5 | exact r8 | exact r9 | exact r10 | exact r11 | exact r12 | exact r13 | exact r14 | exact r15 | exact r16) (by omega) ?_
      refine g_aload0 (Y := Y_X5_append) (pc' := 34) dX5_append_33 rfl ?_
      refine g_getI (Y := Y_X5_append) (pc' := 37) dX5_append_34 rfl fl_X5_50 rfl (by first | exact t0 | exact t1 | exact r1 | exact t2 | exact t3 | exact t4 | exact t5 | exact t6 | exact t7 | exact t8 | exact t9 | exact t10 | exact t11 | exact t12 | exact t13 | exact r2 | exact r4 | exact r5 | exact r8 | exact r9 | exact r10 | exact r11 | exact r12 | exact r13 | exact r14 | exact r15 | exact r16) (by omega) ?_
      rw [u2_at]
      refine g_if_le (Y := Y_X5_append) (t := 42) (pc' := 40) dX5_append_37 (by decide) rfl ⟨by omega, by omega⟩ (fun h37 => ?_) (fun h37 => ?_)
      · exact absurd h37 (by decide)
      · refine g_iconst (Y := Y_X5_append) (pc' := 41) dX5_append_40 rfl ?_
        exact g_iret (Y := Y_X5_append) dX5_append_41 rfl (Nat.zero_le _) (Nat.zero_le _) (⟨rfl, rfl⟩)
  · have hb := ifb_f h9
    have e : y_append I p = (0, m_thr I 1) := if_neg hb
    have e1 : (y_append I p).1 = 0 := by rw [e]
    have e2 : (y_append I p).2 = m_thr I 1 := by rw [e]
    rw [e1, e2]
    clear e e1 e2
    refine g_iconst (Y := Y_X5_append) (pc' := 13) dX5_append_12 rfl ?_
    refine g_goto (Y := Y_X5_append) (t := 30) dX5_append_13 (by decide) ?_
    refine g_putI (Y := Y_X5_append) (pc' := 33) dX5_append_30 rfl fp_X5_50 rfl (by first | exact t0 | exact t1 | exact r1 | exact t2 | exact t3 | exact t4 | exact t5 | exact t6 | exact t7 | exact t8 | exact t9 | exact t10 | exact t11 | exact t12 | exact t13 | exact r2 | exact r4 | exact r5 | exact r8 | exact r9 | exact r10 | exact r11 | exact r12 | exact r13 | exact r14 | exact r15 | exact r16) (by omega) ?_
    refine g_aload0 (Y := Y_X5_append) (pc' := 34) dX5_append_33 rfl ?_
    refine g_getI (Y := Y_X5_append) (pc' := 37) dX5_append_34 rfl fl_X5_50 rfl (by first | exact t0 | exact t1 | exact r1 | exact t2 | exact t3 | exact t4 | exact t5 | exact t6 | exact t7 | exact t8 | exact t9 | exact t10 | exact t11 | exact t12 | exact t13 | exact r2 | exact r4 | exact r5 | exact r8 | exact r9 | exact r10 | exact r11 | exact r12 | exact r13 | exact r14 | exact r15 | exact r16) (by omega) ?_
    rw [u2_at]
    refine g_if_le (Y := Y_X5_append) (t := 42) (pc' := 40) dX5_append_37 (by decide) rfl ⟨by omega, by omega⟩ (fun h37 => ?_) (fun h37 => ?_)
    · exact absurd h37 (by decide)
    · refine g_iconst (Y := Y_X5_append) (pc' := 41) dX5_append_40 rfl ?_
      exact g_iret (Y := Y_X5_append) dX5_append_41 rfl (Nat.zero_le _) (Nat.zero_le _) (⟨rfl, rfl⟩)
