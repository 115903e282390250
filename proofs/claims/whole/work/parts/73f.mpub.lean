/-! the reference: what else changes it -/
set_option maxHeartbeats 2000000 in
set_option maxRecDepth 100000 in
theorem s_X5_set {l : Launch} {E : QE} {T : Nat → Nat × Nat} {I : Nat → Nat → Int} {J : Nat → Nat → Int64} {R : Nat → Nat → Option Nat} {n z : Nat} (hk : MdB T R n) (hm9 : MV I) (p : Int) (h_p : -2147483648 ≤ p ∧ p < 2147483648) (v : Int) (h_v : -2147483648 ≤ v ∧ v < 2147483648)  : SpV l E Y_X5_set [.ref (E.1 + 110), .int (iz p), .int (iz v)] (T, I, J, R, n, z) (.int (iz (y_set I p v).1)) (T, (y_set I p v).2, J, R, n, z) := by
  have hk0 := hk
  obtain ⟨t0, t1, t2, t3, t4, t5, t6, t7, t8, t9, t10, t11, t12, t13, r1, r2, r4, r5, r8, r9, r10, r11, r12, r13, r14, r15, r16, hn⟩ := hk
  obtain ⟨hz9, hb9, hv9, h3, hsv9⟩ := id hm9
  obtain ⟨z3, zs, zs0, zd, zt, zt2, zv, zw, zk⟩ := id hz9
  have hz1 := sav1_ZV hz9
  have hb1 := sav1_HB hb9
  have e111 : m_sav1 I 111 = I 111 := sav1_111 (by decide) (by decide)
  have lr : 0 ≤ m_lo p ∧ m_lo p ≤ 8 := by unfold m_lo; split <;> (try split) <;> decide
  have hr : 0 ≤ m_hi p ∧ m_hi p ≤ 8 := by unfold m_hi; split <;> decide
  refine Sp.of [some (.ref (E.1 + 110)), some (.int (iz p)), some (.int (iz v)), none] (by decide +kernel) (Nat.le_of_ble_eq_true rfl) (fun _ h => h) ?_
  refine g_aload0 (Y := Y_X5_set) (pc' := 1) dX5_set_0 rfl ?_
  refine g_iload1 (Y := Y_X5_set) (pc' := 2) dX5_set_1 rfl ?_
  refine g_iconst (Y := Y_X5_set) (pc' := 3) dX5_set_2 rfl ?_
  refine g_iconst (Y := Y_X5_set) (pc' := 4) dX5_set_3 rfl ?_
  refine g_callSv (Y := Y_X5_set) (s_X5_in p 0 2 h_p ⟨by decide, by decide⟩ ⟨by decide, by decide⟩) (pc' := 7) dX5_set_4 rfl cv_X5_54 rfl rfl rfl rfl rfl ?_
  refine g_if_ne (Y := Y_X5_set) (t := 14) (pc' := 10) dX5_set_7 (by decide) rfl ⟨by omega, by omega⟩ (fun h7 => ?_) (fun h7 => ?_)
  · have hb := ifb_t h7
    refine g_iload2 (Y := Y_X5_set) (pc' := 15) dX5_set_14 rfl ?_
    refine g_iload1 (Y := Y_X5_set) (pc' := 16) dX5_set_15 rfl ?_
    refine g_callSv (Y := Y_X5_set) (s_X5_leastOf p h_p) (pc' := 19) dX5_set_16 rfl cv_X5_164 rfl rfl rfl rfl rfl ?_
    refine g_iload1 (Y := Y_X5_set) (pc' := 20) dX5_set_19 rfl ?_
    refine g_callSv (Y := Y_X5_set) (s_X5_mostOf p h_p) (pc' := 23) dX5_set_20 rfl cv_X5_167 rfl rfl rfl rfl rfl ?_
    refine g_callSv (Y := Y_X5_set) (s_X5_in v (m_lo p) (m_hi p) h_v ⟨by omega, by omega⟩ ⟨by omega, by omega⟩) (pc' := 26) dX5_set_23 rfl cv_X5_54 rfl rfl rfl rfl rfl ?_
    refine g_if_eq (Y := Y_X5_set) (t := 33) (pc' := 29) dX5_set_26 (by decide) rfl ⟨by omega, by omega⟩ (fun h26 => ?_) (fun h26 => ?_)
    · have hu := ifb_f h26
      have e : y_set I p v = (0, m_thr I 2) := (if_pos hb).trans (if_neg hu)
      have e1 : (y_set I p v).1 = 0 := by rw [e]
      have e2 : (y_set I p v).2 = m_thr I 2 := by rw [e]
      rw [e1, e2]
      clear e e1 e2
      refine g_iconst (Y := Y_X5_set) (pc' := 34) dX5_set_33 rfl ?_
      refine g_putI (Y := Y_X5_set) (pc' := 37) dX5_set_34 rfl fp_X5_50 rfl (by first | exact t0 | exact t1 | exact r1 | exact t2 | exact t3 | exact t4 | exact t5 | exact t6 | exact t7 | exact t8 | exact t9 | exact t10 | exact t11 | exact t12 | exact t13 | exact r2 | exact r4 | exact r5 | exact r8 | exact r9 | exact r10 | exact r11 | exact r12 | exact r13 | exact r14 | exact r15 | exact r16) (by omega) ?_
      refine g_aload0 (Y := Y_X5_set) (pc' := 38) dX5_set_37 rfl ?_
      refine g_getI (Y := Y_X5_set) (pc' := 41) dX5_set_38 rfl fl_X5_50 rfl (by first | exact t0 | exact t1 | exact r1 | exact t2 | exact t3 | exact t4 | exact t5 | exact t6 | exact t7 | exact t8 | exact t9 | exact t10 | exact t11 | exact t12 | exact t13 | exact r2 | exact r4 | exact r5 | exact r8 | exact r9 | exact r10 | exact r11 | exact r12 | exact r13 | exact r14 | exact r15 | exact r16) (by omega) ?_
      rw [u2_at]
      refine g_if_le (Y := Y_X5_set) (t := 46) (pc' := 44) dX5_set_41 (by decide) rfl ⟨by omega, by omega⟩ (fun h41 => ?_) (fun h41 => ?_)
      · exact absurd h41 (by decide)
      · refine g_iconst (Y := Y_X5_set) (pc' := 45) dX5_set_44 rfl ?_
        exact g_iret (Y := Y_X5_set) dX5_set_45 rfl (Nat.zero_le _) (Nat.zero_le _) (⟨rfl, rfl⟩)
    · have hu := ifb_t h26
      obtain ⟨b, rfl⟩ : ∃ b : Nat, p = (b : Int) := ⟨p.toNat, by omega⟩
      have e : y_set I b v = (m_sav1 I 111 b, u2 (m_sav1 I) 111 b v) := (if_pos hb).trans (if_pos hu)
      have e1 : (y_set I b v).1 = m_sav1 I 111 b := by rw [e]
      have e2 : (y_set I b v).2 = u2 (m_sav1 I) 111 b v := by rw [e]
      rw [e1, e2]
      clear e e1 e2
      refine g_iconst (Y := Y_X5_set) (pc' := 30) dX5_set_29 rfl ?_
      refine g_goto (Y := Y_X5_set) (t := 34) dX5_set_30 (by decide) ?_
      refine g_putI (Y := Y_X5_set) (pc' := 37) dX5_set_34 rfl fp_X5_50 rfl (by first | exact t0 | exact t1 | exact r1 | exact t2 | exact t3 | exact t4 | exact t5 | exact t6 | exact t7 | exact t8 | exact t9 | exact t10 | exact t11 | exact t12 | exact t13 | exact r2 | exact r4 | exact r5 | exact r8 | exact r9 | exact r10 | exact r11 | exact r12 | exact r13 | exact r14 | exact r15 | exact r16) (by omega) ?_
      refine g_aload0 (Y := Y_X5_set) (pc' := 38) dX5_set_37 rfl ?_
      refine g_getI (Y := Y_X5_set) (pc' := 41) dX5_set_38 rfl fl_X5_50 rfl (by first | exact t0 | exact t1 | exact r1 | exact t2 | exact t3 | exact t4 | exact t5 | exact t6 | exact t7 | exact t8 | exact t9 | exact t10 | exact t11 | exact t12 | exact t13 | exact r2 | exact r4 | exact r5 | exact r8 | exact r9 | exact r10 | exact r11 | exact r12 | exact r13 | exact r14 | exact r15 | exact r16) (by omega) ?_
      rw [u2_at]
      refine g_if_le (Y := Y_X5_set) (t := 46) (pc' := 44) dX5_set_41 (by decide) rfl ⟨by omega, by omega⟩ (fun h41 => ?_) (fun h41 => ?_)
      · refine g_aload0 (Y := Y_X5_set) (pc' := 47) dX5_set_46 rfl ?_
        refine g_callVn (Y := Y_X5_set) (c := 5) (s_X5_sav1 (I := I) hk0 h3) (pc' := 50) dX5_set_47 rfl cv_X5_133 rfl (by first | exact t0 | exact t1 | exact r1 | exact t2 | exact t3 | exact t4 | exact t5 | exact t6 | exact t7 | exact t8 | exact t9 | exact t10 | exact t11 | exact t12 | exact t13 | exact r2 | exact r4 | exact r5 | exact r8 | exact r9 | exact r10 | exact r11 | exact r12 | exact r13 | exact r14 | exact r15 | exact r16) (by show _ < n; omega) ⟨by decide, _, rfl, rfl⟩ rfl rfl rfl rfl ?_
        refine g_aload0 (Y := Y_X5_set) (pc' := 51) dX5_set_50 rfl ?_
        refine g_getR (Y := Y_X5_set) (pc' := 54) dX5_set_51 rfl fl_X5_7 rfl (by first | exact t0 | exact t1 | exact r1 | exact t2 | exact t3 | exact t4 | exact t5 | exact t6 | exact t7 | exact t8 | exact t9 | exact t10 | exact t11 | exact t12 | exact t13 | exact r2 | exact r4 | exact r5 | exact r8 | exact r9 | exact r10 | exact r11 | exact r12 | exact r13 | exact r14 | exact r15 | exact r16) (by omega) (by first | exact t0 | exact t1 | exact r1 | exact t2 | exact t3 | exact t4 | exact t5 | exact t6 | exact t7 | exact t8 | exact t9 | exact t10 | exact t11 | exact t12 | exact t13 | exact r2 | exact r4 | exact r5 | exact r8 | exact r9 | exact r10 | exact r11 | exact r12 | exact r13 | exact r14 | exact r15 | exact r16) ?_
        refine g_iconst (Y := Y_X5_set) (pc' := 55) dX5_set_54 rfl ?_
        refine g_iload1 (Y := Y_X5_set) (pc' := 56) dX5_set_55 rfl ?_
        refine g_iadd (Y := Y_X5_set) (pc' := 57) dX5_set_56 rfl ?_
        refine g_iald (Y := Y_X5_set) (pc' := 58) dX5_set_57 rfl (by first | exact t0 | exact t1 | exact r1 | exact t2 | exact t3 | exact t4 | exact t5 | exact t6 | exact t7 | exact t8 | exact t9 | exact t10 | exact t11 | exact t12 | exact t13 | exact r2 | exact r4 | exact r5 | exact r8 | exact r9 | exact r10 | exact r11 | exact r12 | exact r13 | exact r14 | exact r15 | exact r16) (by omega) (by decide) ⟨by omega, by omega⟩ ?_
        rw [show (0 + (b : Int)).toNat = b by omega]
        refine g_istore3 (Y := Y_X5_set) (pc' := 59) dX5_set_58 rfl (Nat.le_of_ble_eq_true rfl) rfl ?_
        refine g_aload0 (Y := Y_X5_set) (pc' := 60) dX5_set_59 rfl ?_
        refine g_getR (Y := Y_X5_set) (pc' := 63) dX5_set_60 rfl fl_X5_7 rfl (by first | exact t0 | exact t1 | exact r1 | exact t2 | exact t3 | exact t4 | exact t5 | exact t6 | exact t7 | exact t8 | exact t9 | exact t10 | exact t11 | exact t12 | exact t13 | exact r2 | exact r4 | exact r5 | exact r8 | exact r9 | exact r10 | exact r11 | exact r12 | exact r13 | exact r14 | exact r15 | exact r16) (by omega) (by first | exact t0 | exact t1 | exact r1 | exact t2 | exact t3 | exact t4 | exact t5 | exact t6 | exact t7 | exact t8 | exact t9 | exact t10 | exact t11 | exact t12 | exact t13 | exact r2 | exact r4 | exact r5 | exact r8 | exact r9 | exact r10 | exact r11 | exact r12 | exact r13 | exact r14 | exact r15 | exact r16) ?_
        refine g_iconst (Y := Y_X5_set) (pc' := 64) dX5_set_63 rfl ?_
        refine g_iload1 (Y := Y_X5_set) (pc' := 65) dX5_set_64 rfl ?_
        refine g_iadd (Y := Y_X5_set) (pc' := 66) dX5_set_65 rfl ?_
        refine g_iload2 (Y := Y_X5_set) (pc' := 67) dX5_set_66 rfl ?_
        refine g_iast (Y := Y_X5_set) (pc' := 68) dX5_set_67 rfl (by first | exact t0 | exact t1 | exact r1 | exact t2 | exact t3 | exact t4 | exact t5 | exact t6 | exact t7 | exact t8 | exact t9 | exact t10 | exact t11 | exact t12 | exact t13 | exact r2 | exact r4 | exact r5 | exact r8 | exact r9 | exact r10 | exact r11 | exact r12 | exact r13 | exact r14 | exact r15 | exact r16) (by omega) (by decide) ⟨by omega, by omega⟩ ?_
        rw [show (0 + (b : Int)).toNat = b by omega]
        refine g_iload3 (Y := Y_X5_set) (pc' := 69) dX5_set_68 rfl ?_
        exact g_iret (Y := Y_X5_set) dX5_set_69 rfl (Nat.zero_le _) (Nat.zero_le _) (⟨rfl, rfl⟩)
      · exact absurd (by decide) h41
  · have hb := ifb_f h7
    have e : y_set I p v = (0, m_thr I 1) := if_neg hb
    have e1 : (y_set I p v).1 = 0 := by rw [e]
    have e2 : (y_set I p v).2 = m_thr I 1 := by rw [e]
    rw [e1, e2]
    clear e e1 e2
    refine g_iconst (Y := Y_X5_set) (pc' := 11) dX5_set_10 rfl ?_
    refine g_goto (Y := Y_X5_set) (t := 34) dX5_set_11 (by decide) ?_
    refine g_putI (Y := Y_X5_set) (pc' := 37) dX5_set_34 rfl fp_X5_50 rfl (by first | exact t0 | exact t1 | exact r1 | exact t2 | exact t3 | exact t4 | exact t5 | exact t6 | exact t7 | exact t8 | exact t9 | exact t10 | exact t11 | exact t12 | exact t13 | exact r2 | exact r4 | exact r5 | exact r8 | exact r9 | exact r10 | exact r11 | exact r12 | exact r13 | exact r14 | exact r15 | exact r16) (by omega) ?_
    refine g_aload0 (Y := Y_X5_set) (pc' := 38) dX5_set_37 rfl ?_
    refine g_getI (Y := Y_X5_set) (pc' := 41) dX5_set_38 rfl fl_X5_50 rfl (by first | exact t0 | exact t1 | exact r1 | exact t2 | exact t3 | exact t4 | exact t5 | exact t6 | exact t7 | exact t8 | exact t9 | exact t10 | exact t11 | exact t12 | exact t13 | exact r2 | exact r4 | exact r5 | exact r8 | exact r9 | exact r10 | exact r11 | exact r12 | exact r13 | exact r14 | exact r15 | exact r16) (by omega) ?_
    rw [u2_at]
    refine g_if_le (Y := Y_X5_set) (t := 46) (pc' := 44) dX5_set_41 (by decide) rfl ⟨by omega, by omega⟩ (fun h41 => ?_) (fun h41 => ?_)
    · exact absurd h41 (by decide)
    · refine g_iconst (Y := Y_X5_set) (pc' := 45) dX5_set_44 rfl ?_
      exact g_iret (Y := Y_X5_set) dX5_set_45 rfl (Nat.zero_le _) (Nat.zero_le _) (⟨rfl, rfl⟩)
