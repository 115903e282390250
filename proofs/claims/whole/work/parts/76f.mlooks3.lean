/-! the reference: its looks -/
set_option maxHeartbeats 2000000 in
set_option maxRecDepth 100000 in
theorem s_X5_setting {l : Launch} {E : QE} {T : Nat → Nat × Nat} {I : Nat → Nat → Int} {J : Nat → Nat → Int64} {R : Nat → Nat → Option Nat} {n z : Nat} (hk : MdB T R n) (hm9 : MV I) (p : Int) (h_p : -2147483648 ≤ p ∧ p < 2147483648)  : SpV l E Y_X5_setting [.ref (E.1 + 110), .int (iz p)] (T, I, J, R, n, z) (.int (iz (y_setting I p).1)) (T, (y_setting I p).2, J, R, n, z) := by
  have hk0 := hk
  obtain ⟨t0, t1, t2, t3, t4, t5, t6, t7, t8, t9, t10, t11, t12, t13, r1, r2, r4, r5, r8, r9, r10, r11, r12, r13, r14, r15, r16, hn⟩ := hk
  obtain ⟨hz9, hb9, hv9, h3, hsv9⟩ := id hm9
  obtain ⟨z3, zs, zs0, zd, zt, zt2, zv, zw, zk⟩ := id hz9
  have hz1 := thr_ZV (t := 0) hz9
  have hb1 := thr_HB (t := 0) hb9
  have e111 : u2 I 110 0 0 111 = I 111 := u2_ne (by decide)
  refine Sp.of [some (.ref (E.1 + 110)), some (.int (iz p))] (by decide +kernel) (Nat.le_of_ble_eq_true rfl) (fun _ h => h) ?_
  refine g_aload0 (Y := Y_X5_setting) (pc' := 1) dX5_setting_0 rfl ?_
  refine g_iload1 (Y := Y_X5_setting) (pc' := 2) dX5_setting_1 rfl ?_
  refine g_iconst (Y := Y_X5_setting) (pc' := 3) dX5_setting_2 rfl ?_
  refine g_iconst (Y := Y_X5_setting) (pc' := 4) dX5_setting_3 rfl ?_
  refine g_callSv (Y := Y_X5_setting) (s_X5_in p 0 2 h_p ⟨by decide, by decide⟩ ⟨by decide, by decide⟩) (pc' := 7) dX5_setting_4 rfl cv_X5_54 rfl rfl rfl rfl rfl ?_
  refine g_if_eq (Y := Y_X5_setting) (t := 14) (pc' := 10) dX5_setting_7 (by decide) rfl ⟨by omega, by omega⟩ (fun h7 => ?_) (fun h7 => ?_)
  · have hb := ifb_f h7
    have e : y_setting I p = (0, m_thr I 1) := if_neg hb
    have e1 : (y_setting I p).1 = 0 := by rw [e]
    have e2 : (y_setting I p).2 = m_thr I 1 := by rw [e]
    rw [e1, e2]
    clear e e1 e2
    refine g_iconst (Y := Y_X5_setting) (pc' := 15) dX5_setting_14 rfl ?_
    refine g_putI (Y := Y_X5_setting) (pc' := 18) dX5_setting_15 rfl fp_X5_50 rfl (by first | exact t0 | exact t1 | exact r1 | exact t2 | exact t3 | exact t4 | exact t5 | exact t6 | exact t7 | exact t8 | exact t9 | exact t10 | exact t11 | exact t12 | exact t13 | exact r2 | exact r4 | exact r5 | exact r8 | exact r9 | exact r10 | exact r11 | exact r12 | exact r13 | exact r14 | exact r15 | exact r16) (by omega) ?_
    refine g_aload0 (Y := Y_X5_setting) (pc' := 19) dX5_setting_18 rfl ?_
    refine g_getI (Y := Y_X5_setting) (pc' := 22) dX5_setting_19 rfl fl_X5_50 rfl (by first | exact t0 | exact t1 | exact r1 | exact t2 | exact t3 | exact t4 | exact t5 | exact t6 | exact t7 | exact t8 | exact t9 | exact t10 | exact t11 | exact t12 | exact t13 | exact r2 | exact r4 | exact r5 | exact r8 | exact r9 | exact r10 | exact r11 | exact r12 | exact r13 | exact r14 | exact r15 | exact r16) (by omega) ?_
    rw [u2_at]
    refine g_if_le (Y := Y_X5_setting) (t := 29) (pc' := 25) dX5_setting_22 (by decide) rfl ⟨by omega, by omega⟩ (fun h22 => ?_) (fun h22 => ?_)
    · exact absurd h22 (by decide)
    · refine g_iconst (Y := Y_X5_setting) (pc' := 26) dX5_setting_25 rfl ?_
      refine g_goto (Y := Y_X5_setting) (t := 37) dX5_setting_26 (by decide) ?_
      exact g_iret (Y := Y_X5_setting) dX5_setting_37 rfl (Nat.zero_le _) (Nat.zero_le _) (⟨rfl, rfl⟩)
  · have hb := ifb_t h7
    obtain ⟨b, rfl⟩ : ∃ b : Nat, p = (b : Int) := ⟨p.toNat, by omega⟩
    have e : y_setting I b = (I 111 b, m_thr I 0) := if_pos hb
    have e1 : (y_setting I b).1 = I 111 b := by rw [e]
    have e2 : (y_setting I b).2 = m_thr I 0 := by rw [e]
    rw [e1, e2]
    clear e e1 e2
    refine g_iconst (Y := Y_X5_setting) (pc' := 11) dX5_setting_10 rfl ?_
    refine g_goto (Y := Y_X5_setting) (t := 15) dX5_setting_11 (by decide) ?_
    refine g_putI (Y := Y_X5_setting) (pc' := 18) dX5_setting_15 rfl fp_X5_50 rfl (by first | exact t0 | exact t1 | exact r1 | exact t2 | exact t3 | exact t4 | exact t5 | exact t6 | exact t7 | exact t8 | exact t9 | exact t10 | exact t11 | exact t12 | exact t13 | exact r2 | exact r4 | exact r5 | exact r8 | exact r9 | exact r10 | exact r11 | exact r12 | exact r13 | exact r14 | exact r15 | exact r16) (by omega) ?_
    refine g_aload0 (Y := Y_X5_setting) (pc' := 19) dX5_setting_18 rfl ?_
    refine g_getI (Y := Y_X5_setting) (pc' := 22) dX5_setting_19 rfl fl_X5_50 rfl (by first | exact t0 | exact t1 | exact r1 | exact t2 | exact t3 | exact t4 | exact t5 | exact t6 | exact t7 | exact t8 | exact t9 | exact t10 | exact t11 | exact t12 | exact t13 | exact r2 | exact r4 | exact r5 | exact r8 | exact r9 | exact r10 | exact r11 | exact r12 | exact r13 | exact r14 | exact r15 | exact r16) (by omega) ?_
    rw [u2_at]
    refine g_if_le (Y := Y_X5_setting) (t := 29) (pc' := 25) dX5_setting_22 (by decide) rfl ⟨by omega, by omega⟩ (fun h22 => ?_) (fun h22 => ?_)
    · refine g_aload0 (Y := Y_X5_setting) (pc' := 30) dX5_setting_29 rfl ?_
      refine g_getR (Y := Y_X5_setting) (pc' := 33) dX5_setting_30 rfl fl_X5_7 rfl (by first | exact t0 | exact t1 | exact r1 | exact t2 | exact t3 | exact t4 | exact t5 | exact t6 | exact t7 | exact t8 | exact t9 | exact t10 | exact t11 | exact t12 | exact t13 | exact r2 | exact r4 | exact r5 | exact r8 | exact r9 | exact r10 | exact r11 | exact r12 | exact r13 | exact r14 | exact r15 | exact r16) (by omega) (by first | exact t0 | exact t1 | exact r1 | exact t2 | exact t3 | exact t4 | exact t5 | exact t6 | exact t7 | exact t8 | exact t9 | exact t10 | exact t11 | exact t12 | exact t13 | exact r2 | exact r4 | exact r5 | exact r8 | exact r9 | exact r10 | exact r11 | exact r12 | exact r13 | exact r14 | exact r15 | exact r16) ?_
      refine g_iconst (Y := Y_X5_setting) (pc' := 34) dX5_setting_33 rfl ?_
      refine g_iload1 (Y := Y_X5_setting) (pc' := 35) dX5_setting_34 rfl ?_
      refine g_iadd (Y := Y_X5_setting) (pc' := 36) dX5_setting_35 rfl ?_
      refine g_iald (Y := Y_X5_setting) (pc' := 37) dX5_setting_36 rfl (by first | exact t0 | exact t1 | exact r1 | exact t2 | exact t3 | exact t4 | exact t5 | exact t6 | exact t7 | exact t8 | exact t9 | exact t10 | exact t11 | exact t12 | exact t13 | exact r2 | exact r4 | exact r5 | exact r8 | exact r9 | exact r10 | exact r11 | exact r12 | exact r13 | exact r14 | exact r15 | exact r16) (by omega) (by decide) ⟨by omega, by omega⟩ ?_
      rw [e111, show (0 + (b : Int)).toNat = b by omega]
      exact g_iret (Y := Y_X5_setting) dX5_setting_37 rfl (Nat.zero_le _) (Nat.zero_le _) (⟨rfl, rfl⟩)
    · exact absurd (by decide) h22
