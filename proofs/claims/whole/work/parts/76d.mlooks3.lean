/-! the reference: its looks -/
set_option maxHeartbeats 2000000 in
set_option maxRecDepth 100000 in
theorem s_X5_line {l : Launch} {E : QE} {T : Nat → Nat × Nat} {I : Nat → Nat → Int} {J : Nat → Nat → Int64} {R : Nat → Nat → Option Nat} {n z : Nat} (hk : MdB T R n) (hm9 : MV I) (p : Int) (h_p : -2147483648 ≤ p ∧ p < 2147483648) (w : Int) (h_w : -2147483648 ≤ w ∧ w < 2147483648)  : SpV l E Y_X5_line [.ref (E.1 + 110), .int (iz p), .int (iz w)] (T, I, J, R, n, z) (.int (iz (y_line I p w).1)) (T, (y_line I p w).2, J, R, n, z) := by
  have hk0 := hk
  obtain ⟨t0, t1, t2, t3, t4, t5, t6, t7, t8, t9, t10, t11, t12, t13, r1, r2, r4, r5, r8, r9, r10, r11, r12, r13, r14, r15, r16, hn⟩ := hk
  obtain ⟨hz9, hb9, hv9, h3, hsv9⟩ := id hm9
  obtain ⟨z3, zs, zs0, zd, zt, zt2, zv, zw, zk⟩ := id hz9
  have hz2 := ZV_lay hz9
  have hr2 := lay_HR hz9 hb9
  have hl2 := lay_LV hz9 hb9
  have ey : y_line I p w = y_line2 (m_lay I) p w := rfl
  rw [ey]
  clear ey
  have hly : SpN l E Y_X5_lay [.ref (E.1 + 110)] (T, I, J, R, n, z) (T, m_lay I, J, R, n, z) := s_X5_lay hk0 hz9
  generalize m_lay I = I2 at hz2 hr2 hl2 hly ⊢
  have hl3 := thr_LV (t := 0) hl2
  have hl1 := hl2.1
  have eL : m_thr I2 0 110 7 = I2 110 7 := thr_110 (by decide)
  refine Sp.of [some (.ref (E.1 + 110)), some (.int (iz p)), some (.int (iz w))] (by decide +kernel) (Nat.le_of_ble_eq_true rfl) (fun _ h => h) ?_
  refine g_aload0 (Y := Y_X5_line) (pc' := 1) dX5_line_0 rfl ?_
  refine g_callVn (Y := Y_X5_line) (c := 5) (hly) (pc' := 4) dX5_line_1 rfl cv_X5_130 rfl (by first | exact t0 | exact t1 | exact r1 | exact t2 | exact t3 | exact t4 | exact t5 | exact t6 | exact t7 | exact t8 | exact t9 | exact t10 | exact t11 | exact t12 | exact t13 | exact r2 | exact r4 | exact r5 | exact r8 | exact r9 | exact r10 | exact r11 | exact r12 | exact r13 | exact r14 | exact r15 | exact r16) (by show _ < n; omega) ⟨by decide, _, rfl, rfl⟩ rfl rfl rfl rfl ?_
  refine g_aload0 (Y := Y_X5_line) (pc' := 5) dX5_line_4 rfl ?_
  refine g_iload1 (Y := Y_X5_line) (pc' := 6) dX5_line_5 rfl ?_
  refine g_iconst (Y := Y_X5_line) (pc' := 7) dX5_line_6 rfl ?_
  refine g_aload0 (Y := Y_X5_line) (pc' := 8) dX5_line_7 rfl ?_
  refine g_getI (Y := Y_X5_line) (pc' := 11) dX5_line_8 rfl fl_X5_72 rfl (by first | exact t0 | exact t1 | exact r1 | exact t2 | exact t3 | exact t4 | exact t5 | exact t6 | exact t7 | exact t8 | exact t9 | exact t10 | exact t11 | exact t12 | exact t13 | exact r2 | exact r4 | exact r5 | exact r8 | exact r9 | exact r10 | exact r11 | exact r12 | exact r13 | exact r14 | exact r15 | exact r16) (by omega) ?_
  refine g_iconst (Y := Y_X5_line) (pc' := 12) dX5_line_11 rfl ?_
  refine g_isub (Y := Y_X5_line) (pc' := 13) dX5_line_12 rfl ?_
  refine g_callSv (Y := Y_X5_line) (s_X5_in p 0 (I2 110 7 - 1) h_p ⟨by decide, by decide⟩ ⟨by omega, by omega⟩) (pc' := 16) dX5_line_13 rfl cv_X5_54 rfl rfl rfl rfl rfl ?_
  refine g_if_ne (Y := Y_X5_line) (t := 23) (pc' := 19) dX5_line_16 (by decide) rfl ⟨by omega, by omega⟩ (fun h16 => ?_) (fun h16 => ?_)
  · have hb := ifb_t h16
    refine g_iload2 (Y := Y_X5_line) (pc' := 24) dX5_line_23 rfl ?_
    refine g_iconst (Y := Y_X5_line) (pc' := 25) dX5_line_24 rfl ?_
    refine g_iconst (Y := Y_X5_line) (pc' := 26) dX5_line_25 rfl ?_
    refine g_callSv (Y := Y_X5_line) (s_X5_in w 0 5 h_w ⟨by decide, by decide⟩ ⟨by decide, by decide⟩) (pc' := 29) dX5_line_26 rfl cv_X5_54 rfl rfl rfl rfl rfl ?_
    refine g_if_eq (Y := Y_X5_line) (t := 36) (pc' := 32) dX5_line_29 (by decide) rfl ⟨by omega, by omega⟩ (fun h29 => ?_) (fun h29 => ?_)
    · have hu := ifb_f h29
      have e : y_line2 I2 p w = (0, m_thr I2 2) := (if_pos hb).trans (if_neg hu)
      have e1 : (y_line2 I2 p w).1 = 0 := by rw [e]
      have e2 : (y_line2 I2 p w).2 = m_thr I2 2 := by rw [e]
      rw [e1, e2]
      clear e e1 e2
      refine g_iconst (Y := Y_X5_line) (pc' := 37) dX5_line_36 rfl ?_
      refine g_putI (Y := Y_X5_line) (pc' := 40) dX5_line_37 rfl fp_X5_50 rfl (by first | exact t0 | exact t1 | exact r1 | exact t2 | exact t3 | exact t4 | exact t5 | exact t6 | exact t7 | exact t8 | exact t9 | exact t10 | exact t11 | exact t12 | exact t13 | exact r2 | exact r4 | exact r5 | exact r8 | exact r9 | exact r10 | exact r11 | exact r12 | exact r13 | exact r14 | exact r15 | exact r16) (by omega) ?_
      refine g_aload0 (Y := Y_X5_line) (pc' := 41) dX5_line_40 rfl ?_
      refine g_getI (Y := Y_X5_line) (pc' := 44) dX5_line_41 rfl fl_X5_50 rfl (by first | exact t0 | exact t1 | exact r1 | exact t2 | exact t3 | exact t4 | exact t5 | exact t6 | exact t7 | exact t8 | exact t9 | exact t10 | exact t11 | exact t12 | exact t13 | exact r2 | exact r4 | exact r5 | exact r8 | exact r9 | exact r10 | exact r11 | exact r12 | exact r13 | exact r14 | exact r15 | exact r16) (by omega) ?_
      rw [u2_at]
      refine g_if_le (Y := Y_X5_line) (t := 51) (pc' := 47) dX5_line_44 (by decide) rfl ⟨by omega, by omega⟩ (fun h44 => ?_) (fun h44 => ?_)
      · exact absurd h44 (by decide)
      · refine g_iconst (Y := Y_X5_line) (pc' := 48) dX5_line_47 rfl ?_
        refine g_goto (Y := Y_X5_line) (t := 57) dX5_line_48 (by decide) ?_
        exact g_iret (Y := Y_X5_line) dX5_line_57 rfl (Nat.zero_le _) (Nat.zero_le _) (⟨rfl, rfl⟩)
    · have hu := ifb_t h29
      obtain ⟨b, rfl⟩ : ∃ b : Nat, p = (b : Int) := ⟨p.toNat, by omega⟩
      obtain ⟨w, rfl⟩ : ∃ w9 : Nat, w = (w9 : Int) := ⟨w.toNat, by omega⟩
      have e : y_line2 I2 b w = (m_tl (m_thr I2 0) b w, m_thr I2 0) := (if_pos hb).trans (if_pos hu)
      have e1 : (y_line2 I2 b w).1 = m_tl (m_thr I2 0) b w := by rw [e]
      have e2 : (y_line2 I2 b w).2 = m_thr I2 0 := by rw [e]
      rw [e1, e2]
      clear e e1 e2
      refine g_iconst (Y := Y_X5_line) (pc' := 33) dX5_line_32 rfl ?_
      refine g_goto (Y := Y_X5_line) (t := 37) dX5_line_33 (by decide) ?_
      refine g_putI (Y := Y_X5_line) (pc' := 40) dX5_line_37 rfl fp_X5_50 rfl (by first | exact t0 | exact t1 | exact r1 | exact t2 | exact t3 | exact t4 | exact t5 | exact t6 | exact t7 | exact t8 | exact t9 | exact t10 | exact t11 | exact t12 | exact t13 | exact r2 | exact r4 | exact r5 | exact r8 | exact r9 | exact r10 | exact r11 | exact r12 | exact r13 | exact r14 | exact r15 | exact r16) (by omega) ?_
      refine g_aload0 (Y := Y_X5_line) (pc' := 41) dX5_line_40 rfl ?_
      refine g_getI (Y := Y_X5_line) (pc' := 44) dX5_line_41 rfl fl_X5_50 rfl (by first | exact t0 | exact t1 | exact r1 | exact t2 | exact t3 | exact t4 | exact t5 | exact t6 | exact t7 | exact t8 | exact t9 | exact t10 | exact t11 | exact t12 | exact t13 | exact r2 | exact r4 | exact r5 | exact r8 | exact r9 | exact r10 | exact r11 | exact r12 | exact r13 | exact r14 | exact r15 | exact r16) (by omega) ?_
      rw [u2_at]
      refine g_if_le (Y := Y_X5_line) (t := 51) (pc' := 47) dX5_line_44 (by decide) rfl ⟨by omega, by omega⟩ (fun h44 => ?_) (fun h44 => ?_)
      · refine g_aload0 (Y := Y_X5_line) (pc' := 52) dX5_line_51 rfl ?_
        refine g_iload1 (Y := Y_X5_line) (pc' := 53) dX5_line_52 rfl ?_
        refine g_iload2 (Y := Y_X5_line) (pc' := 54) dX5_line_53 rfl ?_
        refine g_callVv (Y := Y_X5_line) (c := 5) (s_X5_toldLine (I := m_thr I2 0) hk0 (thr_ZV hz2) (thr_HR hr2) (q := b) (by omega) (hl3.2.1 b (by omega)) w (by omega)) (pc' := 57) dX5_line_54 rfl cv_X5_214 rfl (by first | exact t0 | exact t1 | exact r1 | exact t2 | exact t3 | exact t4 | exact t5 | exact t6 | exact t7 | exact t8 | exact t9 | exact t10 | exact t11 | exact t12 | exact t13 | exact r2 | exact r4 | exact r5 | exact r8 | exact r9 | exact r10 | exact r11 | exact r12 | exact r13 | exact r14 | exact r15 | exact r16) (by show _ < n; omega) ⟨by decide, _, rfl, rfl⟩ rfl rfl rfl rfl ?_
        exact g_iret (Y := Y_X5_line) dX5_line_57 rfl (Nat.zero_le _) (Nat.zero_le _) (⟨rfl, rfl⟩)
      · exact absurd (by decide) h44
  · have hb := ifb_f h16
    have e : y_line2 I2 p w = (0, m_thr I2 1) := if_neg hb
    have e1 : (y_line2 I2 p w).1 = 0 := by rw [e]
    have e2 : (y_line2 I2 p w).2 = m_thr I2 1 := by rw [e]
    rw [e1, e2]
    clear e e1 e2
    refine g_iconst (Y := Y_X5_line) (pc' := 20) dX5_line_19 rfl ?_
    refine g_goto (Y := Y_X5_line) (t := 37) dX5_line_20 (by decide) ?_
    refine g_putI (Y := Y_X5_line) (pc' := 40) dX5_line_37 rfl fp_X5_50 rfl (by first | exact t0 | exact t1 | exact r1 | exact t2 | exact t3 | exact t4 | exact t5 | exact t6 | exact t7 | exact t8 | exact t9 | exact t10 | exact t11 | exact t12 | exact t13 | exact r2 | exact r4 | exact r5 | exact r8 | exact r9 | exact r10 | exact r11 | exact r12 | exact r13 | exact r14 | exact r15 | exact r16) (by omega) ?_
    refine g_aload0 (Y := Y_X5_line) (pc' := 41) dX5_line_40 rfl ?_
    refine g_getI (Y := Y_X5_line) (pc' := 44) dX5_line_41 rfl fl_X5_50 rfl (by first | exact t0 | exact t1 | exact r1 | exact t2 | exact t3 | exact t4 | exact t5 | exact t6 | exact t7 | exact t8 | exact t9 | exact t10 | exact t11 | exact t12 | exact t13 | exact r2 | exact r4 | exact r5 | exact r8 | exact r9 | exact r10 | exact r11 | exact r12 | exact r13 | exact r14 | exact r15 | exact r16) (by omega) ?_
    rw [u2_at]
    refine g_if_le (Y := Y_X5_line) (t := 51) (pc' := 47) dX5_line_44 (by decide) rfl ⟨by omega, by omega⟩ (fun h44 => ?_) (fun h44 => ?_)
    · exact absurd h44 (by decide)
    · refine g_iconst (Y := Y_X5_line) (pc' := 48) dX5_line_47 rfl ?_
      refine g_goto (Y := Y_X5_line) (t := 57) dX5_line_48 (by decide) ?_
      exact g_iret (Y := Y_X5_line) dX5_line_57 rfl (Nat.zero_le _) (Nat.zero_le _) (⟨rfl, rfl⟩)
