/-! the reference: its looks -/
set_option maxHeartbeats 2000000 in
set_option maxRecDepth 100000 in
theorem s_X5_block {l : Launch} {E : QE} {T : Nat → Nat × Nat} {I : Nat → Nat → Int} {J : Nat → Nat → Int64} {R : Nat → Nat → Option Nat} {n z : Nat} (hk : MdB T R n) (hm9 : MV I) (p : Int) (h_p : -2147483648 ≤ p ∧ p < 2147483648) (w : Int) (h_w : -2147483648 ≤ w ∧ w < 2147483648)  : SpV l E Y_X5_block [.ref (E.1 + 110), .int (iz p), .int (iz w)] (T, I, J, R, n, z) (.int (iz (y_block I p w).1)) (T, (y_block I p w).2, J, R, n, z) := by
  have hk0 := hk
  obtain ⟨t0, t1, t2, t3, t4, t5, t6, t7, t8, t9, t10, t11, t12, t13, r1, r2, r4, r5, r8, r9, r10, r11, r12, r13, r14, r15, r16, hn⟩ := hk
  obtain ⟨hz9, hb9, hv9, h3, hsv9⟩ := id hm9
  obtain ⟨z3, zs, zs0, zd, zt, zt2, zv, zw, zk⟩ := id hz9
  have hz1 := thr_ZV (t := 0) hz9
  have hb1 := thr_HB (t := 0) hb9
  refine Sp.of [some (.ref (E.1 + 110)), some (.int (iz p)), some (.int (iz w))] (by decide +kernel) (Nat.le_of_ble_eq_true rfl) (fun _ h => h) ?_
  refine g_aload0 (Y := Y_X5_block) (pc' := 1) dX5_block_0 rfl ?_
  refine g_iload1 (Y := Y_X5_block) (pc' := 2) dX5_block_1 rfl ?_
  refine g_callSv (Y := Y_X5_block) (s_X5_isBlock p h_p) (pc' := 5) dX5_block_2 rfl cv_X5_124 rfl rfl rfl rfl rfl ?_
  refine g_if_ne (Y := Y_X5_block) (t := 12) (pc' := 8) dX5_block_5 (by decide) rfl ⟨by omega, by omega⟩ (fun h5 => ?_) (fun h5 => ?_)
  · have hb := ifb_t h5
    refine g_iload2 (Y := Y_X5_block) (pc' := 13) dX5_block_12 rfl ?_
    refine g_iconst (Y := Y_X5_block) (pc' := 14) dX5_block_13 rfl ?_
    refine g_iconst (Y := Y_X5_block) (pc' := 15) dX5_block_14 rfl ?_
    refine g_callSv (Y := Y_X5_block) (s_X5_in w 0 3 h_w ⟨by decide, by decide⟩ ⟨by decide, by decide⟩) (pc' := 18) dX5_block_15 rfl cv_X5_54 rfl rfl rfl rfl rfl ?_
    refine g_if_eq (Y := Y_X5_block) (t := 25) (pc' := 21) dX5_block_18 (by decide) rfl ⟨by omega, by omega⟩ (fun h18 => ?_) (fun h18 => ?_)
    · have hu := ifb_f h18
      have e : y_block I p w = (0, m_thr I 2) := (if_pos hb).trans (if_neg hu)
      have e1 : (y_block I p w).1 = 0 := by rw [e]
      have e2 : (y_block I p w).2 = m_thr I 2 := by rw [e]
      rw [e1, e2]
      clear e e1 e2
      refine g_iconst (Y := Y_X5_block) (pc' := 26) dX5_block_25 rfl ?_
      refine g_putI (Y := Y_X5_block) (pc' := 29) dX5_block_26 rfl fp_X5_50 rfl (by first | exact t0 | exact t1 | exact r1 | exact t2 | exact t3 | exact t4 | exact t5 | exact t6 | exact t7 | exact t8 | exact t9 | exact t10 | exact t11 | exact t12 | exact t13 | exact r2 | exact r4 | exact r5 | exact r8 | exact r9 | exact r10 | exact r11 | exact r12 | exact r13 | exact r14 | exact r15 | exact r16) (by omega) ?_
      refine g_aload0 (Y := Y_X5_block) (pc' := 30) dX5_block_29 rfl ?_
      refine g_getI (Y := Y_X5_block) (pc' := 33) dX5_block_30 rfl fl_X5_50 rfl (by first | exact t0 | exact t1 | exact r1 | exact t2 | exact t3 | exact t4 | exact t5 | exact t6 | exact t7 | exact t8 | exact t9 | exact t10 | exact t11 | exact t12 | exact t13 | exact r2 | exact r4 | exact r5 | exact r8 | exact r9 | exact r10 | exact r11 | exact r12 | exact r13 | exact r14 | exact r15 | exact r16) (by omega) ?_
      rw [u2_at]
      refine g_if_le (Y := Y_X5_block) (t := 40) (pc' := 36) dX5_block_33 (by decide) rfl ⟨by omega, by omega⟩ (fun h33 => ?_) (fun h33 => ?_)
      · exact absurd h33 (by decide)
      · refine g_iconst (Y := Y_X5_block) (pc' := 37) dX5_block_36 rfl ?_
        refine g_goto (Y := Y_X5_block) (t := 46) dX5_block_37 (by decide) ?_
        exact g_iret (Y := Y_X5_block) dX5_block_46 rfl (Nat.zero_le _) (Nat.zero_le _) (⟨rfl, rfl⟩)
    · have hu := ifb_t h18
      obtain ⟨b, rfl⟩ : ∃ b : Nat, p = (b : Int) := ⟨p.toNat, by omega⟩
      obtain ⟨w, rfl⟩ : ∃ w9 : Nat, w = (w9 : Int) := ⟨w.toNat, by omega⟩
      have e : y_block I b w = (m_tb (m_thr I 0) b w, m_tbI (m_thr I 0) w) := (if_pos hb).trans (if_pos hu)
      have e1 : (y_block I b w).1 = m_tb (m_thr I 0) b w := by rw [e]
      have e2 : (y_block I b w).2 = m_tbI (m_thr I 0) w := by rw [e]
      rw [e1, e2]
      clear e e1 e2
      refine g_iconst (Y := Y_X5_block) (pc' := 22) dX5_block_21 rfl ?_
      refine g_goto (Y := Y_X5_block) (t := 26) dX5_block_22 (by decide) ?_
      refine g_putI (Y := Y_X5_block) (pc' := 29) dX5_block_26 rfl fp_X5_50 rfl (by first | exact t0 | exact t1 | exact r1 | exact t2 | exact t3 | exact t4 | exact t5 | exact t6 | exact t7 | exact t8 | exact t9 | exact t10 | exact t11 | exact t12 | exact t13 | exact r2 | exact r4 | exact r5 | exact r8 | exact r9 | exact r10 | exact r11 | exact r12 | exact r13 | exact r14 | exact r15 | exact r16) (by omega) ?_
      refine g_aload0 (Y := Y_X5_block) (pc' := 30) dX5_block_29 rfl ?_
      refine g_getI (Y := Y_X5_block) (pc' := 33) dX5_block_30 rfl fl_X5_50 rfl (by first | exact t0 | exact t1 | exact r1 | exact t2 | exact t3 | exact t4 | exact t5 | exact t6 | exact t7 | exact t8 | exact t9 | exact t10 | exact t11 | exact t12 | exact t13 | exact r2 | exact r4 | exact r5 | exact r8 | exact r9 | exact r10 | exact r11 | exact r12 | exact r13 | exact r14 | exact r15 | exact r16) (by omega) ?_
      rw [u2_at]
      refine g_if_le (Y := Y_X5_block) (t := 40) (pc' := 36) dX5_block_33 (by decide) rfl ⟨by omega, by omega⟩ (fun h33 => ?_) (fun h33 => ?_)
      · refine g_aload0 (Y := Y_X5_block) (pc' := 41) dX5_block_40 rfl ?_
        refine g_iload1 (Y := Y_X5_block) (pc' := 42) dX5_block_41 rfl ?_
        refine g_iload2 (Y := Y_X5_block) (pc' := 43) dX5_block_42 rfl ?_
        refine g_callVv (Y := Y_X5_block) (c := 5) (s_X5_toldBlock (I := m_thr I 0) hk0 hz1 hb1 b (by omega) w (by omega)) (pc' := 46) dX5_block_43 rfl cv_X5_204 rfl (by first | exact t0 | exact t1 | exact r1 | exact t2 | exact t3 | exact t4 | exact t5 | exact t6 | exact t7 | exact t8 | exact t9 | exact t10 | exact t11 | exact t12 | exact t13 | exact r2 | exact r4 | exact r5 | exact r8 | exact r9 | exact r10 | exact r11 | exact r12 | exact r13 | exact r14 | exact r15 | exact r16) (by show _ < n; omega) ⟨by decide, _, rfl, rfl⟩ rfl rfl rfl rfl ?_
        exact g_iret (Y := Y_X5_block) dX5_block_46 rfl (Nat.zero_le _) (Nat.zero_le _) (⟨rfl, rfl⟩)
      · exact absurd (by decide) h33
  · have hb := ifb_f h5
    have e : y_block I p w = (0, m_thr I 1) := if_neg hb
    have e1 : (y_block I p w).1 = 0 := by rw [e]
    have e2 : (y_block I p w).2 = m_thr I 1 := by rw [e]
    rw [e1, e2]
    clear e e1 e2
    refine g_iconst (Y := Y_X5_block) (pc' := 9) dX5_block_8 rfl ?_
    refine g_goto (Y := Y_X5_block) (t := 26) dX5_block_9 (by decide) ?_
    refine g_putI (Y := Y_X5_block) (pc' := 29) dX5_block_26 rfl fp_X5_50 rfl (by first | exact t0 | exact t1 | exact r1 | exact t2 | exact t3 | exact t4 | exact t5 | exact t6 | exact t7 | exact t8 | exact t9 | exact t10 | exact t11 | exact t12 | exact t13 | exact r2 | exact r4 | exact r5 | exact r8 | exact r9 | exact r10 | exact r11 | exact r12 | exact r13 | exact r14 | exact r15 | exact r16) (by omega) ?_
    refine g_aload0 (Y := Y_X5_block) (pc' := 30) dX5_block_29 rfl ?_
    refine g_getI (Y := Y_X5_block) (pc' := 33) dX5_block_30 rfl fl_X5_50 rfl (by first | exact t0 | exact t1 | exact r1 | exact t2 | exact t3 | exact t4 | exact t5 | exact t6 | exact t7 | exact t8 | exact t9 | exact t10 | exact t11 | exact t12 | exact t13 | exact r2 | exact r4 | exact r5 | exact r8 | exact r9 | exact r10 | exact r11 | exact r12 | exact r13 | exact r14 | exact r15 | exact r16) (by omega) ?_
    rw [u2_at]
    refine g_if_le (Y := Y_X5_block) (t := 40) (pc' := 36) dX5_block_33 (by decide) rfl ⟨by omega, by omega⟩ (fun h33 => ?_) (fun h33 => ?_)
    · exact absurd h33 (by decide)
    · refine g_iconst (Y := Y_X5_block) (pc' := 37) dX5_block_36 rfl ?_
      refine g_goto (Y := Y_X5_block) (t := 46) dX5_block_37 (by decide) ?_
      exact g_iret (Y := Y_X5_block) dX5_block_46 rfl (Nat.zero_le _) (Nat.zero_le _) (⟨rfl, rfl⟩)
