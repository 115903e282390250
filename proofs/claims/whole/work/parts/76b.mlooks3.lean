/-! the reference: its looks -/
set_option maxHeartbeats 2000000 in
set_option maxRecDepth 100000 in
theorem s_X5_ifFailed {l : Launch} {E : QE} {T : Nat → Nat × Nat} {I : Nat → Nat → Int} {J : Nat → Nat → Int64} {R : Nat → Nat → Option Nat} {n z : Nat} (hk : MdB T R n) (hm9 : MV I) (p : Int) (h_p : -2147483648 ≤ p ∧ p < 2147483648) (q : Int) (h_q : -2147483648 ≤ q ∧ q < 2147483648) (w : Int) (h_w : -2147483648 ≤ w ∧ w < 2147483648)  : SpV l E Y_X5_ifFailed [.ref (E.1 + 110), .int (iz p), .int (iz q), .int (iz w)] (T, I, J, R, n, z) (.int (iz (y_iff I p q w).1)) (T, (y_iff I p q w).2, J, R, n, z) := by
  have hk0 := hk
  obtain ⟨t0, t1, t2, t3, t4, t5, t6, t7, t8, t9, t10, t11, t12, t13, r1, r2, r4, r5, r8, r9, r10, r11, r12, r13, r14, r15, r16, hn⟩ := hk
  obtain ⟨hz9, hb9, hv9, h3, hsv9⟩ := id hm9
  obtain ⟨z3, zs, zs0, zd, zt, zt2, zv, zw, zk⟩ := id hz9
  have hz1 := thr_ZV (t := 0) hz9
  have hb1 := thr_HB (t := 0) hb9
  refine Sp.of [some (.ref (E.1 + 110)), some (.int (iz p)), some (.int (iz q)), some (.int (iz w))] (by decide +kernel) (Nat.le_of_ble_eq_true rfl) (fun _ h => h) ?_
  refine g_aload0 (Y := Y_X5_ifFailed) (pc' := 1) dX5_ifFailed_0 rfl ?_
  refine g_iload1 (Y := Y_X5_ifFailed) (pc' := 2) dX5_ifFailed_1 rfl ?_
  refine g_iload2 (Y := Y_X5_ifFailed) (pc' := 3) dX5_ifFailed_2 rfl ?_
  refine g_callSv (Y := Y_X5_ifFailed) (s_X5_isPlace p q h_p h_q) (pc' := 6) dX5_ifFailed_3 rfl cv_X5_94 rfl rfl rfl rfl rfl ?_
  refine g_if_eq (Y := Y_X5_ifFailed) (t := 22) (pc' := 9) dX5_ifFailed_6 (by decide) rfl ⟨by omega, by omega⟩ (fun h6 => ?_) (fun h6 => ?_)
  · have hb := ifb_f h6
    have hx : ¬ (((0 ≤ p ∧ p ≤ 23) ∧ 0 ≤ q ∧ q ≤ 23) ∧ 0 ≤ w ∧ w ≤ 3) := fun q9 => hb q9.1
    have e : y_iff I p q w = (0, m_thr I 1) := if_neg hx
    have e1 : (y_iff I p q w).1 = 0 := by rw [e]
    have e2 : (y_iff I p q w).2 = m_thr I 1 := by rw [e]
    rw [e1, e2]
    clear e e1 e2
    refine g_iconst (Y := Y_X5_ifFailed) (pc' := 23) dX5_ifFailed_22 rfl ?_
    refine g_putI (Y := Y_X5_ifFailed) (pc' := 26) dX5_ifFailed_23 rfl fp_X5_50 rfl (by first | exact t0 | exact t1 | exact r1 | exact t2 | exact t3 | exact t4 | exact t5 | exact t6 | exact t7 | exact t8 | exact t9 | exact t10 | exact t11 | exact t12 | exact t13 | exact r2 | exact r4 | exact r5 | exact r8 | exact r9 | exact r10 | exact r11 | exact r12 | exact r13 | exact r14 | exact r15 | exact r16) (by omega) ?_
    refine g_aload0 (Y := Y_X5_ifFailed) (pc' := 27) dX5_ifFailed_26 rfl ?_
    refine g_getI (Y := Y_X5_ifFailed) (pc' := 30) dX5_ifFailed_27 rfl fl_X5_50 rfl (by first | exact t0 | exact t1 | exact r1 | exact t2 | exact t3 | exact t4 | exact t5 | exact t6 | exact t7 | exact t8 | exact t9 | exact t10 | exact t11 | exact t12 | exact t13 | exact r2 | exact r4 | exact r5 | exact r8 | exact r9 | exact r10 | exact r11 | exact r12 | exact r13 | exact r14 | exact r15 | exact r16) (by omega) ?_
    rw [u2_at]
    refine g_if_le (Y := Y_X5_ifFailed) (t := 37) (pc' := 33) dX5_ifFailed_30 (by decide) rfl ⟨by omega, by omega⟩ (fun h30 => ?_) (fun h30 => ?_)
    · exact absurd h30 (by decide)
    · refine g_iconst (Y := Y_X5_ifFailed) (pc' := 34) dX5_ifFailed_33 rfl ?_
      refine g_goto (Y := Y_X5_ifFailed) (t := 48) dX5_ifFailed_34 (by decide) ?_
      exact g_iret (Y := Y_X5_ifFailed) dX5_ifFailed_48 rfl (Nat.zero_le _) (Nat.zero_le _) (⟨rfl, rfl⟩)
  · have hb := ifb_t h6
    refine g_iload3 (Y := Y_X5_ifFailed) (pc' := 10) dX5_ifFailed_9 rfl ?_
    refine g_iconst (Y := Y_X5_ifFailed) (pc' := 11) dX5_ifFailed_10 rfl ?_
    refine g_iconst (Y := Y_X5_ifFailed) (pc' := 12) dX5_ifFailed_11 rfl ?_
    refine g_callSv (Y := Y_X5_ifFailed) (s_X5_in w 0 3 h_w ⟨by decide, by decide⟩ ⟨by decide, by decide⟩) (pc' := 15) dX5_ifFailed_12 rfl cv_X5_54 rfl rfl rfl rfl rfl ?_
    refine g_if_eq (Y := Y_X5_ifFailed) (t := 22) (pc' := 18) dX5_ifFailed_15 (by decide) rfl ⟨by omega, by omega⟩ (fun h15 => ?_) (fun h15 => ?_)
    · have hu := ifb_f h15
      have hx : ¬ (((0 ≤ p ∧ p ≤ 23) ∧ 0 ≤ q ∧ q ≤ 23) ∧ 0 ≤ w ∧ w ≤ 3) := fun q9 => hu q9.2
      have e : y_iff I p q w = (0, m_thr I 1) := if_neg hx
      have e1 : (y_iff I p q w).1 = 0 := by rw [e]
      have e2 : (y_iff I p q w).2 = m_thr I 1 := by rw [e]
      rw [e1, e2]
      clear e e1 e2
      refine g_iconst (Y := Y_X5_ifFailed) (pc' := 23) dX5_ifFailed_22 rfl ?_
      refine g_putI (Y := Y_X5_ifFailed) (pc' := 26) dX5_ifFailed_23 rfl fp_X5_50 rfl (by first | exact t0 | exact t1 | exact r1 | exact t2 | exact t3 | exact t4 | exact t5 | exact t6 | exact t7 | exact t8 | exact t9 | exact t10 | exact t11 | exact t12 | exact t13 | exact r2 | exact r4 | exact r5 | exact r8 | exact r9 | exact r10 | exact r11 | exact r12 | exact r13 | exact r14 | exact r15 | exact r16) (by omega) ?_
      refine g_aload0 (Y := Y_X5_ifFailed) (pc' := 27) dX5_ifFailed_26 rfl ?_
      refine g_getI (Y := Y_X5_ifFailed) (pc' := 30) dX5_ifFailed_27 rfl fl_X5_50 rfl (by first | exact t0 | exact t1 | exact r1 | exact t2 | exact t3 | exact t4 | exact t5 | exact t6 | exact t7 | exact t8 | exact t9 | exact t10 | exact t11 | exact t12 | exact t13 | exact r2 | exact r4 | exact r5 | exact r8 | exact r9 | exact r10 | exact r11 | exact r12 | exact r13 | exact r14 | exact r15 | exact r16) (by omega) ?_
      rw [u2_at]
      refine g_if_le (Y := Y_X5_ifFailed) (t := 37) (pc' := 33) dX5_ifFailed_30 (by decide) rfl ⟨by omega, by omega⟩ (fun h30 => ?_) (fun h30 => ?_)
      · exact absurd h30 (by decide)
      · refine g_iconst (Y := Y_X5_ifFailed) (pc' := 34) dX5_ifFailed_33 rfl ?_
        refine g_goto (Y := Y_X5_ifFailed) (t := 48) dX5_ifFailed_34 (by decide) ?_
        exact g_iret (Y := Y_X5_ifFailed) dX5_ifFailed_48 rfl (Nat.zero_le _) (Nat.zero_le _) (⟨rfl, rfl⟩)
    · have hu := ifb_t h15
      obtain ⟨c, hc⟩ : ∃ c : Nat, 24 * p + q = (c : Int) := ⟨(24 * p + q).toNat, by omega⟩
      obtain ⟨w, rfl⟩ : ∃ w9 : Nat, w = (w9 : Int) := ⟨w.toNat, by omega⟩
      have e : y_iff I p q w = m_wf (m_thr I 0) c w := (if_pos ⟨hb, hu⟩).trans (by rw [hc]; rfl)
      rw [e]
      clear e
      refine g_iconst (Y := Y_X5_ifFailed) (pc' := 19) dX5_ifFailed_18 rfl ?_
      refine g_goto (Y := Y_X5_ifFailed) (t := 23) dX5_ifFailed_19 (by decide) ?_
      refine g_putI (Y := Y_X5_ifFailed) (pc' := 26) dX5_ifFailed_23 rfl fp_X5_50 rfl (by first | exact t0 | exact t1 | exact r1 | exact t2 | exact t3 | exact t4 | exact t5 | exact t6 | exact t7 | exact t8 | exact t9 | exact t10 | exact t11 | exact t12 | exact t13 | exact r2 | exact r4 | exact r5 | exact r8 | exact r9 | exact r10 | exact r11 | exact r12 | exact r13 | exact r14 | exact r15 | exact r16) (by omega) ?_
      refine g_aload0 (Y := Y_X5_ifFailed) (pc' := 27) dX5_ifFailed_26 rfl ?_
      refine g_getI (Y := Y_X5_ifFailed) (pc' := 30) dX5_ifFailed_27 rfl fl_X5_50 rfl (by first | exact t0 | exact t1 | exact r1 | exact t2 | exact t3 | exact t4 | exact t5 | exact t6 | exact t7 | exact t8 | exact t9 | exact t10 | exact t11 | exact t12 | exact t13 | exact r2 | exact r4 | exact r5 | exact r8 | exact r9 | exact r10 | exact r11 | exact r12 | exact r13 | exact r14 | exact r15 | exact r16) (by omega) ?_
      rw [u2_at]
      refine g_if_le (Y := Y_X5_ifFailed) (t := 37) (pc' := 33) dX5_ifFailed_30 (by decide) rfl ⟨by omega, by omega⟩ (fun h30 => ?_) (fun h30 => ?_)
      · refine g_aload0 (Y := Y_X5_ifFailed) (pc' := 38) dX5_ifFailed_37 rfl ?_
        refine g_bipush (Y := Y_X5_ifFailed) (pc' := 40) dX5_ifFailed_38 rfl (by decide) ?_
        refine g_iload1 (Y := Y_X5_ifFailed) (pc' := 41) dX5_ifFailed_40 rfl ?_
        refine g_imul (Y := Y_X5_ifFailed) (pc' := 42) dX5_ifFailed_41 rfl ?_
        refine g_iload2 (Y := Y_X5_ifFailed) (pc' := 43) dX5_ifFailed_42 rfl ?_
        refine g_iadd (Y := Y_X5_ifFailed) (pc' := 44) dX5_ifFailed_43 rfl ?_
        rw [hc]
        refine g_iload3 (Y := Y_X5_ifFailed) (pc' := 45) dX5_ifFailed_44 rfl ?_
        refine g_callVv (Y := Y_X5_ifFailed) (c := 5) (s_X5_wouldFail (I := m_thr I 0) hk0 hz1 hb1 c (by omega) w (by omega)) (pc' := 48) dX5_ifFailed_45 rfl cv_X5_235 rfl (by first | exact t0 | exact t1 | exact r1 | exact t2 | exact t3 | exact t4 | exact t5 | exact t6 | exact t7 | exact t8 | exact t9 | exact t10 | exact t11 | exact t12 | exact t13 | exact r2 | exact r4 | exact r5 | exact r8 | exact r9 | exact r10 | exact r11 | exact r12 | exact r13 | exact r14 | exact r15 | exact r16) (by show _ < n; omega) ⟨by decide, _, rfl, rfl⟩ rfl rfl rfl rfl ?_
        exact g_iret (Y := Y_X5_ifFailed) dX5_ifFailed_48 rfl (Nat.zero_le _) (Nat.zero_le _) (⟨rfl, rfl⟩)
      · exact absurd (by decide) h30
