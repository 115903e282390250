/-! the reference: its looks -/
def y_cell (I : Nat → Nat → Int) (p q w : Int) : Int × (Nat → Nat → Int) := if ((0 ≤ p ∧ p ≤ 23) ∧ 0 ≤ q ∧ q ≤ 23) ∧ 0 ≤ w ∧ w ≤ 3 then (m_tc (m_thr I 0) (24 * p + q).toNat w.toNat, m_tcI (m_thr I 0) w.toNat) else (0, m_thr I 1)
def y_iff (I : Nat → Nat → Int) (p q w : Int) : Int × (Nat → Nat → Int) := if ((0 ≤ p ∧ p ≤ 23) ∧ 0 ≤ q ∧ q ≤ 23) ∧ 0 ≤ w ∧ w ≤ 3 then m_wf (m_thr I 0) (24 * p + q).toNat w.toNat else (0, m_thr I 1)
def y_block (I : Nat → Nat → Int) (p w : Int) : Int × (Nat → Nat → Int) := if 0 ≤ p ∧ p ≤ 479 then (if 0 ≤ w ∧ w ≤ 3 then (m_tb (m_thr I 0) p.toNat w.toNat, m_tbI (m_thr I 0) w.toNat) else (0, m_thr I 2)) else (0, m_thr I 1)
def y_line2 (I : Nat → Nat → Int) (p w : Int) : Int × (Nat → Nat → Int) := if 0 ≤ p ∧ p ≤ I 110 7 - 1 then (if 0 ≤ w ∧ w ≤ 5 then (m_tl (m_thr I 0) p.toNat w.toNat, m_thr I 0) else (0, m_thr I 2)) else (0, m_thr I 1)
def y_line (I : Nat → Nat → Int) (p w : Int) : Int × (Nat → Nat → Int) := y_line2 (m_lay I) p w
def y_count (I : Nat → Nat → Int) (w : Int) : Int × (Nat → Nat → Int) := if 0 ≤ w ∧ w ≤ 9 then (m_ctd (m_ctI (m_thr I 0) w) w.toNat, m_ctI (m_thr I 0) w) else (0, m_thr I 1)
def y_setting (I : Nat → Nat → Int) (p : Int) : Int × (Nat → Nat → Int) := if 0 ≤ p ∧ p ≤ 2 then (I 111 p.toNat, m_thr I 0) else (0, m_thr I 1)
def y_find (I : Nat → Nat → Int) (v : Int) : Int × (Nat → Nat → Int) := if 0 ≤ v ∧ v ≤ 999 then (m_bwL (m_thr I 0) v 480 0, m_thr I 0) else (0, m_thr I 1)
theorem thr_LV {I : Nat → Nat → Int} {t : Int} (h : LV I) : LV (m_thr I t) := by
  unfold LV
  rw [thr_110 (by decide), thr_111 (by decide), thr_111 (by decide)]
  exact ⟨h.1, fun q hq => LQ_ne (h.2.1 q hq) (fun a g1 g2 => thr_111 (by omega)), h.2.2⟩
theorem thr_HR {I : Nat → Nat → Int} {t : Int} (h : HR I) : HR (m_thr I t) := HR_ne h (thr_111 (by decide)) (thr_111 (by decide))
set_option maxHeartbeats 2000000 in
set_option maxRecDepth 100000 in
theorem s_X5_cell {l : Launch} {E : QE} {T : Nat → Nat × Nat} {I : Nat → Nat → Int} {J : Nat → Nat → Int64} {R : Nat → Nat → Option Nat} {n z : Nat} (hk : MdB T R n) (hm9 : MV I) (p : Int) (h_p : -2147483648 ≤ p ∧ p < 2147483648) (q : Int) (h_q : -2147483648 ≤ q ∧ q < 2147483648) (w : Int) (h_w : -2147483648 ≤ w ∧ w < 2147483648)  : SpV l E Y_X5_cell [.ref (E.1 + 110), .int (iz p), .int (iz q), .int (iz w)] (T, I, J, R, n, z) (.int (iz (y_cell I p q w).1)) (T, (y_cell I p q w).2, J, R, n, z) := by
  have hk0 := hk
  obtain ⟨t0, t1, t2, t3, t4, t5, t6, t7, t8, t9, t10, t11, t12, t13, r1, r2, r4, r5, r8, r9, r10, r11, r12, r13, r14, r15, r16, hn⟩ := hk
  obtain ⟨hz9, hb9, hv9, h3, hsv9⟩ := id hm9
  obtain ⟨z3, zs, zs0, zd, zt, zt2, zv, zw, zk⟩ := id hz9
  have hz1 := thr_ZV (t := 0) hz9
  have hb1 := thr_HB (t := 0) hb9
  refine Sp.of [some (.ref (E.1 + 110)), some (.int (iz p)), some (.int (iz q)), some (.int (iz w))] (by decide +kernel) (Nat.le_of_ble_eq_true rfl) (fun _ h => h) ?_
  refine g_aload0 (Y := Y_X5_cell) (pc' := 1) dX5_cell_0 rfl ?_
  refine g_iload1 (Y := Y_X5_cell) (pc' := 2) dX5_cell_1 rfl ?_
  refine g_iload2 (Y := Y_X5_cell) (pc' := 3) dX5_cell_2 rfl ?_
  refine g_callSv (Y := Y_X5_cell) (s_X5_isPlace p q h_p h_q) (pc' := 6) dX5_cell_3 rfl cv_X5_94 rfl rfl rfl rfl rfl ?_
  refine g_if_eq (Y := Y_X5_cell) (t := 22) (pc' := 9) dX5_cell_6 (by decide) rfl ⟨by omega, by omega⟩ (fun h6 => ?_) (fun h6 => ?_)
  · have hb := ifb_f h6
    have hx : ¬ (((0 ≤ p ∧ p ≤ 23) ∧ 0 ≤ q ∧ q ≤ 23) ∧ 0 ≤ w ∧ w ≤ 3) := fun q9 => hb q9.1
    have e : y_cell I p q w = (0, m_thr I 1) := if_neg hx
    have e1 : (y_cell I p q w).1 = 0 := by rw [e]
    have e2 : (y_cell I p q w).2 = m_thr I 1 := by rw [e]
    rw [e1, e2]
    clear e e1 e2
    refine g_iconst (Y := Y_X5_cell) (pc' := 23) dX5_cell_22 rfl ?_
    refine g_putI (Y := Y_X5_cell) (pc' := 26) dX5_cell_23 rfl fp_X5_50 rfl (by first | exact t0 | exact t1 | exact r1 | exact t2 | exact t3 | exact t4 | exact t5 | exact t6 | exact t7 | exact t8 | exact t9 | exact t10 | exact t11 | exact t12 | exact t13 | exact r2 | exact r4 | exact r5 | exact r8 | exact r9 | exact r10 | exact r11 | exact r12 | exact r13 | exact r14 | exact r15 | exact r16) (by omega) ?_
    refine g_aload0 (Y := Y_X5_cell) (pc' := 27) dX5_cell_26 rfl ?_
    refine g_getI (Y := Y_X5_cell) (pc' := 30) dX5_cell_27 rfl fl_X5_50 rfl (by first | exact t0 | exact t1 | exact r1 | exact t2 | exact t3 | exact t4 | exact t5 | exact t6 | exact t7 | exact t8 | exact t9 | exact t10 | exact t11 | exact t12 | exact t13 | exact r2 | exact r4 | exact r5 | exact r8 | exact r9 | exact r10 | exact r11 | exact r12 | exact r13 | exact r14 | exact r15 | exact r16) (by omega) ?_
    rw [u2_at]
    refine g_if_le (Y := Y_X5_cell) (t := 37) (pc' := 33) dX5_cell_30 (by decide) rfl ⟨by omega, by omega⟩ (fun h30 => ?_) (fun h30 => ?_)
    · exact absurd h30 (by decide)
    · refine g_iconst (Y := Y_X5_cell) (pc' := 34) dX5_cell_33 rfl ?_
      refine g_goto (Y := Y_X5_cell) (t := 48) dX5_cell_34 (by decide) ?_
      exact g_iret (Y := Y_X5_cell) dX5_cell_48 rfl (Nat.zero_le _) (Nat.zero_le _) (⟨rfl, rfl⟩)
  · have hb := ifb_t h6
    refine g_iload3 (Y := Y_X5_cell) (pc' := 10) dX5_cell_9 rfl ?_
    refine g_iconst (Y := Y_X5_cell) (pc' := 11) dX5_cell_10 rfl ?_
    refine g_iconst (Y := Y_X5_cell) (pc' := 12) dX5_cell_11 rfl ?_
    refine g_callSv (Y := Y_X5_cell) (s_X5_in w 0 3 h_w ⟨by decide, by decide⟩ ⟨by decide, by decide⟩) (pc' := 15) dX5_cell_12 rfl cv_X5_54 rfl rfl rfl rfl rfl ?_
    refine g_if_eq (Y := Y_X5_cell) (t := 22) (pc' := 18) dX5_cell_15 (by decide) rfl ⟨by omega, by omega⟩ (fun h15 => ?_) (fun h15 => ?_)
    · have hu := ifb_f h15
      have hx : ¬ (((0 ≤ p ∧ p ≤ 23) ∧ 0 ≤ q ∧ q ≤ 23) ∧ 0 ≤ w ∧ w ≤ 3) := fun q9 => hu q9.2
      have e : y_cell I p q w = (0, m_thr I 1) := if_neg hx
      have e1 : (y_cell I p q w).1 = 0 := by rw [e]
      have e2 : (y_cell I p q w).2 = m_thr I 1 := by rw [e]
      rw [e1, e2]
      clear e e1 e2
      refine g_iconst (Y := Y_X5_cell) (pc' := 23) dX5_cell_22 rfl ?_
      refine g_putI (Y := Y_X5_cell) (pc' := 26) dX5_cell_23 rfl fp_X5_50 rfl (by first | exact t0 | exact t1 | exact r1 | exact t2 | exact t3 | exact t4 | exact t5 | exact t6 | exact t7 | exact t8 | exact t9 | exact t10 | exact t11 | exact t12 | exact t13 | exact r2 | exact r4 | exact r5 | exact r8 | exact r9 | exact r10 | exact r11 | exact r12 | exact r13 | exact r14 | exact r15 | exact r16) (by omega) ?_
      refine g_aload0 (Y := Y_X5_cell) (pc' := 27) dX5_cell_26 rfl ?_
      refine g_getI (Y := Y_X5_cell) (pc' := 30) dX5_cell_27 rfl fl_X5_50 rfl (by first | exact t0 | exact t1 | exact r1 | exact t2 | exact t3 | exact t4 | exact t5 | exact t6 | exact t7 | exact t8 | exact t9 | exact t10 | exact t11 | exact t12 | exact t13 | exact r2 | exact r4 | exact r5 | exact r8 | exact r9 | exact r10 | exact r11 | exact r12 | exact r13 | exact r14 | exact r15 | exact r16) (by omega) ?_
      rw [u2_at]
      refine g_if_le (Y := Y_X5_cell) (t := 37) (pc' := 33) dX5_cell_30 (by decide) rfl ⟨by omega, by omega⟩ (fun h30 => ?_) (fun h30 => ?_)
      · exact absurd h30 (by decide)
      · refine g_iconst (Y := Y_X5_cell) (pc' := 34) dX5_cell_33 rfl ?_
        refine g_goto (Y := Y_X5_cell) (t := 48) dX5_cell_34 (by decide) ?_
        exact g_iret (Y := Y_X5_cell) dX5_cell_48 rfl (Nat.zero_le _) (Nat.zero_le _) (⟨rfl, rfl⟩)
    · have hu := ifb_t h15
      obtain ⟨c, hc⟩ : ∃ c : Nat, 24 * p + q = (c : Int) := ⟨(24 * p + q).toNat, by omega⟩
      obtain ⟨w, rfl⟩ : ∃ w9 : Nat, w = (w9 : Int) := ⟨w.toNat, by omega⟩
      have e : y_cell I p q w = (m_tc (m_thr I 0) c w, m_tcI (m_thr I 0) w) := (if_pos ⟨hb, hu⟩).trans (by rw [hc]; rfl)
      have e1 : (y_cell I p q w).1 = m_tc (m_thr I 0) c w := by rw [e]
      have e2 : (y_cell I p q w).2 = m_tcI (m_thr I 0) w := by rw [e]
      rw [e1, e2]
      clear e e1 e2
      refine g_iconst (Y := Y_X5_cell) (pc' := 19) dX5_cell_18 rfl ?_
      refine g_goto (Y := Y_X5_cell) (t := 23) dX5_cell_19 (by decide) ?_
      refine g_putI (Y := Y_X5_cell) (pc' := 26) dX5_cell_23 rfl fp_X5_50 rfl (by first | exact t0 | exact t1 | exact r1 | exact t2 | exact t3 | exact t4 | exact t5 | exact t6 | exact t7 | exact t8 | exact t9 | exact t10 | exact t11 | exact t12 | exact t13 | exact r2 | exact r4 | exact r5 | exact r8 | exact r9 | exact r10 | exact r11 | exact r12 | exact r13 | exact r14 | exact r15 | exact r16) (by omega) ?_
      refine g_aload0 (Y := Y_X5_cell) (pc' := 27) dX5_cell_26 rfl ?_
      refine g_getI (Y := Y_X5_cell) (pc' := 30) dX5_cell_27 rfl fl_X5_50 rfl (by first | exact t0 | exact t1 | exact r1 | exact t2 | exact t3 | exact t4 | exact t5 | exact t6 | exact t7 | exact t8 | exact t9 | exact t10 | exact t11 | exact t12 | exact t13 | exact r2 | exact r4 | exact r5 | exact r8 | exact r9 | exact r10 | exact r11 | exact r12 | exact r13 | exact r14 | exact r15 | exact r16) (by omega) ?_
      rw [u2_at]
      refine g_if_le (Y := Y_X5_cell) (t := 37) (pc' := 33) dX5_cell_30 (by decide) rfl ⟨by omega, by omega⟩ (fun h30 => ?_) (fun h30 => ?_)
      · refine g_aload0 (Y := Y_X5_cell) (pc' := 38) dX5_cell_37 rfl ?_
        refine g_bipush (Y := Y_X5_cell) (pc' := 40) dX5_cell_38 rfl (by decide) ?_
        refine g_iload1 (Y := Y_X5_cell) (pc' := 41) dX5_cell_40 rfl ?_
        refine g_imul (Y := Y_X5_cell) (pc' := 42) dX5_cell_41 rfl ?_
        refine g_iload2 (Y := Y_X5_cell) (pc' := 43) dX5_cell_42 rfl ?_
        refine g_iadd (Y := Y_X5_cell) (pc' := 44) dX5_cell_43 rfl ?_
        rw [hc]
        refine g_iload3 (Y := Y_X5_cell) (pc' := 45) dX5_cell_44 rfl ?_
        refine g_callVv (Y := Y_X5_cell) (c := 5) (s_X5_toldCell (I := m_thr I 0) hk0 hz1 hb1 c (by omega) w (by omega)) (pc' := 48) dX5_cell_45 rfl cv_X5_201 rfl (by first | exact t0 | exact t1 | exact r1 | exact t2 | exact t3 | exact t4 | exact t5 | exact t6 | exact t7 | exact t8 | exact t9 | exact t10 | exact t11 | exact t12 | exact t13 | exact r2 | exact r4 | exact r5 | exact r8 | exact r9 | exact r10 | exact r11 | exact r12 | exact r13 | exact r14 | exact r15 | exact r16) (by show _ < n; omega) ⟨by decide, _, rfl, rfl⟩ rfl rfl rfl rfl ?_
        exact g_iret (Y := Y_X5_cell) dX5_cell_48 rfl (Nat.zero_le _) (Nat.zero_le _) (⟨rfl, rfl⟩)
      · exact absurd (by decide) h30
