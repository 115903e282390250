/-! the reference: what it tells -/
set_option maxHeartbeats 2000000 in
set_option maxRecDepth 100000 in
theorem s_X5_worstCell {l : Launch} {E : QE} {T : Nat → Nat × Nat} {I : Nat → Nat → Int} {J : Nat → Nat → Int64} {R : Nat → Nat → Option Nat} {n z : Nat} (hk : MdB T R n) (hz9 : ZV I) (hb9 : HB I)  : SpV l E Y_X5_worstCell [.ref (E.1 + 110)] (T, I, J, R, n, z) (.int (iz (m_wc I))) (T, m_lay I, J, R, n, z) := by
  have hk0 := hk
  obtain ⟨t0, t1, t2, t3, t4, t5, t6, t7, t8, t9, t10, t11, t12, t13, r1, r2, r4, r5, r8, r9, r10, r11, r12, r13, r14, r15, r16, hn⟩ := hk
  obtain ⟨z3, zs, zs0, zd, zt, zt2, zv, zw, zk⟩ := id hz9
  have hr9 := lay_HR hz9 hb9
  have hz8 := ZV_lay hz9
  refine Sp.of [some (.ref (E.1 + 110)), none, none] (by decide +kernel) (Nat.le_of_ble_eq_true rfl) (fun _ h => h) ?_
  refine g_aload0 (Y := Y_X5_worstCell) (pc' := 1) dX5_worstCell_0 rfl ?_
  refine g_callVn (Y := Y_X5_worstCell) (c := 5) (s_X5_lay hk0 hz9) (pc' := 4) dX5_worstCell_1 rfl cv_X5_130 rfl (by first | exact t0 | exact t1 | exact r1 | exact t2 | exact t3 | exact t4 | exact t5 | exact t6 | exact t7 | exact t8 | exact t9 | exact t10 | exact t11 | exact t12 | exact t13 | exact r2 | exact r4 | exact r5 | exact r8 | exact r9 | exact r10 | exact r11 | exact r12 | exact r13 | exact r14 | exact r15 | exact r16) (by show _ < n; omega) ⟨by decide, _, rfl, rfl⟩ rfl rfl rfl rfl ?_
  refine g_iconst (Y := Y_X5_worstCell) (pc' := 5) dX5_worstCell_4 rfl ?_
  refine g_istore1 (Y := Y_X5_worstCell) (pc' := 6) dX5_worstCell_5 rfl (Nat.le_of_ble_eq_true rfl) rfl ?_
  refine g_iconst (Y := Y_X5_worstCell) (pc' := 7) dX5_worstCell_6 rfl ?_
  refine g_istore2 (Y := Y_X5_worstCell) (pc' := 8) dX5_worstCell_7 rfl (Nat.le_of_ble_eq_true rfl) rfl ?_
  exact s_X5_worstCell_lp hk0 hz8 hr9 576 0 (-1) rfl (by decide)
