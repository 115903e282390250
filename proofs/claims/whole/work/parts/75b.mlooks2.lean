/-! the reference: what it tells -/
set_option maxHeartbeats 2000000 in
set_option maxRecDepth 100000 in
theorem s_X5_toldBlock {l : Launch} {E : QE} {T : Nat → Nat × Nat} {I : Nat → Nat → Int} {J : Nat → Nat → Int64} {R : Nat → Nat → Option Nat} {n z : Nat} (hk : MdB T R n) (hz9 : ZV I) (hb9 : HB I) (b : Nat) (hb : b < 480) (w : Nat) (hw : w < 4) : SpV l E Y_X5_toldBlock [.ref (E.1 + 110), .int (iz (b : Int)), .int (iz (w : Int))] (T, I, J, R, n, z) (.int (iz (m_tb I b w))) (T, m_tbI I w, J, R, n, z) := by
  have hk0 := hk
  obtain ⟨t0, t1, t2, t3, t4, t5, t6, t7, t8, t9, t10, t11, t12, t13, r1, r2, r4, r5, r8, r9, r10, r11, r12, r13, r14, r15, r16, hn⟩ := hk
  obtain ⟨z3, zs, zs0, zd, zt, zt2, zv, zw, zk⟩ := id hz9
  have hr9 := lay_HR hz9 hb9
  have hz8 := ZV_lay hz9
  have w9 := zw b hb
  refine Sp.of [some (.ref (E.1 + 110)), some (.int (iz (b : Int))), some (.int (iz (w : Int)))] (by decide +kernel) (Nat.le_of_ble_eq_true rfl) (fun _ h => h) ?_
  refine g_iload2 (Y := Y_X5_toldBlock) (pc' := 1) dX5_toldBlock_0 rfl ?_
  rcases (show w = 0 ∨ w = 1 ∨ w = 2 ∨ w = 3 by omega) with rfl | rfl | rfl | rfl
  · refine g_tswIn (Y := Y_X5_toldBlock) (t := 28) (off := 27) dX5_toldBlock_1 ⟨by decide, by decide⟩ (by decide) (by decide) rfl (by decide) ?_
    refine g_aload0 (Y := Y_X5_toldBlock) (pc' := 29) dX5_toldBlock_28 rfl ?_
    refine g_getR (Y := Y_X5_toldBlock) (pc' := 32) dX5_toldBlock_29 rfl fl_X5_7 rfl (by first | exact t0 | exact t1 | exact r1 | exact t2 | exact t3 | exact t4 | exact t5 | exact t6 | exact t7 | exact t8 | exact t9 | exact t10 | exact t11 | exact t12 | exact t13 | exact r2 | exact r4 | exact r5 | exact r8 | exact r9 | exact r10 | exact r11 | exact r12 | exact r13 | exact r14 | exact r15 | exact r16) (by omega) (by first | exact t0 | exact t1 | exact r1 | exact t2 | exact t3 | exact t4 | exact t5 | exact t6 | exact t7 | exact t8 | exact t9 | exact t10 | exact t11 | exact t12 | exact t13 | exact r2 | exact r4 | exact r5 | exact r8 | exact r9 | exact r10 | exact r11 | exact r12 | exact r13 | exact r14 | exact r15 | exact r16) ?_
    refine g_bipush (Y := Y_X5_toldBlock) (pc' := 34) dX5_toldBlock_32 rfl (by decide) ?_
    refine g_iload1 (Y := Y_X5_toldBlock) (pc' := 35) dX5_toldBlock_34 rfl ?_
    refine g_iadd (Y := Y_X5_toldBlock) (pc' := 36) dX5_toldBlock_35 rfl ?_
    refine g_iald (Y := Y_X5_toldBlock) (pc' := 37) dX5_toldBlock_36 rfl (by first | exact t0 | exact t1 | exact r1 | exact t2 | exact t3 | exact t4 | exact t5 | exact t6 | exact t7 | exact t8 | exact t9 | exact t10 | exact t11 | exact t12 | exact t13 | exact r2 | exact r4 | exact r5 | exact r8 | exact r9 | exact r10 | exact r11 | exact r12 | exact r13 | exact r14 | exact r15 | exact r16) (by omega) (by decide) ⟨by omega, by omega⟩ ?_
    rw [show (18 + (b : Int)).toNat = 18 + b by omega]
    exact g_iret (Y := Y_X5_toldBlock) dX5_toldBlock_37 rfl (Nat.zero_le _) (Nat.zero_le _) (⟨rfl, rfl⟩)
  · refine g_tswIn (Y := Y_X5_toldBlock) (t := 38) (off := 37) dX5_toldBlock_1 ⟨by decide, by decide⟩ (by decide) (by decide) rfl (by decide) ?_
    refine g_aload0 (Y := Y_X5_toldBlock) (pc' := 39) dX5_toldBlock_38 rfl ?_
    refine g_iload1 (Y := Y_X5_toldBlock) (pc' := 40) dX5_toldBlock_39 rfl ?_
    refine g_callVv (Y := Y_X5_toldBlock) (c := 5) (s_X5_where hk0 b hb) (pc' := 43) dX5_toldBlock_40 rfl cv_X5_111 rfl (by first | exact t0 | exact t1 | exact r1 | exact t2 | exact t3 | exact t4 | exact t5 | exact t6 | exact t7 | exact t8 | exact t9 | exact t10 | exact t11 | exact t12 | exact t13 | exact r2 | exact r4 | exact r5 | exact r8 | exact r9 | exact r10 | exact r11 | exact r12 | exact r13 | exact r14 | exact r15 | exact r16) (by show _ < n; omega) ⟨by decide, _, rfl, rfl⟩ rfl rfl rfl rfl ?_
    exact g_iret (Y := Y_X5_toldBlock) dX5_toldBlock_43 rfl (Nat.zero_le _) (Nat.zero_le _) (⟨rfl, rfl⟩)
  · refine g_tswIn (Y := Y_X5_toldBlock) (t := 44) (off := 43) dX5_toldBlock_1 ⟨by decide, by decide⟩ (by decide) (by decide) rfl (by decide) ?_
    refine g_aload0 (Y := Y_X5_toldBlock) (pc' := 45) dX5_toldBlock_44 rfl ?_
    refine g_iload1 (Y := Y_X5_toldBlock) (pc' := 46) dX5_toldBlock_45 rfl ?_
    refine g_callVv (Y := Y_X5_toldBlock) (c := 5) (s_X5_where hk0 b hb) (pc' := 49) dX5_toldBlock_46 rfl cv_X5_111 rfl (by first | exact t0 | exact t1 | exact r1 | exact t2 | exact t3 | exact t4 | exact t5 | exact t6 | exact t7 | exact t8 | exact t9 | exact t10 | exact t11 | exact t12 | exact t13 | exact r2 | exact r4 | exact r5 | exact r8 | exact r9 | exact r10 | exact r11 | exact r12 | exact r13 | exact r14 | exact r15 | exact r16) (by show _ < n; omega) ⟨by decide, _, rfl, rfl⟩ rfl rfl rfl rfl ?_
    refine g_sipush (Y := Y_X5_toldBlock) (pc' := 52) dX5_toldBlock_49 rfl (by decide) ?_
    refine g_icmp_lt (Y := Y_X5_toldBlock) (t := 59) (pc' := 55) dX5_toldBlock_52 (by decide) rfl ⟨by omega, by omega⟩ ⟨by omega, by omega⟩ (fun h52 => ?_) (fun h52 => ?_)
    · rw [show m_tb I b 2 = 0 from if_neg (by omega)]
      refine g_iconst (Y := Y_X5_toldBlock) (pc' := 60) dX5_toldBlock_59 rfl ?_
      exact g_iret (Y := Y_X5_toldBlock) dX5_toldBlock_60 rfl (Nat.zero_le _) (Nat.zero_le _) (⟨rfl, rfl⟩)
    · rw [show m_tb I b 2 = 1 from if_pos (by omega)]
      refine g_iconst (Y := Y_X5_toldBlock) (pc' := 56) dX5_toldBlock_55 rfl ?_
      refine g_goto (Y := Y_X5_toldBlock) (t := 60) dX5_toldBlock_56 (by decide) ?_
      exact g_iret (Y := Y_X5_toldBlock) dX5_toldBlock_60 rfl (Nat.zero_le _) (Nat.zero_le _) (⟨rfl, rfl⟩)
  · refine g_tswOut (Y := Y_X5_toldBlock) (t := 61) dX5_toldBlock_1 ⟨by decide, by decide⟩ (by decide) (by decide) ?_
    refine g_aload0 (Y := Y_X5_toldBlock) (pc' := 62) dX5_toldBlock_61 rfl ?_
    refine g_callVn (Y := Y_X5_toldBlock) (c := 5) (s_X5_lay hk0 hz9) (pc' := 65) dX5_toldBlock_62 rfl cv_X5_130 rfl (by first | exact t0 | exact t1 | exact r1 | exact t2 | exact t3 | exact t4 | exact t5 | exact t6 | exact t7 | exact t8 | exact t9 | exact t10 | exact t11 | exact t12 | exact t13 | exact r2 | exact r4 | exact r5 | exact r8 | exact r9 | exact r10 | exact r11 | exact r12 | exact r13 | exact r14 | exact r15 | exact r16) (by show _ < n; omega) ⟨by decide, _, rfl, rfl⟩ rfl rfl rfl rfl ?_
    refine g_aload0 (Y := Y_X5_toldBlock) (pc' := 66) dX5_toldBlock_65 rfl ?_
    refine g_iload1 (Y := Y_X5_toldBlock) (pc' := 67) dX5_toldBlock_66 rfl ?_
    refine g_callVv (Y := Y_X5_toldBlock) (c := 5) (s_X5_goalOf hk0 hz8 hr9 b hb) (pc' := 70) dX5_toldBlock_67 rfl cv_X5_118 rfl (by first | exact t0 | exact t1 | exact r1 | exact t2 | exact t3 | exact t4 | exact t5 | exact t6 | exact t7 | exact t8 | exact t9 | exact t10 | exact t11 | exact t12 | exact t13 | exact r2 | exact r4 | exact r5 | exact r8 | exact r9 | exact r10 | exact r11 | exact r12 | exact r13 | exact r14 | exact r15 | exact r16) (by show _ < n; omega) ⟨by decide, _, rfl, rfl⟩ rfl rfl rfl rfl ?_
    exact g_iret (Y := Y_X5_toldBlock) dX5_toldBlock_70 rfl (Nat.zero_le _) (Nat.zero_le _) (⟨rfl, rfl⟩)
