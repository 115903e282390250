/-! the reference: what it tells -/
theorem ctd_0 {I : Nat → Nat → Int} : m_ctd I 0 = I 111 3 := rfl
theorem ctd_1 {I : Nat → Nat → Int} : m_ctd I 1 = I 110 7 := rfl
theorem ctd_2 {I : Nat → Nat → Int} : m_ctd I 2 = m_avM I := rfl
theorem ctd_3 {I : Nat → Nat → Int} : m_ctd I 3 = m_blk I 0 := rfl
theorem ctd_4 {I : Nat → Nat → Int} : m_ctd I 4 = m_blk I 1 := rfl
theorem ctd_5 {I : Nat → Nat → Int} : m_ctd I 5 = m_blk I 2 := rfl
theorem ctd_6 {I : Nat → Nat → Int} : m_ctd I 6 = m_fsp I := rfl
theorem ctd_7 {I : Nat → Nat → Int} : m_ctd I 7 = I 111 4 := rfl
theorem ctd_8 {I : Nat → Nat → Int} : m_ctd I 8 = I 111 5 := rfl
theorem ctd_9 {I : Nat → Nat → Int} : m_ctd I 9 = I 110 3 := rfl
theorem ctI_t {I : Nat → Nat → Int} {w : Int} (h : 1 ≤ w ∧ w ≤ 6) : m_ctI I w = m_lay I := if_pos h
theorem ctI_f {I : Nat → Nat → Int} {w : Int} (h : ¬ (1 ≤ w ∧ w ≤ 6)) : m_ctI I w = I := if_neg h
set_option maxHeartbeats 2000000 in
set_option maxRecDepth 100000 in
theorem s_X5_counted {l : Launch} {E : QE} {T : Nat → Nat × Nat} {I : Nat → Nat → Int} {J : Nat → Nat → Int64} {R : Nat → Nat → Option Nat} {n z : Nat} (hk : MdB T R n) (hz9 : ZV I) (hb9 : HB I) (w : Nat) (hw : w < 10) : SpV l E Y_X5_counted [.ref (E.1 + 110), .int (iz (w : Int))] (T, I, J, R, n, z) (.int (iz (m_ctd (m_ctI I w) w))) (T, m_ctI I w, J, R, n, z) := by
  have hk0 := hk
  obtain ⟨t0, t1, t2, t3, t4, t5, t6, t7, t8, t9, t10, t11, t12, t13, r1, r2, r4, r5, r8, r9, r10, r11, r12, r13, r14, r15, r16, hn⟩ := hk
  obtain ⟨z3, zs, zs0, zd, zt, zt2, zv, zw, zk⟩ := id hz9
  have hr9 := lay_HR hz9 hb9
  have hz8 := ZV_lay hz9
  refine Sp.of [some (.ref (E.1 + 110)), some (.int (iz (w : Int)))] (by decide +kernel) (Nat.le_of_ble_eq_true rfl) (fun _ h => h) ?_
  rcases (show w = 0 ∨ w = 1 ∨ w = 2 ∨ w = 3 ∨ w = 4 ∨ w = 5 ∨ w = 6 ∨ w = 7 ∨ w = 8 ∨ w = 9 by omega) with rfl | rfl | rfl | rfl | rfl | rfl | rfl | rfl | rfl | rfl
  · rw [ctI_f (w := ((0 : Nat) : Int)) (by decide), ctd_0]
    refine g_iload1 (Y := Y_X5_counted) (pc' := 1) dX5_counted_0 rfl ?_
    refine g_iconst (Y := Y_X5_counted) (pc' := 2) dX5_counted_1 rfl ?_
    refine g_bipush (Y := Y_X5_counted) (pc' := 4) dX5_counted_2 rfl (by decide) ?_
    refine g_callSv (Y := Y_X5_counted) (s_X5_in 0 1 6 ⟨by decide, by decide⟩ ⟨by decide, by decide⟩ ⟨by decide, by decide⟩) (pc' := 7) dX5_counted_4 rfl cv_X5_54 rfl rfl rfl rfl rfl ?_
    refine g_if_eq (Y := Y_X5_counted) (t := 14) (pc' := 10) dX5_counted_7 (by decide) rfl ⟨by decide, by decide⟩ (fun h7 => ?_) (fun h7 => ?_)
    · refine g_iload1 (Y := Y_X5_counted) (pc' := 15) dX5_counted_14 rfl ?_
      refine g_tswIn (Y := Y_X5_counted) (t := 64) (off := 49) dX5_counted_15 ⟨by decide, by decide⟩ (by decide) (by decide) rfl (by decide) ?_
      refine g_aload0 (Y := Y_X5_counted) (pc' := 65) dX5_counted_64 rfl ?_
      refine g_getR (Y := Y_X5_counted) (pc' := 68) dX5_counted_65 rfl fl_X5_7 rfl (by first | exact t0 | exact t1 | exact r1 | exact t2 | exact t3 | exact t4 | exact t5 | exact t6 | exact t7 | exact t8 | exact t9 | exact t10 | exact t11 | exact t12 | exact t13 | exact r2 | exact r4 | exact r5 | exact r8 | exact r9 | exact r10 | exact r11 | exact r12 | exact r13 | exact r14 | exact r15 | exact r16) (by omega) (by first | exact t0 | exact t1 | exact r1 | exact t2 | exact t3 | exact t4 | exact t5 | exact t6 | exact t7 | exact t8 | exact t9 | exact t10 | exact t11 | exact t12 | exact t13 | exact r2 | exact r4 | exact r5 | exact r8 | exact r9 | exact r10 | exact r11 | exact r12 | exact r13 | exact r14 | exact r15 | exact r16) ?_
      refine g_iconst (Y := Y_X5_counted) (pc' := 69) dX5_counted_68 rfl ?_
      refine g_iald (Y := Y_X5_counted) (pc' := 70) dX5_counted_69 rfl (by first | exact t0 | exact t1 | exact r1 | exact t2 | exact t3 | exact t4 | exact t5 | exact t6 | exact t7 | exact t8 | exact t9 | exact t10 | exact t11 | exact t12 | exact t13 | exact r2 | exact r4 | exact r5 | exact r8 | exact r9 | exact r10 | exact r11 | exact r12 | exact r13 | exact r14 | exact r15 | exact r16) (by omega) (by decide) ⟨by omega, by omega⟩ ?_
      rw [show Int.toNat 3 = 3 from rfl]
      exact g_iret (Y := Y_X5_counted) dX5_counted_70 rfl (Nat.zero_le _) (Nat.zero_le _) (⟨rfl, rfl⟩)
    · exact absurd (by decide) h7
  · rw [ctI_t (w := ((1 : Nat) : Int)) (by decide), ctd_1]
    refine g_iload1 (Y := Y_X5_counted) (pc' := 1) dX5_counted_0 rfl ?_
    refine g_iconst (Y := Y_X5_counted) (pc' := 2) dX5_counted_1 rfl ?_
    refine g_bipush (Y := Y_X5_counted) (pc' := 4) dX5_counted_2 rfl (by decide) ?_
    refine g_callSv (Y := Y_X5_counted) (s_X5_in 1 1 6 ⟨by decide, by decide⟩ ⟨by decide, by decide⟩ ⟨by decide, by decide⟩) (pc' := 7) dX5_counted_4 rfl cv_X5_54 rfl rfl rfl rfl rfl ?_
    refine g_if_eq (Y := Y_X5_counted) (t := 14) (pc' := 10) dX5_counted_7 (by decide) rfl ⟨by decide, by decide⟩ (fun h7 => ?_) (fun h7 => ?_)
    · exact absurd h7 (by decide)
    · refine g_aload0 (Y := Y_X5_counted) (pc' := 11) dX5_counted_10 rfl ?_
      refine g_callVn (Y := Y_X5_counted) (c := 5) (s_X5_lay hk0 hz9) (pc' := 14) dX5_counted_11 rfl cv_X5_130 rfl (by first | exact t0 | exact t1 | exact r1 | exact t2 | exact t3 | exact t4 | exact t5 | exact t6 | exact t7 | exact t8 | exact t9 | exact t10 | exact t11 | exact t12 | exact t13 | exact r2 | exact r4 | exact r5 | exact r8 | exact r9 | exact r10 | exact r11 | exact r12 | exact r13 | exact r14 | exact r15 | exact r16) (by show _ < n; omega) ⟨by decide, _, rfl, rfl⟩ rfl rfl rfl rfl ?_
      refine g_iload1 (Y := Y_X5_counted) (pc' := 15) dX5_counted_14 rfl ?_
      refine g_tswIn (Y := Y_X5_counted) (t := 71) (off := 56) dX5_counted_15 ⟨by decide, by decide⟩ (by decide) (by decide) rfl (by decide) ?_
      refine g_aload0 (Y := Y_X5_counted) (pc' := 72) dX5_counted_71 rfl ?_
      refine g_getI (Y := Y_X5_counted) (pc' := 75) dX5_counted_72 rfl fl_X5_72 rfl (by first | exact t0 | exact t1 | exact r1 | exact t2 | exact t3 | exact t4 | exact t5 | exact t6 | exact t7 | exact t8 | exact t9 | exact t10 | exact t11 | exact t12 | exact t13 | exact r2 | exact r4 | exact r5 | exact r8 | exact r9 | exact r10 | exact r11 | exact r12 | exact r13 | exact r14 | exact r15 | exact r16) (by omega) ?_
      exact g_iret (Y := Y_X5_counted) dX5_counted_75 rfl (Nat.zero_le _) (Nat.zero_le _) (⟨rfl, rfl⟩)
  · rw [ctI_t (w := ((2 : Nat) : Int)) (by decide), ctd_2]
    refine g_iload1 (Y := Y_X5_counted) (pc' := 1) dX5_counted_0 rfl ?_
    refine g_iconst (Y := Y_X5_counted) (pc' := 2) dX5_counted_1 rfl ?_
    refine g_bipush (Y := Y_X5_counted) (pc' := 4) dX5_counted_2 rfl (by decide) ?_
    refine g_callSv (Y := Y_X5_counted) (s_X5_in 2 1 6 ⟨by decide, by decide⟩ ⟨by decide, by decide⟩ ⟨by decide, by decide⟩) (pc' := 7) dX5_counted_4 rfl cv_X5_54 rfl rfl rfl rfl rfl ?_
    refine g_if_eq (Y := Y_X5_counted) (t := 14) (pc' := 10) dX5_counted_7 (by decide) rfl ⟨by decide, by decide⟩ (fun h7 => ?_) (fun h7 => ?_)
    · exact absurd h7 (by decide)
    · refine g_aload0 (Y := Y_X5_counted) (pc' := 11) dX5_counted_10 rfl ?_
      refine g_callVn (Y := Y_X5_counted) (c := 5) (s_X5_lay hk0 hz9) (pc' := 14) dX5_counted_11 rfl cv_X5_130 rfl (by first | exact t0 | exact t1 | exact r1 | exact t2 | exact t3 | exact t4 | exact t5 | exact t6 | exact t7 | exact t8 | exact t9 | exact t10 | exact t11 | exact t12 | exact t13 | exact r2 | exact r4 | exact r5 | exact r8 | exact r9 | exact r10 | exact r11 | exact r12 | exact r13 | exact r14 | exact r15 | exact r16) (by show _ < n; omega) ⟨by decide, _, rfl, rfl⟩ rfl rfl rfl rfl ?_
      refine g_iload1 (Y := Y_X5_counted) (pc' := 15) dX5_counted_14 rfl ?_
      refine g_tswIn (Y := Y_X5_counted) (t := 76) (off := 61) dX5_counted_15 ⟨by decide, by decide⟩ (by decide) (by decide) rfl (by decide) ?_
      refine g_aload0 (Y := Y_X5_counted) (pc' := 77) dX5_counted_76 rfl ?_
      refine g_callVv (Y := Y_X5_counted) (c := 5) (s_X5_avoidedMany hk0 hz8 hr9) (pc' := 80) dX5_counted_77 rfl cv_X5_217 rfl (by first | exact t0 | exact t1 | exact r1 | exact t2 | exact t3 | exact t4 | exact t5 | exact t6 | exact t7 | exact t8 | exact t9 | exact t10 | exact t11 | exact t12 | exact t13 | exact r2 | exact r4 | exact r5 | exact r8 | exact r9 | exact r10 | exact r11 | exact r12 | exact r13 | exact r14 | exact r15 | exact r16) (by show _ < n; omega) ⟨by decide, _, rfl, rfl⟩ rfl rfl rfl rfl ?_
      exact g_iret (Y := Y_X5_counted) dX5_counted_80 rfl (Nat.zero_le _) (Nat.zero_le _) (⟨rfl, rfl⟩)
  · rw [ctI_t (w := ((3 : Nat) : Int)) (by decide), ctd_3]
    refine g_iload1 (Y := Y_X5_counted) (pc' := 1) dX5_counted_0 rfl ?_
    refine g_iconst (Y := Y_X5_counted) (pc' := 2) dX5_counted_1 rfl ?_
    refine g_bipush (Y := Y_X5_counted) (pc' := 4) dX5_counted_2 rfl (by decide) ?_
    refine g_callSv (Y := Y_X5_counted) (s_X5_in 3 1 6 ⟨by decide, by decide⟩ ⟨by decide, by decide⟩ ⟨by decide, by decide⟩) (pc' := 7) dX5_counted_4 rfl cv_X5_54 rfl rfl rfl rfl rfl ?_
    refine g_if_eq (Y := Y_X5_counted) (t := 14) (pc' := 10) dX5_counted_7 (by decide) rfl ⟨by decide, by decide⟩ (fun h7 => ?_) (fun h7 => ?_)
    · exact absurd h7 (by decide)
    · refine g_aload0 (Y := Y_X5_counted) (pc' := 11) dX5_counted_10 rfl ?_
      refine g_callVn (Y := Y_X5_counted) (c := 5) (s_X5_lay hk0 hz9) (pc' := 14) dX5_counted_11 rfl cv_X5_130 rfl (by first | exact t0 | exact t1 | exact r1 | exact t2 | exact t3 | exact t4 | exact t5 | exact t6 | exact t7 | exact t8 | exact t9 | exact t10 | exact t11 | exact t12 | exact t13 | exact r2 | exact r4 | exact r5 | exact r8 | exact r9 | exact r10 | exact r11 | exact r12 | exact r13 | exact r14 | exact r15 | exact r16) (by show _ < n; omega) ⟨by decide, _, rfl, rfl⟩ rfl rfl rfl rfl ?_
      refine g_iload1 (Y := Y_X5_counted) (pc' := 15) dX5_counted_14 rfl ?_
      refine g_tswIn (Y := Y_X5_counted) (t := 81) (off := 66) dX5_counted_15 ⟨by decide, by decide⟩ (by decide) (by decide) rfl (by decide) ?_
      refine g_aload0 (Y := Y_X5_counted) (pc' := 82) dX5_counted_81 rfl ?_
      refine g_iload1 (Y := Y_X5_counted) (pc' := 83) dX5_counted_82 rfl ?_
      refine g_iconst (Y := Y_X5_counted) (pc' := 84) dX5_counted_83 rfl ?_
      refine g_isub (Y := Y_X5_counted) (pc' := 85) dX5_counted_84 rfl ?_
      refine g_callVv (Y := Y_X5_counted) (c := 5) (s_X5_blocks hk0 hz8 hr9 0 (by decide)) (pc' := 88) dX5_counted_85 rfl cv_X5_220 rfl (by first | exact t0 | exact t1 | exact r1 | exact t2 | exact t3 | exact t4 | exact t5 | exact t6 | exact t7 | exact t8 | exact t9 | exact t10 | exact t11 | exact t12 | exact t13 | exact r2 | exact r4 | exact r5 | exact r8 | exact r9 | exact r10 | exact r11 | exact r12 | exact r13 | exact r14 | exact r15 | exact r16) (by show _ < n; omega) ⟨by decide, _, rfl, rfl⟩ rfl rfl rfl rfl ?_
      exact g_iret (Y := Y_X5_counted) dX5_counted_88 rfl (Nat.zero_le _) (Nat.zero_le _) (⟨rfl, rfl⟩)
  · rw [ctI_t (w := ((4 : Nat) : Int)) (by decide), ctd_4]
    refine g_iload1 (Y := Y_X5_counted) (pc' := 1) dX5_counted_0 rfl ?_
    refine g_iconst (Y := Y_X5_counted) (pc' := 2) dX5_counted_1 rfl ?_
    refine g_bipush (Y := Y_X5_counted) (pc' := 4) dX5_counted_2 rfl (by decide) ?_
    refine g_callSv (Y := Y_X5_counted) (s_X5_in 4 1 6 ⟨by decide, by decide⟩ ⟨by decide, by decide⟩ ⟨by decide, by decide⟩) (pc' := 7) dX5_counted_4 rfl cv_X5_54 rfl rfl rfl rfl rfl ?_
    refine g_if_eq (Y := Y_X5_counted) (t := 14) (pc' := 10) dX5_counted_7 (by decide) rfl ⟨by decide, by decide⟩ (fun h7 => ?_) (fun h7 => ?_)
    · exact absurd h7 (by decide)
    · refine g_aload0 (Y := Y_X5_counted) (pc' := 11) dX5_counted_10 rfl ?_
      refine g_callVn (Y := Y_X5_counted) (c := 5) (s_X5_lay hk0 hz9) (pc' := 14) dX5_counted_11 rfl cv_X5_130 rfl (by first | exact t0 | exact t1 | exact r1 | exact t2 | exact t3 | exact t4 | exact t5 | exact t6 | exact t7 | exact t8 | exact t9 | exact t10 | exact t11 | exact t12 | exact t13 | exact r2 | exact r4 | exact r5 | exact r8 | exact r9 | exact r10 | exact r11 | exact r12 | exact r13 | exact r14 | exact r15 | exact r16) (by show _ < n; omega) ⟨by decide, _, rfl, rfl⟩ rfl rfl rfl rfl ?_
      refine g_iload1 (Y := Y_X5_counted) (pc' := 15) dX5_counted_14 rfl ?_
      refine g_tswIn (Y := Y_X5_counted) (t := 81) (off := 66) dX5_counted_15 ⟨by decide, by decide⟩ (by decide) (by decide) rfl (by decide) ?_
      refine g_aload0 (Y := Y_X5_counted) (pc' := 82) dX5_counted_81 rfl ?_
      refine g_iload1 (Y := Y_X5_counted) (pc' := 83) dX5_counted_82 rfl ?_
      refine g_iconst (Y := Y_X5_counted) (pc' := 84) dX5_counted_83 rfl ?_
      refine g_isub (Y := Y_X5_counted) (pc' := 85) dX5_counted_84 rfl ?_
      refine g_callVv (Y := Y_X5_counted) (c := 5) (s_X5_blocks hk0 hz8 hr9 1 (by decide)) (pc' := 88) dX5_counted_85 rfl cv_X5_220 rfl (by first | exact t0 | exact t1 | exact r1 | exact t2 | exact t3 | exact t4 | exact t5 | exact t6 | exact t7 | exact t8 | exact t9 | exact t10 | exact t11 | exact t12 | exact t13 | exact r2 | exact r4 | exact r5 | exact r8 | exact r9 | exact r10 | exact r11 | exact r12 | exact r13 | exact r14 | exact r15 | exact r16) (by show _ < n; omega) ⟨by decide, _, rfl, rfl⟩ rfl rfl rfl rfl ?_
      exact g_iret (Y := Y_X5_counted) dX5_counted_88 rfl (Nat.zero_le _) (Nat.zero_le _) (⟨rfl, rfl⟩)
  · rw [ctI_t (w := ((5 : Nat) : Int)) (by decide), ctd_5]
    refine g_iload1 (Y := Y_X5_counted) (pc' := 1) dX5_counted_0 rfl ?_
    refine g_iconst (Y := Y_X5_counted) (pc' := 2) dX5_counted_1 rfl ?_
    refine g_bipush (Y := Y_X5_counted) (pc' := 4) dX5_counted_2 rfl (by decide) ?_
    refine g_callSv (Y := Y_X5_counted) (s_X5_in 5 1 6 ⟨by decide, by decide⟩ ⟨by decide, by decide⟩ ⟨by decide, by decide⟩) (pc' := 7) dX5_counted_4 rfl cv_X5_54 rfl rfl rfl rfl rfl ?_
    refine g_if_eq (Y := Y_X5_counted) (t := 14) (pc' := 10) dX5_counted_7 (by decide) rfl ⟨by decide, by decide⟩ (fun h7 => ?_) (fun h7 => ?_)
    · exact absurd h7 (by decide)
    · refine g_aload0 (Y := Y_X5_counted) (pc' := 11) dX5_counted_10 rfl ?_
      refine g_callVn (Y := Y_X5_counted) (c := 5) (s_X5_lay hk0 hz9) (pc' := 14) dX5_counted_11 rfl cv_X5_130 rfl (by first | exact t0 | exact t1 | exact r1 | exact t2 | exact t3 | exact t4 | exact t5 | exact t6 | exact t7 | exact t8 | exact t9 | exact t10 | exact t11 | exact t12 | exact t13 | exact r2 | exact r4 | exact r5 | exact r8 | exact r9 | exact r10 | exact r11 | exact r12 | exact r13 | exact r14 | exact r15 | exact r16) (by show _ < n; omega) ⟨by decide, _, rfl, rfl⟩ rfl rfl rfl rfl ?_
      refine g_iload1 (Y := Y_X5_counted) (pc' := 15) dX5_counted_14 rfl ?_
      refine g_tswIn (Y := Y_X5_counted) (t := 81) (off := 66) dX5_counted_15 ⟨by decide, by decide⟩ (by decide) (by decide) rfl (by decide) ?_
      refine g_aload0 (Y := Y_X5_counted) (pc' := 82) dX5_counted_81 rfl ?_
      refine g_iload1 (Y := Y_X5_counted) (pc' := 83) dX5_counted_82 rfl ?_
      refine g_iconst (Y := Y_X5_counted) (pc' := 84) dX5_counted_83 rfl ?_
      refine g_isub (Y := Y_X5_counted) (pc' := 85) dX5_counted_84 rfl ?_
      refine g_callVv (Y := Y_X5_counted) (c := 5) (s_X5_blocks hk0 hz8 hr9 2 (by decide)) (pc' := 88) dX5_counted_85 rfl cv_X5_220 rfl (by first | exact t0 | exact t1 | exact r1 | exact t2 | exact t3 | exact t4 | exact t5 | exact t6 | exact t7 | exact t8 | exact t9 | exact t10 | exact t11 | exact t12 | exact t13 | exact r2 | exact r4 | exact r5 | exact r8 | exact r9 | exact r10 | exact r11 | exact r12 | exact r13 | exact r14 | exact r15 | exact r16) (by show _ < n; omega) ⟨by decide, _, rfl, rfl⟩ rfl rfl rfl rfl ?_
      exact g_iret (Y := Y_X5_counted) dX5_counted_88 rfl (Nat.zero_le _) (Nat.zero_le _) (⟨rfl, rfl⟩)
  · rw [ctI_t (w := ((6 : Nat) : Int)) (by decide), ctd_6]
    refine g_iload1 (Y := Y_X5_counted) (pc' := 1) dX5_counted_0 rfl ?_
    refine g_iconst (Y := Y_X5_counted) (pc' := 2) dX5_counted_1 rfl ?_
    refine g_bipush (Y := Y_X5_counted) (pc' := 4) dX5_counted_2 rfl (by decide) ?_
    refine g_callSv (Y := Y_X5_counted) (s_X5_in 6 1 6 ⟨by decide, by decide⟩ ⟨by decide, by decide⟩ ⟨by decide, by decide⟩) (pc' := 7) dX5_counted_4 rfl cv_X5_54 rfl rfl rfl rfl rfl ?_
    refine g_if_eq (Y := Y_X5_counted) (t := 14) (pc' := 10) dX5_counted_7 (by decide) rfl ⟨by decide, by decide⟩ (fun h7 => ?_) (fun h7 => ?_)
    · exact absurd h7 (by decide)
    · refine g_aload0 (Y := Y_X5_counted) (pc' := 11) dX5_counted_10 rfl ?_
      refine g_callVn (Y := Y_X5_counted) (c := 5) (s_X5_lay hk0 hz9) (pc' := 14) dX5_counted_11 rfl cv_X5_130 rfl (by first | exact t0 | exact t1 | exact r1 | exact t2 | exact t3 | exact t4 | exact t5 | exact t6 | exact t7 | exact t8 | exact t9 | exact t10 | exact t11 | exact t12 | exact t13 | exact r2 | exact r4 | exact r5 | exact r8 | exact r9 | exact r10 | exact r11 | exact r12 | exact r13 | exact r14 | exact r15 | exact r16) (by show _ < n; omega) ⟨by decide, _, rfl, rfl⟩ rfl rfl rfl rfl ?_
      refine g_iload1 (Y := Y_X5_counted) (pc' := 15) dX5_counted_14 rfl ?_
      refine g_tswIn (Y := Y_X5_counted) (t := 89) (off := 74) dX5_counted_15 ⟨by decide, by decide⟩ (by decide) (by decide) rfl (by decide) ?_
      refine g_aload0 (Y := Y_X5_counted) (pc' := 90) dX5_counted_89 rfl ?_
      refine g_callVv (Y := Y_X5_counted) (c := 5) (s_X5_freeSpares hk0 hz8 hr9) (pc' := 93) dX5_counted_90 rfl cv_X5_223 rfl (by first | exact t0 | exact t1 | exact r1 | exact t2 | exact t3 | exact t4 | exact t5 | exact t6 | exact t7 | exact t8 | exact t9 | exact t10 | exact t11 | exact t12 | exact t13 | exact r2 | exact r4 | exact r5 | exact r8 | exact r9 | exact r10 | exact r11 | exact r12 | exact r13 | exact r14 | exact r15 | exact r16) (by show _ < n; omega) ⟨by decide, _, rfl, rfl⟩ rfl rfl rfl rfl ?_
      exact g_iret (Y := Y_X5_counted) dX5_counted_93 rfl (Nat.zero_le _) (Nat.zero_le _) (⟨rfl, rfl⟩)
  · rw [ctI_f (w := ((7 : Nat) : Int)) (by decide), ctd_7]
    refine g_iload1 (Y := Y_X5_counted) (pc' := 1) dX5_counted_0 rfl ?_
    refine g_iconst (Y := Y_X5_counted) (pc' := 2) dX5_counted_1 rfl ?_
    refine g_bipush (Y := Y_X5_counted) (pc' := 4) dX5_counted_2 rfl (by decide) ?_
    refine g_callSv (Y := Y_X5_counted) (s_X5_in 7 1 6 ⟨by decide, by decide⟩ ⟨by decide, by decide⟩ ⟨by decide, by decide⟩) (pc' := 7) dX5_counted_4 rfl cv_X5_54 rfl rfl rfl rfl rfl ?_
    refine g_if_eq (Y := Y_X5_counted) (t := 14) (pc' := 10) dX5_counted_7 (by decide) rfl ⟨by decide, by decide⟩ (fun h7 => ?_) (fun h7 => ?_)
    · refine g_iload1 (Y := Y_X5_counted) (pc' := 15) dX5_counted_14 rfl ?_
      refine g_tswIn (Y := Y_X5_counted) (t := 94) (off := 79) dX5_counted_15 ⟨by decide, by decide⟩ (by decide) (by decide) rfl (by decide) ?_
      refine g_aload0 (Y := Y_X5_counted) (pc' := 95) dX5_counted_94 rfl ?_
      refine g_getR (Y := Y_X5_counted) (pc' := 98) dX5_counted_95 rfl fl_X5_7 rfl (by first | exact t0 | exact t1 | exact r1 | exact t2 | exact t3 | exact t4 | exact t5 | exact t6 | exact t7 | exact t8 | exact t9 | exact t10 | exact t11 | exact t12 | exact t13 | exact r2 | exact r4 | exact r5 | exact r8 | exact r9 | exact r10 | exact r11 | exact r12 | exact r13 | exact r14 | exact r15 | exact r16) (by omega) (by first | exact t0 | exact t1 | exact r1 | exact t2 | exact t3 | exact t4 | exact t5 | exact t6 | exact t7 | exact t8 | exact t9 | exact t10 | exact t11 | exact t12 | exact t13 | exact r2 | exact r4 | exact r5 | exact r8 | exact r9 | exact r10 | exact r11 | exact r12 | exact r13 | exact r14 | exact r15 | exact r16) ?_
      refine g_iconst (Y := Y_X5_counted) (pc' := 99) dX5_counted_98 rfl ?_
      refine g_iald (Y := Y_X5_counted) (pc' := 100) dX5_counted_99 rfl (by first | exact t0 | exact t1 | exact r1 | exact t2 | exact t3 | exact t4 | exact t5 | exact t6 | exact t7 | exact t8 | exact t9 | exact t10 | exact t11 | exact t12 | exact t13 | exact r2 | exact r4 | exact r5 | exact r8 | exact r9 | exact r10 | exact r11 | exact r12 | exact r13 | exact r14 | exact r15 | exact r16) (by omega) (by decide) ⟨by omega, by omega⟩ ?_
      rw [show Int.toNat 4 = 4 from rfl]
      exact g_iret (Y := Y_X5_counted) dX5_counted_100 rfl (Nat.zero_le _) (Nat.zero_le _) (⟨rfl, rfl⟩)
    · exact absurd (by decide) h7
  · rw [ctI_f (w := ((8 : Nat) : Int)) (by decide), ctd_8]
    refine g_iload1 (Y := Y_X5_counted) (pc' := 1) dX5_counted_0 rfl ?_
    refine g_iconst (Y := Y_X5_counted) (pc' := 2) dX5_counted_1 rfl ?_
    refine g_bipush (Y := Y_X5_counted) (pc' := 4) dX5_counted_2 rfl (by decide) ?_
    refine g_callSv (Y := Y_X5_counted) (s_X5_in 8 1 6 ⟨by decide, by decide⟩ ⟨by decide, by decide⟩ ⟨by decide, by decide⟩) (pc' := 7) dX5_counted_4 rfl cv_X5_54 rfl rfl rfl rfl rfl ?_
    refine g_if_eq (Y := Y_X5_counted) (t := 14) (pc' := 10) dX5_counted_7 (by decide) rfl ⟨by decide, by decide⟩ (fun h7 => ?_) (fun h7 => ?_)
    · refine g_iload1 (Y := Y_X5_counted) (pc' := 15) dX5_counted_14 rfl ?_
      refine g_tswIn (Y := Y_X5_counted) (t := 101) (off := 86) dX5_counted_15 ⟨by decide, by decide⟩ (by decide) (by decide) rfl (by decide) ?_
      refine g_aload0 (Y := Y_X5_counted) (pc' := 102) dX5_counted_101 rfl ?_
      refine g_getR (Y := Y_X5_counted) (pc' := 105) dX5_counted_102 rfl fl_X5_7 rfl (by first | exact t0 | exact t1 | exact r1 | exact t2 | exact t3 | exact t4 | exact t5 | exact t6 | exact t7 | exact t8 | exact t9 | exact t10 | exact t11 | exact t12 | exact t13 | exact r2 | exact r4 | exact r5 | exact r8 | exact r9 | exact r10 | exact r11 | exact r12 | exact r13 | exact r14 | exact r15 | exact r16) (by omega) (by first | exact t0 | exact t1 | exact r1 | exact t2 | exact t3 | exact t4 | exact t5 | exact t6 | exact t7 | exact t8 | exact t9 | exact t10 | exact t11 | exact t12 | exact t13 | exact r2 | exact r4 | exact r5 | exact r8 | exact r9 | exact r10 | exact r11 | exact r12 | exact r13 | exact r14 | exact r15 | exact r16) ?_
      refine g_iconst (Y := Y_X5_counted) (pc' := 106) dX5_counted_105 rfl ?_
      refine g_iald (Y := Y_X5_counted) (pc' := 107) dX5_counted_106 rfl (by first | exact t0 | exact t1 | exact r1 | exact t2 | exact t3 | exact t4 | exact t5 | exact t6 | exact t7 | exact t8 | exact t9 | exact t10 | exact t11 | exact t12 | exact t13 | exact r2 | exact r4 | exact r5 | exact r8 | exact r9 | exact r10 | exact r11 | exact r12 | exact r13 | exact r14 | exact r15 | exact r16) (by omega) (by decide) ⟨by omega, by omega⟩ ?_
      rw [show Int.toNat 5 = 5 from rfl]
      exact g_iret (Y := Y_X5_counted) dX5_counted_107 rfl (Nat.zero_le _) (Nat.zero_le _) (⟨rfl, rfl⟩)
    · exact absurd (by decide) h7
  · rw [ctI_f (w := ((9 : Nat) : Int)) (by decide), ctd_9]
    refine g_iload1 (Y := Y_X5_counted) (pc' := 1) dX5_counted_0 rfl ?_
    refine g_iconst (Y := Y_X5_counted) (pc' := 2) dX5_counted_1 rfl ?_
    refine g_bipush (Y := Y_X5_counted) (pc' := 4) dX5_counted_2 rfl (by decide) ?_
    refine g_callSv (Y := Y_X5_counted) (s_X5_in 9 1 6 ⟨by decide, by decide⟩ ⟨by decide, by decide⟩ ⟨by decide, by decide⟩) (pc' := 7) dX5_counted_4 rfl cv_X5_54 rfl rfl rfl rfl rfl ?_
    refine g_if_eq (Y := Y_X5_counted) (t := 14) (pc' := 10) dX5_counted_7 (by decide) rfl ⟨by decide, by decide⟩ (fun h7 => ?_) (fun h7 => ?_)
    · refine g_iload1 (Y := Y_X5_counted) (pc' := 15) dX5_counted_14 rfl ?_
      refine g_tswOut (Y := Y_X5_counted) (t := 108) dX5_counted_15 ⟨by decide, by decide⟩ (by decide) (by decide) ?_
      refine g_aload0 (Y := Y_X5_counted) (pc' := 109) dX5_counted_108 rfl ?_
      refine g_getI (Y := Y_X5_counted) (pc' := 112) dX5_counted_109 rfl fl_X5_62 rfl (by first | exact t0 | exact t1 | exact r1 | exact t2 | exact t3 | exact t4 | exact t5 | exact t6 | exact t7 | exact t8 | exact t9 | exact t10 | exact t11 | exact t12 | exact t13 | exact r2 | exact r4 | exact r5 | exact r8 | exact r9 | exact r10 | exact r11 | exact r12 | exact r13 | exact r14 | exact r15 | exact r16) (by omega) ?_
      exact g_iret (Y := Y_X5_counted) dX5_counted_112 rfl (Nat.zero_le _) (Nat.zero_le _) (⟨rfl, rfl⟩)
    · exact absurd (by decide) h7
