/-! the reference: what it tells -/
set_option maxHeartbeats 2000000 in
set_option maxRecDepth 100000 in
theorem s_X5_toldCell {l : Launch} {E : QE} {T : Nat → Nat × Nat} {I : Nat → Nat → Int} {J : Nat → Nat → Int64} {R : Nat → Nat → Option Nat} {n z : Nat} (hk : MdB T R n) (hz9 : ZV I) (hb9 : HB I) (c : Nat) (hc : c < 576) (w : Nat) (hw : w < 4) : SpV l E Y_X5_toldCell [.ref (E.1 + 110), .int (iz (c : Int)), .int (iz (w : Int))] (T, I, J, R, n, z) (.int (iz (m_tc I c w))) (T, m_tcI I w, J, R, n, z) := by
  have hk0 := hk
  obtain ⟨t0, t1, t2, t3, t4, t5, t6, t7, t8, t9, t10, t11, t12, t13, r1, r2, r4, r5, r8, r9, r10, r11, r12, r13, r14, r15, r16, hn⟩ := hk
  obtain ⟨z3, zs, zs0, zd, zt, zt2, zv, zw, zk⟩ := id hz9
  have hr9 := lay_HR hz9 hb9
  have hz8 := ZV_lay hz9
  obtain ⟨hr1, hr2⟩ := id hr9
  refine Sp.of [some (.ref (E.1 + 110)), some (.int (iz (c : Int))), some (.int (iz (w : Int)))] (by decide +kernel) (Nat.le_of_ble_eq_true rfl) (fun _ h => h) ?_
  rcases (show w = 0 ∨ w = 1 ∨ w = 2 ∨ w = 3 by omega) with rfl | rfl | rfl | rfl
  · refine g_iload2 (Y := Y_X5_toldCell) (pc' := 1) dX5_toldCell_0 rfl ?_
    refine g_iconst (Y := Y_X5_toldCell) (pc' := 2) dX5_toldCell_1 rfl ?_
    refine g_irem (Y := Y_X5_toldCell) (pc' := 3) dX5_toldCell_2 rfl ⟨by omega, by omega⟩ ⟨by omega, by omega⟩ (by omega) ?_
    refine g_iconst (Y := Y_X5_toldCell) (pc' := 4) dX5_toldCell_3 rfl ?_
    refine g_icmp_ne (Y := Y_X5_toldCell) (t := 26) (pc' := 7) dX5_toldCell_4 (by decide) rfl ⟨by decide, by decide⟩ ⟨by decide, by decide⟩ (fun h4 => ?_) (fun h4 => ?_)
    · refine g_aload0 (Y := Y_X5_toldCell) (pc' := 27) dX5_toldCell_26 rfl ?_
      refine g_callVn (Y := Y_X5_toldCell) (c := 5) (s_X5_lay hk0 hz9) (pc' := 30) dX5_toldCell_27 rfl cv_X5_130 rfl (by first | exact t0 | exact t1 | exact r1 | exact t2 | exact t3 | exact t4 | exact t5 | exact t6 | exact t7 | exact t8 | exact t9 | exact t10 | exact t11 | exact t12 | exact t13 | exact r2 | exact r4 | exact r5 | exact r8 | exact r9 | exact r10 | exact r11 | exact r12 | exact r13 | exact r14 | exact r15 | exact r16) (by show _ < n; omega) ⟨by decide, _, rfl, rfl⟩ rfl rfl rfl rfl ?_
      refine g_iload2 (Y := Y_X5_toldCell) (pc' := 31) dX5_toldCell_30 rfl ?_
      refine g_iconst (Y := Y_X5_toldCell) (pc' := 32) dX5_toldCell_31 rfl ?_
      refine g_icmp_ne (Y := Y_X5_toldCell) (t := 44) (pc' := 35) dX5_toldCell_32 (by decide) rfl ⟨by decide, by decide⟩ ⟨by decide, by decide⟩ (fun h32 => ?_) (fun h32 => ?_)
      · refine g_aload0 (Y := Y_X5_toldCell) (pc' := 45) dX5_toldCell_44 rfl ?_
        refine g_getR (Y := Y_X5_toldCell) (pc' := 48) dX5_toldCell_45 rfl fl_X5_43 rfl (by first | exact t0 | exact t1 | exact r1 | exact t2 | exact t3 | exact t4 | exact t5 | exact t6 | exact t7 | exact t8 | exact t9 | exact t10 | exact t11 | exact t12 | exact t13 | exact r2 | exact r4 | exact r5 | exact r8 | exact r9 | exact r10 | exact r11 | exact r12 | exact r13 | exact r14 | exact r15 | exact r16) (by omega) (by first | exact t0 | exact t1 | exact r1 | exact t2 | exact t3 | exact t4 | exact t5 | exact t6 | exact t7 | exact t8 | exact t9 | exact t10 | exact t11 | exact t12 | exact t13 | exact r2 | exact r4 | exact r5 | exact r8 | exact r9 | exact r10 | exact r11 | exact r12 | exact r13 | exact r14 | exact r15 | exact r16) ?_
        refine g_iload1 (Y := Y_X5_toldCell) (pc' := 49) dX5_toldCell_48 rfl ?_
        refine g_zald (Y := Y_X5_toldCell) (pc' := 50) dX5_toldCell_49 rfl (by first | exact t0 | exact t1 | exact r1 | exact t2 | exact t3 | exact t4 | exact t5 | exact t6 | exact t7 | exact t8 | exact t9 | exact t10 | exact t11 | exact t12 | exact t13 | exact r2 | exact r4 | exact r5 | exact r8 | exact r9 | exact r10 | exact r11 | exact r12 | exact r13 | exact r14 | exact r15 | exact r16) (by omega) (by decide) ⟨by omega, by omega⟩ ?_
        rw [show (c : Int).toNat = c from rfl]
        refine g_if_eq (Y := Y_X5_toldCell) (t := 57) (pc' := 53) dX5_toldCell_50 (by decide) rfl (by have := hr2 c; omega) (fun h50 => ?_) (fun h50 => ?_)
        · have h50b := h50
          refine g_aload0 (Y := Y_X5_toldCell) (pc' := 58) dX5_toldCell_57 rfl ?_
          refine g_getR (Y := Y_X5_toldCell) (pc' := 61) dX5_toldCell_58 rfl fl_X5_40 rfl (by first | exact t0 | exact t1 | exact r1 | exact t2 | exact t3 | exact t4 | exact t5 | exact t6 | exact t7 | exact t8 | exact t9 | exact t10 | exact t11 | exact t12 | exact t13 | exact r2 | exact r4 | exact r5 | exact r8 | exact r9 | exact r10 | exact r11 | exact r12 | exact r13 | exact r14 | exact r15 | exact r16) (by omega) (by first | exact t0 | exact t1 | exact r1 | exact t2 | exact t3 | exact t4 | exact t5 | exact t6 | exact t7 | exact t8 | exact t9 | exact t10 | exact t11 | exact t12 | exact t13 | exact r2 | exact r4 | exact r5 | exact r8 | exact r9 | exact r10 | exact r11 | exact r12 | exact r13 | exact r14 | exact r15 | exact r16) ?_
          refine g_iload1 (Y := Y_X5_toldCell) (pc' := 62) dX5_toldCell_61 rfl ?_
          refine g_iald (Y := Y_X5_toldCell) (pc' := 63) dX5_toldCell_62 rfl (by first | exact t0 | exact t1 | exact r1 | exact t2 | exact t3 | exact t4 | exact t5 | exact t6 | exact t7 | exact t8 | exact t9 | exact t10 | exact t11 | exact t12 | exact t13 | exact r2 | exact r4 | exact r5 | exact r8 | exact r9 | exact r10 | exact r11 | exact r12 | exact r13 | exact r14 | exact r15 | exact r16) (by omega) (by decide) ⟨by omega, by omega⟩ ?_
          rw [show (c : Int).toNat = c from rfl]
          refine g_if_le (Y := Y_X5_toldCell) (t := 70) (pc' := 66) dX5_toldCell_63 (by decide) rfl (by have := hr1 c; omega) (fun h63 => ?_) (fun h63 => ?_)
          · rw [show m_tc I c 0 = 0 from (if_pos h50).trans (if_neg (by omega))]
            refine g_iconst (Y := Y_X5_toldCell) (pc' := 71) dX5_toldCell_70 rfl ?_
            exact g_iret (Y := Y_X5_toldCell) dX5_toldCell_71 rfl (Nat.zero_le _) (Nat.zero_le _) (⟨rfl, rfl⟩)
          · rw [show m_tc I c 0 = 1 from (if_pos h50).trans (if_pos (by omega))]
            refine g_iconst (Y := Y_X5_toldCell) (pc' := 67) dX5_toldCell_66 rfl ?_
            refine g_goto (Y := Y_X5_toldCell) (t := 71) dX5_toldCell_67 (by decide) ?_
            exact g_iret (Y := Y_X5_toldCell) dX5_toldCell_71 rfl (Nat.zero_le _) (Nat.zero_le _) (⟨rfl, rfl⟩)
        · rw [show m_tc I c 0 = 2 from if_neg h50]
          refine g_iconst (Y := Y_X5_toldCell) (pc' := 54) dX5_toldCell_53 rfl ?_
          refine g_goto (Y := Y_X5_toldCell) (t := 71) dX5_toldCell_54 (by decide) ?_
          exact g_iret (Y := Y_X5_toldCell) dX5_toldCell_71 rfl (Nat.zero_le _) (Nat.zero_le _) (⟨rfl, rfl⟩)
      · exact absurd h32 (by decide)
    · exact absurd h4 (by decide)
  · refine g_iload2 (Y := Y_X5_toldCell) (pc' := 1) dX5_toldCell_0 rfl ?_
    refine g_iconst (Y := Y_X5_toldCell) (pc' := 2) dX5_toldCell_1 rfl ?_
    refine g_irem (Y := Y_X5_toldCell) (pc' := 3) dX5_toldCell_2 rfl ⟨by omega, by omega⟩ ⟨by omega, by omega⟩ (by omega) ?_
    refine g_iconst (Y := Y_X5_toldCell) (pc' := 4) dX5_toldCell_3 rfl ?_
    refine g_icmp_ne (Y := Y_X5_toldCell) (t := 26) (pc' := 7) dX5_toldCell_4 (by decide) rfl ⟨by decide, by decide⟩ ⟨by decide, by decide⟩ (fun h4 => ?_) (fun h4 => ?_)
    · exact absurd (by decide) h4
    · refine g_iload2 (Y := Y_X5_toldCell) (pc' := 8) dX5_toldCell_7 rfl ?_
      refine g_iconst (Y := Y_X5_toldCell) (pc' := 9) dX5_toldCell_8 rfl ?_
      refine g_icmp_ne (Y := Y_X5_toldCell) (t := 20) (pc' := 12) dX5_toldCell_9 (by decide) rfl ⟨by decide, by decide⟩ ⟨by decide, by decide⟩ (fun h9 => ?_) (fun h9 => ?_)
      · exact absurd (by decide) h9
      · refine g_aload0 (Y := Y_X5_toldCell) (pc' := 13) dX5_toldCell_12 rfl ?_
        refine g_iload1 (Y := Y_X5_toldCell) (pc' := 14) dX5_toldCell_13 rfl ?_
        refine g_callVv (Y := Y_X5_toldCell) (c := 5) (s_X5_taken hk0 c hc) (pc' := 17) dX5_toldCell_14 rfl cv_X5_108 rfl (by first | exact t0 | exact t1 | exact r1 | exact t2 | exact t3 | exact t4 | exact t5 | exact t6 | exact t7 | exact t8 | exact t9 | exact t10 | exact t11 | exact t12 | exact t13 | exact r2 | exact r4 | exact r5 | exact r8 | exact r9 | exact r10 | exact r11 | exact r12 | exact r13 | exact r14 | exact r15 | exact r16) (by show _ < n; omega) ⟨by decide, _, rfl, rfl⟩ rfl rfl rfl rfl ?_
        refine g_goto (Y := Y_X5_toldCell) (t := 25) dX5_toldCell_17 (by decide) ?_
        exact g_iret (Y := Y_X5_toldCell) dX5_toldCell_25 rfl (Nat.zero_le _) (Nat.zero_le _) (⟨rfl, rfl⟩)
  · refine g_iload2 (Y := Y_X5_toldCell) (pc' := 1) dX5_toldCell_0 rfl ?_
    refine g_iconst (Y := Y_X5_toldCell) (pc' := 2) dX5_toldCell_1 rfl ?_
    refine g_irem (Y := Y_X5_toldCell) (pc' := 3) dX5_toldCell_2 rfl ⟨by omega, by omega⟩ ⟨by omega, by omega⟩ (by omega) ?_
    refine g_iconst (Y := Y_X5_toldCell) (pc' := 4) dX5_toldCell_3 rfl ?_
    refine g_icmp_ne (Y := Y_X5_toldCell) (t := 26) (pc' := 7) dX5_toldCell_4 (by decide) rfl ⟨by decide, by decide⟩ ⟨by decide, by decide⟩ (fun h4 => ?_) (fun h4 => ?_)
    · refine g_aload0 (Y := Y_X5_toldCell) (pc' := 27) dX5_toldCell_26 rfl ?_
      refine g_callVn (Y := Y_X5_toldCell) (c := 5) (s_X5_lay hk0 hz9) (pc' := 30) dX5_toldCell_27 rfl cv_X5_130 rfl (by first | exact t0 | exact t1 | exact r1 | exact t2 | exact t3 | exact t4 | exact t5 | exact t6 | exact t7 | exact t8 | exact t9 | exact t10 | exact t11 | exact t12 | exact t13 | exact r2 | exact r4 | exact r5 | exact r8 | exact r9 | exact r10 | exact r11 | exact r12 | exact r13 | exact r14 | exact r15 | exact r16) (by show _ < n; omega) ⟨by decide, _, rfl, rfl⟩ rfl rfl rfl rfl ?_
      refine g_iload2 (Y := Y_X5_toldCell) (pc' := 31) dX5_toldCell_30 rfl ?_
      refine g_iconst (Y := Y_X5_toldCell) (pc' := 32) dX5_toldCell_31 rfl ?_
      refine g_icmp_ne (Y := Y_X5_toldCell) (t := 44) (pc' := 35) dX5_toldCell_32 (by decide) rfl ⟨by decide, by decide⟩ ⟨by decide, by decide⟩ (fun h32 => ?_) (fun h32 => ?_)
      · exact absurd (by decide) h32
      · refine g_aload0 (Y := Y_X5_toldCell) (pc' := 36) dX5_toldCell_35 rfl ?_
        refine g_getR (Y := Y_X5_toldCell) (pc' := 39) dX5_toldCell_36 rfl fl_X5_40 rfl (by first | exact t0 | exact t1 | exact r1 | exact t2 | exact t3 | exact t4 | exact t5 | exact t6 | exact t7 | exact t8 | exact t9 | exact t10 | exact t11 | exact t12 | exact t13 | exact r2 | exact r4 | exact r5 | exact r8 | exact r9 | exact r10 | exact r11 | exact r12 | exact r13 | exact r14 | exact r15 | exact r16) (by omega) (by first | exact t0 | exact t1 | exact r1 | exact t2 | exact t3 | exact t4 | exact t5 | exact t6 | exact t7 | exact t8 | exact t9 | exact t10 | exact t11 | exact t12 | exact t13 | exact r2 | exact r4 | exact r5 | exact r8 | exact r9 | exact r10 | exact r11 | exact r12 | exact r13 | exact r14 | exact r15 | exact r16) ?_
        refine g_iload1 (Y := Y_X5_toldCell) (pc' := 40) dX5_toldCell_39 rfl ?_
        refine g_iald (Y := Y_X5_toldCell) (pc' := 41) dX5_toldCell_40 rfl (by first | exact t0 | exact t1 | exact r1 | exact t2 | exact t3 | exact t4 | exact t5 | exact t6 | exact t7 | exact t8 | exact t9 | exact t10 | exact t11 | exact t12 | exact t13 | exact r2 | exact r4 | exact r5 | exact r8 | exact r9 | exact r10 | exact r11 | exact r12 | exact r13 | exact r14 | exact r15 | exact r16) (by omega) (by decide) ⟨by omega, by omega⟩ ?_
        rw [show (c : Int).toNat = c from rfl]
        refine g_goto (Y := Y_X5_toldCell) (t := 71) dX5_toldCell_41 (by decide) ?_
        exact g_iret (Y := Y_X5_toldCell) dX5_toldCell_71 rfl (Nat.zero_le _) (Nat.zero_le _) (⟨rfl, rfl⟩)
    · exact absurd h4 (by decide)
  · refine g_iload2 (Y := Y_X5_toldCell) (pc' := 1) dX5_toldCell_0 rfl ?_
    refine g_iconst (Y := Y_X5_toldCell) (pc' := 2) dX5_toldCell_1 rfl ?_
    refine g_irem (Y := Y_X5_toldCell) (pc' := 3) dX5_toldCell_2 rfl ⟨by omega, by omega⟩ ⟨by omega, by omega⟩ (by omega) ?_
    refine g_iconst (Y := Y_X5_toldCell) (pc' := 4) dX5_toldCell_3 rfl ?_
    refine g_icmp_ne (Y := Y_X5_toldCell) (t := 26) (pc' := 7) dX5_toldCell_4 (by decide) rfl ⟨by decide, by decide⟩ ⟨by decide, by decide⟩ (fun h4 => ?_) (fun h4 => ?_)
    · exact absurd (by decide) h4
    · refine g_iload2 (Y := Y_X5_toldCell) (pc' := 8) dX5_toldCell_7 rfl ?_
      refine g_iconst (Y := Y_X5_toldCell) (pc' := 9) dX5_toldCell_8 rfl ?_
      refine g_icmp_ne (Y := Y_X5_toldCell) (t := 20) (pc' := 12) dX5_toldCell_9 (by decide) rfl ⟨by decide, by decide⟩ ⟨by decide, by decide⟩ (fun h9 => ?_) (fun h9 => ?_)
      · refine g_aload0 (Y := Y_X5_toldCell) (pc' := 21) dX5_toldCell_20 rfl ?_
        refine g_iload1 (Y := Y_X5_toldCell) (pc' := 22) dX5_toldCell_21 rfl ?_
        refine g_callVv (Y := Y_X5_toldCell) (c := 5) (s_X5_spotAt hk0 hz9 (c : Int) ⟨by omega, by omega⟩) (pc' := 25) dX5_toldCell_22 rfl cv_X5_143 rfl (by first | exact t0 | exact t1 | exact r1 | exact t2 | exact t3 | exact t4 | exact t5 | exact t6 | exact t7 | exact t8 | exact t9 | exact t10 | exact t11 | exact t12 | exact t13 | exact r2 | exact r4 | exact r5 | exact r8 | exact r9 | exact r10 | exact r11 | exact r12 | exact r13 | exact r14 | exact r15 | exact r16) (by show _ < n; omega) ⟨by decide, _, rfl, rfl⟩ rfl rfl rfl rfl ?_
        exact g_iret (Y := Y_X5_toldCell) dX5_toldCell_25 rfl (Nat.zero_le _) (Nat.zero_le _) (⟨rfl, rfl⟩)
      · exact absurd h9 (by decide)
