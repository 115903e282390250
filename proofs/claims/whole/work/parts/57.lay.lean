/-! the reference: its map is laid -/
set_option maxHeartbeats 2000000 in
set_option maxRecDepth 100000 in
theorem s_X5_lay_a2 {l : Launch} {E : QE} {T : Nat → Nat × Nat} {J : Nat → Nat → Int64} {R : Nat → Nat → Option Nat} {n z : Nat} (hk : MdB T R n) {nn i : Nat} {x3 : Option Value} {K : Option Value → QW → Prop} : ∀ (f j : Nat) (I : Nat → Nat → Int) (B : Int), AInv nn I B → B + f ≤ 66 → i < j → j + f = nn → (∀ L2 : Int, Go l E Y_X5_lay 0 0 43 [some (.ref (E.1 + 110)), some (.int (iz (i : Int))), some (.int (iz L2)), x3] [] (T, (m_a2 i f j I), J, R, n, z) K) → Go l E Y_X5_lay 0 0 21 [some (.ref (E.1 + 110)), some (.int (iz (i : Int))), some (.int (iz (j : Int))), x3] [] (T, I, J, R, n, z) K := by
  have hk0 := hk
  obtain ⟨t0, t1, t2, t3, t4, t5, t6, t7, t8, t9, t10, t11, t12, t13, r1, r2, r4, r5, r8, r9, r10, r11, r12, r13, r14, r15, r16, hn⟩ := hk
  intro f
  induction f with
  | zero =>
    intro j I B ha hB hij hf hend
    obtain ⟨hz9, hn3, hL, hq⟩ := id ha
    have z3 := hz9.1
    refine g_iload2 (Y := Y_X5_lay) (pc' := 22) dX5_lay_21 rfl ?_
    refine g_aload0 (Y := Y_X5_lay) (pc' := 23) dX5_lay_22 rfl ?_
    refine g_getR (Y := Y_X5_lay) (pc' := 26) dX5_lay_23 rfl fl_X5_7 rfl (by assumption) (by omega) (by assumption) ?_
    refine g_iconst (Y := Y_X5_lay) (pc' := 27) dX5_lay_26 rfl ?_
    refine g_iald (Y := Y_X5_lay) (pc' := 28) dX5_lay_27 rfl (by assumption) (by omega) (by decide) ⟨by omega, by omega⟩ ?_
    rw [show Int.toNat 3 = 3 from rfl]
    refine g_icmp_ge (Y := Y_X5_lay) (t := 43) (pc' := 31) dX5_lay_28 (by decide) rfl ⟨by omega, by omega⟩ ⟨by omega, by omega⟩ (fun h28 => ?_) (fun h28 => ?_)
    · exact hend _
    · exfalso; omega
  | succ f ih =>
    intro j I B ha hB hij hf hend
    obtain ⟨hz9, hn3, hL, hq⟩ := id ha
    have z3 := hz9.1
    refine g_iload2 (Y := Y_X5_lay) (pc' := 22) dX5_lay_21 rfl ?_
    refine g_aload0 (Y := Y_X5_lay) (pc' := 23) dX5_lay_22 rfl ?_
    refine g_getR (Y := Y_X5_lay) (pc' := 26) dX5_lay_23 rfl fl_X5_7 rfl (by assumption) (by omega) (by assumption) ?_
    refine g_iconst (Y := Y_X5_lay) (pc' := 27) dX5_lay_26 rfl ?_
    refine g_iald (Y := Y_X5_lay) (pc' := 28) dX5_lay_27 rfl (by assumption) (by omega) (by decide) ⟨by omega, by omega⟩ ?_
    rw [show Int.toNat 3 = 3 from rfl]
    refine g_icmp_ge (Y := Y_X5_lay) (t := 43) (pc' := 31) dX5_lay_28 (by decide) rfl ⟨by omega, by omega⟩ ⟨by omega, by omega⟩ (fun h28 => ?_) (fun h28 => ?_)
    · exfalso; omega
    · refine g_aload0 (Y := Y_X5_lay) (pc' := 32) dX5_lay_31 rfl ?_
      refine g_iload1 (Y := Y_X5_lay) (pc' := 33) dX5_lay_32 rfl ?_
      refine g_iload2 (Y := Y_X5_lay) (pc' := 34) dX5_lay_33 rfl ?_
      refine g_callVn (Y := Y_X5_lay) (c := 5) (s_X5_layLine hk0 hz9 (by omega) i j hij (by omega)) (pc' := 37) dX5_lay_34 rfl cv_X5_97 rfl (by assumption) (by show _ < n; omega) ⟨by decide, _, rfl, rfl⟩ rfl rfl rfl rfl ?_
      refine g_iinc2 (Y := Y_X5_lay) (pc' := 40) dX5_lay_37 rfl (Nat.le_of_ble_eq_true rfl) rfl ?_
      refine g_goto (Y := Y_X5_lay) (t := 21) dX5_lay_40 (by decide) ?_
      exact ih (j + 1) _ (B + 1) (AInv_1 ha (by omega) hij (by omega)) (by omega) (by omega) (by omega) hend
set_option maxHeartbeats 2000000 in
set_option maxRecDepth 100000 in
theorem s_X5_lay_a1 {l : Launch} {E : QE} {T : Nat → Nat × Nat} {J : Nat → Nat → Int64} {R : Nat → Nat → Option Nat} {n z : Nat} (hk : MdB T R n) {nn : Nat} {x3 : Option Value} {K : Option Value → QW → Prop} : ∀ (f i : Nat) (I : Nat → Nat → Int) (B : Int) (x2 : Option Value), AInv nn I B → B + tri f ≤ 66 → i + f = nn → (∀ (L1 : Int) (x2 : Option Value), Go l E Y_X5_lay 0 0 49 [some (.ref (E.1 + 110)), some (.int (iz L1)), x2, x3] [] (T, (m_a1 f i I), J, R, n, z) K) → Go l E Y_X5_lay 0 0 7 [some (.ref (E.1 + 110)), some (.int (iz (i : Int))), x2, x3] [] (T, I, J, R, n, z) K := by
  have hk0 := hk
  obtain ⟨t0, t1, t2, t3, t4, t5, t6, t7, t8, t9, t10, t11, t12, t13, r1, r2, r4, r5, r8, r9, r10, r11, r12, r13, r14, r15, r16, hn⟩ := hk
  intro f
  induction f with
  | zero =>
    intro i I B x2 ha hB hf hend
    obtain ⟨hz9, hn3, hL, hq⟩ := id ha
    have z3 := hz9.1
    refine g_iload1 (Y := Y_X5_lay) (pc' := 8) dX5_lay_7 rfl ?_
    refine g_aload0 (Y := Y_X5_lay) (pc' := 9) dX5_lay_8 rfl ?_
    refine g_getR (Y := Y_X5_lay) (pc' := 12) dX5_lay_9 rfl fl_X5_7 rfl (by assumption) (by omega) (by assumption) ?_
    refine g_iconst (Y := Y_X5_lay) (pc' := 13) dX5_lay_12 rfl ?_
    refine g_iald (Y := Y_X5_lay) (pc' := 14) dX5_lay_13 rfl (by assumption) (by omega) (by decide) ⟨by omega, by omega⟩ ?_
    rw [show Int.toNat 3 = 3 from rfl]
    refine g_icmp_ge (Y := Y_X5_lay) (t := 49) (pc' := 17) dX5_lay_14 (by decide) rfl ⟨by omega, by omega⟩ ⟨by omega, by omega⟩ (fun h14 => ?_) (fun h14 => ?_)
    · exact hend _ _
    · exfalso; omega
  | succ f ih =>
    intro i I B x2 ha hB hf hend
    obtain ⟨hz9, hn3, hL, hq⟩ := id ha
    have z3 := hz9.1
    have et : tri (f + 1) = tri f + f := rfl
    refine g_iload1 (Y := Y_X5_lay) (pc' := 8) dX5_lay_7 rfl ?_
    refine g_aload0 (Y := Y_X5_lay) (pc' := 9) dX5_lay_8 rfl ?_
    refine g_getR (Y := Y_X5_lay) (pc' := 12) dX5_lay_9 rfl fl_X5_7 rfl (by assumption) (by omega) (by assumption) ?_
    refine g_iconst (Y := Y_X5_lay) (pc' := 13) dX5_lay_12 rfl ?_
    refine g_iald (Y := Y_X5_lay) (pc' := 14) dX5_lay_13 rfl (by assumption) (by omega) (by decide) ⟨by omega, by omega⟩ ?_
    rw [show Int.toNat 3 = 3 from rfl]
    refine g_icmp_ge (Y := Y_X5_lay) (t := 49) (pc' := 17) dX5_lay_14 (by decide) rfl ⟨by omega, by omega⟩ ⟨by omega, by omega⟩ (fun h14 => ?_) (fun h14 => ?_)
    · exfalso; omega
    · refine g_iload1 (Y := Y_X5_lay) (pc' := 18) dX5_lay_17 rfl ?_
      refine g_iconst (Y := Y_X5_lay) (pc' := 19) dX5_lay_18 rfl ?_
      refine g_iadd (Y := Y_X5_lay) (pc' := 20) dX5_lay_19 rfl ?_
      refine g_istore2 (Y := Y_X5_lay) (pc' := 21) dX5_lay_20 rfl (Nat.le_of_ble_eq_true rfl) rfl ?_
      refine s_X5_lay_a2 hk0 (i := i) f (i + 1) I B ha (by omega) (by omega) (by omega) (fun L2 => ?_)
      refine g_iinc1 (Y := Y_X5_lay) (pc' := 46) dX5_lay_43 rfl (Nat.le_of_ble_eq_true rfl) rfl ?_
      refine g_goto (Y := Y_X5_lay) (t := 7) dX5_lay_46 (by decide) ?_
      exact ih (i + 1) _ (B + f) _ (AInv_2 (nn := nn) (i := i) f (i + 1) I B ha (by omega) (by omega) (by omega)) (by omega) (by omega) hend
def m_lb : Nat → Nat → (Nat → Nat → Int) → Nat → Nat → Int
  | 0, _, I => I
  | f + 1, c, I => m_lb f (c + 1) (u2 (u2 I 121 c 0) 122 c 0)
def m_lc : Nat → Nat → (Nat → Nat → Int) → Nat → Nat → Int
  | 0, _, I => I
  | f + 1, k, I => m_lc f (k + 1) (u2 I 122 (I 111 (6 + k)).toNat 1)
set_option maxHeartbeats 2000000 in
set_option maxRecDepth 100000 in
theorem s_X5_lay_b {l : Launch} {E : QE} {T : Nat → Nat × Nat} {J : Nat → Nat → Int64} {R : Nat → Nat → Option Nat} {n z : Nat} (hk : MdB T R n) {x2 x3 : Option Value} {K : Option Value → QW → Prop} : ∀ (f c : Nat) (I : Nat → Nat → Int), c + f = 576 → (∀ L1 : Int, Go l E Y_X5_lay 0 0 78 [some (.ref (E.1 + 110)), some (.int (iz L1)), x2, x3] [] (T, (m_lb f c I), J, R, n, z) K) → Go l E Y_X5_lay 0 0 51 [some (.ref (E.1 + 110)), some (.int (iz (c : Int))), x2, x3] [] (T, I, J, R, n, z) K := by
  have hk0 := hk
  obtain ⟨t0, t1, t2, t3, t4, t5, t6, t7, t8, t9, t10, t11, t12, t13, r1, r2, r4, r5, r8, r9, r10, r11, r12, r13, r14, r15, r16, hn⟩ := hk
  intro f
  induction f with
  | zero =>
    intro c I hf hend
    refine g_iload1 (Y := Y_X5_lay) (pc' := 52) dX5_lay_51 rfl ?_
    refine g_sipush (Y := Y_X5_lay) (pc' := 55) dX5_lay_52 rfl (by decide) ?_
    refine g_icmp_ge (Y := Y_X5_lay) (t := 78) (pc' := 58) dX5_lay_55 (by decide) rfl ⟨by omega, by omega⟩ ⟨by omega, by omega⟩ (fun h55 => ?_) (fun h55 => ?_)
    · exact hend _
    · exfalso; omega
  | succ f ih =>
    intro c I hf hend
    refine g_iload1 (Y := Y_X5_lay) (pc' := 52) dX5_lay_51 rfl ?_
    refine g_sipush (Y := Y_X5_lay) (pc' := 55) dX5_lay_52 rfl (by decide) ?_
    refine g_icmp_ge (Y := Y_X5_lay) (t := 78) (pc' := 58) dX5_lay_55 (by decide) rfl ⟨by omega, by omega⟩ ⟨by omega, by omega⟩ (fun h55 => ?_) (fun h55 => ?_)
    · exfalso; omega
    · refine g_aload0 (Y := Y_X5_lay) (pc' := 59) dX5_lay_58 rfl ?_
      refine g_getR (Y := Y_X5_lay) (pc' := 62) dX5_lay_59 rfl fl_X5_40 rfl (by assumption) (by omega) (by assumption) ?_
      refine g_iload1 (Y := Y_X5_lay) (pc' := 63) dX5_lay_62 rfl ?_
      refine g_iconst (Y := Y_X5_lay) (pc' := 64) dX5_lay_63 rfl ?_
      refine g_iast (Y := Y_X5_lay) (pc' := 65) dX5_lay_64 rfl (by assumption) (by omega) (by decide) ⟨by omega, by omega⟩ ?_
      refine g_aload0 (Y := Y_X5_lay) (pc' := 66) dX5_lay_65 rfl ?_
      refine g_getR (Y := Y_X5_lay) (pc' := 69) dX5_lay_66 rfl fl_X5_43 rfl (by assumption) (by omega) (by assumption) ?_
      refine g_iload1 (Y := Y_X5_lay) (pc' := 70) dX5_lay_69 rfl ?_
      refine g_iconst (Y := Y_X5_lay) (pc' := 71) dX5_lay_70 rfl ?_
      refine g_zast (Y := Y_X5_lay) (pc' := 72) dX5_lay_71 rfl (by assumption) (by omega) (by decide) ⟨by omega, by omega⟩ (by decide) ?_
      refine g_iinc1 (Y := Y_X5_lay) (pc' := 75) dX5_lay_72 rfl (Nat.le_of_ble_eq_true rfl) rfl ?_
      refine g_goto (Y := Y_X5_lay) (t := 51) dX5_lay_75 (by decide) ?_
      exact ih (c + 1) _ (by omega) hend
set_option maxHeartbeats 2000000 in
set_option maxRecDepth 100000 in
theorem s_X5_lay_c {l : Launch} {E : QE} {T : Nat → Nat × Nat} {J : Nat → Nat → Int64} {R : Nat → Nat → Option Nat} {n z : Nat} (hk : MdB T R n) {x2 x3 : Option Value} {K : Option Value → QW → Prop} : ∀ (f k9 : Nat) (I : Nat → Nat → Int), ZV I → k9 + f = (I 111 3).toNat → (∀ L1 : Int, Go l E Y_X5_lay 0 0 107 [some (.ref (E.1 + 110)), some (.int (iz L1)), x2, x3] [] (T, (m_lc f k9 I), J, R, n, z) K) → Go l E Y_X5_lay 0 0 80 [some (.ref (E.1 + 110)), some (.int (iz (k9 : Int))), x2, x3] [] (T, I, J, R, n, z) K := by
  have hk0 := hk
  obtain ⟨t0, t1, t2, t3, t4, t5, t6, t7, t8, t9, t10, t11, t12, t13, r1, r2, r4, r5, r8, r9, r10, r11, r12, r13, r14, r15, r16, hn⟩ := hk
  intro f
  induction f with
  | zero =>
    intro k9 I hz9 hf hend
    have z3 := hz9.1
    refine g_iload1 (Y := Y_X5_lay) (pc' := 81) dX5_lay_80 rfl ?_
    refine g_aload0 (Y := Y_X5_lay) (pc' := 82) dX5_lay_81 rfl ?_
    refine g_getR (Y := Y_X5_lay) (pc' := 85) dX5_lay_82 rfl fl_X5_7 rfl (by assumption) (by omega) (by assumption) ?_
    refine g_iconst (Y := Y_X5_lay) (pc' := 86) dX5_lay_85 rfl ?_
    refine g_iald (Y := Y_X5_lay) (pc' := 87) dX5_lay_86 rfl (by assumption) (by omega) (by decide) ⟨by omega, by omega⟩ ?_
    rw [show Int.toNat 3 = 3 from rfl]
    refine g_icmp_ge (Y := Y_X5_lay) (t := 107) (pc' := 90) dX5_lay_87 (by decide) rfl ⟨by omega, by omega⟩ ⟨by omega, by omega⟩ (fun h87 => ?_) (fun h87 => ?_)
    · exact hend _
    · exfalso; omega
  | succ f ih =>
    intro k9 I hz9 hf hend
    have z3 := hz9.1
    have zsk := hz9.2.1 k9 (by omega)
    have zs0 := hz9.2.2.1 k9 (by omega)
    have e1 : u2 I 122 (I 111 (6 + k9)).toNat 1 111 = I 111 := u2_ne (by decide)
    refine g_iload1 (Y := Y_X5_lay) (pc' := 81) dX5_lay_80 rfl ?_
    refine g_aload0 (Y := Y_X5_lay) (pc' := 82) dX5_lay_81 rfl ?_
    refine g_getR (Y := Y_X5_lay) (pc' := 85) dX5_lay_82 rfl fl_X5_7 rfl (by assumption) (by omega) (by assumption) ?_
    refine g_iconst (Y := Y_X5_lay) (pc' := 86) dX5_lay_85 rfl ?_
    refine g_iald (Y := Y_X5_lay) (pc' := 87) dX5_lay_86 rfl (by assumption) (by omega) (by decide) ⟨by omega, by omega⟩ ?_
    rw [show Int.toNat 3 = 3 from rfl]
    refine g_icmp_ge (Y := Y_X5_lay) (t := 107) (pc' := 90) dX5_lay_87 (by decide) rfl ⟨by omega, by omega⟩ ⟨by omega, by omega⟩ (fun h87 => ?_) (fun h87 => ?_)
    · exfalso; omega
    · refine g_aload0 (Y := Y_X5_lay) (pc' := 91) dX5_lay_90 rfl ?_
      refine g_getR (Y := Y_X5_lay) (pc' := 94) dX5_lay_91 rfl fl_X5_43 rfl (by assumption) (by omega) (by assumption) ?_
      refine g_aload0 (Y := Y_X5_lay) (pc' := 95) dX5_lay_94 rfl ?_
      refine g_iload1 (Y := Y_X5_lay) (pc' := 96) dX5_lay_95 rfl ?_
      refine g_callVv (Y := Y_X5_lay) (c := 5) (s_X5_spot hk0 k9 (by omega)) (pc' := 99) dX5_lay_96 rfl cv_X5_58 rfl (by assumption) (by show _ < n; omega) ⟨by decide, _, rfl, rfl⟩ rfl rfl rfl rfl ?_
      refine g_iconst (Y := Y_X5_lay) (pc' := 100) dX5_lay_99 rfl ?_
      refine g_zast (Y := Y_X5_lay) (pc' := 101) dX5_lay_100 rfl (by assumption) (by omega) (by decide) ⟨by omega, by omega⟩ (by decide) ?_
      refine g_iinc1 (Y := Y_X5_lay) (pc' := 104) dX5_lay_101 rfl (Nat.le_of_ble_eq_true rfl) rfl ?_
      refine g_goto (Y := Y_X5_lay) (t := 80) dX5_lay_104 (by decide) ?_
      exact ih (k9 + 1) _ (ZV_ne hz9 e1) (by rw [e1]; omega) hend
