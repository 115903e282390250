/-! the reference: what it hashes of the map -/
set_option maxHeartbeats 2000000 in
set_option maxRecDepth 100000 in
theorem s_X5_mm_lp5 {l : Launch} {E : QE} {T : Nat → Nat × Nat} {I : Nat → Nat → Int} {J : Nat → Nat → Int64} {R : Nat → Nat → Option Nat} {n z : Nat} (hk : MdB T R n) (hz9 : ZV I) {x2 : Option Value} : ∀ (f i : Nat) (h : Int64), i + f = 480 → Go l E Y_X5_mixMap 0 0 114 [some (.ref (E.1 + 110)), some (.int (iz (i : Int))), x2] [] (T, I, jh J (h), R, n, z) (KN (T, I, jh J (m_hBl I f i h), R, n, z)) := by
  have hk0 := hk
  obtain ⟨t0, t1, t2, t3, t4, t5, t6, t7, t8, t9, t10, t11, t12, t13, r1, r2, r4, r5, r8, r9, r10, r11, r12, r13, r14, r15, r16, hn⟩ := hk
  intro f
  induction f with
  | zero =>
    intro i h hf
    refine g_iload1 (Y := Y_X5_mixMap) (pc' := 115) dX5_mixMap_114 rfl ?_
    refine g_sipush (Y := Y_X5_mixMap) (pc' := 118) dX5_mixMap_115 rfl (by decide) ?_
    refine g_icmp_ge (Y := Y_X5_mixMap) (t := 166) (pc' := 121) dX5_mixMap_118 (by decide) rfl ⟨by omega, by omega⟩ ⟨by omega, by omega⟩ (fun h118 => ?_) (fun h118 => ?_)
    · exact g_vret (Y := Y_X5_mixMap) dX5_mixMap_166 rfl (Nat.zero_le _) (Nat.zero_le _) (⟨rfl, rfl⟩)
    · exfalso; omega
  | succ f ih =>
    intro i h hf
    have w9 := hz9.2.2.2.2.2.2.2.1 i (by omega)
    refine g_iload1 (Y := Y_X5_mixMap) (pc' := 115) dX5_mixMap_114 rfl ?_
    refine g_sipush (Y := Y_X5_mixMap) (pc' := 118) dX5_mixMap_115 rfl (by decide) ?_
    refine g_icmp_ge (Y := Y_X5_mixMap) (t := 166) (pc' := 121) dX5_mixMap_118 (by decide) rfl ⟨by omega, by omega⟩ ⟨by omega, by omega⟩ (fun h118 => ?_) (fun h118 => ?_)
    · exfalso; omega
    · refine g_aload0 (Y := Y_X5_mixMap) (pc' := 122) dX5_mixMap_121 rfl ?_
      refine g_iload1 (Y := Y_X5_mixMap) (pc' := 123) dX5_mixMap_122 rfl ?_
      refine g_callVv (Y := Y_X5_mixMap) (c := 5) (s_X5_where hk0 i (by omega)) (pc' := 126) dX5_mixMap_123 rfl cv_X5_111 rfl (by first | exact t0 | exact t1 | exact r1 | exact t2 | exact t3 | exact t4 | exact t5 | exact t6 | exact t7 | exact t8 | exact t9 | exact t10 | exact t11 | exact t12 | exact t13 | exact r2 | exact r4 | exact r5 | exact r8 | exact r9 | exact r10 | exact r11 | exact r12 | exact r13 | exact r14 | exact r15 | exact r16) (by show _ < n; omega) ⟨by decide, _, rfl, rfl⟩ rfl rfl rfl rfl ?_
      refine g_iconst (Y := Y_X5_mixMap) (pc' := 127) dX5_mixMap_126 rfl ?_
      refine g_icmp_eq (Y := Y_X5_mixMap) (t := 160) (pc' := 130) dX5_mixMap_127 (by decide) rfl ⟨by omega, by omega⟩ ⟨by omega, by omega⟩ (fun h127 => ?_) (fun h127 => ?_)
      · have e : m_hBl I (f + 1) i h = m_hBl I f (i + 1) h := if_pos h127
        rw [e]
        clear e
        refine g_iinc1 (Y := Y_X5_mixMap) (pc' := 163) dX5_mixMap_160 rfl (Nat.le_of_ble_eq_true rfl) rfl ?_
        refine g_goto (Y := Y_X5_mixMap) (t := 114) dX5_mixMap_163 (by decide) ?_
        exact ih (i + 1) _ (by omega)
      · have e : m_hBl I (f + 1) i h = m_hBl I f (i + 1) (hx (hx (hx h i) (I 111 (18 + i))) (I 111 (498 + i))) := if_neg h127
        rw [e]
        clear e
        refine g_aload0 (Y := Y_X5_mixMap) (pc' := 131) dX5_mixMap_130 rfl ?_
        refine g_iload1 (Y := Y_X5_mixMap) (pc' := 132) dX5_mixMap_131 rfl ?_
        refine g_i2l (Y := Y_X5_mixMap) (pc' := 133) dX5_mixMap_132 rfl ?_
        refine g_callVn (Y := Y_X5_mixMap) (c := 5) (s_X5_mix hk0 _ _) (pc' := 136) dX5_mixMap_133 rfl cv_X5_267 rfl (by first | exact t0 | exact t1 | exact r1 | exact t2 | exact t3 | exact t4 | exact t5 | exact t6 | exact t7 | exact t8 | exact t9 | exact t10 | exact t11 | exact t12 | exact t13 | exact r2 | exact r4 | exact r5 | exact r8 | exact r9 | exact r10 | exact r11 | exact r12 | exact r13 | exact r14 | exact r15 | exact r16) (by show _ < n; omega) ⟨by decide, _, rfl, rfl⟩ rfl rfl rfl rfl ?_
        refine g_aload0 (Y := Y_X5_mixMap) (pc' := 137) dX5_mixMap_136 rfl ?_
        refine g_aload0 (Y := Y_X5_mixMap) (pc' := 138) dX5_mixMap_137 rfl ?_
        refine g_getR (Y := Y_X5_mixMap) (pc' := 141) dX5_mixMap_138 rfl fl_X5_7 rfl (by first | exact t0 | exact t1 | exact r1 | exact t2 | exact t3 | exact t4 | exact t5 | exact t6 | exact t7 | exact t8 | exact t9 | exact t10 | exact t11 | exact t12 | exact t13 | exact r2 | exact r4 | exact r5 | exact r8 | exact r9 | exact r10 | exact r11 | exact r12 | exact r13 | exact r14 | exact r15 | exact r16) (by omega) (by first | exact t0 | exact t1 | exact r1 | exact t2 | exact t3 | exact t4 | exact t5 | exact t6 | exact t7 | exact t8 | exact t9 | exact t10 | exact t11 | exact t12 | exact t13 | exact r2 | exact r4 | exact r5 | exact r8 | exact r9 | exact r10 | exact r11 | exact r12 | exact r13 | exact r14 | exact r15 | exact r16) ?_
        refine g_bipush (Y := Y_X5_mixMap) (pc' := 143) dX5_mixMap_141 rfl (by decide) ?_
        refine g_iload1 (Y := Y_X5_mixMap) (pc' := 144) dX5_mixMap_143 rfl ?_
        refine g_iadd (Y := Y_X5_mixMap) (pc' := 145) dX5_mixMap_144 rfl ?_
        refine g_iald (Y := Y_X5_mixMap) (pc' := 146) dX5_mixMap_145 rfl (by first | exact t0 | exact t1 | exact r1 | exact t2 | exact t3 | exact t4 | exact t5 | exact t6 | exact t7 | exact t8 | exact t9 | exact t10 | exact t11 | exact t12 | exact t13 | exact r2 | exact r4 | exact r5 | exact r8 | exact r9 | exact r10 | exact r11 | exact r12 | exact r13 | exact r14 | exact r15 | exact r16) (by omega) (by decide) ⟨by omega, by omega⟩ ?_
        rw [show (18 + (i : Int)).toNat = 18 + i by omega]
        refine g_i2l (Y := Y_X5_mixMap) (pc' := 147) dX5_mixMap_146 rfl ?_
        refine g_callVn (Y := Y_X5_mixMap) (c := 5) (s_X5_mix hk0 _ _) (pc' := 150) dX5_mixMap_147 rfl cv_X5_267 rfl (by first | exact t0 | exact t1 | exact r1 | exact t2 | exact t3 | exact t4 | exact t5 | exact t6 | exact t7 | exact t8 | exact t9 | exact t10 | exact t11 | exact t12 | exact t13 | exact r2 | exact r4 | exact r5 | exact r8 | exact r9 | exact r10 | exact r11 | exact r12 | exact r13 | exact r14 | exact r15 | exact r16) (by show _ < n; omega) ⟨by decide, _, rfl, rfl⟩ rfl rfl rfl rfl ?_
        refine g_aload0 (Y := Y_X5_mixMap) (pc' := 151) dX5_mixMap_150 rfl ?_
        refine g_aload0 (Y := Y_X5_mixMap) (pc' := 152) dX5_mixMap_151 rfl ?_
        refine g_iload1 (Y := Y_X5_mixMap) (pc' := 153) dX5_mixMap_152 rfl ?_
        refine g_callVv (Y := Y_X5_mixMap) (c := 5) (s_X5_where hk0 i (by omega)) (pc' := 156) dX5_mixMap_153 rfl cv_X5_111 rfl (by first | exact t0 | exact t1 | exact r1 | exact t2 | exact t3 | exact t4 | exact t5 | exact t6 | exact t7 | exact t8 | exact t9 | exact t10 | exact t11 | exact t12 | exact t13 | exact r2 | exact r4 | exact r5 | exact r8 | exact r9 | exact r10 | exact r11 | exact r12 | exact r13 | exact r14 | exact r15 | exact r16) (by show _ < n; omega) ⟨by decide, _, rfl, rfl⟩ rfl rfl rfl rfl ?_
        refine g_i2l (Y := Y_X5_mixMap) (pc' := 157) dX5_mixMap_156 rfl ?_
        refine g_callVn (Y := Y_X5_mixMap) (c := 5) (s_X5_mix hk0 _ _) (pc' := 160) dX5_mixMap_157 rfl cv_X5_267 rfl (by first | exact t0 | exact t1 | exact r1 | exact t2 | exact t3 | exact t4 | exact t5 | exact t6 | exact t7 | exact t8 | exact t9 | exact t10 | exact t11 | exact t12 | exact t13 | exact r2 | exact r4 | exact r5 | exact r8 | exact r9 | exact r10 | exact r11 | exact r12 | exact r13 | exact r14 | exact r15 | exact r16) (by show _ < n; omega) ⟨by decide, _, rfl, rfl⟩ rfl rfl rfl rfl ?_
        refine g_iinc1 (Y := Y_X5_mixMap) (pc' := 163) dX5_mixMap_160 rfl (Nat.le_of_ble_eq_true rfl) rfl ?_
        refine g_goto (Y := Y_X5_mixMap) (t := 114) dX5_mixMap_163 (by decide) ?_
        exact ih (i + 1) _ (by omega)
