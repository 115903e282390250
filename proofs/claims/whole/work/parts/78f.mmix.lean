/-! the reference: what it hashes of the map -/
set_option maxHeartbeats 2000000 in
set_option maxRecDepth 100000 in
theorem s_X5_mm_lp4 {l : Launch} {E : QE} {T : Nat → Nat × Nat} {I : Nat → Nat → Int} {J : Nat → Nat → Int64} {R : Nat → Nat → Option Nat} {n z : Nat} (hk : MdB T R n) (hz9 : ZV I) (hr9 : HR I) {x2 : Option Value} {K : Option Value → QW → Prop} : ∀ (f i : Nat) (h : Int64), i + f = 576 → (∀ L1 : Int, Go l E Y_X5_mixMap 0 0 112 [some (.ref (E.1 + 110)), some (.int (iz L1)), x2] [] (T, I, jh J (m_hAv I f i h), R, n, z) K) → Go l E Y_X5_mixMap 0 0 74 [some (.ref (E.1 + 110)), some (.int (iz (i : Int))), x2] [] (T, I, jh J (h), R, n, z) K := by
  have hk0 := hk
  obtain ⟨t0, t1, t2, t3, t4, t5, t6, t7, t8, t9, t10, t11, t12, t13, r1, r2, r4, r5, r8, r9, r10, r11, r12, r13, r14, r15, r16, hn⟩ := hk
  intro f
  induction f with
  | zero =>
    intro i h hf hend
    refine g_iload1 (Y := Y_X5_mixMap) (pc' := 75) dX5_mixMap_74 rfl ?_
    refine g_sipush (Y := Y_X5_mixMap) (pc' := 78) dX5_mixMap_75 rfl (by decide) ?_
    refine g_icmp_ge (Y := Y_X5_mixMap) (t := 112) (pc' := 81) dX5_mixMap_78 (by decide) rfl ⟨by omega, by omega⟩ ⟨by omega, by omega⟩ (fun h78 => ?_) (fun h78 => ?_)
    · exact hend _
    · exfalso; omega
  | succ f ih =>
    intro i h hf hend
    have av01 := m_isAv01 (I := I) (c := i)
    refine g_iload1 (Y := Y_X5_mixMap) (pc' := 75) dX5_mixMap_74 rfl ?_
    refine g_sipush (Y := Y_X5_mixMap) (pc' := 78) dX5_mixMap_75 rfl (by decide) ?_
    refine g_icmp_ge (Y := Y_X5_mixMap) (t := 112) (pc' := 81) dX5_mixMap_78 (by decide) rfl ⟨by omega, by omega⟩ ⟨by omega, by omega⟩ (fun h78 => ?_) (fun h78 => ?_)
    · exfalso; omega
    · refine g_aload0 (Y := Y_X5_mixMap) (pc' := 82) dX5_mixMap_81 rfl ?_
      refine g_iload1 (Y := Y_X5_mixMap) (pc' := 83) dX5_mixMap_82 rfl ?_
      refine g_callVv (Y := Y_X5_mixMap) (c := 5) (s_X5_isAvoided hk0 hr9 i (by omega)) (pc' := 86) dX5_mixMap_83 rfl cv_X5_207 rfl (by first | exact t0 | exact t1 | exact r1 | exact t2 | exact t3 | exact t4 | exact t5 | exact t6 | exact t7 | exact t8 | exact t9 | exact t10 | exact t11 | exact t12 | exact t13 | exact r2 | exact r4 | exact r5 | exact r8 | exact r9 | exact r10 | exact r11 | exact r12 | exact r13 | exact r14 | exact r15 | exact r16) (by show _ < n; omega) ⟨by decide, _, rfl, rfl⟩ rfl rfl rfl rfl ?_
      refine g_if_eq (Y := Y_X5_mixMap) (t := 106) (pc' := 89) dX5_mixMap_86 (by decide) rfl ⟨by omega, by omega⟩ (fun h86 => ?_) (fun h86 => ?_)
      · have e : m_hAv I (f + 1) i h = m_hAv I f (i + 1) (h) := if_pos h86
        rw [e] at hend
        clear e
        refine g_iinc1 (Y := Y_X5_mixMap) (pc' := 109) dX5_mixMap_106 rfl (Nat.le_of_ble_eq_true rfl) rfl ?_
        refine g_goto (Y := Y_X5_mixMap) (t := 74) dX5_mixMap_109 (by decide) ?_
        exact ih (i + 1) _ (by omega) hend
      · have e : m_hAv I (f + 1) i h = m_hAv I f (i + 1) (hx (hx h i) (I 121 i)) := if_neg h86
        rw [e] at hend
        clear e
        refine g_aload0 (Y := Y_X5_mixMap) (pc' := 90) dX5_mixMap_89 rfl ?_
        refine g_iload1 (Y := Y_X5_mixMap) (pc' := 91) dX5_mixMap_90 rfl ?_
        refine g_i2l (Y := Y_X5_mixMap) (pc' := 92) dX5_mixMap_91 rfl ?_
        refine g_callVn (Y := Y_X5_mixMap) (c := 5) (s_X5_mix hk0 _ _) (pc' := 95) dX5_mixMap_92 rfl cv_X5_267 rfl (by first | exact t0 | exact t1 | exact r1 | exact t2 | exact t3 | exact t4 | exact t5 | exact t6 | exact t7 | exact t8 | exact t9 | exact t10 | exact t11 | exact t12 | exact t13 | exact r2 | exact r4 | exact r5 | exact r8 | exact r9 | exact r10 | exact r11 | exact r12 | exact r13 | exact r14 | exact r15 | exact r16) (by show _ < n; omega) ⟨by decide, _, rfl, rfl⟩ rfl rfl rfl rfl ?_
        refine g_aload0 (Y := Y_X5_mixMap) (pc' := 96) dX5_mixMap_95 rfl ?_
        refine g_aload0 (Y := Y_X5_mixMap) (pc' := 97) dX5_mixMap_96 rfl ?_
        refine g_getR (Y := Y_X5_mixMap) (pc' := 100) dX5_mixMap_97 rfl fl_X5_40 rfl (by first | exact t0 | exact t1 | exact r1 | exact t2 | exact t3 | exact t4 | exact t5 | exact t6 | exact t7 | exact t8 | exact t9 | exact t10 | exact t11 | exact t12 | exact t13 | exact r2 | exact r4 | exact r5 | exact r8 | exact r9 | exact r10 | exact r11 | exact r12 | exact r13 | exact r14 | exact r15 | exact r16) (by omega) (by first | exact t0 | exact t1 | exact r1 | exact t2 | exact t3 | exact t4 | exact t5 | exact t6 | exact t7 | exact t8 | exact t9 | exact t10 | exact t11 | exact t12 | exact t13 | exact r2 | exact r4 | exact r5 | exact r8 | exact r9 | exact r10 | exact r11 | exact r12 | exact r13 | exact r14 | exact r15 | exact r16) ?_
        refine g_iload1 (Y := Y_X5_mixMap) (pc' := 101) dX5_mixMap_100 rfl ?_
        refine g_iald (Y := Y_X5_mixMap) (pc' := 102) dX5_mixMap_101 rfl (by first | exact t0 | exact t1 | exact r1 | exact t2 | exact t3 | exact t4 | exact t5 | exact t6 | exact t7 | exact t8 | exact t9 | exact t10 | exact t11 | exact t12 | exact t13 | exact r2 | exact r4 | exact r5 | exact r8 | exact r9 | exact r10 | exact r11 | exact r12 | exact r13 | exact r14 | exact r15 | exact r16) (by omega) (by decide) ⟨by omega, by omega⟩ ?_
        rw [show (i : Int).toNat = i from rfl]
        refine g_i2l (Y := Y_X5_mixMap) (pc' := 103) dX5_mixMap_102 rfl ?_
        refine g_callVn (Y := Y_X5_mixMap) (c := 5) (s_X5_mix hk0 _ _) (pc' := 106) dX5_mixMap_103 rfl cv_X5_267 rfl (by first | exact t0 | exact t1 | exact r1 | exact t2 | exact t3 | exact t4 | exact t5 | exact t6 | exact t7 | exact t8 | exact t9 | exact t10 | exact t11 | exact t12 | exact t13 | exact r2 | exact r4 | exact r5 | exact r8 | exact r9 | exact r10 | exact r11 | exact r12 | exact r13 | exact r14 | exact r15 | exact r16) (by show _ < n; omega) ⟨by decide, _, rfl, rfl⟩ rfl rfl rfl rfl ?_
        refine g_iinc1 (Y := Y_X5_mixMap) (pc' := 109) dX5_mixMap_106 rfl (Nat.le_of_ble_eq_true rfl) rfl ?_
        refine g_goto (Y := Y_X5_mixMap) (t := 74) dX5_mixMap_109 (by decide) ?_
        exact ih (i + 1) _ (by omega) hend
