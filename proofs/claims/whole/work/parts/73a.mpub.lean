/-! the reference: what else changes it -/
def y_end (I : Nat → Nat → Int) : Int × (Nat → Nat → Int) := (m_lay I 110 7, m_lay I)
def y_fail (I : Nat → Nat → Int) (p q : Int) : Int × (Nat → Nat → Int) := if (0 ≤ p ∧ p ≤ 23) ∧ 0 ≤ q ∧ q ≤ 23 then (if m_can I (24 * p + q) = 0 then (0, m_thr I 2) else y_end (m_failIt (m_sav1 I) (24 * p + q).toNat)) else (0, m_thr I 1)
def y_heal (I : Nat → Nat → Int) (p q : Int) : Int × (Nat → Nat → Int) := if (0 ≤ p ∧ p ≤ 23) ∧ 0 ≤ q ∧ q ≤ 23 then (if m_spotAt I (24 * p + q) = -1 then (0, m_thr I 2) else y_end (m_healIt (m_sav1 I) (24 * p + q))) else (0, m_thr I 1)
def y_tidy (I : Nat → Nat → Int) (p : Int) : Int × (Nat → Nat → Int) := if 1 ≤ p ∧ p ≤ 99 then m_tidyUp (m_sav1 I) p else (0, m_thr I 1)
def m_lo (s : Int) : Int := if s = 0 then 3 else if s = 1 then 1 else 0
def m_hi (s : Int) : Int := if s = 1 then 8 else 6
def y_set (I : Nat → Nat → Int) (p v : Int) : Int × (Nat → Nat → Int) := if 0 ≤ p ∧ p ≤ 2 then (if m_lo p ≤ v ∧ v ≤ m_hi p then (m_sav1 I 111 p.toNat, u2 (m_sav1 I) 111 p.toNat v) else (0, m_thr I 2)) else (0, m_thr I 1)
def m_typ (I : Nat → Nat → Int) (p : Int) : Nat → Nat → Int := u2 I 114 (I 110 6).toNat p
def m_ty2 (I : Nat → Nat → Int) : Nat → Nat → Int := u2 I 110 6 (I 110 6 + 1)
def y_append (I : Nat → Nat → Int) (p : Int) : Int × (Nat → Nat → Int) := if 33 ≤ p ∧ p ≤ 126 then (if I 110 6 = 60 then (0, m_thr I 2) else (m_ty2 (m_typ (m_thr I 0) p) 110 6, m_ty2 (m_typ (m_thr I 0) p))) else (0, m_thr I 1)
set_option maxHeartbeats 2000000 in
set_option maxRecDepth 100000 in
theorem s_X5_fail {l : Launch} {E : QE} {T : Nat → Nat × Nat} {I : Nat → Nat → Int} {J : Nat → Nat → Int64} {R : Nat → Nat → Option Nat} {n z : Nat} (hk : MdB T R n) (hm9 : MV I) (p : Int) (h_p : -2147483648 ≤ p ∧ p < 2147483648) (q : Int) (h_q : -2147483648 ≤ q ∧ q < 2147483648)  : SpV l E Y_X5_fail [.ref (E.1 + 110), .int (iz p), .int (iz q)] (T, I, J, R, n, z) (.int (iz (y_fail I p q).1)) (T, (y_fail I p q).2, J, R, n, z) := by
  have hk0 := hk
  obtain ⟨t0, t1, t2, t3, t4, t5, t6, t7, t8, t9, t10, t11, t12, t13, r1, r2, r4, r5, r8, r9, r10, r11, r12, r13, r14, r15, r16, hn⟩ := hk
  obtain ⟨hz9, hb9, hv9, h3, hsv9⟩ := id hm9
  obtain ⟨z3, zs, zs0, zd, zt, zt2, zv, zw, zk⟩ := id hz9
  have hz1 := sav1_ZV hz9
  have hb1 := sav1_HB hb9
  have e111 : m_sav1 I 111 = I 111 := sav1_111 (by decide) (by decide)
  refine Sp.of [some (.ref (E.1 + 110)), some (.int (iz p)), some (.int (iz q))] (by decide +kernel) (Nat.le_of_ble_eq_true rfl) (fun _ h => h) ?_
  refine g_aload0 (Y := Y_X5_fail) (pc' := 1) dX5_fail_0 rfl ?_
  refine g_iload1 (Y := Y_X5_fail) (pc' := 2) dX5_fail_1 rfl ?_
  refine g_iload2 (Y := Y_X5_fail) (pc' := 3) dX5_fail_2 rfl ?_
  refine g_callSv (Y := Y_X5_fail) (s_X5_isPlace p q h_p h_q) (pc' := 6) dX5_fail_3 rfl cv_X5_94 rfl rfl rfl rfl rfl ?_
  refine g_if_ne (Y := Y_X5_fail) (t := 13) (pc' := 9) dX5_fail_6 (by decide) rfl ⟨by omega, by omega⟩ (fun h6 => ?_) (fun h6 => ?_)
  · have hb := ifb_t h6
    have c01 := m_can01 (I := I) (x := 24 * p + q)
    refine g_aload0 (Y := Y_X5_fail) (pc' := 14) dX5_fail_13 rfl ?_
    refine g_bipush (Y := Y_X5_fail) (pc' := 16) dX5_fail_14 rfl (by decide) ?_
    refine g_iload1 (Y := Y_X5_fail) (pc' := 17) dX5_fail_16 rfl ?_
    refine g_imul (Y := Y_X5_fail) (pc' := 18) dX5_fail_17 rfl ?_
    refine g_iload2 (Y := Y_X5_fail) (pc' := 19) dX5_fail_18 rfl ?_
    refine g_iadd (Y := Y_X5_fail) (pc' := 20) dX5_fail_19 rfl ?_
    refine g_callVv (Y := Y_X5_fail) (c := 5) (s_X5_canFail hk0 hz9 (24 * p + q) ⟨by omega, by omega⟩) (pc' := 23) dX5_fail_20 rfl cv_X5_146 rfl (by first | exact t0 | exact t1 | exact r1 | exact t2 | exact t3 | exact t4 | exact t5 | exact t6 | exact t7 | exact t8 | exact t9 | exact t10 | exact t11 | exact t12 | exact t13 | exact r2 | exact r4 | exact r5 | exact r8 | exact r9 | exact r10 | exact r11 | exact r12 | exact r13 | exact r14 | exact r15 | exact r16) (by show _ < n; omega) ⟨by decide, _, rfl, rfl⟩ rfl rfl rfl rfl ?_
    refine g_if_eq (Y := Y_X5_fail) (t := 30) (pc' := 26) dX5_fail_23 (by decide) rfl ⟨by omega, by omega⟩ (fun h23 => ?_) (fun h23 => ?_)
    · have e : y_fail I p q = (0, m_thr I 2) := (if_pos hb).trans (if_pos h23)
      have e1 : (y_fail I p q).1 = 0 := by rw [e]
      have e2 : (y_fail I p q).2 = m_thr I 2 := by rw [e]
      rw [e1, e2]
      clear e e1 e2
      refine g_iconst (Y := Y_X5_fail) (pc' := 31) dX5_fail_30 rfl ?_
      refine g_putI (Y := Y_X5_fail) (pc' := 34) dX5_fail_31 rfl fp_X5_50 rfl (by first | exact t0 | exact t1 | exact r1 | exact t2 | exact t3 | exact t4 | exact t5 | exact t6 | exact t7 | exact t8 | exact t9 | exact t10 | exact t11 | exact t12 | exact t13 | exact r2 | exact r4 | exact r5 | exact r8 | exact r9 | exact r10 | exact r11 | exact r12 | exact r13 | exact r14 | exact r15 | exact r16) (by omega) ?_
      refine g_aload0 (Y := Y_X5_fail) (pc' := 35) dX5_fail_34 rfl ?_
      refine g_getI (Y := Y_X5_fail) (pc' := 38) dX5_fail_35 rfl fl_X5_50 rfl (by first | exact t0 | exact t1 | exact r1 | exact t2 | exact t3 | exact t4 | exact t5 | exact t6 | exact t7 | exact t8 | exact t9 | exact t10 | exact t11 | exact t12 | exact t13 | exact r2 | exact r4 | exact r5 | exact r8 | exact r9 | exact r10 | exact r11 | exact r12 | exact r13 | exact r14 | exact r15 | exact r16) (by omega) ?_
      rw [u2_at]
      refine g_if_le (Y := Y_X5_fail) (t := 43) (pc' := 41) dX5_fail_38 (by decide) rfl ⟨by omega, by omega⟩ (fun h38 => ?_) (fun h38 => ?_)
      · exact absurd h38 (by decide)
      · refine g_iconst (Y := Y_X5_fail) (pc' := 42) dX5_fail_41 rfl ?_
        exact g_iret (Y := Y_X5_fail) dX5_fail_42 rfl (Nat.zero_le _) (Nat.zero_le _) (⟨rfl, rfl⟩)
    · have hq := m_can_of h23
      obtain ⟨c, hc⟩ : ∃ c : Nat, 24 * p + q = (c : Int) := ⟨(24 * p + q).toNat, by omega⟩
      have hz2 : ZV (m_failIt (m_sav1 I) c) := failIt_ZV hz1 (by omega) (by rw [e111]; exact hq.1) (by rw [← hc, spotAt_ne e111]; exact hq.2)
      rw [hc] at hq
      have e : y_fail I p q = (m_lay (m_failIt (m_sav1 I) c) 110 7, m_lay (m_failIt (m_sav1 I) c)) := (if_pos hb).trans ((if_neg h23).trans (by rw [hc]; rfl))
      have e1 : (y_fail I p q).1 = m_lay (m_failIt (m_sav1 I) c) 110 7 := by rw [e]
      have e2 : (y_fail I p q).2 = m_lay (m_failIt (m_sav1 I) c) := by rw [e]
      rw [e1, e2]
      clear e e1 e2
      refine g_iconst (Y := Y_X5_fail) (pc' := 27) dX5_fail_26 rfl ?_
      refine g_goto (Y := Y_X5_fail) (t := 31) dX5_fail_27 (by decide) ?_
      refine g_putI (Y := Y_X5_fail) (pc' := 34) dX5_fail_31 rfl fp_X5_50 rfl (by first | exact t0 | exact t1 | exact r1 | exact t2 | exact t3 | exact t4 | exact t5 | exact t6 | exact t7 | exact t8 | exact t9 | exact t10 | exact t11 | exact t12 | exact t13 | exact r2 | exact r4 | exact r5 | exact r8 | exact r9 | exact r10 | exact r11 | exact r12 | exact r13 | exact r14 | exact r15 | exact r16) (by omega) ?_
      refine g_aload0 (Y := Y_X5_fail) (pc' := 35) dX5_fail_34 rfl ?_
      refine g_getI (Y := Y_X5_fail) (pc' := 38) dX5_fail_35 rfl fl_X5_50 rfl (by first | exact t0 | exact t1 | exact r1 | exact t2 | exact t3 | exact t4 | exact t5 | exact t6 | exact t7 | exact t8 | exact t9 | exact t10 | exact t11 | exact t12 | exact t13 | exact r2 | exact r4 | exact r5 | exact r8 | exact r9 | exact r10 | exact r11 | exact r12 | exact r13 | exact r14 | exact r15 | exact r16) (by omega) ?_
      rw [u2_at]
      refine g_if_le (Y := Y_X5_fail) (t := 43) (pc' := 41) dX5_fail_38 (by decide) rfl ⟨by omega, by omega⟩ (fun h38 => ?_) (fun h38 => ?_)
      · refine g_aload0 (Y := Y_X5_fail) (pc' := 44) dX5_fail_43 rfl ?_
        refine g_callVn (Y := Y_X5_fail) (c := 5) (s_X5_sav1 (I := I) hk0 h3) (pc' := 47) dX5_fail_44 rfl cv_X5_133 rfl (by first | exact t0 | exact t1 | exact r1 | exact t2 | exact t3 | exact t4 | exact t5 | exact t6 | exact t7 | exact t8 | exact t9 | exact t10 | exact t11 | exact t12 | exact t13 | exact r2 | exact r4 | exact r5 | exact r8 | exact r9 | exact r10 | exact r11 | exact r12 | exact r13 | exact r14 | exact r15 | exact r16) (by show _ < n; omega) ⟨by decide, _, rfl, rfl⟩ rfl rfl rfl rfl ?_
        refine g_aload0 (Y := Y_X5_fail) (pc' := 48) dX5_fail_47 rfl ?_
        refine g_bipush (Y := Y_X5_fail) (pc' := 50) dX5_fail_48 rfl (by decide) ?_
        refine g_iload1 (Y := Y_X5_fail) (pc' := 51) dX5_fail_50 rfl ?_
        refine g_imul (Y := Y_X5_fail) (pc' := 52) dX5_fail_51 rfl ?_
        refine g_iload2 (Y := Y_X5_fail) (pc' := 53) dX5_fail_52 rfl ?_
        refine g_iadd (Y := Y_X5_fail) (pc' := 54) dX5_fail_53 rfl ?_
        rw [hc]
        refine g_callVn (Y := Y_X5_fail) (c := 5) (s_X5_failIt (I := m_sav1 I) hk0 hz1 c (by omega) (by rw [e111]; exact hq.1) (by rw [spotAt_ne e111]; exact hq.2)) (pc' := 57) dX5_fail_54 rfl cv_X5_149 rfl (by first | exact t0 | exact t1 | exact r1 | exact t2 | exact t3 | exact t4 | exact t5 | exact t6 | exact t7 | exact t8 | exact t9 | exact t10 | exact t11 | exact t12 | exact t13 | exact r2 | exact r4 | exact r5 | exact r8 | exact r9 | exact r10 | exact r11 | exact r12 | exact r13 | exact r14 | exact r15 | exact r16) (by show _ < n; omega) ⟨by decide, _, rfl, rfl⟩ rfl rfl rfl rfl ?_
        refine g_aload0 (Y := Y_X5_fail) (pc' := 58) dX5_fail_57 rfl ?_
        refine g_callVv (Y := Y_X5_fail) (c := 5) (s_X5_linesNow (I := m_failIt (m_sav1 I) c) hk0 hz2) (pc' := 61) dX5_fail_58 rfl cv_X5_152 rfl (by first | exact t0 | exact t1 | exact r1 | exact t2 | exact t3 | exact t4 | exact t5 | exact t6 | exact t7 | exact t8 | exact t9 | exact t10 | exact t11 | exact t12 | exact t13 | exact r2 | exact r4 | exact r5 | exact r8 | exact r9 | exact r10 | exact r11 | exact r12 | exact r13 | exact r14 | exact r15 | exact r16) (by show _ < n; omega) ⟨by decide, _, rfl, rfl⟩ rfl rfl rfl rfl ?_
        exact g_iret (Y := Y_X5_fail) dX5_fail_61 rfl (Nat.zero_le _) (Nat.zero_le _) (⟨rfl, rfl⟩)
      · exact absurd (by decide) h38
  · have hb := ifb_f h6
    have e : y_fail I p q = (0, m_thr I 1) := if_neg hb
    have e1 : (y_fail I p q).1 = 0 := by rw [e]
    have e2 : (y_fail I p q).2 = m_thr I 1 := by rw [e]
    rw [e1, e2]
    clear e e1 e2
    refine g_iconst (Y := Y_X5_fail) (pc' := 10) dX5_fail_9 rfl ?_
    refine g_goto (Y := Y_X5_fail) (t := 31) dX5_fail_10 (by decide) ?_
    refine g_putI (Y := Y_X5_fail) (pc' := 34) dX5_fail_31 rfl fp_X5_50 rfl (by first | exact t0 | exact t1 | exact r1 | exact t2 | exact t3 | exact t4 | exact t5 | exact t6 | exact t7 | exact t8 | exact t9 | exact t10 | exact t11 | exact t12 | exact t13 | exact r2 | exact r4 | exact r5 | exact r8 | exact r9 | exact r10 | exact r11 | exact r12 | exact r13 | exact r14 | exact r15 | exact r16) (by omega) ?_
    refine g_aload0 (Y := Y_X5_fail) (pc' := 35) dX5_fail_34 rfl ?_
    refine g_getI (Y := Y_X5_fail) (pc' := 38) dX5_fail_35 rfl fl_X5_50 rfl (by first | exact t0 | exact t1 | exact r1 | exact t2 | exact t3 | exact t4 | exact t5 | exact t6 | exact t7 | exact t8 | exact t9 | exact t10 | exact t11 | exact t12 | exact t13 | exact r2 | exact r4 | exact r5 | exact r8 | exact r9 | exact r10 | exact r11 | exact r12 | exact r13 | exact r14 | exact r15 | exact r16) (by omega) ?_
    rw [u2_at]
    refine g_if_le (Y := Y_X5_fail) (t := 43) (pc' := 41) dX5_fail_38 (by decide) rfl ⟨by omega, by omega⟩ (fun h38 => ?_) (fun h38 => ?_)
    · exact absurd h38 (by decide)
    · refine g_iconst (Y := Y_X5_fail) (pc' := 42) dX5_fail_41 rfl ?_
      exact g_iret (Y := Y_X5_fail) dX5_fail_42 rfl (Nat.zero_le _) (Nat.zero_le _) (⟨rfl, rfl⟩)
