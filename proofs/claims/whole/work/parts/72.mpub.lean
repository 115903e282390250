/-! the reference: it writes, fills, drops -/
/-- the reference's numbers, between calls -/
def MV (I : Nat → Nat → Int) : Prop := ZV I ∧ HB I ∧ TV I ∧ (0 ≤ I 110 3 ∧ I 110 3 ≤ 6) ∧ ∀ s : Nat, (s : Int) < I 110 3 → ZV (fun _ j => I 112 (s * 1554 + j))
theorem sv0_ne {I : Nat → Nat → Int} {a : Nat} (h : a ≠ 110) (h2 : a ≠ 112) : m_sv0 I a = I a := by
  unfold m_sv0
  split
  · rw [u2_ne h, sh_ne _ _ _ _ h2]
  · rfl
theorem save_ne {I : Nat → Nat → Int} {a : Nat} (h : a ≠ 110) (h2 : a ≠ 112) : m_save I a = I a := by
  unfold m_save
  rw [u2_ne h, sv_ne _ _ _ _ h2, sv0_ne h h2]
theorem sv0_110 {I : Nat → Nat → Int} (j : Nat) : m_sv0 I 110 j = if j = 3 then (if I 110 3 = 6 then 5 else I 110 3) else I 110 j := by
  unfold m_sv0
  by_cases h : I 110 3 = 6
  · rw [if_pos h, u2k, sh_ne _ _ _ _ (by decide), if_pos h]
    by_cases g : j = 3
    · rw [if_pos g, if_pos g, h]; rfl
    · rw [if_neg g, if_neg g]
  · rw [if_neg h, if_neg h]
    by_cases g : j = 3
    · rw [if_pos g, g]
    · rw [if_neg g]
theorem save_110 {I : Nat → Nat → Int} (j : Nat) : m_save I 110 j = if j = 3 then (if I 110 3 = 6 then 6 else I 110 3 + 1) else I 110 j := by
  unfold m_save
  rw [u2k, sv_ne _ _ _ _ (by decide), sv0_110, sv0_110, if_pos rfl]
  by_cases g : j = 3
  · rw [if_pos g, if_pos g]
    split <;> omega
  · rw [if_neg g, if_neg g, if_neg g]
theorem save_ZV {I : Nat → Nat → Int} (h : ZV I) : ZV (m_save I) := ZV_ne h (save_ne (by decide) (by decide))
theorem save_HB {I : Nat → Nat → Int} (h : HB I) : HB (m_save I) := HB_ne h (save_ne (by decide) (by decide)) (save_ne (by decide) (by decide))
theorem spotAt_ne {I I' : Nat → Nat → Int} {x : Int} (h : I' 111 = I 111) : m_spotAt I' x = m_spotAt I x := by
  unfold m_spotAt
  rw [h]
def m_sav1 (I : Nat → Nat → Int) : Nat → Nat → Int := m_save (m_thr I 0)
theorem sav1_111 {I : Nat → Nat → Int} {a : Nat} (h : a ≠ 110) (h2 : a ≠ 112) : m_sav1 I a = I a := by
  unfold m_sav1
  rw [save_ne h h2, thr_111 h]
theorem sav1_ZV {I : Nat → Nat → Int} (h : ZV I) : ZV (m_sav1 I) := save_ZV (thr_ZV h)
theorem sav1_HB {I : Nat → Nat → Int} (h : HB I) : HB (m_sav1 I) := save_HB (thr_HB h)
def q_w3 (I : Nat → Nat → Int) (p v : Int) : Int × (Nat → Nat → Int) := if m_goal I p.toNat = -1 then (0, m_thr I 3) else (m_write (m_sav1 I) p.toNat v 111 (498 + p.toNat), m_write (m_sav1 I) p.toNat v)
def y_write (I : Nat → Nat → Int) (p v : Int) : Int × (Nat → Nat → Int) := if 0 ≤ p ∧ p ≤ 479 then (if 0 ≤ v ∧ v ≤ 999 then q_w3 (m_lay (m_thr I 0)) p v else (0, m_thr I 2)) else (0, m_thr I 1)
theorem goal_ne {I I' : Nat → Nat → Int} {b : Nat} (h : I' 111 = I 111) (h1 : I' 121 = I 121) (h2 : I' 122 = I 122) : m_goal I' b = m_goal I b := by
  have e : ∀ c, m_isGd I' c = m_isGd I c := fun c => by unfold m_isGd; rw [h1, h2]
  have e2 : ∀ f c, frL I' f c = frL I f c := by
    intro f
    induction f with
    | zero => intro c; rfl
    | succ f ih => intro c; unfold frL; rw [e, h, ih]
  unfold m_goal m_free
  rw [e, e, h, e2]
theorem s_X5_sav1 {l : Launch} {E : QE} {T : Nat → Nat × Nat} {I : Nat → Nat → Int} {J : Nat → Nat → Int64} {R : Nat → Nat → Option Nat} {n z : Nat} (hk : MdB T R n) (h3 : 0 ≤ I 110 3 ∧ I 110 3 ≤ 6) : SpN l E Y_X5_save [.ref (E.1 + 110)] (T, m_thr I 0, J, R, n, z) (T, m_sav1 I, J, R, n, z) := by
  unfold m_sav1
  exact s_X5_save (I := m_thr I 0) hk (by rw [thr_110 (by decide)]; exact h3)
set_option maxHeartbeats 2000000 in
set_option maxRecDepth 100000 in
theorem s_X5_write {l : Launch} {E : QE} {T : Nat → Nat × Nat} {I : Nat → Nat → Int} {J : Nat → Nat → Int64} {R : Nat → Nat → Option Nat} {n z : Nat} (hk : MdB T R n) (hm9 : MV I) (p : Int) (h_p : -2147483648 ≤ p ∧ p < 2147483648) (v : Int) (h_v : -2147483648 ≤ v ∧ v < 2147483648)  : SpV l E Y_X5_write [.ref (E.1 + 110), .int (iz p), .int (iz v)] (T, I, J, R, n, z) (.int (iz (y_write I p v).1)) (T, (y_write I p v).2, J, R, n, z) := by
  have hk0 := hk
  obtain ⟨t0, t1, t2, t3, t4, t5, t6, t7, t8, t9, t10, t11, t12, t13, r1, r2, r4, r5, r8, r9, r10, r11, r12, r13, r14, r15, r16, hn⟩ := hk
  obtain ⟨hz9, hb9, hv9, h3, hsv9⟩ := id hm9
  obtain ⟨z3, zs, zs0, zd, zt, zt2, zv, zw, zk⟩ := id hz9
  have hz1 := thr_ZV (t := 0) hz9
  have hb1 := thr_HB (t := 0) hb9
  have hz2 := ZV_lay hz1
  have hr2 := lay_HR hz1 hb1
  have h30 : m_lay (m_thr I 0) 110 3 = I 110 3 := by rw [lay_110 (by decide), thr_110 (by decide)]
  refine Sp.of [some (.ref (E.1 + 110)), some (.int (iz p)), some (.int (iz v))] (by decide +kernel) (Nat.le_of_ble_eq_true rfl) (fun _ h => h) ?_
  refine g_aload0 (Y := Y_X5_write) (pc' := 1) dX5_write_0 rfl ?_
  refine g_iload1 (Y := Y_X5_write) (pc' := 2) dX5_write_1 rfl ?_
  refine g_callSv (Y := Y_X5_write) (s_X5_isBlock p h_p) (pc' := 5) dX5_write_2 rfl cv_X5_124 rfl rfl rfl rfl rfl ?_
  refine g_if_ne (Y := Y_X5_write) (t := 12) (pc' := 8) dX5_write_5 (by decide) rfl ⟨by omega, by omega⟩ (fun h5 => ?_) (fun h5 => ?_)
  · have hb := ifb_t h5
    refine g_iload2 (Y := Y_X5_write) (pc' := 13) dX5_write_12 rfl ?_
    refine g_callSv (Y := Y_X5_write) (s_X5_isValue v h_v) (pc' := 16) dX5_write_13 rfl cv_X5_127 rfl rfl rfl rfl rfl ?_
    refine g_if_eq (Y := Y_X5_write) (t := 23) (pc' := 19) dX5_write_16 (by decide) rfl ⟨by omega, by omega⟩ (fun h16 => ?_) (fun h16 => ?_)
    · have hu := ifb_f h16
      have e : y_write I p v = (0, m_thr I 2) := (if_pos hb).trans (if_neg hu)
      have e1 : (y_write I p v).1 = 0 := by rw [e]
      have e2 : (y_write I p v).2 = m_thr I 2 := by rw [e]
      rw [e1, e2]
      clear e e1 e2
      refine g_iconst (Y := Y_X5_write) (pc' := 24) dX5_write_23 rfl ?_
      refine g_putI (Y := Y_X5_write) (pc' := 27) dX5_write_24 rfl fp_X5_50 rfl (by first | exact t0 | exact t1 | exact r1 | exact t2 | exact t3 | exact t4 | exact t5 | exact t6 | exact t7 | exact t8 | exact t9 | exact t10 | exact t11 | exact t12 | exact t13 | exact r2 | exact r4 | exact r5 | exact r8 | exact r9 | exact r10 | exact r11 | exact r12 | exact r13 | exact r14 | exact r15 | exact r16) (by omega) ?_
      refine g_aload0 (Y := Y_X5_write) (pc' := 28) dX5_write_27 rfl ?_
      refine g_getI (Y := Y_X5_write) (pc' := 31) dX5_write_28 rfl fl_X5_50 rfl (by first | exact t0 | exact t1 | exact r1 | exact t2 | exact t3 | exact t4 | exact t5 | exact t6 | exact t7 | exact t8 | exact t9 | exact t10 | exact t11 | exact t12 | exact t13 | exact r2 | exact r4 | exact r5 | exact r8 | exact r9 | exact r10 | exact r11 | exact r12 | exact r13 | exact r14 | exact r15 | exact r16) (by omega) ?_
      rw [u2_at]
      refine g_if_le (Y := Y_X5_write) (t := 36) (pc' := 34) dX5_write_31 (by decide) rfl ⟨by omega, by omega⟩ (fun h31 => ?_) (fun h31 => ?_)
      · exact absurd h31 (by decide)
      · refine g_iconst (Y := Y_X5_write) (pc' := 35) dX5_write_34 rfl ?_
        exact g_iret (Y := Y_X5_write) dX5_write_35 rfl (Nat.zero_le _) (Nat.zero_le _) (⟨rfl, rfl⟩)
    · have hu := ifb_t h16
      obtain ⟨b, rfl⟩ : ∃ b : Nat, p = (b : Int) := ⟨p.toNat, by omega⟩
      have gr := m_goal_rg hz2 (b := b) (by omega)
      refine g_iconst (Y := Y_X5_write) (pc' := 20) dX5_write_19 rfl ?_
      refine g_goto (Y := Y_X5_write) (t := 24) dX5_write_20 (by decide) ?_
      refine g_putI (Y := Y_X5_write) (pc' := 27) dX5_write_24 rfl fp_X5_50 rfl (by first | exact t0 | exact t1 | exact r1 | exact t2 | exact t3 | exact t4 | exact t5 | exact t6 | exact t7 | exact t8 | exact t9 | exact t10 | exact t11 | exact t12 | exact t13 | exact r2 | exact r4 | exact r5 | exact r8 | exact r9 | exact r10 | exact r11 | exact r12 | exact r13 | exact r14 | exact r15 | exact r16) (by omega) ?_
      refine g_aload0 (Y := Y_X5_write) (pc' := 28) dX5_write_27 rfl ?_
      refine g_getI (Y := Y_X5_write) (pc' := 31) dX5_write_28 rfl fl_X5_50 rfl (by first | exact t0 | exact t1 | exact r1 | exact t2 | exact t3 | exact t4 | exact t5 | exact t6 | exact t7 | exact t8 | exact t9 | exact t10 | exact t11 | exact t12 | exact t13 | exact r2 | exact r4 | exact r5 | exact r8 | exact r9 | exact r10 | exact r11 | exact r12 | exact r13 | exact r14 | exact r15 | exact r16) (by omega) ?_
      rw [u2_at]
      refine g_if_le (Y := Y_X5_write) (t := 36) (pc' := 34) dX5_write_31 (by decide) rfl ⟨by omega, by omega⟩ (fun h31 => ?_) (fun h31 => ?_)
      · refine g_aload0 (Y := Y_X5_write) (pc' := 37) dX5_write_36 rfl ?_
        refine g_callVn (Y := Y_X5_write) (c := 5) (s_X5_lay (I := m_thr I 0) hk0 hz1) (pc' := 40) dX5_write_37 rfl cv_X5_130 rfl (by first | exact t0 | exact t1 | exact r1 | exact t2 | exact t3 | exact t4 | exact t5 | exact t6 | exact t7 | exact t8 | exact t9 | exact t10 | exact t11 | exact t12 | exact t13 | exact r2 | exact r4 | exact r5 | exact r8 | exact r9 | exact r10 | exact r11 | exact r12 | exact r13 | exact r14 | exact r15 | exact r16) (by show _ < n; omega) ⟨by decide, _, rfl, rfl⟩ rfl rfl rfl rfl ?_
        refine g_aload0 (Y := Y_X5_write) (pc' := 41) dX5_write_40 rfl ?_
        refine g_aload0 (Y := Y_X5_write) (pc' := 42) dX5_write_41 rfl ?_
        refine g_iload1 (Y := Y_X5_write) (pc' := 43) dX5_write_42 rfl ?_
        refine g_callVv (Y := Y_X5_write) (c := 5) (s_X5_goalOf hk0 hz2 hr2 b (by omega)) (pc' := 46) dX5_write_43 rfl cv_X5_118 rfl (by first | exact t0 | exact t1 | exact r1 | exact t2 | exact t3 | exact t4 | exact t5 | exact t6 | exact t7 | exact t8 | exact t9 | exact t10 | exact t11 | exact t12 | exact t13 | exact r2 | exact r4 | exact r5 | exact r8 | exact r9 | exact r10 | exact r11 | exact r12 | exact r13 | exact r14 | exact r15 | exact r16) (by show _ < n; omega) ⟨by decide, _, rfl, rfl⟩ rfl rfl rfl rfl ?_
        refine g_iconst (Y := Y_X5_write) (pc' := 47) dX5_write_46 rfl ?_
        refine g_icmp_ne (Y := Y_X5_write) (t := 54) (pc' := 50) dX5_write_47 (by decide) rfl ⟨by omega, by omega⟩ ⟨by omega, by omega⟩ (fun h47 => ?_) (fun h47 => ?_)
        · have e : y_write I b v = (m_write (m_sav1 (m_lay (m_thr I 0))) b v 111 (498 + b), m_write (m_sav1 (m_lay (m_thr I 0))) b v) := (if_pos hb).trans ((if_pos hu).trans (if_neg h47))
          have e1 : (y_write I b v).1 = m_write (m_sav1 (m_lay (m_thr I 0))) b v 111 (498 + b) := by rw [e]
          have e2 : (y_write I b v).2 = m_write (m_sav1 (m_lay (m_thr I 0))) b v := by rw [e]
          rw [e1, e2]
          clear e e1 e2
          refine g_iconst (Y := Y_X5_write) (pc' := 55) dX5_write_54 rfl ?_
          refine g_putI (Y := Y_X5_write) (pc' := 58) dX5_write_55 rfl fp_X5_50 rfl (by first | exact t0 | exact t1 | exact r1 | exact t2 | exact t3 | exact t4 | exact t5 | exact t6 | exact t7 | exact t8 | exact t9 | exact t10 | exact t11 | exact t12 | exact t13 | exact r2 | exact r4 | exact r5 | exact r8 | exact r9 | exact r10 | exact r11 | exact r12 | exact r13 | exact r14 | exact r15 | exact r16) (by omega) ?_
          refine g_aload0 (Y := Y_X5_write) (pc' := 59) dX5_write_58 rfl ?_
          refine g_getI (Y := Y_X5_write) (pc' := 62) dX5_write_59 rfl fl_X5_50 rfl (by first | exact t0 | exact t1 | exact r1 | exact t2 | exact t3 | exact t4 | exact t5 | exact t6 | exact t7 | exact t8 | exact t9 | exact t10 | exact t11 | exact t12 | exact t13 | exact r2 | exact r4 | exact r5 | exact r8 | exact r9 | exact r10 | exact r11 | exact r12 | exact r13 | exact r14 | exact r15 | exact r16) (by omega) ?_
          rw [u2_at]
          refine g_if_le (Y := Y_X5_write) (t := 67) (pc' := 65) dX5_write_62 (by decide) rfl ⟨by omega, by omega⟩ (fun h62 => ?_) (fun h62 => ?_)
          · refine g_aload0 (Y := Y_X5_write) (pc' := 68) dX5_write_67 rfl ?_
            refine g_callVn (Y := Y_X5_write) (c := 5) (s_X5_sav1 (I := m_lay (m_thr I 0)) hk0 (by rw [h30]; exact h3)) (pc' := 71) dX5_write_68 rfl cv_X5_133 rfl (by first | exact t0 | exact t1 | exact r1 | exact t2 | exact t3 | exact t4 | exact t5 | exact t6 | exact t7 | exact t8 | exact t9 | exact t10 | exact t11 | exact t12 | exact t13 | exact r2 | exact r4 | exact r5 | exact r8 | exact r9 | exact r10 | exact r11 | exact r12 | exact r13 | exact r14 | exact r15 | exact r16) (by show _ < n; omega) ⟨by decide, _, rfl, rfl⟩ rfl rfl rfl rfl ?_
            refine g_aload0 (Y := Y_X5_write) (pc' := 72) dX5_write_71 rfl ?_
            refine g_iload1 (Y := Y_X5_write) (pc' := 73) dX5_write_72 rfl ?_
            refine g_iload2 (Y := Y_X5_write) (pc' := 74) dX5_write_73 rfl ?_
            refine g_callVv (Y := Y_X5_write) (c := 5) (s_X5_writeIt (I := m_sav1 (m_lay (m_thr I 0))) hk0 (sav1_ZV hz2) (HR_ne hr2 (sav1_111 (by decide) (by decide)) (sav1_111 (by decide) (by decide))) b (by omega) v (by rw [goal_ne (sav1_111 (by decide) (by decide)) (sav1_111 (by decide) (by decide)) (sav1_111 (by decide) (by decide))]; exact h47)) (pc' := 77) dX5_write_74 rfl cv_X5_136 rfl (by first | exact t0 | exact t1 | exact r1 | exact t2 | exact t3 | exact t4 | exact t5 | exact t6 | exact t7 | exact t8 | exact t9 | exact t10 | exact t11 | exact t12 | exact t13 | exact r2 | exact r4 | exact r5 | exact r8 | exact r9 | exact r10 | exact r11 | exact r12 | exact r13 | exact r14 | exact r15 | exact r16) (by show _ < n; omega) ⟨by decide, _, rfl, rfl⟩ rfl rfl rfl rfl ?_
            exact g_iret (Y := Y_X5_write) dX5_write_77 rfl (Nat.zero_le _) (Nat.zero_le _) (⟨rfl, rfl⟩)
          · exact absurd (by decide) h62
        · have e : y_write I b v = (0, m_thr (m_lay (m_thr I 0)) 3) := (if_pos hb).trans ((if_pos hu).trans (if_pos h47))
          have e1 : (y_write I b v).1 = 0 := by rw [e]
          have e2 : (y_write I b v).2 = m_thr (m_lay (m_thr I 0)) 3 := by rw [e]
          rw [e1, e2]
          clear e e1 e2
          refine g_iconst (Y := Y_X5_write) (pc' := 51) dX5_write_50 rfl ?_
          refine g_goto (Y := Y_X5_write) (t := 55) dX5_write_51 (by decide) ?_
          refine g_putI (Y := Y_X5_write) (pc' := 58) dX5_write_55 rfl fp_X5_50 rfl (by first | exact t0 | exact t1 | exact r1 | exact t2 | exact t3 | exact t4 | exact t5 | exact t6 | exact t7 | exact t8 | exact t9 | exact t10 | exact t11 | exact t12 | exact t13 | exact r2 | exact r4 | exact r5 | exact r8 | exact r9 | exact r10 | exact r11 | exact r12 | exact r13 | exact r14 | exact r15 | exact r16) (by omega) ?_
          refine g_aload0 (Y := Y_X5_write) (pc' := 59) dX5_write_58 rfl ?_
          refine g_getI (Y := Y_X5_write) (pc' := 62) dX5_write_59 rfl fl_X5_50 rfl (by first | exact t0 | exact t1 | exact r1 | exact t2 | exact t3 | exact t4 | exact t5 | exact t6 | exact t7 | exact t8 | exact t9 | exact t10 | exact t11 | exact t12 | exact t13 | exact r2 | exact r4 | exact r5 | exact r8 | exact r9 | exact r10 | exact r11 | exact r12 | exact r13 | exact r14 | exact r15 | exact r16) (by omega) ?_
          rw [u2_at]
          refine g_if_le (Y := Y_X5_write) (t := 67) (pc' := 65) dX5_write_62 (by decide) rfl ⟨by omega, by omega⟩ (fun h62 => ?_) (fun h62 => ?_)
          · exact absurd h62 (by decide)
          · refine g_iconst (Y := Y_X5_write) (pc' := 66) dX5_write_65 rfl ?_
            exact g_iret (Y := Y_X5_write) dX5_write_66 rfl (Nat.zero_le _) (Nat.zero_le _) (⟨rfl, rfl⟩)
      · exact absurd (by decide) h31
  · have hb := ifb_f h5
    have e : y_write I p v = (0, m_thr I 1) := if_neg hb
    have e1 : (y_write I p v).1 = 0 := by rw [e]
    have e2 : (y_write I p v).2 = m_thr I 1 := by rw [e]
    rw [e1, e2]
    clear e e1 e2
    refine g_iconst (Y := Y_X5_write) (pc' := 9) dX5_write_8 rfl ?_
    refine g_goto (Y := Y_X5_write) (t := 24) dX5_write_9 (by decide) ?_
    refine g_putI (Y := Y_X5_write) (pc' := 27) dX5_write_24 rfl fp_X5_50 rfl (by first | exact t0 | exact t1 | exact r1 | exact t2 | exact t3 | exact t4 | exact t5 | exact t6 | exact t7 | exact t8 | exact t9 | exact t10 | exact t11 | exact t12 | exact t13 | exact r2 | exact r4 | exact r5 | exact r8 | exact r9 | exact r10 | exact r11 | exact r12 | exact r13 | exact r14 | exact r15 | exact r16) (by omega) ?_
    refine g_aload0 (Y := Y_X5_write) (pc' := 28) dX5_write_27 rfl ?_
    refine g_getI (Y := Y_X5_write) (pc' := 31) dX5_write_28 rfl fl_X5_50 rfl (by first | exact t0 | exact t1 | exact r1 | exact t2 | exact t3 | exact t4 | exact t5 | exact t6 | exact t7 | exact t8 | exact t9 | exact t10 | exact t11 | exact t12 | exact t13 | exact r2 | exact r4 | exact r5 | exact r8 | exact r9 | exact r10 | exact r11 | exact r12 | exact r13 | exact r14 | exact r15 | exact r16) (by omega) ?_
    rw [u2_at]
    refine g_if_le (Y := Y_X5_write) (t := 36) (pc' := 34) dX5_write_31 (by decide) rfl ⟨by omega, by omega⟩ (fun h31 => ?_) (fun h31 => ?_)
    · exact absurd h31 (by decide)
    · refine g_iconst (Y := Y_X5_write) (pc' := 35) dX5_write_34 rfl ?_
      exact g_iret (Y := Y_X5_write) dX5_write_35 rfl (Nat.zero_le _) (Nat.zero_le _) (⟨rfl, rfl⟩)
def m_flL (b : Nat) (v : Int) : Nat → Nat → (Nat → Nat → Int) → Int × (Nat → Nat → Int)
  | 0, w, I => (w, I)
  | f + 1, w, I => if m_goal I (b + w) = -1 then ((w : Int), I) else m_flL b v f (w + 1) (m_write I (b + w) v)
def y_fill (I : Nat → Nat → Int) (p q v : Int) : Int × (Nat → Nat → Int) := if (0 ≤ p ∧ p ≤ 479) ∧ q ≤ 480 - p then (if (1 ≤ q ∧ q ≤ 48) ∧ 0 ≤ v ∧ v ≤ 999 then m_flL p.toNat v q.toNat 0 (m_lay (m_sav1 I)) else (0, m_thr I 2)) else (0, m_thr I 1)
theorem flL_ne (b : Nat) (v : Int) : ∀ (f w : Nat) (I : Nat → Nat → Int) (a : Nat), a ≠ 111 → (m_flL b v f w I).2 a = I a
  | 0, _, _, _, _ => rfl
  | f + 1, w, I, a, h => by
    unfold m_flL
    split
    · rfl
    · rw [flL_ne b v f (w + 1) _ a h, write_ne h]
theorem flL_ZV (b : Nat) (v : Int) (hv : -1 ≤ v ∧ v ≤ 999) : ∀ (f w : Nat) (I : Nat → Nat → Int), b + w + f ≤ 480 → ZV I → ZV (m_flL b v f w I).2
  | 0, _, _, _, h => h
  | f + 1, w, I, hb, h => by
    unfold m_flL
    split
    · exact h
    · rename_i g
      exact flL_ZV b v hv f (w + 1) _ (by omega) (write_ZV h (by omega) hv g)
set_option maxHeartbeats 2000000 in
set_option maxRecDepth 100000 in
theorem s_X5_fill_lp {l : Launch} {E : QE} {T : Nat → Nat × Nat} {J : Nat → Nat → Int64} {R : Nat → Nat → Option Nat} {n z : Nat} (hk : MdB T R n) {b mq : Nat} {v : Int} (hv9 : 0 ≤ v ∧ v ≤ 999) (hbm : b + mq ≤ 480) (hbm2 : mq ≤ 48) : ∀ (f w : Nat) (I : Nat → Nat → Int), w + f = mq → ZV I → HR I → Go l E Y_X5_fill 0 0 66 [some (.ref (E.1 + 110)), some (.int (iz (b : Int))), some (.int (iz (mq : Int))), some (.int (iz v)), some (.int (iz (w : Int)))] [] (T, I, J, R, n, z) (KV (.int (iz (m_flL b v f w I).1)) (T, (m_flL b v f w I).2, J, R, n, z)) := by
  have hk0 := hk
  obtain ⟨t0, t1, t2, t3, t4, t5, t6, t7, t8, t9, t10, t11, t12, t13, r1, r2, r4, r5, r8, r9, r10, r11, r12, r13, r14, r15, r16, hn⟩ := hk
  intro f
  induction f with
  | zero =>
    intro w I hf hz9 hh9
    have e9 : (w : Int) = (mq : Int) := by omega
    refine g_iload4 (Y := Y_X5_fill) (pc' := 68) dX5_fill_66 rfl ?_
    refine g_iload2 (Y := Y_X5_fill) (pc' := 69) dX5_fill_68 rfl ?_
    refine g_icmp_ge (Y := Y_X5_fill) (t := 100) (pc' := 72) dX5_fill_69 (by decide) rfl ⟨by omega, by omega⟩ ⟨by omega, by omega⟩ (fun h69 => ?_) (fun h69 => ?_)
    · refine g_iload4 (Y := Y_X5_fill) (pc' := 102) dX5_fill_100 rfl ?_
      exact g_iret (Y := Y_X5_fill) dX5_fill_102 rfl (Nat.zero_le _) (Nat.zero_le _) (⟨rfl, rfl⟩)
    · exfalso; omega
  | succ f ih =>
    intro w I hf hz9 hh9
    have gr := m_goal_rg hz9 (b := b + w) (by omega)
    refine g_iload4 (Y := Y_X5_fill) (pc' := 68) dX5_fill_66 rfl ?_
    refine g_iload2 (Y := Y_X5_fill) (pc' := 69) dX5_fill_68 rfl ?_
    refine g_icmp_ge (Y := Y_X5_fill) (t := 100) (pc' := 72) dX5_fill_69 (by decide) rfl ⟨by omega, by omega⟩ ⟨by omega, by omega⟩ (fun h69 => ?_) (fun h69 => ?_)
    · exfalso; omega
    · refine g_aload0 (Y := Y_X5_fill) (pc' := 73) dX5_fill_72 rfl ?_
      refine g_iload1 (Y := Y_X5_fill) (pc' := 74) dX5_fill_73 rfl ?_
      refine g_iload4 (Y := Y_X5_fill) (pc' := 76) dX5_fill_74 rfl ?_
      refine g_iadd (Y := Y_X5_fill) (pc' := 77) dX5_fill_76 rfl ?_
      rw [show (b : Int) + (w : Int) = ((b + w : Nat) : Int) by omega]
      refine g_callVv (Y := Y_X5_fill) (c := 5) (s_X5_goalOf hk0 hz9 hh9 (b + w) (by omega)) (pc' := 80) dX5_fill_77 rfl cv_X5_118 rfl (by first | exact t0 | exact t1 | exact r1 | exact t2 | exact t3 | exact t4 | exact t5 | exact t6 | exact t7 | exact t8 | exact t9 | exact t10 | exact t11 | exact t12 | exact t13 | exact r2 | exact r4 | exact r5 | exact r8 | exact r9 | exact r10 | exact r11 | exact r12 | exact r13 | exact r14 | exact r15 | exact r16) (by show _ < n; omega) ⟨by decide, _, rfl, rfl⟩ rfl rfl rfl rfl ?_
      refine g_iconst (Y := Y_X5_fill) (pc' := 81) dX5_fill_80 rfl ?_
      refine g_icmp_eq (Y := Y_X5_fill) (t := 100) (pc' := 84) dX5_fill_81 (by decide) rfl ⟨by omega, by omega⟩ ⟨by omega, by omega⟩ (fun h81 => ?_) (fun h81 => ?_)
      · have e : m_flL b v (f + 1) w I = ((w : Int), I) := if_pos h81
        have e1 : (m_flL b v (f + 1) w I).1 = (w : Int) := by rw [e]
        have e2 : (m_flL b v (f + 1) w I).2 = I := by rw [e]
        rw [e1, e2]
        clear e e1 e2
        refine g_iload4 (Y := Y_X5_fill) (pc' := 102) dX5_fill_100 rfl ?_
        exact g_iret (Y := Y_X5_fill) dX5_fill_102 rfl (Nat.zero_le _) (Nat.zero_le _) (⟨rfl, rfl⟩)
      · have e : m_flL b v (f + 1) w I = m_flL b v f (w + 1) (m_write I (b + w) v) := if_neg h81
        rw [e]
        clear e
        refine g_aload0 (Y := Y_X5_fill) (pc' := 85) dX5_fill_84 rfl ?_
        refine g_iload1 (Y := Y_X5_fill) (pc' := 86) dX5_fill_85 rfl ?_
        refine g_iload4 (Y := Y_X5_fill) (pc' := 88) dX5_fill_86 rfl ?_
        refine g_iadd (Y := Y_X5_fill) (pc' := 89) dX5_fill_88 rfl ?_
        rw [show (b : Int) + (w : Int) = ((b + w : Nat) : Int) by omega]
        refine g_iload3 (Y := Y_X5_fill) (pc' := 90) dX5_fill_89 rfl ?_
        refine g_callVv (Y := Y_X5_fill) (c := 5) (s_X5_writeIt hk0 hz9 hh9 (b + w) (by omega) v h81) (pc' := 93) dX5_fill_90 rfl cv_X5_136 rfl (by first | exact t0 | exact t1 | exact r1 | exact t2 | exact t3 | exact t4 | exact t5 | exact t6 | exact t7 | exact t8 | exact t9 | exact t10 | exact t11 | exact t12 | exact t13 | exact r2 | exact r4 | exact r5 | exact r8 | exact r9 | exact r10 | exact r11 | exact r12 | exact r13 | exact r14 | exact r15 | exact r16) (by show _ < n; omega) ⟨by decide, _, rfl, rfl⟩ rfl rfl rfl rfl ?_
        refine g_pop (Y := Y_X5_fill) (pc' := 94) dX5_fill_93 rfl rfl ?_
        refine g_iinc4 (Y := Y_X5_fill) (pc' := 97) dX5_fill_94 rfl (Nat.le_of_ble_eq_true rfl) rfl ?_
        refine g_goto (Y := Y_X5_fill) (t := 66) dX5_fill_97 (by decide) ?_
        exact ih (w + 1) _ (by omega) (write_ZV hz9 (by omega) (by omega) h81) (HR_ne hh9 (write_ne (by decide)) (write_ne (by decide)))
set_option maxHeartbeats 2000000 in
set_option maxRecDepth 100000 in
theorem s_X5_fill {l : Launch} {E : QE} {T : Nat → Nat × Nat} {I : Nat → Nat → Int} {J : Nat → Nat → Int64} {R : Nat → Nat → Option Nat} {n z : Nat} (hk : MdB T R n) (hm9 : MV I) (p : Int) (h_p : -2147483648 ≤ p ∧ p < 2147483648) (q : Int) (h_q : -2147483648 ≤ q ∧ q < 2147483648) (v : Int) (h_v : -2147483648 ≤ v ∧ v < 2147483648)  : SpV l E Y_X5_fill [.ref (E.1 + 110), .int (iz p), .int (iz q), .int (iz v)] (T, I, J, R, n, z) (.int (iz (y_fill I p q v).1)) (T, (y_fill I p q v).2, J, R, n, z) := by
  have hk0 := hk
  obtain ⟨t0, t1, t2, t3, t4, t5, t6, t7, t8, t9, t10, t11, t12, t13, r1, r2, r4, r5, r8, r9, r10, r11, r12, r13, r14, r15, r16, hn⟩ := hk
  obtain ⟨hz9, hb9, hv9, h3, hsv9⟩ := id hm9
  obtain ⟨z3, zs, zs0, zd, zt, zt2, zv, zw, zk⟩ := id hz9
  have hz1 := sav1_ZV hz9
  have hb1 := sav1_HB hb9
  refine Sp.of [some (.ref (E.1 + 110)), some (.int (iz p)), some (.int (iz q)), some (.int (iz v)), none] (by decide +kernel) (Nat.le_of_ble_eq_true rfl) (fun _ h => h) ?_
  refine g_aload0 (Y := Y_X5_fill) (pc' := 1) dX5_fill_0 rfl ?_
  refine g_iload1 (Y := Y_X5_fill) (pc' := 2) dX5_fill_1 rfl ?_
  refine g_callSv (Y := Y_X5_fill) (s_X5_isBlock p h_p) (pc' := 5) dX5_fill_2 rfl cv_X5_124 rfl rfl rfl rfl rfl ?_
  refine g_if_eq (Y := Y_X5_fill) (t := 17) (pc' := 8) dX5_fill_5 (by decide) rfl ⟨by omega, by omega⟩ (fun h5 => ?_) (fun h5 => ?_)
  · have hb := ifb_f h5
    have e : y_fill I p q v = (0, m_thr I 1) := if_neg (fun q9 => hb q9.1)
    have e1 : (y_fill I p q v).1 = 0 := by rw [e]
    have e2 : (y_fill I p q v).2 = m_thr I 1 := by rw [e]
    rw [e1, e2]
    clear e e1 e2
    refine g_iconst (Y := Y_X5_fill) (pc' := 18) dX5_fill_17 rfl ?_
    refine g_goto (Y := Y_X5_fill) (t := 43) dX5_fill_18 (by decide) ?_
    refine g_putI (Y := Y_X5_fill) (pc' := 46) dX5_fill_43 rfl fp_X5_50 rfl (by first | exact t0 | exact t1 | exact r1 | exact t2 | exact t3 | exact t4 | exact t5 | exact t6 | exact t7 | exact t8 | exact t9 | exact t10 | exact t11 | exact t12 | exact t13 | exact r2 | exact r4 | exact r5 | exact r8 | exact r9 | exact r10 | exact r11 | exact r12 | exact r13 | exact r14 | exact r15 | exact r16) (by omega) ?_
    refine g_aload0 (Y := Y_X5_fill) (pc' := 47) dX5_fill_46 rfl ?_
    refine g_getI (Y := Y_X5_fill) (pc' := 50) dX5_fill_47 rfl fl_X5_50 rfl (by first | exact t0 | exact t1 | exact r1 | exact t2 | exact t3 | exact t4 | exact t5 | exact t6 | exact t7 | exact t8 | exact t9 | exact t10 | exact t11 | exact t12 | exact t13 | exact r2 | exact r4 | exact r5 | exact r8 | exact r9 | exact r10 | exact r11 | exact r12 | exact r13 | exact r14 | exact r15 | exact r16) (by omega) ?_
    rw [u2_at]
    refine g_if_le (Y := Y_X5_fill) (t := 55) (pc' := 53) dX5_fill_50 (by decide) rfl ⟨by omega, by omega⟩ (fun h50 => ?_) (fun h50 => ?_)
    · exact absurd h50 (by decide)
    · refine g_iconst (Y := Y_X5_fill) (pc' := 54) dX5_fill_53 rfl ?_
      exact g_iret (Y := Y_X5_fill) dX5_fill_54 rfl (Nat.zero_le _) (Nat.zero_le _) (⟨rfl, rfl⟩)
  · have hb := ifb_t h5
    refine g_iload2 (Y := Y_X5_fill) (pc' := 9) dX5_fill_8 rfl ?_
    refine g_sipush (Y := Y_X5_fill) (pc' := 12) dX5_fill_9 rfl (by decide) ?_
    refine g_iload1 (Y := Y_X5_fill) (pc' := 13) dX5_fill_12 rfl ?_
    refine g_isub (Y := Y_X5_fill) (pc' := 14) dX5_fill_13 rfl ?_
    refine g_icmp_le (Y := Y_X5_fill) (t := 21) (pc' := 17) dX5_fill_14 (by decide) rfl ⟨by omega, by omega⟩ ⟨by omega, by omega⟩ (fun h14 => ?_) (fun h14 => ?_)
    · have hg : (0 ≤ p ∧ p ≤ 479) ∧ q ≤ 480 - p := ⟨hb, by omega⟩
      refine g_iload2 (Y := Y_X5_fill) (pc' := 22) dX5_fill_21 rfl ?_
      refine g_iconst (Y := Y_X5_fill) (pc' := 23) dX5_fill_22 rfl ?_
      refine g_bipush (Y := Y_X5_fill) (pc' := 25) dX5_fill_23 rfl (by decide) ?_
      refine g_callSv (Y := Y_X5_fill) (s_X5_in q 1 48 h_q ⟨by decide, by decide⟩ ⟨by decide, by decide⟩) (pc' := 28) dX5_fill_25 rfl cv_X5_54 rfl rfl rfl rfl rfl ?_
      refine g_if_eq (Y := Y_X5_fill) (t := 42) (pc' := 31) dX5_fill_28 (by decide) rfl ⟨by omega, by omega⟩ (fun h28 => ?_) (fun h28 => ?_)
      · have hx := ifb_f h28
        have e : y_fill I p q v = (0, m_thr I 2) := (if_pos hg).trans (if_neg (fun q9 => hx q9.1))
        have e1 : (y_fill I p q v).1 = 0 := by rw [e]
        have e2 : (y_fill I p q v).2 = m_thr I 2 := by rw [e]
        rw [e1, e2]
        clear e e1 e2
        refine g_iconst (Y := Y_X5_fill) (pc' := 43) dX5_fill_42 rfl ?_
        refine g_putI (Y := Y_X5_fill) (pc' := 46) dX5_fill_43 rfl fp_X5_50 rfl (by first | exact t0 | exact t1 | exact r1 | exact t2 | exact t3 | exact t4 | exact t5 | exact t6 | exact t7 | exact t8 | exact t9 | exact t10 | exact t11 | exact t12 | exact t13 | exact r2 | exact r4 | exact r5 | exact r8 | exact r9 | exact r10 | exact r11 | exact r12 | exact r13 | exact r14 | exact r15 | exact r16) (by omega) ?_
        refine g_aload0 (Y := Y_X5_fill) (pc' := 47) dX5_fill_46 rfl ?_
        refine g_getI (Y := Y_X5_fill) (pc' := 50) dX5_fill_47 rfl fl_X5_50 rfl (by first | exact t0 | exact t1 | exact r1 | exact t2 | exact t3 | exact t4 | exact t5 | exact t6 | exact t7 | exact t8 | exact t9 | exact t10 | exact t11 | exact t12 | exact t13 | exact r2 | exact r4 | exact r5 | exact r8 | exact r9 | exact r10 | exact r11 | exact r12 | exact r13 | exact r14 | exact r15 | exact r16) (by omega) ?_
        rw [u2_at]
        refine g_if_le (Y := Y_X5_fill) (t := 55) (pc' := 53) dX5_fill_50 (by decide) rfl ⟨by omega, by omega⟩ (fun h50 => ?_) (fun h50 => ?_)
        · exact absurd h50 (by decide)
        · refine g_iconst (Y := Y_X5_fill) (pc' := 54) dX5_fill_53 rfl ?_
          exact g_iret (Y := Y_X5_fill) dX5_fill_54 rfl (Nat.zero_le _) (Nat.zero_le _) (⟨rfl, rfl⟩)
      · have hx := ifb_t h28
        refine g_iload3 (Y := Y_X5_fill) (pc' := 32) dX5_fill_31 rfl ?_
        refine g_callSv (Y := Y_X5_fill) (s_X5_isValue v h_v) (pc' := 35) dX5_fill_32 rfl cv_X5_127 rfl rfl rfl rfl rfl ?_
        refine g_if_eq (Y := Y_X5_fill) (t := 42) (pc' := 38) dX5_fill_35 (by decide) rfl ⟨by omega, by omega⟩ (fun h35 => ?_) (fun h35 => ?_)
        · have hu := ifb_f h35
          have e : y_fill I p q v = (0, m_thr I 2) := (if_pos hg).trans (if_neg (fun q9 => hu q9.2))
          have e1 : (y_fill I p q v).1 = 0 := by rw [e]
          have e2 : (y_fill I p q v).2 = m_thr I 2 := by rw [e]
          rw [e1, e2]
          clear e e1 e2
          refine g_iconst (Y := Y_X5_fill) (pc' := 43) dX5_fill_42 rfl ?_
          refine g_putI (Y := Y_X5_fill) (pc' := 46) dX5_fill_43 rfl fp_X5_50 rfl (by first | exact t0 | exact t1 | exact r1 | exact t2 | exact t3 | exact t4 | exact t5 | exact t6 | exact t7 | exact t8 | exact t9 | exact t10 | exact t11 | exact t12 | exact t13 | exact r2 | exact r4 | exact r5 | exact r8 | exact r9 | exact r10 | exact r11 | exact r12 | exact r13 | exact r14 | exact r15 | exact r16) (by omega) ?_
          refine g_aload0 (Y := Y_X5_fill) (pc' := 47) dX5_fill_46 rfl ?_
          refine g_getI (Y := Y_X5_fill) (pc' := 50) dX5_fill_47 rfl fl_X5_50 rfl (by first | exact t0 | exact t1 | exact r1 | exact t2 | exact t3 | exact t4 | exact t5 | exact t6 | exact t7 | exact t8 | exact t9 | exact t10 | exact t11 | exact t12 | exact t13 | exact r2 | exact r4 | exact r5 | exact r8 | exact r9 | exact r10 | exact r11 | exact r12 | exact r13 | exact r14 | exact r15 | exact r16) (by omega) ?_
          rw [u2_at]
          refine g_if_le (Y := Y_X5_fill) (t := 55) (pc' := 53) dX5_fill_50 (by decide) rfl ⟨by omega, by omega⟩ (fun h50 => ?_) (fun h50 => ?_)
          · exact absurd h50 (by decide)
          · refine g_iconst (Y := Y_X5_fill) (pc' := 54) dX5_fill_53 rfl ?_
            exact g_iret (Y := Y_X5_fill) dX5_fill_54 rfl (Nat.zero_le _) (Nat.zero_le _) (⟨rfl, rfl⟩)
        · have hu := ifb_t h35
          obtain ⟨b, rfl⟩ : ∃ b : Nat, p = (b : Int) := ⟨p.toNat, by omega⟩
          obtain ⟨mq, rfl⟩ : ∃ mq : Nat, q = (mq : Int) := ⟨q.toNat, by omega⟩
          have e : y_fill I b mq v = m_flL b v mq 0 (m_lay (m_sav1 I)) := (if_pos hg).trans (if_pos ⟨hx, hu⟩)
          rw [e]
          clear e
          refine g_iconst (Y := Y_X5_fill) (pc' := 39) dX5_fill_38 rfl ?_
          refine g_goto (Y := Y_X5_fill) (t := 43) dX5_fill_39 (by decide) ?_
          refine g_putI (Y := Y_X5_fill) (pc' := 46) dX5_fill_43 rfl fp_X5_50 rfl (by first | exact t0 | exact t1 | exact r1 | exact t2 | exact t3 | exact t4 | exact t5 | exact t6 | exact t7 | exact t8 | exact t9 | exact t10 | exact t11 | exact t12 | exact t13 | exact r2 | exact r4 | exact r5 | exact r8 | exact r9 | exact r10 | exact r11 | exact r12 | exact r13 | exact r14 | exact r15 | exact r16) (by omega) ?_
          refine g_aload0 (Y := Y_X5_fill) (pc' := 47) dX5_fill_46 rfl ?_
          refine g_getI (Y := Y_X5_fill) (pc' := 50) dX5_fill_47 rfl fl_X5_50 rfl (by first | exact t0 | exact t1 | exact r1 | exact t2 | exact t3 | exact t4 | exact t5 | exact t6 | exact t7 | exact t8 | exact t9 | exact t10 | exact t11 | exact t12 | exact t13 | exact r2 | exact r4 | exact r5 | exact r8 | exact r9 | exact r10 | exact r11 | exact r12 | exact r13 | exact r14 | exact r15 | exact r16) (by omega) ?_
          rw [u2_at]
          refine g_if_le (Y := Y_X5_fill) (t := 55) (pc' := 53) dX5_fill_50 (by decide) rfl ⟨by omega, by omega⟩ (fun h50 => ?_) (fun h50 => ?_)
          · refine g_aload0 (Y := Y_X5_fill) (pc' := 56) dX5_fill_55 rfl ?_
            refine g_callVn (Y := Y_X5_fill) (c := 5) (s_X5_sav1 (I := I) hk0 h3) (pc' := 59) dX5_fill_56 rfl cv_X5_133 rfl (by first | exact t0 | exact t1 | exact r1 | exact t2 | exact t3 | exact t4 | exact t5 | exact t6 | exact t7 | exact t8 | exact t9 | exact t10 | exact t11 | exact t12 | exact t13 | exact r2 | exact r4 | exact r5 | exact r8 | exact r9 | exact r10 | exact r11 | exact r12 | exact r13 | exact r14 | exact r15 | exact r16) (by show _ < n; omega) ⟨by decide, _, rfl, rfl⟩ rfl rfl rfl rfl ?_
            refine g_aload0 (Y := Y_X5_fill) (pc' := 60) dX5_fill_59 rfl ?_
            refine g_callVn (Y := Y_X5_fill) (c := 5) (s_X5_lay (I := m_sav1 I) hk0 hz1) (pc' := 63) dX5_fill_60 rfl cv_X5_130 rfl (by first | exact t0 | exact t1 | exact r1 | exact t2 | exact t3 | exact t4 | exact t5 | exact t6 | exact t7 | exact t8 | exact t9 | exact t10 | exact t11 | exact t12 | exact t13 | exact r2 | exact r4 | exact r5 | exact r8 | exact r9 | exact r10 | exact r11 | exact r12 | exact r13 | exact r14 | exact r15 | exact r16) (by show _ < n; omega) ⟨by decide, _, rfl, rfl⟩ rfl rfl rfl rfl ?_
            refine g_iconst (Y := Y_X5_fill) (pc' := 64) dX5_fill_63 rfl ?_
            refine g_istore4 (Y := Y_X5_fill) (pc' := 66) dX5_fill_64 rfl (Nat.le_of_ble_eq_true rfl) rfl ?_
            exact s_X5_fill_lp hk0 hu (by omega) (by omega) mq 0 (m_lay (m_sav1 I)) (by omega) (ZV_lay hz1) (lay_HR hz1 hb1)
          · exact absurd (by decide) h50
    · have e : y_fill I p q v = (0, m_thr I 1) := if_neg (fun q9 => by omega)
      have e1 : (y_fill I p q v).1 = 0 := by rw [e]
      have e2 : (y_fill I p q v).2 = m_thr I 1 := by rw [e]
      rw [e1, e2]
      clear e e1 e2
      refine g_iconst (Y := Y_X5_fill) (pc' := 18) dX5_fill_17 rfl ?_
      refine g_goto (Y := Y_X5_fill) (t := 43) dX5_fill_18 (by decide) ?_
      refine g_putI (Y := Y_X5_fill) (pc' := 46) dX5_fill_43 rfl fp_X5_50 rfl (by first | exact t0 | exact t1 | exact r1 | exact t2 | exact t3 | exact t4 | exact t5 | exact t6 | exact t7 | exact t8 | exact t9 | exact t10 | exact t11 | exact t12 | exact t13 | exact r2 | exact r4 | exact r5 | exact r8 | exact r9 | exact r10 | exact r11 | exact r12 | exact r13 | exact r14 | exact r15 | exact r16) (by omega) ?_
      refine g_aload0 (Y := Y_X5_fill) (pc' := 47) dX5_fill_46 rfl ?_
      refine g_getI (Y := Y_X5_fill) (pc' := 50) dX5_fill_47 rfl fl_X5_50 rfl (by first | exact t0 | exact t1 | exact r1 | exact t2 | exact t3 | exact t4 | exact t5 | exact t6 | exact t7 | exact t8 | exact t9 | exact t10 | exact t11 | exact t12 | exact t13 | exact r2 | exact r4 | exact r5 | exact r8 | exact r9 | exact r10 | exact r11 | exact r12 | exact r13 | exact r14 | exact r15 | exact r16) (by omega) ?_
      rw [u2_at]
      refine g_if_le (Y := Y_X5_fill) (t := 55) (pc' := 53) dX5_fill_50 (by decide) rfl ⟨by omega, by omega⟩ (fun h50 => ?_) (fun h50 => ?_)
      · exact absurd h50 (by decide)
      · refine g_iconst (Y := Y_X5_fill) (pc' := 54) dX5_fill_53 rfl ?_
        exact g_iret (Y := Y_X5_fill) dX5_fill_54 rfl (Nat.zero_le _) (Nat.zero_le _) (⟨rfl, rfl⟩)
def y_drop (I : Nat → Nat → Int) (p : Int) : Int × (Nat → Nat → Int) := if 0 ≤ p ∧ p ≤ 479 then (m_sav1 I 111 (18 + p.toNat), if m_sav1 I 111 (18 + p.toNat) = -1 then m_sav1 I else m_lose (m_sav1 I) p.toNat) else (0, m_thr I 1)
set_option maxHeartbeats 2000000 in
set_option maxRecDepth 100000 in
theorem s_X5_drop {l : Launch} {E : QE} {T : Nat → Nat × Nat} {I : Nat → Nat → Int} {J : Nat → Nat → Int64} {R : Nat → Nat → Option Nat} {n z : Nat} (hk : MdB T R n) (hm9 : MV I) (p : Int) (h_p : -2147483648 ≤ p ∧ p < 2147483648)  : SpV l E Y_X5_drop [.ref (E.1 + 110), .int (iz p)] (T, I, J, R, n, z) (.int (iz (y_drop I p).1)) (T, (y_drop I p).2, J, R, n, z) := by
  have hk0 := hk
  obtain ⟨t0, t1, t2, t3, t4, t5, t6, t7, t8, t9, t10, t11, t12, t13, r1, r2, r4, r5, r8, r9, r10, r11, r12, r13, r14, r15, r16, hn⟩ := hk
  obtain ⟨hz9, hb9, hv9, h3, hsv9⟩ := id hm9
  obtain ⟨z3, zs, zs0, zd, zt, zt2, zv, zw, zk⟩ := id hz9
  have hz1 := sav1_ZV hz9
  refine Sp.of [some (.ref (E.1 + 110)), some (.int (iz p)), none] (by decide +kernel) (Nat.le_of_ble_eq_true rfl) (fun _ h => h) ?_
  refine g_aload0 (Y := Y_X5_drop) (pc' := 1) dX5_drop_0 rfl ?_
  refine g_iload1 (Y := Y_X5_drop) (pc' := 2) dX5_drop_1 rfl ?_
  refine g_callSv (Y := Y_X5_drop) (s_X5_isBlock p h_p) (pc' := 5) dX5_drop_2 rfl cv_X5_124 rfl rfl rfl rfl rfl ?_
  refine g_if_eq (Y := Y_X5_drop) (t := 12) (pc' := 8) dX5_drop_5 (by decide) rfl ⟨by omega, by omega⟩ (fun h5 => ?_) (fun h5 => ?_)
  · have hb := ifb_f h5
    have e : y_drop I p = (0, m_thr I 1) := if_neg hb
    have e1 : (y_drop I p).1 = 0 := by rw [e]
    have e2 : (y_drop I p).2 = m_thr I 1 := by rw [e]
    rw [e1, e2]
    clear e e1 e2
    refine g_iconst (Y := Y_X5_drop) (pc' := 13) dX5_drop_12 rfl ?_
    refine g_putI (Y := Y_X5_drop) (pc' := 16) dX5_drop_13 rfl fp_X5_50 rfl (by first | exact t0 | exact t1 | exact r1 | exact t2 | exact t3 | exact t4 | exact t5 | exact t6 | exact t7 | exact t8 | exact t9 | exact t10 | exact t11 | exact t12 | exact t13 | exact r2 | exact r4 | exact r5 | exact r8 | exact r9 | exact r10 | exact r11 | exact r12 | exact r13 | exact r14 | exact r15 | exact r16) (by omega) ?_
    refine g_aload0 (Y := Y_X5_drop) (pc' := 17) dX5_drop_16 rfl ?_
    refine g_getI (Y := Y_X5_drop) (pc' := 20) dX5_drop_17 rfl fl_X5_50 rfl (by first | exact t0 | exact t1 | exact r1 | exact t2 | exact t3 | exact t4 | exact t5 | exact t6 | exact t7 | exact t8 | exact t9 | exact t10 | exact t11 | exact t12 | exact t13 | exact r2 | exact r4 | exact r5 | exact r8 | exact r9 | exact r10 | exact r11 | exact r12 | exact r13 | exact r14 | exact r15 | exact r16) (by omega) ?_
    rw [u2_at]
    refine g_if_le (Y := Y_X5_drop) (t := 25) (pc' := 23) dX5_drop_20 (by decide) rfl ⟨by omega, by omega⟩ (fun h20 => ?_) (fun h20 => ?_)
    · exact absurd h20 (by decide)
    · refine g_iconst (Y := Y_X5_drop) (pc' := 24) dX5_drop_23 rfl ?_
      exact g_iret (Y := Y_X5_drop) dX5_drop_24 rfl (Nat.zero_le _) (Nat.zero_le _) (⟨rfl, rfl⟩)
  · have hb := ifb_t h5
    obtain ⟨b, rfl⟩ : ∃ b : Nat, p = (b : Int) := ⟨p.toNat, by omega⟩
    have zv1 := hz1.2.2.2.2.2.2.1 b (by omega)
    refine g_iconst (Y := Y_X5_drop) (pc' := 9) dX5_drop_8 rfl ?_
    refine g_goto (Y := Y_X5_drop) (t := 13) dX5_drop_9 (by decide) ?_
    refine g_putI (Y := Y_X5_drop) (pc' := 16) dX5_drop_13 rfl fp_X5_50 rfl (by first | exact t0 | exact t1 | exact r1 | exact t2 | exact t3 | exact t4 | exact t5 | exact t6 | exact t7 | exact t8 | exact t9 | exact t10 | exact t11 | exact t12 | exact t13 | exact r2 | exact r4 | exact r5 | exact r8 | exact r9 | exact r10 | exact r11 | exact r12 | exact r13 | exact r14 | exact r15 | exact r16) (by omega) ?_
    refine g_aload0 (Y := Y_X5_drop) (pc' := 17) dX5_drop_16 rfl ?_
    refine g_getI (Y := Y_X5_drop) (pc' := 20) dX5_drop_17 rfl fl_X5_50 rfl (by first | exact t0 | exact t1 | exact r1 | exact t2 | exact t3 | exact t4 | exact t5 | exact t6 | exact t7 | exact t8 | exact t9 | exact t10 | exact t11 | exact t12 | exact t13 | exact r2 | exact r4 | exact r5 | exact r8 | exact r9 | exact r10 | exact r11 | exact r12 | exact r13 | exact r14 | exact r15 | exact r16) (by omega) ?_
    rw [u2_at]
    refine g_if_le (Y := Y_X5_drop) (t := 25) (pc' := 23) dX5_drop_20 (by decide) rfl ⟨by omega, by omega⟩ (fun h20 => ?_) (fun h20 => ?_)
    · refine g_aload0 (Y := Y_X5_drop) (pc' := 26) dX5_drop_25 rfl ?_
      refine g_callVn (Y := Y_X5_drop) (c := 5) (s_X5_sav1 (I := I) hk0 h3) (pc' := 29) dX5_drop_26 rfl cv_X5_133 rfl (by first | exact t0 | exact t1 | exact r1 | exact t2 | exact t3 | exact t4 | exact t5 | exact t6 | exact t7 | exact t8 | exact t9 | exact t10 | exact t11 | exact t12 | exact t13 | exact r2 | exact r4 | exact r5 | exact r8 | exact r9 | exact r10 | exact r11 | exact r12 | exact r13 | exact r14 | exact r15 | exact r16) (by show _ < n; omega) ⟨by decide, _, rfl, rfl⟩ rfl rfl rfl rfl ?_
      refine g_aload0 (Y := Y_X5_drop) (pc' := 30) dX5_drop_29 rfl ?_
      refine g_getR (Y := Y_X5_drop) (pc' := 33) dX5_drop_30 rfl fl_X5_7 rfl (by first | exact t0 | exact t1 | exact r1 | exact t2 | exact t3 | exact t4 | exact t5 | exact t6 | exact t7 | exact t8 | exact t9 | exact t10 | exact t11 | exact t12 | exact t13 | exact r2 | exact r4 | exact r5 | exact r8 | exact r9 | exact r10 | exact r11 | exact r12 | exact r13 | exact r14 | exact r15 | exact r16) (by omega) (by first | exact t0 | exact t1 | exact r1 | exact t2 | exact t3 | exact t4 | exact t5 | exact t6 | exact t7 | exact t8 | exact t9 | exact t10 | exact t11 | exact t12 | exact t13 | exact r2 | exact r4 | exact r5 | exact r8 | exact r9 | exact r10 | exact r11 | exact r12 | exact r13 | exact r14 | exact r15 | exact r16) ?_
      refine g_bipush (Y := Y_X5_drop) (pc' := 35) dX5_drop_33 rfl (by decide) ?_
      refine g_iload1 (Y := Y_X5_drop) (pc' := 36) dX5_drop_35 rfl ?_
      refine g_iadd (Y := Y_X5_drop) (pc' := 37) dX5_drop_36 rfl ?_
      refine g_iald (Y := Y_X5_drop) (pc' := 38) dX5_drop_37 rfl (by first | exact t0 | exact t1 | exact r1 | exact t2 | exact t3 | exact t4 | exact t5 | exact t6 | exact t7 | exact t8 | exact t9 | exact t10 | exact t11 | exact t12 | exact t13 | exact r2 | exact r4 | exact r5 | exact r8 | exact r9 | exact r10 | exact r11 | exact r12 | exact r13 | exact r14 | exact r15 | exact r16) (by omega) (by decide) ⟨by omega, by omega⟩ ?_
      rw [show (18 + (b : Int)).toNat = 18 + b by omega]
      refine g_istore2 (Y := Y_X5_drop) (pc' := 39) dX5_drop_38 rfl (Nat.le_of_ble_eq_true rfl) rfl ?_
      refine g_iload2 (Y := Y_X5_drop) (pc' := 40) dX5_drop_39 rfl ?_
      refine g_iconst (Y := Y_X5_drop) (pc' := 41) dX5_drop_40 rfl ?_
      refine g_icmp_eq (Y := Y_X5_drop) (t := 49) (pc' := 44) dX5_drop_41 (by decide) rfl ⟨by omega, by omega⟩ ⟨by omega, by omega⟩ (fun h41 => ?_) (fun h41 => ?_)
      · have e : y_drop I b = (m_sav1 I 111 (18 + b), m_sav1 I) := (if_pos hb).trans (by rw [show (b : Int).toNat = b from rfl, if_pos h41])
        have e1 : (y_drop I b).1 = m_sav1 I 111 (18 + b) := by rw [e]
        have e2 : (y_drop I b).2 = m_sav1 I := by rw [e]
        rw [e1, e2]
        clear e e1 e2
        refine g_iload2 (Y := Y_X5_drop) (pc' := 50) dX5_drop_49 rfl ?_
        exact g_iret (Y := Y_X5_drop) dX5_drop_50 rfl (Nat.zero_le _) (Nat.zero_le _) (⟨rfl, rfl⟩)
      · have e : y_drop I b = (m_sav1 I 111 (18 + b), m_lose (m_sav1 I) b) := (if_pos hb).trans (by rw [show (b : Int).toNat = b from rfl, if_neg h41])
        have e1 : (y_drop I b).1 = m_sav1 I 111 (18 + b) := by rw [e]
        have e2 : (y_drop I b).2 = m_lose (m_sav1 I) b := by rw [e]
        rw [e1, e2]
        clear e e1 e2
        refine g_aload0 (Y := Y_X5_drop) (pc' := 45) dX5_drop_44 rfl ?_
        refine g_iload1 (Y := Y_X5_drop) (pc' := 46) dX5_drop_45 rfl ?_
        refine g_callVn (Y := Y_X5_drop) (c := 5) (s_X5_lose (I := m_sav1 I) hk0 b (by omega) (hz1.2.2.2.2.2.2.2.1 b (by omega))) (pc' := 49) dX5_drop_46 rfl cv_X5_139 rfl (by first | exact t0 | exact t1 | exact r1 | exact t2 | exact t3 | exact t4 | exact t5 | exact t6 | exact t7 | exact t8 | exact t9 | exact t10 | exact t11 | exact t12 | exact t13 | exact r2 | exact r4 | exact r5 | exact r8 | exact r9 | exact r10 | exact r11 | exact r12 | exact r13 | exact r14 | exact r15 | exact r16) (by show _ < n; omega) ⟨by decide, _, rfl, rfl⟩ rfl rfl rfl rfl ?_
        refine g_iload2 (Y := Y_X5_drop) (pc' := 50) dX5_drop_49 rfl ?_
        exact g_iret (Y := Y_X5_drop) dX5_drop_50 rfl (Nat.zero_le _) (Nat.zero_le _) (⟨rfl, rfl⟩)
    · exact absurd (by decide) h20
