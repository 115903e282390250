/-! the reference: what it tells -/
set_option maxHeartbeats 2000000 in
set_option maxRecDepth 100000 in
theorem s_X5_worstCell_lp {l : Launch} {E : QE} {T : Nat → Nat × Nat} {I : Nat → Nat → Int} {J : Nat → Nat → Int64} {R : Nat → Nat → Option Nat} {n z : Nat} (hk : MdB T R n) (hz9 : ZV I) (hh9 : HR I) : ∀ (f c : Nat) (b : Int), c + f = 576 → (-1 ≤ b ∧ b < 576) → Go l E Y_X5_worstCell 0 0 8 [some (.ref (E.1 + 110)), some (.int (iz b)), some (.int (iz (c : Int)))] [] (T, I, J, R, n, z) (KV (.int (iz (m_wcL I f c b))) (T, I, J, R, n, z)) := by
  have hk0 := hk
  obtain ⟨t0, t1, t2, t3, t4, t5, t6, t7, t8, t9, t10, t11, t12, t13, r1, r2, r4, r5, r8, r9, r10, r11, r12, r13, r14, r15, r16, hn⟩ := hk
  obtain ⟨z3, zs, zs0, zd, zt, zt2, zv, zw, zk⟩ := id hz9
  intro f
  induction f with
  | zero =>
    intro c b hf hb
    refine g_iload2 (Y := Y_X5_worstCell) (pc' := 9) dX5_worstCell_8 rfl ?_
    refine g_sipush (Y := Y_X5_worstCell) (pc' := 12) dX5_worstCell_9 rfl (by decide) ?_
    refine g_icmp_ge (Y := Y_X5_worstCell) (t := 55) (pc' := 15) dX5_worstCell_12 (by decide) rfl ⟨by omega, by omega⟩ ⟨by omega, by omega⟩ (fun h12 => ?_) (fun h12 => ?_)
    · refine g_iload1 (Y := Y_X5_worstCell) (pc' := 56) dX5_worstCell_55 rfl ?_
      exact g_iret (Y := Y_X5_worstCell) dX5_worstCell_56 rfl (Nat.zero_le _) (Nat.zero_le _) (⟨rfl, rfl⟩)
    · exfalso; omega
  | succ f ih =>
    intro c b hf hb
    have av01 := m_isAv01 (I := I) (c := c)
    obtain ⟨hh1, hh2⟩ := id hh9
    have hhc := hh1 c
    have hhb := hh1 b.toNat
    refine g_iload2 (Y := Y_X5_worstCell) (pc' := 9) dX5_worstCell_8 rfl ?_
    refine g_sipush (Y := Y_X5_worstCell) (pc' := 12) dX5_worstCell_9 rfl (by decide) ?_
    refine g_icmp_ge (Y := Y_X5_worstCell) (t := 55) (pc' := 15) dX5_worstCell_12 (by decide) rfl ⟨by omega, by omega⟩ ⟨by omega, by omega⟩ (fun h12 => ?_) (fun h12 => ?_)
    · exfalso; omega
    · refine g_aload0 (Y := Y_X5_worstCell) (pc' := 16) dX5_worstCell_15 rfl ?_
      refine g_iload2 (Y := Y_X5_worstCell) (pc' := 17) dX5_worstCell_16 rfl ?_
      refine g_callVv (Y := Y_X5_worstCell) (c := 5) (s_X5_isAvoided hk0 hh9 c (by omega)) (pc' := 20) dX5_worstCell_17 rfl cv_X5_207 rfl (by first | exact t0 | exact t1 | exact r1 | exact t2 | exact t3 | exact t4 | exact t5 | exact t6 | exact t7 | exact t8 | exact t9 | exact t10 | exact t11 | exact t12 | exact t13 | exact r2 | exact r4 | exact r5 | exact r8 | exact r9 | exact r10 | exact r11 | exact r12 | exact r13 | exact r14 | exact r15 | exact r16) (by show _ < n; omega) ⟨by decide, _, rfl, rfl⟩ rfl rfl rfl rfl ?_
      refine g_if_eq (Y := Y_X5_worstCell) (t := 47) (pc' := 23) dX5_worstCell_20 (by decide) rfl ⟨by omega, by omega⟩ (fun h20 => ?_) (fun h20 => ?_)
      · have e : m_wcL I (f + 1) c b = m_wcL I f (c + 1) b := if_neg (fun q9 => q9.1 h20)
        rw [e]
        clear e
        refine g_iload1 (Y := Y_X5_worstCell) (pc' := 48) dX5_worstCell_47 rfl ?_
        refine g_istore1 (Y := Y_X5_worstCell) (pc' := 49) dX5_worstCell_48 rfl (Nat.le_of_ble_eq_true rfl) rfl ?_
        refine g_iinc2 (Y := Y_X5_worstCell) (pc' := 52) dX5_worstCell_49 rfl (Nat.le_of_ble_eq_true rfl) rfl ?_
        refine g_goto (Y := Y_X5_worstCell) (t := 8) dX5_worstCell_52 (by decide) ?_
        exact ih (c + 1) _ (by omega) (by omega)
      · refine g_iload1 (Y := Y_X5_worstCell) (pc' := 24) dX5_worstCell_23 rfl ?_
        refine g_iconst (Y := Y_X5_worstCell) (pc' := 25) dX5_worstCell_24 rfl ?_
        refine g_icmp_eq (Y := Y_X5_worstCell) (t := 43) (pc' := 28) dX5_worstCell_25 (by decide) rfl ⟨by omega, by omega⟩ ⟨by omega, by omega⟩ (fun h25 => ?_) (fun h25 => ?_)
        · have e : m_wcL I (f + 1) c b = m_wcL I f (c + 1) (c : Int) := if_pos ⟨h20, Or.inl h25⟩
          rw [e]
          clear e
          refine g_iload2 (Y := Y_X5_worstCell) (pc' := 44) dX5_worstCell_43 rfl ?_
          refine g_goto (Y := Y_X5_worstCell) (t := 48) dX5_worstCell_44 (by decide) ?_
          refine g_istore1 (Y := Y_X5_worstCell) (pc' := 49) dX5_worstCell_48 rfl (Nat.le_of_ble_eq_true rfl) rfl ?_
          refine g_iinc2 (Y := Y_X5_worstCell) (pc' := 52) dX5_worstCell_49 rfl (Nat.le_of_ble_eq_true rfl) rfl ?_
          refine g_goto (Y := Y_X5_worstCell) (t := 8) dX5_worstCell_52 (by decide) ?_
          exact ih (c + 1) _ (by omega) (by omega)
        · refine g_aload0 (Y := Y_X5_worstCell) (pc' := 29) dX5_worstCell_28 rfl ?_
          refine g_getR (Y := Y_X5_worstCell) (pc' := 32) dX5_worstCell_29 rfl fl_X5_40 rfl (by first | exact t0 | exact t1 | exact r1 | exact t2 | exact t3 | exact t4 | exact t5 | exact t6 | exact t7 | exact t8 | exact t9 | exact t10 | exact t11 | exact t12 | exact t13 | exact r2 | exact r4 | exact r5 | exact r8 | exact r9 | exact r10 | exact r11 | exact r12 | exact r13 | exact r14 | exact r15 | exact r16) (by omega) (by first | exact t0 | exact t1 | exact r1 | exact t2 | exact t3 | exact t4 | exact t5 | exact t6 | exact t7 | exact t8 | exact t9 | exact t10 | exact t11 | exact t12 | exact t13 | exact r2 | exact r4 | exact r5 | exact r8 | exact r9 | exact r10 | exact r11 | exact r12 | exact r13 | exact r14 | exact r15 | exact r16) ?_
          refine g_iload2 (Y := Y_X5_worstCell) (pc' := 33) dX5_worstCell_32 rfl ?_
          refine g_iald (Y := Y_X5_worstCell) (pc' := 34) dX5_worstCell_33 rfl (by first | exact t0 | exact t1 | exact r1 | exact t2 | exact t3 | exact t4 | exact t5 | exact t6 | exact t7 | exact t8 | exact t9 | exact t10 | exact t11 | exact t12 | exact t13 | exact r2 | exact r4 | exact r5 | exact r8 | exact r9 | exact r10 | exact r11 | exact r12 | exact r13 | exact r14 | exact r15 | exact r16) (by omega) (by decide) ⟨by omega, by omega⟩ ?_
          rw [show (c : Int).toNat = c from rfl]
          refine g_aload0 (Y := Y_X5_worstCell) (pc' := 35) dX5_worstCell_34 rfl ?_
          refine g_getR (Y := Y_X5_worstCell) (pc' := 38) dX5_worstCell_35 rfl fl_X5_40 rfl (by first | exact t0 | exact t1 | exact r1 | exact t2 | exact t3 | exact t4 | exact t5 | exact t6 | exact t7 | exact t8 | exact t9 | exact t10 | exact t11 | exact t12 | exact t13 | exact r2 | exact r4 | exact r5 | exact r8 | exact r9 | exact r10 | exact r11 | exact r12 | exact r13 | exact r14 | exact r15 | exact r16) (by omega) (by first | exact t0 | exact t1 | exact r1 | exact t2 | exact t3 | exact t4 | exact t5 | exact t6 | exact t7 | exact t8 | exact t9 | exact t10 | exact t11 | exact t12 | exact t13 | exact r2 | exact r4 | exact r5 | exact r8 | exact r9 | exact r10 | exact r11 | exact r12 | exact r13 | exact r14 | exact r15 | exact r16) ?_
          refine g_iload1 (Y := Y_X5_worstCell) (pc' := 39) dX5_worstCell_38 rfl ?_
          refine g_iald (Y := Y_X5_worstCell) (pc' := 40) dX5_worstCell_39 rfl (by first | exact t0 | exact t1 | exact r1 | exact t2 | exact t3 | exact t4 | exact t5 | exact t6 | exact t7 | exact t8 | exact t9 | exact t10 | exact t11 | exact t12 | exact t13 | exact r2 | exact r4 | exact r5 | exact r8 | exact r9 | exact r10 | exact r11 | exact r12 | exact r13 | exact r14 | exact r15 | exact r16) (by omega) (by decide) ⟨by omega, by omega⟩ ?_
          refine g_icmp_le (Y := Y_X5_worstCell) (t := 47) (pc' := 43) dX5_worstCell_40 (by decide) rfl ⟨by omega, by omega⟩ ⟨by omega, by omega⟩ (fun h40 => ?_) (fun h40 => ?_)
          · have e : m_wcL I (f + 1) c b = m_wcL I f (c + 1) b := if_neg (fun q9 => by omega)
            rw [e]
            clear e
            refine g_iload1 (Y := Y_X5_worstCell) (pc' := 48) dX5_worstCell_47 rfl ?_
            refine g_istore1 (Y := Y_X5_worstCell) (pc' := 49) dX5_worstCell_48 rfl (Nat.le_of_ble_eq_true rfl) rfl ?_
            refine g_iinc2 (Y := Y_X5_worstCell) (pc' := 52) dX5_worstCell_49 rfl (Nat.le_of_ble_eq_true rfl) rfl ?_
            refine g_goto (Y := Y_X5_worstCell) (t := 8) dX5_worstCell_52 (by decide) ?_
            exact ih (c + 1) _ (by omega) (by omega)
          · have e : m_wcL I (f + 1) c b = m_wcL I f (c + 1) (c : Int) := if_pos ⟨h20, Or.inr (by omega)⟩
            rw [e]
            clear e
            refine g_iload2 (Y := Y_X5_worstCell) (pc' := 44) dX5_worstCell_43 rfl ?_
            refine g_goto (Y := Y_X5_worstCell) (t := 48) dX5_worstCell_44 (by decide) ?_
            refine g_istore1 (Y := Y_X5_worstCell) (pc' := 49) dX5_worstCell_48 rfl (Nat.le_of_ble_eq_true rfl) rfl ?_
            refine g_iinc2 (Y := Y_X5_worstCell) (pc' := 52) dX5_worstCell_49 rfl (Nat.le_of_ble_eq_true rfl) rfl ?_
            refine g_goto (Y := Y_X5_worstCell) (t := 8) dX5_worstCell_52 (by decide) ?_
            exact ih (c + 1) _ (by omega) (by omega)
