/-! the reference: what it tells -/
set_option maxHeartbeats 2000000 in
set_option maxRecDepth 100000 in
theorem s_X5_blockWith_lp {l : Launch} {E : QE} {T : Nat → Nat × Nat} {I : Nat → Nat → Int} {J : Nat → Nat → Int64} {R : Nat → Nat → Option Nat} {n z : Nat} (hk : MdB T R n) (hz9 : ZV I) {v : Int} (hv : 0 ≤ v ∧ v ≤ 999) : ∀ (f b : Nat), b + f = 480 → Go l E Y_X5_blockWith 0 0 2 [some (.ref (E.1 + 110)), some (.int (iz v)), some (.int (iz (b : Int)))] [] (T, I, J, R, n, z) (KV (.int (iz (m_bwL I v f b))) (T, I, J, R, n, z)) := by
  have hk0 := hk
  obtain ⟨t0, t1, t2, t3, t4, t5, t6, t7, t8, t9, t10, t11, t12, t13, r1, r2, r4, r5, r8, r9, r10, r11, r12, r13, r14, r15, r16, hn⟩ := hk
  obtain ⟨z3, zs, zs0, zd, zt, zt2, zv, zw, zk⟩ := id hz9
  intro f
  induction f with
  | zero =>
    intro b hf
    refine g_iload2 (Y := Y_X5_blockWith) (pc' := 3) dX5_blockWith_2 rfl ?_
    refine g_sipush (Y := Y_X5_blockWith) (pc' := 6) dX5_blockWith_3 rfl (by decide) ?_
    refine g_icmp_ge (Y := Y_X5_blockWith) (t := 30) (pc' := 9) dX5_blockWith_6 (by decide) rfl ⟨by omega, by omega⟩ ⟨by omega, by omega⟩ (fun h6 => ?_) (fun h6 => ?_)
    · refine g_iconst (Y := Y_X5_blockWith) (pc' := 31) dX5_blockWith_30 rfl ?_
      exact g_iret (Y := Y_X5_blockWith) dX5_blockWith_31 rfl (Nat.zero_le _) (Nat.zero_le _) (⟨rfl, rfl⟩)
    · exfalso; omega
  | succ f ih =>
    intro b hf
    have zvb := zv b (by omega)
    refine g_iload2 (Y := Y_X5_blockWith) (pc' := 3) dX5_blockWith_2 rfl ?_
    refine g_sipush (Y := Y_X5_blockWith) (pc' := 6) dX5_blockWith_3 rfl (by decide) ?_
    refine g_icmp_ge (Y := Y_X5_blockWith) (t := 30) (pc' := 9) dX5_blockWith_6 (by decide) rfl ⟨by omega, by omega⟩ ⟨by omega, by omega⟩ (fun h6 => ?_) (fun h6 => ?_)
    · exfalso; omega
    · refine g_aload0 (Y := Y_X5_blockWith) (pc' := 10) dX5_blockWith_9 rfl ?_
      refine g_getR (Y := Y_X5_blockWith) (pc' := 13) dX5_blockWith_10 rfl fl_X5_7 rfl (by first | exact t0 | exact t1 | exact r1 | exact t2 | exact t3 | exact t4 | exact t5 | exact t6 | exact t7 | exact t8 | exact t9 | exact t10 | exact t11 | exact t12 | exact t13 | exact r2 | exact r4 | exact r5 | exact r8 | exact r9 | exact r10 | exact r11 | exact r12 | exact r13 | exact r14 | exact r15 | exact r16) (by omega) (by first | exact t0 | exact t1 | exact r1 | exact t2 | exact t3 | exact t4 | exact t5 | exact t6 | exact t7 | exact t8 | exact t9 | exact t10 | exact t11 | exact t12 | exact t13 | exact r2 | exact r4 | exact r5 | exact r8 | exact r9 | exact r10 | exact r11 | exact r12 | exact r13 | exact r14 | exact r15 | exact r16) ?_
      refine g_bipush (Y := Y_X5_blockWith) (pc' := 15) dX5_blockWith_13 rfl (by decide) ?_
      refine g_iload2 (Y := Y_X5_blockWith) (pc' := 16) dX5_blockWith_15 rfl ?_
      refine g_iadd (Y := Y_X5_blockWith) (pc' := 17) dX5_blockWith_16 rfl ?_
      refine g_iald (Y := Y_X5_blockWith) (pc' := 18) dX5_blockWith_17 rfl (by first | exact t0 | exact t1 | exact r1 | exact t2 | exact t3 | exact t4 | exact t5 | exact t6 | exact t7 | exact t8 | exact t9 | exact t10 | exact t11 | exact t12 | exact t13 | exact r2 | exact r4 | exact r5 | exact r8 | exact r9 | exact r10 | exact r11 | exact r12 | exact r13 | exact r14 | exact r15 | exact r16) (by omega) (by decide) ⟨by omega, by omega⟩ ?_
      rw [show (18 + (b : Int)).toNat = 18 + b by omega]
      refine g_iload1 (Y := Y_X5_blockWith) (pc' := 19) dX5_blockWith_18 rfl ?_
      refine g_icmp_ne (Y := Y_X5_blockWith) (t := 24) (pc' := 22) dX5_blockWith_19 (by decide) rfl ⟨by omega, by omega⟩ ⟨by omega, by omega⟩ (fun h19 => ?_) (fun h19 => ?_)
      · have e : m_bwL I v (f + 1) b = m_bwL I v f (b + 1) := if_neg h19
        rw [e]
        clear e
        refine g_iinc2 (Y := Y_X5_blockWith) (pc' := 27) dX5_blockWith_24 rfl (Nat.le_of_ble_eq_true rfl) rfl ?_
        refine g_goto (Y := Y_X5_blockWith) (t := 2) dX5_blockWith_27 (by decide) ?_
        exact ih (b + 1) (by omega)
      · have e : m_bwL I v (f + 1) b = (b : Int) := if_pos h19
        rw [e]
        clear e
        refine g_iload2 (Y := Y_X5_blockWith) (pc' := 23) dX5_blockWith_22 rfl ?_
        exact g_iret (Y := Y_X5_blockWith) dX5_blockWith_23 rfl (Nat.zero_le _) (Nat.zero_le _) (⟨rfl, rfl⟩)
