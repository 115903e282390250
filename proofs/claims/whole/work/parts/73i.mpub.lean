/-! the reference: what else changes it -/
def y_rd (I : Nat → Nat → Int) : Int × (Nat → Nat → Int) := ((m_doL (I 110 17).toNat 0 I).1, u2 (m_doL (I 110 17).toNat 0 I).2 110 6 0)
def y_read (I : Nat → Nat → Int) : Int × (Nat → Nat → Int) := if m_rb I 110 19 = -1 then y_rd (m_sav1 (m_rb I)) else (0, m_thr (m_rb I) 1)
set_option maxHeartbeats 2000000 in
set_option maxRecDepth 100000 in
theorem s_X5_read_lp {l : Launch} {E : QE} {T : Nat → Nat × Nat} {J : Nat → Nat → Int64} {R : Nat → Nat → Option Nat} {n z : Nat} (hk : MdB T R n) : ∀ (f k9 : Nat) (I : Nat → Nat → Int), ZV I → OK9 I → (k9 : Int) + f = I 110 17 → I 110 17 ≤ 16 → Go l E Y_X5_read 0 0 32 [some (.ref (E.1 + 110)), some (.int (iz (k9 : Int)))] [] (T, I, J, R, n, z) (KV (.int (iz (m_doL f k9 I).1)) (T, u2 (m_doL f k9 I).2 110 6 0, J, R, n, z)) := by
  have hk0 := hk
  obtain ⟨t0, t1, t2, t3, t4, t5, t6, t7, t8, t9, t10, t11, t12, t13, r1, r2, r4, r5, r8, r9, r10, r11, r12, r13, r14, r15, r16, hn⟩ := hk
  intro f
  induction f with
  | zero =>
    intro k9 I hz9 ho9 hf h16
    refine g_iload1 (Y := Y_X5_read) (pc' := 33) dX5_read_32 rfl ?_
    refine g_aload0 (Y := Y_X5_read) (pc' := 34) dX5_read_33 rfl ?_
    refine g_getI (Y := Y_X5_read) (pc' := 37) dX5_read_34 rfl fl_X5_186 rfl (by first | exact t0 | exact t1 | exact r1 | exact t2 | exact t3 | exact t4 | exact t5 | exact t6 | exact t7 | exact t8 | exact t9 | exact t10 | exact t11 | exact t12 | exact t13 | exact r2 | exact r4 | exact r5 | exact r8 | exact r9 | exact r10 | exact r11 | exact r12 | exact r13 | exact r14 | exact r15 | exact r16) (by omega) ?_
    refine g_icmp_ge (Y := Y_X5_read) (t := 54) (pc' := 40) dX5_read_37 (by decide) rfl ⟨by omega, by omega⟩ ⟨by omega, by omega⟩ (fun h37 => ?_) (fun h37 => ?_)
    · refine g_aload0 (Y := Y_X5_read) (pc' := 55) dX5_read_54 rfl ?_
      refine g_iconst (Y := Y_X5_read) (pc' := 56) dX5_read_55 rfl ?_
      refine g_putI (Y := Y_X5_read) (pc' := 59) dX5_read_56 rfl fp_X5_170 rfl (by first | exact t0 | exact t1 | exact r1 | exact t2 | exact t3 | exact t4 | exact t5 | exact t6 | exact t7 | exact t8 | exact t9 | exact t10 | exact t11 | exact t12 | exact t13 | exact r2 | exact r4 | exact r5 | exact r8 | exact r9 | exact r10 | exact r11 | exact r12 | exact r13 | exact r14 | exact r15 | exact r16) (by omega) ?_
      refine g_iload1 (Y := Y_X5_read) (pc' := 60) dX5_read_59 rfl ?_
      exact g_iret (Y := Y_X5_read) dX5_read_60 rfl (Nat.zero_le _) (Nat.zero_le _) (⟨rfl, rfl⟩)
    · exfalso; omega
  | succ f ih =>
    intro k9 I hz9 ho9 hf h16
    obtain ⟨o1, o2, o3⟩ := ho9 k9 (by omega)
    have hc : 0 ≤ m_oc I k9 ∧ m_oc I k9 < 576 := by unfold m_oc; omega
    have hz1 := does_ZV hz9 hc
    have d01 := does01 (I := I) (k := k9)
    have e110 : (m_does I k9).2 110 = I 110 := does_ne (by decide)
    refine g_iload1 (Y := Y_X5_read) (pc' := 33) dX5_read_32 rfl ?_
    refine g_aload0 (Y := Y_X5_read) (pc' := 34) dX5_read_33 rfl ?_
    refine g_getI (Y := Y_X5_read) (pc' := 37) dX5_read_34 rfl fl_X5_186 rfl (by first | exact t0 | exact t1 | exact r1 | exact t2 | exact t3 | exact t4 | exact t5 | exact t6 | exact t7 | exact t8 | exact t9 | exact t10 | exact t11 | exact t12 | exact t13 | exact r2 | exact r4 | exact r5 | exact r8 | exact r9 | exact r10 | exact r11 | exact r12 | exact r13 | exact r14 | exact r15 | exact r16) (by omega) ?_
    refine g_icmp_ge (Y := Y_X5_read) (t := 54) (pc' := 40) dX5_read_37 (by decide) rfl ⟨by omega, by omega⟩ ⟨by omega, by omega⟩ (fun h37 => ?_) (fun h37 => ?_)
    · exfalso; omega
    · refine g_aload0 (Y := Y_X5_read) (pc' := 41) dX5_read_40 rfl ?_
      refine g_iload1 (Y := Y_X5_read) (pc' := 42) dX5_read_41 rfl ?_
      refine g_callVv (Y := Y_X5_read) (c := 5) (s_X5_does hk0 hz9 k9 (by omega) o1 o2 o3) (pc' := 45) dX5_read_42 rfl cv_X5_198 rfl (by first | exact t0 | exact t1 | exact r1 | exact t2 | exact t3 | exact t4 | exact t5 | exact t6 | exact t7 | exact t8 | exact t9 | exact t10 | exact t11 | exact t12 | exact t13 | exact r2 | exact r4 | exact r5 | exact r8 | exact r9 | exact r10 | exact r11 | exact r12 | exact r13 | exact r14 | exact r15 | exact r16) (by show _ < n; omega) ⟨by decide, _, rfl, rfl⟩ rfl rfl rfl rfl ?_
      refine g_if_eq (Y := Y_X5_read) (t := 54) (pc' := 48) dX5_read_45 (by decide) rfl ⟨by omega, by omega⟩ (fun h45 => ?_) (fun h45 => ?_)
      · have e : m_doL (f + 1) k9 I = ((k9 : Int), (m_does I k9).2) := if_pos h45
        have e1 : (m_doL (f + 1) k9 I).1 = (k9 : Int) := by rw [e]
        have e2 : (m_doL (f + 1) k9 I).2 = (m_does I k9).2 := by rw [e]
        rw [e1, e2]
        clear e e1 e2
        refine g_aload0 (Y := Y_X5_read) (pc' := 55) dX5_read_54 rfl ?_
        refine g_iconst (Y := Y_X5_read) (pc' := 56) dX5_read_55 rfl ?_
        refine g_putI (Y := Y_X5_read) (pc' := 59) dX5_read_56 rfl fp_X5_170 rfl (by first | exact t0 | exact t1 | exact r1 | exact t2 | exact t3 | exact t4 | exact t5 | exact t6 | exact t7 | exact t8 | exact t9 | exact t10 | exact t11 | exact t12 | exact t13 | exact r2 | exact r4 | exact r5 | exact r8 | exact r9 | exact r10 | exact r11 | exact r12 | exact r13 | exact r14 | exact r15 | exact r16) (by omega) ?_
        refine g_iload1 (Y := Y_X5_read) (pc' := 60) dX5_read_59 rfl ?_
        exact g_iret (Y := Y_X5_read) dX5_read_60 rfl (Nat.zero_le _) (Nat.zero_le _) (⟨rfl, rfl⟩)
      · have e : m_doL (f + 1) k9 I = m_doL f (k9 + 1) (m_does I k9).2 := if_neg h45
        rw [e]
        clear e
        refine g_iinc1 (Y := Y_X5_read) (pc' := 51) dX5_read_48 rfl (Nat.le_of_ble_eq_true rfl) rfl ?_
        refine g_goto (Y := Y_X5_read) (t := 32) dX5_read_51 (by decide) ?_
        exact ih (k9 + 1) _ hz1 (by unfold OK9; rw [e110, does_ne (by decide)]; exact ho9) (by rw [e110]; omega) (by rw [e110]; exact h16)
