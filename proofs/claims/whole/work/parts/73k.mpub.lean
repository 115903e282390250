/-! the reference: what else changes it -/
def m_unL (d : Nat) : Nat → Nat → (Nat → Nat → Int) → Nat → Nat → Int
  | 0, _, I => I
  | f + 1, c, I => m_unL d f (c + 1) (u2 I 111 c (I 112 (d * 1554 + c)))
theorem unL_ne {d : Nat} : ∀ (f c : Nat) (I : Nat → Nat → Int) (a : Nat), a ≠ 111 → m_unL d f c I a = I a
  | 0, _, _, _, _ => rfl
  | f + 1, c, I, a, h => by
    unfold m_unL
    rw [unL_ne f (c + 1) _ a h, u2_ne h]
def m_un1 (I : Nat → Nat → Int) : Nat → Nat → Int := u2 (m_thr I 0) 110 3 (I 110 3 - 1)
def y_undo (I : Nat → Nat → Int) : Int × (Nat → Nat → Int) := if I 110 3 = 0 then (0, m_thr I 1) else (I 110 3 - 1, m_unL (I 110 3 - 1).toNat 1554 0 (m_un1 I))
set_option maxHeartbeats 2000000 in
set_option maxRecDepth 100000 in
theorem s_X5_undo_lp {l : Launch} {E : QE} {T : Nat → Nat × Nat} {J : Nat → Nat → Int64} {R : Nat → Nat → Option Nat} {n z : Nat} (hk : MdB T R n) {d : Nat} (hd : d < 6) : ∀ (f c : Nat) (I : Nat → Nat → Int), c + f = 1554 → I 110 3 = (d : Int) → Go l E Y_X5_undo 0 0 37 [some (.ref (E.1 + 110)), some (.int (iz (c : Int)))] [] (T, I, J, R, n, z) (KV (.int (iz (d : Int))) (T, m_unL d f c I, J, R, n, z)) := by
  have hk0 := hk
  obtain ⟨t0, t1, t2, t3, t4, t5, t6, t7, t8, t9, t10, t11, t12, t13, r1, r2, r4, r5, r8, r9, r10, r11, r12, r13, r14, r15, r16, hn⟩ := hk
  intro f
  induction f with
  | zero =>
    intro c I hf h3
    refine g_iload1 (Y := Y_X5_undo) (pc' := 38) dX5_undo_37 rfl ?_
    refine g_sipush (Y := Y_X5_undo) (pc' := 41) dX5_undo_38 rfl (by decide) ?_
    refine g_icmp_ge (Y := Y_X5_undo) (t := 71) (pc' := 44) dX5_undo_41 (by decide) rfl ⟨by omega, by omega⟩ ⟨by omega, by omega⟩ (fun h41 => ?_) (fun h41 => ?_)
    · refine g_aload0 (Y := Y_X5_undo) (pc' := 72) dX5_undo_71 rfl ?_
      refine g_getI (Y := Y_X5_undo) (pc' := 75) dX5_undo_72 rfl fl_X5_62 rfl (by first | exact t0 | exact t1 | exact r1 | exact t2 | exact t3 | exact t4 | exact t5 | exact t6 | exact t7 | exact t8 | exact t9 | exact t10 | exact t11 | exact t12 | exact t13 | exact r2 | exact r4 | exact r5 | exact r8 | exact r9 | exact r10 | exact r11 | exact r12 | exact r13 | exact r14 | exact r15 | exact r16) (by omega) ?_
      rw [h3]
      exact g_iret (Y := Y_X5_undo) dX5_undo_75 rfl (Nat.zero_le _) (Nat.zero_le _) (⟨rfl, rfl⟩)
    · exfalso; omega
  | succ f ih =>
    intro c I hf h3
    refine g_iload1 (Y := Y_X5_undo) (pc' := 38) dX5_undo_37 rfl ?_
    refine g_sipush (Y := Y_X5_undo) (pc' := 41) dX5_undo_38 rfl (by decide) ?_
    refine g_icmp_ge (Y := Y_X5_undo) (t := 71) (pc' := 44) dX5_undo_41 (by decide) rfl ⟨by omega, by omega⟩ ⟨by omega, by omega⟩ (fun h41 => ?_) (fun h41 => ?_)
    · exfalso; omega
    · refine g_aload0 (Y := Y_X5_undo) (pc' := 45) dX5_undo_44 rfl ?_
      refine g_getR (Y := Y_X5_undo) (pc' := 48) dX5_undo_45 rfl fl_X5_7 rfl (by first | exact t0 | exact t1 | exact r1 | exact t2 | exact t3 | exact t4 | exact t5 | exact t6 | exact t7 | exact t8 | exact t9 | exact t10 | exact t11 | exact t12 | exact t13 | exact r2 | exact r4 | exact r5 | exact r8 | exact r9 | exact r10 | exact r11 | exact r12 | exact r13 | exact r14 | exact r15 | exact r16) (by omega) (by first | exact t0 | exact t1 | exact r1 | exact t2 | exact t3 | exact t4 | exact t5 | exact t6 | exact t7 | exact t8 | exact t9 | exact t10 | exact t11 | exact t12 | exact t13 | exact r2 | exact r4 | exact r5 | exact r8 | exact r9 | exact r10 | exact r11 | exact r12 | exact r13 | exact r14 | exact r15 | exact r16) ?_
      refine g_iload1 (Y := Y_X5_undo) (pc' := 49) dX5_undo_48 rfl ?_
      refine g_aload0 (Y := Y_X5_undo) (pc' := 50) dX5_undo_49 rfl ?_
      refine g_getR (Y := Y_X5_undo) (pc' := 53) dX5_undo_50 rfl fl_X5_13 rfl (by first | exact t0 | exact t1 | exact r1 | exact t2 | exact t3 | exact t4 | exact t5 | exact t6 | exact t7 | exact t8 | exact t9 | exact t10 | exact t11 | exact t12 | exact t13 | exact r2 | exact r4 | exact r5 | exact r8 | exact r9 | exact r10 | exact r11 | exact r12 | exact r13 | exact r14 | exact r15 | exact r16) (by omega) (by first | exact t0 | exact t1 | exact r1 | exact t2 | exact t3 | exact t4 | exact t5 | exact t6 | exact t7 | exact t8 | exact t9 | exact t10 | exact t11 | exact t12 | exact t13 | exact r2 | exact r4 | exact r5 | exact r8 | exact r9 | exact r10 | exact r11 | exact r12 | exact r13 | exact r14 | exact r15 | exact r16) ?_
      refine g_aload0 (Y := Y_X5_undo) (pc' := 54) dX5_undo_53 rfl ?_
      refine g_getI (Y := Y_X5_undo) (pc' := 57) dX5_undo_54 rfl fl_X5_62 rfl (by first | exact t0 | exact t1 | exact r1 | exact t2 | exact t3 | exact t4 | exact t5 | exact t6 | exact t7 | exact t8 | exact t9 | exact t10 | exact t11 | exact t12 | exact t13 | exact r2 | exact r4 | exact r5 | exact r8 | exact r9 | exact r10 | exact r11 | exact r12 | exact r13 | exact r14 | exact r15 | exact r16) (by omega) ?_
      rw [h3]
      refine g_sipush (Y := Y_X5_undo) (pc' := 60) dX5_undo_57 rfl (by decide) ?_
      refine g_imul (Y := Y_X5_undo) (pc' := 61) dX5_undo_60 rfl ?_
      refine g_iload1 (Y := Y_X5_undo) (pc' := 62) dX5_undo_61 rfl ?_
      refine g_iadd (Y := Y_X5_undo) (pc' := 63) dX5_undo_62 rfl ?_
      refine g_iald (Y := Y_X5_undo) (pc' := 64) dX5_undo_63 rfl (by first | exact t0 | exact t1 | exact r1 | exact t2 | exact t3 | exact t4 | exact t5 | exact t6 | exact t7 | exact t8 | exact t9 | exact t10 | exact t11 | exact t12 | exact t13 | exact r2 | exact r4 | exact r5 | exact r8 | exact r9 | exact r10 | exact r11 | exact r12 | exact r13 | exact r14 | exact r15 | exact r16) (by omega) (by decide) ⟨by omega, by omega⟩ ?_
      rw [show ((d : Int) * 1554 + (c : Int)).toNat = d * 1554 + c by omega]
      refine g_iast (Y := Y_X5_undo) (pc' := 65) dX5_undo_64 rfl (by first | exact t0 | exact t1 | exact r1 | exact t2 | exact t3 | exact t4 | exact t5 | exact t6 | exact t7 | exact t8 | exact t9 | exact t10 | exact t11 | exact t12 | exact t13 | exact r2 | exact r4 | exact r5 | exact r8 | exact r9 | exact r10 | exact r11 | exact r12 | exact r13 | exact r14 | exact r15 | exact r16) (by omega) (by decide) ⟨by omega, by omega⟩ ?_
      refine g_iinc1 (Y := Y_X5_undo) (pc' := 68) dX5_undo_65 rfl (Nat.le_of_ble_eq_true rfl) rfl ?_
      refine g_goto (Y := Y_X5_undo) (t := 37) dX5_undo_68 (by decide) ?_
      exact ih (c + 1) _ (by omega) (by rw [u2_ne (by decide)]; exact h3)
