/-! the reference: its numbers are put aside, brought back -/
def m_pa : Nat → Nat → (Nat → Nat → Int) → Nat → Nat → Int
  | 0, _, I => I
  | f + 1, c, I => m_pa f (c + 1) (u2 I 113 c (I 111 c))
def m_bb : Nat → Nat → (Nat → Nat → Int) → Nat → Nat → Int
  | 0, _, I => I
  | f + 1, c, I => m_bb f (c + 1) (u2 I 111 c (I 113 c))
set_option maxHeartbeats 2000000 in
set_option maxRecDepth 100000 in
theorem s_X5_putAside_lp {l : Launch} {E : QE} {T : Nat → Nat × Nat} {J : Nat → Nat → Int64} {R : Nat → Nat → Option Nat} {n z : Nat} (hk : MdB T R n) : ∀ (f c : Nat) (I : Nat → Nat → Int), c + f = 1554 → Go l E Y_X5_putAside 0 0 2 [some (.ref (E.1 + 110)), some (.int (iz (c : Int)))] [] (T, I, J, R, n, z) (KN (T, m_pa f c I, J, R, n, z)) := by
  have hk0 := hk
  obtain ⟨t0, t1, t2, t3, t4, t5, t6, t7, t8, t9, t10, t11, t12, t13, r1, r2, r4, r5, r8, r9, r10, r11, r12, r13, r14, r15, r16, hn⟩ := hk
  intro f
  induction f with
  | zero =>
    intro c I hf
    refine g_iload1 (Y := Y_X5_putAside) (pc' := 3) dX5_putAside_2 rfl ?_
    refine g_sipush (Y := Y_X5_putAside) (pc' := 6) dX5_putAside_3 rfl (by decide) ?_
    refine g_icmp_ge (Y := Y_X5_putAside) (t := 27) (pc' := 9) dX5_putAside_6 (by decide) rfl ⟨by omega, by omega⟩ ⟨by omega, by omega⟩ (fun h6 => ?_) (fun h6 => ?_)
    · exact g_vret (Y := Y_X5_putAside) dX5_putAside_27 rfl (Nat.zero_le _) (Nat.zero_le _) (⟨rfl, rfl⟩)
    · exfalso; omega
  | succ f ih =>
    intro c I hf
    refine g_iload1 (Y := Y_X5_putAside) (pc' := 3) dX5_putAside_2 rfl ?_
    refine g_sipush (Y := Y_X5_putAside) (pc' := 6) dX5_putAside_3 rfl (by decide) ?_
    refine g_icmp_ge (Y := Y_X5_putAside) (t := 27) (pc' := 9) dX5_putAside_6 (by decide) rfl ⟨by omega, by omega⟩ ⟨by omega, by omega⟩ (fun h6 => ?_) (fun h6 => ?_)
    · exfalso; omega
    · refine g_aload0 (Y := Y_X5_putAside) (pc' := 10) dX5_putAside_9 rfl ?_
      refine g_getR (Y := Y_X5_putAside) (pc' := 13) dX5_putAside_10 rfl fl_X5_16 rfl (by assumption) (by omega) (by assumption) ?_
      refine g_iload1 (Y := Y_X5_putAside) (pc' := 14) dX5_putAside_13 rfl ?_
      refine g_aload0 (Y := Y_X5_putAside) (pc' := 15) dX5_putAside_14 rfl ?_
      refine g_getR (Y := Y_X5_putAside) (pc' := 18) dX5_putAside_15 rfl fl_X5_7 rfl (by assumption) (by omega) (by assumption) ?_
      refine g_iload1 (Y := Y_X5_putAside) (pc' := 19) dX5_putAside_18 rfl ?_
      refine g_iald (Y := Y_X5_putAside) (pc' := 20) dX5_putAside_19 rfl (by assumption) (by omega) (by decide) ⟨by omega, by omega⟩ ?_
      refine g_iast (Y := Y_X5_putAside) (pc' := 21) dX5_putAside_20 rfl (by assumption) (by omega) (by decide) ⟨by omega, by omega⟩ ?_
      refine g_iinc1 (Y := Y_X5_putAside) (pc' := 24) dX5_putAside_21 rfl (Nat.le_of_ble_eq_true rfl) rfl ?_
      refine g_goto (Y := Y_X5_putAside) (t := 2) dX5_putAside_24 (by decide) ?_
      exact ih (c + 1) _ (by omega)
set_option maxHeartbeats 2000000 in
set_option maxRecDepth 100000 in
theorem s_X5_putAside {l : Launch} {E : QE} {T : Nat → Nat × Nat} {I : Nat → Nat → Int} {J : Nat → Nat → Int64} {R : Nat → Nat → Option Nat} {n z : Nat} (hk : MdB T R n)  : SpN l E Y_X5_putAside [.ref (E.1 + 110)] (T, I, J, R, n, z) (T, m_pa 1554 0 I, J, R, n, z) := by
  have hk0 := hk
  refine Sp.of [some (.ref (E.1 + 110)), none] (by decide +kernel) (Nat.le_of_ble_eq_true rfl) (fun _ h => h) ?_
  refine g_iconst (Y := Y_X5_putAside) (pc' := 1) dX5_putAside_0 rfl ?_
  refine g_istore1 (Y := Y_X5_putAside) (pc' := 2) dX5_putAside_1 rfl (Nat.le_of_ble_eq_true rfl) rfl ?_
  exact s_X5_putAside_lp hk0 1554 0 I rfl
set_option maxHeartbeats 2000000 in
set_option maxRecDepth 100000 in
theorem s_X5_bringBack_lp {l : Launch} {E : QE} {T : Nat → Nat × Nat} {J : Nat → Nat → Int64} {R : Nat → Nat → Option Nat} {n z : Nat} (hk : MdB T R n) : ∀ (f c : Nat) (I : Nat → Nat → Int), c + f = 1554 → Go l E Y_X5_bringBack 0 0 2 [some (.ref (E.1 + 110)), some (.int (iz (c : Int)))] [] (T, I, J, R, n, z) (KN (T, m_bb f c I, J, R, n, z)) := by
  have hk0 := hk
  obtain ⟨t0, t1, t2, t3, t4, t5, t6, t7, t8, t9, t10, t11, t12, t13, r1, r2, r4, r5, r8, r9, r10, r11, r12, r13, r14, r15, r16, hn⟩ := hk
  intro f
  induction f with
  | zero =>
    intro c I hf
    refine g_iload1 (Y := Y_X5_bringBack) (pc' := 3) dX5_bringBack_2 rfl ?_
    refine g_sipush (Y := Y_X5_bringBack) (pc' := 6) dX5_bringBack_3 rfl (by decide) ?_
    refine g_icmp_ge (Y := Y_X5_bringBack) (t := 27) (pc' := 9) dX5_bringBack_6 (by decide) rfl ⟨by omega, by omega⟩ ⟨by omega, by omega⟩ (fun h6 => ?_) (fun h6 => ?_)
    · exact g_vret (Y := Y_X5_bringBack) dX5_bringBack_27 rfl (Nat.zero_le _) (Nat.zero_le _) (⟨rfl, rfl⟩)
    · exfalso; omega
  | succ f ih =>
    intro c I hf
    refine g_iload1 (Y := Y_X5_bringBack) (pc' := 3) dX5_bringBack_2 rfl ?_
    refine g_sipush (Y := Y_X5_bringBack) (pc' := 6) dX5_bringBack_3 rfl (by decide) ?_
    refine g_icmp_ge (Y := Y_X5_bringBack) (t := 27) (pc' := 9) dX5_bringBack_6 (by decide) rfl ⟨by omega, by omega⟩ ⟨by omega, by omega⟩ (fun h6 => ?_) (fun h6 => ?_)
    · exfalso; omega
    · refine g_aload0 (Y := Y_X5_bringBack) (pc' := 10) dX5_bringBack_9 rfl ?_
      refine g_getR (Y := Y_X5_bringBack) (pc' := 13) dX5_bringBack_10 rfl fl_X5_7 rfl (by assumption) (by omega) (by assumption) ?_
      refine g_iload1 (Y := Y_X5_bringBack) (pc' := 14) dX5_bringBack_13 rfl ?_
      refine g_aload0 (Y := Y_X5_bringBack) (pc' := 15) dX5_bringBack_14 rfl ?_
      refine g_getR (Y := Y_X5_bringBack) (pc' := 18) dX5_bringBack_15 rfl fl_X5_16 rfl (by assumption) (by omega) (by assumption) ?_
      refine g_iload1 (Y := Y_X5_bringBack) (pc' := 19) dX5_bringBack_18 rfl ?_
      refine g_iald (Y := Y_X5_bringBack) (pc' := 20) dX5_bringBack_19 rfl (by assumption) (by omega) (by decide) ⟨by omega, by omega⟩ ?_
      refine g_iast (Y := Y_X5_bringBack) (pc' := 21) dX5_bringBack_20 rfl (by assumption) (by omega) (by decide) ⟨by omega, by omega⟩ ?_
      refine g_iinc1 (Y := Y_X5_bringBack) (pc' := 24) dX5_bringBack_21 rfl (Nat.le_of_ble_eq_true rfl) rfl ?_
      refine g_goto (Y := Y_X5_bringBack) (t := 2) dX5_bringBack_24 (by decide) ?_
      exact ih (c + 1) _ (by omega)
set_option maxHeartbeats 2000000 in
set_option maxRecDepth 100000 in
theorem s_X5_bringBack {l : Launch} {E : QE} {T : Nat → Nat × Nat} {I : Nat → Nat → Int} {J : Nat → Nat → Int64} {R : Nat → Nat → Option Nat} {n z : Nat} (hk : MdB T R n)  : SpN l E Y_X5_bringBack [.ref (E.1 + 110)] (T, I, J, R, n, z) (T, m_bb 1554 0 I, J, R, n, z) := by
  have hk0 := hk
  refine Sp.of [some (.ref (E.1 + 110)), none] (by decide +kernel) (Nat.le_of_ble_eq_true rfl) (fun _ h => h) ?_
  refine g_iconst (Y := Y_X5_bringBack) (pc' := 1) dX5_bringBack_0 rfl ?_
  refine g_istore1 (Y := Y_X5_bringBack) (pc' := 2) dX5_bringBack_1 rfl (Nat.le_of_ble_eq_true rfl) rfl ?_
  exact s_X5_bringBack_lp hk0 1554 0 I rfl
