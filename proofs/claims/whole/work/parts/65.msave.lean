/-! the reference: it saves -/
def m_sh : Nat → Nat → (Nat → Nat → Int) → Nat → Nat → Int
  | 0, _, I => I
  | f + 1, c, I => m_sh f (c + 1) (u2 I 112 c (I 112 (c + 1554)))
def m_sv (d : Nat) : Nat → Nat → (Nat → Nat → Int) → Nat → Nat → Int
  | 0, _, I => I
  | f + 1, c, I => m_sv d f (c + 1) (u2 I 112 (d * 1554 + c) (I 111 c))
def m_sv0 (I : Nat → Nat → Int) : Nat → Nat → Int := if I 110 3 = 6 then u2 (m_sh 7770 0 I) 110 3 (I 110 3 - 1) else I
def m_save (I : Nat → Nat → Int) : Nat → Nat → Int := u2 (m_sv (m_sv0 I 110 3).toNat 1554 0 (m_sv0 I)) 110 3 (m_sv0 I 110 3 + 1)
theorem sh_ne : ∀ (f c : Nat) (I : Nat → Nat → Int) (a : Nat), a ≠ 112 → m_sh f c I a = I a
  | 0, _, _, _, _ => rfl
  | f + 1, c, I, a, h => by
    unfold m_sh
    rw [sh_ne f (c + 1) _ a h, u2_ne h]
theorem sv_ne {d : Nat} : ∀ (f c : Nat) (I : Nat → Nat → Int) (a : Nat), a ≠ 112 → m_sv d f c I a = I a
  | 0, _, _, _, _ => rfl
  | f + 1, c, I, a, h => by
    unfold m_sv
    rw [sv_ne f (c + 1) _ a h, u2_ne h]
set_option maxHeartbeats 2000000 in
set_option maxRecDepth 100000 in
theorem s_X5_save_sh {l : Launch} {E : QE} {T : Nat → Nat × Nat} {J : Nat → Nat → Int64} {R : Nat → Nat → Option Nat} {n z : Nat} (hk : MdB T R n) {K : Option Value → QW → Prop} : ∀ (f c : Nat) (I : Nat → Nat → Int), c + f = 7770 → (∀ L1 : Int, Go l E Y_X5_save 0 0 40 [some (.ref (E.1 + 110)), some (.int (iz L1))] [] (T, (m_sh f c I), J, R, n, z) K) → Go l E Y_X5_save 0 0 11 [some (.ref (E.1 + 110)), some (.int (iz (c : Int)))] [] (T, I, J, R, n, z) K := by
  have hk0 := hk
  obtain ⟨t0, t1, t2, t3, t4, t5, t6, t7, t8, t9, t10, t11, t12, t13, r1, r2, r4, r5, r8, r9, r10, r11, r12, r13, r14, r15, r16, hn⟩ := hk
  intro f
  induction f with
  | zero =>
    intro c I hf hend
    refine g_iload1 (Y := Y_X5_save) (pc' := 12) dX5_save_11 rfl ?_
    refine g_sipush (Y := Y_X5_save) (pc' := 15) dX5_save_12 rfl (by decide) ?_
    refine g_icmp_ge (Y := Y_X5_save) (t := 40) (pc' := 18) dX5_save_15 (by decide) rfl ⟨by omega, by omega⟩ ⟨by omega, by omega⟩ (fun h15 => ?_) (fun h15 => ?_)
    · exact hend _
    · exfalso; omega
  | succ f ih =>
    intro c I hf hend
    refine g_iload1 (Y := Y_X5_save) (pc' := 12) dX5_save_11 rfl ?_
    refine g_sipush (Y := Y_X5_save) (pc' := 15) dX5_save_12 rfl (by decide) ?_
    refine g_icmp_ge (Y := Y_X5_save) (t := 40) (pc' := 18) dX5_save_15 (by decide) rfl ⟨by omega, by omega⟩ ⟨by omega, by omega⟩ (fun h15 => ?_) (fun h15 => ?_)
    · exfalso; omega
    · refine g_aload0 (Y := Y_X5_save) (pc' := 19) dX5_save_18 rfl ?_
      refine g_getR (Y := Y_X5_save) (pc' := 22) dX5_save_19 rfl fl_X5_13 rfl (by assumption) (by omega) (by assumption) ?_
      refine g_iload1 (Y := Y_X5_save) (pc' := 23) dX5_save_22 rfl ?_
      refine g_aload0 (Y := Y_X5_save) (pc' := 24) dX5_save_23 rfl ?_
      refine g_getR (Y := Y_X5_save) (pc' := 27) dX5_save_24 rfl fl_X5_13 rfl (by assumption) (by omega) (by assumption) ?_
      refine g_iload1 (Y := Y_X5_save) (pc' := 28) dX5_save_27 rfl ?_
      refine g_sipush (Y := Y_X5_save) (pc' := 31) dX5_save_28 rfl (by decide) ?_
      refine g_iadd (Y := Y_X5_save) (pc' := 32) dX5_save_31 rfl ?_
      refine g_iald (Y := Y_X5_save) (pc' := 33) dX5_save_32 rfl (by assumption) (by omega) (by decide) ⟨by omega, by omega⟩ ?_
      rw [show ((c : Int) + 1554).toNat = c + 1554 by omega]
      refine g_iast (Y := Y_X5_save) (pc' := 34) dX5_save_33 rfl (by assumption) (by omega) (by decide) ⟨by omega, by omega⟩ ?_
      refine g_iinc1 (Y := Y_X5_save) (pc' := 37) dX5_save_34 rfl (Nat.le_of_ble_eq_true rfl) rfl ?_
      refine g_goto (Y := Y_X5_save) (t := 11) dX5_save_37 (by decide) ?_
      exact ih (c + 1) _ (by omega) hend
set_option maxHeartbeats 2000000 in
set_option maxRecDepth 100000 in
theorem s_X5_save_sv {l : Launch} {E : QE} {T : Nat → Nat × Nat} {J : Nat → Nat → Int64} {R : Nat → Nat → Option Nat} {n z : Nat} (hk : MdB T R n) {d : Nat} (hd : d < 6) : ∀ (f c : Nat) (I : Nat → Nat → Int), c + f = 1554 → I 110 3 = (d : Int) → Go l E Y_X5_save 0 0 52 [some (.ref (E.1 + 110)), some (.int (iz (c : Int)))] [] (T, I, J, R, n, z) (KN (T, u2 (m_sv d f c I) 110 3 ((d : Int) + 1), J, R, n, z)) := by
  have hk0 := hk
  obtain ⟨t0, t1, t2, t3, t4, t5, t6, t7, t8, t9, t10, t11, t12, t13, r1, r2, r4, r5, r8, r9, r10, r11, r12, r13, r14, r15, r16, hn⟩ := hk
  intro f
  induction f with
  | zero =>
    intro c I hf h3
    refine g_iload1 (Y := Y_X5_save) (pc' := 53) dX5_save_52 rfl ?_
    refine g_sipush (Y := Y_X5_save) (pc' := 56) dX5_save_53 rfl (by decide) ?_
    refine g_icmp_ge (Y := Y_X5_save) (t := 86) (pc' := 59) dX5_save_56 (by decide) rfl ⟨by omega, by omega⟩ ⟨by omega, by omega⟩ (fun h56 => ?_) (fun h56 => ?_)
    · refine g_aload0 (Y := Y_X5_save) (pc' := 87) dX5_save_86 rfl ?_
      refine g_dup (Y := Y_X5_save) (pc' := 88) dX5_save_87 rfl rfl ?_
      refine g_getI (Y := Y_X5_save) (pc' := 91) dX5_save_88 rfl fl_X5_62 rfl (by assumption) (by omega) ?_
      refine g_iconst (Y := Y_X5_save) (pc' := 92) dX5_save_91 rfl ?_
      refine g_iadd (Y := Y_X5_save) (pc' := 93) dX5_save_92 rfl ?_
      refine g_putI (Y := Y_X5_save) (pc' := 96) dX5_save_93 rfl fp_X5_62 rfl (by assumption) (by omega) ?_
      exact g_vret (Y := Y_X5_save) dX5_save_96 rfl (Nat.zero_le _) (Nat.zero_le _) (⟨rfl, by rw [h3]; rfl⟩)
    · exfalso; omega
  | succ f ih =>
    intro c I hf h3
    refine g_iload1 (Y := Y_X5_save) (pc' := 53) dX5_save_52 rfl ?_
    refine g_sipush (Y := Y_X5_save) (pc' := 56) dX5_save_53 rfl (by decide) ?_
    refine g_icmp_ge (Y := Y_X5_save) (t := 86) (pc' := 59) dX5_save_56 (by decide) rfl ⟨by omega, by omega⟩ ⟨by omega, by omega⟩ (fun h56 => ?_) (fun h56 => ?_)
    · exfalso; omega
    · refine g_aload0 (Y := Y_X5_save) (pc' := 60) dX5_save_59 rfl ?_
      refine g_getR (Y := Y_X5_save) (pc' := 63) dX5_save_60 rfl fl_X5_13 rfl (by assumption) (by omega) (by assumption) ?_
      refine g_aload0 (Y := Y_X5_save) (pc' := 64) dX5_save_63 rfl ?_
      refine g_getI (Y := Y_X5_save) (pc' := 67) dX5_save_64 rfl fl_X5_62 rfl (by assumption) (by omega) ?_
      rw [h3]
      refine g_sipush (Y := Y_X5_save) (pc' := 70) dX5_save_67 rfl (by decide) ?_
      refine g_imul (Y := Y_X5_save) (pc' := 71) dX5_save_70 rfl ?_
      refine g_iload1 (Y := Y_X5_save) (pc' := 72) dX5_save_71 rfl ?_
      refine g_iadd (Y := Y_X5_save) (pc' := 73) dX5_save_72 rfl ?_
      refine g_aload0 (Y := Y_X5_save) (pc' := 74) dX5_save_73 rfl ?_
      refine g_getR (Y := Y_X5_save) (pc' := 77) dX5_save_74 rfl fl_X5_7 rfl (by assumption) (by omega) (by assumption) ?_
      refine g_iload1 (Y := Y_X5_save) (pc' := 78) dX5_save_77 rfl ?_
      refine g_iald (Y := Y_X5_save) (pc' := 79) dX5_save_78 rfl (by assumption) (by omega) (by decide) ⟨by omega, by omega⟩ ?_
      refine g_iast (Y := Y_X5_save) (pc' := 80) dX5_save_79 rfl (by assumption) (by omega) (by decide) ⟨by omega, by omega⟩ ?_
      rw [show ((d : Int) * 1554 + (c : Int)).toNat = d * 1554 + c by omega]
      refine g_iinc1 (Y := Y_X5_save) (pc' := 83) dX5_save_80 rfl (Nat.le_of_ble_eq_true rfl) rfl ?_
      refine g_goto (Y := Y_X5_save) (t := 52) dX5_save_83 (by decide) ?_
      exact ih (c + 1) _ (by omega) (by rw [u2_ne (by decide)]; exact h3)
set_option maxHeartbeats 2000000 in
set_option maxRecDepth 100000 in
theorem s_X5_save {l : Launch} {E : QE} {T : Nat → Nat × Nat} {I : Nat → Nat → Int} {J : Nat → Nat → Int64} {R : Nat → Nat → Option Nat} {n z : Nat} (hk : MdB T R n) (h3 : 0 ≤ I 110 3 ∧ I 110 3 ≤ 6) : SpN l E Y_X5_save [.ref (E.1 + 110)] (T, I, J, R, n, z) (T, m_save I, J, R, n, z) := by
  have hk0 := hk
  obtain ⟨t0, t1, t2, t3, t4, t5, t6, t7, t8, t9, t10, t11, t12, t13, r1, r2, r4, r5, r8, r9, r10, r11, r12, r13, r14, r15, r16, hn⟩ := hk
  have key : ∀ I1 : Nat → Nat → Int, m_sv0 I = I1 → 0 ≤ I1 110 3 → I1 110 3 < 6 → Go l E Y_X5_save 0 0 52 [some (.ref (E.1 + 110)), some (.int (iz 0))] [] (T, I1, J, R, n, z) (KN (T, m_save I, J, R, n, z)) := by
    intro I1 e h0 h6
    obtain ⟨d, hd⟩ : ∃ d : Nat, I1 110 3 = (d : Int) := ⟨(I1 110 3).toNat, by omega⟩
    have e2 : m_save I = u2 (m_sv d 1554 0 I1) 110 3 ((d : Int) + 1) := by unfold m_save; rw [e, hd]; rfl
    rw [e2]
    exact s_X5_save_sv hk0 (by omega) 1554 0 I1 rfl hd
  refine Sp.of [some (.ref (E.1 + 110)), none] (by decide +kernel) (Nat.le_of_ble_eq_true rfl) (fun _ h => h) ?_
  refine g_aload0 (Y := Y_X5_save) (pc' := 1) dX5_save_0 rfl ?_
  refine g_getI (Y := Y_X5_save) (pc' := 4) dX5_save_1 rfl fl_X5_62 rfl (by assumption) (by omega) ?_
  refine g_bipush (Y := Y_X5_save) (pc' := 6) dX5_save_4 rfl (by decide) ?_
  refine g_icmp_ne (Y := Y_X5_save) (t := 50) (pc' := 9) dX5_save_6 (by decide) rfl ⟨by omega, by omega⟩ ⟨by omega, by omega⟩ (fun h6 => ?_) (fun h6 => ?_)
  · have e : m_sv0 I = I := if_neg (by omega)
    refine g_iconst (Y := Y_X5_save) (pc' := 51) dX5_save_50 rfl ?_
    refine g_istore1 (Y := Y_X5_save) (pc' := 52) dX5_save_51 rfl (Nat.le_of_ble_eq_true rfl) rfl ?_
    exact key _ e (by omega) (by omega)
  · have e : m_sv0 I = u2 (m_sh 7770 0 I) 110 3 (I 110 3 - 1) := if_pos (by omega)
    refine g_iconst (Y := Y_X5_save) (pc' := 10) dX5_save_9 rfl ?_
    refine g_istore1 (Y := Y_X5_save) (pc' := 11) dX5_save_10 rfl (Nat.le_of_ble_eq_true rfl) rfl ?_
    refine s_X5_save_sh hk0 7770 0 I rfl (fun L1 => ?_)
    refine g_aload0 (Y := Y_X5_save) (pc' := 41) dX5_save_40 rfl ?_
    refine g_dup (Y := Y_X5_save) (pc' := 42) dX5_save_41 rfl rfl ?_
    refine g_getI (Y := Y_X5_save) (pc' := 45) dX5_save_42 rfl fl_X5_62 rfl (by assumption) (by omega) ?_
    refine g_iconst (Y := Y_X5_save) (pc' := 46) dX5_save_45 rfl ?_
    rw [sh_ne _ _ _ _ (by decide)]
    refine g_isub (Y := Y_X5_save) (pc' := 47) dX5_save_46 rfl ?_
    refine g_putI (Y := Y_X5_save) (pc' := 50) dX5_save_47 rfl fp_X5_62 rfl (by assumption) (by omega) ?_
    refine g_iconst (Y := Y_X5_save) (pc' := 51) dX5_save_50 rfl ?_
    refine g_istore1 (Y := Y_X5_save) (pc' := 52) dX5_save_51 rfl (Nat.le_of_ble_eq_true rfl) rfl ?_
    exact key _ e (by rw [u2_at]; omega) (by rw [u2_at]; omega)
