/-! the reference: letters, numbers of a text -/
/-- the buffer of codes -/
def TV (I : Nat → Nat → Int) : Prop := (0 ≤ I 110 6 ∧ I 110 6 ≤ 60) ∧ (∀ j : Nat, j < 60 → 0 ≤ I 114 j ∧ I 114 j ≤ 126)
/-- where it is read: no error so far, or an error -/
def AV (I : Nat → Nat → Int) : Prop := 0 ≤ I 110 18 ∧ ((I 110 19 = -1 ∧ I 110 18 ≤ I 110 6) ∨ (0 ≤ I 110 19 ∧ I 110 19 ≤ 60 ∧ I 110 18 ≤ 61))
def m_let (I : Nat → Nat → Int) : Int := if I 110 18 < I 110 6 then I 114 (I 110 18).toNat else -1
def m_nx (I : Nat → Nat → Int) : Nat → Nat → Int := u2 I 110 18 (I 110 18 + 1)
def m_want (I : Nat → Nat → Int) (s : Int) : Nat → Nat → Int := if I 110 19 = -1 then m_nx (u2 I 110 19 (if s = 0 then I 110 18 else -1)) else I
def m_nu1 (I : Nat → Nat → Int) : Nat → Nat → Int := m_want I (if 0 ≤ m_let I - 48 ∧ m_let I - 48 ≤ 9 then 1 else 0)
def m_nu2 (v : Int) (I : Nat → Nat → Int) : Int × (Nat → Nat → Int) := if I 110 19 = -1 ∧ 0 < v ∧ (0 ≤ m_let I - 48 ∧ m_let I - 48 ≤ 9) ∧ 10 * v + (m_let I - 48) < 24 then (10 * v + (m_let I - 48), m_nx I) else (v, I)
def m_num (I : Nat → Nat → Int) : Int × (Nat → Nat → Int) := m_nu2 (m_let I - 48) (m_nu1 I)
def m_ro1 (I : Nat → Nat → Int) (t : Nat) : Nat → Nat → Int := if m_let (u2 I 123 t 0) = 45 then m_nx (u2 (u2 I 123 t 0) 123 t 1) else u2 I 123 t 0
def m_ro2 (I : Nat → Nat → Int) (t : Nat) : Nat → Nat → Int := u2 (m_num I).2 123 (t + 1) (m_num I).1
def m_ro3 (I : Nat → Nat → Int) : Nat → Nat → Int := m_want I (if m_let I = 44 then 1 else 0)
def m_ro4 (I : Nat → Nat → Int) (t : Nat) : Nat → Nat → Int := u2 (m_num I).2 123 (t + 2) (m_num I).1
def m_ro5 (I : Nat → Nat → Int) : Nat → Nat → Int := u2 I 110 17 (I 110 17 + 1)
def m_roT (I : Nat → Nat → Int) (t : Nat) : Nat → Nat → Int := m_ro5 (m_ro4 (m_ro3 (m_ro2 (m_ro1 I t) t)) t)
def m_ro (I : Nat → Nat → Int) : Nat → Nat → Int := m_roT I (3 * I 110 17).toNat
def m_semi (I : Nat → Nat → Int) : Nat → Nat → Int := m_want I (if m_let I = 59 then 1 else 0)
def m_rbL : Nat → (Nat → Nat → Int) → Nat → Nat → Int
  | 0, I => I
  | f + 1, I => if m_ro I 110 19 = -1 ∧ m_ro I 110 18 < m_ro I 110 6 then (if m_semi (m_ro I) 110 19 = -1 then m_rbL f (m_semi (m_ro I)) else m_semi (m_ro I)) else m_ro I
def m_rb0 (I : Nat → Nat → Int) : Nat → Nat → Int := u2 (u2 (u2 I 110 17 0) 110 18 0) 110 19 (-1)
def m_rb (I : Nat → Nat → Int) : Nat → Nat → Int := m_rbL 61 (m_rb0 I)
/-- what reading leaves alone -/
def RK (I0 I : Nat → Nat → Int) : Prop := (∀ a, a ≠ 110 → a ≠ 123 → I a = I0 a) ∧ (∀ j, j ≠ 17 → j ≠ 18 → j ≠ 19 → I 110 j = I0 110 j)
theorem RK.rf {I : Nat → Nat → Int} : RK I I := ⟨fun _ _ _ => rfl, fun _ _ _ _ => rfl⟩
theorem RK.tr {I0 I1 I2 : Nat → Nat → Int} (h : RK I0 I1) (g : RK I1 I2) : RK I0 I2 := ⟨fun a h1 h2 => (g.1 a h1 h2).trans (h.1 a h1 h2), fun j h1 h2 h3 => (g.2 j h1 h2 h3).trans (h.2 j h1 h2 h3)⟩
theorem RK.o {I0 I : Nat → Nat → Int} (h : RK I0 I) {t : Nat} {x : Int} : RK I0 (u2 I 123 t x) := ⟨fun a h1 h2 => by rw [u2_ne h2]; exact h.1 a h1 h2, fun j h1 h2 h3 => by rw [u2_ne (by decide)]; exact h.2 j h1 h2 h3⟩
theorem RK.f {I0 I : Nat → Nat → Int} (h : RK I0 I) {t : Nat} {x : Int} (ht : t = 17 ∨ t = 18 ∨ t = 19) : RK I0 (u2 I 110 t x) := ⟨fun a h1 h2 => by rw [u2_ne h1]; exact h.1 a h1 h2, fun j h1 h2 h3 => by rw [u2k, if_neg (by omega)]; exact h.2 j h1 h2 h3⟩
theorem RK_nx {I : Nat → Nat → Int} : RK I (m_nx I) := RK.rf.f (by decide)
theorem RK_want {I : Nat → Nat → Int} {s : Int} : RK I (m_want I s) := by
  unfold m_want
  split
  · exact RK.tr (RK.rf.f (by decide)) RK_nx
  · exact RK.rf
theorem RK_num {I : Nat → Nat → Int} : RK I (m_num I).2 := by
  unfold m_num m_nu2
  split
  · exact RK.tr RK_want RK_nx
  · exact RK_want
theorem RK_roT {I : Nat → Nat → Int} {t : Nat} : RK I (m_roT I t) := by
  have h1 : RK I (m_ro1 I t) := by
    unfold m_ro1
    split
    · exact RK.tr (RK.rf.o.o) RK_nx
    · exact RK.rf.o
  exact ((((h1.tr RK_num).o).tr RK_want).tr RK_num).o.f (by decide)
theorem RK_rbL : ∀ (f : Nat) (I : Nat → Nat → Int), RK I (m_rbL f I)
  | 0, _ => RK.rf
  | f + 1, I => by
    unfold m_rbL
    split
    · split
      · exact RK_roT.tr (RK_want.tr (RK_rbL f _))
      · exact RK_roT.tr RK_want
    · exact RK_roT
theorem RK_rb {I : Nat → Nat → Int} : RK I (m_rb I) := RK.tr (((RK.rf.f (by decide)).f (by decide)).f (by decide)) (RK_rbL 61 _)
theorem TV_RK {I0 I : Nat → Nat → Int} (h : TV I0) (g : RK I0 I) : TV I := by
  unfold TV
  rw [g.1 114 (by decide) (by decide), g.2 6 (by decide) (by decide) (by decide)]
  exact h
theorem m_let_rg {I : Nat → Nat → Int} (hv : TV I) (ha : AV I) : -1 ≤ m_let I ∧ m_let I ≤ 126 := by
  unfold m_let
  split
  · have q := hv.2 (I 110 18).toNat (by have := hv.1; have := ha.1; omega); omega
  · decide
theorem m_let_in {I : Nat → Nat → Int} (h : ¬ m_let I = -1) : I 110 18 < I 110 6 := by
  unfold m_let at h
  by_cases g : I 110 18 < I 110 6
  · exact g
  · exact absurd (if_neg g) h
theorem m_nx_at {I : Nat → Nat → Int} (j : Nat) : m_nx I 110 j = if j = 18 then I 110 18 + 1 else I 110 j := by unfold m_nx; rw [u2k]
theorem AV_nx {I : Nat → Nat → Int} (ha : AV I) (h1 : I 110 19 = -1) (h : I 110 18 < I 110 6) : AV (m_nx I) := by
  unfold AV
  rw [m_nx_at, m_nx_at, m_nx_at]
  simp only [Nat.reduceEqDiff, if_true, if_false]
  unfold AV at ha
  omega
theorem m_want_at {I : Nat → Nat → Int} {s : Int} : m_want I s 110 18 = (if I 110 19 = -1 then I 110 18 + 1 else I 110 18) ∧ m_want I s 110 19 = (if I 110 19 = -1 then (if s = 0 then I 110 18 else -1) else I 110 19) ∧ m_want I s 110 17 = I 110 17 ∧ m_want I s 110 6 = I 110 6 := by
  unfold m_want
  split
  · rw [m_nx_at, m_nx_at, m_nx_at, m_nx_at, u2k, u2k, u2k, u2k]
    simp
  · exact ⟨rfl, rfl, rfl, rfl⟩
theorem AV_want {I : Nat → Nat → Int} {s : Int} (hv : TV I) (ha : AV I) (h : s ≠ 0 → I 110 18 < I 110 6) : AV (m_want I s) := by
  obtain ⟨e1, e2, e3, e4⟩ := m_want_at (I := I) (s := s)
  unfold AV
  rw [e1, e2, e4]
  have v1 := hv.1
  obtain ⟨a1, a2⟩ := ha
  by_cases h9 : I 110 19 = -1
  · rw [if_pos h9, if_pos h9]
    by_cases hs : s = 0
    · rw [if_pos hs]; omega
    · have := h hs
      rw [if_neg hs]; omega
  · rw [if_neg h9, if_neg h9]
    exact ⟨a1, a2⟩
theorem AV_nu1 {I : Nat → Nat → Int} (hv : TV I) (ha : AV I) : AV (m_nu1 I) := AV_want hv ha (fun h => by
  have q : 0 ≤ m_let I - 48 ∧ m_let I - 48 ≤ 9 := Decidable.byContradiction fun g => h (if_neg g)
  exact m_let_in (by omega))
theorem num_AV {I : Nat → Nat → Int} (hv : TV I) (ha : AV I) : AV (m_num I).2 ∧ ((m_num I).2 110 17 = I 110 17) ∧ (-49 ≤ (m_num I).1 ∧ (m_num I).1 ≤ 78) ∧ ((m_num I).2 110 19 = -1 → I 110 19 = -1 ∧ I 110 18 + 1 ≤ (m_num I).2 110 18 ∧ 0 ≤ (m_num I).1 ∧ (m_num I).1 < 24) := by
  have h1 := AV_nu1 hv ha
  have r := m_let_rg hv ha
  obtain ⟨e1, e2, e3, e4⟩ := m_want_at (I := I) (s := (if 0 ≤ m_let I - 48 ∧ m_let I - 48 ≤ 9 then 1 else 0))
  have e1' : m_nu1 I 110 18 = (if I 110 19 = -1 then I 110 18 + 1 else I 110 18) := e1
  have e2' : m_nu1 I 110 19 = (if I 110 19 = -1 then (if (if 0 ≤ m_let I - 48 ∧ m_let I - 48 ≤ 9 then (1 : Int) else 0) = 0 then I 110 18 else -1) else I 110 19) := e2
  have e3' : m_nu1 I 110 17 = I 110 17 := e3
  have k : m_nu1 I 110 19 = -1 → I 110 19 = -1 ∧ I 110 18 + 1 ≤ m_nu1 I 110 18 ∧ 0 ≤ m_let I - 48 ∧ m_let I - 48 ≤ 9 := by
    intro h
    by_cases h9 : I 110 19 = -1
    · rw [e2', if_pos h9] at h
      rw [e1', if_pos h9]
      refine ⟨h9, by omega, ?_⟩
      by_cases g : 0 ≤ m_let I - 48 ∧ m_let I - 48 ≤ 9
      · exact g
      · rw [if_neg g, if_pos rfl] at h
        have := ha.1
        omega
    · rw [e2', if_neg h9] at h
      exact absurd h h9
  unfold m_num m_nu2
  split
  · rename_i h
    have ha2 := AV_nx h1 h.1 (m_let_in (by omega))
    have k2 := k h.1
    refine ⟨ha2, by show m_nx (m_nu1 I) 110 17 = _; rw [m_nx_at]; exact e3', by show -49 ≤ 10 * _ + _ ∧ 10 * _ + _ ≤ 78; omega, fun _ => ?_⟩
    refine ⟨k2.1, by show _ ≤ m_nx (m_nu1 I) 110 18; rw [m_nx_at, if_pos rfl]; omega, by show 0 ≤ 10 * _ + _; omega, by show 10 * _ + _ < 24; omega⟩
  · exact ⟨h1, e3', by show -49 ≤ m_let I - 48 ∧ m_let I - 48 ≤ 78; omega, fun h => ⟨(k h).1, (k h).2.1, by show 0 ≤ m_let I - 48; exact (k h).2.2.1, by show m_let I - 48 < 24; have := (k h).2.2.2; omega⟩⟩
set_option maxHeartbeats 2000000 in
set_option maxRecDepth 100000 in
theorem s_X5_letter {l : Launch} {E : QE} {T : Nat → Nat × Nat} {I : Nat → Nat → Int} {J : Nat → Nat → Int64} {R : Nat → Nat → Option Nat} {n z : Nat} (hk : MdB T R n) (hv9 : TV I) (ha9 : AV I)  : SpV l E Y_X5_letter [.ref (E.1 + 110)] (T, I, J, R, n, z) (.int (iz (m_let I))) (T, I, J, R, n, z) := by
  obtain ⟨t0, t1, t2, t3, t4, t5, t6, t7, t8, t9, t10, t11, t12, t13, r1, r2, r4, r5, r8, r9, r10, r11, r12, r13, r14, r15, r16, hn⟩ := hk
  obtain ⟨v1, v2⟩ := id hv9
  obtain ⟨a1, a2⟩ := id ha9
  refine Sp.of [some (.ref (E.1 + 110))] (by decide +kernel) (Nat.le_of_ble_eq_true rfl) (fun _ h => h) ?_
  refine g_aload0 (Y := Y_X5_letter) (pc' := 1) dX5_letter_0 rfl ?_
  refine g_getI (Y := Y_X5_letter) (pc' := 4) dX5_letter_1 rfl fl_X5_173 rfl (by assumption) (by omega) ?_
  refine g_aload0 (Y := Y_X5_letter) (pc' := 5) dX5_letter_4 rfl ?_
  refine g_getI (Y := Y_X5_letter) (pc' := 8) dX5_letter_5 rfl fl_X5_170 rfl (by assumption) (by omega) ?_
  refine g_icmp_ge (Y := Y_X5_letter) (t := 23) (pc' := 11) dX5_letter_8 (by decide) rfl ⟨by omega, by omega⟩ ⟨by omega, by omega⟩ (fun h8 => ?_) (fun h8 => ?_)
  · have e : m_let I = -1 := if_neg (by omega)
    rw [e]
    refine g_iconst (Y := Y_X5_letter) (pc' := 24) dX5_letter_23 rfl ?_
    exact g_iret (Y := Y_X5_letter) dX5_letter_24 rfl (Nat.zero_le _) (Nat.zero_le _) (⟨rfl, rfl⟩)
  · have e : m_let I = I 114 (I 110 18).toNat := if_pos (by omega)
    rw [e]
    refine g_aload0 (Y := Y_X5_letter) (pc' := 12) dX5_letter_11 rfl ?_
    refine g_getR (Y := Y_X5_letter) (pc' := 15) dX5_letter_12 rfl fl_X5_19 rfl (by assumption) (by omega) (by assumption) ?_
    refine g_aload0 (Y := Y_X5_letter) (pc' := 16) dX5_letter_15 rfl ?_
    refine g_getI (Y := Y_X5_letter) (pc' := 19) dX5_letter_16 rfl fl_X5_173 rfl (by assumption) (by omega) ?_
    refine g_iald (Y := Y_X5_letter) (pc' := 20) dX5_letter_19 rfl (by assumption) (by omega) (by decide) ⟨by omega, by omega⟩ ?_
    refine g_goto (Y := Y_X5_letter) (t := 24) dX5_letter_20 (by decide) ?_
    exact g_iret (Y := Y_X5_letter) dX5_letter_24 rfl (Nat.zero_le _) (Nat.zero_le _) (⟨rfl, rfl⟩)
set_option maxHeartbeats 2000000 in
set_option maxRecDepth 100000 in
theorem s_X5_wants {l : Launch} {E : QE} {T : Nat → Nat × Nat} {I : Nat → Nat → Int} {J : Nat → Nat → Int64} {R : Nat → Nat → Option Nat} {n z : Nat} (hk : MdB T R n) (hv9 : TV I) (ha9 : AV I) (s : Int) (hs : s = 0 ∨ s = 1) : SpN l E Y_X5_wants [.ref (E.1 + 110), .int (iz s)] (T, I, J, R, n, z) (T, m_want I s, J, R, n, z) := by
  obtain ⟨t0, t1, t2, t3, t4, t5, t6, t7, t8, t9, t10, t11, t12, t13, r1, r2, r4, r5, r8, r9, r10, r11, r12, r13, r14, r15, r16, hn⟩ := hk
  obtain ⟨v1, v2⟩ := id hv9
  obtain ⟨a1, a2⟩ := id ha9
  refine Sp.of [some (.ref (E.1 + 110)), some (.int (iz s))] (by decide +kernel) (Nat.le_of_ble_eq_true rfl) (fun _ h => h) ?_
  refine g_aload0 (Y := Y_X5_wants) (pc' := 1) dX5_wants_0 rfl ?_
  refine g_getI (Y := Y_X5_wants) (pc' := 4) dX5_wants_1 rfl fl_X5_176 rfl (by assumption) (by omega) ?_
  refine g_iconst (Y := Y_X5_wants) (pc' := 5) dX5_wants_4 rfl ?_
  refine g_icmp_ne (Y := Y_X5_wants) (t := 34) (pc' := 8) dX5_wants_5 (by decide) rfl ⟨by omega, by omega⟩ ⟨by omega, by omega⟩ (fun h5 => ?_) (fun h5 => ?_)
  · have e : m_want I s = I := if_neg h5
    rw [e]
    exact g_vret (Y := Y_X5_wants) dX5_wants_34 rfl (Nat.zero_le _) (Nat.zero_le _) (⟨rfl, rfl⟩)
  · refine g_aload0 (Y := Y_X5_wants) (pc' := 9) dX5_wants_8 rfl ?_
    refine g_iload1 (Y := Y_X5_wants) (pc' := 10) dX5_wants_9 rfl ?_
    refine g_if_eq (Y := Y_X5_wants) (t := 17) (pc' := 13) dX5_wants_10 (by decide) rfl ⟨by omega, by omega⟩ (fun h10 => ?_) (fun h10 => ?_)
    · have e : m_want I s = m_nx (u2 I 110 19 (I 110 18)) := by unfold m_want; rw [if_pos h5, if_pos h10]
      rw [e]
      refine g_aload0 (Y := Y_X5_wants) (pc' := 18) dX5_wants_17 rfl ?_
      refine g_getI (Y := Y_X5_wants) (pc' := 21) dX5_wants_18 rfl fl_X5_173 rfl (by assumption) (by omega) ?_
      refine g_putI (Y := Y_X5_wants) (pc' := 24) dX5_wants_21 rfl fp_X5_176 rfl (by assumption) (by omega) ?_
      refine g_aload0 (Y := Y_X5_wants) (pc' := 25) dX5_wants_24 rfl ?_
      refine g_dup (Y := Y_X5_wants) (pc' := 26) dX5_wants_25 rfl rfl ?_
      refine g_getI (Y := Y_X5_wants) (pc' := 29) dX5_wants_26 rfl fl_X5_173 rfl (by assumption) (by omega) ?_
      refine g_iconst (Y := Y_X5_wants) (pc' := 30) dX5_wants_29 rfl ?_
      refine g_iadd (Y := Y_X5_wants) (pc' := 31) dX5_wants_30 rfl ?_
      refine g_putI (Y := Y_X5_wants) (pc' := 34) dX5_wants_31 rfl fp_X5_173 rfl (by assumption) (by omega) ?_
      exact g_vret (Y := Y_X5_wants) dX5_wants_34 rfl (Nat.zero_le _) (Nat.zero_le _) (⟨rfl, rfl⟩)
    · have e : m_want I s = m_nx (u2 I 110 19 (-1)) := by unfold m_want; rw [if_pos h5, if_neg h10]
      rw [e]
      refine g_iconst (Y := Y_X5_wants) (pc' := 14) dX5_wants_13 rfl ?_
      refine g_goto (Y := Y_X5_wants) (t := 21) dX5_wants_14 (by decide) ?_
      refine g_putI (Y := Y_X5_wants) (pc' := 24) dX5_wants_21 rfl fp_X5_176 rfl (by assumption) (by omega) ?_
      refine g_aload0 (Y := Y_X5_wants) (pc' := 25) dX5_wants_24 rfl ?_
      refine g_dup (Y := Y_X5_wants) (pc' := 26) dX5_wants_25 rfl rfl ?_
      refine g_getI (Y := Y_X5_wants) (pc' := 29) dX5_wants_26 rfl fl_X5_173 rfl (by assumption) (by omega) ?_
      refine g_iconst (Y := Y_X5_wants) (pc' := 30) dX5_wants_29 rfl ?_
      refine g_iadd (Y := Y_X5_wants) (pc' := 31) dX5_wants_30 rfl ?_
      refine g_putI (Y := Y_X5_wants) (pc' := 34) dX5_wants_31 rfl fp_X5_173 rfl (by assumption) (by omega) ?_
      exact g_vret (Y := Y_X5_wants) dX5_wants_34 rfl (Nat.zero_le _) (Nat.zero_le _) (⟨rfl, rfl⟩)
set_option maxHeartbeats 2000000 in
set_option maxRecDepth 100000 in
theorem s_X5_number {l : Launch} {E : QE} {T : Nat → Nat × Nat} {I : Nat → Nat → Int} {J : Nat → Nat → Int64} {R : Nat → Nat → Option Nat} {n z : Nat} (hk : MdB T R n) (hv9 : TV I) (ha9 : AV I)  : SpV l E Y_X5_number [.ref (E.1 + 110)] (T, I, J, R, n, z) (.int (iz (m_num I).1)) (T, (m_num I).2, J, R, n, z) := by
  have hk0 := hk
  obtain ⟨t0, t1, t2, t3, t4, t5, t6, t7, t8, t9, t10, t11, t12, t13, r1, r2, r4, r5, r8, r9, r10, r11, r12, r13, r14, r15, r16, hn⟩ := hk
  have hv1 : TV (m_nu1 I) := TV_RK hv9 RK_want
  have ha1 : AV (m_nu1 I) := AV_nu1 hv9 ha9
  have r0 := m_let_rg hv9 ha9
  have r1_ := m_let_rg hv1 ha1
  obtain ⟨a1, a2⟩ := id ha1
  refine Sp.of [some (.ref (E.1 + 110)), none, none] (by decide +kernel) (Nat.le_of_ble_eq_true rfl) (fun _ h => h) ?_
  refine g_aload0 (Y := Y_X5_number) (pc' := 1) dX5_number_0 rfl ?_
  refine g_callVv (Y := Y_X5_number) (c := 5) (s_X5_letter hk0 hv9 ha9) (pc' := 4) dX5_number_1 rfl cv_X5_179 rfl (by assumption) (by show _ < n; omega) ⟨by decide, _, rfl, rfl⟩ rfl rfl rfl rfl ?_
  refine g_bipush (Y := Y_X5_number) (pc' := 6) dX5_number_4 rfl (by decide) ?_
  refine g_isub (Y := Y_X5_number) (pc' := 7) dX5_number_6 rfl ?_
  refine g_istore1 (Y := Y_X5_number) (pc' := 8) dX5_number_7 rfl (Nat.le_of_ble_eq_true rfl) rfl ?_
  refine g_aload0 (Y := Y_X5_number) (pc' := 9) dX5_number_8 rfl ?_
  refine g_iload1 (Y := Y_X5_number) (pc' := 10) dX5_number_9 rfl ?_
  refine g_iconst (Y := Y_X5_number) (pc' := 11) dX5_number_10 rfl ?_
  refine g_bipush (Y := Y_X5_number) (pc' := 13) dX5_number_11 rfl (by decide) ?_
  refine g_callSv (Y := Y_X5_number) (s_X5_in (m_let I - 48) 0 9 ⟨by omega, by omega⟩ ⟨by decide, by decide⟩ ⟨by decide, by decide⟩) (pc' := 16) dX5_number_13 rfl cv_X5_54 rfl rfl rfl rfl rfl ?_
  refine g_callVn (Y := Y_X5_number) (c := 5) (s_X5_wants hk0 hv9 ha9 (if 0 ≤ m_let I - 48 ∧ m_let I - 48 ≤ 9 then 1 else 0) (by split <;> simp)) (pc' := 19) dX5_number_16 rfl cv_X5_182 rfl (by assumption) (by show _ < n; omega) ⟨by decide, _, rfl, rfl⟩ rfl rfl rfl rfl ?_
  refine g_aload0 (Y := Y_X5_number) (pc' := 20) dX5_number_19 rfl ?_
  refine g_callVv (Y := Y_X5_number) (c := 5) (s_X5_letter (I := m_nu1 I) hk0 hv1 ha1) (pc' := 23) dX5_number_20 rfl cv_X5_179 rfl (by assumption) (by show _ < n; omega) ⟨by decide, _, rfl, rfl⟩ rfl rfl rfl rfl ?_
  refine g_bipush (Y := Y_X5_number) (pc' := 25) dX5_number_23 rfl (by decide) ?_
  refine g_isub (Y := Y_X5_number) (pc' := 26) dX5_number_25 rfl ?_
  refine g_istore2 (Y := Y_X5_number) (pc' := 27) dX5_number_26 rfl (Nat.le_of_ble_eq_true rfl) rfl ?_
  refine g_aload0 (Y := Y_X5_number) (pc' := 28) dX5_number_27 rfl ?_
  refine g_getI (Y := Y_X5_number) (pc' := 31) dX5_number_28 rfl fl_X5_176 rfl (by assumption) (by omega) ?_
  refine g_iconst (Y := Y_X5_number) (pc' := 32) dX5_number_31 rfl ?_
  refine g_icmp_ne (Y := Y_X5_number) (t := 77) (pc' := 35) dX5_number_32 (by decide) rfl ⟨by omega, by omega⟩ ⟨by omega, by omega⟩ (fun h32 => ?_) (fun h32 => ?_)
  · have e : m_num I = (m_let I - 48, m_nu1 I) := if_neg (fun q9 => h32 q9.1)
    rw [e]
    refine g_iload1 (Y := Y_X5_number) (pc' := 78) dX5_number_77 rfl ?_
    exact g_iret (Y := Y_X5_number) dX5_number_78 rfl (Nat.zero_le _) (Nat.zero_le _) (⟨rfl, rfl⟩)
  · refine g_iload1 (Y := Y_X5_number) (pc' := 36) dX5_number_35 rfl ?_
    refine g_if_le (Y := Y_X5_number) (t := 77) (pc' := 39) dX5_number_36 (by decide) rfl ⟨by omega, by omega⟩ (fun h36 => ?_) (fun h36 => ?_)
    · have e : m_num I = (m_let I - 48, m_nu1 I) := if_neg (fun q9 => by omega)
      rw [e]
      refine g_iload1 (Y := Y_X5_number) (pc' := 78) dX5_number_77 rfl ?_
      exact g_iret (Y := Y_X5_number) dX5_number_78 rfl (Nat.zero_le _) (Nat.zero_le _) (⟨rfl, rfl⟩)
    · refine g_iload2 (Y := Y_X5_number) (pc' := 40) dX5_number_39 rfl ?_
      refine g_iconst (Y := Y_X5_number) (pc' := 41) dX5_number_40 rfl ?_
      refine g_bipush (Y := Y_X5_number) (pc' := 43) dX5_number_41 rfl (by decide) ?_
      refine g_callSv (Y := Y_X5_number) (s_X5_in (m_let (m_nu1 I) - 48) 0 9 ⟨by omega, by omega⟩ ⟨by decide, by decide⟩ ⟨by decide, by decide⟩) (pc' := 46) dX5_number_43 rfl cv_X5_54 rfl rfl rfl rfl rfl ?_
      refine g_if_eq (Y := Y_X5_number) (t := 77) (pc' := 49) dX5_number_46 (by decide) rfl (by split <;> exact ⟨by decide, by decide⟩) (fun h46 => ?_) (fun h46 => ?_)
      · have e : m_num I = (m_let I - 48, m_nu1 I) := if_neg (fun q9 => ifb_f h46 q9.2.2.1)
        rw [e]
        refine g_iload1 (Y := Y_X5_number) (pc' := 78) dX5_number_77 rfl ?_
        exact g_iret (Y := Y_X5_number) dX5_number_78 rfl (Nat.zero_le _) (Nat.zero_le _) (⟨rfl, rfl⟩)
      · have h46b := ifb_t h46
        refine g_bipush (Y := Y_X5_number) (pc' := 51) dX5_number_49 rfl (by decide) ?_
        refine g_iload1 (Y := Y_X5_number) (pc' := 52) dX5_number_51 rfl ?_
        refine g_imul (Y := Y_X5_number) (pc' := 53) dX5_number_52 rfl ?_
        refine g_iload2 (Y := Y_X5_number) (pc' := 54) dX5_number_53 rfl ?_
        refine g_iadd (Y := Y_X5_number) (pc' := 55) dX5_number_54 rfl ?_
        refine g_bipush (Y := Y_X5_number) (pc' := 57) dX5_number_55 rfl (by decide) ?_
        refine g_icmp_ge (Y := Y_X5_number) (t := 77) (pc' := 60) dX5_number_57 (by decide) rfl ⟨by omega, by omega⟩ ⟨by omega, by omega⟩ (fun h57 => ?_) (fun h57 => ?_)
        · have e : m_num I = (m_let I - 48, m_nu1 I) := if_neg (fun q9 => by omega)
          rw [e]
          refine g_iload1 (Y := Y_X5_number) (pc' := 78) dX5_number_77 rfl ?_
          exact g_iret (Y := Y_X5_number) dX5_number_78 rfl (Nat.zero_le _) (Nat.zero_le _) (⟨rfl, rfl⟩)
        · have e : m_num I = (10 * (m_let I - 48) + (m_let (m_nu1 I) - 48), m_nx (m_nu1 I)) := if_pos ⟨h32, by omega, h46b, by omega⟩
          rw [e]
          refine g_bipush (Y := Y_X5_number) (pc' := 62) dX5_number_60 rfl (by decide) ?_
          refine g_iload1 (Y := Y_X5_number) (pc' := 63) dX5_number_62 rfl ?_
          refine g_imul (Y := Y_X5_number) (pc' := 64) dX5_number_63 rfl ?_
          refine g_iload2 (Y := Y_X5_number) (pc' := 65) dX5_number_64 rfl ?_
          refine g_iadd (Y := Y_X5_number) (pc' := 66) dX5_number_65 rfl ?_
          refine g_istore1 (Y := Y_X5_number) (pc' := 67) dX5_number_66 rfl (Nat.le_of_ble_eq_true rfl) rfl ?_
          refine g_aload0 (Y := Y_X5_number) (pc' := 68) dX5_number_67 rfl ?_
          refine g_dup (Y := Y_X5_number) (pc' := 69) dX5_number_68 rfl rfl ?_
          refine g_getI (Y := Y_X5_number) (pc' := 72) dX5_number_69 rfl fl_X5_173 rfl (by assumption) (by omega) ?_
          refine g_iconst (Y := Y_X5_number) (pc' := 73) dX5_number_72 rfl ?_
          refine g_iadd (Y := Y_X5_number) (pc' := 74) dX5_number_73 rfl ?_
          refine g_putI (Y := Y_X5_number) (pc' := 77) dX5_number_74 rfl fp_X5_173 rfl (by assumption) (by omega) ?_
          refine g_iload1 (Y := Y_X5_number) (pc' := 78) dX5_number_77 rfl ?_
          exact g_iret (Y := Y_X5_number) dX5_number_78 rfl (Nat.zero_le _) (Nat.zero_le _) (⟨rfl, rfl⟩)
