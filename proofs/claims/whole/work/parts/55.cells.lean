/-! the reference: cells of a line -/
/-- a line that stands: its ranges -/
def LQ (I : Nat → Nat → Int) (q : Nat) : Prop := (0 ≤ I 120 q ∧ I 120 q < 576) ∧ (-24 < I 116 q ∧ I 116 q < 24) ∧ (-24 < I 117 q ∧ I 117 q < 24) ∧ (-40 < I 118 q ∧ I 118 q ≤ 0) ∧ (0 ≤ I 119 q ∧ I 119 q < 40) ∧ (0 ≤ I 115 q ∧ I 115 q < 4096)
def m_cellT (I : Nat → Nat → Int) (q : Nat) (s : Int) : Int := (I 120 q).tdiv 24 + s * I 116 q
def m_cellS (I : Nat → Nat → Int) (q : Nat) (s : Int) : Int := tm24 (I 120 q) + s * I 117 q
def m_cellOf (I : Nat → Nat → Int) (q : Nat) (s : Int) : Int := if (0 ≤ m_cellT I q s ∧ m_cellT I q s ≤ 23) ∧ 0 ≤ m_cellS I q s ∧ m_cellS I q s ≤ 23 then 24 * m_cellT I q s + m_cellS I q s else -1
theorem m_cell_rg {I : Nat → Nat → Int} {q : Nat} (h : LQ I q) {s : Int} (hs : -100 < s ∧ s < 100) : (-5000 < m_cellT I q s ∧ m_cellT I q s < 5000) ∧ (-5000 < m_cellS I q s ∧ m_cellS I q s < 5000) ∧ (-5000 < s * I 116 q ∧ s * I 116 q < 5000) ∧ (-5000 < s * I 117 q ∧ s * I 117 q < 5000) := by
  obtain ⟨h1, h2, h3, -⟩ := h
  have a := mulb (a := s) (b := I 116 q) (A := 99) (B := 23) (by omega) (by omega)
  have b := mulb (a := s) (b := I 117 q) (A := 99) (B := 23) (by omega) (by omega)
  have c := td24_0 h1
  unfold m_cellT m_cellS
  omega
theorem m_cellOf_rg {I : Nat → Nat → Int} {q : Nat} {s : Int} : m_cellOf I q s = -1 ∨ 0 ≤ m_cellOf I q s ∧ m_cellOf I q s < 576 := by
  unfold m_cellOf
  split
  · rename_i h
    refine Or.inr ?_
    omega
  · exact Or.inl rfl
theorem layLine_ne {I : Nat → Nat → Int} {i j a : Nat} (h : a < 115 ∧ a ≠ 110 ∨ 120 < a) : m_layLine I i j a = I a := by
  unfold m_layLine m_ln3
  split
  · unfold m_ln2 m_ln1
    rw [u2_ne (by omega), u2_ne (by omega), u2_ne (by omega), u2_ne (by omega), u2_ne (by omega), u2_ne (by omega), u2_ne (by omega)]
  · unfold m_ln1
    rw [u2_ne (by omega), u2_ne (by omega)]
theorem layLine_7 {I : Nat → Nat → Int} {i j : Nat} : m_layLine I i j 110 7 = I 110 7 ∨ m_layLine I i j 110 7 = I 110 7 + 1 := by
  unfold m_layLine m_ln3
  split
  · unfold m_ln2
    rw [u2_at, ln1_110]
    exact Or.inr rfl
  · rw [ln1_110]
    exact Or.inl rfl
theorem layLine_110 {I : Nat → Nat → Int} {i j b : Nat} (hb : b ≠ 7) : m_layLine I i j 110 b = I 110 b := by
  unfold m_layLine m_ln3
  split
  · unfold m_ln2
    rw [u2_nj hb, ne_110_119, ne_110_118, ne_110_120, ne_110_115, ln1_110]
  · rw [ln1_110]
set_option maxHeartbeats 2000000 in
set_option maxRecDepth 100000 in
theorem s_X5_cellOf {l : Launch} {E : QE} {T : Nat → Nat × Nat} {I : Nat → Nat → Int} {J : Nat → Nat → Int64} {R : Nat → Nat → Option Nat} {n z : Nat} (hk : MdB T R n) {q : Nat} (hq : q < 66) (hlq : LQ I q) (s : Int) (hs : -100 < s ∧ s < 100) : SpV l E Y_X5_cellOf [.ref (E.1 + 110), .int (iz (q : Int)), .int (iz s)] (T, I, J, R, n, z) (.int (iz (m_cellOf I q s))) (T, I, J, R, n, z) := by
  have hk0 := hk
  obtain ⟨t0, t1, t2, t3, t4, t5, t6, t7, t8, t9, t10, t11, t12, t13, r1, r2, r4, r5, r8, r9, r10, r11, r12, r13, r14, r15, r16, hn⟩ := hk
  obtain ⟨l1, l2, l3, l4, l5, l6⟩ := id hlq
  obtain ⟨c1, c2, c3, c4⟩ := m_cell_rg hlq hs
  have c5 := td24_0 l1
  refine Sp.of [some (.ref (E.1 + 110)), some (.int (iz (q : Int))), some (.int (iz s)), none, none] (by decide +kernel) (Nat.le_of_ble_eq_true rfl) (fun _ h => h) ?_
  refine g_aload0 (Y := Y_X5_cellOf) (pc' := 1) dX5_cellOf_0 rfl ?_
  refine g_getR (Y := Y_X5_cellOf) (pc' := 4) dX5_cellOf_1 rfl fl_X5_37 rfl (by assumption) (by omega) (by assumption) ?_
  refine g_iload1 (Y := Y_X5_cellOf) (pc' := 5) dX5_cellOf_4 rfl ?_
  refine g_iald (Y := Y_X5_cellOf) (pc' := 6) dX5_cellOf_5 rfl (by assumption) (by omega) (by decide) ⟨by omega, by omega⟩ ?_
  rw [show (q : Int).toNat = q from rfl]
  refine g_bipush (Y := Y_X5_cellOf) (pc' := 8) dX5_cellOf_6 rfl (by decide) ?_
  refine g_idiv (Y := Y_X5_cellOf) (pc' := 9) dX5_cellOf_8 rfl ⟨by omega, by omega⟩ ⟨by omega, by omega⟩ (by omega) ?_
  refine g_iload2 (Y := Y_X5_cellOf) (pc' := 10) dX5_cellOf_9 rfl ?_
  refine g_aload0 (Y := Y_X5_cellOf) (pc' := 11) dX5_cellOf_10 rfl ?_
  refine g_getR (Y := Y_X5_cellOf) (pc' := 14) dX5_cellOf_11 rfl fl_X5_25 rfl (by assumption) (by omega) (by assumption) ?_
  refine g_iload1 (Y := Y_X5_cellOf) (pc' := 15) dX5_cellOf_14 rfl ?_
  refine g_iald (Y := Y_X5_cellOf) (pc' := 16) dX5_cellOf_15 rfl (by assumption) (by omega) (by decide) ⟨by omega, by omega⟩ ?_
  rw [show (q : Int).toNat = q from rfl]
  refine g_imul (Y := Y_X5_cellOf) (pc' := 17) dX5_cellOf_16 rfl ?_
  refine g_iadd (Y := Y_X5_cellOf) (pc' := 18) dX5_cellOf_17 rfl ?_
  refine g_istore3 (Y := Y_X5_cellOf) (pc' := 19) dX5_cellOf_18 rfl (Nat.le_of_ble_eq_true rfl) rfl ?_
  refine g_aload0 (Y := Y_X5_cellOf) (pc' := 20) dX5_cellOf_19 rfl ?_
  refine g_getR (Y := Y_X5_cellOf) (pc' := 23) dX5_cellOf_20 rfl fl_X5_37 rfl (by assumption) (by omega) (by assumption) ?_
  refine g_iload1 (Y := Y_X5_cellOf) (pc' := 24) dX5_cellOf_23 rfl ?_
  refine g_iald (Y := Y_X5_cellOf) (pc' := 25) dX5_cellOf_24 rfl (by assumption) (by omega) (by decide) ⟨by omega, by omega⟩ ?_
  rw [show (q : Int).toNat = q from rfl]
  refine g_bipush (Y := Y_X5_cellOf) (pc' := 27) dX5_cellOf_25 rfl (by decide) ?_
  refine g_irem (Y := Y_X5_cellOf) (pc' := 28) dX5_cellOf_27 rfl ⟨by omega, by omega⟩ ⟨by omega, by omega⟩ (by omega) ?_
  refine g_iload2 (Y := Y_X5_cellOf) (pc' := 29) dX5_cellOf_28 rfl ?_
  refine g_aload0 (Y := Y_X5_cellOf) (pc' := 30) dX5_cellOf_29 rfl ?_
  refine g_getR (Y := Y_X5_cellOf) (pc' := 33) dX5_cellOf_30 rfl fl_X5_28 rfl (by assumption) (by omega) (by assumption) ?_
  refine g_iload1 (Y := Y_X5_cellOf) (pc' := 34) dX5_cellOf_33 rfl ?_
  refine g_iald (Y := Y_X5_cellOf) (pc' := 35) dX5_cellOf_34 rfl (by assumption) (by omega) (by decide) ⟨by omega, by omega⟩ ?_
  rw [show (q : Int).toNat = q from rfl]
  refine g_imul (Y := Y_X5_cellOf) (pc' := 36) dX5_cellOf_35 rfl ?_
  refine g_iadd (Y := Y_X5_cellOf) (pc' := 37) dX5_cellOf_36 rfl ?_
  refine g_istore4 (Y := Y_X5_cellOf) (pc' := 39) dX5_cellOf_37 rfl (Nat.le_of_ble_eq_true rfl) rfl ?_
  refine g_iload3 (Y := Y_X5_cellOf) (pc' := 40) dX5_cellOf_39 rfl ?_
  refine g_iload4 (Y := Y_X5_cellOf) (pc' := 42) dX5_cellOf_40 rfl ?_
  refine g_callSv (Y := Y_X5_cellOf) (s_X5_isPlace (m_cellT I q s) (m_cellS I q s) ⟨by omega, by omega⟩ ⟨by omega, by omega⟩) (pc' := 45) dX5_cellOf_42 rfl cv_X5_94 rfl rfl rfl rfl rfl ?_
  refine g_if_eq (Y := Y_X5_cellOf) (t := 58) (pc' := 48) dX5_cellOf_45 (by decide) rfl ⟨by omega, by omega⟩ (fun h45 => ?_) (fun h45 => ?_)
  · have e : m_cellOf I q s = -1 := if_neg (ifb_f h45)
    rw [e]
    refine g_iconst (Y := Y_X5_cellOf) (pc' := 59) dX5_cellOf_58 rfl ?_
    exact g_iret (Y := Y_X5_cellOf) dX5_cellOf_59 rfl (Nat.zero_le _) (Nat.zero_le _) (⟨rfl, rfl⟩)
  · have e : m_cellOf I q s = 24 * m_cellT I q s + m_cellS I q s := if_pos (ifb_t h45)
    rw [e]
    refine g_bipush (Y := Y_X5_cellOf) (pc' := 50) dX5_cellOf_48 rfl (by decide) ?_
    refine g_iload3 (Y := Y_X5_cellOf) (pc' := 51) dX5_cellOf_50 rfl ?_
    refine g_imul (Y := Y_X5_cellOf) (pc' := 52) dX5_cellOf_51 rfl ?_
    refine g_iload4 (Y := Y_X5_cellOf) (pc' := 54) dX5_cellOf_52 rfl ?_
    refine g_iadd (Y := Y_X5_cellOf) (pc' := 55) dX5_cellOf_54 rfl ?_
    refine g_goto (Y := Y_X5_cellOf) (t := 59) dX5_cellOf_55 (by decide) ?_
    exact g_iret (Y := Y_X5_cellOf) dX5_cellOf_59 rfl (Nat.zero_le _) (Nat.zero_le _) (⟨rfl, rfl⟩)
