/-! constructors: the reference -/
def MdT (T : Nat → Nat × Nat) : Prop := T 110 = (5, 0) ∧ T 111 = (6, 1554) ∧ T 112 = (6, 9324) ∧ T 113 = (6, 1554) ∧ T 114 = (6, 60) ∧ T 115 = (6, 66) ∧ T 116 = (6, 66) ∧ T 117 = (6, 66) ∧ T 118 = (6, 66) ∧ T 119 = (6, 66) ∧ T 120 = (6, 66) ∧ T 121 = (6, 576) ∧ T 122 = (7, 576) ∧ T 123 = (6, 60)
def MdR (R : Nat → Nat → Option Nat) : Prop := R 110 1 = some 111 ∧ R 110 2 = some 112 ∧ R 110 4 = some 113 ∧ R 110 5 = some 114 ∧ R 110 8 = some 115 ∧ R 110 9 = some 116 ∧ R 110 10 = some 117 ∧ R 110 11 = some 118 ∧ R 110 12 = some 119 ∧ R 110 13 = some 120 ∧ R 110 14 = some 121 ∧ R 110 15 = some 122 ∧ R 110 16 = some 123
theorem MdB_of {T : Nat → Nat × Nat} {R : Nat → Nat → Option Nat} {n : Nat} (h : MdT T) (g : MdR R) (hn : 124 ≤ n) : MdB T R n := by
  obtain ⟨a0, a1, a2, a3, a4, a5, a6, a7, a8, a9, a10, a11, a12, a13⟩ := h
  obtain ⟨b1, b2, b3, b4, b5, b6, b7, b8, b9, b10, b11, b12, b13⟩ := g
  exact ⟨a0, a1, a2, a3, a4, a5, a6, a7, a8, a9, a10, a11, a12, a13, b1, b2, b3, b4, b5, b6, b7, b8, b9, b10, b11, b12, b13, hn⟩
/-- the reference's numbers as they are made -/
def zN (j : Nat) : Int := if j = 0 ∨ j = 1 then 3 else if j = 2 then 2 else if 6 ≤ j ∧ j < 1554 then -1 else 0
def MN (I I' : Nat → Nat → Int) (R R' : Nat → Nat → Option Nat) : Prop := (∀ a, a ≠ 111 → I' a = I a) ∧ (∀ a, a ≠ 110 → R' a = R a) ∧ MdR R' ∧ ∀ j, I' 111 j = zN j
set_option maxHeartbeats 2000000 in
set_option maxRecDepth 100000 in
theorem s_X5_init_lp {l : Launch} {E : QE} {T : Nat → Nat × Nat} {J : Nat → Nat → Int64} {R : Nat → Nat → Option Nat} {n z : Nat} (t0 : T 110 = (5, 0)) (t1 : T 111 = (6, 1554)) (r1 : R 110 1 = some 111) (hn : 111 < n) {K : Option Value → QW → Prop} {I9 : Nat → Nat → Int} (hend : K none (T, I9, J, R, n, z)) : ∀ (f c : Nat) (I : Nat → Nat → Int), c + f = 1554 → f_neg 111 f c I = I9 → Go l E Y_X5_init 13 14100 137 [some (.ref (E.1 + 110)), some (.int (iz (c : Int)))] [] (T, I, J, R, n, z) K := by
  intro f
  induction f with
  | zero =>
    intro c I hf he
    refine g_iload1 (Y := Y_X5_init) (pc' := 138) dX5_init_137 rfl ?_
    refine g_sipush (Y := Y_X5_init) (pc' := 141) dX5_init_138 rfl (by decide) ?_
    refine g_icmp_ge (Y := Y_X5_init) (t := 157) (pc' := 144) dX5_init_141 (by decide) rfl ⟨by omega, by omega⟩ ⟨by omega, by omega⟩ (fun h141 => ?_) (fun h141 => ?_)
    · rw [show I = I9 from he]
      exact g_vret (Y := Y_X5_init) dX5_init_157 rfl (Nat.le_of_ble_eq_true rfl) (Nat.le_of_ble_eq_true rfl) (hend)
    · exfalso; omega
  | succ f ih =>
    intro c I hf he
    refine g_iload1 (Y := Y_X5_init) (pc' := 138) dX5_init_137 rfl ?_
    refine g_sipush (Y := Y_X5_init) (pc' := 141) dX5_init_138 rfl (by decide) ?_
    refine g_icmp_ge (Y := Y_X5_init) (t := 157) (pc' := 144) dX5_init_141 (by decide) rfl ⟨by omega, by omega⟩ ⟨by omega, by omega⟩ (fun h141 => ?_) (fun h141 => ?_)
    · exfalso; omega
    · refine g_aload0 (Y := Y_X5_init) (pc' := 145) dX5_init_144 rfl ?_
      refine g_getR (Y := Y_X5_init) (pc' := 148) dX5_init_145 rfl fl_X5_7 rfl (by assumption) (by omega) (by assumption) ?_
      refine g_iload1 (Y := Y_X5_init) (pc' := 149) dX5_init_148 rfl ?_
      refine g_iconst (Y := Y_X5_init) (pc' := 150) dX5_init_149 rfl ?_
      refine g_iast (Y := Y_X5_init) (pc' := 151) dX5_init_150 rfl (by assumption) (by omega) (by decide) ⟨by omega, by omega⟩ ?_
      rw [show (c : Int).toNat = c from rfl]
      refine g_iinc1 (Y := Y_X5_init) (pc' := 154) dX5_init_151 rfl (Nat.le_of_ble_eq_true rfl) rfl ?_
      refine g_goto (Y := Y_X5_init) (t := 137) dX5_init_154 (by decide) ?_
      exact ih (c + 1) _ (by omega) he
