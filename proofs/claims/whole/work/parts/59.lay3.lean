/-! the reference: its map is laid, as a whole -/
/-- the map as it is laid: lines that stand, hits in range, spots marked 0 or 1 -/
def LV (I : Nat → Nat → Int) : Prop := (0 ≤ I 110 7 ∧ I 110 7 ≤ 66) ∧ (∀ q : Nat, (q : Int) < I 110 7 → LQ I q) ∧ (∀ j : Nat, 0 ≤ I 121 j ∧ I 121 j ≤ 10000) ∧ (∀ j : Nat, I 122 j = 0 ∨ I 122 j = 1)
/-- rows of hits and of marks hold such numbers, whatever they were -/
def HV (I : Nat → Nat → Int) (B : Int) : Prop := (∀ j : Nat, 0 ≤ I 121 j ∧ I 121 j ≤ B) ∧ (∀ j : Nat, I 122 j = 0 ∨ I 122 j = 1)
theorem lay1_A {I : Nat → Nat → Int} (hz9 : ZV I) : AInv (I 111 3).toNat (m_lay1 I) 66 := by
  have z3 := hz9.1
  have t := tri12 (I 111 3).toNat (by omega)
  have e : u2 I 110 7 0 111 = I 111 := u2_ne (by decide)
  have h0 : AInv (I 111 3).toNat (u2 I 110 7 0) 0 := ⟨ZV_ne hz9 e, by rw [e]; omega, by rw [u2_at]; decide, fun q hq => by rw [u2_at] at hq; omega⟩
  obtain ⟨h1, h2, h3, h4⟩ := AInv_3 (nn := (I 111 3).toNat) (I 111 3).toNat 0 _ 0 h0 (by omega) (by omega)
  exact ⟨h1, h2, ⟨h3.1, by have q := h3.2; unfold m_lay1; omega⟩, h4⟩
theorem a2_ne {i : Nat} : ∀ (f j : Nat) (I : Nat → Nat → Int) (a : Nat), (a < 115 ∧ a ≠ 110 ∨ 120 < a) → m_a2 i f j I a = I a
  | 0, _, _, _, _ => rfl
  | f + 1, j, I, a, h => by
    unfold m_a2
    rw [a2_ne f (j + 1) _ a h, layLine_ne h]
theorem a1_ne : ∀ (f i : Nat) (I : Nat → Nat → Int) (a : Nat), (a < 115 ∧ a ≠ 110 ∨ 120 < a) → m_a1 f i I a = I a
  | 0, _, _, _, _ => rfl
  | f + 1, i, I, a, h => by
    unfold m_a1
    rw [a1_ne f (i + 1) _ a h, a2_ne f _ _ a h]
theorem a2_110 {i b : Nat} (hb : b ≠ 7) : ∀ (f j : Nat) (I : Nat → Nat → Int), m_a2 i f j I 110 b = I 110 b
  | 0, _, _ => rfl
  | f + 1, j, I => by
    unfold m_a2
    rw [a2_110 hb f (j + 1), layLine_110 hb]
theorem a1_110 {b : Nat} (hb : b ≠ 7) : ∀ (f i : Nat) (I : Nat → Nat → Int), m_a1 f i I 110 b = I 110 b
  | 0, _, _ => rfl
  | f + 1, i, I => by
    unfold m_a1
    rw [a1_110 hb f (i + 1), a2_110 hb]
theorem lay3_ne {I : Nat → Nat → Int} {a : Nat} (h : a ≠ 121 ∧ a ≠ 122) : m_lay3 I a = m_lay1 I a := by
  unfold m_lay3
  rw [lc_ne _ _ _ _ h.2, lb_ne _ _ _ _ h.1 h.2]
theorem lay_ne {I : Nat → Nat → Int} {a : Nat} (h : a < 110 ∨ 110 < a ∧ a < 115 ∨ 122 < a) : m_lay I a = I a := by
  unfold m_lay
  rw [ld1_ne _ _ _ _ (by omega), lay3_ne (by omega)]
  unfold m_lay1
  rw [a1_ne _ _ _ _ (by omega), u2_ne (by omega)]
theorem lay_110 {I : Nat → Nat → Int} {b : Nat} (h : b ≠ 7) : m_lay I 110 b = I 110 b := by
  unfold m_lay
  rw [ld1_ne _ _ _ _ (by decide), lay3_ne (by decide)]
  unfold m_lay1
  rw [a1_110 h, u2_nj h]
theorem ZV_lay {I : Nat → Nat → Int} (h : ZV I) : ZV (m_lay I) := ZV_ne h (lay_ne (by decide))
set_option maxHeartbeats 2000000 in
set_option maxRecDepth 100000 in
theorem s_X5_lay {l : Launch} {E : QE} {T : Nat → Nat × Nat} {I : Nat → Nat → Int} {J : Nat → Nat → Int64} {R : Nat → Nat → Option Nat} {n z : Nat} (hk : MdB T R n) (hz9 : ZV I)  : SpN l E Y_X5_lay [.ref (E.1 + 110)] (T, I, J, R, n, z) (T, m_lay I, J, R, n, z) := by
  have hk0 := hk
  obtain ⟨t0, t1, t2, t3, t4, t5, t6, t7, t8, t9, t10, t11, t12, t13, r1, r2, r4, r5, r8, r9, r10, r11, r12, r13, r14, r15, r16, hn⟩ := hk
  have z3 := hz9.1
  obtain ⟨h1, h2, h3, h4⟩ := lay1_A hz9
  have hz3 : ZV (m_lb 576 0 (m_lay1 I)) := ZV_ne h1 (lb_ne _ _ _ _ (by decide) (by decide))
  have e0 : u2 I 110 7 0 111 = I 111 := u2_ne (by decide)
  have t12 := tri12 (I 111 3).toNat (by omega)
  have h0 : AInv (I 111 3).toNat (u2 I 110 7 0) 0 := ⟨ZV_ne hz9 e0, by rw [e0]; omega, by rw [u2_at]; decide, fun q hq => by rw [u2_at] at hq; omega⟩
  refine Sp.of [some (.ref (E.1 + 110)), none, none, none] (by decide +kernel) (Nat.le_of_ble_eq_true rfl) (fun _ h => h) ?_
  refine g_aload0 (Y := Y_X5_lay) (pc' := 1) dX5_lay_0 rfl ?_
  refine g_iconst (Y := Y_X5_lay) (pc' := 2) dX5_lay_1 rfl ?_
  refine g_putI (Y := Y_X5_lay) (pc' := 5) dX5_lay_2 rfl fp_X5_72 rfl (by assumption) (by omega) ?_
  refine g_iconst (Y := Y_X5_lay) (pc' := 6) dX5_lay_5 rfl ?_
  refine g_istore1 (Y := Y_X5_lay) (pc' := 7) dX5_lay_6 rfl (Nat.le_of_ble_eq_true rfl) rfl ?_
  refine s_X5_lay_a1 hk0 (nn := (I 111 3).toNat) (I 111 3).toNat 0 (u2 I 110 7 0) 0 _ h0 (by omega) (by omega) (fun L1 x2 => ?_)
  refine g_iconst (Y := Y_X5_lay) (pc' := 50) dX5_lay_49 rfl ?_
  refine g_istore1 (Y := Y_X5_lay) (pc' := 51) dX5_lay_50 rfl (Nat.le_of_ble_eq_true rfl) rfl ?_
  refine s_X5_lay_b hk0 576 0 (m_lay1 I) rfl (fun L1 => ?_)
  refine g_iconst (Y := Y_X5_lay) (pc' := 79) dX5_lay_78 rfl ?_
  refine g_istore1 (Y := Y_X5_lay) (pc' := 80) dX5_lay_79 rfl (Nat.le_of_ble_eq_true rfl) rfl ?_
  refine s_X5_lay_c hk0 (I 111 3).toNat 0 (m_lb 576 0 (m_lay1 I)) hz3 (by rw [lb_ne _ _ _ _ (by decide) (by decide), h2]; omega) (fun L1 => ?_)
  refine g_iconst (Y := Y_X5_lay) (pc' := 108) dX5_lay_107 rfl ?_
  refine g_istore1 (Y := Y_X5_lay) (pc' := 109) dX5_lay_108 rfl (Nat.le_of_ble_eq_true rfl) rfl ?_
  exact s_X5_lay_d1 hk0 (m_lay3 I 110 7).toNat 0 (m_lay3 I) _ _ (by rw [lay3_ne (by decide)]; exact h3) (fun q hq => LQ_ne (h4 q (by rw [lay3_ne (by decide)] at hq; exact hq)) (fun a g1 g2 => lay3_ne (by omega))) (by omega)
