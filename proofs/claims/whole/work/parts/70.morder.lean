/-! the reference: an order of a text -/
theorem AV_123 {I : Nat → Nat → Int} {t : Nat} {x : Int} (h : AV I) : AV (u2 I 123 t x) := by
  unfold AV
  rw [u2_ne (by decide)]
  exact h
theorem TV_123 {I : Nat → Nat → Int} {t : Nat} {x : Int} (h : TV I) : TV (u2 I 123 t x) := TV_RK h RK.rf.o
theorem want_123 {I : Nat → Nat → Int} {s : Int} : m_want I s 123 = I 123 := by
  unfold m_want m_nx
  split
  · rw [u2_ne (by decide), u2_ne (by decide)]
  · rfl
theorem num_123 {I : Nat → Nat → Int} : (m_num I).2 123 = I 123 := by
  unfold m_num m_nu2
  split
  · show m_nx (m_nu1 I) 123 = _
    unfold m_nx
    rw [u2_ne (by decide)]
    exact want_123
  · exact want_123
theorem ro1_AV {I : Nat → Nat → Int} (hv : TV I) (ha : AV I) (hw : I 110 19 = -1) {t : Nat} : TV (m_ro1 I t) ∧ AV (m_ro1 I t) ∧ m_ro1 I t 110 19 = -1 ∧ I 110 18 ≤ m_ro1 I t 110 18 ∧ m_ro1 I t 110 17 = I 110 17 ∧ (m_ro1 I t 123 t = 0 ∨ m_ro1 I t 123 t = 1) ∧ ∀ j, j ≠ t → m_ro1 I t 123 j = I 123 j := by
  unfold m_ro1
  split
  · rename_i h
    have h2 := m_let_in (I := u2 I 123 t 0) (by omega)
    rw [u2_ne (by decide)] at h2
    have e : u2 (u2 I 123 t 0) 123 t 1 110 = I 110 := by rw [u2_ne (by decide), u2_ne (by decide)]
    refine ⟨TV_RK hv (RK.tr RK.rf.o.o RK_nx), AV_nx (AV_123 (AV_123 ha)) (by rw [e]; exact hw) (by rw [e]; exact h2), ?_, ?_, ?_, ?_, fun j hj => ?_⟩
    · rw [m_nx_at, if_neg (by decide), e]; exact hw
    · rw [m_nx_at, if_pos rfl, e]; omega
    · rw [m_nx_at, if_neg (by decide), e]
    · unfold m_nx
      rw [u2_ne (by decide), u2k, if_pos rfl]
      exact Or.inr rfl
    · unfold m_nx
      rw [u2_ne (by decide), u2k, if_neg hj, u2k, if_neg hj]
  · refine ⟨TV_123 hv, AV_123 ha, ?_, ?_, ?_, ?_, fun j hj => ?_⟩
    · rw [u2_ne (by decide)]; exact hw
    · rw [u2_ne (by decide)]; omega
    · rw [u2_ne (by decide)]
    · rw [u2k, if_pos rfl]; exact Or.inl rfl
    · rw [u2k, if_neg hj]
theorem ro3_AV {I : Nat → Nat → Int} (hv : TV I) (ha : AV I) : TV (m_ro3 I) ∧ AV (m_ro3 I) ∧ (m_ro3 I 110 19 = -1 → I 110 19 = -1 ∧ m_ro3 I 110 18 = I 110 18 + 1) ∧ m_ro3 I 110 17 = I 110 17 ∧ m_ro3 I 123 = I 123 := by
  have hs : (if m_let I = 44 then (1 : Int) else 0) ≠ 0 → I 110 18 < I 110 6 := fun h => by
    have q : m_let I = 44 := Decidable.byContradiction fun g => h (if_neg g)
    exact m_let_in (by omega)
  obtain ⟨e1, e2, e3, e4⟩ := m_want_at (I := I) (s := (if m_let I = 44 then 1 else 0))
  refine ⟨TV_RK hv RK_want, AV_want hv ha hs, fun h => ?_, e3, want_123⟩
  have h' : m_want I (if m_let I = 44 then 1 else 0) 110 19 = -1 := h
  by_cases g : I 110 19 = -1
  · refine ⟨g, ?_⟩
    show m_want I _ 110 18 = _
    rw [e1, if_pos g]
  · rw [e2, if_neg g] at h'
    exact absurd h' g
/-- an order is read: what it does to the place, to the row of orders -/
theorem roT_AV {I : Nat → Nat → Int} (hv : TV I) (ha : AV I) (hw : I 110 19 = -1) {t : Nat} : TV (m_roT I t) ∧ AV (m_roT I t) ∧ m_roT I t 110 17 = I 110 17 + 1 ∧ (m_roT I t 110 19 = -1 → I 110 18 + 3 ≤ m_roT I t 110 18 ∧ (m_roT I t 123 t = 0 ∨ m_roT I t 123 t = 1) ∧ (0 ≤ m_roT I t 123 (t + 1) ∧ m_roT I t 123 (t + 1) < 24) ∧ (0 ≤ m_roT I t 123 (t + 2) ∧ m_roT I t 123 (t + 2) < 24)) ∧ ∀ j, (j < t ∨ t + 3 ≤ j) → m_roT I t 123 j = I 123 j := by
  obtain ⟨v1, a1, w1, p1, o1, q1, r1⟩ := ro1_AV hv ha hw (t := t)
  obtain ⟨n1, n2, n3, n4⟩ := num_AV v1 a1
  have v2 : TV (m_ro2 (m_ro1 I t) t) := TV_123 (TV_RK v1 RK_num)
  have a2 : AV (m_ro2 (m_ro1 I t) t) := AV_123 n1
  have e2 : m_ro2 (m_ro1 I t) t 110 = (m_num (m_ro1 I t)).2 110 := u2_ne (by decide)
  have k2 : ∀ j, m_ro2 (m_ro1 I t) t 123 j = if j = t + 1 then (m_num (m_ro1 I t)).1 else m_ro1 I t 123 j := fun j => by unfold m_ro2; rw [u2k, num_123]
  unfold m_roT
  generalize m_ro2 (m_ro1 I t) t = I2 at v2 a2 e2 k2 ⊢
  obtain ⟨v3, a3, w3, o3, k3⟩ := ro3_AV v2 a2
  obtain ⟨g1, g2, g3, g4⟩ := num_AV v3 a3
  have v4 : TV (m_ro4 (m_ro3 I2) t) := TV_123 (TV_RK v3 RK_num)
  have a4 : AV (m_ro4 (m_ro3 I2) t) := AV_123 g1
  have e4 : m_ro4 (m_ro3 I2) t 110 = (m_num (m_ro3 I2)).2 110 := u2_ne (by decide)
  have k4 : ∀ j, m_ro4 (m_ro3 I2) t 123 j = if j = t + 2 then (m_num (m_ro3 I2)).1 else I2 123 j := fun j => by unfold m_ro4; rw [u2k, num_123, k3]
  generalize m_ro4 (m_ro3 I2) t = I4 at v4 a4 e4 k4 ⊢
  have e5 : ∀ j, m_ro5 I4 110 j = if j = 17 then I4 110 17 + 1 else I4 110 j := fun j => by unfold m_ro5; rw [u2k]
  have k5 : m_ro5 I4 123 = I4 123 := u2_ne (by decide)
  refine ⟨TV_RK v4 (RK.rf.f (by decide)), ?_, ?_, fun h => ?_, fun j hj => ?_⟩
  · unfold AV
    rw [e5, e5, e5]
    exact a4
  · rw [e5, if_pos rfl, e4, g2, o3, e2, n2, o1]
  · rw [e5, if_neg (by decide), e4] at h
    obtain ⟨h1, h2, h3, h4⟩ := g4 h
    obtain ⟨h5, h6⟩ := w3 h1
    rw [e2] at h5 h6
    obtain ⟨h7, h8, h9, h10⟩ := n4 h5
    rw [e5, if_neg (by decide), e4, k5, k4, k4, k4, if_neg (by omega), if_neg (by omega), if_pos rfl, k2, if_neg (by omega), k2, if_pos rfl]
    exact ⟨by omega, q1, ⟨h9, h10⟩, h3, h4⟩
  · rw [k5, k4, if_neg (by omega), k2, if_neg (by omega)]
    exact r1 j (by omega)
theorem semi_AV {I : Nat → Nat → Int} (hv : TV I) (ha : AV I) : TV (m_semi I) ∧ AV (m_semi I) ∧ (m_semi I 110 19 = -1 → I 110 19 = -1 ∧ m_semi I 110 18 = I 110 18 + 1) ∧ m_semi I 110 17 = I 110 17 ∧ m_semi I 123 = I 123 := by
  have hs : (if m_let I = 59 then (1 : Int) else 0) ≠ 0 → I 110 18 < I 110 6 := fun h => by
    have q : m_let I = 59 := Decidable.byContradiction fun g => h (if_neg g)
    exact m_let_in (by omega)
  obtain ⟨e1, e2, e3, e4⟩ := m_want_at (I := I) (s := (if m_let I = 59 then 1 else 0))
  refine ⟨TV_RK hv RK_want, AV_want hv ha hs, fun h => ?_, e3, want_123⟩
  have h' : m_want I (if m_let I = 59 then 1 else 0) 110 19 = -1 := h
  by_cases g : I 110 19 = -1
  · refine ⟨g, ?_⟩
    show m_want I _ 110 18 = _
    rw [e1, if_pos g]
  · rw [e2, if_neg g] at h'
    exact absurd h' g
/-- the orders read so far, and where the next one begins -/
def OV (I : Nat → Nat → Int) : Prop := 0 ≤ I 110 17 ∧ 4 * I 110 17 ≤ I 110 18 ∧ ∀ k : Nat, (k : Int) < I 110 17 → (I 123 (3 * k) = 0 ∨ I 123 (3 * k) = 1) ∧ (0 ≤ I 123 (3 * k + 1) ∧ I 123 (3 * k + 1) < 24) ∧ (0 ≤ I 123 (3 * k + 2) ∧ I 123 (3 * k + 2) < 24)
def OR (I : Nat → Nat → Int) : Prop := (0 ≤ I 110 17 ∧ I 110 17 ≤ 16) ∧ (I 110 19 = -1 ∨ 0 ≤ I 110 19 ∧ I 110 19 ≤ 60) ∧ (I 110 19 = -1 → ∀ k : Nat, (k : Int) < I 110 17 → (I 123 (3 * k) = 0 ∨ I 123 (3 * k) = 1) ∧ (0 ≤ I 123 (3 * k + 1) ∧ I 123 (3 * k + 1) < 24) ∧ (0 ≤ I 123 (3 * k + 2) ∧ I 123 (3 * k + 2) < 24))
theorem ro_OV {I : Nat → Nat → Int} (hv : TV I) (ha : AV I) (hw : I 110 19 = -1) (ho : OV I) : OR (m_ro I) ∧ m_ro I 110 17 = I 110 17 + 1 ∧ (m_ro I 110 19 = -1 → I 110 18 + 3 ≤ m_ro I 110 18 ∧ 4 * m_ro I 110 17 ≤ m_ro I 110 18 + 1) := by
  obtain ⟨o1, o2, o3⟩ := ho
  obtain ⟨b1, b2, b3, b4, b5⟩ := roT_AV hv ha hw (t := (3 * I 110 17).toNat)
  have v1 := hv.1
  have a1 := ha.2
  have a2 : (m_ro I 110 19 = -1 ∧ m_ro I 110 18 ≤ m_ro I 110 6) ∨ (0 ≤ m_ro I 110 19 ∧ m_ro I 110 19 ≤ 60 ∧ m_ro I 110 18 ≤ 61) := b2.2
  have b3' : m_ro I 110 17 = I 110 17 + 1 := b3
  refine ⟨⟨by omega, by omega, fun h k hk => ?_⟩, b3', fun h => ?_⟩
  · have b4' := b4 h
    rw [b3'] at hk
    show (m_roT I _ 123 _ = 0 ∨ m_roT I _ 123 _ = 1) ∧ (0 ≤ m_roT I _ 123 _ ∧ m_roT I _ 123 _ < 24) ∧ (0 ≤ m_roT I _ 123 _ ∧ m_roT I _ 123 _ < 24)
    by_cases g : (k : Int) < I 110 17
    · rw [b5 _ (by omega), b5 _ (by omega), b5 _ (by omega)]
      exact o3 k g
    · have e : (3 * I 110 17).toNat = 3 * k := by omega
      rw [e] at b4' ⊢
      exact b4'.2
  · have b4' := (b4 h).1
    have b4'' : I 110 18 + 3 ≤ m_ro I 110 18 := b4'
    exact ⟨b4'', by omega⟩
theorem rbL_OR : ∀ (f : Nat) (I : Nat → Nat → Int), TV I → AV I → I 110 19 = -1 → OV I → 61 ≤ I 110 18 + f → OR (m_rbL f I)
  | 0, I, hv, ha, hw, ho, hf => by
    have v1 := hv.1
    have a1 := ha.2
    omega
  | f + 1, I, hv, ha, hw, ho, hf => by
    obtain ⟨c1, c2, c3⟩ := ro_OV hv ha hw ho
    obtain ⟨b1, b2, b3, b4, b5⟩ := roT_AV hv ha hw (t := (3 * I 110 17).toNat)
    obtain ⟨d1, d2, d3, d4, d5⟩ := semi_AV (I := m_ro I) b1 b2
    have hor : ∀ I2 : Nat → Nat → Int, I2 110 17 = m_ro I 110 17 → I2 123 = m_ro I 123 → m_ro I 110 19 = -1 → AV I2 → OR I2 := by
      intro I2 g1 g2 g3 g4
      have g5 := g4.2
      unfold OR
      rw [g1, g2]
      exact ⟨c1.1, by omega, fun _ => c1.2.2 g3⟩
    unfold m_rbL
    split
    · rename_i h
      split
      · rename_i h2
        have c4 := c3 h.1
        have d6 := (d3 h2).2
        refine rbL_OR f _ d1 d2 h2 ⟨by rw [d4]; exact c1.1.1, by rw [d4, d6]; omega, fun k hk => ?_⟩ (by rw [d6]; omega)
        rw [d4] at hk
        rw [d5]
        exact c1.2.2 h.1 k hk
      · exact hor _ d4 d5 h.1 d2
    · exact c1
theorem rb0_ok {I : Nat → Nat → Int} (hv : TV I) : TV (m_rb0 I) ∧ AV (m_rb0 I) ∧ m_rb0 I 110 19 = -1 ∧ OV (m_rb0 I) ∧ 61 ≤ m_rb0 I 110 18 + (61 : Nat) := by
  have e : ∀ j, m_rb0 I 110 j = if j = 19 then -1 else if j = 18 then 0 else if j = 17 then 0 else I 110 j := fun j => by unfold m_rb0; rw [u2k, u2k, u2k]
  have v1 := hv.1
  have e18 : m_rb0 I 110 18 = 0 := by rw [e]; rfl
  have e17 : m_rb0 I 110 17 = 0 := by rw [e]; rfl
  have e19 : m_rb0 I 110 19 = -1 := by rw [e]; rfl
  have e6 : m_rb0 I 110 6 = I 110 6 := by rw [e]; rfl
  refine ⟨TV_RK hv (((RK.rf.f (by decide)).f (by decide)).f (by decide)), ?_, e19, ?_, by rw [e18]; decide⟩
  · unfold AV
    rw [e18, e19, e6]
    omega
  · unfold OV
    rw [e17, e18]
    exact ⟨by decide, by decide, fun k hk => by omega⟩
theorem rb_OR {I : Nat → Nat → Int} (hv : TV I) : OR (m_rb I) := by
  obtain ⟨b1, b2, b3, b4, b5⟩ := rb0_ok hv
  exact rbL_OR 61 _ b1 b2 b3 b4 b5
set_option maxHeartbeats 2000000 in
set_option maxRecDepth 100000 in
set_option maxHeartbeats 2000000 in
set_option maxRecDepth 100000 in
theorem s_X5_ro70 {l : Launch} {E : QE} {T : Nat → Nat × Nat} {I : Nat → Nat → Int} {J : Nat → Nat → Int64} {R : Nat → Nat → Option Nat} {n z : Nat} (hk : MdB T R n) (hv9 : TV I) (ha9 : AV I) {t : Nat} (ht : t < 58) : Go l E Y_X5_readOrder 0 0 70 [some (.ref (E.1 + 110)), some (.int (iz (t : Int)))] [] (T, I, J, R, n, z) (KN (T, m_ro5 (m_ro4 I t), J, R, n, z)) := by
  have hk0 := hk
  obtain ⟨t0, t1, t2, t3, t4, t5, t6, t7, t8, t9, t10, t11, t12, t13, r1, r2, r4, r5, r8, r9, r10, r11, r12, r13, r14, r15, r16, hn⟩ := hk
  have g9 := num_AV hv9 ha9
  refine g_aload0 (Y := Y_X5_readOrder) (pc' := 71) dX5_readOrder_70 rfl ?_
  refine g_getR (Y := Y_X5_readOrder) (pc' := 74) dX5_readOrder_71 rfl fl_X5_47 rfl (by assumption) (by omega) (by assumption) ?_
  refine g_iload1 (Y := Y_X5_readOrder) (pc' := 75) dX5_readOrder_74 rfl ?_
  refine g_iconst (Y := Y_X5_readOrder) (pc' := 76) dX5_readOrder_75 rfl ?_
  refine g_iadd (Y := Y_X5_readOrder) (pc' := 77) dX5_readOrder_76 rfl ?_
  refine g_aload0 (Y := Y_X5_readOrder) (pc' := 78) dX5_readOrder_77 rfl ?_
  refine g_callVv (Y := Y_X5_readOrder) (c := 5) (s_X5_number hk0 hv9 ha9) (pc' := 81) dX5_readOrder_78 rfl cv_X5_189 rfl (by assumption) (by show _ < n; omega) ⟨by decide, _, rfl, rfl⟩ rfl rfl rfl rfl ?_
  refine g_iast (Y := Y_X5_readOrder) (pc' := 82) dX5_readOrder_81 rfl (by assumption) (by omega) (by decide) ⟨by omega, by omega⟩ ?_
  rw [show ((t : Int) + 2).toNat = t + 2 by omega]
  refine g_aload0 (Y := Y_X5_readOrder) (pc' := 83) dX5_readOrder_82 rfl ?_
  refine g_dup (Y := Y_X5_readOrder) (pc' := 84) dX5_readOrder_83 rfl rfl ?_
  refine g_getI (Y := Y_X5_readOrder) (pc' := 87) dX5_readOrder_84 rfl fl_X5_186 rfl (by assumption) (by omega) ?_
  refine g_iconst (Y := Y_X5_readOrder) (pc' := 88) dX5_readOrder_87 rfl ?_
  refine g_iadd (Y := Y_X5_readOrder) (pc' := 89) dX5_readOrder_88 rfl ?_
  refine g_putI (Y := Y_X5_readOrder) (pc' := 92) dX5_readOrder_89 rfl fp_X5_186 rfl (by assumption) (by omega) ?_
  exact g_vret (Y := Y_X5_readOrder) dX5_readOrder_92 rfl (Nat.zero_le _) (Nat.zero_le _) (⟨rfl, rfl⟩)
set_option maxHeartbeats 2000000 in
set_option maxRecDepth 100000 in
set_option maxHeartbeats 2000000 in
set_option maxRecDepth 100000 in
theorem s_X5_ro40 {l : Launch} {E : QE} {T : Nat → Nat × Nat} {I : Nat → Nat → Int} {J : Nat → Nat → Int64} {R : Nat → Nat → Option Nat} {n z : Nat} (hk : MdB T R n) (hv9 : TV I) (ha9 : AV I) {t : Nat} (ht : t < 58) : Go l E Y_X5_readOrder 0 0 40 [some (.ref (E.1 + 110)), some (.int (iz (t : Int)))] [] (T, I, J, R, n, z) (KN (T, m_ro5 (m_ro4 (m_ro3 (m_ro2 I t)) t), J, R, n, z)) := by
  have hk0 := hk
  obtain ⟨t0, t1, t2, t3, t4, t5, t6, t7, t8, t9, t10, t11, t12, t13, r1, r2, r4, r5, r8, r9, r10, r11, r12, r13, r14, r15, r16, hn⟩ := hk
  have g9 := num_AV hv9 ha9
  have v2 : TV (m_ro2 I t) := TV_123 (TV_RK hv9 RK_num)
  have a2 : AV (m_ro2 I t) := AV_123 g9.1
  have rl := m_let_rg v2 a2
  obtain ⟨v3, a3, -, -, -⟩ := ro3_AV v2 a2
  have hend := s_X5_ro70 (l := l) (E := E) (J := J) (z := z) hk0 v3 a3 ht
  refine g_aload0 (Y := Y_X5_readOrder) (pc' := 41) dX5_readOrder_40 rfl ?_
  refine g_getR (Y := Y_X5_readOrder) (pc' := 44) dX5_readOrder_41 rfl fl_X5_47 rfl (by assumption) (by omega) (by assumption) ?_
  refine g_iload1 (Y := Y_X5_readOrder) (pc' := 45) dX5_readOrder_44 rfl ?_
  refine g_iconst (Y := Y_X5_readOrder) (pc' := 46) dX5_readOrder_45 rfl ?_
  refine g_iadd (Y := Y_X5_readOrder) (pc' := 47) dX5_readOrder_46 rfl ?_
  refine g_aload0 (Y := Y_X5_readOrder) (pc' := 48) dX5_readOrder_47 rfl ?_
  refine g_callVv (Y := Y_X5_readOrder) (c := 5) (s_X5_number hk0 hv9 ha9) (pc' := 51) dX5_readOrder_48 rfl cv_X5_189 rfl (by assumption) (by show _ < n; omega) ⟨by decide, _, rfl, rfl⟩ rfl rfl rfl rfl ?_
  refine g_iast (Y := Y_X5_readOrder) (pc' := 52) dX5_readOrder_51 rfl (by assumption) (by omega) (by decide) ⟨by omega, by omega⟩ ?_
  rw [show ((t : Int) + 1).toNat = t + 1 by omega]
  refine g_aload0 (Y := Y_X5_readOrder) (pc' := 53) dX5_readOrder_52 rfl ?_
  refine g_aload0 (Y := Y_X5_readOrder) (pc' := 54) dX5_readOrder_53 rfl ?_
  refine g_callVv (Y := Y_X5_readOrder) (c := 5) (s_X5_letter (I := m_ro2 I t) hk0 v2 a2) (pc' := 57) dX5_readOrder_54 rfl cv_X5_179 rfl (by assumption) (by show _ < n; omega) ⟨by decide, _, rfl, rfl⟩ rfl rfl rfl rfl ?_
  refine g_bipush (Y := Y_X5_readOrder) (pc' := 59) dX5_readOrder_57 rfl (by decide) ?_
  refine g_icmp_ne (Y := Y_X5_readOrder) (t := 66) (pc' := 62) dX5_readOrder_59 (by decide) rfl ⟨by omega, by omega⟩ ⟨by omega, by omega⟩ (fun h59 => ?_) (fun h59 => ?_)
  · have e3 : m_ro3 (m_ro2 I t) = m_want (m_ro2 I t) 0 := by unfold m_ro3; rw [if_neg h59]
    rw [e3] at hend ⊢
    refine g_iconst (Y := Y_X5_readOrder) (pc' := 67) dX5_readOrder_66 rfl ?_
    first
    | (refine g_callVn (Y := Y_X5_readOrder) (c := 5) (s_X5_wants (I := m_ro2 I t) hk0 v2 a2 1 (Or.inr rfl)) (pc' := 70) dX5_readOrder_67 rfl cv_X5_182 rfl (by assumption) (by show _ < n; omega) ⟨by decide, _, rfl, rfl⟩ rfl rfl rfl rfl ?_; exact hend)
    | (refine g_callVn (Y := Y_X5_readOrder) (c := 5) (s_X5_wants (I := m_ro2 I t) hk0 v2 a2 0 (Or.inl rfl)) (pc' := 70) dX5_readOrder_67 rfl cv_X5_182 rfl (by assumption) (by show _ < n; omega) ⟨by decide, _, rfl, rfl⟩ rfl rfl rfl rfl ?_; exact hend)
  · have e3 : m_ro3 (m_ro2 I t) = m_want (m_ro2 I t) 1 := by unfold m_ro3; rw [if_pos h59]
    rw [e3] at hend ⊢
    refine g_iconst (Y := Y_X5_readOrder) (pc' := 63) dX5_readOrder_62 rfl ?_
    refine g_goto (Y := Y_X5_readOrder) (t := 67) dX5_readOrder_63 (by decide) ?_
    first
    | (refine g_callVn (Y := Y_X5_readOrder) (c := 5) (s_X5_wants (I := m_ro2 I t) hk0 v2 a2 1 (Or.inr rfl)) (pc' := 70) dX5_readOrder_67 rfl cv_X5_182 rfl (by assumption) (by show _ < n; omega) ⟨by decide, _, rfl, rfl⟩ rfl rfl rfl rfl ?_; exact hend)
    | (refine g_callVn (Y := Y_X5_readOrder) (c := 5) (s_X5_wants (I := m_ro2 I t) hk0 v2 a2 0 (Or.inl rfl)) (pc' := 70) dX5_readOrder_67 rfl cv_X5_182 rfl (by assumption) (by show _ < n; omega) ⟨by decide, _, rfl, rfl⟩ rfl rfl rfl rfl ?_; exact hend)
set_option maxHeartbeats 2000000 in
set_option maxRecDepth 100000 in
theorem s_X5_readOrder {l : Launch} {E : QE} {T : Nat → Nat × Nat} {I : Nat → Nat → Int} {J : Nat → Nat → Int64} {R : Nat → Nat → Option Nat} {n z : Nat} (hk : MdB T R n) (hv9 : TV I) (ha9 : AV I) (hw9 : I 110 19 = -1) (ho9 : 0 ≤ I 110 17 ∧ I 110 17 ≤ 15) : SpN l E Y_X5_readOrder [.ref (E.1 + 110)] (T, I, J, R, n, z) (T, m_ro I, J, R, n, z) := by
  have hk0 := hk
  obtain ⟨t0, t1, t2, t3, t4, t5, t6, t7, t8, t9, t10, t11, t12, t13, r1, r2, r4, r5, r8, r9, r10, r11, r12, r13, r14, r15, r16, hn⟩ := hk
  obtain ⟨t, ht⟩ : ∃ t : Nat, 3 * I 110 17 = (t : Int) := ⟨(3 * I 110 17).toNat, by omega⟩
  have e0 : m_ro I = m_ro5 (m_ro4 (m_ro3 (m_ro2 (m_ro1 I t) t)) t) := by unfold m_ro m_roT; rw [ht]; rfl
  rw [e0]
  obtain ⟨v1, a1, -, -, -, -, -⟩ := ro1_AV hv9 ha9 hw9 (t := t)
  have v0 : TV (u2 I 123 t 0) := TV_123 hv9
  have a0 : AV (u2 I 123 t 0) := AV_123 ha9
  have rl := m_let_rg v0 a0
  have hend := s_X5_ro40 (l := l) (E := E) (J := J) (z := z) hk0 v1 a1 (t := t) (by omega)
  refine Sp.of [some (.ref (E.1 + 110)), none] (by decide +kernel) (Nat.le_of_ble_eq_true rfl) (fun _ h => h) ?_
  refine g_iconst (Y := Y_X5_readOrder) (pc' := 1) dX5_readOrder_0 rfl ?_
  refine g_aload0 (Y := Y_X5_readOrder) (pc' := 2) dX5_readOrder_1 rfl ?_
  refine g_getI (Y := Y_X5_readOrder) (pc' := 5) dX5_readOrder_2 rfl fl_X5_186 rfl (by assumption) (by omega) ?_
  refine g_imul (Y := Y_X5_readOrder) (pc' := 6) dX5_readOrder_5 rfl ?_
  rw [ht]
  refine g_istore1 (Y := Y_X5_readOrder) (pc' := 7) dX5_readOrder_6 rfl (Nat.le_of_ble_eq_true rfl) rfl ?_
  refine g_aload0 (Y := Y_X5_readOrder) (pc' := 8) dX5_readOrder_7 rfl ?_
  refine g_getR (Y := Y_X5_readOrder) (pc' := 11) dX5_readOrder_8 rfl fl_X5_47 rfl (by assumption) (by omega) (by assumption) ?_
  refine g_iload1 (Y := Y_X5_readOrder) (pc' := 12) dX5_readOrder_11 rfl ?_
  refine g_iconst (Y := Y_X5_readOrder) (pc' := 13) dX5_readOrder_12 rfl ?_
  refine g_iast (Y := Y_X5_readOrder) (pc' := 14) dX5_readOrder_13 rfl (by assumption) (by omega) (by decide) ⟨by omega, by omega⟩ ?_
  refine g_aload0 (Y := Y_X5_readOrder) (pc' := 15) dX5_readOrder_14 rfl ?_
  refine g_callVv (Y := Y_X5_readOrder) (c := 5) (s_X5_letter (I := u2 I 123 t 0) hk0 v0 a0) (pc' := 18) dX5_readOrder_15 rfl cv_X5_179 rfl (by assumption) (by show _ < n; omega) ⟨by decide, _, rfl, rfl⟩ rfl rfl rfl rfl ?_
  refine g_bipush (Y := Y_X5_readOrder) (pc' := 20) dX5_readOrder_18 rfl (by decide) ?_
  refine g_icmp_ne (Y := Y_X5_readOrder) (t := 40) (pc' := 23) dX5_readOrder_20 (by decide) rfl ⟨by omega, by omega⟩ ⟨by omega, by omega⟩ (fun h20 => ?_) (fun h20 => ?_)
  · have e1 : m_ro1 I t = u2 I 123 t 0 := if_neg h20
    rw [e1] at hend ⊢
    exact hend
  · have e1 : m_ro1 I t = m_nx (u2 (u2 I 123 t 0) 123 t 1) := if_pos h20
    rw [e1] at hend ⊢
    refine g_aload0 (Y := Y_X5_readOrder) (pc' := 24) dX5_readOrder_23 rfl ?_
    refine g_getR (Y := Y_X5_readOrder) (pc' := 27) dX5_readOrder_24 rfl fl_X5_47 rfl (by assumption) (by omega) (by assumption) ?_
    refine g_iload1 (Y := Y_X5_readOrder) (pc' := 28) dX5_readOrder_27 rfl ?_
    refine g_iconst (Y := Y_X5_readOrder) (pc' := 29) dX5_readOrder_28 rfl ?_
    refine g_iast (Y := Y_X5_readOrder) (pc' := 30) dX5_readOrder_29 rfl (by assumption) (by omega) (by decide) ⟨by omega, by omega⟩ ?_
    refine g_aload0 (Y := Y_X5_readOrder) (pc' := 31) dX5_readOrder_30 rfl ?_
    refine g_dup (Y := Y_X5_readOrder) (pc' := 32) dX5_readOrder_31 rfl rfl ?_
    refine g_getI (Y := Y_X5_readOrder) (pc' := 35) dX5_readOrder_32 rfl fl_X5_173 rfl (by assumption) (by omega) ?_
    refine g_iconst (Y := Y_X5_readOrder) (pc' := 36) dX5_readOrder_35 rfl ?_
    refine g_iadd (Y := Y_X5_readOrder) (pc' := 37) dX5_readOrder_36 rfl ?_
    refine g_putI (Y := Y_X5_readOrder) (pc' := 40) dX5_readOrder_37 rfl fp_X5_173 rfl (by assumption) (by omega) ?_
    exact hend
