/-! the reference: its map is laid, hits -/
def m_ld2 (q : Nat) : Nat → Int → (Nat → Nat → Int) → Nat → Nat → Int
  | 0, _, I => I
  | f + 1, s, I => m_ld2 q f (s + 1) (if m_cellOf I q s = -1 then I else u2 I 121 (m_cellOf I q s).toNat (I 121 (m_cellOf I q s).toNat + 1))
def m_ld1 : Nat → Nat → (Nat → Nat → Int) → Nat → Nat → Int
  | 0, _, I => I
  | f + 1, q, I => m_ld1 f (q + 1) (m_ld2 q (I 119 q - I 118 q + 1).toNat (I 118 q) I)
theorem LQ_ne {I I' : Nat → Nat → Int} {q : Nat} (h : LQ I q) (e : ∀ a, 115 ≤ a → a ≤ 120 → I' a = I a) : LQ I' q := by
  unfold LQ
  rw [e 120 (by omega) (by omega), e 116 (by omega) (by omega), e 117 (by omega) (by omega), e 118 (by omega) (by omega), e 119 (by omega) (by omega), e 115 (by omega) (by omega)]
  exact h
theorem ld2_ne {q : Nat} : ∀ (f : Nat) (s : Int) (I : Nat → Nat → Int) (a : Nat), a ≠ 121 → m_ld2 q f s I a = I a
  | 0, _, _, _, _ => rfl
  | f + 1, s, I, a, h => by
    unfold m_ld2
    rw [ld2_ne f (s + 1) _ a h]
    split
    · rfl
    · rw [u2_ne h]
theorem ld1_ne : ∀ (f q : Nat) (I : Nat → Nat → Int) (a : Nat), a ≠ 121 → m_ld1 f q I a = I a
  | 0, _, _, _, _ => rfl
  | f + 1, q, I, a, h => by
    unfold m_ld1
    rw [ld1_ne f (q + 1) _ a h, ld2_ne _ _ _ _ h]
theorem lb_ne : ∀ (f c : Nat) (I : Nat → Nat → Int) (a : Nat), a ≠ 121 → a ≠ 122 → m_lb f c I a = I a
  | 0, _, _, _, _, _ => rfl
  | f + 1, c, I, a, h, g => by
    unfold m_lb
    rw [lb_ne f (c + 1) _ a h g, u2_ne g, u2_ne h]
theorem lc_ne : ∀ (f k : Nat) (I : Nat → Nat → Int) (a : Nat), a ≠ 122 → m_lc f k I a = I a
  | 0, _, _, _, _ => rfl
  | f + 1, k, I, a, g => by
    unfold m_lc
    rw [lc_ne f (k + 1) _ a g, u2_ne g]
def m_lay1 (I : Nat → Nat → Int) : Nat → Nat → Int := m_a1 (I 111 3).toNat 0 (u2 I 110 7 0)
def m_lay3 (I : Nat → Nat → Int) : Nat → Nat → Int := m_lc (I 111 3).toNat 0 (m_lb 576 0 (m_lay1 I))
def m_lay (I : Nat → Nat → Int) : Nat → Nat → Int := m_ld1 (m_lay3 I 110 7).toNat 0 (m_lay3 I)
set_option maxHeartbeats 2000000 in
set_option maxRecDepth 100000 in
theorem s_X5_lay_d2 {l : Launch} {E : QE} {T : Nat → Nat × Nat} {J : Nat → Nat → Int64} {R : Nat → Nat → Option Nat} {n z : Nat} (hk : MdB T R n) {q : Nat} (hq66 : q < 66) {K : Option Value → QW → Prop} : ∀ (f : Nat) (s : Int) (I : Nat → Nat → Int) (x3 : Option Value), LQ I q → (-40 < s ∧ s < 100) → f = (I 119 q - s + 1).toNat → (∀ (L2 : Int) (x3 : Option Value), Go l E Y_X5_lay 0 0 162 [some (.ref (E.1 + 110)), some (.int (iz (q : Int))), some (.int (iz L2)), x3] [] (T, (m_ld2 q f s I), J, R, n, z) K) → Go l E Y_X5_lay 0 0 124 [some (.ref (E.1 + 110)), some (.int (iz (q : Int))), some (.int (iz s)), x3] [] (T, I, J, R, n, z) K := by
  have hk0 := hk
  obtain ⟨t0, t1, t2, t3, t4, t5, t6, t7, t8, t9, t10, t11, t12, t13, r1, r2, r4, r5, r8, r9, r10, r11, r12, r13, r14, r15, r16, hn⟩ := hk
  intro f
  induction f with
  | zero =>
    intro s I x3 hlq hs hf hend
    obtain ⟨l1, l2, l3, l4, l5, l6⟩ := id hlq
    refine g_iload2 (Y := Y_X5_lay) (pc' := 125) dX5_lay_124 rfl ?_
    refine g_aload0 (Y := Y_X5_lay) (pc' := 126) dX5_lay_125 rfl ?_
    refine g_getR (Y := Y_X5_lay) (pc' := 129) dX5_lay_126 rfl fl_X5_34 rfl (by assumption) (by omega) (by assumption) ?_
    refine g_iload1 (Y := Y_X5_lay) (pc' := 130) dX5_lay_129 rfl ?_
    refine g_iald (Y := Y_X5_lay) (pc' := 131) dX5_lay_130 rfl (by assumption) (by omega) (by decide) ⟨by omega, by omega⟩ ?_
    rw [show (q : Int).toNat = q from rfl]
    refine g_icmp_gt (Y := Y_X5_lay) (t := 162) (pc' := 134) dX5_lay_131 (by decide) rfl ⟨by omega, by omega⟩ ⟨by omega, by omega⟩ (fun h131 => ?_) (fun h131 => ?_)
    · exact hend _ _
    · exfalso; omega
  | succ f ih =>
    intro s I x3 hlq hs hf hend
    obtain ⟨l1, l2, l3, l4, l5, l6⟩ := id hlq
    have hcr := m_cellOf_rg (I := I) (q := q) (s := s)
    refine g_iload2 (Y := Y_X5_lay) (pc' := 125) dX5_lay_124 rfl ?_
    refine g_aload0 (Y := Y_X5_lay) (pc' := 126) dX5_lay_125 rfl ?_
    refine g_getR (Y := Y_X5_lay) (pc' := 129) dX5_lay_126 rfl fl_X5_34 rfl (by assumption) (by omega) (by assumption) ?_
    refine g_iload1 (Y := Y_X5_lay) (pc' := 130) dX5_lay_129 rfl ?_
    refine g_iald (Y := Y_X5_lay) (pc' := 131) dX5_lay_130 rfl (by assumption) (by omega) (by decide) ⟨by omega, by omega⟩ ?_
    rw [show (q : Int).toNat = q from rfl]
    refine g_icmp_gt (Y := Y_X5_lay) (t := 162) (pc' := 134) dX5_lay_131 (by decide) rfl ⟨by omega, by omega⟩ ⟨by omega, by omega⟩ (fun h131 => ?_) (fun h131 => ?_)
    · exfalso; omega
    · refine g_aload0 (Y := Y_X5_lay) (pc' := 135) dX5_lay_134 rfl ?_
      refine g_iload1 (Y := Y_X5_lay) (pc' := 136) dX5_lay_135 rfl ?_
      refine g_iload2 (Y := Y_X5_lay) (pc' := 137) dX5_lay_136 rfl ?_
      refine g_callVv (Y := Y_X5_lay) (c := 5) (s_X5_cellOf hk0 hq66 hlq s ⟨by omega, by omega⟩) (pc' := 140) dX5_lay_137 rfl cv_X5_101 rfl (by assumption) (by show _ < n; omega) ⟨by decide, _, rfl, rfl⟩ rfl rfl rfl rfl ?_
      refine g_istore3 (Y := Y_X5_lay) (pc' := 141) dX5_lay_140 rfl (Nat.le_of_ble_eq_true rfl) rfl ?_
      refine g_iload3 (Y := Y_X5_lay) (pc' := 142) dX5_lay_141 rfl ?_
      refine g_iconst (Y := Y_X5_lay) (pc' := 143) dX5_lay_142 rfl ?_
      refine g_icmp_eq (Y := Y_X5_lay) (t := 156) (pc' := 146) dX5_lay_143 (by decide) rfl ⟨by omega, by omega⟩ ⟨by omega, by omega⟩ (fun h143 => ?_) (fun h143 => ?_)
      · have e : m_ld2 q (f + 1) s I = m_ld2 q f (s + 1) I := by show m_ld2 q f (s + 1) (if _ then _ else _) = _; rw [if_pos h143]
        rw [e] at hend
        refine g_iinc2 (Y := Y_X5_lay) (pc' := 159) dX5_lay_156 rfl (Nat.le_of_ble_eq_true rfl) rfl ?_
        refine g_goto (Y := Y_X5_lay) (t := 124) dX5_lay_159 (by decide) ?_
        first | exact ih (s + 1) _ _ hlq9 (by omega) (by rw [e9]; omega) hend | exact ih (s + 1) _ _ hlq (by omega) (by omega) hend
      · have e : m_ld2 q (f + 1) s I = m_ld2 q f (s + 1) (u2 I 121 (m_cellOf I q s).toNat (I 121 (m_cellOf I q s).toNat + 1)) := by show m_ld2 q f (s + 1) (if _ then _ else _) = _; rw [if_neg h143]
        rw [e] at hend
        have hlq9 : LQ (u2 I 121 (m_cellOf I q s).toNat (I 121 (m_cellOf I q s).toNat + 1)) q := LQ_ne hlq (fun a h1 h2 => u2_ne (by omega))
        have e9 : u2 I 121 (m_cellOf I q s).toNat (I 121 (m_cellOf I q s).toNat + 1) 119 = I 119 := u2_ne (by decide)
        refine g_aload0 (Y := Y_X5_lay) (pc' := 147) dX5_lay_146 rfl ?_
        refine g_getR (Y := Y_X5_lay) (pc' := 150) dX5_lay_147 rfl fl_X5_40 rfl (by assumption) (by omega) (by assumption) ?_
        refine g_iload3 (Y := Y_X5_lay) (pc' := 151) dX5_lay_150 rfl ?_
        refine g_dup2 (Y := Y_X5_lay) (pc' := 152) dX5_lay_151 rfl rfl rfl ?_
        refine g_iald (Y := Y_X5_lay) (pc' := 153) dX5_lay_152 rfl (by assumption) (by omega) (by decide) ⟨by omega, by omega⟩ ?_
        refine g_iconst (Y := Y_X5_lay) (pc' := 154) dX5_lay_153 rfl ?_
        refine g_iadd (Y := Y_X5_lay) (pc' := 155) dX5_lay_154 rfl ?_
        refine g_iast (Y := Y_X5_lay) (pc' := 156) dX5_lay_155 rfl (by assumption) (by omega) (by decide) ⟨by omega, by omega⟩ ?_
        refine g_iinc2 (Y := Y_X5_lay) (pc' := 159) dX5_lay_156 rfl (Nat.le_of_ble_eq_true rfl) rfl ?_
        refine g_goto (Y := Y_X5_lay) (t := 124) dX5_lay_159 (by decide) ?_
        first | exact ih (s + 1) _ _ hlq9 (by omega) (by rw [e9]; omega) hend | exact ih (s + 1) _ _ hlq (by omega) (by omega) hend
set_option maxHeartbeats 2000000 in
set_option maxRecDepth 100000 in
theorem s_X5_lay_d1 {l : Launch} {E : QE} {T : Nat → Nat × Nat} {J : Nat → Nat → Int64} {R : Nat → Nat → Option Nat} {n z : Nat} (hk : MdB T R n) : ∀ (f q : Nat) (I : Nat → Nat → Int) (x2 x3 : Option Value), (0 ≤ I 110 7 ∧ I 110 7 ≤ 66) → (∀ q : Nat, (q : Int) < I 110 7 → LQ I q) → q + f = (I 110 7).toNat → Go l E Y_X5_lay 0 0 109 [some (.ref (E.1 + 110)), some (.int (iz (q : Int))), x2, x3] [] (T, I, J, R, n, z) (KN (T, m_ld1 f q I, J, R, n, z)) := by
  have hk0 := hk
  obtain ⟨t0, t1, t2, t3, t4, t5, t6, t7, t8, t9, t10, t11, t12, t13, r1, r2, r4, r5, r8, r9, r10, r11, r12, r13, r14, r15, r16, hn⟩ := hk
  intro f
  induction f with
  | zero =>
    intro q I x2 x3 hL hlq hf
    refine g_iload1 (Y := Y_X5_lay) (pc' := 110) dX5_lay_109 rfl ?_
    refine g_aload0 (Y := Y_X5_lay) (pc' := 111) dX5_lay_110 rfl ?_
    refine g_getI (Y := Y_X5_lay) (pc' := 114) dX5_lay_111 rfl fl_X5_72 rfl (by assumption) (by omega) ?_
    refine g_icmp_ge (Y := Y_X5_lay) (t := 168) (pc' := 117) dX5_lay_114 (by decide) rfl ⟨by omega, by omega⟩ ⟨by omega, by omega⟩ (fun h114 => ?_) (fun h114 => ?_)
    · exact g_vret (Y := Y_X5_lay) dX5_lay_168 rfl (Nat.zero_le _) (Nat.zero_le _) (⟨rfl, rfl⟩)
    · exfalso; omega
  | succ f ih =>
    intro q I x2 x3 hL hlq hf
    have hlqq := hlq q (by omega)
    obtain ⟨l1, l2, l3, l4, l5, l6⟩ := id hlqq
    refine g_iload1 (Y := Y_X5_lay) (pc' := 110) dX5_lay_109 rfl ?_
    refine g_aload0 (Y := Y_X5_lay) (pc' := 111) dX5_lay_110 rfl ?_
    refine g_getI (Y := Y_X5_lay) (pc' := 114) dX5_lay_111 rfl fl_X5_72 rfl (by assumption) (by omega) ?_
    refine g_icmp_ge (Y := Y_X5_lay) (t := 168) (pc' := 117) dX5_lay_114 (by decide) rfl ⟨by omega, by omega⟩ ⟨by omega, by omega⟩ (fun h114 => ?_) (fun h114 => ?_)
    · exfalso; omega
    · refine g_aload0 (Y := Y_X5_lay) (pc' := 118) dX5_lay_117 rfl ?_
      refine g_getR (Y := Y_X5_lay) (pc' := 121) dX5_lay_118 rfl fl_X5_31 rfl (by assumption) (by omega) (by assumption) ?_
      refine g_iload1 (Y := Y_X5_lay) (pc' := 122) dX5_lay_121 rfl ?_
      refine g_iald (Y := Y_X5_lay) (pc' := 123) dX5_lay_122 rfl (by assumption) (by omega) (by decide) ⟨by omega, by omega⟩ ?_
      rw [show (q : Int).toNat = q from rfl]
      refine g_istore2 (Y := Y_X5_lay) (pc' := 124) dX5_lay_123 rfl (Nat.le_of_ble_eq_true rfl) rfl ?_
      refine s_X5_lay_d2 hk0 (by omega) (I 119 q - I 118 q + 1).toNat (I 118 q) I _ hlqq (by omega) rfl (fun L2 x3 => ?_)
      refine g_iinc1 (Y := Y_X5_lay) (pc' := 165) dX5_lay_162 rfl (Nat.le_of_ble_eq_true rfl) rfl ?_
      refine g_goto (Y := Y_X5_lay) (t := 109) dX5_lay_165 (by decide) ?_
      exact ih (q + 1) _ _ _ (by rw [ld2_ne _ _ _ _ (by decide)]; exact hL) (fun q9 h9 => LQ_ne (hlq q9 (by rw [ld2_ne _ _ _ _ (by decide)] at h9; exact h9)) (fun a h1 h2 => ld2_ne _ _ _ _ (by omega))) (by rw [ld2_ne _ _ _ _ (by decide)]; omega)
