/-! the reference: a line is laid -/
/-- what the spots on the straight line of i and j make: their mask, whether i and j are its first two, the least and the greatest steps -/
def m_str (I : Nat → Nat → Int) (i j k : Nat) : Prop := m_ta I i j * m_sa I i k = m_ta I i k * m_sa I i j
def lpM (I : Nat → Nat → Int) (i j k : Nat) (s : Int × Int × Int × Int) : Int × Int × Int × Int :=
  if m_ta I i j * m_sa I i k = m_ta I i k * m_sa I i j then (obit s.1 k, (if ¬ s.2.1 = 0 ∧ (k = i ∨ j ≤ k) then 1 else 0), (if m_st I i k < s.2.2.1 then m_st I i k else s.2.2.1), (if s.2.2.2 < m_st I i k then m_st I i k else s.2.2.2)) else s
def lpL (I : Nat → Nat → Int) (i j : Nat) : Nat → Nat → Int × Int × Int × Int → Int × Int × Int × Int
  | 0, _, s => s
  | f + 1, k, s => lpL I i j f (k + 1) (lpM I i j k s)
def lpOk (s : Int × Int × Int × Int) : Prop := (0 ≤ s.1 ∧ s.1 < 4096) ∧ (s.2.1 = 0 ∨ s.2.1 = 1) ∧ (-24 < s.2.2.1 ∧ s.2.2.1 ≤ 0) ∧ (0 ≤ s.2.2.2 ∧ s.2.2.2 < 24)
theorem lpM_ok {I : Nat → Nat → Int} (hz9 : ZV I) {i j k : Nat} (hi : (i : Int) < I 111 3) (hk : (k : Int) < I 111 3) {s : Int × Int × Int × Int} (h : lpOk s) : lpOk (lpM I i j k s) := by
  obtain ⟨h1, h2, h3, h4⟩ := id h
  have z3 := hz9.1
  have r := m_st_rg hz9 hi hk
  unfold lpM
  split
  · refine ⟨obit_rg h1 ⟨by omega, by omega⟩, ?_, ?_, ?_⟩
    · show (if _ then (1 : Int) else 0) = 0 ∨ (if _ then (1 : Int) else 0) = 1
      split <;> simp
    · show -24 < (if m_st I i k < s.2.2.1 then m_st I i k else s.2.2.1) ∧ (if m_st I i k < s.2.2.1 then m_st I i k else s.2.2.1) ≤ 0
      split <;> omega
    · show 0 ≤ (if s.2.2.2 < m_st I i k then m_st I i k else s.2.2.2) ∧ (if s.2.2.2 < m_st I i k then m_st I i k else s.2.2.2) < 24
      split <;> omega
  · exact h
theorem lpL_ok {I : Nat → Nat → Int} (hz9 : ZV I) {i j : Nat} (hi : (i : Int) < I 111 3) : ∀ (f k : Nat) (s : Int × Int × Int × Int), k + f = (I 111 3).toNat → lpOk s → lpOk (lpL I i j f k s)
  | 0, _, _, _, h => h
  | f + 1, k, s, hf, h => by
    unfold lpL
    exact lpL_ok hz9 hi f (k + 1) _ (by omega) (lpM_ok hz9 hi (by omega) h)
def m_sign (t u : Int) : Int := if t < 0 ∨ t = 0 ∧ u < 0 then -1 else 1
def m_gcd (t u : Int) : Int := ((Nat.gcd t.natAbs u.natAbs : Nat) : Int)
def m_ln1 (I : Nat → Nat → Int) (i j : Nat) : Nat → Nat → Int := u2 (u2 I 116 (I 110 7).toNat ((m_sign (m_ta I i j) (m_sa I i j) * m_ta I i j).tdiv (m_gcd (m_ta I i j) (m_sa I i j)))) 117 (I 110 7).toNat ((m_sign (m_ta I i j) (m_sa I i j) * m_sa I i j).tdiv (m_gcd (m_ta I i j) (m_sa I i j)))
def m_lnS (I : Nat → Nat → Int) (i j : Nat) : Int × Int × Int × Int := lpL I i j (I 111 3).toNat 0 (0, 1, 0, 0)
def m_ln2 (I : Nat → Nat → Int) (i : Nat) (s : Int × Int × Int × Int) : Nat → Nat → Int := u2 (u2 (u2 (u2 (u2 I 115 (I 110 7).toNat s.1) 120 (I 110 7).toNat (I 111 (6 + i))) 118 (I 110 7).toNat (s.2.2.1 - I 111 2)) 119 (I 110 7).toNat (s.2.2.2 + I 111 2)) 110 7 (I 110 7 + 1)
def m_ln3 (I : Nat → Nat → Int) (i : Nat) (s : Int × Int × Int × Int) : Nat → Nat → Int := if ¬ s.2.1 = 0 ∧ ¬ pcn s.1 < I 111 0 ∧ ¬ m_near I i s.1 = 0 then m_ln2 I i s else I
def m_layLine (I : Nat → Nat → Int) (i j : Nat) : Nat → Nat → Int := m_ln3 (m_ln1 I i j) i (m_lnS (m_ln1 I i j) i j)
theorem iabs_nat (x : Int) : iabs x = ((x.natAbs : Nat) : Int) := by unfold iabs; split <;> omega
theorem ZV_ne {I I' : Nat → Nat → Int} (h : ZV I) (e : I' 111 = I 111) : ZV I' := by
  unfold ZV
  rw [e]
  exact h
theorem m_sign_mul {t u : Int} (h : -24 < t ∧ t < 24) (g : -24 < u ∧ u < 24) : (-24 < m_sign t u * t ∧ m_sign t u * t < 24) ∧ (-24 < m_sign t u * u ∧ m_sign t u * u < 24) ∧ (t ≠ 0 → m_sign t u * t = ((t.natAbs : Nat) : Int)) ∧ (t = 0 → m_sign t u * u = ((u.natAbs : Nat) : Int)) := by
  unfold m_sign
  split
  · rw [Int.neg_one_mul, Int.neg_one_mul]; omega
  · rw [Int.one_mul, Int.one_mul]; omega
theorem ln1_StpV {I : Nat → Nat → Int} (hz9 : ZV I) {i j : Nat} (hi : (i : Int) < I 111 3) (hj : (j : Int) < I 111 3) (hne : i ≠ j) (hL : 0 ≤ I 110 7 ∧ I 110 7 < 66) : StpV (m_ln1 I i j) ∧ 0 < m_gcd (m_ta I i j) (m_sa I i j) ∧ m_gcd (m_ta I i j) (m_sa I i j) < 24 := by
  have r1 := m_ta_rg hz9 hi hj
  have r2 := m_sa_rg hz9 hi hj
  have ap := m_apart hz9 hi hj hne
  obtain ⟨s1, s2, s3, s4⟩ := m_sign_mul r1 r2
  have e7 : m_ln1 I i j 110 7 = I 110 7 := by unfold m_ln1; rw [u2_ne (by decide), u2_ne (by decide)]
  have e6 : m_ln1 I i j 116 (I 110 7).toNat = (m_sign (m_ta I i j) (m_sa I i j) * m_ta I i j).tdiv (m_gcd (m_ta I i j) (m_sa I i j)) := by unfold m_ln1; rw [u2_ne (by decide), u2_at]
  have e5 : m_ln1 I i j 117 (I 110 7).toNat = (m_sign (m_ta I i j) (m_sa I i j) * m_sa I i j).tdiv (m_gcd (m_ta I i j) (m_sa I i j)) := by unfold m_ln1; rw [u2_at]
  have gp : 0 < Nat.gcd (m_ta I i j).natAbs (m_sa I i j).natAbs := by
    by_cases h : m_ta I i j = 0
    · exact Nat.gcd_pos_of_pos_right _ (by omega)
    · exact Nat.gcd_pos_of_pos_left _ (by omega)
  have gu : Nat.gcd (m_ta I i j).natAbs (m_sa I i j).natAbs < 24 := by
    by_cases h : m_ta I i j = 0
    · exact Nat.lt_of_le_of_lt (Nat.gcd_le_right _ (by omega)) (by omega)
    · exact Nat.lt_of_le_of_lt (Nat.gcd_le_left _ (by omega)) (by omega)
  refine ⟨?_, by unfold m_gcd; omega, by unfold m_gcd; omega⟩
  unfold StpV
  rw [e7, e6, e5]
  refine ⟨hL, tdiv_rg s1, tdiv_rg s2, fun hn => ?_⟩
  by_cases h : m_ta I i j = 0
  · rw [s4 h]
    unfold m_gcd
    show ((((m_sa I i j).natAbs / Nat.gcd (m_ta I i j).natAbs (m_sa I i j).natAbs : Nat)) : Int) ≠ 0
    have e : (m_ta I i j).natAbs = 0 := by omega
    rw [e, Nat.gcd_zero_left, Nat.div_self (by omega)]
    decide
  · exfalso
    apply hn
    rw [s3 h]
    unfold m_gcd
    show (0 : Int) < ((((m_ta I i j).natAbs / Nat.gcd (m_ta I i j).natAbs (m_sa I i j).natAbs : Nat)) : Int)
    have q := Nat.div_pos (Nat.gcd_le_left (m_sa I i j).natAbs (show 0 < (m_ta I i j).natAbs by omega)) gp
    omega
set_option maxHeartbeats 2000000 in
set_option maxRecDepth 100000 in
theorem s_X5_ln_lp {l : Launch} {E : QE} {T : Nat → Nat × Nat} {I : Nat → Nat → Int} {J : Nat → Nat → Int64} {R : Nat → Nat → Option Nat} {n z : Nat} (hk : MdB T R n) (hz9 : ZV I) (hst : StpV I) {i j : Nat} (hi : (i : Int) < I 111 3) (hj : (j : Int) < I 111 3) {x3 x4 x5 : Option Value} {sg : Int} {K : Option Value → QW → Prop} : ∀ (f k9 : Nat) (mask fst low high : Int), k9 + f = (I 111 3).toNat → lpOk (mask, fst, low, high) → (∀ L9 : Int, Go l E Y_X5_layLine 0 0 210 [some (.ref (E.1 + 110)), some (.int (iz (i : Int))), some (.int (iz (j : Int))), x3, x4, x5, some (.int (iz sg)), some (.int (iz (lpL I i j f k9 (mask, fst, low, high)).1)), some (.int (iz (lpL I i j f k9 (mask, fst, low, high)).2.1)), some (.int (iz (lpL I i j f k9 (mask, fst, low, high)).2.2.1)), some (.int (iz (lpL I i j f k9 (mask, fst, low, high)).2.2.2)), some (.int (iz L9))] [] (T, I, J, R, n, z) K) → Go l E Y_X5_layLine 0 0 97 [some (.ref (E.1 + 110)), some (.int (iz (i : Int))), some (.int (iz (j : Int))), x3, x4, x5, some (.int (iz sg)), some (.int (iz mask)), some (.int (iz fst)), some (.int (iz low)), some (.int (iz high)), some (.int (iz (k9 : Int)))] [] (T, I, J, R, n, z) K := by
  have hk0 := hk
  obtain ⟨t0, t1, t2, t3, t4, t5, t6, t7, t8, t9, t10, t11, t12, t13, r1, r2, r4, r5, r8, r9, r10, r11, r12, r13, r14, r15, r16, hn⟩ := hk
  obtain ⟨z3, zs, zs0, zd, zt, zt2, zv, zw, zk⟩ := id hz9
  intro f
  induction f with
  | zero =>
    intro k9 mask fst low high hm hs hend
    refine g_iload11 (Y := Y_X5_layLine) (pc' := 99) dX5_layLine_97 rfl ?_
    refine g_aload0 (Y := Y_X5_layLine) (pc' := 100) dX5_layLine_99 rfl ?_
    refine g_getR (Y := Y_X5_layLine) (pc' := 103) dX5_layLine_100 rfl fl_X5_7 rfl (by assumption) (by omega) (by assumption) ?_
    refine g_iconst (Y := Y_X5_layLine) (pc' := 104) dX5_layLine_103 rfl ?_
    refine g_iald (Y := Y_X5_layLine) (pc' := 105) dX5_layLine_104 rfl (by assumption) (by omega) (by decide) ⟨by omega, by omega⟩ ?_
    rw [show Int.toNat 3 = 3 from rfl]
    refine g_icmp_ge (Y := Y_X5_layLine) (t := 210) (pc' := 108) dX5_layLine_105 (by decide) rfl ⟨by omega, by omega⟩ ⟨by omega, by omega⟩ (fun h105 => ?_) (fun h105 => ?_)
    · exact hend _
    · exfalso; omega
  | succ f ih =>
    intro k9 mask fst low high hm hs hend
    have r1 := m_st_rg hz9 hi (show (k9 : Int) < I 111 3 by omega)
    obtain ⟨q1, q2, q3, q4⟩ : (0 ≤ mask ∧ mask < 4096) ∧ (fst = 0 ∨ fst = 1) ∧ (-24 < low ∧ low ≤ 0) ∧ (0 ≤ high ∧ high < 24) := id hs
    have hs9 : lpOk (lpM I i j k9 (mask, fst, low, high)) := lpM_ok hz9 hi (by omega) hs
    refine g_iload11 (Y := Y_X5_layLine) (pc' := 99) dX5_layLine_97 rfl ?_
    refine g_aload0 (Y := Y_X5_layLine) (pc' := 100) dX5_layLine_99 rfl ?_
    refine g_getR (Y := Y_X5_layLine) (pc' := 103) dX5_layLine_100 rfl fl_X5_7 rfl (by assumption) (by omega) (by assumption) ?_
    refine g_iconst (Y := Y_X5_layLine) (pc' := 104) dX5_layLine_103 rfl ?_
    refine g_iald (Y := Y_X5_layLine) (pc' := 105) dX5_layLine_104 rfl (by assumption) (by omega) (by decide) ⟨by omega, by omega⟩ ?_
    rw [show Int.toNat 3 = 3 from rfl]
    refine g_icmp_ge (Y := Y_X5_layLine) (t := 210) (pc' := 108) dX5_layLine_105 (by decide) rfl ⟨by omega, by omega⟩ ⟨by omega, by omega⟩ (fun h105 => ?_) (fun h105 => ?_)
    · exfalso; omega
    · refine g_aload0 (Y := Y_X5_layLine) (pc' := 109) dX5_layLine_108 rfl ?_
      refine g_iload1 (Y := Y_X5_layLine) (pc' := 110) dX5_layLine_109 rfl ?_
      refine g_iload2 (Y := Y_X5_layLine) (pc' := 111) dX5_layLine_110 rfl ?_
      refine g_iload11 (Y := Y_X5_layLine) (pc' := 113) dX5_layLine_111 rfl ?_
      refine g_callVv (Y := Y_X5_layLine) (c := 5) (s_X5_isStraight hk0 hz9 i j k9 hi hj (by omega)) (pc' := 116) dX5_layLine_113 rfl cv_X5_84 rfl (by assumption) (by show _ < n; omega) ⟨by decide, _, rfl, rfl⟩ rfl rfl rfl rfl ?_
      refine g_if_eq (Y := Y_X5_layLine) (t := 204) (pc' := 119) dX5_layLine_116 (by decide) rfl ⟨by omega, by omega⟩ (fun h116 => ?_) (fun h116 => ?_)
      · have e : lpL I i j (f + 1) k9 (mask, fst, low, high) = lpL I i j f (k9 + 1) (lpM I i j k9 (mask, fst, low, high)) := rfl
        have eM : lpM I i j k9 (mask, fst, low, high) = (mask, fst, low, high) := if_neg (ifb_f h116)
        rw [e, eM] at hend
        rw [eM] at hs9
        refine g_iinc11 (Y := Y_X5_layLine) (pc' := 207) dX5_layLine_204 rfl (Nat.le_of_ble_eq_true rfl) rfl ?_
        refine g_goto (Y := Y_X5_layLine) (t := 97) dX5_layLine_207 (by decide) ?_
        exact ih (k9 + 1) _ _ _ _ (by omega) hs9 hend
      · refine g_iload7 (Y := Y_X5_layLine) (pc' := 121) dX5_layLine_119 rfl ?_
        refine g_iconst (Y := Y_X5_layLine) (pc' := 122) dX5_layLine_121 rfl ?_
        refine g_iload11 (Y := Y_X5_layLine) (pc' := 124) dX5_layLine_122 rfl ?_
        refine g_ishl (Y := Y_X5_layLine) (pc' := 125) dX5_layLine_124 rfl (iz_shlN (by omega)) ?_
        refine g_ior (Y := Y_X5_layLine) (pc' := 126) dX5_layLine_125 rfl (iz_obit q1.1 (s := (k9 : Int))) ?_
        refine g_istore7 (Y := Y_X5_layLine) (pc' := 128) dX5_layLine_126 rfl (Nat.le_of_ble_eq_true rfl) rfl ?_
        refine g_iload8 (Y := Y_X5_layLine) (pc' := 130) dX5_layLine_128 rfl ?_
        refine g_if_eq (Y := Y_X5_layLine) (t := 149) (pc' := 133) dX5_layLine_130 (by decide) rfl ⟨by omega, by omega⟩ (fun h130 => ?_) (fun h130 => ?_)
        · have hF : (if ¬ fst = 0 ∧ (k9 = i ∨ j ≤ k9) then (1 : Int) else 0) = 0 := if_neg (by omega)
          refine g_iconst (Y := Y_X5_layLine) (pc' := 150) dX5_layLine_149 rfl ?_
          refine g_istore8 (Y := Y_X5_layLine) (pc' := 152) dX5_layLine_150 rfl (Nat.le_of_ble_eq_true rfl) rfl ?_
          refine g_aload0 (Y := Y_X5_layLine) (pc' := 153) dX5_layLine_152 rfl ?_
          refine g_iload1 (Y := Y_X5_layLine) (pc' := 154) dX5_layLine_153 rfl ?_
          refine g_iload11 (Y := Y_X5_layLine) (pc' := 156) dX5_layLine_154 rfl ?_
          refine g_callVv (Y := Y_X5_layLine) (c := 5) (s_X5_stepsTo hk0 hz9 hst i k9 hi (by omega)) (pc' := 159) dX5_layLine_156 rfl cv_X5_75 rfl (by assumption) (by show _ < n; omega) ⟨by decide, _, rfl, rfl⟩ rfl rfl rfl rfl ?_
          refine g_iload9 (Y := Y_X5_layLine) (pc' := 161) dX5_layLine_159 rfl ?_
          refine g_icmp_ge (Y := Y_X5_layLine) (t := 174) (pc' := 164) dX5_layLine_161 (by decide) rfl ⟨by omega, by omega⟩ ⟨by omega, by omega⟩ (fun h161 => ?_) (fun h161 => ?_)
          · have hLo : (if m_st I i k9 < low then m_st I i k9 else low) = low := if_neg (by omega)
            refine g_iload9 (Y := Y_X5_layLine) (pc' := 176) dX5_layLine_174 rfl ?_
            refine g_istore9 (Y := Y_X5_layLine) (pc' := 178) dX5_layLine_176 rfl (Nat.le_of_ble_eq_true rfl) rfl ?_
            refine g_aload0 (Y := Y_X5_layLine) (pc' := 179) dX5_layLine_178 rfl ?_
            refine g_iload1 (Y := Y_X5_layLine) (pc' := 180) dX5_layLine_179 rfl ?_
            refine g_iload11 (Y := Y_X5_layLine) (pc' := 182) dX5_layLine_180 rfl ?_
            refine g_callVv (Y := Y_X5_layLine) (c := 5) (s_X5_stepsTo hk0 hz9 hst i k9 hi (by omega)) (pc' := 185) dX5_layLine_182 rfl cv_X5_75 rfl (by assumption) (by show _ < n; omega) ⟨by decide, _, rfl, rfl⟩ rfl rfl rfl rfl ?_
            refine g_iload10 (Y := Y_X5_layLine) (pc' := 187) dX5_layLine_185 rfl ?_
            refine g_icmp_le (Y := Y_X5_layLine) (t := 200) (pc' := 190) dX5_layLine_187 (by decide) rfl ⟨by omega, by omega⟩ ⟨by omega, by omega⟩ (fun h187 => ?_) (fun h187 => ?_)
            · have hHi : (if high < m_st I i k9 then m_st I i k9 else high) = high := if_neg (by omega)
              have e : lpL I i j (f + 1) k9 (mask, fst, low, high) = lpL I i j f (k9 + 1) (lpM I i j k9 (mask, fst, low, high)) := rfl
              have eM : lpM I i j k9 (mask, fst, low, high) = (obit mask k9, (if ¬ fst = 0 ∧ (k9 = i ∨ j ≤ k9) then (1 : Int) else 0), (if m_st I i k9 < low then m_st I i k9 else low), (if high < m_st I i k9 then m_st I i k9 else high)) := if_pos (ifb_t h116)
              rw [hF, hLo, hHi] at eM
              rw [e, eM] at hend
              rw [eM] at hs9
              refine g_iload10 (Y := Y_X5_layLine) (pc' := 202) dX5_layLine_200 rfl ?_
              refine g_istore10 (Y := Y_X5_layLine) (pc' := 204) dX5_layLine_202 rfl (Nat.le_of_ble_eq_true rfl) rfl ?_
              refine g_iinc11 (Y := Y_X5_layLine) (pc' := 207) dX5_layLine_204 rfl (Nat.le_of_ble_eq_true rfl) rfl ?_
              refine g_goto (Y := Y_X5_layLine) (t := 97) dX5_layLine_207 (by decide) ?_
              exact ih (k9 + 1) _ _ _ _ (by omega) hs9 hend
            · have hHi : (if high < m_st I i k9 then m_st I i k9 else high) = m_st I i k9 := if_pos (by omega)
              have e : lpL I i j (f + 1) k9 (mask, fst, low, high) = lpL I i j f (k9 + 1) (lpM I i j k9 (mask, fst, low, high)) := rfl
              have eM : lpM I i j k9 (mask, fst, low, high) = (obit mask k9, (if ¬ fst = 0 ∧ (k9 = i ∨ j ≤ k9) then (1 : Int) else 0), (if m_st I i k9 < low then m_st I i k9 else low), (if high < m_st I i k9 then m_st I i k9 else high)) := if_pos (ifb_t h116)
              rw [hF, hLo, hHi] at eM
              rw [e, eM] at hend
              rw [eM] at hs9
              refine g_aload0 (Y := Y_X5_layLine) (pc' := 191) dX5_layLine_190 rfl ?_
              refine g_iload1 (Y := Y_X5_layLine) (pc' := 192) dX5_layLine_191 rfl ?_
              refine g_iload11 (Y := Y_X5_layLine) (pc' := 194) dX5_layLine_192 rfl ?_
              refine g_callVv (Y := Y_X5_layLine) (c := 5) (s_X5_stepsTo hk0 hz9 hst i k9 hi (by omega)) (pc' := 197) dX5_layLine_194 rfl cv_X5_75 rfl (by assumption) (by show _ < n; omega) ⟨by decide, _, rfl, rfl⟩ rfl rfl rfl rfl ?_
              refine g_goto (Y := Y_X5_layLine) (t := 202) dX5_layLine_197 (by decide) ?_
              refine g_istore10 (Y := Y_X5_layLine) (pc' := 204) dX5_layLine_202 rfl (Nat.le_of_ble_eq_true rfl) rfl ?_
              refine g_iinc11 (Y := Y_X5_layLine) (pc' := 207) dX5_layLine_204 rfl (Nat.le_of_ble_eq_true rfl) rfl ?_
              refine g_goto (Y := Y_X5_layLine) (t := 97) dX5_layLine_207 (by decide) ?_
              exact ih (k9 + 1) _ _ _ _ (by omega) hs9 hend
          · have hLo : (if m_st I i k9 < low then m_st I i k9 else low) = m_st I i k9 := if_pos (by omega)
            refine g_aload0 (Y := Y_X5_layLine) (pc' := 165) dX5_layLine_164 rfl ?_
            refine g_iload1 (Y := Y_X5_layLine) (pc' := 166) dX5_layLine_165 rfl ?_
            refine g_iload11 (Y := Y_X5_layLine) (pc' := 168) dX5_layLine_166 rfl ?_
            refine g_callVv (Y := Y_X5_layLine) (c := 5) (s_X5_stepsTo hk0 hz9 hst i k9 hi (by omega)) (pc' := 171) dX5_layLine_168 rfl cv_X5_75 rfl (by assumption) (by show _ < n; omega) ⟨by decide, _, rfl, rfl⟩ rfl rfl rfl rfl ?_
            refine g_goto (Y := Y_X5_layLine) (t := 176) dX5_layLine_171 (by decide) ?_
            refine g_istore9 (Y := Y_X5_layLine) (pc' := 178) dX5_layLine_176 rfl (Nat.le_of_ble_eq_true rfl) rfl ?_
            refine g_aload0 (Y := Y_X5_layLine) (pc' := 179) dX5_layLine_178 rfl ?_
            refine g_iload1 (Y := Y_X5_layLine) (pc' := 180) dX5_layLine_179 rfl ?_
            refine g_iload11 (Y := Y_X5_layLine) (pc' := 182) dX5_layLine_180 rfl ?_
            refine g_callVv (Y := Y_X5_layLine) (c := 5) (s_X5_stepsTo hk0 hz9 hst i k9 hi (by omega)) (pc' := 185) dX5_layLine_182 rfl cv_X5_75 rfl (by assumption) (by show _ < n; omega) ⟨by decide, _, rfl, rfl⟩ rfl rfl rfl rfl ?_
            refine g_iload10 (Y := Y_X5_layLine) (pc' := 187) dX5_layLine_185 rfl ?_
            refine g_icmp_le (Y := Y_X5_layLine) (t := 200) (pc' := 190) dX5_layLine_187 (by decide) rfl ⟨by omega, by omega⟩ ⟨by omega, by omega⟩ (fun h187 => ?_) (fun h187 => ?_)
            · have hHi : (if high < m_st I i k9 then m_st I i k9 else high) = high := if_neg (by omega)
              have e : lpL I i j (f + 1) k9 (mask, fst, low, high) = lpL I i j f (k9 + 1) (lpM I i j k9 (mask, fst, low, high)) := rfl
              have eM : lpM I i j k9 (mask, fst, low, high) = (obit mask k9, (if ¬ fst = 0 ∧ (k9 = i ∨ j ≤ k9) then (1 : Int) else 0), (if m_st I i k9 < low then m_st I i k9 else low), (if high < m_st I i k9 then m_st I i k9 else high)) := if_pos (ifb_t h116)
              rw [hF, hLo, hHi] at eM
              rw [e, eM] at hend
              rw [eM] at hs9
              refine g_iload10 (Y := Y_X5_layLine) (pc' := 202) dX5_layLine_200 rfl ?_
              refine g_istore10 (Y := Y_X5_layLine) (pc' := 204) dX5_layLine_202 rfl (Nat.le_of_ble_eq_true rfl) rfl ?_
              refine g_iinc11 (Y := Y_X5_layLine) (pc' := 207) dX5_layLine_204 rfl (Nat.le_of_ble_eq_true rfl) rfl ?_
              refine g_goto (Y := Y_X5_layLine) (t := 97) dX5_layLine_207 (by decide) ?_
              exact ih (k9 + 1) _ _ _ _ (by omega) hs9 hend
            · have hHi : (if high < m_st I i k9 then m_st I i k9 else high) = m_st I i k9 := if_pos (by omega)
              have e : lpL I i j (f + 1) k9 (mask, fst, low, high) = lpL I i j f (k9 + 1) (lpM I i j k9 (mask, fst, low, high)) := rfl
              have eM : lpM I i j k9 (mask, fst, low, high) = (obit mask k9, (if ¬ fst = 0 ∧ (k9 = i ∨ j ≤ k9) then (1 : Int) else 0), (if m_st I i k9 < low then m_st I i k9 else low), (if high < m_st I i k9 then m_st I i k9 else high)) := if_pos (ifb_t h116)
              rw [hF, hLo, hHi] at eM
              rw [e, eM] at hend
              rw [eM] at hs9
              refine g_aload0 (Y := Y_X5_layLine) (pc' := 191) dX5_layLine_190 rfl ?_
              refine g_iload1 (Y := Y_X5_layLine) (pc' := 192) dX5_layLine_191 rfl ?_
              refine g_iload11 (Y := Y_X5_layLine) (pc' := 194) dX5_layLine_192 rfl ?_
              refine g_callVv (Y := Y_X5_layLine) (c := 5) (s_X5_stepsTo hk0 hz9 hst i k9 hi (by omega)) (pc' := 197) dX5_layLine_194 rfl cv_X5_75 rfl (by assumption) (by show _ < n; omega) ⟨by decide, _, rfl, rfl⟩ rfl rfl rfl rfl ?_
              refine g_goto (Y := Y_X5_layLine) (t := 202) dX5_layLine_197 (by decide) ?_
              refine g_istore10 (Y := Y_X5_layLine) (pc' := 204) dX5_layLine_202 rfl (Nat.le_of_ble_eq_true rfl) rfl ?_
              refine g_iinc11 (Y := Y_X5_layLine) (pc' := 207) dX5_layLine_204 rfl (Nat.le_of_ble_eq_true rfl) rfl ?_
              refine g_goto (Y := Y_X5_layLine) (t := 97) dX5_layLine_207 (by decide) ?_
              exact ih (k9 + 1) _ _ _ _ (by omega) hs9 hend
        · refine g_iload11 (Y := Y_X5_layLine) (pc' := 135) dX5_layLine_133 rfl ?_
          refine g_iload1 (Y := Y_X5_layLine) (pc' := 136) dX5_layLine_135 rfl ?_
          refine g_icmp_eq (Y := Y_X5_layLine) (t := 145) (pc' := 139) dX5_layLine_136 (by decide) rfl ⟨by omega, by omega⟩ ⟨by omega, by omega⟩ (fun h136 => ?_) (fun h136 => ?_)
          · have hF : (if ¬ fst = 0 ∧ (k9 = i ∨ j ≤ k9) then (1 : Int) else 0) = 1 := if_pos (by omega)
            refine g_iconst (Y := Y_X5_layLine) (pc' := 146) dX5_layLine_145 rfl ?_
            refine g_goto (Y := Y_X5_layLine) (t := 150) dX5_layLine_146 (by decide) ?_
            refine g_istore8 (Y := Y_X5_layLine) (pc' := 152) dX5_layLine_150 rfl (Nat.le_of_ble_eq_true rfl) rfl ?_
            refine g_aload0 (Y := Y_X5_layLine) (pc' := 153) dX5_layLine_152 rfl ?_
            refine g_iload1 (Y := Y_X5_layLine) (pc' := 154) dX5_layLine_153 rfl ?_
            refine g_iload11 (Y := Y_X5_layLine) (pc' := 156) dX5_layLine_154 rfl ?_
            refine g_callVv (Y := Y_X5_layLine) (c := 5) (s_X5_stepsTo hk0 hz9 hst i k9 hi (by omega)) (pc' := 159) dX5_layLine_156 rfl cv_X5_75 rfl (by assumption) (by show _ < n; omega) ⟨by decide, _, rfl, rfl⟩ rfl rfl rfl rfl ?_
            refine g_iload9 (Y := Y_X5_layLine) (pc' := 161) dX5_layLine_159 rfl ?_
            refine g_icmp_ge (Y := Y_X5_layLine) (t := 174) (pc' := 164) dX5_layLine_161 (by decide) rfl ⟨by omega, by omega⟩ ⟨by omega, by omega⟩ (fun h161 => ?_) (fun h161 => ?_)
            · have hLo : (if m_st I i k9 < low then m_st I i k9 else low) = low := if_neg (by omega)
              refine g_iload9 (Y := Y_X5_layLine) (pc' := 176) dX5_layLine_174 rfl ?_
              refine g_istore9 (Y := Y_X5_layLine) (pc' := 178) dX5_layLine_176 rfl (Nat.le_of_ble_eq_true rfl) rfl ?_
              refine g_aload0 (Y := Y_X5_layLine) (pc' := 179) dX5_layLine_178 rfl ?_
              refine g_iload1 (Y := Y_X5_layLine) (pc' := 180) dX5_layLine_179 rfl ?_
              refine g_iload11 (Y := Y_X5_layLine) (pc' := 182) dX5_layLine_180 rfl ?_
              refine g_callVv (Y := Y_X5_layLine) (c := 5) (s_X5_stepsTo hk0 hz9 hst i k9 hi (by omega)) (pc' := 185) dX5_layLine_182 rfl cv_X5_75 rfl (by assumption) (by show _ < n; omega) ⟨by decide, _, rfl, rfl⟩ rfl rfl rfl rfl ?_
              refine g_iload10 (Y := Y_X5_layLine) (pc' := 187) dX5_layLine_185 rfl ?_
              refine g_icmp_le (Y := Y_X5_layLine) (t := 200) (pc' := 190) dX5_layLine_187 (by decide) rfl ⟨by omega, by omega⟩ ⟨by omega, by omega⟩ (fun h187 => ?_) (fun h187 => ?_)
              · have hHi : (if high < m_st I i k9 then m_st I i k9 else high) = high := if_neg (by omega)
                have e : lpL I i j (f + 1) k9 (mask, fst, low, high) = lpL I i j f (k9 + 1) (lpM I i j k9 (mask, fst, low, high)) := rfl
                have eM : lpM I i j k9 (mask, fst, low, high) = (obit mask k9, (if ¬ fst = 0 ∧ (k9 = i ∨ j ≤ k9) then (1 : Int) else 0), (if m_st I i k9 < low then m_st I i k9 else low), (if high < m_st I i k9 then m_st I i k9 else high)) := if_pos (ifb_t h116)
                rw [hF, hLo, hHi] at eM
                rw [e, eM] at hend
                rw [eM] at hs9
                refine g_iload10 (Y := Y_X5_layLine) (pc' := 202) dX5_layLine_200 rfl ?_
                refine g_istore10 (Y := Y_X5_layLine) (pc' := 204) dX5_layLine_202 rfl (Nat.le_of_ble_eq_true rfl) rfl ?_
                refine g_iinc11 (Y := Y_X5_layLine) (pc' := 207) dX5_layLine_204 rfl (Nat.le_of_ble_eq_true rfl) rfl ?_
                refine g_goto (Y := Y_X5_layLine) (t := 97) dX5_layLine_207 (by decide) ?_
                exact ih (k9 + 1) _ _ _ _ (by omega) hs9 hend
              · have hHi : (if high < m_st I i k9 then m_st I i k9 else high) = m_st I i k9 := if_pos (by omega)
                have e : lpL I i j (f + 1) k9 (mask, fst, low, high) = lpL I i j f (k9 + 1) (lpM I i j k9 (mask, fst, low, high)) := rfl
                have eM : lpM I i j k9 (mask, fst, low, high) = (obit mask k9, (if ¬ fst = 0 ∧ (k9 = i ∨ j ≤ k9) then (1 : Int) else 0), (if m_st I i k9 < low then m_st I i k9 else low), (if high < m_st I i k9 then m_st I i k9 else high)) := if_pos (ifb_t h116)
                rw [hF, hLo, hHi] at eM
                rw [e, eM] at hend
                rw [eM] at hs9
                refine g_aload0 (Y := Y_X5_layLine) (pc' := 191) dX5_layLine_190 rfl ?_
                refine g_iload1 (Y := Y_X5_layLine) (pc' := 192) dX5_layLine_191 rfl ?_
                refine g_iload11 (Y := Y_X5_layLine) (pc' := 194) dX5_layLine_192 rfl ?_
                refine g_callVv (Y := Y_X5_layLine) (c := 5) (s_X5_stepsTo hk0 hz9 hst i k9 hi (by omega)) (pc' := 197) dX5_layLine_194 rfl cv_X5_75 rfl (by assumption) (by show _ < n; omega) ⟨by decide, _, rfl, rfl⟩ rfl rfl rfl rfl ?_
                refine g_goto (Y := Y_X5_layLine) (t := 202) dX5_layLine_197 (by decide) ?_
                refine g_istore10 (Y := Y_X5_layLine) (pc' := 204) dX5_layLine_202 rfl (Nat.le_of_ble_eq_true rfl) rfl ?_
                refine g_iinc11 (Y := Y_X5_layLine) (pc' := 207) dX5_layLine_204 rfl (Nat.le_of_ble_eq_true rfl) rfl ?_
                refine g_goto (Y := Y_X5_layLine) (t := 97) dX5_layLine_207 (by decide) ?_
                exact ih (k9 + 1) _ _ _ _ (by omega) hs9 hend
            · have hLo : (if m_st I i k9 < low then m_st I i k9 else low) = m_st I i k9 := if_pos (by omega)
              refine g_aload0 (Y := Y_X5_layLine) (pc' := 165) dX5_layLine_164 rfl ?_
              refine g_iload1 (Y := Y_X5_layLine) (pc' := 166) dX5_layLine_165 rfl ?_
              refine g_iload11 (Y := Y_X5_layLine) (pc' := 168) dX5_layLine_166 rfl ?_
              refine g_callVv (Y := Y_X5_layLine) (c := 5) (s_X5_stepsTo hk0 hz9 hst i k9 hi (by omega)) (pc' := 171) dX5_layLine_168 rfl cv_X5_75 rfl (by assumption) (by show _ < n; omega) ⟨by decide, _, rfl, rfl⟩ rfl rfl rfl rfl ?_
              refine g_goto (Y := Y_X5_layLine) (t := 176) dX5_layLine_171 (by decide) ?_
              refine g_istore9 (Y := Y_X5_layLine) (pc' := 178) dX5_layLine_176 rfl (Nat.le_of_ble_eq_true rfl) rfl ?_
              refine g_aload0 (Y := Y_X5_layLine) (pc' := 179) dX5_layLine_178 rfl ?_
              refine g_iload1 (Y := Y_X5_layLine) (pc' := 180) dX5_layLine_179 rfl ?_
              refine g_iload11 (Y := Y_X5_layLine) (pc' := 182) dX5_layLine_180 rfl ?_
              refine g_callVv (Y := Y_X5_layLine) (c := 5) (s_X5_stepsTo hk0 hz9 hst i k9 hi (by omega)) (pc' := 185) dX5_layLine_182 rfl cv_X5_75 rfl (by assumption) (by show _ < n; omega) ⟨by decide, _, rfl, rfl⟩ rfl rfl rfl rfl ?_
              refine g_iload10 (Y := Y_X5_layLine) (pc' := 187) dX5_layLine_185 rfl ?_
              refine g_icmp_le (Y := Y_X5_layLine) (t := 200) (pc' := 190) dX5_layLine_187 (by decide) rfl ⟨by omega, by omega⟩ ⟨by omega, by omega⟩ (fun h187 => ?_) (fun h187 => ?_)
              · have hHi : (if high < m_st I i k9 then m_st I i k9 else high) = high := if_neg (by omega)
                have e : lpL I i j (f + 1) k9 (mask, fst, low, high) = lpL I i j f (k9 + 1) (lpM I i j k9 (mask, fst, low, high)) := rfl
                have eM : lpM I i j k9 (mask, fst, low, high) = (obit mask k9, (if ¬ fst = 0 ∧ (k9 = i ∨ j ≤ k9) then (1 : Int) else 0), (if m_st I i k9 < low then m_st I i k9 else low), (if high < m_st I i k9 then m_st I i k9 else high)) := if_pos (ifb_t h116)
                rw [hF, hLo, hHi] at eM
                rw [e, eM] at hend
                rw [eM] at hs9
                refine g_iload10 (Y := Y_X5_layLine) (pc' := 202) dX5_layLine_200 rfl ?_
                refine g_istore10 (Y := Y_X5_layLine) (pc' := 204) dX5_layLine_202 rfl (Nat.le_of_ble_eq_true rfl) rfl ?_
                refine g_iinc11 (Y := Y_X5_layLine) (pc' := 207) dX5_layLine_204 rfl (Nat.le_of_ble_eq_true rfl) rfl ?_
                refine g_goto (Y := Y_X5_layLine) (t := 97) dX5_layLine_207 (by decide) ?_
                exact ih (k9 + 1) _ _ _ _ (by omega) hs9 hend
              · have hHi : (if high < m_st I i k9 then m_st I i k9 else high) = m_st I i k9 := if_pos (by omega)
                have e : lpL I i j (f + 1) k9 (mask, fst, low, high) = lpL I i j f (k9 + 1) (lpM I i j k9 (mask, fst, low, high)) := rfl
                have eM : lpM I i j k9 (mask, fst, low, high) = (obit mask k9, (if ¬ fst = 0 ∧ (k9 = i ∨ j ≤ k9) then (1 : Int) else 0), (if m_st I i k9 < low then m_st I i k9 else low), (if high < m_st I i k9 then m_st I i k9 else high)) := if_pos (ifb_t h116)
                rw [hF, hLo, hHi] at eM
                rw [e, eM] at hend
                rw [eM] at hs9
                refine g_aload0 (Y := Y_X5_layLine) (pc' := 191) dX5_layLine_190 rfl ?_
                refine g_iload1 (Y := Y_X5_layLine) (pc' := 192) dX5_layLine_191 rfl ?_
                refine g_iload11 (Y := Y_X5_layLine) (pc' := 194) dX5_layLine_192 rfl ?_
                refine g_callVv (Y := Y_X5_layLine) (c := 5) (s_X5_stepsTo hk0 hz9 hst i k9 hi (by omega)) (pc' := 197) dX5_layLine_194 rfl cv_X5_75 rfl (by assumption) (by show _ < n; omega) ⟨by decide, _, rfl, rfl⟩ rfl rfl rfl rfl ?_
                refine g_goto (Y := Y_X5_layLine) (t := 202) dX5_layLine_197 (by decide) ?_
                refine g_istore10 (Y := Y_X5_layLine) (pc' := 204) dX5_layLine_202 rfl (Nat.le_of_ble_eq_true rfl) rfl ?_
                refine g_iinc11 (Y := Y_X5_layLine) (pc' := 207) dX5_layLine_204 rfl (Nat.le_of_ble_eq_true rfl) rfl ?_
                refine g_goto (Y := Y_X5_layLine) (t := 97) dX5_layLine_207 (by decide) ?_
                exact ih (k9 + 1) _ _ _ _ (by omega) hs9 hend
          · refine g_iload11 (Y := Y_X5_layLine) (pc' := 141) dX5_layLine_139 rfl ?_
            refine g_iload2 (Y := Y_X5_layLine) (pc' := 142) dX5_layLine_141 rfl ?_
            refine g_icmp_lt (Y := Y_X5_layLine) (t := 149) (pc' := 145) dX5_layLine_142 (by decide) rfl ⟨by omega, by omega⟩ ⟨by omega, by omega⟩ (fun h142 => ?_) (fun h142 => ?_)
            · have hF : (if ¬ fst = 0 ∧ (k9 = i ∨ j ≤ k9) then (1 : Int) else 0) = 0 := if_neg (by omega)
              refine g_iconst (Y := Y_X5_layLine) (pc' := 150) dX5_layLine_149 rfl ?_
              refine g_istore8 (Y := Y_X5_layLine) (pc' := 152) dX5_layLine_150 rfl (Nat.le_of_ble_eq_true rfl) rfl ?_
              refine g_aload0 (Y := Y_X5_layLine) (pc' := 153) dX5_layLine_152 rfl ?_
              refine g_iload1 (Y := Y_X5_layLine) (pc' := 154) dX5_layLine_153 rfl ?_
              refine g_iload11 (Y := Y_X5_layLine) (pc' := 156) dX5_layLine_154 rfl ?_
              refine g_callVv (Y := Y_X5_layLine) (c := 5) (s_X5_stepsTo hk0 hz9 hst i k9 hi (by omega)) (pc' := 159) dX5_layLine_156 rfl cv_X5_75 rfl (by assumption) (by show _ < n; omega) ⟨by decide, _, rfl, rfl⟩ rfl rfl rfl rfl ?_
              refine g_iload9 (Y := Y_X5_layLine) (pc' := 161) dX5_layLine_159 rfl ?_
              refine g_icmp_ge (Y := Y_X5_layLine) (t := 174) (pc' := 164) dX5_layLine_161 (by decide) rfl ⟨by omega, by omega⟩ ⟨by omega, by omega⟩ (fun h161 => ?_) (fun h161 => ?_)
              · have hLo : (if m_st I i k9 < low then m_st I i k9 else low) = low := if_neg (by omega)
                refine g_iload9 (Y := Y_X5_layLine) (pc' := 176) dX5_layLine_174 rfl ?_
                refine g_istore9 (Y := Y_X5_layLine) (pc' := 178) dX5_layLine_176 rfl (Nat.le_of_ble_eq_true rfl) rfl ?_
                refine g_aload0 (Y := Y_X5_layLine) (pc' := 179) dX5_layLine_178 rfl ?_
                refine g_iload1 (Y := Y_X5_layLine) (pc' := 180) dX5_layLine_179 rfl ?_
                refine g_iload11 (Y := Y_X5_layLine) (pc' := 182) dX5_layLine_180 rfl ?_
                refine g_callVv (Y := Y_X5_layLine) (c := 5) (s_X5_stepsTo hk0 hz9 hst i k9 hi (by omega)) (pc' := 185) dX5_layLine_182 rfl cv_X5_75 rfl (by assumption) (by show _ < n; omega) ⟨by decide, _, rfl, rfl⟩ rfl rfl rfl rfl ?_
                refine g_iload10 (Y := Y_X5_layLine) (pc' := 187) dX5_layLine_185 rfl ?_
                refine g_icmp_le (Y := Y_X5_layLine) (t := 200) (pc' := 190) dX5_layLine_187 (by decide) rfl ⟨by omega, by omega⟩ ⟨by omega, by omega⟩ (fun h187 => ?_) (fun h187 => ?_)
                · have hHi : (if high < m_st I i k9 then m_st I i k9 else high) = high := if_neg (by omega)
                  have e : lpL I i j (f + 1) k9 (mask, fst, low, high) = lpL I i j f (k9 + 1) (lpM I i j k9 (mask, fst, low, high)) := rfl
                  have eM : lpM I i j k9 (mask, fst, low, high) = (obit mask k9, (if ¬ fst = 0 ∧ (k9 = i ∨ j ≤ k9) then (1 : Int) else 0), (if m_st I i k9 < low then m_st I i k9 else low), (if high < m_st I i k9 then m_st I i k9 else high)) := if_pos (ifb_t h116)
                  rw [hF, hLo, hHi] at eM
                  rw [e, eM] at hend
                  rw [eM] at hs9
                  refine g_iload10 (Y := Y_X5_layLine) (pc' := 202) dX5_layLine_200 rfl ?_
                  refine g_istore10 (Y := Y_X5_layLine) (pc' := 204) dX5_layLine_202 rfl (Nat.le_of_ble_eq_true rfl) rfl ?_
                  refine g_iinc11 (Y := Y_X5_layLine) (pc' := 207) dX5_layLine_204 rfl (Nat.le_of_ble_eq_true rfl) rfl ?_
                  refine g_goto (Y := Y_X5_layLine) (t := 97) dX5_layLine_207 (by decide) ?_
                  exact ih (k9 + 1) _ _ _ _ (by omega) hs9 hend
                · have hHi : (if high < m_st I i k9 then m_st I i k9 else high) = m_st I i k9 := if_pos (by omega)
                  have e : lpL I i j (f + 1) k9 (mask, fst, low, high) = lpL I i j f (k9 + 1) (lpM I i j k9 (mask, fst, low, high)) := rfl
                  have eM : lpM I i j k9 (mask, fst, low, high) = (obit mask k9, (if ¬ fst = 0 ∧ (k9 = i ∨ j ≤ k9) then (1 : Int) else 0), (if m_st I i k9 < low then m_st I i k9 else low), (if high < m_st I i k9 then m_st I i k9 else high)) := if_pos (ifb_t h116)
                  rw [hF, hLo, hHi] at eM
                  rw [e, eM] at hend
                  rw [eM] at hs9
                  refine g_aload0 (Y := Y_X5_layLine) (pc' := 191) dX5_layLine_190 rfl ?_
                  refine g_iload1 (Y := Y_X5_layLine) (pc' := 192) dX5_layLine_191 rfl ?_
                  refine g_iload11 (Y := Y_X5_layLine) (pc' := 194) dX5_layLine_192 rfl ?_
                  refine g_callVv (Y := Y_X5_layLine) (c := 5) (s_X5_stepsTo hk0 hz9 hst i k9 hi (by omega)) (pc' := 197) dX5_layLine_194 rfl cv_X5_75 rfl (by assumption) (by show _ < n; omega) ⟨by decide, _, rfl, rfl⟩ rfl rfl rfl rfl ?_
                  refine g_goto (Y := Y_X5_layLine) (t := 202) dX5_layLine_197 (by decide) ?_
                  refine g_istore10 (Y := Y_X5_layLine) (pc' := 204) dX5_layLine_202 rfl (Nat.le_of_ble_eq_true rfl) rfl ?_
                  refine g_iinc11 (Y := Y_X5_layLine) (pc' := 207) dX5_layLine_204 rfl (Nat.le_of_ble_eq_true rfl) rfl ?_
                  refine g_goto (Y := Y_X5_layLine) (t := 97) dX5_layLine_207 (by decide) ?_
                  exact ih (k9 + 1) _ _ _ _ (by omega) hs9 hend
              · have hLo : (if m_st I i k9 < low then m_st I i k9 else low) = m_st I i k9 := if_pos (by omega)
                refine g_aload0 (Y := Y_X5_layLine) (pc' := 165) dX5_layLine_164 rfl ?_
                refine g_iload1 (Y := Y_X5_layLine) (pc' := 166) dX5_layLine_165 rfl ?_
                refine g_iload11 (Y := Y_X5_layLine) (pc' := 168) dX5_layLine_166 rfl ?_
                refine g_callVv (Y := Y_X5_layLine) (c := 5) (s_X5_stepsTo hk0 hz9 hst i k9 hi (by omega)) (pc' := 171) dX5_layLine_168 rfl cv_X5_75 rfl (by assumption) (by show _ < n; omega) ⟨by decide, _, rfl, rfl⟩ rfl rfl rfl rfl ?_
                refine g_goto (Y := Y_X5_layLine) (t := 176) dX5_layLine_171 (by decide) ?_
                refine g_istore9 (Y := Y_X5_layLine) (pc' := 178) dX5_layLine_176 rfl (Nat.le_of_ble_eq_true rfl) rfl ?_
                refine g_aload0 (Y := Y_X5_layLine) (pc' := 179) dX5_layLine_178 rfl ?_
                refine g_iload1 (Y := Y_X5_layLine) (pc' := 180) dX5_layLine_179 rfl ?_
                refine g_iload11 (Y := Y_X5_layLine) (pc' := 182) dX5_layLine_180 rfl ?_
                refine g_callVv (Y := Y_X5_layLine) (c := 5) (s_X5_stepsTo hk0 hz9 hst i k9 hi (by omega)) (pc' := 185) dX5_layLine_182 rfl cv_X5_75 rfl (by assumption) (by show _ < n; omega) ⟨by decide, _, rfl, rfl⟩ rfl rfl rfl rfl ?_
                refine g_iload10 (Y := Y_X5_layLine) (pc' := 187) dX5_layLine_185 rfl ?_
                refine g_icmp_le (Y := Y_X5_layLine) (t := 200) (pc' := 190) dX5_layLine_187 (by decide) rfl ⟨by omega, by omega⟩ ⟨by omega, by omega⟩ (fun h187 => ?_) (fun h187 => ?_)
                · have hHi : (if high < m_st I i k9 then m_st I i k9 else high) = high := if_neg (by omega)
                  have e : lpL I i j (f + 1) k9 (mask, fst, low, high) = lpL I i j f (k9 + 1) (lpM I i j k9 (mask, fst, low, high)) := rfl
                  have eM : lpM I i j k9 (mask, fst, low, high) = (obit mask k9, (if ¬ fst = 0 ∧ (k9 = i ∨ j ≤ k9) then (1 : Int) else 0), (if m_st I i k9 < low then m_st I i k9 else low), (if high < m_st I i k9 then m_st I i k9 else high)) := if_pos (ifb_t h116)
                  rw [hF, hLo, hHi] at eM
                  rw [e, eM] at hend
                  rw [eM] at hs9
                  refine g_iload10 (Y := Y_X5_layLine) (pc' := 202) dX5_layLine_200 rfl ?_
                  refine g_istore10 (Y := Y_X5_layLine) (pc' := 204) dX5_layLine_202 rfl (Nat.le_of_ble_eq_true rfl) rfl ?_
                  refine g_iinc11 (Y := Y_X5_layLine) (pc' := 207) dX5_layLine_204 rfl (Nat.le_of_ble_eq_true rfl) rfl ?_
                  refine g_goto (Y := Y_X5_layLine) (t := 97) dX5_layLine_207 (by decide) ?_
                  exact ih (k9 + 1) _ _ _ _ (by omega) hs9 hend
                · have hHi : (if high < m_st I i k9 then m_st I i k9 else high) = m_st I i k9 := if_pos (by omega)
                  have e : lpL I i j (f + 1) k9 (mask, fst, low, high) = lpL I i j f (k9 + 1) (lpM I i j k9 (mask, fst, low, high)) := rfl
                  have eM : lpM I i j k9 (mask, fst, low, high) = (obit mask k9, (if ¬ fst = 0 ∧ (k9 = i ∨ j ≤ k9) then (1 : Int) else 0), (if m_st I i k9 < low then m_st I i k9 else low), (if high < m_st I i k9 then m_st I i k9 else high)) := if_pos (ifb_t h116)
                  rw [hF, hLo, hHi] at eM
                  rw [e, eM] at hend
                  rw [eM] at hs9
                  refine g_aload0 (Y := Y_X5_layLine) (pc' := 191) dX5_layLine_190 rfl ?_
                  refine g_iload1 (Y := Y_X5_layLine) (pc' := 192) dX5_layLine_191 rfl ?_
                  refine g_iload11 (Y := Y_X5_layLine) (pc' := 194) dX5_layLine_192 rfl ?_
                  refine g_callVv (Y := Y_X5_layLine) (c := 5) (s_X5_stepsTo hk0 hz9 hst i k9 hi (by omega)) (pc' := 197) dX5_layLine_194 rfl cv_X5_75 rfl (by assumption) (by show _ < n; omega) ⟨by decide, _, rfl, rfl⟩ rfl rfl rfl rfl ?_
                  refine g_goto (Y := Y_X5_layLine) (t := 202) dX5_layLine_197 (by decide) ?_
                  refine g_istore10 (Y := Y_X5_layLine) (pc' := 204) dX5_layLine_202 rfl (Nat.le_of_ble_eq_true rfl) rfl ?_
                  refine g_iinc11 (Y := Y_X5_layLine) (pc' := 207) dX5_layLine_204 rfl (Nat.le_of_ble_eq_true rfl) rfl ?_
                  refine g_goto (Y := Y_X5_layLine) (t := 97) dX5_layLine_207 (by decide) ?_
                  exact ih (k9 + 1) _ _ _ _ (by omega) hs9 hend
            · have hF : (if ¬ fst = 0 ∧ (k9 = i ∨ j ≤ k9) then (1 : Int) else 0) = 1 := if_pos (by omega)
              refine g_iconst (Y := Y_X5_layLine) (pc' := 146) dX5_layLine_145 rfl ?_
              refine g_goto (Y := Y_X5_layLine) (t := 150) dX5_layLine_146 (by decide) ?_
              refine g_istore8 (Y := Y_X5_layLine) (pc' := 152) dX5_layLine_150 rfl (Nat.le_of_ble_eq_true rfl) rfl ?_
              refine g_aload0 (Y := Y_X5_layLine) (pc' := 153) dX5_layLine_152 rfl ?_
              refine g_iload1 (Y := Y_X5_layLine) (pc' := 154) dX5_layLine_153 rfl ?_
              refine g_iload11 (Y := Y_X5_layLine) (pc' := 156) dX5_layLine_154 rfl ?_
              refine g_callVv (Y := Y_X5_layLine) (c := 5) (s_X5_stepsTo hk0 hz9 hst i k9 hi (by omega)) (pc' := 159) dX5_layLine_156 rfl cv_X5_75 rfl (by assumption) (by show _ < n; omega) ⟨by decide, _, rfl, rfl⟩ rfl rfl rfl rfl ?_
              refine g_iload9 (Y := Y_X5_layLine) (pc' := 161) dX5_layLine_159 rfl ?_
              refine g_icmp_ge (Y := Y_X5_layLine) (t := 174) (pc' := 164) dX5_layLine_161 (by decide) rfl ⟨by omega, by omega⟩ ⟨by omega, by omega⟩ (fun h161 => ?_) (fun h161 => ?_)
              · have hLo : (if m_st I i k9 < low then m_st I i k9 else low) = low := if_neg (by omega)
                refine g_iload9 (Y := Y_X5_layLine) (pc' := 176) dX5_layLine_174 rfl ?_
                refine g_istore9 (Y := Y_X5_layLine) (pc' := 178) dX5_layLine_176 rfl (Nat.le_of_ble_eq_true rfl) rfl ?_
                refine g_aload0 (Y := Y_X5_layLine) (pc' := 179) dX5_layLine_178 rfl ?_
                refine g_iload1 (Y := Y_X5_layLine) (pc' := 180) dX5_layLine_179 rfl ?_
                refine g_iload11 (Y := Y_X5_layLine) (pc' := 182) dX5_layLine_180 rfl ?_
                refine g_callVv (Y := Y_X5_layLine) (c := 5) (s_X5_stepsTo hk0 hz9 hst i k9 hi (by omega)) (pc' := 185) dX5_layLine_182 rfl cv_X5_75 rfl (by assumption) (by show _ < n; omega) ⟨by decide, _, rfl, rfl⟩ rfl rfl rfl rfl ?_
                refine g_iload10 (Y := Y_X5_layLine) (pc' := 187) dX5_layLine_185 rfl ?_
                refine g_icmp_le (Y := Y_X5_layLine) (t := 200) (pc' := 190) dX5_layLine_187 (by decide) rfl ⟨by omega, by omega⟩ ⟨by omega, by omega⟩ (fun h187 => ?_) (fun h187 => ?_)
                · have hHi : (if high < m_st I i k9 then m_st I i k9 else high) = high := if_neg (by omega)
                  have e : lpL I i j (f + 1) k9 (mask, fst, low, high) = lpL I i j f (k9 + 1) (lpM I i j k9 (mask, fst, low, high)) := rfl
                  have eM : lpM I i j k9 (mask, fst, low, high) = (obit mask k9, (if ¬ fst = 0 ∧ (k9 = i ∨ j ≤ k9) then (1 : Int) else 0), (if m_st I i k9 < low then m_st I i k9 else low), (if high < m_st I i k9 then m_st I i k9 else high)) := if_pos (ifb_t h116)
                  rw [hF, hLo, hHi] at eM
                  rw [e, eM] at hend
                  rw [eM] at hs9
                  refine g_iload10 (Y := Y_X5_layLine) (pc' := 202) dX5_layLine_200 rfl ?_
                  refine g_istore10 (Y := Y_X5_layLine) (pc' := 204) dX5_layLine_202 rfl (Nat.le_of_ble_eq_true rfl) rfl ?_
                  refine g_iinc11 (Y := Y_X5_layLine) (pc' := 207) dX5_layLine_204 rfl (Nat.le_of_ble_eq_true rfl) rfl ?_
                  refine g_goto (Y := Y_X5_layLine) (t := 97) dX5_layLine_207 (by decide) ?_
                  exact ih (k9 + 1) _ _ _ _ (by omega) hs9 hend
                · have hHi : (if high < m_st I i k9 then m_st I i k9 else high) = m_st I i k9 := if_pos (by omega)
                  have e : lpL I i j (f + 1) k9 (mask, fst, low, high) = lpL I i j f (k9 + 1) (lpM I i j k9 (mask, fst, low, high)) := rfl
                  have eM : lpM I i j k9 (mask, fst, low, high) = (obit mask k9, (if ¬ fst = 0 ∧ (k9 = i ∨ j ≤ k9) then (1 : Int) else 0), (if m_st I i k9 < low then m_st I i k9 else low), (if high < m_st I i k9 then m_st I i k9 else high)) := if_pos (ifb_t h116)
                  rw [hF, hLo, hHi] at eM
                  rw [e, eM] at hend
                  rw [eM] at hs9
                  refine g_aload0 (Y := Y_X5_layLine) (pc' := 191) dX5_layLine_190 rfl ?_
                  refine g_iload1 (Y := Y_X5_layLine) (pc' := 192) dX5_layLine_191 rfl ?_
                  refine g_iload11 (Y := Y_X5_layLine) (pc' := 194) dX5_layLine_192 rfl ?_
                  refine g_callVv (Y := Y_X5_layLine) (c := 5) (s_X5_stepsTo hk0 hz9 hst i k9 hi (by omega)) (pc' := 197) dX5_layLine_194 rfl cv_X5_75 rfl (by assumption) (by show _ < n; omega) ⟨by decide, _, rfl, rfl⟩ rfl rfl rfl rfl ?_
                  refine g_goto (Y := Y_X5_layLine) (t := 202) dX5_layLine_197 (by decide) ?_
                  refine g_istore10 (Y := Y_X5_layLine) (pc' := 204) dX5_layLine_202 rfl (Nat.le_of_ble_eq_true rfl) rfl ?_
                  refine g_iinc11 (Y := Y_X5_layLine) (pc' := 207) dX5_layLine_204 rfl (Nat.le_of_ble_eq_true rfl) rfl ?_
                  refine g_goto (Y := Y_X5_layLine) (t := 97) dX5_layLine_207 (by decide) ?_
                  exact ih (k9 + 1) _ _ _ _ (by omega) hs9 hend
              · have hLo : (if m_st I i k9 < low then m_st I i k9 else low) = m_st I i k9 := if_pos (by omega)
                refine g_aload0 (Y := Y_X5_layLine) (pc' := 165) dX5_layLine_164 rfl ?_
                refine g_iload1 (Y := Y_X5_layLine) (pc' := 166) dX5_layLine_165 rfl ?_
                refine g_iload11 (Y := Y_X5_layLine) (pc' := 168) dX5_layLine_166 rfl ?_
                refine g_callVv (Y := Y_X5_layLine) (c := 5) (s_X5_stepsTo hk0 hz9 hst i k9 hi (by omega)) (pc' := 171) dX5_layLine_168 rfl cv_X5_75 rfl (by assumption) (by show _ < n; omega) ⟨by decide, _, rfl, rfl⟩ rfl rfl rfl rfl ?_
                refine g_goto (Y := Y_X5_layLine) (t := 176) dX5_layLine_171 (by decide) ?_
                refine g_istore9 (Y := Y_X5_layLine) (pc' := 178) dX5_layLine_176 rfl (Nat.le_of_ble_eq_true rfl) rfl ?_
                refine g_aload0 (Y := Y_X5_layLine) (pc' := 179) dX5_layLine_178 rfl ?_
                refine g_iload1 (Y := Y_X5_layLine) (pc' := 180) dX5_layLine_179 rfl ?_
                refine g_iload11 (Y := Y_X5_layLine) (pc' := 182) dX5_layLine_180 rfl ?_
                refine g_callVv (Y := Y_X5_layLine) (c := 5) (s_X5_stepsTo hk0 hz9 hst i k9 hi (by omega)) (pc' := 185) dX5_layLine_182 rfl cv_X5_75 rfl (by assumption) (by show _ < n; omega) ⟨by decide, _, rfl, rfl⟩ rfl rfl rfl rfl ?_
                refine g_iload10 (Y := Y_X5_layLine) (pc' := 187) dX5_layLine_185 rfl ?_
                refine g_icmp_le (Y := Y_X5_layLine) (t := 200) (pc' := 190) dX5_layLine_187 (by decide) rfl ⟨by omega, by omega⟩ ⟨by omega, by omega⟩ (fun h187 => ?_) (fun h187 => ?_)
                · have hHi : (if high < m_st I i k9 then m_st I i k9 else high) = high := if_neg (by omega)
                  have e : lpL I i j (f + 1) k9 (mask, fst, low, high) = lpL I i j f (k9 + 1) (lpM I i j k9 (mask, fst, low, high)) := rfl
                  have eM : lpM I i j k9 (mask, fst, low, high) = (obit mask k9, (if ¬ fst = 0 ∧ (k9 = i ∨ j ≤ k9) then (1 : Int) else 0), (if m_st I i k9 < low then m_st I i k9 else low), (if high < m_st I i k9 then m_st I i k9 else high)) := if_pos (ifb_t h116)
                  rw [hF, hLo, hHi] at eM
                  rw [e, eM] at hend
                  rw [eM] at hs9
                  refine g_iload10 (Y := Y_X5_layLine) (pc' := 202) dX5_layLine_200 rfl ?_
                  refine g_istore10 (Y := Y_X5_layLine) (pc' := 204) dX5_layLine_202 rfl (Nat.le_of_ble_eq_true rfl) rfl ?_
                  refine g_iinc11 (Y := Y_X5_layLine) (pc' := 207) dX5_layLine_204 rfl (Nat.le_of_ble_eq_true rfl) rfl ?_
                  refine g_goto (Y := Y_X5_layLine) (t := 97) dX5_layLine_207 (by decide) ?_
                  exact ih (k9 + 1) _ _ _ _ (by omega) hs9 hend
                · have hHi : (if high < m_st I i k9 then m_st I i k9 else high) = m_st I i k9 := if_pos (by omega)
                  have e : lpL I i j (f + 1) k9 (mask, fst, low, high) = lpL I i j f (k9 + 1) (lpM I i j k9 (mask, fst, low, high)) := rfl
                  have eM : lpM I i j k9 (mask, fst, low, high) = (obit mask k9, (if ¬ fst = 0 ∧ (k9 = i ∨ j ≤ k9) then (1 : Int) else 0), (if m_st I i k9 < low then m_st I i k9 else low), (if high < m_st I i k9 then m_st I i k9 else high)) := if_pos (ifb_t h116)
                  rw [hF, hLo, hHi] at eM
                  rw [e, eM] at hend
                  rw [eM] at hs9
                  refine g_aload0 (Y := Y_X5_layLine) (pc' := 191) dX5_layLine_190 rfl ?_
                  refine g_iload1 (Y := Y_X5_layLine) (pc' := 192) dX5_layLine_191 rfl ?_
                  refine g_iload11 (Y := Y_X5_layLine) (pc' := 194) dX5_layLine_192 rfl ?_
                  refine g_callVv (Y := Y_X5_layLine) (c := 5) (s_X5_stepsTo hk0 hz9 hst i k9 hi (by omega)) (pc' := 197) dX5_layLine_194 rfl cv_X5_75 rfl (by assumption) (by show _ < n; omega) ⟨by decide, _, rfl, rfl⟩ rfl rfl rfl rfl ?_
                  refine g_goto (Y := Y_X5_layLine) (t := 202) dX5_layLine_197 (by decide) ?_
                  refine g_istore10 (Y := Y_X5_layLine) (pc' := 204) dX5_layLine_202 rfl (Nat.le_of_ble_eq_true rfl) rfl ?_
                  refine g_iinc11 (Y := Y_X5_layLine) (pc' := 207) dX5_layLine_204 rfl (Nat.le_of_ble_eq_true rfl) rfl ?_
                  refine g_goto (Y := Y_X5_layLine) (t := 97) dX5_layLine_207 (by decide) ?_
                  exact ih (k9 + 1) _ _ _ _ (by omega) hs9 hend
