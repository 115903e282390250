/-! the reference: steps of a line, near spots -/
/-- the line that is laid now has steps that go somewhere -/
def StpV (I : Nat → Nat → Int) : Prop := (0 ≤ I 110 7 ∧ I 110 7 < 66) ∧ (-24 < I 116 (I 110 7).toNat ∧ I 116 (I 110 7).toNat < 24) ∧ (-24 < I 117 (I 110 7).toNat ∧ I 117 (I 110 7).toNat < 24) ∧ (¬ 0 < I 116 (I 110 7).toNat → I 117 (I 110 7).toNat ≠ 0)
def m_st (I : Nat → Nat → Int) (i k : Nat) : Int := if 0 < I 116 (I 110 7).toNat then (m_ta I i k).tdiv (I 116 (I 110 7).toNat) else (m_sa I i k).tdiv (I 117 (I 110 7).toNat)
theorem m_st_rg {I : Nat → Nat → Int} (hz9 : ZV I) {i k : Nat} (hi : (i : Int) < I 111 3) (hk : (k : Int) < I 111 3) : -24 < m_st I i k ∧ m_st I i k < 24 := by
  unfold m_st
  split
  · exact tdiv_rg (m_ta_rg hz9 hi hk)
  · exact tdiv_rg (m_sa_rg hz9 hi hk)
theorem obt_01 (m : Int) (k : Nat) : obt m k = 0 ∨ obt m k = 1 := by unfold obt; split <;> simp
def m_its (I : Nat → Nat → Int) (i : Nat) (mask : Int) (k m : Nat) : Int := if obt mask m = 1 then m_st I i m - m_st I i k else 0
def nxL (I : Nat → Nat → Int) (i : Nat) (mask : Int) (k : Nat) : Nat → Nat → Int → Int
  | 0, _, x => x
  | f + 1, m, x => nxL I i mask k f (m + 1) (if 0 < m_its I i mask k m ∧ m_its I i mask k m < x then m_its I i mask k m else x)
def m_next (I : Nat → Nat → Int) (i : Nat) (mask : Int) (k : Nat) : Int := if obt mask k = 1 then nxL I i mask k (I 111 3).toNat 0 1000 else 1000
def nrL (I : Nat → Nat → Int) (i : Nat) (mask : Int) : Nat → Nat → Int → Int
  | 0, _, a => a
  | f + 1, k, a => nrL I i mask f (k + 1) (if ¬ a = 0 ∧ (m_next I i mask k = 1000 ∨ m_next I i mask k ≤ I 111 1) then 1 else 0)
def m_near (I : Nat → Nat → Int) (i : Nat) (mask : Int) : Int := nrL I i mask (I 111 3).toNat 0 1
theorem nxL_rg {I : Nat → Nat → Int} {i : Nat} {mask : Int} {k : Nat} : ∀ (f m : Nat) (x : Int), 0 ≤ x ∧ x ≤ 1000 → 0 ≤ nxL I i mask k f m x ∧ nxL I i mask k f m x ≤ 1000
  | 0, _, _, h => h
  | f + 1, m, x, h => by
    unfold nxL
    exact nxL_rg f (m + 1) _ (by split <;> omega)
set_option maxHeartbeats 2000000 in
set_option maxRecDepth 100000 in
theorem s_X5_stepsTo {l : Launch} {E : QE} {T : Nat → Nat × Nat} {I : Nat → Nat → Int} {J : Nat → Nat → Int64} {R : Nat → Nat → Option Nat} {n z : Nat} (hk : MdB T R n) (hz9 : ZV I) (hst : StpV I) (i k9 : Nat) (hi : (i : Int) < I 111 3) (h9 : (k9 : Int) < I 111 3) : SpV l E Y_X5_stepsTo [.ref (E.1 + 110), .int (iz (i : Int)), .int (iz (k9 : Int))] (T, I, J, R, n, z) (.int (iz (m_st I i k9))) (T, I, J, R, n, z) := by
  have hk0 := hk
  obtain ⟨t0, t1, t2, t3, t4, t5, t6, t7, t8, t9, t10, t11, t12, t13, r1, r2, r4, r5, r8, r9, r10, r11, r12, r13, r14, r15, r16, hn⟩ := hk
  obtain ⟨z3, zs, zs0, zd, zt, zt2, zv, zw, zk⟩ := id hz9
  obtain ⟨hL, hs1, hs2, hs3⟩ := id hst
  have rt := m_ta_rg hz9 hi h9
  have rs := m_sa_rg hz9 hi h9
  refine Sp.of [some (.ref (E.1 + 110)), some (.int (iz (i : Int))), some (.int (iz (k9 : Int))), none] (by decide +kernel) (Nat.le_of_ble_eq_true rfl) (fun _ h => h) ?_
  refine g_aload0 (Y := Y_X5_stepsTo) (pc' := 1) dX5_stepsTo_0 rfl ?_
  refine g_getR (Y := Y_X5_stepsTo) (pc' := 4) dX5_stepsTo_1 rfl fl_X5_25 rfl (by assumption) (by omega) (by assumption) ?_
  refine g_aload0 (Y := Y_X5_stepsTo) (pc' := 5) dX5_stepsTo_4 rfl ?_
  refine g_getI (Y := Y_X5_stepsTo) (pc' := 8) dX5_stepsTo_5 rfl fl_X5_72 rfl (by assumption) (by omega) ?_
  refine g_iald (Y := Y_X5_stepsTo) (pc' := 9) dX5_stepsTo_8 rfl (by assumption) (by omega) (by decide) ⟨by omega, by omega⟩ ?_
  refine g_istore3 (Y := Y_X5_stepsTo) (pc' := 10) dX5_stepsTo_9 rfl (Nat.le_of_ble_eq_true rfl) rfl ?_
  refine g_iload3 (Y := Y_X5_stepsTo) (pc' := 11) dX5_stepsTo_10 rfl ?_
  refine g_if_le (Y := Y_X5_stepsTo) (t := 25) (pc' := 14) dX5_stepsTo_11 (by decide) rfl ⟨by omega, by omega⟩ (fun h11 => ?_) (fun h11 => ?_)
  · have e : m_st I i k9 = (m_sa I i k9).tdiv (I 117 (I 110 7).toNat) := if_neg (by omega)
    rw [e]
    have hs4 := hs3 (by omega)
    refine g_aload0 (Y := Y_X5_stepsTo) (pc' := 26) dX5_stepsTo_25 rfl ?_
    refine g_iload1 (Y := Y_X5_stepsTo) (pc' := 27) dX5_stepsTo_26 rfl ?_
    refine g_iload2 (Y := Y_X5_stepsTo) (pc' := 28) dX5_stepsTo_27 rfl ?_
    refine g_callVv (Y := Y_X5_stepsTo) (c := 5) (s_X5_sectorsApart hk0 hz9 i k9 hi h9) (pc' := 31) dX5_stepsTo_28 rfl cv_X5_69 rfl (by assumption) (by show _ < n; omega) ⟨by decide, _, rfl, rfl⟩ rfl rfl rfl rfl ?_
    refine g_aload0 (Y := Y_X5_stepsTo) (pc' := 32) dX5_stepsTo_31 rfl ?_
    refine g_getR (Y := Y_X5_stepsTo) (pc' := 35) dX5_stepsTo_32 rfl fl_X5_28 rfl (by assumption) (by omega) (by assumption) ?_
    refine g_aload0 (Y := Y_X5_stepsTo) (pc' := 36) dX5_stepsTo_35 rfl ?_
    refine g_getI (Y := Y_X5_stepsTo) (pc' := 39) dX5_stepsTo_36 rfl fl_X5_72 rfl (by assumption) (by omega) ?_
    refine g_iald (Y := Y_X5_stepsTo) (pc' := 40) dX5_stepsTo_39 rfl (by assumption) (by omega) (by decide) ⟨by omega, by omega⟩ ?_
    refine g_idiv (Y := Y_X5_stepsTo) (pc' := 41) dX5_stepsTo_40 rfl ⟨by omega, by omega⟩ ⟨by omega, by omega⟩ (by omega) ?_
    exact g_iret (Y := Y_X5_stepsTo) dX5_stepsTo_41 rfl (Nat.zero_le _) (Nat.zero_le _) (⟨rfl, rfl⟩)
  · have e : m_st I i k9 = (m_ta I i k9).tdiv (I 116 (I 110 7).toNat) := if_pos (by omega)
    rw [e]
    refine g_aload0 (Y := Y_X5_stepsTo) (pc' := 15) dX5_stepsTo_14 rfl ?_
    refine g_iload1 (Y := Y_X5_stepsTo) (pc' := 16) dX5_stepsTo_15 rfl ?_
    refine g_iload2 (Y := Y_X5_stepsTo) (pc' := 17) dX5_stepsTo_16 rfl ?_
    refine g_callVv (Y := Y_X5_stepsTo) (c := 5) (s_X5_tracksApart hk0 hz9 i k9 hi h9) (pc' := 20) dX5_stepsTo_17 rfl cv_X5_65 rfl (by assumption) (by show _ < n; omega) ⟨by decide, _, rfl, rfl⟩ rfl rfl rfl rfl ?_
    refine g_iload3 (Y := Y_X5_stepsTo) (pc' := 21) dX5_stepsTo_20 rfl ?_
    refine g_idiv (Y := Y_X5_stepsTo) (pc' := 22) dX5_stepsTo_21 rfl ⟨by omega, by omega⟩ ⟨by omega, by omega⟩ (by omega) ?_
    refine g_goto (Y := Y_X5_stepsTo) (t := 41) dX5_stepsTo_22 (by decide) ?_
    exact g_iret (Y := Y_X5_stepsTo) dX5_stepsTo_41 rfl (Nat.zero_le _) (Nat.zero_le _) (⟨rfl, rfl⟩)
set_option maxHeartbeats 2000000 in
set_option maxRecDepth 100000 in
theorem s_X5_near_lp2 {l : Launch} {E : QE} {T : Nat → Nat × Nat} {I : Nat → Nat → Int} {J : Nat → Nat → Int64} {R : Nat → Nat → Option Nat} {n z : Nat} (hk : MdB T R n) (hz9 : ZV I) (hst : StpV I) {i : Nat} (hi : (i : Int) < I 111 3) {mask : Int} (hmq : 0 ≤ mask ∧ mask < 4096) {a : Int} {k9 : Nat} (h9 : (k9 : Int) < I 111 3) (hbit : obt mask k9 = 1) {K : Option Value → QW → Prop} : ∀ (f m9 : Nat) (x : Int) (x7 : Option Value), m9 + f = (I 111 3).toNat → 0 ≤ x ∧ x ≤ 1000 → (∀ (L6 : Int) (L7 : Option Value), Go l E Y_X5_areNear 0 0 103 [some (.ref (E.1 + 110)), some (.int (iz (i : Int))), some (.int (iz mask)), some (.int (iz a)), some (.int (iz (k9 : Int))), some (.int (iz (nxL I i mask k9 f m9 x))), some (.int (iz L6)), L7] [] (T, I, J, R, n, z) K) → Go l E Y_X5_areNear 0 0 24 [some (.ref (E.1 + 110)), some (.int (iz (i : Int))), some (.int (iz mask)), some (.int (iz a)), some (.int (iz (k9 : Int))), some (.int (iz x)), some (.int (iz (m9 : Int))), x7] [] (T, I, J, R, n, z) K := by
  have hk0 := hk
  obtain ⟨t0, t1, t2, t3, t4, t5, t6, t7, t8, t9, t10, t11, t12, t13, r1, r2, r4, r5, r8, r9, r10, r11, r12, r13, r14, r15, r16, hn⟩ := hk
  obtain ⟨z3, zs, zs0, zd, zt, zt2, zv, zw, zk⟩ := id hz9
  intro f
  induction f with
  | zero =>
    intro m9 x x7 hm hx hend
    refine g_iload6 (Y := Y_X5_areNear) (pc' := 26) dX5_areNear_24 rfl ?_
    refine g_aload0 (Y := Y_X5_areNear) (pc' := 27) dX5_areNear_26 rfl ?_
    refine g_getR (Y := Y_X5_areNear) (pc' := 30) dX5_areNear_27 rfl fl_X5_7 rfl (by assumption) (by omega) (by assumption) ?_
    refine g_iconst (Y := Y_X5_areNear) (pc' := 31) dX5_areNear_30 rfl ?_
    refine g_iald (Y := Y_X5_areNear) (pc' := 32) dX5_areNear_31 rfl (by assumption) (by omega) (by decide) ⟨by omega, by omega⟩ ?_
    rw [show Int.toNat 3 = 3 from rfl]
    refine g_icmp_ge (Y := Y_X5_areNear) (t := 103) (pc' := 35) dX5_areNear_32 (by decide) rfl ⟨by omega, by omega⟩ ⟨by omega, by omega⟩ (fun h32 => ?_) (fun h32 => ?_)
    · exact hend _ _
    · exfalso; omega
  | succ f ih =>
    intro m9 x x7 hm hx hend
    have r1 := m_st_rg hz9 hi h9
    have r2 := m_st_rg hz9 hi (show (m9 : Int) < I 111 3 by omega)
    have ob := obt_01 mask m9
    have ok := obt_01 mask k9
    refine g_iload6 (Y := Y_X5_areNear) (pc' := 26) dX5_areNear_24 rfl ?_
    refine g_aload0 (Y := Y_X5_areNear) (pc' := 27) dX5_areNear_26 rfl ?_
    refine g_getR (Y := Y_X5_areNear) (pc' := 30) dX5_areNear_27 rfl fl_X5_7 rfl (by assumption) (by omega) (by assumption) ?_
    refine g_iconst (Y := Y_X5_areNear) (pc' := 31) dX5_areNear_30 rfl ?_
    refine g_iald (Y := Y_X5_areNear) (pc' := 32) dX5_areNear_31 rfl (by assumption) (by omega) (by decide) ⟨by omega, by omega⟩ ?_
    rw [show Int.toNat 3 = 3 from rfl]
    refine g_icmp_ge (Y := Y_X5_areNear) (t := 103) (pc' := 35) dX5_areNear_32 (by decide) rfl ⟨by omega, by omega⟩ ⟨by omega, by omega⟩ (fun h32 => ?_) (fun h32 => ?_)
    · exfalso; omega
    · refine g_iload2 (Y := Y_X5_areNear) (pc' := 36) dX5_areNear_35 rfl ?_
      refine g_iload4 (Y := Y_X5_areNear) (pc' := 38) dX5_areNear_36 rfl ?_
      refine g_ishr (Y := Y_X5_areNear) (pc' := 39) dX5_areNear_38 rfl (iz_shrN hmq (by omega)) ?_
      refine g_iconst (Y := Y_X5_areNear) (pc' := 40) dX5_areNear_39 rfl ?_
      refine g_iand (Y := Y_X5_areNear) (pc' := 41) dX5_areNear_40 rfl (iz_obt hmq) ?_
      refine g_iconst (Y := Y_X5_areNear) (pc' := 42) dX5_areNear_41 rfl ?_
      refine g_icmp_ne (Y := Y_X5_areNear) (t := 103) (pc' := 45) dX5_areNear_42 (by decide) rfl ⟨by omega, by omega⟩ ⟨by omega, by omega⟩ (fun h42 => ?_) (fun h42 => ?_)
      · exfalso; exact h42 hbit
      · refine g_iload2 (Y := Y_X5_areNear) (pc' := 46) dX5_areNear_45 rfl ?_
        refine g_iload6 (Y := Y_X5_areNear) (pc' := 48) dX5_areNear_46 rfl ?_
        refine g_ishr (Y := Y_X5_areNear) (pc' := 49) dX5_areNear_48 rfl (iz_shrN hmq (by omega)) ?_
        refine g_iconst (Y := Y_X5_areNear) (pc' := 50) dX5_areNear_49 rfl ?_
        refine g_iand (Y := Y_X5_areNear) (pc' := 51) dX5_areNear_50 rfl (iz_obt hmq) ?_
        refine g_iconst (Y := Y_X5_areNear) (pc' := 52) dX5_areNear_51 rfl ?_
        refine g_icmp_ne (Y := Y_X5_areNear) (t := 73) (pc' := 55) dX5_areNear_52 (by decide) rfl ⟨by omega, by omega⟩ ⟨by omega, by omega⟩ (fun h52 => ?_) (fun h52 => ?_)
        · have hi9 : m_its I i mask k9 m9 = 0 := if_neg h52
          refine g_iconst (Y := Y_X5_areNear) (pc' := 74) dX5_areNear_73 rfl ?_
          refine g_istore7 (Y := Y_X5_areNear) (pc' := 76) dX5_areNear_74 rfl (Nat.le_of_ble_eq_true rfl) rfl ?_
          refine g_iload7 (Y := Y_X5_areNear) (pc' := 78) dX5_areNear_76 rfl ?_
          refine g_if_le (Y := Y_X5_areNear) (t := 93) (pc' := 81) dX5_areNear_78 (by decide) rfl ⟨by omega, by omega⟩ (fun h78 => ?_) (fun h78 => ?_)
          · have e : nxL I i mask k9 (f + 1) m9 x = nxL I i mask k9 f (m9 + 1) x := by show nxL I i mask k9 f (m9 + 1) (if _ then _ else _) = _; rw [if_neg (by omega)]
            rw [e] at hend
            refine g_iload5 (Y := Y_X5_areNear) (pc' := 95) dX5_areNear_93 rfl ?_
            refine g_istore5 (Y := Y_X5_areNear) (pc' := 97) dX5_areNear_95 rfl (Nat.le_of_ble_eq_true rfl) rfl ?_
            refine g_iinc6 (Y := Y_X5_areNear) (pc' := 100) dX5_areNear_97 rfl (Nat.le_of_ble_eq_true rfl) rfl ?_
            refine g_goto (Y := Y_X5_areNear) (t := 24) dX5_areNear_100 (by decide) ?_
            exact ih (m9 + 1) _ _ (by omega) (by omega) hend
          · refine g_iload7 (Y := Y_X5_areNear) (pc' := 83) dX5_areNear_81 rfl ?_
            refine g_iload5 (Y := Y_X5_areNear) (pc' := 85) dX5_areNear_83 rfl ?_
            refine g_icmp_ge (Y := Y_X5_areNear) (t := 93) (pc' := 88) dX5_areNear_85 (by decide) rfl ⟨by omega, by omega⟩ ⟨by omega, by omega⟩ (fun h85 => ?_) (fun h85 => ?_)
            · have e : nxL I i mask k9 (f + 1) m9 x = nxL I i mask k9 f (m9 + 1) x := by show nxL I i mask k9 f (m9 + 1) (if _ then _ else _) = _; rw [if_neg (by omega)]
              rw [e] at hend
              refine g_iload5 (Y := Y_X5_areNear) (pc' := 95) dX5_areNear_93 rfl ?_
              refine g_istore5 (Y := Y_X5_areNear) (pc' := 97) dX5_areNear_95 rfl (Nat.le_of_ble_eq_true rfl) rfl ?_
              refine g_iinc6 (Y := Y_X5_areNear) (pc' := 100) dX5_areNear_97 rfl (Nat.le_of_ble_eq_true rfl) rfl ?_
              refine g_goto (Y := Y_X5_areNear) (t := 24) dX5_areNear_100 (by decide) ?_
              exact ih (m9 + 1) _ _ (by omega) (by omega) hend
            · have e : nxL I i mask k9 (f + 1) m9 x = nxL I i mask k9 f (m9 + 1) (m_its I i mask k9 m9) := by show nxL I i mask k9 f (m9 + 1) (if _ then _ else _) = _; rw [if_pos (by omega)]
              rw [e, hi9] at hend
              refine g_iload7 (Y := Y_X5_areNear) (pc' := 90) dX5_areNear_88 rfl ?_
              refine g_goto (Y := Y_X5_areNear) (t := 95) dX5_areNear_90 (by decide) ?_
              refine g_istore5 (Y := Y_X5_areNear) (pc' := 97) dX5_areNear_95 rfl (Nat.le_of_ble_eq_true rfl) rfl ?_
              refine g_iinc6 (Y := Y_X5_areNear) (pc' := 100) dX5_areNear_97 rfl (Nat.le_of_ble_eq_true rfl) rfl ?_
              refine g_goto (Y := Y_X5_areNear) (t := 24) dX5_areNear_100 (by decide) ?_
              exact ih (m9 + 1) _ _ (by omega) (by omega) hend
        · have hi9 : m_its I i mask k9 m9 = m_st I i m9 - m_st I i k9 := if_pos h52
          refine g_aload0 (Y := Y_X5_areNear) (pc' := 56) dX5_areNear_55 rfl ?_
          refine g_iload1 (Y := Y_X5_areNear) (pc' := 57) dX5_areNear_56 rfl ?_
          refine g_iload6 (Y := Y_X5_areNear) (pc' := 59) dX5_areNear_57 rfl ?_
          refine g_callVv (Y := Y_X5_areNear) (c := 5) (s_X5_stepsTo hk0 hz9 hst i m9 hi (by omega)) (pc' := 62) dX5_areNear_59 rfl cv_X5_75 rfl (by assumption) (by show _ < n; omega) ⟨by decide, _, rfl, rfl⟩ rfl rfl rfl rfl ?_
          refine g_aload0 (Y := Y_X5_areNear) (pc' := 63) dX5_areNear_62 rfl ?_
          refine g_iload1 (Y := Y_X5_areNear) (pc' := 64) dX5_areNear_63 rfl ?_
          refine g_iload4 (Y := Y_X5_areNear) (pc' := 66) dX5_areNear_64 rfl ?_
          refine g_callVv (Y := Y_X5_areNear) (c := 5) (s_X5_stepsTo hk0 hz9 hst i k9 hi h9) (pc' := 69) dX5_areNear_66 rfl cv_X5_75 rfl (by assumption) (by show _ < n; omega) ⟨by decide, _, rfl, rfl⟩ rfl rfl rfl rfl ?_
          refine g_isub (Y := Y_X5_areNear) (pc' := 70) dX5_areNear_69 rfl ?_
          refine g_goto (Y := Y_X5_areNear) (t := 74) dX5_areNear_70 (by decide) ?_
          refine g_istore7 (Y := Y_X5_areNear) (pc' := 76) dX5_areNear_74 rfl (Nat.le_of_ble_eq_true rfl) rfl ?_
          refine g_iload7 (Y := Y_X5_areNear) (pc' := 78) dX5_areNear_76 rfl ?_
          refine g_if_le (Y := Y_X5_areNear) (t := 93) (pc' := 81) dX5_areNear_78 (by decide) rfl ⟨by omega, by omega⟩ (fun h78 => ?_) (fun h78 => ?_)
          · have e : nxL I i mask k9 (f + 1) m9 x = nxL I i mask k9 f (m9 + 1) x := by show nxL I i mask k9 f (m9 + 1) (if _ then _ else _) = _; rw [if_neg (by omega)]
            rw [e] at hend
            refine g_iload5 (Y := Y_X5_areNear) (pc' := 95) dX5_areNear_93 rfl ?_
            refine g_istore5 (Y := Y_X5_areNear) (pc' := 97) dX5_areNear_95 rfl (Nat.le_of_ble_eq_true rfl) rfl ?_
            refine g_iinc6 (Y := Y_X5_areNear) (pc' := 100) dX5_areNear_97 rfl (Nat.le_of_ble_eq_true rfl) rfl ?_
            refine g_goto (Y := Y_X5_areNear) (t := 24) dX5_areNear_100 (by decide) ?_
            exact ih (m9 + 1) _ _ (by omega) (by omega) hend
          · refine g_iload7 (Y := Y_X5_areNear) (pc' := 83) dX5_areNear_81 rfl ?_
            refine g_iload5 (Y := Y_X5_areNear) (pc' := 85) dX5_areNear_83 rfl ?_
            refine g_icmp_ge (Y := Y_X5_areNear) (t := 93) (pc' := 88) dX5_areNear_85 (by decide) rfl ⟨by omega, by omega⟩ ⟨by omega, by omega⟩ (fun h85 => ?_) (fun h85 => ?_)
            · have e : nxL I i mask k9 (f + 1) m9 x = nxL I i mask k9 f (m9 + 1) x := by show nxL I i mask k9 f (m9 + 1) (if _ then _ else _) = _; rw [if_neg (by omega)]
              rw [e] at hend
              refine g_iload5 (Y := Y_X5_areNear) (pc' := 95) dX5_areNear_93 rfl ?_
              refine g_istore5 (Y := Y_X5_areNear) (pc' := 97) dX5_areNear_95 rfl (Nat.le_of_ble_eq_true rfl) rfl ?_
              refine g_iinc6 (Y := Y_X5_areNear) (pc' := 100) dX5_areNear_97 rfl (Nat.le_of_ble_eq_true rfl) rfl ?_
              refine g_goto (Y := Y_X5_areNear) (t := 24) dX5_areNear_100 (by decide) ?_
              exact ih (m9 + 1) _ _ (by omega) (by omega) hend
            · have e : nxL I i mask k9 (f + 1) m9 x = nxL I i mask k9 f (m9 + 1) (m_its I i mask k9 m9) := by show nxL I i mask k9 f (m9 + 1) (if _ then _ else _) = _; rw [if_pos (by omega)]
              rw [e, hi9] at hend
              refine g_iload7 (Y := Y_X5_areNear) (pc' := 90) dX5_areNear_88 rfl ?_
              refine g_goto (Y := Y_X5_areNear) (t := 95) dX5_areNear_90 (by decide) ?_
              refine g_istore5 (Y := Y_X5_areNear) (pc' := 97) dX5_areNear_95 rfl (Nat.le_of_ble_eq_true rfl) rfl ?_
              refine g_iinc6 (Y := Y_X5_areNear) (pc' := 100) dX5_areNear_97 rfl (Nat.le_of_ble_eq_true rfl) rfl ?_
              refine g_goto (Y := Y_X5_areNear) (t := 24) dX5_areNear_100 (by decide) ?_
              exact ih (m9 + 1) _ _ (by omega) (by omega) hend
set_option maxHeartbeats 2000000 in
set_option maxRecDepth 100000 in
theorem s_X5_near_lp1 {l : Launch} {E : QE} {T : Nat → Nat × Nat} {I : Nat → Nat → Int} {J : Nat → Nat → Int64} {R : Nat → Nat → Option Nat} {n z : Nat} (hk : MdB T R n) (hz9 : ZV I) (hst : StpV I) {i : Nat} (hi : (i : Int) < I 111 3) {mask : Int} (hmq : 0 ≤ mask ∧ mask < 4096) : ∀ (f k9 : Nat) (a : Int) (x5 x6 x7 : Option Value), k9 + f = (I 111 3).toNat → (a = 0 ∨ a = 1) → Go l E Y_X5_areNear 0 0 5 [some (.ref (E.1 + 110)), some (.int (iz (i : Int))), some (.int (iz mask)), some (.int (iz a)), some (.int (iz (k9 : Int))), x5, x6, x7] [] (T, I, J, R, n, z) (KV (.int (iz (nrL I i mask f k9 a))) (T, I, J, R, n, z)) := by
  have hk0 := hk
  obtain ⟨t0, t1, t2, t3, t4, t5, t6, t7, t8, t9, t10, t11, t12, t13, r1, r2, r4, r5, r8, r9, r10, r11, r12, r13, r14, r15, r16, hn⟩ := hk
  obtain ⟨z3, zs, zs0, zd, zt, zt2, zv, zw, zk⟩ := id hz9
  intro f
  induction f with
  | zero =>
    intro k9 a x5 x6 x7 hm ha
    refine g_iload4 (Y := Y_X5_areNear) (pc' := 7) dX5_areNear_5 rfl ?_
    refine g_aload0 (Y := Y_X5_areNear) (pc' := 8) dX5_areNear_7 rfl ?_
    refine g_getR (Y := Y_X5_areNear) (pc' := 11) dX5_areNear_8 rfl fl_X5_7 rfl (by assumption) (by omega) (by assumption) ?_
    refine g_iconst (Y := Y_X5_areNear) (pc' := 12) dX5_areNear_11 rfl ?_
    refine g_iald (Y := Y_X5_areNear) (pc' := 13) dX5_areNear_12 rfl (by assumption) (by omega) (by decide) ⟨by omega, by omega⟩ ?_
    rw [show Int.toNat 3 = 3 from rfl]
    refine g_icmp_ge (Y := Y_X5_areNear) (t := 138) (pc' := 16) dX5_areNear_13 (by decide) rfl ⟨by omega, by omega⟩ ⟨by omega, by omega⟩ (fun h13 => ?_) (fun h13 => ?_)
    · refine g_iload3 (Y := Y_X5_areNear) (pc' := 139) dX5_areNear_138 rfl ?_
      exact g_zret (Y := Y_X5_areNear) dX5_areNear_139 rfl ha (Nat.zero_le _) (Nat.zero_le _) (⟨rfl, rfl⟩)
    · exfalso; omega
  | succ f ih =>
    intro k9 a x5 x6 x7 hm ha
    have h9 : (k9 : Int) < I 111 3 := by omega
    have hset := zt 1 (by decide)
    have ok := obt_01 mask k9
    have key : ∀ (x : Int) (L6 L7 : Option Value), 0 ≤ x ∧ x ≤ 1000 → m_next I i mask k9 = x → Go l E Y_X5_areNear 0 0 103 [some (.ref (E.1 + 110)), some (.int (iz (i : Int))), some (.int (iz mask)), some (.int (iz a)), some (.int (iz (k9 : Int))), some (.int (iz x)), L6, L7] [] (T, I, J, R, n, z) (KV (.int (iz (nrL I i mask (f + 1) k9 a))) (T, I, J, R, n, z)) := by
      intro x L6 L7 hx hnx
      refine g_iload3 (Y := Y_X5_areNear) (pc' := 104) dX5_areNear_103 rfl ?_
      refine g_if_eq (Y := Y_X5_areNear) (t := 130) (pc' := 107) dX5_areNear_104 (by decide) rfl ⟨by omega, by omega⟩ (fun h104 => ?_) (fun h104 => ?_)
      · have e : nrL I i mask (f + 1) k9 a = nrL I i mask f (k9 + 1) 0 := by show nrL I i mask f (k9 + 1) (if _ then _ else _) = _; rw [if_neg (by omega)]
        rw [e]
        refine g_iconst (Y := Y_X5_areNear) (pc' := 131) dX5_areNear_130 rfl ?_
        refine g_istore3 (Y := Y_X5_areNear) (pc' := 132) dX5_areNear_131 rfl (Nat.le_of_ble_eq_true rfl) rfl ?_
        refine g_iinc4 (Y := Y_X5_areNear) (pc' := 135) dX5_areNear_132 rfl (Nat.le_of_ble_eq_true rfl) rfl ?_
        refine g_goto (Y := Y_X5_areNear) (t := 5) dX5_areNear_135 (by decide) ?_
        exact ih (k9 + 1) _ _ _ _ (by omega) (by omega)
      · refine g_iload5 (Y := Y_X5_areNear) (pc' := 109) dX5_areNear_107 rfl ?_
        refine g_sipush (Y := Y_X5_areNear) (pc' := 112) dX5_areNear_109 rfl (by decide) ?_
        refine g_icmp_eq (Y := Y_X5_areNear) (t := 126) (pc' := 115) dX5_areNear_112 (by decide) rfl ⟨by omega, by omega⟩ ⟨by omega, by omega⟩ (fun h112 => ?_) (fun h112 => ?_)
        · have e : nrL I i mask (f + 1) k9 a = nrL I i mask f (k9 + 1) 1 := by show nrL I i mask f (k9 + 1) (if _ then _ else _) = _; rw [if_pos (by omega)]
          rw [e]
          refine g_iconst (Y := Y_X5_areNear) (pc' := 127) dX5_areNear_126 rfl ?_
          refine g_goto (Y := Y_X5_areNear) (t := 131) dX5_areNear_127 (by decide) ?_
          refine g_istore3 (Y := Y_X5_areNear) (pc' := 132) dX5_areNear_131 rfl (Nat.le_of_ble_eq_true rfl) rfl ?_
          refine g_iinc4 (Y := Y_X5_areNear) (pc' := 135) dX5_areNear_132 rfl (Nat.le_of_ble_eq_true rfl) rfl ?_
          refine g_goto (Y := Y_X5_areNear) (t := 5) dX5_areNear_135 (by decide) ?_
          exact ih (k9 + 1) _ _ _ _ (by omega) (by omega)
        · refine g_iload5 (Y := Y_X5_areNear) (pc' := 117) dX5_areNear_115 rfl ?_
          refine g_aload0 (Y := Y_X5_areNear) (pc' := 118) dX5_areNear_117 rfl ?_
          refine g_getR (Y := Y_X5_areNear) (pc' := 121) dX5_areNear_118 rfl fl_X5_7 rfl (by assumption) (by omega) (by assumption) ?_
          refine g_iconst (Y := Y_X5_areNear) (pc' := 122) dX5_areNear_121 rfl ?_
          refine g_iald (Y := Y_X5_areNear) (pc' := 123) dX5_areNear_122 rfl (by assumption) (by omega) (by decide) ⟨by omega, by omega⟩ ?_
          rw [show Int.toNat 1 = 1 from rfl]
          refine g_icmp_gt (Y := Y_X5_areNear) (t := 130) (pc' := 126) dX5_areNear_123 (by decide) rfl ⟨by omega, by omega⟩ ⟨by omega, by omega⟩ (fun h123 => ?_) (fun h123 => ?_)
          · have e : nrL I i mask (f + 1) k9 a = nrL I i mask f (k9 + 1) 0 := by show nrL I i mask f (k9 + 1) (if _ then _ else _) = _; rw [if_neg (by omega)]
            rw [e]
            refine g_iconst (Y := Y_X5_areNear) (pc' := 131) dX5_areNear_130 rfl ?_
            refine g_istore3 (Y := Y_X5_areNear) (pc' := 132) dX5_areNear_131 rfl (Nat.le_of_ble_eq_true rfl) rfl ?_
            refine g_iinc4 (Y := Y_X5_areNear) (pc' := 135) dX5_areNear_132 rfl (Nat.le_of_ble_eq_true rfl) rfl ?_
            refine g_goto (Y := Y_X5_areNear) (t := 5) dX5_areNear_135 (by decide) ?_
            exact ih (k9 + 1) _ _ _ _ (by omega) (by omega)
          · have e : nrL I i mask (f + 1) k9 a = nrL I i mask f (k9 + 1) 1 := by show nrL I i mask f (k9 + 1) (if _ then _ else _) = _; rw [if_pos (by omega)]
            rw [e]
            refine g_iconst (Y := Y_X5_areNear) (pc' := 127) dX5_areNear_126 rfl ?_
            refine g_goto (Y := Y_X5_areNear) (t := 131) dX5_areNear_127 (by decide) ?_
            refine g_istore3 (Y := Y_X5_areNear) (pc' := 132) dX5_areNear_131 rfl (Nat.le_of_ble_eq_true rfl) rfl ?_
            refine g_iinc4 (Y := Y_X5_areNear) (pc' := 135) dX5_areNear_132 rfl (Nat.le_of_ble_eq_true rfl) rfl ?_
            refine g_goto (Y := Y_X5_areNear) (t := 5) dX5_areNear_135 (by decide) ?_
            exact ih (k9 + 1) _ _ _ _ (by omega) (by omega)
    refine g_iload4 (Y := Y_X5_areNear) (pc' := 7) dX5_areNear_5 rfl ?_
    refine g_aload0 (Y := Y_X5_areNear) (pc' := 8) dX5_areNear_7 rfl ?_
    refine g_getR (Y := Y_X5_areNear) (pc' := 11) dX5_areNear_8 rfl fl_X5_7 rfl (by assumption) (by omega) (by assumption) ?_
    refine g_iconst (Y := Y_X5_areNear) (pc' := 12) dX5_areNear_11 rfl ?_
    refine g_iald (Y := Y_X5_areNear) (pc' := 13) dX5_areNear_12 rfl (by assumption) (by omega) (by decide) ⟨by omega, by omega⟩ ?_
    rw [show Int.toNat 3 = 3 from rfl]
    refine g_icmp_ge (Y := Y_X5_areNear) (t := 138) (pc' := 16) dX5_areNear_13 (by decide) rfl ⟨by omega, by omega⟩ ⟨by omega, by omega⟩ (fun h13 => ?_) (fun h13 => ?_)
    · exfalso; omega
    · refine g_sipush (Y := Y_X5_areNear) (pc' := 19) dX5_areNear_16 rfl (by decide) ?_
      refine g_istore5 (Y := Y_X5_areNear) (pc' := 21) dX5_areNear_19 rfl (Nat.le_of_ble_eq_true rfl) rfl ?_
      refine g_iconst (Y := Y_X5_areNear) (pc' := 22) dX5_areNear_21 rfl ?_
      refine g_istore6 (Y := Y_X5_areNear) (pc' := 24) dX5_areNear_22 rfl (Nat.le_of_ble_eq_true rfl) rfl ?_
      by_cases hbit : obt mask k9 = 1
      · refine s_X5_near_lp2 hk0 hz9 hst hi hmq h9 hbit (I 111 3).toNat 0 1000 _ (by omega) (by decide) (fun L6 L7 => ?_)
        exact key _ _ _ (nxL_rg _ _ _ (by decide)) (if_pos hbit)
      · refine g_iload6 (Y := Y_X5_areNear) (pc' := 26) dX5_areNear_24 rfl ?_
        refine g_aload0 (Y := Y_X5_areNear) (pc' := 27) dX5_areNear_26 rfl ?_
        refine g_getR (Y := Y_X5_areNear) (pc' := 30) dX5_areNear_27 rfl fl_X5_7 rfl (by assumption) (by omega) (by assumption) ?_
        refine g_iconst (Y := Y_X5_areNear) (pc' := 31) dX5_areNear_30 rfl ?_
        refine g_iald (Y := Y_X5_areNear) (pc' := 32) dX5_areNear_31 rfl (by assumption) (by omega) (by decide) ⟨by omega, by omega⟩ ?_
        rw [show Int.toNat 3 = 3 from rfl]
        refine g_icmp_ge (Y := Y_X5_areNear) (t := 103) (pc' := 35) dX5_areNear_32 (by decide) rfl ⟨by omega, by omega⟩ ⟨by omega, by omega⟩ (fun h32 => ?_) (fun h32 => ?_)
        · exfalso; omega
        · refine g_iload2 (Y := Y_X5_areNear) (pc' := 36) dX5_areNear_35 rfl ?_
          refine g_iload4 (Y := Y_X5_areNear) (pc' := 38) dX5_areNear_36 rfl ?_
          refine g_ishr (Y := Y_X5_areNear) (pc' := 39) dX5_areNear_38 rfl (iz_shrN hmq (by omega)) ?_
          refine g_iconst (Y := Y_X5_areNear) (pc' := 40) dX5_areNear_39 rfl ?_
          refine g_iand (Y := Y_X5_areNear) (pc' := 41) dX5_areNear_40 rfl (iz_obt hmq) ?_
          refine g_iconst (Y := Y_X5_areNear) (pc' := 42) dX5_areNear_41 rfl ?_
          refine g_icmp_ne (Y := Y_X5_areNear) (t := 103) (pc' := 45) dX5_areNear_42 (by decide) rfl ⟨by omega, by omega⟩ ⟨by omega, by omega⟩ (fun h42 => ?_) (fun h42 => ?_)
          · exact key _ _ _ (by decide) (if_neg hbit)
          · exfalso; exact hbit h42
set_option maxHeartbeats 2000000 in
set_option maxRecDepth 100000 in
theorem s_X5_areNear {l : Launch} {E : QE} {T : Nat → Nat × Nat} {I : Nat → Nat → Int} {J : Nat → Nat → Int64} {R : Nat → Nat → Option Nat} {n z : Nat} (hk : MdB T R n) (hz9 : ZV I) (hst : StpV I) {i : Nat} (hi : (i : Int) < I 111 3) {mask : Int} (hmq : 0 ≤ mask ∧ mask < 4096)  : SpV l E Y_X5_areNear [.ref (E.1 + 110), .int (iz (i : Int)), .int (iz mask)] (T, I, J, R, n, z) (.int (iz (m_near I i mask))) (T, I, J, R, n, z) := by
  have hk0 := hk
  have z3 := hz9.1
  refine Sp.of [some (.ref (E.1 + 110)), some (.int (iz (i : Int))), some (.int (iz mask)), none, none, none, none, none] (by decide +kernel) (Nat.le_of_ble_eq_true rfl) (fun _ h => h) ?_
  refine g_iconst (Y := Y_X5_areNear) (pc' := 1) dX5_areNear_0 rfl ?_
  refine g_istore3 (Y := Y_X5_areNear) (pc' := 2) dX5_areNear_1 rfl (Nat.le_of_ble_eq_true rfl) rfl ?_
  refine g_iconst (Y := Y_X5_areNear) (pc' := 3) dX5_areNear_2 rfl ?_
  refine g_istore4 (Y := Y_X5_areNear) (pc' := 5) dX5_areNear_3 rfl (Nat.le_of_ble_eq_true rfl) rfl ?_
  exact s_X5_near_lp1 hk0 hz9 hst hi hmq (I 111 3).toNat 0 1 _ _ _ (by omega) (Or.inr rfl)
