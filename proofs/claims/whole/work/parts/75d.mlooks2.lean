/-! the reference: what it tells -/
theorem pa_ne : ∀ (f c : Nat) (I : Nat → Nat → Int) (a : Nat), a ≠ 113 → m_pa f c I a = I a
  | 0, _, _, _, _ => rfl
  | f + 1, c, I, a, h => by
    unfold m_pa
    rw [pa_ne f (c + 1) _ a h, u2_ne h]
theorem bb_ne : ∀ (f c : Nat) (I : Nat → Nat → Int) (a : Nat), a ≠ 111 → m_bb f c I a = I a
  | 0, _, _, _, _ => rfl
  | f + 1, c, I, a, h => by
    unfold m_bb
    rw [bb_ne f (c + 1) _ a h, u2_ne h]
theorem pa_113 : ∀ (f c : Nat) (I : Nat → Nat → Int) (j : Nat), m_pa f c I 113 j = if c ≤ j ∧ j < c + f then I 111 j else I 113 j
  | 0, c, I, j => by
    rw [if_neg (by omega)]
    rfl
  | f + 1, c, I, j => by
    unfold m_pa
    rw [pa_113 f (c + 1) _ j, u2_ne (by decide), u2k]
    by_cases h : c + 1 ≤ j ∧ j < c + 1 + f
    · rw [if_pos h, if_pos (by omega)]
    · rw [if_neg h]
      by_cases g : j = c
      · rw [if_pos g, if_pos (by omega), g]
      · rw [if_neg g, if_neg (by omega)]
theorem bb_111 : ∀ (f c : Nat) (I : Nat → Nat → Int) (j : Nat), m_bb f c I 111 j = if c ≤ j ∧ j < c + f then I 113 j else I 111 j
  | 0, c, I, j => by
    rw [if_neg (by omega)]
    rfl
  | f + 1, c, I, j => by
    unfold m_bb
    rw [bb_111 f (c + 1) _ j, u2_ne (by decide), u2k]
    by_cases h : c + 1 ≤ j ∧ j < c + 1 + f
    · rw [if_pos h, if_pos (by omega)]
    · rw [if_neg h]
      by_cases g : j = c
      · rw [if_pos g, if_pos (by omega), g]
      · rw [if_neg g, if_neg (by omega)]
theorem ZV_eq {I I' : Nat → Nat → Int} (h : ZV I) (e : ∀ j, j < 1554 → I' 111 j = I 111 j) : ZV I' := by
  obtain ⟨z3, zs, zs0, zd, zt, zt2, zv, zw, zk⟩ := h
  have e3 := e 3 (by decide)
  refine ⟨by rw [e3]; exact z3, fun j hj => by rw [e _ (by omega)]; exact zs j hj, fun j hj => ?_, fun i j hi hj he => ?_, fun j hj => by rw [e _ (by omega)]; exact zt j hj, by rw [e _ (by omega)]; exact zt2, fun j hj => by rw [e _ (by omega)]; exact zv j hj, fun j hj => by rw [e _ (by omega)]; exact zw j hj, fun j hj => by rw [e _ (by omega)]; exact zk j hj⟩
  · rw [e3] at hj
    rw [e _ (by omega)]
    exact zs0 j hj
  · rw [e3] at hi hj
    rw [e _ (by omega), e _ (by omega)] at he
    exact zd i j hi hj he
def m_wfI (I : Nat → Nat → Int) (c : Nat) : Nat → Nat → Int := m_lay (m_failIt (m_pa 1554 0 I) c)
def m_wfv (I : Nat → Nat → Int) (c : Nat) : Nat → Int
  | 0 => m_wfI I c 110 7 | 1 => m_avM (m_wfI I c) | 2 => if I 111 (978 + c) = -1 then 0 else 1 | _ => m_blk (m_wfI I c) 2
theorem wfv_0 {I : Nat → Nat → Int} {c : Nat} : m_wfv I c 0 = m_wfI I c 110 7 := by unfold m_wfv; rfl
theorem wfv_1 {I : Nat → Nat → Int} {c : Nat} : m_wfv I c 1 = m_avM (m_wfI I c) := by unfold m_wfv; rfl
theorem wfv_2 {I : Nat → Nat → Int} {c : Nat} : m_wfv I c 2 = if I 111 (978 + c) = -1 then 0 else 1 := by unfold m_wfv; rfl
theorem wfv_3 {I : Nat → Nat → Int} {c : Nat} : m_wfv I c 3 = m_blk (m_wfI I c) 2 := by unfold m_wfv; rfl
def m_wf (I : Nat → Nat → Int) (c w : Nat) : Int × (Nat → Nat → Int) := if m_can I c = 0 then (-1, I) else (m_wfv I c w, m_bb 1554 0 (m_wfI I c))
def m_wm (I : Nat → Nat → Int) : Int × (Nat → Nat → Int) := ((m_tidyUp (m_pa 1554 0 I) 480).1, m_bb 1554 0 (m_tidyUp (m_pa 1554 0 I) 480).2)
theorem pa_ZV {I : Nat → Nat → Int} (h : ZV I) : ZV (m_pa 1554 0 I) := ZV_ne h (pa_ne _ _ _ _ (by decide))
theorem pa_HB {I : Nat → Nat → Int} (h : HB I) : HB (m_pa 1554 0 I) := HB_ne h (pa_ne _ _ _ _ (by decide)) (pa_ne _ _ _ _ (by decide))
def m_wcL (I : Nat → Nat → Int) : Nat → Nat → Int → Int
  | 0, _, b => b
  | f + 1, c, b => if ¬ m_isAv I c = 0 ∧ (b = -1 ∨ I 121 b.toNat < I 121 c) then m_wcL I f (c + 1) c else m_wcL I f (c + 1) b
def m_wc (I : Nat → Nat → Int) : Int := m_wcL (m_lay I) 576 0 (-1)
def m_bwL (I : Nat → Nat → Int) (v : Int) : Nat → Nat → Int
  | 0, _ => -1
  | f + 1, b => if I 111 (18 + b) = v then (b : Int) else m_bwL I v f (b + 1)
set_option maxHeartbeats 2000000 in
set_option maxRecDepth 100000 in
theorem s_X5_wouldFail {l : Launch} {E : QE} {T : Nat → Nat × Nat} {I : Nat → Nat → Int} {J : Nat → Nat → Int64} {R : Nat → Nat → Option Nat} {n z : Nat} (hk : MdB T R n) (hz9 : ZV I) (hb9 : HB I) (c : Nat) (hc : c < 576) (w : Nat) (hw : w < 4) : SpV l E Y_X5_wouldFail [.ref (E.1 + 110), .int (iz (c : Int)), .int (iz (w : Int))] (T, I, J, R, n, z) (.int (iz (m_wf I c w).1)) (T, (m_wf I c w).2, J, R, n, z) := by
  have hk0 := hk
  obtain ⟨t0, t1, t2, t3, t4, t5, t6, t7, t8, t9, t10, t11, t12, t13, r1, r2, r4, r5, r8, r9, r10, r11, r12, r13, r14, r15, r16, hn⟩ := hk
  obtain ⟨z3, zs, zs0, zd, zt, zt2, zv, zw, zk⟩ := id hz9
  have c01 := m_can01 (I := I) (x := c)
  have hz1 := pa_ZV hz9
  have hb1 := pa_HB hb9
  have ep : m_pa 1554 0 I 111 = I 111 := pa_ne _ _ _ _ (by decide)
  have ztk := zk c hc
  refine Sp.of [some (.ref (E.1 + 110)), some (.int (iz (c : Int))), some (.int (iz (w : Int))), none, none] (by decide +kernel) (Nat.le_of_ble_eq_true rfl) (fun _ h => h) ?_
  refine g_aload0 (Y := Y_X5_wouldFail) (pc' := 1) dX5_wouldFail_0 rfl ?_
  refine g_iload1 (Y := Y_X5_wouldFail) (pc' := 2) dX5_wouldFail_1 rfl ?_
  refine g_callVv (Y := Y_X5_wouldFail) (c := 5) (s_X5_canFail hk0 hz9 (c : Int) ⟨by omega, by omega⟩) (pc' := 5) dX5_wouldFail_2 rfl cv_X5_146 rfl (by first | exact t0 | exact t1 | exact r1 | exact t2 | exact t3 | exact t4 | exact t5 | exact t6 | exact t7 | exact t8 | exact t9 | exact t10 | exact t11 | exact t12 | exact t13 | exact r2 | exact r4 | exact r5 | exact r8 | exact r9 | exact r10 | exact r11 | exact r12 | exact r13 | exact r14 | exact r15 | exact r16) (by show _ < n; omega) ⟨by decide, _, rfl, rfl⟩ rfl rfl rfl rfl ?_
  refine g_if_ne (Y := Y_X5_wouldFail) (t := 10) (pc' := 8) dX5_wouldFail_5 (by decide) rfl ⟨by omega, by omega⟩ (fun h5 => ?_) (fun h5 => ?_)
  · have hq := m_can_of h5
    have hz2 : ZV (m_failIt (m_pa 1554 0 I) c) := failIt_ZV hz1 hc (by rw [ep]; exact hq.1) (by rw [spotAt_ne ep]; exact hq.2)
    have hb2 : HB (m_failIt (m_pa 1554 0 I) c) := HB_ne hb1 (failIt_ne (by decide)) (failIt_ne (by decide))
    have hz3 : ZV (m_wfI I c) := ZV_lay hz2
    have hr3 : HR (m_wfI I c) := lay_HR hz2 hb2
    have e : m_wf I c w = (m_wfv I c w, m_bb 1554 0 (m_wfI I c)) := if_neg h5
    have e1 : (m_wf I c w).1 = m_wfv I c w := by rw [e]
    have e2 : (m_wf I c w).2 = m_bb 1554 0 (m_wfI I c) := by rw [e]
    rw [e1, e2]
    clear e e1 e2
    refine g_aload0 (Y := Y_X5_wouldFail) (pc' := 11) dX5_wouldFail_10 rfl ?_
    refine g_callVn (Y := Y_X5_wouldFail) (c := 5) (s_X5_putAside hk0) (pc' := 14) dX5_wouldFail_11 rfl cv_X5_229 rfl (by first | exact t0 | exact t1 | exact r1 | exact t2 | exact t3 | exact t4 | exact t5 | exact t6 | exact t7 | exact t8 | exact t9 | exact t10 | exact t11 | exact t12 | exact t13 | exact r2 | exact r4 | exact r5 | exact r8 | exact r9 | exact r10 | exact r11 | exact r12 | exact r13 | exact r14 | exact r15 | exact r16) (by show _ < n; omega) ⟨by decide, _, rfl, rfl⟩ rfl rfl rfl rfl ?_
    refine g_aload0 (Y := Y_X5_wouldFail) (pc' := 15) dX5_wouldFail_14 rfl ?_
    refine g_iload1 (Y := Y_X5_wouldFail) (pc' := 16) dX5_wouldFail_15 rfl ?_
    refine g_callVv (Y := Y_X5_wouldFail) (c := 5) (s_X5_taken (I := m_pa 1554 0 I) hk0 c hc) (pc' := 19) dX5_wouldFail_16 rfl cv_X5_108 rfl (by first | exact t0 | exact t1 | exact r1 | exact t2 | exact t3 | exact t4 | exact t5 | exact t6 | exact t7 | exact t8 | exact t9 | exact t10 | exact t11 | exact t12 | exact t13 | exact r2 | exact r4 | exact r5 | exact r8 | exact r9 | exact r10 | exact r11 | exact r12 | exact r13 | exact r14 | exact r15 | exact r16) (by show _ < n; omega) ⟨by decide, _, rfl, rfl⟩ rfl rfl rfl rfl ?_
    refine g_iconst (Y := Y_X5_wouldFail) (pc' := 20) dX5_wouldFail_19 rfl ?_
    rw [ep]
    refine g_icmp_ne (Y := Y_X5_wouldFail) (t := 27) (pc' := 23) dX5_wouldFail_20 (by decide) rfl ⟨by omega, by omega⟩ ⟨by omega, by omega⟩ (fun h20 => ?_) (fun h20 => ?_)
    · have hl := fun _ : Unit => (if_neg h20 : (if I 111 (978 + c) = -1 then (0 : Int) else 1) = 1)
      refine g_iconst (Y := Y_X5_wouldFail) (pc' := 28) dX5_wouldFail_27 rfl ?_
      refine g_istore3 (Y := Y_X5_wouldFail) (pc' := 29) dX5_wouldFail_28 rfl (Nat.le_of_ble_eq_true rfl) rfl ?_
      refine g_aload0 (Y := Y_X5_wouldFail) (pc' := 30) dX5_wouldFail_29 rfl ?_
      refine g_iload1 (Y := Y_X5_wouldFail) (pc' := 31) dX5_wouldFail_30 rfl ?_
      refine g_callVn (Y := Y_X5_wouldFail) (c := 5) (s_X5_failIt (I := m_pa 1554 0 I) hk0 hz1 c hc (by rw [ep]; exact hq.1) (by rw [spotAt_ne ep]; exact hq.2)) (pc' := 34) dX5_wouldFail_31 rfl cv_X5_149 rfl (by first | exact t0 | exact t1 | exact r1 | exact t2 | exact t3 | exact t4 | exact t5 | exact t6 | exact t7 | exact t8 | exact t9 | exact t10 | exact t11 | exact t12 | exact t13 | exact r2 | exact r4 | exact r5 | exact r8 | exact r9 | exact r10 | exact r11 | exact r12 | exact r13 | exact r14 | exact r15 | exact r16) (by show _ < n; omega) ⟨by decide, _, rfl, rfl⟩ rfl rfl rfl rfl ?_
      refine g_aload0 (Y := Y_X5_wouldFail) (pc' := 35) dX5_wouldFail_34 rfl ?_
      refine g_callVn (Y := Y_X5_wouldFail) (c := 5) ((show SpN l E Y_X5_lay [.ref (E.1 + 110)] (T, m_failIt (m_pa 1554 0 I) c, J, R, n, z) (T, m_wfI I c, J, R, n, z) from s_X5_lay hk0 hz2)) (pc' := 38) dX5_wouldFail_35 rfl cv_X5_130 rfl (by first | exact t0 | exact t1 | exact r1 | exact t2 | exact t3 | exact t4 | exact t5 | exact t6 | exact t7 | exact t8 | exact t9 | exact t10 | exact t11 | exact t12 | exact t13 | exact r2 | exact r4 | exact r5 | exact r8 | exact r9 | exact r10 | exact r11 | exact r12 | exact r13 | exact r14 | exact r15 | exact r16) (by show _ < n; omega) ⟨by decide, _, rfl, rfl⟩ rfl rfl rfl rfl ?_
      refine g_iload2 (Y := Y_X5_wouldFail) (pc' := 39) dX5_wouldFail_38 rfl ?_
      refine g_if_ne (Y := Y_X5_wouldFail) (t := 49) (pc' := 42) dX5_wouldFail_39 (by decide) rfl ⟨by omega, by omega⟩ (fun h39 => ?_) (fun h39 => ?_)
      · refine g_iload2 (Y := Y_X5_wouldFail) (pc' := 50) dX5_wouldFail_49 rfl ?_
        refine g_iconst (Y := Y_X5_wouldFail) (pc' := 51) dX5_wouldFail_50 rfl ?_
        refine g_icmp_ne (Y := Y_X5_wouldFail) (t := 61) (pc' := 54) dX5_wouldFail_51 (by decide) rfl ⟨by omega, by omega⟩ ⟨by omega, by omega⟩ (fun h51 => ?_) (fun h51 => ?_)
        · refine g_iload2 (Y := Y_X5_wouldFail) (pc' := 62) dX5_wouldFail_61 rfl ?_
          refine g_iconst (Y := Y_X5_wouldFail) (pc' := 63) dX5_wouldFail_62 rfl ?_
          refine g_icmp_ne (Y := Y_X5_wouldFail) (t := 70) (pc' := 66) dX5_wouldFail_63 (by decide) rfl ⟨by omega, by omega⟩ ⟨by omega, by omega⟩ (fun h63 => ?_) (fun h63 => ?_)
          · obtain rfl : w = 3 := by omega
            rw [wfv_3]
            refine g_aload0 (Y := Y_X5_wouldFail) (pc' := 71) dX5_wouldFail_70 rfl ?_
            refine g_iconst (Y := Y_X5_wouldFail) (pc' := 72) dX5_wouldFail_71 rfl ?_
            refine g_callVv (Y := Y_X5_wouldFail) (c := 5) (s_X5_blocks (I := m_wfI I c) hk0 hz3 hr3 2 (by decide)) (pc' := 75) dX5_wouldFail_72 rfl cv_X5_220 rfl (by first | exact t0 | exact t1 | exact r1 | exact t2 | exact t3 | exact t4 | exact t5 | exact t6 | exact t7 | exact t8 | exact t9 | exact t10 | exact t11 | exact t12 | exact t13 | exact r2 | exact r4 | exact r5 | exact r8 | exact r9 | exact r10 | exact r11 | exact r12 | exact r13 | exact r14 | exact r15 | exact r16) (by show _ < n; omega) ⟨by decide, _, rfl, rfl⟩ rfl rfl rfl rfl ?_
            refine g_istore4 (Y := Y_X5_wouldFail) (pc' := 77) dX5_wouldFail_75 rfl (Nat.le_of_ble_eq_true rfl) rfl ?_
            refine g_aload0 (Y := Y_X5_wouldFail) (pc' := 78) dX5_wouldFail_77 rfl ?_
            refine g_callVn (Y := Y_X5_wouldFail) (c := 5) (s_X5_bringBack (I := m_wfI I c) hk0) (pc' := 81) dX5_wouldFail_78 rfl cv_X5_232 rfl (by first | exact t0 | exact t1 | exact r1 | exact t2 | exact t3 | exact t4 | exact t5 | exact t6 | exact t7 | exact t8 | exact t9 | exact t10 | exact t11 | exact t12 | exact t13 | exact r2 | exact r4 | exact r5 | exact r8 | exact r9 | exact r10 | exact r11 | exact r12 | exact r13 | exact r14 | exact r15 | exact r16) (by show _ < n; omega) ⟨by decide, _, rfl, rfl⟩ rfl rfl rfl rfl ?_
            refine g_iload4 (Y := Y_X5_wouldFail) (pc' := 83) dX5_wouldFail_81 rfl ?_
            exact g_iret (Y := Y_X5_wouldFail) dX5_wouldFail_83 rfl (Nat.zero_le _) (Nat.zero_le _) (⟨rfl, rfl⟩)
          · obtain rfl : w = 2 := by omega
            rw [wfv_2, hl ()]
            refine g_iload3 (Y := Y_X5_wouldFail) (pc' := 67) dX5_wouldFail_66 rfl ?_
            refine g_goto (Y := Y_X5_wouldFail) (t := 75) dX5_wouldFail_67 (by decide) ?_
            refine g_istore4 (Y := Y_X5_wouldFail) (pc' := 77) dX5_wouldFail_75 rfl (Nat.le_of_ble_eq_true rfl) rfl ?_
            refine g_aload0 (Y := Y_X5_wouldFail) (pc' := 78) dX5_wouldFail_77 rfl ?_
            refine g_callVn (Y := Y_X5_wouldFail) (c := 5) (s_X5_bringBack (I := m_wfI I c) hk0) (pc' := 81) dX5_wouldFail_78 rfl cv_X5_232 rfl (by first | exact t0 | exact t1 | exact r1 | exact t2 | exact t3 | exact t4 | exact t5 | exact t6 | exact t7 | exact t8 | exact t9 | exact t10 | exact t11 | exact t12 | exact t13 | exact r2 | exact r4 | exact r5 | exact r8 | exact r9 | exact r10 | exact r11 | exact r12 | exact r13 | exact r14 | exact r15 | exact r16) (by show _ < n; omega) ⟨by decide, _, rfl, rfl⟩ rfl rfl rfl rfl ?_
            refine g_iload4 (Y := Y_X5_wouldFail) (pc' := 83) dX5_wouldFail_81 rfl ?_
            exact g_iret (Y := Y_X5_wouldFail) dX5_wouldFail_83 rfl (Nat.zero_le _) (Nat.zero_le _) (⟨rfl, rfl⟩)
        · obtain rfl : w = 1 := by omega
          rw [wfv_1]
          refine g_aload0 (Y := Y_X5_wouldFail) (pc' := 55) dX5_wouldFail_54 rfl ?_
          refine g_callVv (Y := Y_X5_wouldFail) (c := 5) (s_X5_avoidedMany (I := m_wfI I c) hk0 hz3 hr3) (pc' := 58) dX5_wouldFail_55 rfl cv_X5_217 rfl (by first | exact t0 | exact t1 | exact r1 | exact t2 | exact t3 | exact t4 | exact t5 | exact t6 | exact t7 | exact t8 | exact t9 | exact t10 | exact t11 | exact t12 | exact t13 | exact r2 | exact r4 | exact r5 | exact r8 | exact r9 | exact r10 | exact r11 | exact r12 | exact r13 | exact r14 | exact r15 | exact r16) (by show _ < n; omega) ⟨by decide, _, rfl, rfl⟩ rfl rfl rfl rfl ?_
          refine g_goto (Y := Y_X5_wouldFail) (t := 75) dX5_wouldFail_58 (by decide) ?_
          refine g_istore4 (Y := Y_X5_wouldFail) (pc' := 77) dX5_wouldFail_75 rfl (Nat.le_of_ble_eq_true rfl) rfl ?_
          refine g_aload0 (Y := Y_X5_wouldFail) (pc' := 78) dX5_wouldFail_77 rfl ?_
          refine g_callVn (Y := Y_X5_wouldFail) (c := 5) (s_X5_bringBack (I := m_wfI I c) hk0) (pc' := 81) dX5_wouldFail_78 rfl cv_X5_232 rfl (by first | exact t0 | exact t1 | exact r1 | exact t2 | exact t3 | exact t4 | exact t5 | exact t6 | exact t7 | exact t8 | exact t9 | exact t10 | exact t11 | exact t12 | exact t13 | exact r2 | exact r4 | exact r5 | exact r8 | exact r9 | exact r10 | exact r11 | exact r12 | exact r13 | exact r14 | exact r15 | exact r16) (by show _ < n; omega) ⟨by decide, _, rfl, rfl⟩ rfl rfl rfl rfl ?_
          refine g_iload4 (Y := Y_X5_wouldFail) (pc' := 83) dX5_wouldFail_81 rfl ?_
          exact g_iret (Y := Y_X5_wouldFail) dX5_wouldFail_83 rfl (Nat.zero_le _) (Nat.zero_le _) (⟨rfl, rfl⟩)
      · obtain rfl : w = 0 := by omega
        rw [wfv_0]
        refine g_aload0 (Y := Y_X5_wouldFail) (pc' := 43) dX5_wouldFail_42 rfl ?_
        refine g_getI (Y := Y_X5_wouldFail) (pc' := 46) dX5_wouldFail_43 rfl fl_X5_72 rfl (by first | exact t0 | exact t1 | exact r1 | exact t2 | exact t3 | exact t4 | exact t5 | exact t6 | exact t7 | exact t8 | exact t9 | exact t10 | exact t11 | exact t12 | exact t13 | exact r2 | exact r4 | exact r5 | exact r8 | exact r9 | exact r10 | exact r11 | exact r12 | exact r13 | exact r14 | exact r15 | exact r16) (by omega) ?_
        refine g_goto (Y := Y_X5_wouldFail) (t := 75) dX5_wouldFail_46 (by decide) ?_
        refine g_istore4 (Y := Y_X5_wouldFail) (pc' := 77) dX5_wouldFail_75 rfl (Nat.le_of_ble_eq_true rfl) rfl ?_
        refine g_aload0 (Y := Y_X5_wouldFail) (pc' := 78) dX5_wouldFail_77 rfl ?_
        refine g_callVn (Y := Y_X5_wouldFail) (c := 5) (s_X5_bringBack (I := m_wfI I c) hk0) (pc' := 81) dX5_wouldFail_78 rfl cv_X5_232 rfl (by first | exact t0 | exact t1 | exact r1 | exact t2 | exact t3 | exact t4 | exact t5 | exact t6 | exact t7 | exact t8 | exact t9 | exact t10 | exact t11 | exact t12 | exact t13 | exact r2 | exact r4 | exact r5 | exact r8 | exact r9 | exact r10 | exact r11 | exact r12 | exact r13 | exact r14 | exact r15 | exact r16) (by show _ < n; omega) ⟨by decide, _, rfl, rfl⟩ rfl rfl rfl rfl ?_
        refine g_iload4 (Y := Y_X5_wouldFail) (pc' := 83) dX5_wouldFail_81 rfl ?_
        exact g_iret (Y := Y_X5_wouldFail) dX5_wouldFail_83 rfl (Nat.zero_le _) (Nat.zero_le _) (⟨rfl, rfl⟩)
    · have hl := fun _ : Unit => (if_pos h20 : (if I 111 (978 + c) = -1 then (0 : Int) else 1) = 0)
      refine g_iconst (Y := Y_X5_wouldFail) (pc' := 24) dX5_wouldFail_23 rfl ?_
      refine g_goto (Y := Y_X5_wouldFail) (t := 28) dX5_wouldFail_24 (by decide) ?_
      refine g_istore3 (Y := Y_X5_wouldFail) (pc' := 29) dX5_wouldFail_28 rfl (Nat.le_of_ble_eq_true rfl) rfl ?_
      refine g_aload0 (Y := Y_X5_wouldFail) (pc' := 30) dX5_wouldFail_29 rfl ?_
      refine g_iload1 (Y := Y_X5_wouldFail) (pc' := 31) dX5_wouldFail_30 rfl ?_
      refine g_callVn (Y := Y_X5_wouldFail) (c := 5) (s_X5_failIt (I := m_pa 1554 0 I) hk0 hz1 c hc (by rw [ep]; exact hq.1) (by rw [spotAt_ne ep]; exact hq.2)) (pc' := 34) dX5_wouldFail_31 rfl cv_X5_149 rfl (by first | exact t0 | exact t1 | exact r1 | exact t2 | exact t3 | exact t4 | exact t5 | exact t6 | exact t7 | exact t8 | exact t9 | exact t10 | exact t11 | exact t12 | exact t13 | exact r2 | exact r4 | exact r5 | exact r8 | exact r9 | exact r10 | exact r11 | exact r12 | exact r13 | exact r14 | exact r15 | exact r16) (by show _ < n; omega) ⟨by decide, _, rfl, rfl⟩ rfl rfl rfl rfl ?_
      refine g_aload0 (Y := Y_X5_wouldFail) (pc' := 35) dX5_wouldFail_34 rfl ?_
      refine g_callVn (Y := Y_X5_wouldFail) (c := 5) ((show SpN l E Y_X5_lay [.ref (E.1 + 110)] (T, m_failIt (m_pa 1554 0 I) c, J, R, n, z) (T, m_wfI I c, J, R, n, z) from s_X5_lay hk0 hz2)) (pc' := 38) dX5_wouldFail_35 rfl cv_X5_130 rfl (by first | exact t0 | exact t1 | exact r1 | exact t2 | exact t3 | exact t4 | exact t5 | exact t6 | exact t7 | exact t8 | exact t9 | exact t10 | exact t11 | exact t12 | exact t13 | exact r2 | exact r4 | exact r5 | exact r8 | exact r9 | exact r10 | exact r11 | exact r12 | exact r13 | exact r14 | exact r15 | exact r16) (by show _ < n; omega) ⟨by decide, _, rfl, rfl⟩ rfl rfl rfl rfl ?_
      refine g_iload2 (Y := Y_X5_wouldFail) (pc' := 39) dX5_wouldFail_38 rfl ?_
      refine g_if_ne (Y := Y_X5_wouldFail) (t := 49) (pc' := 42) dX5_wouldFail_39 (by decide) rfl ⟨by omega, by omega⟩ (fun h39 => ?_) (fun h39 => ?_)
      · refine g_iload2 (Y := Y_X5_wouldFail) (pc' := 50) dX5_wouldFail_49 rfl ?_
        refine g_iconst (Y := Y_X5_wouldFail) (pc' := 51) dX5_wouldFail_50 rfl ?_
        refine g_icmp_ne (Y := Y_X5_wouldFail) (t := 61) (pc' := 54) dX5_wouldFail_51 (by decide) rfl ⟨by omega, by omega⟩ ⟨by omega, by omega⟩ (fun h51 => ?_) (fun h51 => ?_)
        · refine g_iload2 (Y := Y_X5_wouldFail) (pc' := 62) dX5_wouldFail_61 rfl ?_
          refine g_iconst (Y := Y_X5_wouldFail) (pc' := 63) dX5_wouldFail_62 rfl ?_
          refine g_icmp_ne (Y := Y_X5_wouldFail) (t := 70) (pc' := 66) dX5_wouldFail_63 (by decide) rfl ⟨by omega, by omega⟩ ⟨by omega, by omega⟩ (fun h63 => ?_) (fun h63 => ?_)
          · obtain rfl : w = 3 := by omega
            rw [wfv_3]
            refine g_aload0 (Y := Y_X5_wouldFail) (pc' := 71) dX5_wouldFail_70 rfl ?_
            refine g_iconst (Y := Y_X5_wouldFail) (pc' := 72) dX5_wouldFail_71 rfl ?_
            refine g_callVv (Y := Y_X5_wouldFail) (c := 5) (s_X5_blocks (I := m_wfI I c) hk0 hz3 hr3 2 (by decide)) (pc' := 75) dX5_wouldFail_72 rfl cv_X5_220 rfl (by first | exact t0 | exact t1 | exact r1 | exact t2 | exact t3 | exact t4 | exact t5 | exact t6 | exact t7 | exact t8 | exact t9 | exact t10 | exact t11 | exact t12 | exact t13 | exact r2 | exact r4 | exact r5 | exact r8 | exact r9 | exact r10 | exact r11 | exact r12 | exact r13 | exact r14 | exact r15 | exact r16) (by show _ < n; omega) ⟨by decide, _, rfl, rfl⟩ rfl rfl rfl rfl ?_
            refine g_istore4 (Y := Y_X5_wouldFail) (pc' := 77) dX5_wouldFail_75 rfl (Nat.le_of_ble_eq_true rfl) rfl ?_
            refine g_aload0 (Y := Y_X5_wouldFail) (pc' := 78) dX5_wouldFail_77 rfl ?_
            refine g_callVn (Y := Y_X5_wouldFail) (c := 5) (s_X5_bringBack (I := m_wfI I c) hk0) (pc' := 81) dX5_wouldFail_78 rfl cv_X5_232 rfl (by first | exact t0 | exact t1 | exact r1 | exact t2 | exact t3 | exact t4 | exact t5 | exact t6 | exact t7 | exact t8 | exact t9 | exact t10 | exact t11 | exact t12 | exact t13 | exact r2 | exact r4 | exact r5 | exact r8 | exact r9 | exact r10 | exact r11 | exact r12 | exact r13 | exact r14 | exact r15 | exact r16) (by show _ < n; omega) ⟨by decide, _, rfl, rfl⟩ rfl rfl rfl rfl ?_
            refine g_iload4 (Y := Y_X5_wouldFail) (pc' := 83) dX5_wouldFail_81 rfl ?_
            exact g_iret (Y := Y_X5_wouldFail) dX5_wouldFail_83 rfl (Nat.zero_le _) (Nat.zero_le _) (⟨rfl, rfl⟩)
          · obtain rfl : w = 2 := by omega
            rw [wfv_2, hl ()]
            refine g_iload3 (Y := Y_X5_wouldFail) (pc' := 67) dX5_wouldFail_66 rfl ?_
            refine g_goto (Y := Y_X5_wouldFail) (t := 75) dX5_wouldFail_67 (by decide) ?_
            refine g_istore4 (Y := Y_X5_wouldFail) (pc' := 77) dX5_wouldFail_75 rfl (Nat.le_of_ble_eq_true rfl) rfl ?_
            refine g_aload0 (Y := Y_X5_wouldFail) (pc' := 78) dX5_wouldFail_77 rfl ?_
            refine g_callVn (Y := Y_X5_wouldFail) (c := 5) (s_X5_bringBack (I := m_wfI I c) hk0) (pc' := 81) dX5_wouldFail_78 rfl cv_X5_232 rfl (by first | exact t0 | exact t1 | exact r1 | exact t2 | exact t3 | exact t4 | exact t5 | exact t6 | exact t7 | exact t8 | exact t9 | exact t10 | exact t11 | exact t12 | exact t13 | exact r2 | exact r4 | exact r5 | exact r8 | exact r9 | exact r10 | exact r11 | exact r12 | exact r13 | exact r14 | exact r15 | exact r16) (by show _ < n; omega) ⟨by decide, _, rfl, rfl⟩ rfl rfl rfl rfl ?_
            refine g_iload4 (Y := Y_X5_wouldFail) (pc' := 83) dX5_wouldFail_81 rfl ?_
            exact g_iret (Y := Y_X5_wouldFail) dX5_wouldFail_83 rfl (Nat.zero_le _) (Nat.zero_le _) (⟨rfl, rfl⟩)
        · obtain rfl : w = 1 := by omega
          rw [wfv_1]
          refine g_aload0 (Y := Y_X5_wouldFail) (pc' := 55) dX5_wouldFail_54 rfl ?_
          refine g_callVv (Y := Y_X5_wouldFail) (c := 5) (s_X5_avoidedMany (I := m_wfI I c) hk0 hz3 hr3) (pc' := 58) dX5_wouldFail_55 rfl cv_X5_217 rfl (by first | exact t0 | exact t1 | exact r1 | exact t2 | exact t3 | exact t4 | exact t5 | exact t6 | exact t7 | exact t8 | exact t9 | exact t10 | exact t11 | exact t12 | exact t13 | exact r2 | exact r4 | exact r5 | exact r8 | exact r9 | exact r10 | exact r11 | exact r12 | exact r13 | exact r14 | exact r15 | exact r16) (by show _ < n; omega) ⟨by decide, _, rfl, rfl⟩ rfl rfl rfl rfl ?_
          refine g_goto (Y := Y_X5_wouldFail) (t := 75) dX5_wouldFail_58 (by decide) ?_
          refine g_istore4 (Y := Y_X5_wouldFail) (pc' := 77) dX5_wouldFail_75 rfl (Nat.le_of_ble_eq_true rfl) rfl ?_
          refine g_aload0 (Y := Y_X5_wouldFail) (pc' := 78) dX5_wouldFail_77 rfl ?_
          refine g_callVn (Y := Y_X5_wouldFail) (c := 5) (s_X5_bringBack (I := m_wfI I c) hk0) (pc' := 81) dX5_wouldFail_78 rfl cv_X5_232 rfl (by first | exact t0 | exact t1 | exact r1 | exact t2 | exact t3 | exact t4 | exact t5 | exact t6 | exact t7 | exact t8 | exact t9 | exact t10 | exact t11 | exact t12 | exact t13 | exact r2 | exact r4 | exact r5 | exact r8 | exact r9 | exact r10 | exact r11 | exact r12 | exact r13 | exact r14 | exact r15 | exact r16) (by show _ < n; omega) ⟨by decide, _, rfl, rfl⟩ rfl rfl rfl rfl ?_
          refine g_iload4 (Y := Y_X5_wouldFail) (pc' := 83) dX5_wouldFail_81 rfl ?_
          exact g_iret (Y := Y_X5_wouldFail) dX5_wouldFail_83 rfl (Nat.zero_le _) (Nat.zero_le _) (⟨rfl, rfl⟩)
      · obtain rfl : w = 0 := by omega
        rw [wfv_0]
        refine g_aload0 (Y := Y_X5_wouldFail) (pc' := 43) dX5_wouldFail_42 rfl ?_
        refine g_getI (Y := Y_X5_wouldFail) (pc' := 46) dX5_wouldFail_43 rfl fl_X5_72 rfl (by first | exact t0 | exact t1 | exact r1 | exact t2 | exact t3 | exact t4 | exact t5 | exact t6 | exact t7 | exact t8 | exact t9 | exact t10 | exact t11 | exact t12 | exact t13 | exact r2 | exact r4 | exact r5 | exact r8 | exact r9 | exact r10 | exact r11 | exact r12 | exact r13 | exact r14 | exact r15 | exact r16) (by omega) ?_
        refine g_goto (Y := Y_X5_wouldFail) (t := 75) dX5_wouldFail_46 (by decide) ?_
        refine g_istore4 (Y := Y_X5_wouldFail) (pc' := 77) dX5_wouldFail_75 rfl (Nat.le_of_ble_eq_true rfl) rfl ?_
        refine g_aload0 (Y := Y_X5_wouldFail) (pc' := 78) dX5_wouldFail_77 rfl ?_
        refine g_callVn (Y := Y_X5_wouldFail) (c := 5) (s_X5_bringBack (I := m_wfI I c) hk0) (pc' := 81) dX5_wouldFail_78 rfl cv_X5_232 rfl (by first | exact t0 | exact t1 | exact r1 | exact t2 | exact t3 | exact t4 | exact t5 | exact t6 | exact t7 | exact t8 | exact t9 | exact t10 | exact t11 | exact t12 | exact t13 | exact r2 | exact r4 | exact r5 | exact r8 | exact r9 | exact r10 | exact r11 | exact r12 | exact r13 | exact r14 | exact r15 | exact r16) (by show _ < n; omega) ⟨by decide, _, rfl, rfl⟩ rfl rfl rfl rfl ?_
        refine g_iload4 (Y := Y_X5_wouldFail) (pc' := 83) dX5_wouldFail_81 rfl ?_
        exact g_iret (Y := Y_X5_wouldFail) dX5_wouldFail_83 rfl (Nat.zero_le _) (Nat.zero_le _) (⟨rfl, rfl⟩)
  · have e : m_wf I c w = (-1, I) := if_pos h5
    have e1 : (m_wf I c w).1 = -1 := by rw [e]
    have e2 : (m_wf I c w).2 = I := by rw [e]
    rw [e1, e2]
    clear e e1 e2
    refine g_iconst (Y := Y_X5_wouldFail) (pc' := 9) dX5_wouldFail_8 rfl ?_
    exact g_iret (Y := Y_X5_wouldFail) dX5_wouldFail_9 rfl (Nat.zero_le _) (Nat.zero_le _) (⟨rfl, rfl⟩)
