/-! the reference: what it counts, tells of lines -/
def m_avM (I : Nat → Nat → Int) : Int := cntL (fun c => decide (¬ m_isAv I c = 0)) 576 0 0
def m_fsp (I : Nat → Nat → Int) : Int := cntL (fun c => decide (¬ m_isGd I c = 0) && decide (I 111 (978 + c) = -1)) 96 480 0
def m_blk (I : Nat → Nat → Int) (w : Nat) : Int := cntL (fun b => decide (¬ I 111 (498 + b) = -1) && (decide (w = 0) || decide (w = 1 ∧ 480 ≤ I 111 (498 + b)) || decide (w = 2 ∧ m_isGd I (I 111 (498 + b)).toNat = 0))) 480 0 0
theorem cntL_rg2 (f : Nat → Bool) : ∀ (m i : Nat) (a : Int), a ≤ cntL f m i a ∧ cntL f m i a ≤ a + m
  | 0, _, a => ⟨Int.le_refl _, by show a ≤ a + ((0 : Nat) : Int); omega⟩
  | m + 1, i, a => by
    unfold cntL
    split
    · have q := cntL_rg2 f m (i + 1) (a + 1); omega
    · have q := cntL_rg2 f m (i + 1) a; omega
def m_cok (I : Nat → Nat → Int) (q : Nat) (e : Int) (s : Int) : Bool := decide (¬ m_cellOf I q s = -1) && (decide (e = 0) || (decide (¬ m_isAv I (m_cellOf I q s).toNat = 0) && decide (¬ I 111 (978 + (m_cellOf I q s).toNat) = -1)))
def m_clL (I : Nat → Nat → Int) (q : Nat) (e : Int) : Nat → Int → Int → Int
  | 0, _, a => a
  | f + 1, s, a => if m_cok I q e s = true then m_clL I q e f (s + 1) (a + 1) else m_clL I q e f (s + 1) a
def m_cls (I : Nat → Nat → Int) (q : Nat) (e : Int) : Int := m_clL I q e (I 119 q - I 118 q + 1).toNat (I 118 q) 0
def m_tl (I : Nat → Nat → Int) (q : Nat) : Nat → Int
  | 0 => I 115 q | 1 => pcn (I 115 q) | 2 => m_cls I q 0 | 3 => m_cls I q 1 | 4 => I 116 q | _ => I 117 q + 24
def m_ctd (I : Nat → Nat → Int) : Nat → Int
  | 0 => I 111 3 | 1 => I 110 7 | 2 => m_avM I | 3 => m_blk I 0 | 4 => m_blk I 1 | 5 => m_blk I 2 | 6 => m_fsp I | 7 => I 111 4 | 8 => I 111 5 | _ => I 110 3
def m_ctI (I : Nat → Nat → Int) (w : Int) : Nat → Nat → Int := if 1 ≤ w ∧ w ≤ 6 then m_lay I else I
def m_tc (I : Nat → Nat → Int) (c : Nat) : Nat → Int
  | 0 => if m_lay I 122 c = 0 then (if 0 < m_lay I 121 c then 1 else 0) else 2 | 1 => I 111 (978 + c) | 2 => m_lay I 121 c | _ => m_spotAt I c
def m_tcI (I : Nat → Nat → Int) : Nat → Nat → Nat → Int
  | 0 => m_lay I | 1 => I | 2 => m_lay I | _ => I
def m_tb (I : Nat → Nat → Int) (b : Nat) : Nat → Int
  | 0 => I 111 (18 + b) | 1 => I 111 (498 + b) | 2 => if 480 ≤ I 111 (498 + b) then 1 else 0 | _ => m_goal (m_lay I) b
def m_tbI (I : Nat → Nat → Int) : Nat → Nat → Nat → Int
  | 0 => I | 1 => I | 2 => I | _ => m_lay I
theorem s_X5_isGoodI {l : Launch} {E : QE} {T : Nat → Nat × Nat} {I : Nat → Nat → Int} {J : Nat → Nat → Int64} {R : Nat → Nat → Option Nat} {n z : Nat} (hk : MdB T R n) (hh9 : HR I) (x : Int) (h0 : 0 ≤ x) (h5 : x < 576) : SpV l E Y_X5_isGood [.ref (E.1 + 110), .int (iz x)] (T, I, J, R, n, z) (.int (iz (m_isGd I x.toNat))) (T, I, J, R, n, z) := by
  have q := s_X5_isGood (l := l) (E := E) (I := I) (J := J) (z := z) hk hh9 x.toNat (by omega)
  rw [show ((x.toNat : Nat) : Int) = x by omega] at q
  exact q
theorem s_X5_isAvoidedI {l : Launch} {E : QE} {T : Nat → Nat × Nat} {I : Nat → Nat → Int} {J : Nat → Nat → Int64} {R : Nat → Nat → Option Nat} {n z : Nat} (hk : MdB T R n) (hh9 : HR I) (x : Int) (h0 : 0 ≤ x) (h5 : x < 576) : SpV l E Y_X5_isAvoided [.ref (E.1 + 110), .int (iz x)] (T, I, J, R, n, z) (.int (iz (m_isAv I x.toNat))) (T, I, J, R, n, z) := by
  have q := s_X5_isAvoided (l := l) (E := E) (I := I) (J := J) (z := z) hk hh9 x.toNat (by omega)
  rw [show ((x.toNat : Nat) : Int) = x by omega] at q
  exact q
theorem s_X5_takenI {l : Launch} {E : QE} {T : Nat → Nat × Nat} {I : Nat → Nat → Int} {J : Nat → Nat → Int64} {R : Nat → Nat → Option Nat} {n z : Nat} (hk : MdB T R n) (x : Int) (h0 : 0 ≤ x) (h5 : x < 576) : SpV l E Y_X5_taken [.ref (E.1 + 110), .int (iz x)] (T, I, J, R, n, z) (.int (iz (I 111 (978 + x.toNat)))) (T, I, J, R, n, z) := by
  have q := s_X5_taken (l := l) (E := E) (I := I) (J := J) (z := z) hk x.toNat (by omega)
  rw [show ((x.toNat : Nat) : Int) = x by omega] at q
  exact q
set_option maxHeartbeats 2000000 in
set_option maxRecDepth 100000 in
theorem s_X5_avoidedMany_lp {l : Launch} {E : QE} {T : Nat → Nat × Nat} {I : Nat → Nat → Int} {J : Nat → Nat → Int64} {R : Nat → Nat → Option Nat} {n z : Nat} (hk : MdB T R n) (hz9 : ZV I) (hh9 : HR I) : ∀ (m i : Nat) (a : Int) (x4 : Option Value), i + m = 576 → Go l E Y_X5_avoidedMany 0 0 4 [some (.ref (E.1 + 110)), some (.int (iz a)), some (.int (iz (i : Int)))] [] (T, I, J, R, n, z) (KV (.int (iz (cntL (fun c => decide (¬ m_isAv I c = 0)) m i a))) (T, I, J, R, n, z)) := by
  have hk0 := hk
  obtain ⟨t0, t1, t2, t3, t4, t5, t6, t7, t8, t9, t10, t11, t12, t13, r1, r2, r4, r5, r8, r9, r10, r11, r12, r13, r14, r15, r16, hn⟩ := hk
  obtain ⟨z3, zs, zs0, zd, zt, zt2, zv, zw, zk⟩ := id hz9
  intro m
  induction m with
  | zero =>
    intro i a x4 hm
    refine g_iload2 (Y := Y_X5_avoidedMany) (pc' := 5) dX5_avoidedMany_4 rfl ?_
    refine g_sipush (Y := Y_X5_avoidedMany) (pc' := 8) dX5_avoidedMany_5 rfl (by decide) ?_
    refine g_icmp_ge (Y := Y_X5_avoidedMany) (t := 33) (pc' := 11) dX5_avoidedMany_8 (by decide) rfl ⟨by omega, by omega⟩ ⟨by omega, by omega⟩ (fun h8 => ?_) (fun h8 => ?_)
    · refine g_iload1 (Y := Y_X5_avoidedMany) (pc' := 34) dX5_avoidedMany_33 rfl ?_
      exact g_iret (Y := Y_X5_avoidedMany) dX5_avoidedMany_34 rfl (Nat.zero_le _) (Nat.zero_le _) (⟨rfl, rfl⟩)
    · exfalso; omega
  | succ m ih =>
    intro i a x4 hm
    have av01 := m_isAv01 (I := I) (c := i)
    refine g_iload2 (Y := Y_X5_avoidedMany) (pc' := 5) dX5_avoidedMany_4 rfl ?_
    refine g_sipush (Y := Y_X5_avoidedMany) (pc' := 8) dX5_avoidedMany_5 rfl (by decide) ?_
    refine g_icmp_ge (Y := Y_X5_avoidedMany) (t := 33) (pc' := 11) dX5_avoidedMany_8 (by decide) rfl ⟨by omega, by omega⟩ ⟨by omega, by omega⟩ (fun h8 => ?_) (fun h8 => ?_)
    · exfalso; omega
    · refine g_iload1 (Y := Y_X5_avoidedMany) (pc' := 12) dX5_avoidedMany_11 rfl ?_
      refine g_aload0 (Y := Y_X5_avoidedMany) (pc' := 13) dX5_avoidedMany_12 rfl ?_
      refine g_iload2 (Y := Y_X5_avoidedMany) (pc' := 14) dX5_avoidedMany_13 rfl ?_
      refine g_callVv (Y := Y_X5_avoidedMany) (c := 5) (s_X5_isAvoided hk0 hh9 i (by omega)) (pc' := 17) dX5_avoidedMany_14 rfl cv_X5_207 rfl (by first | exact t0 | exact t1 | exact r1 | exact t2 | exact t3 | exact t4 | exact t5 | exact t6 | exact t7 | exact t8 | exact t9 | exact t10 | exact t11 | exact t12 | exact t13 | exact r2 | exact r4 | exact r5 | exact r8 | exact r9 | exact r10 | exact r11 | exact r12 | exact r13 | exact r14 | exact r15 | exact r16) (by show _ < n; omega) ⟨by decide, _, rfl, rfl⟩ rfl rfl rfl rfl ?_
      refine g_if_eq (Y := Y_X5_avoidedMany) (t := 24) (pc' := 20) dX5_avoidedMany_17 (by decide) rfl ⟨by omega, by omega⟩ (fun h17 => ?_) (fun h17 => ?_)
      · have e : cntL (fun c => decide (¬ m_isAv I c = 0)) (m + 1) i a = cntL (fun c => decide (¬ m_isAv I c = 0)) m (i + 1) a := if_neg (by simp [h17])
        rw [e]
        refine g_iconst (Y := Y_X5_avoidedMany) (pc' := 25) dX5_avoidedMany_24 rfl ?_
        refine g_iadd (Y := Y_X5_avoidedMany) (pc' := 26) dX5_avoidedMany_25 rfl ?_
        refine g_istore1 (Y := Y_X5_avoidedMany) (pc' := 27) dX5_avoidedMany_26 rfl (Nat.le_of_ble_eq_true rfl) rfl ?_
        refine g_iinc2 (Y := Y_X5_avoidedMany) (pc' := 30) dX5_avoidedMany_27 rfl (Nat.le_of_ble_eq_true rfl) rfl ?_
        refine g_goto (Y := Y_X5_avoidedMany) (t := 4) dX5_avoidedMany_30 (by decide) ?_
        first | exact ih (i + 1) _ none (by omega) | (rw [Int.add_zero]; exact ih (i + 1) _ none (by omega))
      · have e : cntL (fun c => decide (¬ m_isAv I c = 0)) (m + 1) i a = cntL (fun c => decide (¬ m_isAv I c = 0)) m (i + 1) (a + 1) := if_pos (by simp [h17])
        rw [e]
        refine g_iconst (Y := Y_X5_avoidedMany) (pc' := 21) dX5_avoidedMany_20 rfl ?_
        refine g_goto (Y := Y_X5_avoidedMany) (t := 25) dX5_avoidedMany_21 (by decide) ?_
        refine g_iadd (Y := Y_X5_avoidedMany) (pc' := 26) dX5_avoidedMany_25 rfl ?_
        refine g_istore1 (Y := Y_X5_avoidedMany) (pc' := 27) dX5_avoidedMany_26 rfl (Nat.le_of_ble_eq_true rfl) rfl ?_
        refine g_iinc2 (Y := Y_X5_avoidedMany) (pc' := 30) dX5_avoidedMany_27 rfl (Nat.le_of_ble_eq_true rfl) rfl ?_
        refine g_goto (Y := Y_X5_avoidedMany) (t := 4) dX5_avoidedMany_30 (by decide) ?_
        first | exact ih (i + 1) _ none (by omega) | (rw [Int.add_zero]; exact ih (i + 1) _ none (by omega))
set_option maxHeartbeats 2000000 in
set_option maxRecDepth 100000 in
theorem s_X5_avoidedMany {l : Launch} {E : QE} {T : Nat → Nat × Nat} {I : Nat → Nat → Int} {J : Nat → Nat → Int64} {R : Nat → Nat → Option Nat} {n z : Nat} (hk : MdB T R n) (hz9 : ZV I) (hh9 : HR I)  : SpV l E Y_X5_avoidedMany [.ref (E.1 + 110)] (T, I, J, R, n, z) (.int (iz (m_avM I))) (T, I, J, R, n, z) := by
  have hk0 := hk
  refine Sp.of [some (.ref (E.1 + 110)), none, none] (by decide +kernel) (Nat.le_of_ble_eq_true rfl) (fun _ h => h) ?_
  refine g_iconst (Y := Y_X5_avoidedMany) (pc' := 1) dX5_avoidedMany_0 rfl ?_
  refine g_istore1 (Y := Y_X5_avoidedMany) (pc' := 2) dX5_avoidedMany_1 rfl (Nat.le_of_ble_eq_true rfl) rfl ?_
  refine g_iconst (Y := Y_X5_avoidedMany) (pc' := 3) dX5_avoidedMany_2 rfl ?_
  refine g_istore2 (Y := Y_X5_avoidedMany) (pc' := 4) dX5_avoidedMany_3 rfl (Nat.le_of_ble_eq_true rfl) rfl ?_
  exact s_X5_avoidedMany_lp hk0 hz9 hh9 576 0 0 none rfl
set_option maxHeartbeats 2000000 in
set_option maxRecDepth 100000 in
theorem s_X5_freeSpares_lp {l : Launch} {E : QE} {T : Nat → Nat × Nat} {I : Nat → Nat → Int} {J : Nat → Nat → Int64} {R : Nat → Nat → Option Nat} {n z : Nat} (hk : MdB T R n) (hz9 : ZV I) (hh9 : HR I) : ∀ (m i : Nat) (a : Int) (x4 : Option Value), i + m = 576 → Go l E Y_X5_freeSpares 0 0 6 [some (.ref (E.1 + 110)), some (.int (iz a)), some (.int (iz (i : Int)))] [] (T, I, J, R, n, z) (KV (.int (iz (cntL (fun c => decide (¬ m_isGd I c = 0) && decide (I 111 (978 + c) = -1)) m i a))) (T, I, J, R, n, z)) := by
  have hk0 := hk
  obtain ⟨t0, t1, t2, t3, t4, t5, t6, t7, t8, t9, t10, t11, t12, t13, r1, r2, r4, r5, r8, r9, r10, r11, r12, r13, r14, r15, r16, hn⟩ := hk
  obtain ⟨z3, zs, zs0, zd, zt, zt2, zv, zw, zk⟩ := id hz9
  intro m
  induction m with
  | zero =>
    intro i a x4 hm
    refine g_iload2 (Y := Y_X5_freeSpares) (pc' := 7) dX5_freeSpares_6 rfl ?_
    refine g_sipush (Y := Y_X5_freeSpares) (pc' := 10) dX5_freeSpares_7 rfl (by decide) ?_
    refine g_icmp_ge (Y := Y_X5_freeSpares) (t := 44) (pc' := 13) dX5_freeSpares_10 (by decide) rfl ⟨by omega, by omega⟩ ⟨by omega, by omega⟩ (fun h10 => ?_) (fun h10 => ?_)
    · refine g_iload1 (Y := Y_X5_freeSpares) (pc' := 45) dX5_freeSpares_44 rfl ?_
      exact g_iret (Y := Y_X5_freeSpares) dX5_freeSpares_45 rfl (Nat.zero_le _) (Nat.zero_le _) (⟨rfl, rfl⟩)
    · exfalso; omega
  | succ m ih =>
    intro i a x4 hm
    have gd01 := m_isGd01 (I := I) (c := i)
    have zki := zk i (by omega)
    refine g_iload2 (Y := Y_X5_freeSpares) (pc' := 7) dX5_freeSpares_6 rfl ?_
    refine g_sipush (Y := Y_X5_freeSpares) (pc' := 10) dX5_freeSpares_7 rfl (by decide) ?_
    refine g_icmp_ge (Y := Y_X5_freeSpares) (t := 44) (pc' := 13) dX5_freeSpares_10 (by decide) rfl ⟨by omega, by omega⟩ ⟨by omega, by omega⟩ (fun h10 => ?_) (fun h10 => ?_)
    · exfalso; omega
    · refine g_iload1 (Y := Y_X5_freeSpares) (pc' := 14) dX5_freeSpares_13 rfl ?_
      refine g_aload0 (Y := Y_X5_freeSpares) (pc' := 15) dX5_freeSpares_14 rfl ?_
      refine g_iload2 (Y := Y_X5_freeSpares) (pc' := 16) dX5_freeSpares_15 rfl ?_
      refine g_callVv (Y := Y_X5_freeSpares) (c := 5) (s_X5_isGood hk0 hh9 i (by omega)) (pc' := 19) dX5_freeSpares_16 rfl cv_X5_104 rfl (by first | exact t0 | exact t1 | exact r1 | exact t2 | exact t3 | exact t4 | exact t5 | exact t6 | exact t7 | exact t8 | exact t9 | exact t10 | exact t11 | exact t12 | exact t13 | exact r2 | exact r4 | exact r5 | exact r8 | exact r9 | exact r10 | exact r11 | exact r12 | exact r13 | exact r14 | exact r15 | exact r16) (by show _ < n; omega) ⟨by decide, _, rfl, rfl⟩ rfl rfl rfl rfl ?_
      refine g_if_eq (Y := Y_X5_freeSpares) (t := 35) (pc' := 22) dX5_freeSpares_19 (by decide) rfl ⟨by omega, by omega⟩ (fun h19 => ?_) (fun h19 => ?_)
      · have e : cntL (fun c => decide (¬ m_isGd I c = 0) && decide (I 111 (978 + c) = -1)) (m + 1) i a = cntL (fun c => decide (¬ m_isGd I c = 0) && decide (I 111 (978 + c) = -1)) m (i + 1) a := if_neg (by simp [h19])
        rw [e]
        refine g_iconst (Y := Y_X5_freeSpares) (pc' := 36) dX5_freeSpares_35 rfl ?_
        refine g_iadd (Y := Y_X5_freeSpares) (pc' := 37) dX5_freeSpares_36 rfl ?_
        refine g_istore1 (Y := Y_X5_freeSpares) (pc' := 38) dX5_freeSpares_37 rfl (Nat.le_of_ble_eq_true rfl) rfl ?_
        refine g_iinc2 (Y := Y_X5_freeSpares) (pc' := 41) dX5_freeSpares_38 rfl (Nat.le_of_ble_eq_true rfl) rfl ?_
        refine g_goto (Y := Y_X5_freeSpares) (t := 6) dX5_freeSpares_41 (by decide) ?_
        first | exact ih (i + 1) _ none (by omega) | (rw [Int.add_zero]; exact ih (i + 1) _ none (by omega))
      · refine g_aload0 (Y := Y_X5_freeSpares) (pc' := 23) dX5_freeSpares_22 rfl ?_
        refine g_iload2 (Y := Y_X5_freeSpares) (pc' := 24) dX5_freeSpares_23 rfl ?_
        refine g_callVv (Y := Y_X5_freeSpares) (c := 5) (s_X5_taken hk0 i (by omega)) (pc' := 27) dX5_freeSpares_24 rfl cv_X5_108 rfl (by first | exact t0 | exact t1 | exact r1 | exact t2 | exact t3 | exact t4 | exact t5 | exact t6 | exact t7 | exact t8 | exact t9 | exact t10 | exact t11 | exact t12 | exact t13 | exact r2 | exact r4 | exact r5 | exact r8 | exact r9 | exact r10 | exact r11 | exact r12 | exact r13 | exact r14 | exact r15 | exact r16) (by show _ < n; omega) ⟨by decide, _, rfl, rfl⟩ rfl rfl rfl rfl ?_
        refine g_iconst (Y := Y_X5_freeSpares) (pc' := 28) dX5_freeSpares_27 rfl ?_
        refine g_icmp_ne (Y := Y_X5_freeSpares) (t := 35) (pc' := 31) dX5_freeSpares_28 (by decide) rfl ⟨by omega, by omega⟩ ⟨by omega, by omega⟩ (fun h28 => ?_) (fun h28 => ?_)
        · have e : cntL (fun c => decide (¬ m_isGd I c = 0) && decide (I 111 (978 + c) = -1)) (m + 1) i a = cntL (fun c => decide (¬ m_isGd I c = 0) && decide (I 111 (978 + c) = -1)) m (i + 1) a := if_neg (by simp [h28])
          rw [e]
          refine g_iconst (Y := Y_X5_freeSpares) (pc' := 36) dX5_freeSpares_35 rfl ?_
          refine g_iadd (Y := Y_X5_freeSpares) (pc' := 37) dX5_freeSpares_36 rfl ?_
          refine g_istore1 (Y := Y_X5_freeSpares) (pc' := 38) dX5_freeSpares_37 rfl (Nat.le_of_ble_eq_true rfl) rfl ?_
          refine g_iinc2 (Y := Y_X5_freeSpares) (pc' := 41) dX5_freeSpares_38 rfl (Nat.le_of_ble_eq_true rfl) rfl ?_
          refine g_goto (Y := Y_X5_freeSpares) (t := 6) dX5_freeSpares_41 (by decide) ?_
          first | exact ih (i + 1) _ none (by omega) | (rw [Int.add_zero]; exact ih (i + 1) _ none (by omega))
        · have e : cntL (fun c => decide (¬ m_isGd I c = 0) && decide (I 111 (978 + c) = -1)) (m + 1) i a = cntL (fun c => decide (¬ m_isGd I c = 0) && decide (I 111 (978 + c) = -1)) m (i + 1) (a + 1) := if_pos (by simp [h19, h28])
          rw [e]
          refine g_iconst (Y := Y_X5_freeSpares) (pc' := 32) dX5_freeSpares_31 rfl ?_
          refine g_goto (Y := Y_X5_freeSpares) (t := 36) dX5_freeSpares_32 (by decide) ?_
          refine g_iadd (Y := Y_X5_freeSpares) (pc' := 37) dX5_freeSpares_36 rfl ?_
          refine g_istore1 (Y := Y_X5_freeSpares) (pc' := 38) dX5_freeSpares_37 rfl (Nat.le_of_ble_eq_true rfl) rfl ?_
          refine g_iinc2 (Y := Y_X5_freeSpares) (pc' := 41) dX5_freeSpares_38 rfl (Nat.le_of_ble_eq_true rfl) rfl ?_
          refine g_goto (Y := Y_X5_freeSpares) (t := 6) dX5_freeSpares_41 (by decide) ?_
          first | exact ih (i + 1) _ none (by omega) | (rw [Int.add_zero]; exact ih (i + 1) _ none (by omega))
set_option maxHeartbeats 2000000 in
set_option maxRecDepth 100000 in
theorem s_X5_freeSpares {l : Launch} {E : QE} {T : Nat → Nat × Nat} {I : Nat → Nat → Int} {J : Nat → Nat → Int64} {R : Nat → Nat → Option Nat} {n z : Nat} (hk : MdB T R n) (hz9 : ZV I) (hh9 : HR I)  : SpV l E Y_X5_freeSpares [.ref (E.1 + 110)] (T, I, J, R, n, z) (.int (iz (m_fsp I))) (T, I, J, R, n, z) := by
  have hk0 := hk
  refine Sp.of [some (.ref (E.1 + 110)), none, none] (by decide +kernel) (Nat.le_of_ble_eq_true rfl) (fun _ h => h) ?_
  refine g_iconst (Y := Y_X5_freeSpares) (pc' := 1) dX5_freeSpares_0 rfl ?_
  refine g_istore1 (Y := Y_X5_freeSpares) (pc' := 2) dX5_freeSpares_1 rfl (Nat.le_of_ble_eq_true rfl) rfl ?_
  refine g_sipush (Y := Y_X5_freeSpares) (pc' := 5) dX5_freeSpares_2 rfl (by decide) ?_
  refine g_istore2 (Y := Y_X5_freeSpares) (pc' := 6) dX5_freeSpares_5 rfl (Nat.le_of_ble_eq_true rfl) rfl ?_
  exact s_X5_freeSpares_lp hk0 hz9 hh9 96 480 0 none rfl
set_option maxHeartbeats 2000000 in
set_option maxRecDepth 100000 in
theorem s_X5_blocks_lp {l : Launch} {E : QE} {T : Nat → Nat × Nat} {I : Nat → Nat → Int} {J : Nat → Nat → Int64} {R : Nat → Nat → Option Nat} {n z : Nat} (hk : MdB T R n) (hz9 : ZV I) (hh9 : HR I) {w : Nat} (hw : w < 3) : ∀ (m i : Nat) (a : Int) (x4 : Option Value), i + m = 480 → Go l E Y_X5_blocks 0 0 4 [some (.ref (E.1 + 110)), some (.int (iz (w : Int))), some (.int (iz a)), some (.int (iz (i : Int))), x4] [] (T, I, J, R, n, z) (KV (.int (iz (cntL (fun b => decide (¬ I 111 (498 + b) = -1) && (decide (w = 0) || decide (w = 1 ∧ 480 ≤ I 111 (498 + b)) || decide (w = 2 ∧ m_isGd I (I 111 (498 + b)).toNat = 0))) m i a))) (T, I, J, R, n, z)) := by
  have hk0 := hk
  obtain ⟨t0, t1, t2, t3, t4, t5, t6, t7, t8, t9, t10, t11, t12, t13, r1, r2, r4, r5, r8, r9, r10, r11, r12, r13, r14, r15, r16, hn⟩ := hk
  obtain ⟨z3, zs, zs0, zd, zt, zt2, zv, zw, zk⟩ := id hz9
  intro m
  induction m with
  | zero =>
    intro i a x4 hm
    refine g_iload3 (Y := Y_X5_blocks) (pc' := 5) dX5_blocks_4 rfl ?_
    refine g_sipush (Y := Y_X5_blocks) (pc' := 8) dX5_blocks_5 rfl (by decide) ?_
    refine g_icmp_ge (Y := Y_X5_blocks) (t := 69) (pc' := 11) dX5_blocks_8 (by decide) rfl ⟨by omega, by omega⟩ ⟨by omega, by omega⟩ (fun h8 => ?_) (fun h8 => ?_)
    · refine g_iload2 (Y := Y_X5_blocks) (pc' := 70) dX5_blocks_69 rfl ?_
      exact g_iret (Y := Y_X5_blocks) dX5_blocks_70 rfl (Nat.zero_le _) (Nat.zero_le _) (⟨rfl, rfl⟩)
    · exfalso; omega
  | succ m ih =>
    intro i a x4 hm
    have zwi := zw i (by omega)
    have gd01 := m_isGd01 (I := I) (c := (I 111 (498 + i)).toNat)
    refine g_iload3 (Y := Y_X5_blocks) (pc' := 5) dX5_blocks_4 rfl ?_
    refine g_sipush (Y := Y_X5_blocks) (pc' := 8) dX5_blocks_5 rfl (by decide) ?_
    refine g_icmp_ge (Y := Y_X5_blocks) (t := 69) (pc' := 11) dX5_blocks_8 (by decide) rfl ⟨by omega, by omega⟩ ⟨by omega, by omega⟩ (fun h8 => ?_) (fun h8 => ?_)
    · exfalso; omega
    · refine g_aload0 (Y := Y_X5_blocks) (pc' := 12) dX5_blocks_11 rfl ?_
      refine g_iload3 (Y := Y_X5_blocks) (pc' := 13) dX5_blocks_12 rfl ?_
      refine g_callVv (Y := Y_X5_blocks) (c := 5) (s_X5_where hk0 i (by omega)) (pc' := 16) dX5_blocks_13 rfl cv_X5_111 rfl (by first | exact t0 | exact t1 | exact r1 | exact t2 | exact t3 | exact t4 | exact t5 | exact t6 | exact t7 | exact t8 | exact t9 | exact t10 | exact t11 | exact t12 | exact t13 | exact r2 | exact r4 | exact r5 | exact r8 | exact r9 | exact r10 | exact r11 | exact r12 | exact r13 | exact r14 | exact r15 | exact r16) (by show _ < n; omega) ⟨by decide, _, rfl, rfl⟩ rfl rfl rfl rfl ?_
      refine g_istore4 (Y := Y_X5_blocks) (pc' := 18) dX5_blocks_16 rfl (Nat.le_of_ble_eq_true rfl) rfl ?_
      refine g_iload2 (Y := Y_X5_blocks) (pc' := 19) dX5_blocks_18 rfl ?_
      refine g_iload4 (Y := Y_X5_blocks) (pc' := 21) dX5_blocks_19 rfl ?_
      refine g_iconst (Y := Y_X5_blocks) (pc' := 22) dX5_blocks_21 rfl ?_
      refine g_icmp_eq (Y := Y_X5_blocks) (t := 60) (pc' := 25) dX5_blocks_22 (by decide) rfl ⟨by omega, by omega⟩ ⟨by omega, by omega⟩ (fun h22 => ?_) (fun h22 => ?_)
      · have e : cntL (fun b => decide (¬ I 111 (498 + b) = -1) && (decide (w = 0) || decide (w = 1 ∧ 480 ≤ I 111 (498 + b)) || decide (w = 2 ∧ m_isGd I (I 111 (498 + b)).toNat = 0))) (m + 1) i a = cntL (fun b => decide (¬ I 111 (498 + b) = -1) && (decide (w = 0) || decide (w = 1 ∧ 480 ≤ I 111 (498 + b)) || decide (w = 2 ∧ m_isGd I (I 111 (498 + b)).toNat = 0))) m (i + 1) a := if_neg (by simp [h22])
        rw [e]
        refine g_iconst (Y := Y_X5_blocks) (pc' := 61) dX5_blocks_60 rfl ?_
        refine g_iadd (Y := Y_X5_blocks) (pc' := 62) dX5_blocks_61 rfl ?_
        refine g_istore2 (Y := Y_X5_blocks) (pc' := 63) dX5_blocks_62 rfl (Nat.le_of_ble_eq_true rfl) rfl ?_
        refine g_iinc3 (Y := Y_X5_blocks) (pc' := 66) dX5_blocks_63 rfl (Nat.le_of_ble_eq_true rfl) rfl ?_
        refine g_goto (Y := Y_X5_blocks) (t := 4) dX5_blocks_66 (by decide) ?_
        first | exact ih (i + 1) _ _ (by omega) | (rw [Int.add_zero]; exact ih (i + 1) _ _ (by omega))
      · refine g_iload1 (Y := Y_X5_blocks) (pc' := 26) dX5_blocks_25 rfl ?_
        refine g_if_eq (Y := Y_X5_blocks) (t := 56) (pc' := 29) dX5_blocks_26 (by decide) rfl ⟨by omega, by omega⟩ (fun h26 => ?_) (fun h26 => ?_)
        · have e : cntL (fun b => decide (¬ I 111 (498 + b) = -1) && (decide (w = 0) || decide (w = 1 ∧ 480 ≤ I 111 (498 + b)) || decide (w = 2 ∧ m_isGd I (I 111 (498 + b)).toNat = 0))) (m + 1) i a = cntL (fun b => decide (¬ I 111 (498 + b) = -1) && (decide (w = 0) || decide (w = 1 ∧ 480 ≤ I 111 (498 + b)) || decide (w = 2 ∧ m_isGd I (I 111 (498 + b)).toNat = 0))) m (i + 1) (a + 1) := if_pos (by simp [h22, show w = 0 by omega])
          rw [e]
          refine g_iconst (Y := Y_X5_blocks) (pc' := 57) dX5_blocks_56 rfl ?_
          refine g_goto (Y := Y_X5_blocks) (t := 61) dX5_blocks_57 (by decide) ?_
          refine g_iadd (Y := Y_X5_blocks) (pc' := 62) dX5_blocks_61 rfl ?_
          refine g_istore2 (Y := Y_X5_blocks) (pc' := 63) dX5_blocks_62 rfl (Nat.le_of_ble_eq_true rfl) rfl ?_
          refine g_iinc3 (Y := Y_X5_blocks) (pc' := 66) dX5_blocks_63 rfl (Nat.le_of_ble_eq_true rfl) rfl ?_
          refine g_goto (Y := Y_X5_blocks) (t := 4) dX5_blocks_66 (by decide) ?_
          first | exact ih (i + 1) _ _ (by omega) | (rw [Int.add_zero]; exact ih (i + 1) _ _ (by omega))
        · refine g_iload1 (Y := Y_X5_blocks) (pc' := 30) dX5_blocks_29 rfl ?_
          refine g_iconst (Y := Y_X5_blocks) (pc' := 31) dX5_blocks_30 rfl ?_
          refine g_icmp_ne (Y := Y_X5_blocks) (t := 42) (pc' := 34) dX5_blocks_31 (by decide) rfl ⟨by omega, by omega⟩ ⟨by omega, by omega⟩ (fun h31 => ?_) (fun h31 => ?_)
          · have hw1 : ¬ w = 1 := by omega
            refine g_iload1 (Y := Y_X5_blocks) (pc' := 43) dX5_blocks_42 rfl ?_
            refine g_iconst (Y := Y_X5_blocks) (pc' := 44) dX5_blocks_43 rfl ?_
            refine g_icmp_ne (Y := Y_X5_blocks) (t := 60) (pc' := 47) dX5_blocks_44 (by decide) rfl ⟨by omega, by omega⟩ ⟨by omega, by omega⟩ (fun h44 => ?_) (fun h44 => ?_)
            · have e : cntL (fun b => decide (¬ I 111 (498 + b) = -1) && (decide (w = 0) || decide (w = 1 ∧ 480 ≤ I 111 (498 + b)) || decide (w = 2 ∧ m_isGd I (I 111 (498 + b)).toNat = 0))) (m + 1) i a = cntL (fun b => decide (¬ I 111 (498 + b) = -1) && (decide (w = 0) || decide (w = 1 ∧ 480 ≤ I 111 (498 + b)) || decide (w = 2 ∧ m_isGd I (I 111 (498 + b)).toNat = 0))) m (i + 1) a := if_neg (by
                have hw0 : ¬ w = 0 := by omega
                have hw2 : ¬ w = 2 := by omega
                first | (simp [hw0, hw1, hw2]; done) | (simp [hw0, hw1, hw2]; omega))
              rw [e]
              refine g_iconst (Y := Y_X5_blocks) (pc' := 61) dX5_blocks_60 rfl ?_
              refine g_iadd (Y := Y_X5_blocks) (pc' := 62) dX5_blocks_61 rfl ?_
              refine g_istore2 (Y := Y_X5_blocks) (pc' := 63) dX5_blocks_62 rfl (Nat.le_of_ble_eq_true rfl) rfl ?_
              refine g_iinc3 (Y := Y_X5_blocks) (pc' := 66) dX5_blocks_63 rfl (Nat.le_of_ble_eq_true rfl) rfl ?_
              refine g_goto (Y := Y_X5_blocks) (t := 4) dX5_blocks_66 (by decide) ?_
              first | exact ih (i + 1) _ _ (by omega) | (rw [Int.add_zero]; exact ih (i + 1) _ _ (by omega))
            · have hw2 : w = 2 := by omega
              refine g_aload0 (Y := Y_X5_blocks) (pc' := 48) dX5_blocks_47 rfl ?_
              refine g_iload4 (Y := Y_X5_blocks) (pc' := 50) dX5_blocks_48 rfl ?_
              refine g_callVv (Y := Y_X5_blocks) (c := 5) (s_X5_isGoodI hk0 hh9 (I 111 (498 + i)) (by omega) (by omega)) (pc' := 53) dX5_blocks_50 rfl cv_X5_104 rfl (by first | exact t0 | exact t1 | exact r1 | exact t2 | exact t3 | exact t4 | exact t5 | exact t6 | exact t7 | exact t8 | exact t9 | exact t10 | exact t11 | exact t12 | exact t13 | exact r2 | exact r4 | exact r5 | exact r8 | exact r9 | exact r10 | exact r11 | exact r12 | exact r13 | exact r14 | exact r15 | exact r16) (by show _ < n; omega) ⟨by decide, _, rfl, rfl⟩ rfl rfl rfl rfl ?_
              refine g_if_ne (Y := Y_X5_blocks) (t := 60) (pc' := 56) dX5_blocks_53 (by decide) rfl ⟨by omega, by omega⟩ (fun h53 => ?_) (fun h53 => ?_)
              · have e : cntL (fun b => decide (¬ I 111 (498 + b) = -1) && (decide (w = 0) || decide (w = 1 ∧ 480 ≤ I 111 (498 + b)) || decide (w = 2 ∧ m_isGd I (I 111 (498 + b)).toNat = 0))) (m + 1) i a = cntL (fun b => decide (¬ I 111 (498 + b) = -1) && (decide (w = 0) || decide (w = 1 ∧ 480 ≤ I 111 (498 + b)) || decide (w = 2 ∧ m_isGd I (I 111 (498 + b)).toNat = 0))) m (i + 1) a := if_neg (by simp [hw2, h53])
                rw [e]
                refine g_iconst (Y := Y_X5_blocks) (pc' := 61) dX5_blocks_60 rfl ?_
                refine g_iadd (Y := Y_X5_blocks) (pc' := 62) dX5_blocks_61 rfl ?_
                refine g_istore2 (Y := Y_X5_blocks) (pc' := 63) dX5_blocks_62 rfl (Nat.le_of_ble_eq_true rfl) rfl ?_
                refine g_iinc3 (Y := Y_X5_blocks) (pc' := 66) dX5_blocks_63 rfl (Nat.le_of_ble_eq_true rfl) rfl ?_
                refine g_goto (Y := Y_X5_blocks) (t := 4) dX5_blocks_66 (by decide) ?_
                first | exact ih (i + 1) _ _ (by omega) | (rw [Int.add_zero]; exact ih (i + 1) _ _ (by omega))
              · have e : cntL (fun b => decide (¬ I 111 (498 + b) = -1) && (decide (w = 0) || decide (w = 1 ∧ 480 ≤ I 111 (498 + b)) || decide (w = 2 ∧ m_isGd I (I 111 (498 + b)).toNat = 0))) (m + 1) i a = cntL (fun b => decide (¬ I 111 (498 + b) = -1) && (decide (w = 0) || decide (w = 1 ∧ 480 ≤ I 111 (498 + b)) || decide (w = 2 ∧ m_isGd I (I 111 (498 + b)).toNat = 0))) m (i + 1) (a + 1) := if_pos (by simp [h22, hw2, show m_isGd I (I 111 (498 + i)).toNat = 0 by omega])
                rw [e]
                refine g_iconst (Y := Y_X5_blocks) (pc' := 57) dX5_blocks_56 rfl ?_
                refine g_goto (Y := Y_X5_blocks) (t := 61) dX5_blocks_57 (by decide) ?_
                refine g_iadd (Y := Y_X5_blocks) (pc' := 62) dX5_blocks_61 rfl ?_
                refine g_istore2 (Y := Y_X5_blocks) (pc' := 63) dX5_blocks_62 rfl (Nat.le_of_ble_eq_true rfl) rfl ?_
                refine g_iinc3 (Y := Y_X5_blocks) (pc' := 66) dX5_blocks_63 rfl (Nat.le_of_ble_eq_true rfl) rfl ?_
                refine g_goto (Y := Y_X5_blocks) (t := 4) dX5_blocks_66 (by decide) ?_
                first | exact ih (i + 1) _ _ (by omega) | (rw [Int.add_zero]; exact ih (i + 1) _ _ (by omega))
          · have hw1 : w = 1 := by omega
            refine g_iload4 (Y := Y_X5_blocks) (pc' := 36) dX5_blocks_34 rfl ?_
            refine g_sipush (Y := Y_X5_blocks) (pc' := 39) dX5_blocks_36 rfl (by decide) ?_
            refine g_icmp_ge (Y := Y_X5_blocks) (t := 56) (pc' := 42) dX5_blocks_39 (by decide) rfl ⟨by omega, by omega⟩ ⟨by omega, by omega⟩ (fun h39 => ?_) (fun h39 => ?_)
            · have e : cntL (fun b => decide (¬ I 111 (498 + b) = -1) && (decide (w = 0) || decide (w = 1 ∧ 480 ≤ I 111 (498 + b)) || decide (w = 2 ∧ m_isGd I (I 111 (498 + b)).toNat = 0))) (m + 1) i a = cntL (fun b => decide (¬ I 111 (498 + b) = -1) && (decide (w = 0) || decide (w = 1 ∧ 480 ≤ I 111 (498 + b)) || decide (w = 2 ∧ m_isGd I (I 111 (498 + b)).toNat = 0))) m (i + 1) (a + 1) := if_pos (by simp [h22, hw1, show 480 ≤ I 111 (498 + i) by omega])
              rw [e]
              refine g_iconst (Y := Y_X5_blocks) (pc' := 57) dX5_blocks_56 rfl ?_
              refine g_goto (Y := Y_X5_blocks) (t := 61) dX5_blocks_57 (by decide) ?_
              refine g_iadd (Y := Y_X5_blocks) (pc' := 62) dX5_blocks_61 rfl ?_
              refine g_istore2 (Y := Y_X5_blocks) (pc' := 63) dX5_blocks_62 rfl (Nat.le_of_ble_eq_true rfl) rfl ?_
              refine g_iinc3 (Y := Y_X5_blocks) (pc' := 66) dX5_blocks_63 rfl (Nat.le_of_ble_eq_true rfl) rfl ?_
              refine g_goto (Y := Y_X5_blocks) (t := 4) dX5_blocks_66 (by decide) ?_
              first | exact ih (i + 1) _ _ (by omega) | (rw [Int.add_zero]; exact ih (i + 1) _ _ (by omega))
            · have hlt : ¬ 480 ≤ I 111 (498 + i) := by omega
              have hw0 : ¬ w = 0 := by omega
              refine g_iload1 (Y := Y_X5_blocks) (pc' := 43) dX5_blocks_42 rfl ?_
              refine g_iconst (Y := Y_X5_blocks) (pc' := 44) dX5_blocks_43 rfl ?_
              refine g_icmp_ne (Y := Y_X5_blocks) (t := 60) (pc' := 47) dX5_blocks_44 (by decide) rfl ⟨by omega, by omega⟩ ⟨by omega, by omega⟩ (fun h44 => ?_) (fun h44 => ?_)
              · have e : cntL (fun b => decide (¬ I 111 (498 + b) = -1) && (decide (w = 0) || decide (w = 1 ∧ 480 ≤ I 111 (498 + b)) || decide (w = 2 ∧ m_isGd I (I 111 (498 + b)).toNat = 0))) (m + 1) i a = cntL (fun b => decide (¬ I 111 (498 + b) = -1) && (decide (w = 0) || decide (w = 1 ∧ 480 ≤ I 111 (498 + b)) || decide (w = 2 ∧ m_isGd I (I 111 (498 + b)).toNat = 0))) m (i + 1) a := if_neg (by
                  have hw0 : ¬ w = 0 := by omega
                  have hw2 : ¬ w = 2 := by omega
                  first | (simp [hw0, hw1, hw2]; done) | (simp [hw0, hw1, hw2]; omega))
                rw [e]
                refine g_iconst (Y := Y_X5_blocks) (pc' := 61) dX5_blocks_60 rfl ?_
                refine g_iadd (Y := Y_X5_blocks) (pc' := 62) dX5_blocks_61 rfl ?_
                refine g_istore2 (Y := Y_X5_blocks) (pc' := 63) dX5_blocks_62 rfl (Nat.le_of_ble_eq_true rfl) rfl ?_
                refine g_iinc3 (Y := Y_X5_blocks) (pc' := 66) dX5_blocks_63 rfl (Nat.le_of_ble_eq_true rfl) rfl ?_
                refine g_goto (Y := Y_X5_blocks) (t := 4) dX5_blocks_66 (by decide) ?_
                first | exact ih (i + 1) _ _ (by omega) | (rw [Int.add_zero]; exact ih (i + 1) _ _ (by omega))
              · have hw2 : w = 2 := by omega
                refine g_aload0 (Y := Y_X5_blocks) (pc' := 48) dX5_blocks_47 rfl ?_
                refine g_iload4 (Y := Y_X5_blocks) (pc' := 50) dX5_blocks_48 rfl ?_
                refine g_callVv (Y := Y_X5_blocks) (c := 5) (s_X5_isGoodI hk0 hh9 (I 111 (498 + i)) (by omega) (by omega)) (pc' := 53) dX5_blocks_50 rfl cv_X5_104 rfl (by first | exact t0 | exact t1 | exact r1 | exact t2 | exact t3 | exact t4 | exact t5 | exact t6 | exact t7 | exact t8 | exact t9 | exact t10 | exact t11 | exact t12 | exact t13 | exact r2 | exact r4 | exact r5 | exact r8 | exact r9 | exact r10 | exact r11 | exact r12 | exact r13 | exact r14 | exact r15 | exact r16) (by show _ < n; omega) ⟨by decide, _, rfl, rfl⟩ rfl rfl rfl rfl ?_
                refine g_if_ne (Y := Y_X5_blocks) (t := 60) (pc' := 56) dX5_blocks_53 (by decide) rfl ⟨by omega, by omega⟩ (fun h53 => ?_) (fun h53 => ?_)
                · have e : cntL (fun b => decide (¬ I 111 (498 + b) = -1) && (decide (w = 0) || decide (w = 1 ∧ 480 ≤ I 111 (498 + b)) || decide (w = 2 ∧ m_isGd I (I 111 (498 + b)).toNat = 0))) (m + 1) i a = cntL (fun b => decide (¬ I 111 (498 + b) = -1) && (decide (w = 0) || decide (w = 1 ∧ 480 ≤ I 111 (498 + b)) || decide (w = 2 ∧ m_isGd I (I 111 (498 + b)).toNat = 0))) m (i + 1) a := if_neg (by simp [hw2, h53])
                  rw [e]
                  refine g_iconst (Y := Y_X5_blocks) (pc' := 61) dX5_blocks_60 rfl ?_
                  refine g_iadd (Y := Y_X5_blocks) (pc' := 62) dX5_blocks_61 rfl ?_
                  refine g_istore2 (Y := Y_X5_blocks) (pc' := 63) dX5_blocks_62 rfl (Nat.le_of_ble_eq_true rfl) rfl ?_
                  refine g_iinc3 (Y := Y_X5_blocks) (pc' := 66) dX5_blocks_63 rfl (Nat.le_of_ble_eq_true rfl) rfl ?_
                  refine g_goto (Y := Y_X5_blocks) (t := 4) dX5_blocks_66 (by decide) ?_
                  first | exact ih (i + 1) _ _ (by omega) | (rw [Int.add_zero]; exact ih (i + 1) _ _ (by omega))
                · have e : cntL (fun b => decide (¬ I 111 (498 + b) = -1) && (decide (w = 0) || decide (w = 1 ∧ 480 ≤ I 111 (498 + b)) || decide (w = 2 ∧ m_isGd I (I 111 (498 + b)).toNat = 0))) (m + 1) i a = cntL (fun b => decide (¬ I 111 (498 + b) = -1) && (decide (w = 0) || decide (w = 1 ∧ 480 ≤ I 111 (498 + b)) || decide (w = 2 ∧ m_isGd I (I 111 (498 + b)).toNat = 0))) m (i + 1) (a + 1) := if_pos (by simp [h22, hw2, show m_isGd I (I 111 (498 + i)).toNat = 0 by omega])
                  rw [e]
                  refine g_iconst (Y := Y_X5_blocks) (pc' := 57) dX5_blocks_56 rfl ?_
                  refine g_goto (Y := Y_X5_blocks) (t := 61) dX5_blocks_57 (by decide) ?_
                  refine g_iadd (Y := Y_X5_blocks) (pc' := 62) dX5_blocks_61 rfl ?_
                  refine g_istore2 (Y := Y_X5_blocks) (pc' := 63) dX5_blocks_62 rfl (Nat.le_of_ble_eq_true rfl) rfl ?_
                  refine g_iinc3 (Y := Y_X5_blocks) (pc' := 66) dX5_blocks_63 rfl (Nat.le_of_ble_eq_true rfl) rfl ?_
                  refine g_goto (Y := Y_X5_blocks) (t := 4) dX5_blocks_66 (by decide) ?_
                  first | exact ih (i + 1) _ _ (by omega) | (rw [Int.add_zero]; exact ih (i + 1) _ _ (by omega))
set_option maxHeartbeats 2000000 in
set_option maxRecDepth 100000 in
theorem s_X5_blocks {l : Launch} {E : QE} {T : Nat → Nat × Nat} {I : Nat → Nat → Int} {J : Nat → Nat → Int64} {R : Nat → Nat → Option Nat} {n z : Nat} (hk : MdB T R n) (hz9 : ZV I) (hh9 : HR I) (w : Nat) (hw : w < 3) : SpV l E Y_X5_blocks [.ref (E.1 + 110), .int (iz (w : Int))] (T, I, J, R, n, z) (.int (iz (m_blk I w))) (T, I, J, R, n, z) := by
  have hk0 := hk
  refine Sp.of [some (.ref (E.1 + 110)), some (.int (iz (w : Int))), none, none, none] (by decide +kernel) (Nat.le_of_ble_eq_true rfl) (fun _ h => h) ?_
  refine g_iconst (Y := Y_X5_blocks) (pc' := 1) dX5_blocks_0 rfl ?_
  refine g_istore2 (Y := Y_X5_blocks) (pc' := 2) dX5_blocks_1 rfl (Nat.le_of_ble_eq_true rfl) rfl ?_
  refine g_iconst (Y := Y_X5_blocks) (pc' := 3) dX5_blocks_2 rfl ?_
  refine g_istore3 (Y := Y_X5_blocks) (pc' := 4) dX5_blocks_3 rfl (Nat.le_of_ble_eq_true rfl) rfl ?_
  exact s_X5_blocks_lp hk0 hz9 hh9 hw 480 0 0 none rfl
set_option maxHeartbeats 2000000 in
set_option maxRecDepth 100000 in
theorem s_X5_cellsOf_lp {l : Launch} {E : QE} {T : Nat → Nat × Nat} {I : Nat → Nat → Int} {J : Nat → Nat → Int64} {R : Nat → Nat → Option Nat} {n z : Nat} (hk : MdB T R n) (hz9 : ZV I) (hh9 : HR I) {q : Nat} (hq66 : q < 66) (hlq : LQ I q) {e9 : Int} (he9 : e9 = 0 ∨ e9 = 1) : ∀ (f : Nat) (s a : Int) (x5 : Option Value), (-40 < s ∧ s < 100) → f = (I 119 q - s + 1).toNat → Go l E Y_X5_cellsOf 0 0 10 [some (.ref (E.1 + 110)), some (.int (iz (q : Int))), some (.int (iz e9)), some (.int (iz a)), some (.int (iz s)), x5] [] (T, I, J, R, n, z) (KV (.int (iz (m_clL I q e9 f s a))) (T, I, J, R, n, z)) := by
  have hk0 := hk
  obtain ⟨t0, t1, t2, t3, t4, t5, t6, t7, t8, t9, t10, t11, t12, t13, r1, r2, r4, r5, r8, r9, r10, r11, r12, r13, r14, r15, r16, hn⟩ := hk
  obtain ⟨z3, zs, zs0, zd, zt, zt2, zv, zw, zk⟩ := id hz9
  obtain ⟨l1, l2, l3, l4, l5, l6⟩ := id hlq
  intro f
  induction f with
  | zero =>
    intro s a x5 hs hf
    refine g_iload4 (Y := Y_X5_cellsOf) (pc' := 12) dX5_cellsOf_10 rfl ?_
    refine g_aload0 (Y := Y_X5_cellsOf) (pc' := 13) dX5_cellsOf_12 rfl ?_
    refine g_getR (Y := Y_X5_cellsOf) (pc' := 16) dX5_cellsOf_13 rfl fl_X5_34 rfl (by first | exact t0 | exact t1 | exact r1 | exact t2 | exact t3 | exact t4 | exact t5 | exact t6 | exact t7 | exact t8 | exact t9 | exact t10 | exact t11 | exact t12 | exact t13 | exact r2 | exact r4 | exact r5 | exact r8 | exact r9 | exact r10 | exact r11 | exact r12 | exact r13 | exact r14 | exact r15 | exact r16) (by omega) (by first | exact t0 | exact t1 | exact r1 | exact t2 | exact t3 | exact t4 | exact t5 | exact t6 | exact t7 | exact t8 | exact t9 | exact t10 | exact t11 | exact t12 | exact t13 | exact r2 | exact r4 | exact r5 | exact r8 | exact r9 | exact r10 | exact r11 | exact r12 | exact r13 | exact r14 | exact r15 | exact r16) ?_
    refine g_iload1 (Y := Y_X5_cellsOf) (pc' := 17) dX5_cellsOf_16 rfl ?_
    refine g_iald (Y := Y_X5_cellsOf) (pc' := 18) dX5_cellsOf_17 rfl (by first | exact t0 | exact t1 | exact r1 | exact t2 | exact t3 | exact t4 | exact t5 | exact t6 | exact t7 | exact t8 | exact t9 | exact t10 | exact t11 | exact t12 | exact t13 | exact r2 | exact r4 | exact r5 | exact r8 | exact r9 | exact r10 | exact r11 | exact r12 | exact r13 | exact r14 | exact r15 | exact r16) (by omega) (by decide) ⟨by omega, by omega⟩ ?_
    rw [show (q : Int).toNat = q from rfl]
    refine g_icmp_gt (Y := Y_X5_cellsOf) (t := 73) (pc' := 21) dX5_cellsOf_18 (by decide) rfl ⟨by omega, by omega⟩ ⟨by omega, by omega⟩ (fun h18 => ?_) (fun h18 => ?_)
    · refine g_iload3 (Y := Y_X5_cellsOf) (pc' := 74) dX5_cellsOf_73 rfl ?_
      exact g_iret (Y := Y_X5_cellsOf) dX5_cellsOf_74 rfl (Nat.zero_le _) (Nat.zero_le _) (⟨rfl, rfl⟩)
    · exfalso; omega
  | succ f ih =>
    intro s a x5 hs hf
    have hcr := m_cellOf_rg (I := I) (q := q) (s := s)
    have av01 := m_isAv01 (I := I) (c := (m_cellOf I q s).toNat)
    have zkc := fun h => zk (m_cellOf I q s).toNat h
    refine g_iload4 (Y := Y_X5_cellsOf) (pc' := 12) dX5_cellsOf_10 rfl ?_
    refine g_aload0 (Y := Y_X5_cellsOf) (pc' := 13) dX5_cellsOf_12 rfl ?_
    refine g_getR (Y := Y_X5_cellsOf) (pc' := 16) dX5_cellsOf_13 rfl fl_X5_34 rfl (by first | exact t0 | exact t1 | exact r1 | exact t2 | exact t3 | exact t4 | exact t5 | exact t6 | exact t7 | exact t8 | exact t9 | exact t10 | exact t11 | exact t12 | exact t13 | exact r2 | exact r4 | exact r5 | exact r8 | exact r9 | exact r10 | exact r11 | exact r12 | exact r13 | exact r14 | exact r15 | exact r16) (by omega) (by first | exact t0 | exact t1 | exact r1 | exact t2 | exact t3 | exact t4 | exact t5 | exact t6 | exact t7 | exact t8 | exact t9 | exact t10 | exact t11 | exact t12 | exact t13 | exact r2 | exact r4 | exact r5 | exact r8 | exact r9 | exact r10 | exact r11 | exact r12 | exact r13 | exact r14 | exact r15 | exact r16) ?_
    refine g_iload1 (Y := Y_X5_cellsOf) (pc' := 17) dX5_cellsOf_16 rfl ?_
    refine g_iald (Y := Y_X5_cellsOf) (pc' := 18) dX5_cellsOf_17 rfl (by first | exact t0 | exact t1 | exact r1 | exact t2 | exact t3 | exact t4 | exact t5 | exact t6 | exact t7 | exact t8 | exact t9 | exact t10 | exact t11 | exact t12 | exact t13 | exact r2 | exact r4 | exact r5 | exact r8 | exact r9 | exact r10 | exact r11 | exact r12 | exact r13 | exact r14 | exact r15 | exact r16) (by omega) (by decide) ⟨by omega, by omega⟩ ?_
    rw [show (q : Int).toNat = q from rfl]
    refine g_icmp_gt (Y := Y_X5_cellsOf) (t := 73) (pc' := 21) dX5_cellsOf_18 (by decide) rfl ⟨by omega, by omega⟩ ⟨by omega, by omega⟩ (fun h18 => ?_) (fun h18 => ?_)
    · exfalso; omega
    · refine g_aload0 (Y := Y_X5_cellsOf) (pc' := 22) dX5_cellsOf_21 rfl ?_
      refine g_iload1 (Y := Y_X5_cellsOf) (pc' := 23) dX5_cellsOf_22 rfl ?_
      refine g_iload4 (Y := Y_X5_cellsOf) (pc' := 25) dX5_cellsOf_23 rfl ?_
      refine g_callVv (Y := Y_X5_cellsOf) (c := 5) (s_X5_cellOf hk0 hq66 hlq s ⟨by omega, by omega⟩) (pc' := 28) dX5_cellsOf_25 rfl cv_X5_101 rfl (by first | exact t0 | exact t1 | exact r1 | exact t2 | exact t3 | exact t4 | exact t5 | exact t6 | exact t7 | exact t8 | exact t9 | exact t10 | exact t11 | exact t12 | exact t13 | exact r2 | exact r4 | exact r5 | exact r8 | exact r9 | exact r10 | exact r11 | exact r12 | exact r13 | exact r14 | exact r15 | exact r16) (by show _ < n; omega) ⟨by decide, _, rfl, rfl⟩ rfl rfl rfl rfl ?_
      refine g_istore5 (Y := Y_X5_cellsOf) (pc' := 30) dX5_cellsOf_28 rfl (Nat.le_of_ble_eq_true rfl) rfl ?_
      refine g_iload3 (Y := Y_X5_cellsOf) (pc' := 31) dX5_cellsOf_30 rfl ?_
      refine g_iload5 (Y := Y_X5_cellsOf) (pc' := 33) dX5_cellsOf_31 rfl ?_
      refine g_iconst (Y := Y_X5_cellsOf) (pc' := 34) dX5_cellsOf_33 rfl ?_
      refine g_icmp_eq (Y := Y_X5_cellsOf) (t := 64) (pc' := 37) dX5_cellsOf_34 (by decide) rfl ⟨by omega, by omega⟩ ⟨by omega, by omega⟩ (fun h34 => ?_) (fun h34 => ?_)
      · have ck : m_cok I q e9 s = false := by unfold m_cok; simp [h34]
        have e : m_clL I q e9 (f + 1) s a = m_clL I q e9 f (s + 1) a := by show (if _ then _ else _) = _; rw [ck]; rfl
        rw [e]
        refine g_iconst (Y := Y_X5_cellsOf) (pc' := 65) dX5_cellsOf_64 rfl ?_
        refine g_iadd (Y := Y_X5_cellsOf) (pc' := 66) dX5_cellsOf_65 rfl ?_
        refine g_istore3 (Y := Y_X5_cellsOf) (pc' := 67) dX5_cellsOf_66 rfl (Nat.le_of_ble_eq_true rfl) rfl ?_
        refine g_iinc4 (Y := Y_X5_cellsOf) (pc' := 70) dX5_cellsOf_67 rfl (Nat.le_of_ble_eq_true rfl) rfl ?_
        refine g_goto (Y := Y_X5_cellsOf) (t := 10) dX5_cellsOf_70 (by decide) ?_
        first | exact ih (s + 1) _ _ (by omega) (by omega) | (rw [Int.add_zero]; exact ih (s + 1) _ _ (by omega) (by omega))
      · refine g_iload2 (Y := Y_X5_cellsOf) (pc' := 38) dX5_cellsOf_37 rfl ?_
        refine g_if_eq (Y := Y_X5_cellsOf) (t := 60) (pc' := 41) dX5_cellsOf_38 (by decide) rfl ⟨by omega, by omega⟩ (fun h38 => ?_) (fun h38 => ?_)
        · have ck : m_cok I q e9 s = true := by unfold m_cok; simp [h34, h38]
          have e : m_clL I q e9 (f + 1) s a = m_clL I q e9 f (s + 1) (a + 1) := by show (if _ then _ else _) = _; rw [ck]; rfl
          rw [e]
          refine g_iconst (Y := Y_X5_cellsOf) (pc' := 61) dX5_cellsOf_60 rfl ?_
          refine g_goto (Y := Y_X5_cellsOf) (t := 65) dX5_cellsOf_61 (by decide) ?_
          refine g_iadd (Y := Y_X5_cellsOf) (pc' := 66) dX5_cellsOf_65 rfl ?_
          refine g_istore3 (Y := Y_X5_cellsOf) (pc' := 67) dX5_cellsOf_66 rfl (Nat.le_of_ble_eq_true rfl) rfl ?_
          refine g_iinc4 (Y := Y_X5_cellsOf) (pc' := 70) dX5_cellsOf_67 rfl (Nat.le_of_ble_eq_true rfl) rfl ?_
          refine g_goto (Y := Y_X5_cellsOf) (t := 10) dX5_cellsOf_70 (by decide) ?_
          first | exact ih (s + 1) _ _ (by omega) (by omega) | (rw [Int.add_zero]; exact ih (s + 1) _ _ (by omega) (by omega))
        · refine g_aload0 (Y := Y_X5_cellsOf) (pc' := 42) dX5_cellsOf_41 rfl ?_
          refine g_iload5 (Y := Y_X5_cellsOf) (pc' := 44) dX5_cellsOf_42 rfl ?_
          refine g_callVv (Y := Y_X5_cellsOf) (c := 5) (s_X5_isAvoidedI hk0 hh9 (m_cellOf I q s) (by omega) (by omega)) (pc' := 47) dX5_cellsOf_44 rfl cv_X5_207 rfl (by first | exact t0 | exact t1 | exact r1 | exact t2 | exact t3 | exact t4 | exact t5 | exact t6 | exact t7 | exact t8 | exact t9 | exact t10 | exact t11 | exact t12 | exact t13 | exact r2 | exact r4 | exact r5 | exact r8 | exact r9 | exact r10 | exact r11 | exact r12 | exact r13 | exact r14 | exact r15 | exact r16) (by show _ < n; omega) ⟨by decide, _, rfl, rfl⟩ rfl rfl rfl rfl ?_
          refine g_if_eq (Y := Y_X5_cellsOf) (t := 64) (pc' := 50) dX5_cellsOf_47 (by decide) rfl ⟨by omega, by omega⟩ (fun h47 => ?_) (fun h47 => ?_)
          · have ck : m_cok I q e9 s = false := by unfold m_cok; simp [h38, h47]
            have e : m_clL I q e9 (f + 1) s a = m_clL I q e9 f (s + 1) a := by show (if _ then _ else _) = _; rw [ck]; rfl
            rw [e]
            refine g_iconst (Y := Y_X5_cellsOf) (pc' := 65) dX5_cellsOf_64 rfl ?_
            refine g_iadd (Y := Y_X5_cellsOf) (pc' := 66) dX5_cellsOf_65 rfl ?_
            refine g_istore3 (Y := Y_X5_cellsOf) (pc' := 67) dX5_cellsOf_66 rfl (Nat.le_of_ble_eq_true rfl) rfl ?_
            refine g_iinc4 (Y := Y_X5_cellsOf) (pc' := 70) dX5_cellsOf_67 rfl (Nat.le_of_ble_eq_true rfl) rfl ?_
            refine g_goto (Y := Y_X5_cellsOf) (t := 10) dX5_cellsOf_70 (by decide) ?_
            first | exact ih (s + 1) _ _ (by omega) (by omega) | (rw [Int.add_zero]; exact ih (s + 1) _ _ (by omega) (by omega))
          · refine g_aload0 (Y := Y_X5_cellsOf) (pc' := 51) dX5_cellsOf_50 rfl ?_
            refine g_iload5 (Y := Y_X5_cellsOf) (pc' := 53) dX5_cellsOf_51 rfl ?_
            refine g_callVv (Y := Y_X5_cellsOf) (c := 5) (s_X5_takenI hk0 (m_cellOf I q s) (by omega) (by omega)) (pc' := 56) dX5_cellsOf_53 rfl cv_X5_108 rfl (by first | exact t0 | exact t1 | exact r1 | exact t2 | exact t3 | exact t4 | exact t5 | exact t6 | exact t7 | exact t8 | exact t9 | exact t10 | exact t11 | exact t12 | exact t13 | exact r2 | exact r4 | exact r5 | exact r8 | exact r9 | exact r10 | exact r11 | exact r12 | exact r13 | exact r14 | exact r15 | exact r16) (by show _ < n; omega) ⟨by decide, _, rfl, rfl⟩ rfl rfl rfl rfl ?_
            refine g_iconst (Y := Y_X5_cellsOf) (pc' := 57) dX5_cellsOf_56 rfl ?_
            refine g_icmp_eq (Y := Y_X5_cellsOf) (t := 64) (pc' := 60) dX5_cellsOf_57 (by decide) rfl (by have := zkc (by omega); exact ⟨by omega, by omega⟩) ⟨by omega, by omega⟩ (fun h57 => ?_) (fun h57 => ?_)
            · have ck : m_cok I q e9 s = false := by unfold m_cok; simp [h38, h57]
              have e : m_clL I q e9 (f + 1) s a = m_clL I q e9 f (s + 1) a := by show (if _ then _ else _) = _; rw [ck]; rfl
              rw [e]
              refine g_iconst (Y := Y_X5_cellsOf) (pc' := 65) dX5_cellsOf_64 rfl ?_
              refine g_iadd (Y := Y_X5_cellsOf) (pc' := 66) dX5_cellsOf_65 rfl ?_
              refine g_istore3 (Y := Y_X5_cellsOf) (pc' := 67) dX5_cellsOf_66 rfl (Nat.le_of_ble_eq_true rfl) rfl ?_
              refine g_iinc4 (Y := Y_X5_cellsOf) (pc' := 70) dX5_cellsOf_67 rfl (Nat.le_of_ble_eq_true rfl) rfl ?_
              refine g_goto (Y := Y_X5_cellsOf) (t := 10) dX5_cellsOf_70 (by decide) ?_
              first | exact ih (s + 1) _ _ (by omega) (by omega) | (rw [Int.add_zero]; exact ih (s + 1) _ _ (by omega) (by omega))
            · have ck : m_cok I q e9 s = true := by unfold m_cok; simp [h34, h47, h57]
              have e : m_clL I q e9 (f + 1) s a = m_clL I q e9 f (s + 1) (a + 1) := by show (if _ then _ else _) = _; rw [ck]; rfl
              rw [e]
              refine g_iconst (Y := Y_X5_cellsOf) (pc' := 61) dX5_cellsOf_60 rfl ?_
              refine g_goto (Y := Y_X5_cellsOf) (t := 65) dX5_cellsOf_61 (by decide) ?_
              refine g_iadd (Y := Y_X5_cellsOf) (pc' := 66) dX5_cellsOf_65 rfl ?_
              refine g_istore3 (Y := Y_X5_cellsOf) (pc' := 67) dX5_cellsOf_66 rfl (Nat.le_of_ble_eq_true rfl) rfl ?_
              refine g_iinc4 (Y := Y_X5_cellsOf) (pc' := 70) dX5_cellsOf_67 rfl (Nat.le_of_ble_eq_true rfl) rfl ?_
              refine g_goto (Y := Y_X5_cellsOf) (t := 10) dX5_cellsOf_70 (by decide) ?_
              first | exact ih (s + 1) _ _ (by omega) (by omega) | (rw [Int.add_zero]; exact ih (s + 1) _ _ (by omega) (by omega))
set_option maxHeartbeats 2000000 in
set_option maxRecDepth 100000 in
theorem s_X5_cellsOf {l : Launch} {E : QE} {T : Nat → Nat × Nat} {I : Nat → Nat → Int} {J : Nat → Nat → Int64} {R : Nat → Nat → Option Nat} {n z : Nat} (hk : MdB T R n) (hz9 : ZV I) (hh9 : HR I) {q : Nat} (hq66 : q < 66) (hlq : LQ I q) (e9 : Int) (he9 : e9 = 0 ∨ e9 = 1) : SpV l E Y_X5_cellsOf [.ref (E.1 + 110), .int (iz (q : Int)), .int (iz e9)] (T, I, J, R, n, z) (.int (iz (m_cls I q e9))) (T, I, J, R, n, z) := by
  have hk0 := hk
  obtain ⟨t0, t1, t2, t3, t4, t5, t6, t7, t8, t9, t10, t11, t12, t13, r1, r2, r4, r5, r8, r9, r10, r11, r12, r13, r14, r15, r16, hn⟩ := hk
  obtain ⟨l1, l2, l3, l4, l5, l6⟩ := id hlq
  refine Sp.of [some (.ref (E.1 + 110)), some (.int (iz (q : Int))), some (.int (iz e9)), none, none, none] (by decide +kernel) (Nat.le_of_ble_eq_true rfl) (fun _ h => h) ?_
  refine g_iconst (Y := Y_X5_cellsOf) (pc' := 1) dX5_cellsOf_0 rfl ?_
  refine g_istore3 (Y := Y_X5_cellsOf) (pc' := 2) dX5_cellsOf_1 rfl (Nat.le_of_ble_eq_true rfl) rfl ?_
  refine g_aload0 (Y := Y_X5_cellsOf) (pc' := 3) dX5_cellsOf_2 rfl ?_
  refine g_getR (Y := Y_X5_cellsOf) (pc' := 6) dX5_cellsOf_3 rfl fl_X5_31 rfl (by first | exact t0 | exact t1 | exact r1 | exact t2 | exact t3 | exact t4 | exact t5 | exact t6 | exact t7 | exact t8 | exact t9 | exact t10 | exact t11 | exact t12 | exact t13 | exact r2 | exact r4 | exact r5 | exact r8 | exact r9 | exact r10 | exact r11 | exact r12 | exact r13 | exact r14 | exact r15 | exact r16) (by omega) (by first | exact t0 | exact t1 | exact r1 | exact t2 | exact t3 | exact t4 | exact t5 | exact t6 | exact t7 | exact t8 | exact t9 | exact t10 | exact t11 | exact t12 | exact t13 | exact r2 | exact r4 | exact r5 | exact r8 | exact r9 | exact r10 | exact r11 | exact r12 | exact r13 | exact r14 | exact r15 | exact r16) ?_
  refine g_iload1 (Y := Y_X5_cellsOf) (pc' := 7) dX5_cellsOf_6 rfl ?_
  refine g_iald (Y := Y_X5_cellsOf) (pc' := 8) dX5_cellsOf_7 rfl (by first | exact t0 | exact t1 | exact r1 | exact t2 | exact t3 | exact t4 | exact t5 | exact t6 | exact t7 | exact t8 | exact t9 | exact t10 | exact t11 | exact t12 | exact t13 | exact r2 | exact r4 | exact r5 | exact r8 | exact r9 | exact r10 | exact r11 | exact r12 | exact r13 | exact r14 | exact r15 | exact r16) (by omega) (by decide) ⟨by omega, by omega⟩ ?_
  rw [show (q : Int).toNat = q from rfl]
  refine g_istore4 (Y := Y_X5_cellsOf) (pc' := 10) dX5_cellsOf_8 rfl (Nat.le_of_ble_eq_true rfl) rfl ?_
  exact s_X5_cellsOf_lp hk0 hz9 hh9 hq66 hlq he9 _ (I 118 q) 0 _ ⟨by omega, by omega⟩ rfl
set_option maxHeartbeats 2000000 in
set_option maxRecDepth 100000 in
theorem s_X5_toldLine {l : Launch} {E : QE} {T : Nat → Nat × Nat} {I : Nat → Nat → Int} {J : Nat → Nat → Int64} {R : Nat → Nat → Option Nat} {n z : Nat} (hk : MdB T R n) (hz9 : ZV I) (hh9 : HR I) {q : Nat} (hq66 : q < 66) (hlq : LQ I q) (w : Nat) (hw : w < 6) : SpV l E Y_X5_toldLine [.ref (E.1 + 110), .int (iz (q : Int)), .int (iz (w : Int))] (T, I, J, R, n, z) (.int (iz (m_tl I q w))) (T, I, J, R, n, z) := by
  have hk0 := hk
  obtain ⟨t0, t1, t2, t3, t4, t5, t6, t7, t8, t9, t10, t11, t12, t13, r1, r2, r4, r5, r8, r9, r10, r11, r12, r13, r14, r15, r16, hn⟩ := hk
  obtain ⟨l1, l2, l3, l4, l5, l6⟩ := id hlq
  refine Sp.of [some (.ref (E.1 + 110)), some (.int (iz (q : Int))), some (.int (iz (w : Int)))] (by decide +kernel) (Nat.le_of_ble_eq_true rfl) (fun _ h => h) ?_
  refine g_iload2 (Y := Y_X5_toldLine) (pc' := 1) dX5_toldLine_0 rfl ?_
  rcases (show w = 0 ∨ w = 1 ∨ w = 2 ∨ w = 3 ∨ w = 4 ∨ w = 5 by omega) with rfl | rfl | rfl | rfl | rfl | rfl
  · refine g_tswIn (Y := Y_X5_toldLine) (t := 36) (off := 35) dX5_toldLine_1 ⟨by decide, by decide⟩ (by decide) (by decide) rfl (by decide) ?_
    refine g_aload0 (Y := Y_X5_toldLine) (pc' := 37) dX5_toldLine_36 rfl ?_
    refine g_getR (Y := Y_X5_toldLine) (pc' := 40) dX5_toldLine_37 rfl fl_X5_22 rfl (by first | exact t0 | exact t1 | exact r1 | exact t2 | exact t3 | exact t4 | exact t5 | exact t6 | exact t7 | exact t8 | exact t9 | exact t10 | exact t11 | exact t12 | exact t13 | exact r2 | exact r4 | exact r5 | exact r8 | exact r9 | exact r10 | exact r11 | exact r12 | exact r13 | exact r14 | exact r15 | exact r16) (by omega) (by first | exact t0 | exact t1 | exact r1 | exact t2 | exact t3 | exact t4 | exact t5 | exact t6 | exact t7 | exact t8 | exact t9 | exact t10 | exact t11 | exact t12 | exact t13 | exact r2 | exact r4 | exact r5 | exact r8 | exact r9 | exact r10 | exact r11 | exact r12 | exact r13 | exact r14 | exact r15 | exact r16) ?_
    refine g_iload1 (Y := Y_X5_toldLine) (pc' := 41) dX5_toldLine_40 rfl ?_
    refine g_iald (Y := Y_X5_toldLine) (pc' := 42) dX5_toldLine_41 rfl (by first | exact t0 | exact t1 | exact r1 | exact t2 | exact t3 | exact t4 | exact t5 | exact t6 | exact t7 | exact t8 | exact t9 | exact t10 | exact t11 | exact t12 | exact t13 | exact r2 | exact r4 | exact r5 | exact r8 | exact r9 | exact r10 | exact r11 | exact r12 | exact r13 | exact r14 | exact r15 | exact r16) (by omega) (by decide) ⟨by omega, by omega⟩ ?_
    exact g_iret (Y := Y_X5_toldLine) dX5_toldLine_42 rfl (Nat.zero_le _) (Nat.zero_le _) (⟨rfl, rfl⟩)
  · refine g_tswIn (Y := Y_X5_toldLine) (t := 43) (off := 42) dX5_toldLine_1 ⟨by decide, by decide⟩ (by decide) (by decide) rfl (by decide) ?_
    refine g_aload0 (Y := Y_X5_toldLine) (pc' := 44) dX5_toldLine_43 rfl ?_
    refine g_getR (Y := Y_X5_toldLine) (pc' := 47) dX5_toldLine_44 rfl fl_X5_22 rfl (by first | exact t0 | exact t1 | exact r1 | exact t2 | exact t3 | exact t4 | exact t5 | exact t6 | exact t7 | exact t8 | exact t9 | exact t10 | exact t11 | exact t12 | exact t13 | exact r2 | exact r4 | exact r5 | exact r8 | exact r9 | exact r10 | exact r11 | exact r12 | exact r13 | exact r14 | exact r15 | exact r16) (by omega) (by first | exact t0 | exact t1 | exact r1 | exact t2 | exact t3 | exact t4 | exact t5 | exact t6 | exact t7 | exact t8 | exact t9 | exact t10 | exact t11 | exact t12 | exact t13 | exact r2 | exact r4 | exact r5 | exact r8 | exact r9 | exact r10 | exact r11 | exact r12 | exact r13 | exact r14 | exact r15 | exact r16) ?_
    refine g_iload1 (Y := Y_X5_toldLine) (pc' := 48) dX5_toldLine_47 rfl ?_
    refine g_iald (Y := Y_X5_toldLine) (pc' := 49) dX5_toldLine_48 rfl (by first | exact t0 | exact t1 | exact r1 | exact t2 | exact t3 | exact t4 | exact t5 | exact t6 | exact t7 | exact t8 | exact t9 | exact t10 | exact t11 | exact t12 | exact t13 | exact r2 | exact r4 | exact r5 | exact r8 | exact r9 | exact r10 | exact r11 | exact r12 | exact r13 | exact r14 | exact r15 | exact r16) (by omega) (by decide) ⟨by omega, by omega⟩ ?_
    refine g_callSv (Y := Y_X5_toldLine) (s_X5_bits (I 115 q) l6) (pc' := 52) dX5_toldLine_49 rfl cv_X5_87 rfl rfl rfl rfl rfl ?_
    exact g_iret (Y := Y_X5_toldLine) dX5_toldLine_52 rfl (Nat.zero_le _) (Nat.zero_le _) (⟨rfl, rfl⟩)
  · refine g_tswIn (Y := Y_X5_toldLine) (t := 53) (off := 52) dX5_toldLine_1 ⟨by decide, by decide⟩ (by decide) (by decide) rfl (by decide) ?_
    refine g_aload0 (Y := Y_X5_toldLine) (pc' := 54) dX5_toldLine_53 rfl ?_
    refine g_iload1 (Y := Y_X5_toldLine) (pc' := 55) dX5_toldLine_54 rfl ?_
    refine g_iconst (Y := Y_X5_toldLine) (pc' := 56) dX5_toldLine_55 rfl ?_
    refine g_callVv (Y := Y_X5_toldLine) (c := 5) (s_X5_cellsOf hk0 hz9 hh9 hq66 hlq 0 (Or.inl rfl)) (pc' := 59) dX5_toldLine_56 rfl cv_X5_210 rfl (by first | exact t0 | exact t1 | exact r1 | exact t2 | exact t3 | exact t4 | exact t5 | exact t6 | exact t7 | exact t8 | exact t9 | exact t10 | exact t11 | exact t12 | exact t13 | exact r2 | exact r4 | exact r5 | exact r8 | exact r9 | exact r10 | exact r11 | exact r12 | exact r13 | exact r14 | exact r15 | exact r16) (by show _ < n; omega) ⟨by decide, _, rfl, rfl⟩ rfl rfl rfl rfl ?_
    exact g_iret (Y := Y_X5_toldLine) dX5_toldLine_59 rfl (Nat.zero_le _) (Nat.zero_le _) (⟨rfl, rfl⟩)
  · refine g_tswIn (Y := Y_X5_toldLine) (t := 60) (off := 59) dX5_toldLine_1 ⟨by decide, by decide⟩ (by decide) (by decide) rfl (by decide) ?_
    refine g_aload0 (Y := Y_X5_toldLine) (pc' := 61) dX5_toldLine_60 rfl ?_
    refine g_iload1 (Y := Y_X5_toldLine) (pc' := 62) dX5_toldLine_61 rfl ?_
    refine g_iconst (Y := Y_X5_toldLine) (pc' := 63) dX5_toldLine_62 rfl ?_
    refine g_callVv (Y := Y_X5_toldLine) (c := 5) (s_X5_cellsOf hk0 hz9 hh9 hq66 hlq 1 (Or.inr rfl)) (pc' := 66) dX5_toldLine_63 rfl cv_X5_210 rfl (by first | exact t0 | exact t1 | exact r1 | exact t2 | exact t3 | exact t4 | exact t5 | exact t6 | exact t7 | exact t8 | exact t9 | exact t10 | exact t11 | exact t12 | exact t13 | exact r2 | exact r4 | exact r5 | exact r8 | exact r9 | exact r10 | exact r11 | exact r12 | exact r13 | exact r14 | exact r15 | exact r16) (by show _ < n; omega) ⟨by decide, _, rfl, rfl⟩ rfl rfl rfl rfl ?_
    exact g_iret (Y := Y_X5_toldLine) dX5_toldLine_66 rfl (Nat.zero_le _) (Nat.zero_le _) (⟨rfl, rfl⟩)
  · refine g_tswIn (Y := Y_X5_toldLine) (t := 67) (off := 66) dX5_toldLine_1 ⟨by decide, by decide⟩ (by decide) (by decide) rfl (by decide) ?_
    refine g_aload0 (Y := Y_X5_toldLine) (pc' := 68) dX5_toldLine_67 rfl ?_
    refine g_getR (Y := Y_X5_toldLine) (pc' := 71) dX5_toldLine_68 rfl fl_X5_25 rfl (by first | exact t0 | exact t1 | exact r1 | exact t2 | exact t3 | exact t4 | exact t5 | exact t6 | exact t7 | exact t8 | exact t9 | exact t10 | exact t11 | exact t12 | exact t13 | exact r2 | exact r4 | exact r5 | exact r8 | exact r9 | exact r10 | exact r11 | exact r12 | exact r13 | exact r14 | exact r15 | exact r16) (by omega) (by first | exact t0 | exact t1 | exact r1 | exact t2 | exact t3 | exact t4 | exact t5 | exact t6 | exact t7 | exact t8 | exact t9 | exact t10 | exact t11 | exact t12 | exact t13 | exact r2 | exact r4 | exact r5 | exact r8 | exact r9 | exact r10 | exact r11 | exact r12 | exact r13 | exact r14 | exact r15 | exact r16) ?_
    refine g_iload1 (Y := Y_X5_toldLine) (pc' := 72) dX5_toldLine_71 rfl ?_
    refine g_iald (Y := Y_X5_toldLine) (pc' := 73) dX5_toldLine_72 rfl (by first | exact t0 | exact t1 | exact r1 | exact t2 | exact t3 | exact t4 | exact t5 | exact t6 | exact t7 | exact t8 | exact t9 | exact t10 | exact t11 | exact t12 | exact t13 | exact r2 | exact r4 | exact r5 | exact r8 | exact r9 | exact r10 | exact r11 | exact r12 | exact r13 | exact r14 | exact r15 | exact r16) (by omega) (by decide) ⟨by omega, by omega⟩ ?_
    exact g_iret (Y := Y_X5_toldLine) dX5_toldLine_73 rfl (Nat.zero_le _) (Nat.zero_le _) (⟨rfl, rfl⟩)
  · refine g_tswOut (Y := Y_X5_toldLine) (t := 74) dX5_toldLine_1 ⟨by decide, by decide⟩ (by decide) (by decide) ?_
    refine g_aload0 (Y := Y_X5_toldLine) (pc' := 75) dX5_toldLine_74 rfl ?_
    refine g_getR (Y := Y_X5_toldLine) (pc' := 78) dX5_toldLine_75 rfl fl_X5_28 rfl (by first | exact t0 | exact t1 | exact r1 | exact t2 | exact t3 | exact t4 | exact t5 | exact t6 | exact t7 | exact t8 | exact t9 | exact t10 | exact t11 | exact t12 | exact t13 | exact r2 | exact r4 | exact r5 | exact r8 | exact r9 | exact r10 | exact r11 | exact r12 | exact r13 | exact r14 | exact r15 | exact r16) (by omega) (by first | exact t0 | exact t1 | exact r1 | exact t2 | exact t3 | exact t4 | exact t5 | exact t6 | exact t7 | exact t8 | exact t9 | exact t10 | exact t11 | exact t12 | exact t13 | exact r2 | exact r4 | exact r5 | exact r8 | exact r9 | exact r10 | exact r11 | exact r12 | exact r13 | exact r14 | exact r15 | exact r16) ?_
    refine g_iload1 (Y := Y_X5_toldLine) (pc' := 79) dX5_toldLine_78 rfl ?_
    refine g_iald (Y := Y_X5_toldLine) (pc' := 80) dX5_toldLine_79 rfl (by first | exact t0 | exact t1 | exact r1 | exact t2 | exact t3 | exact t4 | exact t5 | exact t6 | exact t7 | exact t8 | exact t9 | exact t10 | exact t11 | exact t12 | exact t13 | exact r2 | exact r4 | exact r5 | exact r8 | exact r9 | exact r10 | exact r11 | exact r12 | exact r13 | exact r14 | exact r15 | exact r16) (by omega) (by decide) ⟨by omega, by omega⟩ ?_
    refine g_bipush (Y := Y_X5_toldLine) (pc' := 82) dX5_toldLine_80 rfl (by decide) ?_
    refine g_iadd (Y := Y_X5_toldLine) (pc' := 83) dX5_toldLine_82 rfl ?_
    exact g_iret (Y := Y_X5_toldLine) dX5_toldLine_83 rfl (Nat.zero_le _) (Nat.zero_le _) (⟨rfl, rfl⟩)
