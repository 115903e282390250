/-! the reference: it tidies up; a spot comes, goes -/
def m_tdL (mv : Int) : Nat → Nat → Int → (Nat → Nat → Int) → Int × (Nat → Nat → Int)
  | 0, _, d, I => (d, I)
  | f + 1, b, d, I => if d < mv then (if m_tgoal I b = I 111 (498 + b) then m_tdL mv f (b + 1) d I else m_tdL mv f (b + 1) (d + 1) (m_bring I b (m_tgoal I b))) else (d, I)
def m_tidyUp (I : Nat → Nat → Int) (mv : Int) : Int × (Nat → Nat → Int) := m_tdL mv 480 0 0 (m_lay I)
theorem mtdL_ne (mv : Int) : ∀ (f b : Nat) (d : Int) (I : Nat → Nat → Int) (a : Nat), a ≠ 111 → (m_tdL mv f b d I).2 a = I a
  | 0, _, _, _, _, _ => rfl
  | f + 1, b, d, I, a, h => by
    unfold m_tdL
    split
    · split
      · exact mtdL_ne mv f (b + 1) d I a h
      · rw [mtdL_ne mv f (b + 1) _ _ a h, bring_ne h]
    · rfl
theorem mtdL_ZV (mv : Int) : ∀ (f b : Nat) (d : Int) (I : Nat → Nat → Int), b + f ≤ 480 → ZV I → ZV (m_tdL mv f b d I).2
  | 0, _, _, _, _, h => h
  | f + 1, b, d, I, hb, h => by
    have hg := tgoal_rg (I := I) (b := b) (by omega)
    unfold m_tdL
    split
    · split
      · exact mtdL_ZV mv f (b + 1) d I (by omega) h
      · exact mtdL_ZV mv f (b + 1) _ _ (by omega) (bring_ZV h (by omega) (by omega))
    · exact h
theorem mtdL_rg (mv : Int) : ∀ (f b : Nat) (d : Int) (I : Nat → Nat → Int), 0 ≤ d → 0 ≤ (m_tdL mv f b d I).1 ∧ (m_tdL mv f b d I).1 ≤ d + f
  | 0, _, _, _, h => ⟨h, by show _ ≤ _ + ((0 : Nat) : Int); unfold m_tdL; omega⟩
  | f + 1, b, d, I, h => by
    unfold m_tdL
    split
    · split
      · have q := mtdL_rg mv f (b + 1) d I h; omega
      · have q := mtdL_rg mv f (b + 1) (d + 1) (m_bring I b (m_tgoal I b)) (by omega); omega
    · exact ⟨h, by show d ≤ _; omega⟩
theorem tidyUp_ZV {I : Nat → Nat → Int} {mv : Int} (hz9 : ZV I) : ZV (m_tidyUp I mv).2 := mtdL_ZV mv 480 0 0 _ (by decide) (ZV_lay hz9)
theorem tidyUp_ne {I : Nat → Nat → Int} {mv : Int} {a : Nat} (h : a < 110 ∨ 111 < a ∧ a < 115 ∨ 122 < a) : (m_tidyUp I mv).2 a = I a := by
  unfold m_tidyUp
  rw [mtdL_ne _ _ _ _ _ _ (by omega), lay_ne (by omega)]
set_option maxHeartbeats 2000000 in
set_option maxRecDepth 100000 in
theorem s_X5_tidyUp_lp {l : Launch} {E : QE} {T : Nat → Nat × Nat} {J : Nat → Nat → Int64} {R : Nat → Nat → Option Nat} {n z : Nat} (hk : MdB T R n) (mv : Int) (hmv : 0 ≤ mv ∧ mv ≤ 480) : ∀ (f b : Nat) (d : Int) (I : Nat → Nat → Int) (x4 : Option Value), b + f = 480 → (0 ≤ d ∧ d ≤ b) → ZV I → HR I → Go l E Y_X5_tidyUp 0 0 8 [some (.ref (E.1 + 110)), some (.int (iz mv)), some (.int (iz d)), some (.int (iz (b : Int))), x4] [] (T, I, J, R, n, z) (KV (.int (iz (m_tdL mv f b d I).1)) (T, (m_tdL mv f b d I).2, J, R, n, z)) := by
  have hk0 := hk
  obtain ⟨t0, t1, t2, t3, t4, t5, t6, t7, t8, t9, t10, t11, t12, t13, r1, r2, r4, r5, r8, r9, r10, r11, r12, r13, r14, r15, r16, hn⟩ := hk
  intro f
  induction f with
  | zero =>
    intro b d I x4 hf hd hz9 hh9
    refine g_iload3 (Y := Y_X5_tidyUp) (pc' := 9) dX5_tidyUp_8 rfl ?_
    refine g_sipush (Y := Y_X5_tidyUp) (pc' := 12) dX5_tidyUp_9 rfl (by decide) ?_
    refine g_icmp_ge (Y := Y_X5_tidyUp) (t := 53) (pc' := 15) dX5_tidyUp_12 (by decide) rfl ⟨by omega, by omega⟩ ⟨by omega, by omega⟩ (fun h12 => ?_) (fun h12 => ?_)
    · refine g_iload2 (Y := Y_X5_tidyUp) (pc' := 54) dX5_tidyUp_53 rfl ?_
      exact g_iret (Y := Y_X5_tidyUp) dX5_tidyUp_54 rfl (Nat.zero_le _) (Nat.zero_le _) (⟨rfl, rfl⟩)
    · exfalso; omega
  | succ f ih =>
    intro b d I x4 hf hd hz9 hh9
    have hg := tgoal_rg (I := I) (b := b) (by omega)
    have w := hz9.2.2.2.2.2.2.2.1 b (by omega)
    refine g_iload3 (Y := Y_X5_tidyUp) (pc' := 9) dX5_tidyUp_8 rfl ?_
    refine g_sipush (Y := Y_X5_tidyUp) (pc' := 12) dX5_tidyUp_9 rfl (by decide) ?_
    refine g_icmp_ge (Y := Y_X5_tidyUp) (t := 53) (pc' := 15) dX5_tidyUp_12 (by decide) rfl ⟨by omega, by omega⟩ ⟨by omega, by omega⟩ (fun h12 => ?_) (fun h12 => ?_)
    · exfalso; omega
    · refine g_iload2 (Y := Y_X5_tidyUp) (pc' := 16) dX5_tidyUp_15 rfl ?_
      refine g_iload1 (Y := Y_X5_tidyUp) (pc' := 17) dX5_tidyUp_16 rfl ?_
      refine g_icmp_ge (Y := Y_X5_tidyUp) (t := 53) (pc' := 20) dX5_tidyUp_17 (by decide) rfl ⟨by omega, by omega⟩ ⟨by omega, by omega⟩ (fun h17 => ?_) (fun h17 => ?_)
      · have e : m_tdL mv (f + 1) b d I = (d, I) := if_neg (by omega)
        rw [e]
        refine g_iload2 (Y := Y_X5_tidyUp) (pc' := 54) dX5_tidyUp_53 rfl ?_
        exact g_iret (Y := Y_X5_tidyUp) dX5_tidyUp_54 rfl (Nat.zero_le _) (Nat.zero_le _) (⟨rfl, rfl⟩)
      · refine g_aload0 (Y := Y_X5_tidyUp) (pc' := 21) dX5_tidyUp_20 rfl ?_
        refine g_iload3 (Y := Y_X5_tidyUp) (pc' := 22) dX5_tidyUp_21 rfl ?_
        refine g_callVv (Y := Y_X5_tidyUp) (c := 5) (s_X5_tidyGoal hk0 hz9 hh9 b (by omega)) (pc' := 25) dX5_tidyUp_22 rfl cv_X5_158 rfl (by assumption) (by show _ < n; omega) ⟨by decide, _, rfl, rfl⟩ rfl rfl rfl rfl ?_
        refine g_istore4 (Y := Y_X5_tidyUp) (pc' := 27) dX5_tidyUp_25 rfl (Nat.le_of_ble_eq_true rfl) rfl ?_
        refine g_iload4 (Y := Y_X5_tidyUp) (pc' := 29) dX5_tidyUp_27 rfl ?_
        refine g_aload0 (Y := Y_X5_tidyUp) (pc' := 30) dX5_tidyUp_29 rfl ?_
        refine g_iload3 (Y := Y_X5_tidyUp) (pc' := 31) dX5_tidyUp_30 rfl ?_
        refine g_callVv (Y := Y_X5_tidyUp) (c := 5) (s_X5_where hk0 b (by omega)) (pc' := 34) dX5_tidyUp_31 rfl cv_X5_111 rfl (by assumption) (by show _ < n; omega) ⟨by decide, _, rfl, rfl⟩ rfl rfl rfl rfl ?_
        refine g_icmp_eq (Y := Y_X5_tidyUp) (t := 47) (pc' := 37) dX5_tidyUp_34 (by decide) rfl ⟨by omega, by omega⟩ ⟨by omega, by omega⟩ (fun h34 => ?_) (fun h34 => ?_)
        · have e : m_tdL mv (f + 1) b d I = m_tdL mv f (b + 1) d I := (if_pos (by omega)).trans (if_pos h34)
          rw [e]
          refine g_iinc3 (Y := Y_X5_tidyUp) (pc' := 50) dX5_tidyUp_47 rfl (Nat.le_of_ble_eq_true rfl) rfl ?_
          refine g_goto (Y := Y_X5_tidyUp) (t := 8) dX5_tidyUp_50 (by decide) ?_
          first | exact ih (b + 1) _ _ _ (by omega) (by omega) hz9 hh9 | exact ih (b + 1) _ _ _ (by omega) (by omega) (bring_ZV hz9 (by omega) (by omega)) (HR_ne hh9 (bring_ne (by decide)) (bring_ne (by decide)))
        · have e : m_tdL mv (f + 1) b d I = m_tdL mv f (b + 1) (d + 1) (m_bring I b (m_tgoal I b)) := (if_pos (by omega)).trans (if_neg h34)
          rw [e]
          refine g_aload0 (Y := Y_X5_tidyUp) (pc' := 38) dX5_tidyUp_37 rfl ?_
          refine g_iload3 (Y := Y_X5_tidyUp) (pc' := 39) dX5_tidyUp_38 rfl ?_
          refine g_iload4 (Y := Y_X5_tidyUp) (pc' := 41) dX5_tidyUp_39 rfl ?_
          refine g_callVn (Y := Y_X5_tidyUp) (c := 5) (s_X5_bringTo hk0 hz9 b (by omega) (m_tgoal I b) (by omega)) (pc' := 44) dX5_tidyUp_41 rfl cv_X5_121 rfl (by assumption) (by show _ < n; omega) ⟨by decide, _, rfl, rfl⟩ rfl rfl rfl rfl ?_
          refine g_iinc2 (Y := Y_X5_tidyUp) (pc' := 47) dX5_tidyUp_44 rfl (Nat.le_of_ble_eq_true rfl) rfl ?_
          refine g_iinc3 (Y := Y_X5_tidyUp) (pc' := 50) dX5_tidyUp_47 rfl (Nat.le_of_ble_eq_true rfl) rfl ?_
          refine g_goto (Y := Y_X5_tidyUp) (t := 8) dX5_tidyUp_50 (by decide) ?_
          first | exact ih (b + 1) _ _ _ (by omega) (by omega) hz9 hh9 | exact ih (b + 1) _ _ _ (by omega) (by omega) (bring_ZV hz9 (by omega) (by omega)) (HR_ne hh9 (bring_ne (by decide)) (bring_ne (by decide)))
set_option maxHeartbeats 2000000 in
set_option maxRecDepth 100000 in
theorem s_X5_tidyUp {l : Launch} {E : QE} {T : Nat → Nat × Nat} {I : Nat → Nat → Int} {J : Nat → Nat → Int64} {R : Nat → Nat → Option Nat} {n z : Nat} (hk : MdB T R n) (hz9 : ZV I) (hb9 : HB I) (mv : Int) (hmv : 0 ≤ mv ∧ mv ≤ 480) : SpV l E Y_X5_tidyUp [.ref (E.1 + 110), .int (iz mv)] (T, I, J, R, n, z) (.int (iz (m_tidyUp I mv).1)) (T, (m_tidyUp I mv).2, J, R, n, z) := by
  have hk0 := hk
  obtain ⟨t0, t1, t2, t3, t4, t5, t6, t7, t8, t9, t10, t11, t12, t13, r1, r2, r4, r5, r8, r9, r10, r11, r12, r13, r14, r15, r16, hn⟩ := hk
  refine Sp.of [some (.ref (E.1 + 110)), some (.int (iz mv)), none, none, none] (by decide +kernel) (Nat.le_of_ble_eq_true rfl) (fun _ h => h) ?_
  refine g_aload0 (Y := Y_X5_tidyUp) (pc' := 1) dX5_tidyUp_0 rfl ?_
  refine g_callVn (Y := Y_X5_tidyUp) (c := 5) (s_X5_lay hk0 hz9) (pc' := 4) dX5_tidyUp_1 rfl cv_X5_130 rfl (by assumption) (by show _ < n; omega) ⟨by decide, _, rfl, rfl⟩ rfl rfl rfl rfl ?_
  refine g_iconst (Y := Y_X5_tidyUp) (pc' := 5) dX5_tidyUp_4 rfl ?_
  refine g_istore2 (Y := Y_X5_tidyUp) (pc' := 6) dX5_tidyUp_5 rfl (Nat.le_of_ble_eq_true rfl) rfl ?_
  refine g_iconst (Y := Y_X5_tidyUp) (pc' := 7) dX5_tidyUp_6 rfl ?_
  refine g_istore3 (Y := Y_X5_tidyUp) (pc' := 8) dX5_tidyUp_7 rfl (Nat.le_of_ble_eq_true rfl) rfl ?_
  exact s_X5_tidyUp_lp hk0 mv hmv 480 0 0 (m_lay I) _ rfl (by decide) (ZV_lay hz9) (lay_HR hz9 hb9)
set_option maxHeartbeats 2000000 in
set_option maxRecDepth 100000 in
theorem s_X5_failIt {l : Launch} {E : QE} {T : Nat → Nat × Nat} {I : Nat → Nat → Int} {J : Nat → Nat → Int64} {R : Nat → Nat → Option Nat} {n z : Nat} (hk : MdB T R n) (hz9 : ZV I) (c : Nat) (hc : c < 576) (h12 : I 111 3 < 12) (hs : m_spotAt I c = -1) : SpN l E Y_X5_failIt [.ref (E.1 + 110), .int (iz (c : Int))] (T, I, J, R, n, z) (T, m_failIt I c, J, R, n, z) := by
  have hk0 := hk
  obtain ⟨t0, t1, t2, t3, t4, t5, t6, t7, t8, t9, t10, t11, t12, t13, r1, r2, r4, r5, r8, r9, r10, r11, r12, r13, r14, r15, r16, hn⟩ := hk
  have z3 := hz9.1
  have hz1 := fail1_ZV hz9 hc h12 hs
  have k1 := hz1.2.2.2.2.2.2.2.2 c hc
  obtain ⟨b, hb⟩ : ∃ b : Nat, b = (m_fail1 I c 111 (978 + c)).toNat := ⟨_, rfl⟩
  have w1 := fun h => hz1.2.2.2.2.2.2.2.1 b h
  refine Sp.of [some (.ref (E.1 + 110)), some (.int (iz (c : Int)))] (by decide +kernel) (Nat.le_of_ble_eq_true rfl) (fun _ h => h) ?_
  refine g_aload0 (Y := Y_X5_failIt) (pc' := 1) dX5_failIt_0 rfl ?_
  refine g_getR (Y := Y_X5_failIt) (pc' := 4) dX5_failIt_1 rfl fl_X5_7 rfl (by assumption) (by omega) (by assumption) ?_
  refine g_bipush (Y := Y_X5_failIt) (pc' := 6) dX5_failIt_4 rfl (by decide) ?_
  refine g_aload0 (Y := Y_X5_failIt) (pc' := 7) dX5_failIt_6 rfl ?_
  refine g_getR (Y := Y_X5_failIt) (pc' := 10) dX5_failIt_7 rfl fl_X5_7 rfl (by assumption) (by omega) (by assumption) ?_
  refine g_iconst (Y := Y_X5_failIt) (pc' := 11) dX5_failIt_10 rfl ?_
  refine g_iald (Y := Y_X5_failIt) (pc' := 12) dX5_failIt_11 rfl (by assumption) (by omega) (by decide) ⟨by omega, by omega⟩ ?_
  rw [show Int.toNat 3 = 3 from rfl]
  refine g_iadd (Y := Y_X5_failIt) (pc' := 13) dX5_failIt_12 rfl ?_
  refine g_iload1 (Y := Y_X5_failIt) (pc' := 14) dX5_failIt_13 rfl ?_
  refine g_iast (Y := Y_X5_failIt) (pc' := 15) dX5_failIt_14 rfl (by assumption) (by omega) (by decide) ⟨by omega, by omega⟩ ?_
  refine g_aload0 (Y := Y_X5_failIt) (pc' := 16) dX5_failIt_15 rfl ?_
  refine g_getR (Y := Y_X5_failIt) (pc' := 19) dX5_failIt_16 rfl fl_X5_7 rfl (by assumption) (by omega) (by assumption) ?_
  refine g_iconst (Y := Y_X5_failIt) (pc' := 20) dX5_failIt_19 rfl ?_
  
  refine g_dup2 (Y := Y_X5_failIt) (pc' := 21) dX5_failIt_20 rfl rfl rfl ?_
  refine g_iald (Y := Y_X5_failIt) (pc' := 22) dX5_failIt_21 rfl (by assumption) (by omega) (by decide) ⟨by omega, by omega⟩ ?_
  refine g_iconst (Y := Y_X5_failIt) (pc' := 23) dX5_failIt_22 rfl ?_
  refine g_iadd (Y := Y_X5_failIt) (pc' := 24) dX5_failIt_23 rfl ?_
  refine g_iast (Y := Y_X5_failIt) (pc' := 25) dX5_failIt_24 rfl (by assumption) (by omega) (by decide) ⟨by omega, by omega⟩ ?_
  refine g_aload0 (Y := Y_X5_failIt) (pc' := 26) dX5_failIt_25 rfl ?_
  refine g_iload1 (Y := Y_X5_failIt) (pc' := 27) dX5_failIt_26 rfl ?_
  refine g_callVv (Y := Y_X5_failIt) (c := 5) (s_X5_taken (I := m_fail1 I c) hk0 c hc) (pc' := 30) dX5_failIt_27 rfl cv_X5_108 rfl (by assumption) (by show _ < n; omega) ⟨by decide, _, rfl, rfl⟩ rfl rfl rfl rfl ?_
  refine g_iconst (Y := Y_X5_failIt) (pc' := 31) dX5_failIt_30 rfl ?_
  refine g_icmp_eq (Y := Y_X5_failIt) (t := 53) (pc' := 34) dX5_failIt_31 (by decide) rfl ⟨by omega, by omega⟩ ⟨by omega, by omega⟩ (fun h31 => ?_) (fun h31 => ?_)
  · have e : m_failIt I c = m_fail1 I c := if_pos h31
    rw [e]
    exact g_vret (Y := Y_X5_failIt) dX5_failIt_53 rfl (Nat.zero_le _) (Nat.zero_le _) (⟨rfl, rfl⟩)
  · have e : m_failIt I c = m_fail2 (m_lose (m_fail1 I c) (m_fail1 I c 111 (978 + c)).toNat) := if_neg h31
    rw [e, ← hb]
    have hbc : m_fail1 I c 111 (978 + c) = (b : Int) := by omega
    refine g_aload0 (Y := Y_X5_failIt) (pc' := 35) dX5_failIt_34 rfl ?_
    refine g_aload0 (Y := Y_X5_failIt) (pc' := 36) dX5_failIt_35 rfl ?_
    refine g_iload1 (Y := Y_X5_failIt) (pc' := 37) dX5_failIt_36 rfl ?_
    refine g_callVv (Y := Y_X5_failIt) (c := 5) (s_X5_taken (I := m_fail1 I c) hk0 c hc) (pc' := 40) dX5_failIt_37 rfl cv_X5_108 rfl (by assumption) (by show _ < n; omega) ⟨by decide, _, rfl, rfl⟩ rfl rfl rfl rfl ?_
    rw [hbc]
    refine g_callVn (Y := Y_X5_failIt) (c := 5) (s_X5_lose (I := m_fail1 I c) hk0 b (by omega) (w1 (by omega))) (pc' := 43) dX5_failIt_40 rfl cv_X5_139 rfl (by assumption) (by show _ < n; omega) ⟨by decide, _, rfl, rfl⟩ rfl rfl rfl rfl ?_
    refine g_aload0 (Y := Y_X5_failIt) (pc' := 44) dX5_failIt_43 rfl ?_
    refine g_getR (Y := Y_X5_failIt) (pc' := 47) dX5_failIt_44 rfl fl_X5_7 rfl (by assumption) (by omega) (by assumption) ?_
    refine g_iconst (Y := Y_X5_failIt) (pc' := 48) dX5_failIt_47 rfl ?_
    refine g_dup2 (Y := Y_X5_failIt) (pc' := 49) dX5_failIt_48 rfl rfl rfl ?_
    refine g_iald (Y := Y_X5_failIt) (pc' := 50) dX5_failIt_49 rfl (by assumption) (by omega) (by decide) ⟨by omega, by omega⟩ ?_
    refine g_iconst (Y := Y_X5_failIt) (pc' := 51) dX5_failIt_50 rfl ?_
    refine g_iadd (Y := Y_X5_failIt) (pc' := 52) dX5_failIt_51 rfl ?_
    refine g_iast (Y := Y_X5_failIt) (pc' := 53) dX5_failIt_52 rfl (by assumption) (by omega) (by decide) ⟨by omega, by omega⟩ ?_
    exact g_vret (Y := Y_X5_failIt) dX5_failIt_53 rfl (Nat.zero_le _) (Nat.zero_le _) (⟨rfl, rfl⟩)
set_option maxHeartbeats 2000000 in
set_option maxRecDepth 100000 in
theorem s_X5_healIt_lp {l : Launch} {E : QE} {T : Nat → Nat × Nat} {J : Nat → Nat → Int64} {R : Nat → Nat → Option Nat} {n z : Nat} (hk : MdB T R n) {x x2 : Int} : ∀ (f k9 : Nat) (I : Nat → Nat → Int), (k9 : Int) + f = I 111 3 → I 111 3 ≤ 11 → Go l E Y_X5_healIt 0 0 18 [some (.ref (E.1 + 110)), some (.int (iz x)), some (.int (iz x2)), some (.int (iz (k9 : Int)))] [] (T, I, J, R, n, z) (KN (T, m_hl9 (m_hl f k9 I), J, R, n, z)) := by
  have hk0 := hk
  obtain ⟨t0, t1, t2, t3, t4, t5, t6, t7, t8, t9, t10, t11, t12, t13, r1, r2, r4, r5, r8, r9, r10, r11, r12, r13, r14, r15, r16, hn⟩ := hk
  intro f
  induction f with
  | zero =>
    intro k9 I hf h11
    refine g_iload3 (Y := Y_X5_healIt) (pc' := 19) dX5_healIt_18 rfl ?_
    refine g_aload0 (Y := Y_X5_healIt) (pc' := 20) dX5_healIt_19 rfl ?_
    refine g_getR (Y := Y_X5_healIt) (pc' := 23) dX5_healIt_20 rfl fl_X5_7 rfl (by assumption) (by omega) (by assumption) ?_
    refine g_iconst (Y := Y_X5_healIt) (pc' := 24) dX5_healIt_23 rfl ?_
    refine g_iald (Y := Y_X5_healIt) (pc' := 25) dX5_healIt_24 rfl (by assumption) (by omega) (by decide) ⟨by omega, by omega⟩ ?_
    rw [show Int.toNat 3 = 3 from rfl]
    refine g_icmp_ge (Y := Y_X5_healIt) (t := 54) (pc' := 28) dX5_healIt_25 (by decide) rfl ⟨by omega, by omega⟩ ⟨by omega, by omega⟩ (fun h25 => ?_) (fun h25 => ?_)
    · refine g_aload0 (Y := Y_X5_healIt) (pc' := 55) dX5_healIt_54 rfl ?_
      refine g_getR (Y := Y_X5_healIt) (pc' := 58) dX5_healIt_55 rfl fl_X5_7 rfl (by assumption) (by omega) (by assumption) ?_
      refine g_bipush (Y := Y_X5_healIt) (pc' := 60) dX5_healIt_58 rfl (by decide) ?_
      refine g_aload0 (Y := Y_X5_healIt) (pc' := 61) dX5_healIt_60 rfl ?_
      refine g_getR (Y := Y_X5_healIt) (pc' := 64) dX5_healIt_61 rfl fl_X5_7 rfl (by assumption) (by omega) (by assumption) ?_
      refine g_iconst (Y := Y_X5_healIt) (pc' := 65) dX5_healIt_64 rfl ?_
      refine g_iald (Y := Y_X5_healIt) (pc' := 66) dX5_healIt_65 rfl (by assumption) (by omega) (by decide) ⟨by omega, by omega⟩ ?_
      rw [show Int.toNat 3 = 3 from rfl]
      refine g_iadd (Y := Y_X5_healIt) (pc' := 67) dX5_healIt_66 rfl ?_
      refine g_iconst (Y := Y_X5_healIt) (pc' := 68) dX5_healIt_67 rfl ?_
      refine g_iast (Y := Y_X5_healIt) (pc' := 69) dX5_healIt_68 rfl (by assumption) (by omega) (by decide) ⟨by omega, by omega⟩ ?_
      exact g_vret (Y := Y_X5_healIt) dX5_healIt_69 rfl (Nat.zero_le _) (Nat.zero_le _) (⟨rfl, rfl⟩)
    · exfalso; omega
  | succ f ih =>
    intro k9 I hf h11
    have e3 : u2 I 111 (6 + k9) (I 111 (6 + k9 + 1)) 111 3 = I 111 3 := by rw [u2k, if_neg (by omega)]
    refine g_iload3 (Y := Y_X5_healIt) (pc' := 19) dX5_healIt_18 rfl ?_
    refine g_aload0 (Y := Y_X5_healIt) (pc' := 20) dX5_healIt_19 rfl ?_
    refine g_getR (Y := Y_X5_healIt) (pc' := 23) dX5_healIt_20 rfl fl_X5_7 rfl (by assumption) (by omega) (by assumption) ?_
    refine g_iconst (Y := Y_X5_healIt) (pc' := 24) dX5_healIt_23 rfl ?_
    refine g_iald (Y := Y_X5_healIt) (pc' := 25) dX5_healIt_24 rfl (by assumption) (by omega) (by decide) ⟨by omega, by omega⟩ ?_
    rw [show Int.toNat 3 = 3 from rfl]
    refine g_icmp_ge (Y := Y_X5_healIt) (t := 54) (pc' := 28) dX5_healIt_25 (by decide) rfl ⟨by omega, by omega⟩ ⟨by omega, by omega⟩ (fun h25 => ?_) (fun h25 => ?_)
    · exfalso; omega
    · refine g_aload0 (Y := Y_X5_healIt) (pc' := 29) dX5_healIt_28 rfl ?_
      refine g_getR (Y := Y_X5_healIt) (pc' := 32) dX5_healIt_29 rfl fl_X5_7 rfl (by assumption) (by omega) (by assumption) ?_
      refine g_bipush (Y := Y_X5_healIt) (pc' := 34) dX5_healIt_32 rfl (by decide) ?_
      refine g_iload3 (Y := Y_X5_healIt) (pc' := 35) dX5_healIt_34 rfl ?_
      refine g_iadd (Y := Y_X5_healIt) (pc' := 36) dX5_healIt_35 rfl ?_
      refine g_aload0 (Y := Y_X5_healIt) (pc' := 37) dX5_healIt_36 rfl ?_
      refine g_getR (Y := Y_X5_healIt) (pc' := 40) dX5_healIt_37 rfl fl_X5_7 rfl (by assumption) (by omega) (by assumption) ?_
      refine g_bipush (Y := Y_X5_healIt) (pc' := 42) dX5_healIt_40 rfl (by decide) ?_
      refine g_iload3 (Y := Y_X5_healIt) (pc' := 43) dX5_healIt_42 rfl ?_
      refine g_iadd (Y := Y_X5_healIt) (pc' := 44) dX5_healIt_43 rfl ?_
      refine g_iconst (Y := Y_X5_healIt) (pc' := 45) dX5_healIt_44 rfl ?_
      refine g_iadd (Y := Y_X5_healIt) (pc' := 46) dX5_healIt_45 rfl ?_
      refine g_iald (Y := Y_X5_healIt) (pc' := 47) dX5_healIt_46 rfl (by assumption) (by omega) (by decide) ⟨by omega, by omega⟩ ?_
      rw [show ((6 : Int) + (k9 : Int) + 1).toNat = 6 + k9 + 1 by omega]
      refine g_iast (Y := Y_X5_healIt) (pc' := 48) dX5_healIt_47 rfl (by assumption) (by omega) (by decide) ⟨by omega, by omega⟩ ?_
      rw [show ((6 : Int) + (k9 : Int)).toNat = 6 + k9 by omega]
      refine g_iinc3 (Y := Y_X5_healIt) (pc' := 51) dX5_healIt_48 rfl (Nat.le_of_ble_eq_true rfl) rfl ?_
      refine g_goto (Y := Y_X5_healIt) (t := 18) dX5_healIt_51 (by decide) ?_
      exact ih (k9 + 1) _ (by rw [e3]; omega) (by rw [e3]; omega)
set_option maxHeartbeats 2000000 in
set_option maxRecDepth 100000 in
theorem s_X5_healIt {l : Launch} {E : QE} {T : Nat → Nat × Nat} {I : Nat → Nat → Int} {J : Nat → Nat → Int64} {R : Nat → Nat → Option Nat} {n z : Nat} (hk : MdB T R n) (hz9 : ZV I) (x : Int) (hx : -2147483648 ≤ x ∧ x < 2147483648) (hs : ¬ m_spotAt I x = -1) : SpN l E Y_X5_healIt [.ref (E.1 + 110), .int (iz x)] (T, I, J, R, n, z) (T, m_healIt I x, J, R, n, z) := by
  have hk0 := hk
  obtain ⟨t0, t1, t2, t3, t4, t5, t6, t7, t8, t9, t10, t11, t12, t13, r1, r2, r4, r5, r8, r9, r10, r11, r12, r13, r14, r15, r16, hn⟩ := hk
  have z3 := hz9.1
  obtain ⟨k9, h1, h2, h3⟩ : ∃ k : Nat, (k : Int) < I 111 3 ∧ I 111 (6 + k) = x ∧ m_spotAt I x = (k : Int) := by
    rcases m_spotAt_spec hz9 x with ⟨h, -⟩ | h
    · exact absurd h hs
    · exact h
  have e3 : m_hl0 I 111 3 = I 111 3 - 1 := by unfold m_hl0; rw [u2k, if_pos rfl]
  have e : m_healIt I x = m_hl9 (m_hl (I 111 3 - 1 - (k9 : Int)).toNat k9 (m_hl0 I)) := by unfold m_healIt; rw [h3]; rfl
  rw [e]
  refine Sp.of [some (.ref (E.1 + 110)), some (.int (iz x)), none, none] (by decide +kernel) (Nat.le_of_ble_eq_true rfl) (fun _ h => h) ?_
  refine g_aload0 (Y := Y_X5_healIt) (pc' := 1) dX5_healIt_0 rfl ?_
  refine g_iload1 (Y := Y_X5_healIt) (pc' := 2) dX5_healIt_1 rfl ?_
  refine g_callVv (Y := Y_X5_healIt) (c := 5) (s_X5_spotAt hk0 hz9 x hx) (pc' := 5) dX5_healIt_2 rfl cv_X5_143 rfl (by assumption) (by show _ < n; omega) ⟨by decide, _, rfl, rfl⟩ rfl rfl rfl rfl ?_
  rw [h3]
  refine g_istore2 (Y := Y_X5_healIt) (pc' := 6) dX5_healIt_5 rfl (Nat.le_of_ble_eq_true rfl) rfl ?_
  refine g_aload0 (Y := Y_X5_healIt) (pc' := 7) dX5_healIt_6 rfl ?_
  refine g_getR (Y := Y_X5_healIt) (pc' := 10) dX5_healIt_7 rfl fl_X5_7 rfl (by assumption) (by omega) (by assumption) ?_
  refine g_iconst (Y := Y_X5_healIt) (pc' := 11) dX5_healIt_10 rfl ?_
  refine g_dup2 (Y := Y_X5_healIt) (pc' := 12) dX5_healIt_11 rfl rfl rfl ?_
  refine g_iald (Y := Y_X5_healIt) (pc' := 13) dX5_healIt_12 rfl (by assumption) (by omega) (by decide) ⟨by omega, by omega⟩ ?_
  refine g_iconst (Y := Y_X5_healIt) (pc' := 14) dX5_healIt_13 rfl ?_
  refine g_isub (Y := Y_X5_healIt) (pc' := 15) dX5_healIt_14 rfl ?_
  refine g_iast (Y := Y_X5_healIt) (pc' := 16) dX5_healIt_15 rfl (by assumption) (by omega) (by decide) ⟨by omega, by omega⟩ ?_
  refine g_iload2 (Y := Y_X5_healIt) (pc' := 17) dX5_healIt_16 rfl ?_
  refine g_istore3 (Y := Y_X5_healIt) (pc' := 18) dX5_healIt_17 rfl (Nat.le_of_ble_eq_true rfl) rfl ?_
  exact s_X5_healIt_lp hk0 (I 111 3 - 1 - (k9 : Int)).toNat k9 (m_hl0 I) (by rw [e3]; omega) (by rw [e3]; omega)
