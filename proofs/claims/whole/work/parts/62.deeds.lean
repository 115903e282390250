/-! the reference: a block is brought, is lost -/
set_option maxHeartbeats 2000000 in
set_option maxRecDepth 100000 in
theorem s_X5_bringTo {l : Launch} {E : QE} {T : Nat → Nat × Nat} {I : Nat → Nat → Int} {J : Nat → Nat → Int64} {R : Nat → Nat → Option Nat} {n z : Nat} (hk : MdB T R n) (hz9 : ZV I) (b : Nat) (hb : b < 480) (c : Int) (hc : 0 ≤ c ∧ c < 576) : SpN l E Y_X5_bringTo [.ref (E.1 + 110), .int (iz (b : Int)), .int (iz c)] (T, I, J, R, n, z) (T, m_bring I b c, J, R, n, z) := by
  have hk0 := hk
  obtain ⟨t0, t1, t2, t3, t4, t5, t6, t7, t8, t9, t10, t11, t12, t13, r1, r2, r4, r5, r8, r9, r10, r11, r12, r13, r14, r15, r16, hn⟩ := hk
  have w := hz9.2.2.2.2.2.2.2.1 b hb
  have hmid : ∀ I1 : Nat → Nat → Int, Go l E Y_X5_bringTo 0 0 43 [some (.ref (E.1 + 110)), some (.int (iz (b : Int))), some (.int (iz c))] [] (T, I1, J, R, n, z) (KN (T, m_brg2 I1 b c, J, R, n, z)) := by
    intro I1
    refine g_aload0 (Y := Y_X5_bringTo) (pc' := 44) dX5_bringTo_43 rfl ?_
    refine g_getR (Y := Y_X5_bringTo) (pc' := 47) dX5_bringTo_44 rfl fl_X5_7 rfl (by assumption) (by omega) (by assumption) ?_
    refine g_sipush (Y := Y_X5_bringTo) (pc' := 50) dX5_bringTo_47 rfl (by decide) ?_
    refine g_iload1 (Y := Y_X5_bringTo) (pc' := 51) dX5_bringTo_50 rfl ?_
    refine g_iadd (Y := Y_X5_bringTo) (pc' := 52) dX5_bringTo_51 rfl ?_
    refine g_iload2 (Y := Y_X5_bringTo) (pc' := 53) dX5_bringTo_52 rfl ?_
    
    refine g_iast (Y := Y_X5_bringTo) (pc' := 54) dX5_bringTo_53 rfl (by assumption) (by omega) (by decide) ⟨by omega, by omega⟩ ?_
    refine g_aload0 (Y := Y_X5_bringTo) (pc' := 55) dX5_bringTo_54 rfl ?_
    refine g_getR (Y := Y_X5_bringTo) (pc' := 58) dX5_bringTo_55 rfl fl_X5_7 rfl (by assumption) (by omega) (by assumption) ?_
    refine g_sipush (Y := Y_X5_bringTo) (pc' := 61) dX5_bringTo_58 rfl (by decide) ?_
    refine g_iload2 (Y := Y_X5_bringTo) (pc' := 62) dX5_bringTo_61 rfl ?_
    refine g_iadd (Y := Y_X5_bringTo) (pc' := 63) dX5_bringTo_62 rfl ?_
    refine g_iload1 (Y := Y_X5_bringTo) (pc' := 64) dX5_bringTo_63 rfl ?_
    refine g_iast (Y := Y_X5_bringTo) (pc' := 65) dX5_bringTo_64 rfl (by assumption) (by omega) (by decide) ⟨by omega, by omega⟩ ?_
    exact g_vret (Y := Y_X5_bringTo) dX5_bringTo_65 rfl (Nat.zero_le _) (Nat.zero_le _) (⟨rfl, by unfold m_brg2; rw [show (498 + (b : Int)).toNat = 498 + b by omega]⟩)
  refine Sp.of [some (.ref (E.1 + 110)), some (.int (iz (b : Int))), some (.int (iz c))] (by decide +kernel) (Nat.le_of_ble_eq_true rfl) (fun _ h => h) ?_
  refine g_aload0 (Y := Y_X5_bringTo) (pc' := 1) dX5_bringTo_0 rfl ?_
  refine g_iload1 (Y := Y_X5_bringTo) (pc' := 2) dX5_bringTo_1 rfl ?_
  refine g_callVv (Y := Y_X5_bringTo) (c := 5) (s_X5_where hk0 b (by omega)) (pc' := 5) dX5_bringTo_2 rfl cv_X5_111 rfl (by assumption) (by show _ < n; omega) ⟨by decide, _, rfl, rfl⟩ rfl rfl rfl rfl ?_
  refine g_iconst (Y := Y_X5_bringTo) (pc' := 6) dX5_bringTo_5 rfl ?_
  refine g_icmp_eq (Y := Y_X5_bringTo) (t := 43) (pc' := 9) dX5_bringTo_6 (by decide) rfl ⟨by omega, by omega⟩ ⟨by omega, by omega⟩ (fun h6 => ?_) (fun h6 => ?_)
  · have e : m_bring I b c = m_brg2 I b c := by unfold m_bring; rw [if_neg (fun q9 => q9.1 h6)]
    rw [e]
    exact hmid _
  · refine g_aload0 (Y := Y_X5_bringTo) (pc' := 10) dX5_bringTo_9 rfl ?_
    refine g_iload1 (Y := Y_X5_bringTo) (pc' := 11) dX5_bringTo_10 rfl ?_
    refine g_callVv (Y := Y_X5_bringTo) (c := 5) (s_X5_where hk0 b (by omega)) (pc' := 14) dX5_bringTo_11 rfl cv_X5_111 rfl (by assumption) (by show _ < n; omega) ⟨by decide, _, rfl, rfl⟩ rfl rfl rfl rfl ?_
    refine g_iload2 (Y := Y_X5_bringTo) (pc' := 15) dX5_bringTo_14 rfl ?_
    refine g_icmp_eq (Y := Y_X5_bringTo) (t := 43) (pc' := 18) dX5_bringTo_15 (by decide) rfl ⟨by omega, by omega⟩ ⟨by omega, by omega⟩ (fun h15 => ?_) (fun h15 => ?_)
    · have e : m_bring I b c = m_brg2 I b c := by unfold m_bring; rw [if_neg (fun q9 => q9.2 h15)]
      rw [e]
      exact hmid _
    · have e : m_bring I b c = m_brg2 (m_brg1 I b) b c := by unfold m_bring; rw [if_pos ⟨h6, h15⟩]
      rw [e]
      refine g_aload0 (Y := Y_X5_bringTo) (pc' := 19) dX5_bringTo_18 rfl ?_
      refine g_getR (Y := Y_X5_bringTo) (pc' := 22) dX5_bringTo_19 rfl fl_X5_7 rfl (by assumption) (by omega) (by assumption) ?_
      refine g_sipush (Y := Y_X5_bringTo) (pc' := 25) dX5_bringTo_22 rfl (by decide) ?_
      refine g_aload0 (Y := Y_X5_bringTo) (pc' := 26) dX5_bringTo_25 rfl ?_
      refine g_iload1 (Y := Y_X5_bringTo) (pc' := 27) dX5_bringTo_26 rfl ?_
      refine g_callVv (Y := Y_X5_bringTo) (c := 5) (s_X5_where hk0 b (by omega)) (pc' := 30) dX5_bringTo_27 rfl cv_X5_111 rfl (by assumption) (by show _ < n; omega) ⟨by decide, _, rfl, rfl⟩ rfl rfl rfl rfl ?_
      refine g_iadd (Y := Y_X5_bringTo) (pc' := 31) dX5_bringTo_30 rfl ?_
      refine g_iconst (Y := Y_X5_bringTo) (pc' := 32) dX5_bringTo_31 rfl ?_
      refine g_iast (Y := Y_X5_bringTo) (pc' := 33) dX5_bringTo_32 rfl (by assumption) (by omega) (by decide) ⟨by omega, by omega⟩ ?_
      refine g_aload0 (Y := Y_X5_bringTo) (pc' := 34) dX5_bringTo_33 rfl ?_
      refine g_getR (Y := Y_X5_bringTo) (pc' := 37) dX5_bringTo_34 rfl fl_X5_7 rfl (by assumption) (by omega) (by assumption) ?_
      refine g_iconst (Y := Y_X5_bringTo) (pc' := 38) dX5_bringTo_37 rfl ?_
      refine g_dup2 (Y := Y_X5_bringTo) (pc' := 39) dX5_bringTo_38 rfl rfl rfl ?_
      refine g_iald (Y := Y_X5_bringTo) (pc' := 40) dX5_bringTo_39 rfl (by assumption) (by omega) (by decide) ⟨by omega, by omega⟩ ?_
      refine g_iconst (Y := Y_X5_bringTo) (pc' := 41) dX5_bringTo_40 rfl ?_
      refine g_iadd (Y := Y_X5_bringTo) (pc' := 42) dX5_bringTo_41 rfl ?_
      refine g_iast (Y := Y_X5_bringTo) (pc' := 43) dX5_bringTo_42 rfl (by assumption) (by omega) (by decide) ⟨by omega, by omega⟩ ?_
      exact hmid _
def m_lose (I : Nat → Nat → Int) (b : Nat) : Nat → Nat → Int := u2 (u2 (u2 I 111 (978 + I 111 (498 + b)).toNat (-1)) 111 (498 + b) (-1)) 111 (18 + b) (-1)
set_option maxHeartbeats 2000000 in
set_option maxRecDepth 100000 in
theorem s_X5_lose {l : Launch} {E : QE} {T : Nat → Nat × Nat} {I : Nat → Nat → Int} {J : Nat → Nat → Int64} {R : Nat → Nat → Option Nat} {n z : Nat} (hk : MdB T R n) (b : Nat) (hb : b < 480) (w : -1 ≤ I 111 (498 + b) ∧ I 111 (498 + b) < 576) : SpN l E Y_X5_lose [.ref (E.1 + 110), .int (iz (b : Int))] (T, I, J, R, n, z) (T, m_lose I b, J, R, n, z) := by
  have hk0 := hk
  obtain ⟨t0, t1, t2, t3, t4, t5, t6, t7, t8, t9, t10, t11, t12, t13, r1, r2, r4, r5, r8, r9, r10, r11, r12, r13, r14, r15, r16, hn⟩ := hk
  refine Sp.of [some (.ref (E.1 + 110)), some (.int (iz (b : Int)))] (by decide +kernel) (Nat.le_of_ble_eq_true rfl) (fun _ h => h) ?_
  refine g_aload0 (Y := Y_X5_lose) (pc' := 1) dX5_lose_0 rfl ?_
  refine g_getR (Y := Y_X5_lose) (pc' := 4) dX5_lose_1 rfl fl_X5_7 rfl (by assumption) (by omega) (by assumption) ?_
  refine g_sipush (Y := Y_X5_lose) (pc' := 7) dX5_lose_4 rfl (by decide) ?_
  refine g_aload0 (Y := Y_X5_lose) (pc' := 8) dX5_lose_7 rfl ?_
  refine g_iload1 (Y := Y_X5_lose) (pc' := 9) dX5_lose_8 rfl ?_
  refine g_callVv (Y := Y_X5_lose) (c := 5) (s_X5_where hk0 b (by omega)) (pc' := 12) dX5_lose_9 rfl cv_X5_111 rfl (by assumption) (by show _ < n; omega) ⟨by decide, _, rfl, rfl⟩ rfl rfl rfl rfl ?_
  refine g_iadd (Y := Y_X5_lose) (pc' := 13) dX5_lose_12 rfl ?_
  refine g_iconst (Y := Y_X5_lose) (pc' := 14) dX5_lose_13 rfl ?_
  refine g_iast (Y := Y_X5_lose) (pc' := 15) dX5_lose_14 rfl (by assumption) (by omega) (by decide) ⟨by omega, by omega⟩ ?_
  refine g_aload0 (Y := Y_X5_lose) (pc' := 16) dX5_lose_15 rfl ?_
  refine g_getR (Y := Y_X5_lose) (pc' := 19) dX5_lose_16 rfl fl_X5_7 rfl (by assumption) (by omega) (by assumption) ?_
  refine g_sipush (Y := Y_X5_lose) (pc' := 22) dX5_lose_19 rfl (by decide) ?_
  refine g_iload1 (Y := Y_X5_lose) (pc' := 23) dX5_lose_22 rfl ?_
  refine g_iadd (Y := Y_X5_lose) (pc' := 24) dX5_lose_23 rfl ?_
  refine g_iconst (Y := Y_X5_lose) (pc' := 25) dX5_lose_24 rfl ?_
  refine g_iast (Y := Y_X5_lose) (pc' := 26) dX5_lose_25 rfl (by assumption) (by omega) (by decide) ⟨by omega, by omega⟩ ?_
  refine g_aload0 (Y := Y_X5_lose) (pc' := 27) dX5_lose_26 rfl ?_
  refine g_getR (Y := Y_X5_lose) (pc' := 30) dX5_lose_27 rfl fl_X5_7 rfl (by assumption) (by omega) (by assumption) ?_
  refine g_bipush (Y := Y_X5_lose) (pc' := 32) dX5_lose_30 rfl (by decide) ?_
  refine g_iload1 (Y := Y_X5_lose) (pc' := 33) dX5_lose_32 rfl ?_
  refine g_iadd (Y := Y_X5_lose) (pc' := 34) dX5_lose_33 rfl ?_
  refine g_iconst (Y := Y_X5_lose) (pc' := 35) dX5_lose_34 rfl ?_
  refine g_iast (Y := Y_X5_lose) (pc' := 36) dX5_lose_35 rfl (by assumption) (by omega) (by decide) ⟨by omega, by omega⟩ ?_
  exact g_vret (Y := Y_X5_lose) dX5_lose_36 rfl (Nat.zero_le _) (Nat.zero_le _) (⟨rfl, by unfold m_lose; rw [show (498 + (b : Int)).toNat = 498 + b by omega, show (18 + (b : Int)).toNat = 18 + b by omega]⟩)
def m_can (I : Nat → Nat → Int) (x : Int) : Int := if I 111 3 < 12 ∧ m_spotAt I x = -1 then 1 else 0
set_option maxHeartbeats 2000000 in
set_option maxRecDepth 100000 in
theorem s_X5_canFail {l : Launch} {E : QE} {T : Nat → Nat × Nat} {I : Nat → Nat → Int} {J : Nat → Nat → Int64} {R : Nat → Nat → Option Nat} {n z : Nat} (hk : MdB T R n) (hz9 : ZV I) (x : Int) (hx : -2147483648 ≤ x ∧ x < 2147483648) : SpV l E Y_X5_canFail [.ref (E.1 + 110), .int (iz x)] (T, I, J, R, n, z) (.int (iz (m_can I x))) (T, I, J, R, n, z) := by
  have hk0 := hk
  obtain ⟨t0, t1, t2, t3, t4, t5, t6, t7, t8, t9, t10, t11, t12, t13, r1, r2, r4, r5, r8, r9, r10, r11, r12, r13, r14, r15, r16, hn⟩ := hk
  obtain ⟨z3, zs, zs0, zd, zt, zt2, zv, zw, zk⟩ := id hz9
  have fr := fndL_rg (fun k => I 111 (6 + k)) x (I 111 3).toNat 0 (-1) (by decide) (by decide)
  have fr2 : -1 ≤ m_spotAt I x ∧ m_spotAt I x < (0 : Nat) + (I 111 3).toNat := fr
  refine Sp.of [some (.ref (E.1 + 110)), some (.int (iz x))] (by decide +kernel) (Nat.le_of_ble_eq_true rfl) (fun _ h => h) ?_
  refine g_aload0 (Y := Y_X5_canFail) (pc' := 1) dX5_canFail_0 rfl ?_
  refine g_getR (Y := Y_X5_canFail) (pc' := 4) dX5_canFail_1 rfl fl_X5_7 rfl (by assumption) (by omega) (by assumption) ?_
  refine g_iconst (Y := Y_X5_canFail) (pc' := 5) dX5_canFail_4 rfl ?_
  refine g_iald (Y := Y_X5_canFail) (pc' := 6) dX5_canFail_5 rfl (by assumption) (by omega) (by decide) ⟨by omega, by omega⟩ ?_
  rw [show Int.toNat 3 = 3 from rfl]
  refine g_bipush (Y := Y_X5_canFail) (pc' := 8) dX5_canFail_6 rfl (by decide) ?_
  refine g_icmp_ge (Y := Y_X5_canFail) (t := 24) (pc' := 11) dX5_canFail_8 (by decide) rfl ⟨by omega, by omega⟩ ⟨by omega, by omega⟩ (fun h8 => ?_) (fun h8 => ?_)
  · have e : m_can I x = 0 := if_neg (by omega)
    rw [e]
    refine g_iconst (Y := Y_X5_canFail) (pc' := 25) dX5_canFail_24 rfl ?_
    exact g_zret (Y := Y_X5_canFail) dX5_canFail_25 rfl (by decide) (Nat.zero_le _) (Nat.zero_le _) (⟨rfl, rfl⟩)
  · refine g_aload0 (Y := Y_X5_canFail) (pc' := 12) dX5_canFail_11 rfl ?_
    refine g_iload1 (Y := Y_X5_canFail) (pc' := 13) dX5_canFail_12 rfl ?_
    refine g_callVv (Y := Y_X5_canFail) (c := 5) (s_X5_spotAt hk0 hz9 x hx) (pc' := 16) dX5_canFail_13 rfl cv_X5_143 rfl (by assumption) (by show _ < n; omega) ⟨by decide, _, rfl, rfl⟩ rfl rfl rfl rfl ?_
    refine g_iconst (Y := Y_X5_canFail) (pc' := 17) dX5_canFail_16 rfl ?_
    refine g_icmp_ne (Y := Y_X5_canFail) (t := 24) (pc' := 20) dX5_canFail_17 (by decide) rfl ⟨by omega, by omega⟩ ⟨by omega, by omega⟩ (fun h17 => ?_) (fun h17 => ?_)
    · have e : m_can I x = 0 := if_neg (fun q9 => h17 q9.2)
      rw [e]
      refine g_iconst (Y := Y_X5_canFail) (pc' := 25) dX5_canFail_24 rfl ?_
      exact g_zret (Y := Y_X5_canFail) dX5_canFail_25 rfl (by decide) (Nat.zero_le _) (Nat.zero_le _) (⟨rfl, rfl⟩)
    · have e : m_can I x = 1 := if_pos ⟨by omega, h17⟩
      rw [e]
      refine g_iconst (Y := Y_X5_canFail) (pc' := 21) dX5_canFail_20 rfl ?_
      refine g_goto (Y := Y_X5_canFail) (t := 25) dX5_canFail_21 (by decide) ?_
      exact g_zret (Y := Y_X5_canFail) dX5_canFail_25 rfl (by decide) (Nat.zero_le _) (Nat.zero_le _) (⟨rfl, rfl⟩)
