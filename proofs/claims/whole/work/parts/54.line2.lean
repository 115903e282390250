/-! the reference: a line is laid, as a whole -/
theorem ne_110_115 {I : Nat → Nat → Int} {j : Nat} {x : Int} : u2 I 115 j x 110 = I 110 := u2_ne (by decide)
theorem ne_110_116 {I : Nat → Nat → Int} {j : Nat} {x : Int} : u2 I 116 j x 110 = I 110 := u2_ne (by decide)
theorem ne_110_117 {I : Nat → Nat → Int} {j : Nat} {x : Int} : u2 I 117 j x 110 = I 110 := u2_ne (by decide)
theorem ne_110_118 {I : Nat → Nat → Int} {j : Nat} {x : Int} : u2 I 118 j x 110 = I 110 := u2_ne (by decide)
theorem ne_110_119 {I : Nat → Nat → Int} {j : Nat} {x : Int} : u2 I 119 j x 110 = I 110 := u2_ne (by decide)
theorem ne_110_120 {I : Nat → Nat → Int} {j : Nat} {x : Int} : u2 I 120 j x 110 = I 110 := u2_ne (by decide)
theorem ne_111_115 {I : Nat → Nat → Int} {j : Nat} {x : Int} : u2 I 115 j x 111 = I 111 := u2_ne (by decide)
theorem ne_111_116 {I : Nat → Nat → Int} {j : Nat} {x : Int} : u2 I 116 j x 111 = I 111 := u2_ne (by decide)
theorem ne_111_117 {I : Nat → Nat → Int} {j : Nat} {x : Int} : u2 I 117 j x 111 = I 111 := u2_ne (by decide)
theorem ne_111_118 {I : Nat → Nat → Int} {j : Nat} {x : Int} : u2 I 118 j x 111 = I 111 := u2_ne (by decide)
theorem ne_111_119 {I : Nat → Nat → Int} {j : Nat} {x : Int} : u2 I 119 j x 111 = I 111 := u2_ne (by decide)
theorem ne_111_120 {I : Nat → Nat → Int} {j : Nat} {x : Int} : u2 I 120 j x 111 = I 111 := u2_ne (by decide)
theorem ln1_110 {I : Nat → Nat → Int} {i j : Nat} : m_ln1 I i j 110 = I 110 := by unfold m_ln1; rw [ne_110_117, ne_110_116]
theorem ln1_111 {I : Nat → Nat → Int} {i j : Nat} : m_ln1 I i j 111 = I 111 := by unfold m_ln1; rw [ne_111_117, ne_111_116]
theorem near01 {I : Nat → Nat → Int} {i : Nat} {mask : Int} : ∀ (f k : Nat) (a : Int), (a = 0 ∨ a = 1) → nrL I i mask f k a = 0 ∨ nrL I i mask f k a = 1
  | 0, _, _, h => h
  | f + 1, k, a, h => by
    unfold nrL
    exact near01 f (k + 1) _ (by split <;> simp)
set_option maxHeartbeats 2000000 in
set_option maxRecDepth 100000 in
set_option maxHeartbeats 2000000 in
set_option maxRecDepth 100000 in
theorem s_X5_ln210 {l : Launch} {E : QE} {T : Nat → Nat × Nat} {I : Nat → Nat → Int} {J : Nat → Nat → Int64} {R : Nat → Nat → Option Nat} {n z : Nat} (hk : MdB T R n) (hz9 : ZV I) (hst : StpV I) {i j : Nat} (hi : (i : Int) < I 111 3) {s : Int × Int × Int × Int} (hs : lpOk s) {x3 x4 x5 x6 : Option Value} {L9 : Int} : Go l E Y_X5_layLine 0 0 210 [some (.ref (E.1 + 110)), some (.int (iz (i : Int))), some (.int (iz (j : Int))), x3, x4, x5, x6, some (.int (iz s.1)), some (.int (iz s.2.1)), some (.int (iz s.2.2.1)), some (.int (iz s.2.2.2)), some (.int (iz L9))] [] (T, I, J, R, n, z) (KN (T, m_ln3 I i s, J, R, n, z)) := by
  have hk0 := hk
  obtain ⟨t0, t1, t2, t3, t4, t5, t6, t7, t8, t9, t10, t11, t12, t13, r1, r2, r4, r5, r8, r9, r10, r11, r12, r13, r14, r15, r16, hn⟩ := hk
  obtain ⟨z3, zs, zs0, zd, zt, zt2, zv, zw, zk⟩ := id hz9
  obtain ⟨hL, hs1, hs2, hs3⟩ := id hst
  obtain ⟨q1, q2, q3, q4⟩ := id hs
  have pr := pcn_rg s.1
  have zt0 := zt 0 (by decide)
  have hz2 := zt 2 (by decide)
  have asi := zs i (by omega)
  have n01 : m_near I i s.1 = 0 ∨ m_near I i s.1 = 1 := near01 _ _ _ (Or.inr rfl)
  refine g_iload8 (Y := Y_X5_layLine) (pc' := 212) dX5_layLine_210 rfl ?_
  refine g_if_eq (Y := Y_X5_layLine) (t := 310) (pc' := 215) dX5_layLine_212 (by decide) rfl ⟨by omega, by omega⟩ (fun h212 => ?_) (fun h212 => ?_)
  · have e : m_ln3 I i s = I := if_neg (by omega)
    rw [e]
    exact g_vret (Y := Y_X5_layLine) dX5_layLine_310 rfl (Nat.zero_le _) (Nat.zero_le _) (⟨rfl, rfl⟩)
  · refine g_iload7 (Y := Y_X5_layLine) (pc' := 217) dX5_layLine_215 rfl ?_
    refine g_callSv (Y := Y_X5_layLine) (s_X5_bits s.1 q1) (pc' := 220) dX5_layLine_217 rfl cv_X5_87 rfl rfl rfl rfl rfl ?_
    refine g_aload0 (Y := Y_X5_layLine) (pc' := 221) dX5_layLine_220 rfl ?_
    refine g_getR (Y := Y_X5_layLine) (pc' := 224) dX5_layLine_221 rfl fl_X5_7 rfl (by assumption) (by omega) (by assumption) ?_
    refine g_iconst (Y := Y_X5_layLine) (pc' := 225) dX5_layLine_224 rfl ?_
    refine g_iald (Y := Y_X5_layLine) (pc' := 226) dX5_layLine_225 rfl (by assumption) (by omega) (by decide) ⟨by omega, by omega⟩ ?_
    rw [show Int.toNat 0 = 0 from rfl]
    refine g_icmp_lt (Y := Y_X5_layLine) (t := 310) (pc' := 229) dX5_layLine_226 (by decide) rfl ⟨by omega, by omega⟩ ⟨by omega, by omega⟩ (fun h226 => ?_) (fun h226 => ?_)
    · have e : m_ln3 I i s = I := if_neg (by omega)
      rw [e]
      exact g_vret (Y := Y_X5_layLine) dX5_layLine_310 rfl (Nat.zero_le _) (Nat.zero_le _) (⟨rfl, rfl⟩)
    · refine g_aload0 (Y := Y_X5_layLine) (pc' := 230) dX5_layLine_229 rfl ?_
      refine g_iload1 (Y := Y_X5_layLine) (pc' := 231) dX5_layLine_230 rfl ?_
      refine g_iload7 (Y := Y_X5_layLine) (pc' := 233) dX5_layLine_231 rfl ?_
      refine g_callVv (Y := Y_X5_layLine) (c := 5) (s_X5_areNear hk0 hz9 hst hi q1) (pc' := 236) dX5_layLine_233 rfl cv_X5_90 rfl (by assumption) (by show _ < n; omega) ⟨by decide, _, rfl, rfl⟩ rfl rfl rfl rfl ?_
      refine g_if_eq (Y := Y_X5_layLine) (t := 310) (pc' := 239) dX5_layLine_236 (by decide) rfl ⟨by omega, by omega⟩ (fun h236 => ?_) (fun h236 => ?_)
      · have e : m_ln3 I i s = I := if_neg (by omega)
        rw [e]
        exact g_vret (Y := Y_X5_layLine) dX5_layLine_310 rfl (Nat.zero_le _) (Nat.zero_le _) (⟨rfl, rfl⟩)
      · have e : m_ln3 I i s = m_ln2 I i s := if_pos ⟨by omega, by omega, by omega⟩
        rw [e]
        refine g_aload0 (Y := Y_X5_layLine) (pc' := 240) dX5_layLine_239 rfl ?_
        refine g_getR (Y := Y_X5_layLine) (pc' := 243) dX5_layLine_240 rfl fl_X5_22 rfl (by assumption) (by omega) (by assumption) ?_
        refine g_aload0 (Y := Y_X5_layLine) (pc' := 244) dX5_layLine_243 rfl ?_
        refine g_getI (Y := Y_X5_layLine) (pc' := 247) dX5_layLine_244 rfl fl_X5_72 rfl (by assumption) (by omega) ?_
        refine g_iload7 (Y := Y_X5_layLine) (pc' := 249) dX5_layLine_247 rfl ?_
        refine g_iast (Y := Y_X5_layLine) (pc' := 250) dX5_layLine_249 rfl (by assumption) (by omega) (by decide) ⟨by omega, by omega⟩ ?_
        refine g_aload0 (Y := Y_X5_layLine) (pc' := 251) dX5_layLine_250 rfl ?_
        refine g_getR (Y := Y_X5_layLine) (pc' := 254) dX5_layLine_251 rfl fl_X5_37 rfl (by assumption) (by omega) (by assumption) ?_
        refine g_aload0 (Y := Y_X5_layLine) (pc' := 255) dX5_layLine_254 rfl ?_
        refine g_getI (Y := Y_X5_layLine) (pc' := 258) dX5_layLine_255 rfl fl_X5_72 rfl (by assumption) (by omega) ?_
        simp only [ne_110_115, ne_110_120, ne_110_118, ne_110_119, ne_111_115, ne_111_120, ne_111_118, ne_111_119]
        refine g_aload0 (Y := Y_X5_layLine) (pc' := 259) dX5_layLine_258 rfl ?_
        refine g_iload1 (Y := Y_X5_layLine) (pc' := 260) dX5_layLine_259 rfl ?_
        refine g_callVv (Y := Y_X5_layLine) (c := 5) ((show SpV l E Y_X5_spot _ _ (.int (iz (I 111 (6 + i)))) _ from by
    have q := s_X5_spot (l := l) (E := E) (T := T) (I := u2 I 115 (I 110 7).toNat s.1) (J := J) (R := R) (n := n) (z := z) hk0 i (by omega)
    rw [ne_111_115] at q
    exact q)) (pc' := 263) dX5_layLine_260 rfl cv_X5_58 rfl (by assumption) (by show _ < n; omega) ⟨by decide, _, rfl, rfl⟩ rfl rfl rfl rfl ?_
        refine g_iast (Y := Y_X5_layLine) (pc' := 264) dX5_layLine_263 rfl (by assumption) (by omega) (by decide) ⟨by omega, by omega⟩ ?_
        refine g_aload0 (Y := Y_X5_layLine) (pc' := 265) dX5_layLine_264 rfl ?_
        refine g_getR (Y := Y_X5_layLine) (pc' := 268) dX5_layLine_265 rfl fl_X5_31 rfl (by assumption) (by omega) (by assumption) ?_
        refine g_aload0 (Y := Y_X5_layLine) (pc' := 269) dX5_layLine_268 rfl ?_
        refine g_getI (Y := Y_X5_layLine) (pc' := 272) dX5_layLine_269 rfl fl_X5_72 rfl (by assumption) (by omega) ?_
        simp only [ne_110_115, ne_110_120, ne_110_118, ne_110_119, ne_111_115, ne_111_120, ne_111_118, ne_111_119]
        refine g_iload9 (Y := Y_X5_layLine) (pc' := 274) dX5_layLine_272 rfl ?_
        refine g_aload0 (Y := Y_X5_layLine) (pc' := 275) dX5_layLine_274 rfl ?_
        refine g_getR (Y := Y_X5_layLine) (pc' := 278) dX5_layLine_275 rfl fl_X5_7 rfl (by assumption) (by omega) (by assumption) ?_
        refine g_iconst (Y := Y_X5_layLine) (pc' := 279) dX5_layLine_278 rfl ?_
        refine g_iald (Y := Y_X5_layLine) (pc' := 280) dX5_layLine_279 rfl (by assumption) (by omega) (by decide) ⟨by omega, by omega⟩ ?_
        rw [show Int.toNat 2 = 2 from rfl]
        refine g_isub (Y := Y_X5_layLine) (pc' := 281) dX5_layLine_280 rfl ?_
        simp only [ne_110_115, ne_110_120, ne_110_118, ne_110_119, ne_111_115, ne_111_120, ne_111_118, ne_111_119]
        refine g_iast (Y := Y_X5_layLine) (pc' := 282) dX5_layLine_281 rfl (by assumption) (by omega) (by decide) ⟨by omega, by omega⟩ ?_
        refine g_aload0 (Y := Y_X5_layLine) (pc' := 283) dX5_layLine_282 rfl ?_
        refine g_getR (Y := Y_X5_layLine) (pc' := 286) dX5_layLine_283 rfl fl_X5_34 rfl (by assumption) (by omega) (by assumption) ?_
        refine g_aload0 (Y := Y_X5_layLine) (pc' := 287) dX5_layLine_286 rfl ?_
        refine g_getI (Y := Y_X5_layLine) (pc' := 290) dX5_layLine_287 rfl fl_X5_72 rfl (by assumption) (by omega) ?_
        simp only [ne_110_115, ne_110_120, ne_110_118, ne_110_119, ne_111_115, ne_111_120, ne_111_118, ne_111_119]
        refine g_iload10 (Y := Y_X5_layLine) (pc' := 292) dX5_layLine_290 rfl ?_
        refine g_aload0 (Y := Y_X5_layLine) (pc' := 293) dX5_layLine_292 rfl ?_
        refine g_getR (Y := Y_X5_layLine) (pc' := 296) dX5_layLine_293 rfl fl_X5_7 rfl (by assumption) (by omega) (by assumption) ?_
        refine g_iconst (Y := Y_X5_layLine) (pc' := 297) dX5_layLine_296 rfl ?_
        refine g_iald (Y := Y_X5_layLine) (pc' := 298) dX5_layLine_297 rfl (by assumption) (by omega) (by decide) ⟨by omega, by omega⟩ ?_
        rw [show Int.toNat 2 = 2 from rfl]
        refine g_iadd (Y := Y_X5_layLine) (pc' := 299) dX5_layLine_298 rfl ?_
        simp only [ne_110_115, ne_110_120, ne_110_118, ne_110_119, ne_111_115, ne_111_120, ne_111_118, ne_111_119]
        refine g_iast (Y := Y_X5_layLine) (pc' := 300) dX5_layLine_299 rfl (by assumption) (by omega) (by decide) ⟨by omega, by omega⟩ ?_
        refine g_aload0 (Y := Y_X5_layLine) (pc' := 301) dX5_layLine_300 rfl ?_
        refine g_dup (Y := Y_X5_layLine) (pc' := 302) dX5_layLine_301 rfl rfl ?_
        refine g_getI (Y := Y_X5_layLine) (pc' := 305) dX5_layLine_302 rfl fl_X5_72 rfl (by assumption) (by omega) ?_
        simp only [ne_110_115, ne_110_120, ne_110_118, ne_110_119, ne_111_115, ne_111_120, ne_111_118, ne_111_119]
        refine g_iconst (Y := Y_X5_layLine) (pc' := 306) dX5_layLine_305 rfl ?_
        refine g_iadd (Y := Y_X5_layLine) (pc' := 307) dX5_layLine_306 rfl ?_
        refine g_putI (Y := Y_X5_layLine) (pc' := 310) dX5_layLine_307 rfl fp_X5_72 rfl (by assumption) (by omega) ?_
        exact g_vret (Y := Y_X5_layLine) dX5_layLine_310 rfl (Nat.zero_le _) (Nat.zero_le _) (⟨rfl, rfl⟩)
set_option maxHeartbeats 2000000 in
set_option maxRecDepth 100000 in
theorem s_X5_layLine {l : Launch} {E : QE} {T : Nat → Nat × Nat} {I : Nat → Nat → Int} {J : Nat → Nat → Int64} {R : Nat → Nat → Option Nat} {n z : Nat} (hk : MdB T R n) (hz9 : ZV I) (hL : 0 ≤ I 110 7 ∧ I 110 7 < 66) (i j : Nat) (hij : i < j) (hj : (j : Int) < I 111 3) : SpN l E Y_X5_layLine [.ref (E.1 + 110), .int (iz (i : Int)), .int (iz (j : Int))] (T, I, J, R, n, z) (T, m_layLine I i j, J, R, n, z) := by
  have hk0 := hk
  obtain ⟨t0, t1, t2, t3, t4, t5, t6, t7, t8, t9, t10, t11, t12, t13, r1, r2, r4, r5, r8, r9, r10, r11, r12, r13, r14, r15, r16, hn⟩ := hk
  obtain ⟨z3, zs, zs0, zd, zt, zt2, zv, zw, zk⟩ := id hz9
  have hi : (i : Int) < I 111 3 := by omega
  have r1 := m_ta_rg hz9 hi hj
  have r2 := m_sa_rg hz9 hi hj
  obtain ⟨s1, s2, s3, s4⟩ := m_sign_mul r1 r2
  obtain ⟨hst1, g0, g1⟩ := ln1_StpV hz9 hi hj (by omega) hL
  have hmid : Go l E Y_X5_layLine 0 0 47 [some (.ref (E.1 + 110)), some (.int (iz (i : Int))), some (.int (iz (j : Int))), some (.int (iz (m_ta I i j))), some (.int (iz (m_sa I i j))), some (.int (iz (m_gcd (m_ta I i j) (m_sa I i j)))), none, none, none, none, none, none] [.int (iz (m_sign (m_ta I i j) (m_sa I i j)))] (T, I, J, R, n, z) (KN (T, m_layLine I i j, J, R, n, z)) := by
    refine g_istore6 (Y := Y_X5_layLine) (pc' := 49) dX5_layLine_47 rfl (Nat.le_of_ble_eq_true rfl) rfl ?_
    refine g_aload0 (Y := Y_X5_layLine) (pc' := 50) dX5_layLine_49 rfl ?_
    refine g_getR (Y := Y_X5_layLine) (pc' := 53) dX5_layLine_50 rfl fl_X5_25 rfl (by assumption) (by omega) (by assumption) ?_
    refine g_aload0 (Y := Y_X5_layLine) (pc' := 54) dX5_layLine_53 rfl ?_
    refine g_getI (Y := Y_X5_layLine) (pc' := 57) dX5_layLine_54 rfl fl_X5_72 rfl (by assumption) (by omega) ?_
    
    refine g_iload6 (Y := Y_X5_layLine) (pc' := 59) dX5_layLine_57 rfl ?_
    refine g_iload3 (Y := Y_X5_layLine) (pc' := 60) dX5_layLine_59 rfl ?_
    refine g_imul (Y := Y_X5_layLine) (pc' := 61) dX5_layLine_60 rfl ?_
    refine g_iload5 (Y := Y_X5_layLine) (pc' := 63) dX5_layLine_61 rfl ?_
    refine g_idiv (Y := Y_X5_layLine) (pc' := 64) dX5_layLine_63 rfl ⟨by omega, by omega⟩ ⟨by omega, by omega⟩ (by omega) ?_
    refine g_iast (Y := Y_X5_layLine) (pc' := 65) dX5_layLine_64 rfl (by assumption) (by omega) (by decide) ⟨by omega, by omega⟩ ?_
    refine g_aload0 (Y := Y_X5_layLine) (pc' := 66) dX5_layLine_65 rfl ?_
    refine g_getR (Y := Y_X5_layLine) (pc' := 69) dX5_layLine_66 rfl fl_X5_28 rfl (by assumption) (by omega) (by assumption) ?_
    refine g_aload0 (Y := Y_X5_layLine) (pc' := 70) dX5_layLine_69 rfl ?_
    refine g_getI (Y := Y_X5_layLine) (pc' := 73) dX5_layLine_70 rfl fl_X5_72 rfl (by assumption) (by omega) ?_
    rw [ne_110_116]
    refine g_iload6 (Y := Y_X5_layLine) (pc' := 75) dX5_layLine_73 rfl ?_
    refine g_iload4 (Y := Y_X5_layLine) (pc' := 77) dX5_layLine_75 rfl ?_
    refine g_imul (Y := Y_X5_layLine) (pc' := 78) dX5_layLine_77 rfl ?_
    refine g_iload5 (Y := Y_X5_layLine) (pc' := 80) dX5_layLine_78 rfl ?_
    refine g_idiv (Y := Y_X5_layLine) (pc' := 81) dX5_layLine_80 rfl ⟨by omega, by omega⟩ ⟨by omega, by omega⟩ (by omega) ?_
    refine g_iast (Y := Y_X5_layLine) (pc' := 82) dX5_layLine_81 rfl (by assumption) (by omega) (by decide) ⟨by omega, by omega⟩ ?_
    refine g_iconst (Y := Y_X5_layLine) (pc' := 83) dX5_layLine_82 rfl ?_
    refine g_istore7 (Y := Y_X5_layLine) (pc' := 85) dX5_layLine_83 rfl (Nat.le_of_ble_eq_true rfl) rfl ?_
    refine g_iconst (Y := Y_X5_layLine) (pc' := 86) dX5_layLine_85 rfl ?_
    refine g_istore8 (Y := Y_X5_layLine) (pc' := 88) dX5_layLine_86 rfl (Nat.le_of_ble_eq_true rfl) rfl ?_
    refine g_iconst (Y := Y_X5_layLine) (pc' := 89) dX5_layLine_88 rfl ?_
    refine g_istore9 (Y := Y_X5_layLine) (pc' := 91) dX5_layLine_89 rfl (Nat.le_of_ble_eq_true rfl) rfl ?_
    refine g_iconst (Y := Y_X5_layLine) (pc' := 92) dX5_layLine_91 rfl ?_
    refine g_istore10 (Y := Y_X5_layLine) (pc' := 94) dX5_layLine_92 rfl (Nat.le_of_ble_eq_true rfl) rfl ?_
    refine g_iconst (Y := Y_X5_layLine) (pc' := 95) dX5_layLine_94 rfl ?_
    refine g_istore11 (Y := Y_X5_layLine) (pc' := 97) dX5_layLine_95 rfl (Nat.le_of_ble_eq_true rfl) rfl ?_
    have hz1 : ZV (m_ln1 I i j) := ZV_ne hz9 ln1_111
    have e13 : m_ln1 I i j 111 3 = I 111 3 := by rw [ln1_111]
    have ok1 : lpOk (m_lnS (m_ln1 I i j) i j) := lpL_ok hz1 (by rw [e13]; exact hi) _ 0 _ (by rw [e13]; omega) ⟨by decide, Or.inr rfl, by decide, by decide⟩
    refine s_X5_ln_lp (I := m_ln1 I i j) hk0 hz1 hst1 (by rw [e13]; exact hi) (by rw [e13]; exact hj) (m_ln1 I i j 111 3).toNat 0 0 1 0 0 (by omega) ⟨by decide, Or.inr rfl, by decide, by decide⟩ (fun L9 => ?_)
    exact s_X5_ln210 (I := m_ln1 I i j) hk0 hz1 hst1 (j := j) (by rw [e13]; exact hi) ok1
  refine Sp.of [some (.ref (E.1 + 110)), some (.int (iz (i : Int))), some (.int (iz (j : Int))), none, none, none, none, none, none, none, none, none] (by decide +kernel) (Nat.le_of_ble_eq_true rfl) (fun _ h => h) ?_
  refine g_aload0 (Y := Y_X5_layLine) (pc' := 1) dX5_layLine_0 rfl ?_
  refine g_iload1 (Y := Y_X5_layLine) (pc' := 2) dX5_layLine_1 rfl ?_
  refine g_iload2 (Y := Y_X5_layLine) (pc' := 3) dX5_layLine_2 rfl ?_
  refine g_callVv (Y := Y_X5_layLine) (c := 5) (s_X5_tracksApart hk0 hz9 i j hi hj) (pc' := 6) dX5_layLine_3 rfl cv_X5_65 rfl (by assumption) (by show _ < n; omega) ⟨by decide, _, rfl, rfl⟩ rfl rfl rfl rfl ?_
  refine g_istore3 (Y := Y_X5_layLine) (pc' := 7) dX5_layLine_6 rfl (Nat.le_of_ble_eq_true rfl) rfl ?_
  refine g_aload0 (Y := Y_X5_layLine) (pc' := 8) dX5_layLine_7 rfl ?_
  refine g_iload1 (Y := Y_X5_layLine) (pc' := 9) dX5_layLine_8 rfl ?_
  refine g_iload2 (Y := Y_X5_layLine) (pc' := 10) dX5_layLine_9 rfl ?_
  refine g_callVv (Y := Y_X5_layLine) (c := 5) (s_X5_sectorsApart hk0 hz9 i j hi hj) (pc' := 13) dX5_layLine_10 rfl cv_X5_69 rfl (by assumption) (by show _ < n; omega) ⟨by decide, _, rfl, rfl⟩ rfl rfl rfl rfl ?_
  refine g_istore4 (Y := Y_X5_layLine) (pc' := 15) dX5_layLine_13 rfl (Nat.le_of_ble_eq_true rfl) rfl ?_
  refine g_iload3 (Y := Y_X5_layLine) (pc' := 16) dX5_layLine_15 rfl ?_
  refine g_callSv (Y := Y_X5_layLine) (s_X5_sizeOf _ ⟨by omega, by omega⟩ (by omega)) (pc' := 19) dX5_layLine_16 rfl cv_X5_78 rfl rfl rfl rfl rfl ?_
  refine g_iload4 (Y := Y_X5_layLine) (pc' := 21) dX5_layLine_19 rfl ?_
  refine g_callSv (Y := Y_X5_layLine) (s_X5_sizeOf _ ⟨by omega, by omega⟩ (by omega)) (pc' := 24) dX5_layLine_21 rfl cv_X5_78 rfl rfl rfl rfl rfl ?_
  rw [iabs_nat, iabs_nat]
  refine g_callSv (Y := Y_X5_layLine) (s_X5_common (m_ta I i j).natAbs (m_sa I i j).natAbs (by omega) (by omega)) (pc' := 27) dX5_layLine_24 rfl cv_X5_81 rfl rfl rfl rfl rfl ?_
  refine g_istore5 (Y := Y_X5_layLine) (pc' := 29) dX5_layLine_27 rfl (Nat.le_of_ble_eq_true rfl) rfl ?_
  refine g_iload3 (Y := Y_X5_layLine) (pc' := 30) dX5_layLine_29 rfl ?_
  refine g_if_lt (Y := Y_X5_layLine) (t := 42) (pc' := 33) dX5_layLine_30 (by decide) rfl ⟨by omega, by omega⟩ (fun h30 => ?_) (fun h30 => ?_)
  · have es : m_sign (m_ta I i j) (m_sa I i j) = -1 := if_pos (by omega)
    rw [es] at hmid
    refine g_iconst (Y := Y_X5_layLine) (pc' := 43) dX5_layLine_42 rfl ?_
    refine g_goto (Y := Y_X5_layLine) (t := 47) dX5_layLine_43 (by decide) ?_
    exact hmid
  · refine g_iload3 (Y := Y_X5_layLine) (pc' := 34) dX5_layLine_33 rfl ?_
    refine g_if_ne (Y := Y_X5_layLine) (t := 46) (pc' := 37) dX5_layLine_34 (by decide) rfl ⟨by omega, by omega⟩ (fun h34 => ?_) (fun h34 => ?_)
    · have es : m_sign (m_ta I i j) (m_sa I i j) = 1 := if_neg (by omega)
      rw [es] at hmid
      refine g_iconst (Y := Y_X5_layLine) (pc' := 47) dX5_layLine_46 rfl ?_
      exact hmid
    · refine g_iload4 (Y := Y_X5_layLine) (pc' := 39) dX5_layLine_37 rfl ?_
      refine g_if_ge (Y := Y_X5_layLine) (t := 46) (pc' := 42) dX5_layLine_39 (by decide) rfl ⟨by omega, by omega⟩ (fun h39 => ?_) (fun h39 => ?_)
      · have es : m_sign (m_ta I i j) (m_sa I i j) = 1 := if_neg (by omega)
        rw [es] at hmid
        refine g_iconst (Y := Y_X5_layLine) (pc' := 47) dX5_layLine_46 rfl ?_
        exact hmid
      · have es : m_sign (m_ta I i j) (m_sa I i j) = -1 := if_pos (by omega)
        rw [es] at hmid
        refine g_iconst (Y := Y_X5_layLine) (pc' := 43) dX5_layLine_42 rfl ?_
        refine g_goto (Y := Y_X5_layLine) (t := 47) dX5_layLine_43 (by decide) ?_
        exact hmid
