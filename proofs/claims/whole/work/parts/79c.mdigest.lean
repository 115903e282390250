/-! the reference: its digest -/
set_option maxHeartbeats 2000000 in
set_option maxRecDepth 100000 in
theorem s_X5_dg7 {l : Launch} {E : QE} {T : Nat → Nat × Nat} {I : Nat → Nat → Int} {J : Nat → Nat → Int64} {R : Nat → Nat → Option Nat} {n z : Nat} (hk : MdB T R n) (hz9 : ZV I) (hb9 : HB I) (hv9 : TV I) {x1 : Option Value} (h : Int64) : Go l E Y_X5_digest 0 0 104 [some (.ref (E.1 + 110)), x1] [] (T, I, jh J (h), R, n, z) (KV (.long (g7 I h).1) (T, (g7 I h).2, jh J (g7 I h).1, R, n, z)) := by
  have hk0 := hk
  obtain ⟨t0, t1, t2, t3, t4, t5, t6, t7, t8, t9, t10, t11, t12, t13, r1, r2, r4, r5, r8, r9, r10, r11, r12, r13, r14, r15, r16, hn⟩ := hk
  have mk := MK_lay (I := I)
  have gr := good_rg hz9
  have hsh := s_X5_share (l := l) (E := E) (J := jh J h) (z := z) hk0 hz9 hb9 gr
  have nx := s_X5_dg8 (l := l) (E := E) (I := m_lay I) (J := J) (z := z) (x1 := x1) hk0 (mk.zv hz9) (mk.2.2.2 hz9 hb9) (TV_MK hv9 mk) (31 * h + m_bits (f_shr (m_good (m_lay I))))
  have hbt := s_X5_bitsOf (l := l) (E := E) (w := (T, m_lay I, jh J h, R, n, z)) (f_shr (m_good (m_lay I))) (shOkm_g _ gr).1
  unfold g7
  generalize m_good (m_lay I) = gg at hsh nx hbt ⊢
  generalize m_lay I = I2 at hsh nx hbt ⊢
  clear gr
  refine g_aload0 (Y := Y_X5_digest) (pc' := 105) dX5_digest_104 rfl ?_
  refine g_aload0 (Y := Y_X5_digest) (pc' := 106) dX5_digest_105 rfl ?_
  refine g_callVv (Y := Y_X5_digest) (c := 5) (hsh) (pc' := 109) dX5_digest_106 rfl cv_X5_249 rfl (by first | exact t0 | exact t1 | exact r1 | exact t2 | exact t3 | exact t4 | exact t5 | exact t6 | exact t7 | exact t8 | exact t9 | exact t10 | exact t11 | exact t12 | exact t13 | exact r2 | exact r4 | exact r5 | exact r8 | exact r9 | exact r10 | exact r11 | exact r12 | exact r13 | exact r14 | exact r15 | exact r16) (by show _ < n; omega) ⟨by decide, _, rfl, rfl⟩ rfl rfl rfl rfl ?_
  refine g_callSv (Y := Y_X5_digest) (hbt) (pc' := 112) dX5_digest_109 rfl cv_X5_279 rfl rfl rfl rfl rfl ?_
  refine g_callVn (Y := Y_X5_digest) (c := 5) (s_X5_mix hk0 _ _) (pc' := 115) dX5_digest_112 rfl cv_X5_267 rfl (by first | exact t0 | exact t1 | exact r1 | exact t2 | exact t3 | exact t4 | exact t5 | exact t6 | exact t7 | exact t8 | exact t9 | exact t10 | exact t11 | exact t12 | exact t13 | exact r2 | exact r4 | exact r5 | exact r8 | exact r9 | exact r10 | exact r11 | exact r12 | exact r13 | exact r14 | exact r15 | exact r16) (by show _ < n; omega) ⟨by decide, _, rfl, rfl⟩ rfl rfl rfl rfl ?_
  exact nx
