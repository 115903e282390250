/-! the reference: its digest -/
set_option maxHeartbeats 2000000 in
set_option maxRecDepth 100000 in
theorem s_X5_dg5 {l : Launch} {E : QE} {T : Nat → Nat × Nat} {I : Nat → Nat → Int} {J : Nat → Nat → Int64} {R : Nat → Nat → Option Nat} {n z : Nat} (hk : MdB T R n) (hz9 : ZV I) (hb9 : HB I) (hv9 : TV I) {x1 : Option Value} (h : Int64) : Go l E Y_X5_digest 0 0 86 [some (.ref (E.1 + 110)), x1] [] (T, I, jh J (h), R, n, z) (KV (.long (g5 I h).1) (T, (g5 I h).2, jh J (g5 I h).1, R, n, z)) := by
  have hk0 := hk
  obtain ⟨t0, t1, t2, t3, t4, t5, t6, t7, t8, t9, t10, t11, t12, t13, r1, r2, r4, r5, r8, r9, r10, r11, r12, r13, r14, r15, r16, hn⟩ := hk
  have mk := MK_lay (I := I)
  have hsp := s_X5_worstCell (l := l) (E := E) (J := jh J h) (z := z) hk0 hz9 hb9
  have nx := s_X5_dg6 (l := l) (E := E) (I := m_lay I) (J := J) (z := z) (x1 := x1) hk0 (mk.zv hz9) (mk.2.2.2 hz9 hb9) (TV_MK hv9 mk) (hx h (m_wc I))
  unfold g5
  generalize m_wc I = a9 at hsp nx ⊢
  generalize m_lay I = I2 at hsp nx ⊢
  refine g_aload0 (Y := Y_X5_digest) (pc' := 87) dX5_digest_86 rfl ?_
  refine g_aload0 (Y := Y_X5_digest) (pc' := 88) dX5_digest_87 rfl ?_
  refine g_callVv (Y := Y_X5_digest) (c := 5) (hsp) (pc' := 91) dX5_digest_88 rfl cv_X5_238 rfl (by first | exact t0 | exact t1 | exact r1 | exact t2 | exact t3 | exact t4 | exact t5 | exact t6 | exact t7 | exact t8 | exact t9 | exact t10 | exact t11 | exact t12 | exact t13 | exact r2 | exact r4 | exact r5 | exact r8 | exact r9 | exact r10 | exact r11 | exact r12 | exact r13 | exact r14 | exact r15 | exact r16) (by show _ < n; omega) ⟨by decide, _, rfl, rfl⟩ rfl rfl rfl rfl ?_
  refine g_i2l (Y := Y_X5_digest) (pc' := 92) dX5_digest_91 rfl ?_
  refine g_callVn (Y := Y_X5_digest) (c := 5) (s_X5_mix hk0 _ _) (pc' := 95) dX5_digest_92 rfl cv_X5_267 rfl (by first | exact t0 | exact t1 | exact r1 | exact t2 | exact t3 | exact t4 | exact t5 | exact t6 | exact t7 | exact t8 | exact t9 | exact t10 | exact t11 | exact t12 | exact t13 | exact r2 | exact r4 | exact r5 | exact r8 | exact r9 | exact r10 | exact r11 | exact r12 | exact r13 | exact r14 | exact r15 | exact r16) (by show _ < n; omega) ⟨by decide, _, rfl, rfl⟩ rfl rfl rfl rfl ?_
  exact nx
