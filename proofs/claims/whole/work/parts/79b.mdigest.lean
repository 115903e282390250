/-! the reference: its digest -/
set_option maxHeartbeats 2000000 in
set_option maxRecDepth 100000 in
theorem s_X5_dg8 {l : Launch} {E : QE} {T : Nat → Nat × Nat} {I : Nat → Nat → Int} {J : Nat → Nat → Int64} {R : Nat → Nat → Option Nat} {n z : Nat} (hk : MdB T R n) (hz9 : ZV I) (hb9 : HB I) (hv9 : TV I) {x1 : Option Value} (h : Int64) : Go l E Y_X5_digest 0 0 115 [some (.ref (E.1 + 110)), x1] [] (T, I, jh J (h), R, n, z) (KV (.long (g8 I h).1) (T, (g8 I h).2, jh J (g8 I h).1, R, n, z)) := by
  have hk0 := hk
  obtain ⟨t0, t1, t2, t3, t4, t5, t6, t7, t8, t9, t10, t11, t12, t13, r1, r2, r4, r5, r8, r9, r10, r11, r12, r13, r14, r15, r16, hn⟩ := hk
  have v1 := hv9.1
  refine g_aload0 (Y := Y_X5_digest) (pc' := 116) dX5_digest_115 rfl ?_
  refine g_aload0 (Y := Y_X5_digest) (pc' := 117) dX5_digest_116 rfl ?_
  refine g_getI (Y := Y_X5_digest) (pc' := 120) dX5_digest_117 rfl fl_X5_170 rfl (by first | exact t0 | exact t1 | exact r1 | exact t2 | exact t3 | exact t4 | exact t5 | exact t6 | exact t7 | exact t8 | exact t9 | exact t10 | exact t11 | exact t12 | exact t13 | exact r2 | exact r4 | exact r5 | exact r8 | exact r9 | exact r10 | exact r11 | exact r12 | exact r13 | exact r14 | exact r15 | exact r16) (by omega) ?_
  refine g_i2l (Y := Y_X5_digest) (pc' := 121) dX5_digest_120 rfl ?_
  refine g_callVn (Y := Y_X5_digest) (c := 5) (s_X5_mix hk0 _ _) (pc' := 124) dX5_digest_121 rfl cv_X5_267 rfl (by first | exact t0 | exact t1 | exact r1 | exact t2 | exact t3 | exact t4 | exact t5 | exact t6 | exact t7 | exact t8 | exact t9 | exact t10 | exact t11 | exact t12 | exact t13 | exact r2 | exact r4 | exact r5 | exact r8 | exact r9 | exact r10 | exact r11 | exact r12 | exact r13 | exact r14 | exact r15 | exact r16) (by show _ < n; omega) ⟨by decide, _, rfl, rfl⟩ rfl rfl rfl rfl ?_
  refine g_iconst (Y := Y_X5_digest) (pc' := 125) dX5_digest_124 rfl ?_
  refine g_istore1 (Y := Y_X5_digest) (pc' := 126) dX5_digest_125 rfl (Nat.le_of_ble_eq_true rfl) rfl ?_
  exact s_X5_dg8_lp hk0 hv9 rfl (I 110 6).toNat 0 _ (by omega) rfl
