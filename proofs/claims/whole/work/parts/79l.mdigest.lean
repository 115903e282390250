/-! the reference: its digest -/
set_option maxHeartbeats 2000000 in
set_option maxRecDepth 100000 in
theorem s_X5_digest {l : Launch} {E : QE} {T : Nat → Nat × Nat} {I : Nat → Nat → Int} {J : Nat → Nat → Int64} {R : Nat → Nat → Option Nat} {n z : Nat} (hk : MdB T R n) (hm9 : MV I)  : SpV l E Y_X5_digest [.ref (E.1 + 110)] (T, I, J, R, n, z) (.long (m_digest I).1) (T, (m_digest I).2, jh J (m_digest I).1, R, n, z) := by
  have hk0 := hk
  obtain ⟨t0, t1, t2, t3, t4, t5, t6, t7, t8, t9, t10, t11, t12, t13, r1, r2, r4, r5, r8, r9, r10, r11, r12, r13, r14, r15, r16, hn⟩ := hk
  obtain ⟨hz9, hb9, hv9, h3, hsv9⟩ := id hm9
  obtain ⟨z3, zs, zs0, zd, zt, zt2, zv, zw, zk⟩ := id hz9
  have hz1 := thr_ZV (t := 0) hz9
  have hb1 := thr_HB (t := 0) hb9
  have hv1 := thr_TV (t := 0) hv9
  have mk := MK_dcL 10 0 (m_thr I 0) 2851 hz1
  have hz2 := mk.zv hz1
  have hb2 := mk.2.2.2 hz1 hb1
  have hv2 := TV_MK hv1 mk
  unfold m_digest g1 g2
  refine Sp.of [some (.ref (E.1 + 110)), none] (by decide +kernel) (Nat.le_of_ble_eq_true rfl) (fun _ h => h) ?_
  refine g_aload0 (Y := Y_X5_digest) (pc' := 1) dX5_digest_0 rfl ?_
  refine g_iconst (Y := Y_X5_digest) (pc' := 2) dX5_digest_1 rfl ?_
  refine g_putI (Y := Y_X5_digest) (pc' := 5) dX5_digest_2 rfl fp_X5_50 rfl (by first | exact t0 | exact t1 | exact r1 | exact t2 | exact t3 | exact t4 | exact t5 | exact t6 | exact t7 | exact t8 | exact t9 | exact t10 | exact t11 | exact t12 | exact t13 | exact r2 | exact r4 | exact r5 | exact r8 | exact r9 | exact r10 | exact r11 | exact r12 | exact r13 | exact r14 | exact r15 | exact r16) (by omega) ?_
  refine g_aload0 (Y := Y_X5_digest) (pc' := 6) dX5_digest_5 rfl ?_
  refine g_ldc2l (Y := Y_X5_digest) (v := (2851 : Int64)) (pc' := 9) dX5_digest_6 rfl (q_w 1200 (by decide +kernel) rfl) ?_
  refine g_putJ (Y := Y_X5_digest) (pc' := 12) dX5_digest_9 rfl fp_X5_263 rfl (by first | exact t0 | exact t1 | exact r1 | exact t2 | exact t3 | exact t4 | exact t5 | exact t6 | exact t7 | exact t8 | exact t9 | exact t10 | exact t11 | exact t12 | exact t13 | exact r2 | exact r4 | exact r5 | exact r8 | exact r9 | exact r10 | exact r11 | exact r12 | exact r13 | exact r14 | exact r15 | exact r16) (by omega) ?_
  refine g_iconst (Y := Y_X5_digest) (pc' := 13) dX5_digest_12 rfl ?_
  refine g_istore1 (Y := Y_X5_digest) (pc' := 14) dX5_digest_13 rfl (Nat.le_of_ble_eq_true rfl) rfl ?_
  refine s_X5_dg1_lp hk0 10 0 (m_thr I 0) 2851 rfl hz1 hb1 (fun L1 => ?_)
  generalize (m_dcL 10 0 (m_thr I 0) 2851).1 = h3
  generalize (m_dcL 10 0 (m_thr I 0) 2851).2 = I3 at hz2 hb2 hv2 ⊢
  refine g_iconst (Y := Y_X5_digest) (pc' := 37) dX5_digest_36 rfl ?_
  refine g_istore1 (Y := Y_X5_digest) (pc' := 38) dX5_digest_37 rfl (Nat.le_of_ble_eq_true rfl) rfl ?_
  refine s_X5_dg2_lp hk0 3 0 h3 rfl (fun L1 => ?_)
  exact s_X5_dg3 hk0 hz2 hb2 hv2 _
