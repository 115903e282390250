/-! the reference: the share, its bits; what looking leaves alone -/
set_option maxHeartbeats 2000000 in
set_option maxRecDepth 100000 in
theorem s_X5_mix {l : Launch} {E : QE} {T : Nat → Nat × Nat} {I : Nat → Nat → Int} {J : Nat → Nat → Int64} {R : Nat → Nat → Option Nat} {n z : Nat} (hk : MdB T R n) (h : Int64) (v : Int64) : SpN l E Y_X5_mix [.ref (E.1 + 110), .long v] (T, I, jh J (h), R, n, z) (T, I, jh J (31 * h + v), R, n, z) := by
  obtain ⟨t0, t1, t2, t3, t4, t5, t6, t7, t8, t9, t10, t11, t12, t13, r1, r2, r4, r5, r8, r9, r10, r11, r12, r13, r14, r15, r16, hn⟩ := hk
  refine Sp.of [some (.ref (E.1 + 110)), some (.long v), none] (by decide +kernel) (Nat.le_of_ble_eq_true rfl) (fun _ h => h) ?_
  refine g_aload0 (Y := Y_X5_mix) (pc' := 1) dX5_mix_0 rfl ?_
  refine g_ldc2l (Y := Y_X5_mix) (v := (31 : Int64)) (pc' := 4) dX5_mix_1 rfl (q_w 1205 (by decide +kernel) rfl) ?_
  refine g_aload0 (Y := Y_X5_mix) (pc' := 5) dX5_mix_4 rfl ?_
  refine g_getJ (Y := Y_X5_mix) (pc' := 8) dX5_mix_5 rfl fl_X5_263 rfl (by first | exact t0 | exact t1 | exact r1 | exact t2 | exact t3 | exact t4 | exact t5 | exact t6 | exact t7 | exact t8 | exact t9 | exact t10 | exact t11 | exact t12 | exact t13 | exact r2 | exact r4 | exact r5 | exact r8 | exact r9 | exact r10 | exact r11 | exact r12 | exact r13 | exact r14 | exact r15 | exact r16) (by omega) ?_
  rw [jh_at]
  refine g_lmul (Y := Y_X5_mix) (pc' := 9) dX5_mix_8 rfl ?_
  refine g_lload1 (Y := Y_X5_mix) (pc' := 10) dX5_mix_9 rfl ?_
  refine g_ladd (Y := Y_X5_mix) (pc' := 11) dX5_mix_10 rfl ?_
  refine g_putJ (Y := Y_X5_mix) (pc' := 14) dX5_mix_11 rfl fp_X5_263 rfl (by first | exact t0 | exact t1 | exact r1 | exact t2 | exact t3 | exact t4 | exact t5 | exact t6 | exact t7 | exact t8 | exact t9 | exact t10 | exact t11 | exact t12 | exact t13 | exact r2 | exact r4 | exact r5 | exact r8 | exact r9 | exact r10 | exact r11 | exact r12 | exact r13 | exact r14 | exact r15 | exact r16) (by omega) ?_
  rw [jh_jh]
  exact g_vret (Y := Y_X5_mix) dX5_mix_14 rfl (Nat.zero_le _) (Nat.zero_le _) (⟨rfl, rfl⟩)
