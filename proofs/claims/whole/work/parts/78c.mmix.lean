/-! the reference: what it hashes of the map -/
set_option maxHeartbeats 2000000 in
set_option maxRecDepth 100000 in
theorem s_X5_mm_lp1 {l : Launch} {E : QE} {T : Nat → Nat × Nat} {I : Nat → Nat → Int} {J : Nat → Nat → Int64} {R : Nat → Nat → Option Nat} {n z : Nat} (hk : MdB T R n) (hz9 : ZV I) {K : Option Value → QW → Prop} : ∀ (f i : Nat) (h : Int64), i + f = (I 111 3).toNat → (∀ L1 : Int, Go l E Y_X5_mixMap 0 0 28 [some (.ref (E.1 + 110)), some (.int (iz L1)), none] [] (T, I, jh J (hL (fun q => I 111 (6 + q)) f i h), R, n, z) K) → Go l E Y_X5_mixMap 0 0 2 [some (.ref (E.1 + 110)), some (.int (iz (i : Int))), none] [] (T, I, jh J (h), R, n, z) K := by
  have hk0 := hk
  obtain ⟨t0, t1, t2, t3, t4, t5, t6, t7, t8, t9, t10, t11, t12, t13, r1, r2, r4, r5, r8, r9, r10, r11, r12, r13, r14, r15, r16, hn⟩ := hk
  intro f
  induction f with
  | zero =>
    intro i h hf hend
    have z3 := hz9.1
    refine g_iload1 (Y := Y_X5_mixMap) (pc' := 3) dX5_mixMap_2 rfl ?_
    refine g_aload0 (Y := Y_X5_mixMap) (pc' := 4) dX5_mixMap_3 rfl ?_
    refine g_getR (Y := Y_X5_mixMap) (pc' := 7) dX5_mixMap_4 rfl fl_X5_7 rfl (by first | exact t0 | exact t1 | exact r1 | exact t2 | exact t3 | exact t4 | exact t5 | exact t6 | exact t7 | exact t8 | exact t9 | exact t10 | exact t11 | exact t12 | exact t13 | exact r2 | exact r4 | exact r5 | exact r8 | exact r9 | exact r10 | exact r11 | exact r12 | exact r13 | exact r14 | exact r15 | exact r16) (by omega) (by first | exact t0 | exact t1 | exact r1 | exact t2 | exact t3 | exact t4 | exact t5 | exact t6 | exact t7 | exact t8 | exact t9 | exact t10 | exact t11 | exact t12 | exact t13 | exact r2 | exact r4 | exact r5 | exact r8 | exact r9 | exact r10 | exact r11 | exact r12 | exact r13 | exact r14 | exact r15 | exact r16) ?_
    refine g_iconst (Y := Y_X5_mixMap) (pc' := 8) dX5_mixMap_7 rfl ?_
    refine g_iald (Y := Y_X5_mixMap) (pc' := 9) dX5_mixMap_8 rfl (by first | exact t0 | exact t1 | exact r1 | exact t2 | exact t3 | exact t4 | exact t5 | exact t6 | exact t7 | exact t8 | exact t9 | exact t10 | exact t11 | exact t12 | exact t13 | exact r2 | exact r4 | exact r5 | exact r8 | exact r9 | exact r10 | exact r11 | exact r12 | exact r13 | exact r14 | exact r15 | exact r16) (by omega) (by decide) ⟨by omega, by omega⟩ ?_
    rw [show Int.toNat 3 = 3 from rfl]
    refine g_icmp_ge (Y := Y_X5_mixMap) (t := 28) (pc' := 12) dX5_mixMap_9 (by decide) rfl ⟨by omega, by omega⟩ ⟨by omega, by omega⟩ (fun h9 => ?_) (fun h9 => ?_)
    · exact hend _
    · exfalso; omega
  | succ f ih =>
    intro i h hf hend
    have z3 := hz9.1
    refine g_iload1 (Y := Y_X5_mixMap) (pc' := 3) dX5_mixMap_2 rfl ?_
    refine g_aload0 (Y := Y_X5_mixMap) (pc' := 4) dX5_mixMap_3 rfl ?_
    refine g_getR (Y := Y_X5_mixMap) (pc' := 7) dX5_mixMap_4 rfl fl_X5_7 rfl (by first | exact t0 | exact t1 | exact r1 | exact t2 | exact t3 | exact t4 | exact t5 | exact t6 | exact t7 | exact t8 | exact t9 | exact t10 | exact t11 | exact t12 | exact t13 | exact r2 | exact r4 | exact r5 | exact r8 | exact r9 | exact r10 | exact r11 | exact r12 | exact r13 | exact r14 | exact r15 | exact r16) (by omega) (by first | exact t0 | exact t1 | exact r1 | exact t2 | exact t3 | exact t4 | exact t5 | exact t6 | exact t7 | exact t8 | exact t9 | exact t10 | exact t11 | exact t12 | exact t13 | exact r2 | exact r4 | exact r5 | exact r8 | exact r9 | exact r10 | exact r11 | exact r12 | exact r13 | exact r14 | exact r15 | exact r16) ?_
    refine g_iconst (Y := Y_X5_mixMap) (pc' := 8) dX5_mixMap_7 rfl ?_
    refine g_iald (Y := Y_X5_mixMap) (pc' := 9) dX5_mixMap_8 rfl (by first | exact t0 | exact t1 | exact r1 | exact t2 | exact t3 | exact t4 | exact t5 | exact t6 | exact t7 | exact t8 | exact t9 | exact t10 | exact t11 | exact t12 | exact t13 | exact r2 | exact r4 | exact r5 | exact r8 | exact r9 | exact r10 | exact r11 | exact r12 | exact r13 | exact r14 | exact r15 | exact r16) (by omega) (by decide) ⟨by omega, by omega⟩ ?_
    rw [show Int.toNat 3 = 3 from rfl]
    refine g_icmp_ge (Y := Y_X5_mixMap) (t := 28) (pc' := 12) dX5_mixMap_9 (by decide) rfl ⟨by omega, by omega⟩ ⟨by omega, by omega⟩ (fun h9 => ?_) (fun h9 => ?_)
    · exfalso; omega
    · refine g_aload0 (Y := Y_X5_mixMap) (pc' := 13) dX5_mixMap_12 rfl ?_
      refine g_aload0 (Y := Y_X5_mixMap) (pc' := 14) dX5_mixMap_13 rfl ?_
      refine g_iload1 (Y := Y_X5_mixMap) (pc' := 15) dX5_mixMap_14 rfl ?_
      refine g_callVv (Y := Y_X5_mixMap) (c := 5) (s_X5_spot hk0 i (by omega)) (pc' := 18) dX5_mixMap_15 rfl cv_X5_58 rfl (by first | exact t0 | exact t1 | exact r1 | exact t2 | exact t3 | exact t4 | exact t5 | exact t6 | exact t7 | exact t8 | exact t9 | exact t10 | exact t11 | exact t12 | exact t13 | exact r2 | exact r4 | exact r5 | exact r8 | exact r9 | exact r10 | exact r11 | exact r12 | exact r13 | exact r14 | exact r15 | exact r16) (by show _ < n; omega) ⟨by decide, _, rfl, rfl⟩ rfl rfl rfl rfl ?_
      refine g_i2l (Y := Y_X5_mixMap) (pc' := 19) dX5_mixMap_18 rfl ?_
      refine g_callVn (Y := Y_X5_mixMap) (c := 5) (s_X5_mix hk0 h _) (pc' := 22) dX5_mixMap_19 rfl cv_X5_267 rfl (by first | exact t0 | exact t1 | exact r1 | exact t2 | exact t3 | exact t4 | exact t5 | exact t6 | exact t7 | exact t8 | exact t9 | exact t10 | exact t11 | exact t12 | exact t13 | exact r2 | exact r4 | exact r5 | exact r8 | exact r9 | exact r10 | exact r11 | exact r12 | exact r13 | exact r14 | exact r15 | exact r16) (by show _ < n; omega) ⟨by decide, _, rfl, rfl⟩ rfl rfl rfl rfl ?_
      refine g_iinc1 (Y := Y_X5_mixMap) (pc' := 25) dX5_mixMap_22 rfl (Nat.le_of_ble_eq_true rfl) rfl ?_
      refine g_goto (Y := Y_X5_mixMap) (t := 2) dX5_mixMap_25 (by decide) ?_
      exact ih (i + 1) _ (by omega) hend
