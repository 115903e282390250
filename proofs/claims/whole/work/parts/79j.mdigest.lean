/-! the reference: its digest -/
set_option maxHeartbeats 2000000 in
set_option maxRecDepth 100000 in
theorem s_X5_dg2_lp {l : Launch} {E : QE} {T : Nat → Nat × Nat} {I : Nat → Nat → Int} {J : Nat → Nat → Int64} {R : Nat → Nat → Option Nat} {n z : Nat} (hk : MdB T R n) {K : Option Value → QW → Prop} : ∀ (f i : Nat) (h : Int64), i + f = 3 → (∀ L1 : Int, Go l E Y_X5_digest 0 0 62 [some (.ref (E.1 + 110)), some (.int (iz L1))] [] (T, I, jh J (hL (fun q => I 111 q) f i h), R, n, z) K) → Go l E Y_X5_digest 0 0 38 [some (.ref (E.1 + 110)), some (.int (iz (i : Int)))] [] (T, I, jh J (h), R, n, z) K := by
  have hk0 := hk
  obtain ⟨t0, t1, t2, t3, t4, t5, t6, t7, t8, t9, t10, t11, t12, t13, r1, r2, r4, r5, r8, r9, r10, r11, r12, r13, r14, r15, r16, hn⟩ := hk
  intro f
  induction f with
  | zero =>
    intro i h hf hend
    refine g_iload1 (Y := Y_X5_digest) (pc' := 39) dX5_digest_38 rfl ?_
    refine g_iconst (Y := Y_X5_digest) (pc' := 40) dX5_digest_39 rfl ?_
    refine g_icmp_gt (Y := Y_X5_digest) (t := 62) (pc' := 43) dX5_digest_40 (by decide) rfl ⟨by omega, by omega⟩ ⟨by omega, by omega⟩ (fun h40 => ?_) (fun h40 => ?_)
    · exact hend _
    · exfalso; omega
  | succ f ih =>
    intro i h hf hend
    refine g_iload1 (Y := Y_X5_digest) (pc' := 39) dX5_digest_38 rfl ?_
    refine g_iconst (Y := Y_X5_digest) (pc' := 40) dX5_digest_39 rfl ?_
    refine g_icmp_gt (Y := Y_X5_digest) (t := 62) (pc' := 43) dX5_digest_40 (by decide) rfl ⟨by omega, by omega⟩ ⟨by omega, by omega⟩ (fun h40 => ?_) (fun h40 => ?_)
    · exfalso; omega
    · refine g_aload0 (Y := Y_X5_digest) (pc' := 44) dX5_digest_43 rfl ?_
      refine g_aload0 (Y := Y_X5_digest) (pc' := 45) dX5_digest_44 rfl ?_
      refine g_getR (Y := Y_X5_digest) (pc' := 48) dX5_digest_45 rfl fl_X5_7 rfl (by first | exact t0 | exact t1 | exact r1 | exact t2 | exact t3 | exact t4 | exact t5 | exact t6 | exact t7 | exact t8 | exact t9 | exact t10 | exact t11 | exact t12 | exact t13 | exact r2 | exact r4 | exact r5 | exact r8 | exact r9 | exact r10 | exact r11 | exact r12 | exact r13 | exact r14 | exact r15 | exact r16) (by omega) (by first | exact t0 | exact t1 | exact r1 | exact t2 | exact t3 | exact t4 | exact t5 | exact t6 | exact t7 | exact t8 | exact t9 | exact t10 | exact t11 | exact t12 | exact t13 | exact r2 | exact r4 | exact r5 | exact r8 | exact r9 | exact r10 | exact r11 | exact r12 | exact r13 | exact r14 | exact r15 | exact r16) ?_
      refine g_iconst (Y := Y_X5_digest) (pc' := 49) dX5_digest_48 rfl ?_
      refine g_iload1 (Y := Y_X5_digest) (pc' := 50) dX5_digest_49 rfl ?_
      refine g_iadd (Y := Y_X5_digest) (pc' := 51) dX5_digest_50 rfl ?_
      refine g_iald (Y := Y_X5_digest) (pc' := 52) dX5_digest_51 rfl (by first | exact t0 | exact t1 | exact r1 | exact t2 | exact t3 | exact t4 | exact t5 | exact t6 | exact t7 | exact t8 | exact t9 | exact t10 | exact t11 | exact t12 | exact t13 | exact r2 | exact r4 | exact r5 | exact r8 | exact r9 | exact r10 | exact r11 | exact r12 | exact r13 | exact r14 | exact r15 | exact r16) (by omega) (by decide) ⟨by omega, by omega⟩ ?_
      rw [show (0 + (i : Int)).toNat = i by omega]
      refine g_i2l (Y := Y_X5_digest) (pc' := 53) dX5_digest_52 rfl ?_
      refine g_callVn (Y := Y_X5_digest) (c := 5) (s_X5_mix hk0 h _) (pc' := 56) dX5_digest_53 rfl cv_X5_267 rfl (by first | exact t0 | exact t1 | exact r1 | exact t2 | exact t3 | exact t4 | exact t5 | exact t6 | exact t7 | exact t8 | exact t9 | exact t10 | exact t11 | exact t12 | exact t13 | exact r2 | exact r4 | exact r5 | exact r8 | exact r9 | exact r10 | exact r11 | exact r12 | exact r13 | exact r14 | exact r15 | exact r16) (by show _ < n; omega) ⟨by decide, _, rfl, rfl⟩ rfl rfl rfl rfl ?_
      refine g_iinc1 (Y := Y_X5_digest) (pc' := 59) dX5_digest_56 rfl (Nat.le_of_ble_eq_true rfl) rfl ?_
      refine g_goto (Y := Y_X5_digest) (t := 38) dX5_digest_59 (by decide) ?_
      exact ih (i + 1) _ (by omega) hend
