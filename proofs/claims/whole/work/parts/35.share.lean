/-! ScratchMap: the share's bits -/
set_option maxHeartbeats 2000000 in
set_option maxRecDepth 100000 in
theorem s_X4_bits_lp {l : Launch} {E : QE} {w : QW} {s : UInt64} : ∀ (m : Nat) (i : Int) (q : UInt64) (x : Int64) (x7 : Option Value), bsOk m q = true → 0 ≤ i → i + m < 900 → Go l E Y_X4_bitsOfShare 0 0 18 [some (.double s), none, some (.long x), none, some (.double q), none, some (.int (iz i)), x7] [] w (KV (.long ((bsL m q x).2 <<< ((iz 52).toInt64 &&& 63) ||| FP.d2l (FP.dmul (FP.dsub (bsL m q x).1 FP.dconst1) d52))) w) := by
  intro m
  induction m with
  | zero =>
    intro i q x x7 hok hi hm
    exact absurd hok Bool.false_ne_true
  | succ m ih =>
    intro i q x x7 hok hi hm
    have hr := cz_rg q FP.dconst1 .g
    refine g_iload6 (Y := Y_X4_bitsOfShare) (pc' := 20) dX4_bitsOfShare_18 rfl ?_
    refine g_sipush (Y := Y_X4_bitsOfShare) (pc' := 23) dX4_bitsOfShare_20 rfl (by decide) ?_
    refine g_icmp_ge (Y := Y_X4_bitsOfShare) (t := 51) (pc' := 26) dX4_bitsOfShare_23 (by decide) rfl ⟨by omega, by omega⟩ ⟨by omega, by omega⟩ (fun h23 => ?_) (fun h23 => ?_)
    · exfalso; omega
    · refine g_dload4 (Y := Y_X4_bitsOfShare) (pc' := 28) dX4_bitsOfShare_26 rfl ?_
      refine g_dconst1 (Y := Y_X4_bitsOfShare) (pc' := 29) dX4_bitsOfShare_28 rfl ?_
      refine g_dcmp (Y := Y_X4_bitsOfShare) (pc' := 30) dX4_bitsOfShare_29 rfl (cz_eq q FP.dconst1 .g) ?_
      refine g_if_ge (Y := Y_X4_bitsOfShare) (t := 51) (pc' := 33) dX4_bitsOfShare_30 (by decide) rfl hr (fun h30 => ?_) (fun h30 => ?_)
      · have e : bsL (m + 1) q x = (q, x) := if_pos h30
        have o2 : (n64b (FP.dsub q FP.dconst1) && n64b (FP.dmul (FP.dsub q FP.dconst1) d52)) = true := by
          have e2 : bsOk (m + 1) q = (n64b (FP.dsub q FP.dconst1) && n64b (FP.dmul (FP.dsub q FP.dconst1) d52)) := if_pos h30
          rwa [e2] at hok
        rw [Bool.and_eq_true] at o2
        rw [e]
        refine g_dload4 (Y := Y_X4_bitsOfShare) (pc' := 53) dX4_bitsOfShare_51 rfl ?_
        refine g_dconst1 (Y := Y_X4_bitsOfShare) (pc' := 54) dX4_bitsOfShare_53 rfl ?_
        refine g_dsub (Y := Y_X4_bitsOfShare) (pc' := 55) dX4_bitsOfShare_54 rfl (n64_of o2.1) ?_
        refine g_ldc2d (Y := Y_X4_bitsOfShare) (v := (4841369599423283200 : UInt64)) (pc' := 58) dX4_bitsOfShare_55 rfl (q_w 503 (by decide +kernel) rfl) ?_
        refine g_dmul (Y := Y_X4_bitsOfShare) (pc' := 59) dX4_bitsOfShare_58 rfl (n64_of o2.2) ?_
        refine g_d2l (Y := Y_X4_bitsOfShare) (pc' := 60) dX4_bitsOfShare_59 rfl ?_
        refine g_lstore6 (Y := Y_X4_bitsOfShare) (pc' := 62) dX4_bitsOfShare_60 rfl (Nat.le_of_ble_eq_true rfl) rfl ?_
        refine g_lload2 (Y := Y_X4_bitsOfShare) (pc' := 63) dX4_bitsOfShare_62 rfl ?_
        refine g_bipush (Y := Y_X4_bitsOfShare) (pc' := 65) dX4_bitsOfShare_63 rfl (by decide) ?_
        refine g_lshl (Y := Y_X4_bitsOfShare) (pc' := 66) dX4_bitsOfShare_65 rfl rfl ?_
        refine g_lload6 (Y := Y_X4_bitsOfShare) (pc' := 68) dX4_bitsOfShare_66 rfl ?_
        refine g_lor (Y := Y_X4_bitsOfShare) (pc' := 69) dX4_bitsOfShare_68 rfl ?_
        exact g_lret (Y := Y_X4_bitsOfShare) dX4_bitsOfShare_69 rfl (Nat.zero_le _) (Nat.zero_le _) (⟨rfl, rfl⟩)
      · have e : bsL (m + 1) q x = bsL m (FP.dmul q d2) (x - 1) := if_neg h30
        have o2 : (n64b (FP.dmul q d2) && bsOk m (FP.dmul q d2)) = true := by
          have e2 : bsOk (m + 1) q = (n64b (FP.dmul q d2) && bsOk m (FP.dmul q d2)) := if_neg h30
          rwa [e2] at hok
        rw [Bool.and_eq_true] at o2
        rw [e]
        refine g_dload4 (Y := Y_X4_bitsOfShare) (pc' := 35) dX4_bitsOfShare_33 rfl ?_
        refine g_ldc2d (Y := Y_X4_bitsOfShare) (v := (4611686018427387904 : UInt64)) (pc' := 38) dX4_bitsOfShare_35 rfl (q_w 502 (by decide +kernel) rfl) ?_
        refine g_dmul (Y := Y_X4_bitsOfShare) (pc' := 39) dX4_bitsOfShare_38 rfl (n64_of o2.1) ?_
        refine g_dstore4 (Y := Y_X4_bitsOfShare) (pc' := 41) dX4_bitsOfShare_39 rfl (Nat.le_of_ble_eq_true rfl) rfl ?_
        refine g_lload2 (Y := Y_X4_bitsOfShare) (pc' := 42) dX4_bitsOfShare_41 rfl ?_
        refine g_lconst (Y := Y_X4_bitsOfShare) (v := 1) (pc' := 43) dX4_bitsOfShare_42 rfl (by decide) ?_
        refine g_lsub (Y := Y_X4_bitsOfShare) (pc' := 44) dX4_bitsOfShare_43 rfl ?_
        refine g_lstore2 (Y := Y_X4_bitsOfShare) (pc' := 45) dX4_bitsOfShare_44 rfl (Nat.le_of_ble_eq_true rfl) rfl ?_
        refine g_iinc6 (Y := Y_X4_bitsOfShare) (pc' := 48) dX4_bitsOfShare_45 rfl (Nat.le_of_ble_eq_true rfl) rfl ?_
        refine g_goto (Y := Y_X4_bitsOfShare) (t := 18) dX4_bitsOfShare_48 (by decide) ?_
        exact ih (i + 1) _ _ _ o2.2 (by omega) (by omega)
set_option maxHeartbeats 2000000 in
set_option maxRecDepth 100000 in
theorem s_X4_bitsOfShare {l : Launch} {E : QE} {w : QW} (s : UInt64) (hs : shOk s = true) : SpV l E Y_X4_bitsOfShare [.double s] w (.long (f_bits s)) w := by
  have hr := cz_rg s FP.dconst0 .g
  unfold shOk at hs
  rw [Bool.and_eq_true, Bool.or_eq_true, decide_eq_true_eq] at hs
  refine Sp.of [some (.double s), none, none, none, none, none, none, none] (by decide +kernel) (Nat.le_of_ble_eq_true rfl) (fun _ h => h) ?_
  refine g_dload0 (Y := Y_X4_bitsOfShare) (pc' := 1) dX4_bitsOfShare_0 rfl ?_
  refine g_dconst0 (Y := Y_X4_bitsOfShare) (pc' := 2) dX4_bitsOfShare_1 rfl ?_
  refine g_dcmp (Y := Y_X4_bitsOfShare) (pc' := 3) dX4_bitsOfShare_2 rfl (cz_eq s FP.dconst0 .g) ?_
  refine g_if_gt (Y := Y_X4_bitsOfShare) (t := 8) (pc' := 6) dX4_bitsOfShare_3 (by decide) rfl hr (fun h3 => ?_) (fun h3 => ?_)
  · have e : f_bits s = _ := if_neg (by omega)
    rw [e]
    refine g_ldc2l (Y := Y_X4_bitsOfShare) (v := (1023 : Int64)) (pc' := 11) dX4_bitsOfShare_8 rfl (q_w 501 (by decide +kernel) rfl) ?_
    refine g_lstore2 (Y := Y_X4_bitsOfShare) (pc' := 12) dX4_bitsOfShare_11 rfl (Nat.le_of_ble_eq_true rfl) rfl ?_
    refine g_dload0 (Y := Y_X4_bitsOfShare) (pc' := 13) dX4_bitsOfShare_12 rfl ?_
    refine g_dstore4 (Y := Y_X4_bitsOfShare) (pc' := 15) dX4_bitsOfShare_13 rfl (Nat.le_of_ble_eq_true rfl) rfl ?_
    refine g_iconst (Y := Y_X4_bitsOfShare) (pc' := 16) dX4_bitsOfShare_15 rfl ?_
    refine g_istore6 (Y := Y_X4_bitsOfShare) (pc' := 18) dX4_bitsOfShare_16 rfl (Nat.le_of_ble_eq_true rfl) rfl ?_
    exact s_X4_bits_lp 12 0 s 1023 _ (hs.2.resolve_left (by omega)) (by decide) (by decide)
  · have e : f_bits s = 0 := if_pos (by omega)
    rw [e]
    refine g_lconst (Y := Y_X4_bitsOfShare) (v := 0) (pc' := 7) dX4_bitsOfShare_6 rfl (by decide) ?_
    exact g_lret (Y := Y_X4_bitsOfShare) dX4_bitsOfShare_7 rfl (Nat.zero_le _) (Nat.zero_le _) (⟨rfl, rfl⟩)
set_option maxHeartbeats 2000000 in
set_option maxRecDepth 100000 in
theorem s_X4_goodShare {l : Launch} {E : QE} {T : Nat → Nat × Nat} {I : Nat → Nat → Int} {J : Nat → Nat → Int64} {R : Nat → Nat → Option Nat} {n z : Nat} (hk : ScB T R n) (hv : XV I) (hav : 0 ≤ I 7 7 ∧ I 7 7 ≤ 580) : SpV l E Y_X4_goodShare [.ref (E.1 + 0)] (T, I, J, R, n, z) (.double (f_shr (576 - I 1 5 - I 7 7))) (T, I, J, R, n, z) := by
  obtain ⟨a0, a1, a2, a3, a4, a5, a6, a7, a8, a9, a10, a11, a12, a13, a14, a15, a16⟩ := hk
  have b8 := a8.1
  have b9 := a9.1
  have b10 := a10.1
  have b11 := a11.1
  have b12 := a12.1
  obtain ⟨x1, x7, x46, x36, x40, x74, x3, xl, xl2⟩ := id hv
  have x15 := x1.1
  have ok := shOk_g (576 - I 1 5 - I 7 7) ⟨by omega, by omega⟩
  unfold shOk at ok
  rw [Bool.and_eq_true] at ok
  refine Sp.of [some (.ref (E.1 + 0))] (by decide +kernel) (Nat.le_of_ble_eq_true rfl) (fun _ h => h) ?_
  refine g_sipush (Y := Y_X4_goodShare) (pc' := 3) dX4_goodShare_0 rfl (by decide) ?_
  refine g_aload0 (Y := Y_X4_goodShare) (pc' := 4) dX4_goodShare_3 rfl ?_
  refine g_getR (Y := Y_X4_goodShare) (pc' := 7) dX4_goodShare_4 rfl fl_X4_10 rfl (by assumption) (by omega) (by assumption) ?_
  refine g_getI (Y := Y_X4_goodShare) (pc' := 10) dX4_goodShare_7 rfl fl_X4_231 rfl (by assumption) (by omega) ?_
  refine g_isub (Y := Y_X4_goodShare) (pc' := 11) dX4_goodShare_10 rfl ?_
  refine g_aload0 (Y := Y_X4_goodShare) (pc' := 12) dX4_goodShare_11 rfl ?_
  refine g_getR (Y := Y_X4_goodShare) (pc' := 15) dX4_goodShare_12 rfl fl_X4_19 rfl (by assumption) (by omega) (by assumption) ?_
  refine g_getI (Y := Y_X4_goodShare) (pc' := 18) dX4_goodShare_15 rfl fl_X4_234 rfl (by assumption) (by omega) ?_
  refine g_isub (Y := Y_X4_goodShare) (pc' := 19) dX4_goodShare_18 rfl ?_
  refine g_i2d (Y := Y_X4_goodShare) (pc' := 20) dX4_goodShare_19 rfl ?_
  refine g_ldc2d (Y := Y_X4_goodShare) (v := (4648277765399773184 : UInt64)) (pc' := 23) dX4_goodShare_20 rfl (q_w 305 (by decide +kernel) rfl) ?_
  refine g_ddiv (Y := Y_X4_goodShare) (pc' := 24) dX4_goodShare_23 rfl (n64_of ok.1) ?_
  exact g_dret (Y := Y_X4_goodShare) dX4_goodShare_24 rfl (Nat.zero_le _) (Nat.zero_le _) (⟨rfl, rfl⟩)
