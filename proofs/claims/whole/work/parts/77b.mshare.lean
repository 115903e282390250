/-! the reference: the share, its bits; what looking leaves alone -/
set_option maxHeartbeats 2000000 in
set_option maxRecDepth 100000 in
theorem s_X5_bits_lp9 {l : Launch} {E : QE} {w : QW} {s : UInt64} : ∀ (m : Nat) (q : UInt64) (x : Int64), bmOk m q = true → Go l E Y_X5_bitsOf 0 0 38 [some (.double s), none, some (.double q), none, some (.long x), none] [] w (KV (.long ((bsL m q x).2 <<< ((iz 52).toInt64 &&& 63) + FP.d2l (FP.dmul (bsL m q x).1 d52) - 4503599627370496)) w) := by
  intro m
  induction m with
  | zero =>
    intro q x hok
    exact absurd hok Bool.false_ne_true
  | succ m ih =>
    intro q x hok
    have hr := cz_rg q FP.dconst1 .g
    refine g_dload2 (Y := Y_X5_bitsOf) (pc' := 39) dX5_bitsOf_38 rfl ?_
    refine g_dconst1 (Y := Y_X5_bitsOf) (pc' := 40) dX5_bitsOf_39 rfl ?_
    refine g_dcmp (Y := Y_X5_bitsOf) (pc' := 41) dX5_bitsOf_40 rfl (cz_eq q FP.dconst1 .g) ?_
    refine g_if_ge (Y := Y_X5_bitsOf) (t := 59) (pc' := 44) dX5_bitsOf_41 (by decide) rfl hr (fun h41 => ?_) (fun h41 => ?_)
    · have e : bsL (m + 1) q x = (q, x) := if_pos h41
      have o2 : n64b (FP.dmul q d52) = true := by
        have e2 : bmOk (m + 1) q = n64b (FP.dmul q d52) := if_pos h41
        rwa [e2] at hok
      rw [e]
      refine g_lload4 (Y := Y_X5_bitsOf) (pc' := 61) dX5_bitsOf_59 rfl ?_
      refine g_bipush (Y := Y_X5_bitsOf) (pc' := 63) dX5_bitsOf_61 rfl (by decide) ?_
      refine g_lshl (Y := Y_X5_bitsOf) (pc' := 64) dX5_bitsOf_63 rfl rfl ?_
      refine g_dload2 (Y := Y_X5_bitsOf) (pc' := 65) dX5_bitsOf_64 rfl ?_
      refine g_ldc2d (Y := Y_X5_bitsOf) (v := (4841369599423283200 : UInt64)) (pc' := 68) dX5_bitsOf_65 rfl (q_w 1219 (by decide +kernel) rfl) ?_
      refine g_dmul (Y := Y_X5_bitsOf) (pc' := 69) dX5_bitsOf_68 rfl (n64_of o2) ?_
      refine g_d2l (Y := Y_X5_bitsOf) (pc' := 70) dX5_bitsOf_69 rfl ?_
      refine g_ladd (Y := Y_X5_bitsOf) (pc' := 71) dX5_bitsOf_70 rfl ?_
      refine g_ldc2l (Y := Y_X5_bitsOf) (v := (4503599627370496 : Int64)) (pc' := 74) dX5_bitsOf_71 rfl (q_w 1220 (by decide +kernel) rfl) ?_
      refine g_lsub (Y := Y_X5_bitsOf) (pc' := 75) dX5_bitsOf_74 rfl ?_
      exact g_lret (Y := Y_X5_bitsOf) dX5_bitsOf_75 rfl (Nat.zero_le _) (Nat.zero_le _) (⟨rfl, rfl⟩)
    · have e : bsL (m + 1) q x = bsL m (FP.dmul q d2) (x - 1) := if_neg h41
      have o2 : (n64b (FP.dmul q d2) && bmOk m (FP.dmul q d2)) = true := by
        have e2 : bmOk (m + 1) q = (n64b (FP.dmul q d2) && bmOk m (FP.dmul q d2)) := if_neg h41
        rwa [e2] at hok
      rw [Bool.and_eq_true] at o2
      rw [e]
      refine g_dload2 (Y := Y_X5_bitsOf) (pc' := 45) dX5_bitsOf_44 rfl ?_
      refine g_ldc2d (Y := Y_X5_bitsOf) (v := (4611686018427387904 : UInt64)) (pc' := 48) dX5_bitsOf_45 rfl (q_w 1218 (by decide +kernel) rfl) ?_
      refine g_dmul (Y := Y_X5_bitsOf) (pc' := 49) dX5_bitsOf_48 rfl (n64_of o2.1) ?_
      refine g_dstore2 (Y := Y_X5_bitsOf) (pc' := 50) dX5_bitsOf_49 rfl (Nat.le_of_ble_eq_true rfl) rfl ?_
      refine g_lload4 (Y := Y_X5_bitsOf) (pc' := 52) dX5_bitsOf_50 rfl ?_
      refine g_lconst (Y := Y_X5_bitsOf) (v := 1) (pc' := 53) dX5_bitsOf_52 rfl (by decide) ?_
      refine g_lsub (Y := Y_X5_bitsOf) (pc' := 54) dX5_bitsOf_53 rfl ?_
      refine g_lstore4 (Y := Y_X5_bitsOf) (pc' := 56) dX5_bitsOf_54 rfl (Nat.le_of_ble_eq_true rfl) rfl ?_
      refine g_goto (Y := Y_X5_bitsOf) (t := 38) dX5_bitsOf_56 (by decide) ?_
      exact ih _ _ o2.2
