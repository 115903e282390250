/-! the reference: the share, its bits; what looking leaves alone -/
set_option maxHeartbeats 2000000 in
set_option maxRecDepth 100000 in
theorem s_X5_bitsOf {l : Launch} {E : QE} {w : QW} (s : UInt64) (hs : shOkm s = true) : SpV l E Y_X5_bitsOf [.double s] w (.long (m_bits s)) w := by
  have hr := cz_rg s FP.dconst0 .l
  have hr2 := cz_rg s d2 .l
  unfold shOkm at hs
  rw [Bool.and_eq_true, Bool.or_eq_true, Bool.and_eq_true, decide_eq_true_eq, decide_eq_true_eq] at hs
  refine Sp.of [some (.double s), none, none, none, none, none] (by decide +kernel) (Nat.le_of_ble_eq_true rfl) (fun _ h => h) ?_
  refine g_dload0 (Y := Y_X5_bitsOf) (pc' := 1) dX5_bitsOf_0 rfl ?_
  refine g_dconst0 (Y := Y_X5_bitsOf) (pc' := 2) dX5_bitsOf_1 rfl ?_
  refine g_dcmp (Y := Y_X5_bitsOf) (pc' := 3) dX5_bitsOf_2 rfl (cz_eq s FP.dconst0 .l) ?_
  refine g_if_ne (Y := Y_X5_bitsOf) (t := 8) (pc' := 6) dX5_bitsOf_3 (by decide) rfl hr (fun h3 => ?_) (fun h3 => ?_)
  · have e : m_bits s = _ := if_neg h3
    rw [e]
    have hs2 := hs.2.resolve_left h3
    refine g_dload0 (Y := Y_X5_bitsOf) (pc' := 9) dX5_bitsOf_8 rfl ?_
    refine g_dstore2 (Y := Y_X5_bitsOf) (pc' := 10) dX5_bitsOf_9 rfl (Nat.le_of_ble_eq_true rfl) rfl ?_
    refine g_ldc2l (Y := Y_X5_bitsOf) (v := (1023 : Int64)) (pc' := 13) dX5_bitsOf_10 rfl (q_w 1217 (by decide +kernel) rfl) ?_
    refine g_lstore4 (Y := Y_X5_bitsOf) (pc' := 15) dX5_bitsOf_13 rfl (Nat.le_of_ble_eq_true rfl) rfl ?_
    refine g_dload2 (Y := Y_X5_bitsOf) (pc' := 16) dX5_bitsOf_15 rfl ?_
    refine g_ldc2d (Y := Y_X5_bitsOf) (v := (4611686018427387904 : UInt64)) (pc' := 19) dX5_bitsOf_16 rfl (q_w 1218 (by decide +kernel) rfl) ?_
    refine g_dcmp (Y := Y_X5_bitsOf) (pc' := 20) dX5_bitsOf_19 rfl (cz_eq s d2 .l) ?_
    refine g_if_lt (Y := Y_X5_bitsOf) (t := 38) (pc' := 23) dX5_bitsOf_20 (by decide) rfl hr2 (fun h20 => ?_) (fun h20 => ?_)
    · exact s_X5_bits_lp9 12 s 1023 hs2.2
    · exact absurd hs2.1 h20
  · have e : m_bits s = 0 := if_pos h3
    rw [e]
    refine g_lconst (Y := Y_X5_bitsOf) (v := 0) (pc' := 7) dX5_bitsOf_6 rfl (by decide) ?_
    exact g_lret (Y := Y_X5_bitsOf) dX5_bitsOf_7 rfl (Nat.zero_le _) (Nat.zero_le _) (⟨rfl, rfl⟩)
