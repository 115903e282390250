/-! the reference: what it tells -/
set_option maxHeartbeats 2000000 in
set_option maxRecDepth 100000 in
theorem s_X5_blockWith {l : Launch} {E : QE} {T : Nat → Nat × Nat} {I : Nat → Nat → Int} {J : Nat → Nat → Int64} {R : Nat → Nat → Option Nat} {n z : Nat} (hk : MdB T R n) (hz9 : ZV I) (v : Int) (hv : 0 ≤ v ∧ v ≤ 999) : SpV l E Y_X5_blockWith [.ref (E.1 + 110), .int (iz v)] (T, I, J, R, n, z) (.int (iz (m_bwL I v 480 0))) (T, I, J, R, n, z) := by
  have hk0 := hk
  refine Sp.of [some (.ref (E.1 + 110)), some (.int (iz v)), none] (by decide +kernel) (Nat.le_of_ble_eq_true rfl) (fun _ h => h) ?_
  refine g_iconst (Y := Y_X5_blockWith) (pc' := 1) dX5_blockWith_0 rfl ?_
  refine g_istore2 (Y := Y_X5_blockWith) (pc' := 2) dX5_blockWith_1 rfl (Nat.le_of_ble_eq_true rfl) rfl ?_
  exact s_X5_blockWith_lp hk0 hz9 hv 480 0 rfl
