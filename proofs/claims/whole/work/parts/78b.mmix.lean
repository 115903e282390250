/-! the reference: what it hashes of the map -/
set_option maxHeartbeats 2000000 in
set_option maxRecDepth 100000 in
theorem s_X5_mixFailed {l : Launch} {E : QE} {T : Nat → Nat × Nat} {J : Nat → Nat → Int64} {R : Nat → Nat → Option Nat} {n z : Nat} (hk : MdB T R n) {I : Nat → Nat → Int} (c : Nat) (hc : c < 576) (h : Int64) (hz9 : ZV I) (hb9 : HB I) : SpN l E Y_X5_mixFailed [.ref (E.1 + 110), .int (iz (c : Int))] (T, I, jh J (h), R, n, z) (T, (m_mf c I h).2, jh J (m_mf c I h).1, R, n, z) := by
  have hk0 := hk
  unfold m_mf
  refine Sp.of [some (.ref (E.1 + 110)), some (.int (iz (c : Int))), none] (by decide +kernel) (Nat.le_of_ble_eq_true rfl) (fun _ h => h) ?_
  refine g_iconst (Y := Y_X5_mixFailed) (pc' := 1) dX5_mixFailed_0 rfl ?_
  refine g_istore2 (Y := Y_X5_mixFailed) (pc' := 2) dX5_mixFailed_1 rfl (Nat.le_of_ble_eq_true rfl) rfl ?_
  exact s_X5_mixFailed_lp hk0 hc 4 0 I h rfl hz9 hb9
