/-! the reference: what else changes it -/
set_option maxHeartbeats 2000000 in
set_option maxRecDepth 100000 in
theorem s_X5_mostOf {l : Launch} {E : QE} {w : QW} (x : Int) (hx : -2147483648 ≤ x ∧ x < 2147483648) : SpV l E Y_X5_mostOf [.int (iz x)] w (.int (iz (m_hi x))) w := by
  refine Sp.of [some (.int (iz x))] (by decide +kernel) (Nat.le_of_ble_eq_true rfl) (fun _ h => h) ?_
  refine g_iload0 (Y := Y_X5_mostOf) (pc' := 1) dX5_mostOf_0 rfl ?_
  refine g_iconst (Y := Y_X5_mostOf) (pc' := 2) dX5_mostOf_1 rfl ?_
  refine g_icmp_ne (Y := Y_X5_mostOf) (t := 10) (pc' := 5) dX5_mostOf_2 (by decide) rfl ⟨by omega, by omega⟩ ⟨by omega, by omega⟩ (fun h2 => ?_) (fun h2 => ?_)
  · have e : m_hi x = 6 := if_neg (by omega)
    rw [e]
    refine g_bipush (Y := Y_X5_mostOf) (pc' := 12) dX5_mostOf_10 rfl (by decide) ?_
    exact g_iret (Y := Y_X5_mostOf) dX5_mostOf_12 rfl (Nat.zero_le _) (Nat.zero_le _) (⟨rfl, rfl⟩)
  · have e : m_hi x = 8 := if_pos (by omega)
    rw [e]
    refine g_bipush (Y := Y_X5_mostOf) (pc' := 7) dX5_mostOf_5 rfl (by decide) ?_
    refine g_goto (Y := Y_X5_mostOf) (t := 12) dX5_mostOf_7 (by decide) ?_
    exact g_iret (Y := Y_X5_mostOf) dX5_mostOf_12 rfl (Nat.zero_le _) (Nat.zero_le _) (⟨rfl, rfl⟩)
