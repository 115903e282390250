/-! the reference: what else changes it -/
set_option maxHeartbeats 2000000 in
set_option maxRecDepth 100000 in
theorem s_X5_leastOf {l : Launch} {E : QE} {w : QW} (x : Int) (hx : -2147483648 ≤ x ∧ x < 2147483648) : SpV l E Y_X5_leastOf [.int (iz x)] w (.int (iz (m_lo x))) w := by
  refine Sp.of [some (.int (iz x))] (by decide +kernel) (Nat.le_of_ble_eq_true rfl) (fun _ h => h) ?_
  refine g_iload0 (Y := Y_X5_leastOf) (pc' := 1) dX5_leastOf_0 rfl ?_
  refine g_if_ne (Y := Y_X5_leastOf) (t := 8) (pc' := 4) dX5_leastOf_1 (by decide) rfl ⟨by omega, by omega⟩ (fun h1 => ?_) (fun h1 => ?_)
  · refine g_iload0 (Y := Y_X5_leastOf) (pc' := 9) dX5_leastOf_8 rfl ?_
    refine g_iconst (Y := Y_X5_leastOf) (pc' := 10) dX5_leastOf_9 rfl ?_
    refine g_icmp_ne (Y := Y_X5_leastOf) (t := 17) (pc' := 13) dX5_leastOf_10 (by decide) rfl ⟨by omega, by omega⟩ ⟨by omega, by omega⟩ (fun h10 => ?_) (fun h10 => ?_)
    · have e : m_lo x = 0 := (if_neg (by omega)).trans (if_neg (by omega))
      rw [e]
      refine g_iconst (Y := Y_X5_leastOf) (pc' := 18) dX5_leastOf_17 rfl ?_
      exact g_iret (Y := Y_X5_leastOf) dX5_leastOf_18 rfl (Nat.zero_le _) (Nat.zero_le _) (⟨rfl, rfl⟩)
    · have e : m_lo x = 1 := (if_neg (by omega)).trans (if_pos (by omega))
      rw [e]
      refine g_iconst (Y := Y_X5_leastOf) (pc' := 14) dX5_leastOf_13 rfl ?_
      refine g_goto (Y := Y_X5_leastOf) (t := 18) dX5_leastOf_14 (by decide) ?_
      exact g_iret (Y := Y_X5_leastOf) dX5_leastOf_18 rfl (Nat.zero_le _) (Nat.zero_le _) (⟨rfl, rfl⟩)
  · have e : m_lo x = 3 := if_pos (by omega)
    rw [e]
    refine g_iconst (Y := Y_X5_leastOf) (pc' := 5) dX5_leastOf_4 rfl ?_
    refine g_goto (Y := Y_X5_leastOf) (t := 18) dX5_leastOf_5 (by decide) ?_
    exact g_iret (Y := Y_X5_leastOf) dX5_leastOf_18 rfl (Nat.zero_le _) (Nat.zero_le _) (⟨rfl, rfl⟩)
