/-! constructors: a line, a text, a map -/
set_option maxHeartbeats 2000000 in
set_option maxRecDepth 100000 in
theorem s_X1_init {l : Launch} {E : QE} {T : Nat → Nat × Nat} {I : Nat → Nat → Int} {J : Nat → Nat → Int64} {R : Nat → Nat → Option Nat} {n z : Nat} {k : Nat} (t0 : T k = (1, 0)) (hn : k < n) (zk : (∀ j, I k j = 0) ∧ ∀ j, J k j = 0) : SpN l E Y_X1_init [.ref (E.1 + k)] (T, I, J, R, n, z) (T, I, J, R, n, z) := by
  refine Sp.of [some (.ref (E.1 + k))] (by decide +kernel) (Nat.le_of_ble_eq_true rfl) (fun _ h => h) ?_
  refine g_aload0 (Y := Y_X1_init) (pc' := 1) dX1_init_0 rfl ?_
  refine g_objInit (Y := Y_X1_init) (pc' := 4) dX1_init_1 rfl (q_w 74 (by decide +kernel) rfl) (q_w 22 (by decide +kernel) rfl) (q_w 23 (by decide +kernel) rfl) (by first | exact Nat.le_of_ble_eq_true rfl | (show _ ≤ _; omega)) (by first | exact Nat.le_of_ble_eq_true rfl | (show _ ≤ _; omega)) ?_
  refine g_aload0 (Y := Y_X1_init) (pc' := 5) dX1_init_4 rfl ?_
  refine g_iconst (Y := Y_X1_init) (pc' := 6) dX1_init_5 rfl ?_
  refine g_putI (Y := Y_X1_init) (pc' := 9) dX1_init_6 rfl fp_X1_9 rfl (by assumption) (by omega) ?_
  rw [u2_0 (zk.1 0)]
  refine g_aload0 (Y := Y_X1_init) (pc' := 10) dX1_init_9 rfl ?_
  refine g_iconst (Y := Y_X1_init) (pc' := 11) dX1_init_10 rfl ?_
  refine g_putI (Y := Y_X1_init) (pc' := 14) dX1_init_11 rfl fp_X1_15 rfl (by assumption) (by omega) ?_
  rw [u2_0 (zk.1 1)]
  refine g_aload0 (Y := Y_X1_init) (pc' := 15) dX1_init_14 rfl ?_
  refine g_iconst (Y := Y_X1_init) (pc' := 16) dX1_init_15 rfl ?_
  refine g_putI (Y := Y_X1_init) (pc' := 19) dX1_init_16 rfl fp_X1_18 rfl (by assumption) (by omega) ?_
  rw [u2_0 (zk.1 2)]
  refine g_aload0 (Y := Y_X1_init) (pc' := 20) dX1_init_19 rfl ?_
  refine g_iconst (Y := Y_X1_init) (pc' := 21) dX1_init_20 rfl ?_
  refine g_putI (Y := Y_X1_init) (pc' := 24) dX1_init_21 rfl fp_X1_21 rfl (by assumption) (by omega) ?_
  rw [u2_0 (zk.1 3)]
  refine g_aload0 (Y := Y_X1_init) (pc' := 25) dX1_init_24 rfl ?_
  refine g_iconst (Y := Y_X1_init) (pc' := 26) dX1_init_25 rfl ?_
  refine g_putI (Y := Y_X1_init) (pc' := 29) dX1_init_26 rfl fp_X1_24 rfl (by assumption) (by omega) ?_
  rw [u2_0 (zk.1 4)]
  refine g_aload0 (Y := Y_X1_init) (pc' := 30) dX1_init_29 rfl ?_
  refine g_iconst (Y := Y_X1_init) (pc' := 31) dX1_init_30 rfl ?_
  refine g_putI (Y := Y_X1_init) (pc' := 34) dX1_init_31 rfl fp_X1_27 rfl (by assumption) (by omega) ?_
  rw [u2_0 (zk.1 5)]
  refine g_aload0 (Y := Y_X1_init) (pc' := 35) dX1_init_34 rfl ?_
  refine g_iconst (Y := Y_X1_init) (pc' := 36) dX1_init_35 rfl ?_
  refine g_putI (Y := Y_X1_init) (pc' := 39) dX1_init_36 rfl fp_X1_30 rfl (by assumption) (by omega) ?_
  rw [u2_0 (zk.1 6)]
  refine g_aload0 (Y := Y_X1_init) (pc' := 40) dX1_init_39 rfl ?_
  refine g_iconst (Y := Y_X1_init) (pc' := 41) dX1_init_40 rfl ?_
  refine g_putI (Y := Y_X1_init) (pc' := 44) dX1_init_41 rfl fp_X1_33 rfl (by assumption) (by omega) ?_
  rw [u2_0 (zk.1 7)]
  refine g_aload0 (Y := Y_X1_init) (pc' := 45) dX1_init_44 rfl ?_
  refine g_lconst (Y := Y_X1_init) (v := 0) (pc' := 46) dX1_init_45 rfl (by decide) ?_
  refine g_putJ (Y := Y_X1_init) (pc' := 49) dX1_init_46 rfl fp_X1_36 rfl (by assumption) (by omega) ?_
  rw [u2_0J (zk.2 8)]
  exact g_vret (Y := Y_X1_init) dX1_init_49 rfl (by first | exact Nat.le_of_ble_eq_true rfl | (show _ ≤ _; omega)) (by first | exact Nat.le_of_ble_eq_true rfl | (show _ ≤ _; omega)) (⟨rfl, rfl⟩)
