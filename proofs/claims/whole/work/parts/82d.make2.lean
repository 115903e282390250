/-! constructors: a line, a text, a map -/
set_option maxHeartbeats 2000000 in
set_option maxRecDepth 100000 in
theorem s_X2_init {l : Launch} {E : QE} {T : Nat → Nat × Nat} {I : Nat → Nat → Int} {J : Nat → Nat → Int64} {R : Nat → Nat → Option Nat} {k : Nat} (t0 : T k = (2, 0)) (t1 : T (k + 1) = (8, 22)) (t2 : T (k + 2) = (6, 576)) (t3 : T (k + 3) = (7, 576)) (t4 : T (k + 4) = (6, 12)) (t5 : T (k + 5) = (6, 12)) (hTl : ∀ j, j < 22 → T (k + 6 + j) = (1, 0)) (hz0 : Z0 I J R k) : Sp l E Y_X2_init [.ref (E.1 + k)] (T, I, J, R, k + 1, k + 2) (fun r w => r = none ∧ ∃ R' : Nat → Nat → Option Nat, w = (T, I, J, R', k + 28, k + 29) ∧ LmN R R' k) := by
  have zk : ∀ j, I k j = 0 := (hz0 k (Nat.le_refl k)).1
  refine Sp.of [some (.ref (E.1 + k)), none] (by decide +kernel) (Nat.le_of_ble_eq_true rfl) (fun _ h => h) ?_
  refine g_aload0 (Y := Y_X2_init) (pc' := 1) dX2_init_0 rfl ?_
  refine g_objInit (Y := Y_X2_init) (pc' := 4) dX2_init_1 rfl (q_w 67 (by decide +kernel) rfl) (q_w 22 (by decide +kernel) rfl) (q_w 23 (by decide +kernel) rfl) (by first | exact Nat.le_of_ble_eq_true rfl | (show _ ≤ _; omega)) (by first | exact Nat.le_of_ble_eq_true rfl | (show _ ≤ _; omega)) ?_
  refine g_aload0 (Y := Y_X2_init) (pc' := 5) dX2_init_4 rfl ?_
  refine g_bipush (Y := Y_X2_init) (pc' := 7) dX2_init_5 rfl (by decide) ?_
  refine g_newQ (Y := Y_X2_init) (n := k + 1) (len := 22) (kd := 8) (ti := 0) (C0 := RX1) (pc' := 10) dX2_init_7 rfl (by first | exact Or.inl ⟨rfl, rfl⟩ | exact Or.inr ⟨rfl, rfl⟩) (q_w 68 (by decide +kernel) rfl) t1 (fun j => (hz0 (k + 1) (by omega)).2.2 j) (by decide) (by first | exact Nat.le_of_ble_eq_true rfl | (show _ ≤ _; omega)) (by first | exact Nat.le_of_ble_eq_true rfl | (show _ ≤ _; omega)) ?_
  refine g_putR (Y := Y_X2_init) (pc' := 13) dX2_init_10 rfl fp_X2_11 rfl (by assumption) (by omega) rfl ⟨rfl, rfl⟩ ?_
  refine g_aload0 (Y := Y_X2_init) (pc' := 14) dX2_init_13 rfl ?_
  refine g_sipush (Y := Y_X2_init) (pc' := 17) dX2_init_14 rfl (by decide) ?_
  refine g_newI (Y := Y_X2_init) (n := k + 2) (len := 576) (pc' := 19) dX2_init_17 rfl (q_w 61 (by decide +kernel) rfl) t2 (fun j => (hz0 (k + 2) (by omega)).1 j) (by decide) (by first | exact Nat.le_of_ble_eq_true rfl | (show _ ≤ _; omega)) (by first | exact Nat.le_of_ble_eq_true rfl | (show _ ≤ _; omega)) ?_
  refine g_putR (Y := Y_X2_init) (pc' := 22) dX2_init_19 rfl fp_X2_17 rfl (by assumption) (by omega) rfl ⟨rfl, rfl⟩ ?_
  refine g_aload0 (Y := Y_X2_init) (pc' := 23) dX2_init_22 rfl ?_
  refine g_sipush (Y := Y_X2_init) (pc' := 26) dX2_init_23 rfl (by decide) ?_
  refine g_newZ (Y := Y_X2_init) (n := k + 3) (len := 576) (pc' := 28) dX2_init_26 rfl (q_w 108 (by decide +kernel) rfl) t3 (fun j => (hz0 (k + 3) (by omega)).1 j) (by decide) (by first | exact Nat.le_of_ble_eq_true rfl | (show _ ≤ _; omega)) (by first | exact Nat.le_of_ble_eq_true rfl | (show _ ≤ _; omega)) ?_
  refine g_putR (Y := Y_X2_init) (pc' := 31) dX2_init_28 rfl fp_X2_21 rfl (by assumption) (by omega) rfl ⟨rfl, rfl⟩ ?_
  refine g_aload0 (Y := Y_X2_init) (pc' := 32) dX2_init_31 rfl ?_
  refine g_bipush (Y := Y_X2_init) (pc' := 34) dX2_init_32 rfl (by decide) ?_
  refine g_newI (Y := Y_X2_init) (n := k + 4) (len := 12) (pc' := 36) dX2_init_34 rfl (q_w 61 (by decide +kernel) rfl) t4 (fun j => (hz0 (k + 4) (by omega)).1 j) (by decide) (by first | exact Nat.le_of_ble_eq_true rfl | (show _ ≤ _; omega)) (by first | exact Nat.le_of_ble_eq_true rfl | (show _ ≤ _; omega)) ?_
  refine g_putR (Y := Y_X2_init) (pc' := 39) dX2_init_36 rfl fp_X2_25 rfl (by assumption) (by omega) rfl ⟨rfl, rfl⟩ ?_
  refine g_aload0 (Y := Y_X2_init) (pc' := 40) dX2_init_39 rfl ?_
  refine g_bipush (Y := Y_X2_init) (pc' := 42) dX2_init_40 rfl (by decide) ?_
  refine g_newI (Y := Y_X2_init) (n := k + 5) (len := 12) (pc' := 44) dX2_init_42 rfl (q_w 61 (by decide +kernel) rfl) t5 (fun j => (hz0 (k + 5) (by omega)).1 j) (by decide) (by first | exact Nat.le_of_ble_eq_true rfl | (show _ ≤ _; omega)) (by first | exact Nat.le_of_ble_eq_true rfl | (show _ ≤ _; omega)) ?_
  refine g_putR (Y := Y_X2_init) (pc' := 47) dX2_init_44 rfl fp_X2_28 rfl (by assumption) (by omega) rfl ⟨rfl, rfl⟩ ?_
  refine g_aload0 (Y := Y_X2_init) (pc' := 48) dX2_init_47 rfl ?_
  refine g_iconst (Y := Y_X2_init) (pc' := 49) dX2_init_48 rfl ?_
  refine g_putI (Y := Y_X2_init) (pc' := 52) dX2_init_49 rfl fp_X2_31 rfl (by assumption) (by omega) ?_
  rw [u2_0 (zk 5)]
  refine g_aload0 (Y := Y_X2_init) (pc' := 53) dX2_init_52 rfl ?_
  refine g_iconst (Y := Y_X2_init) (pc' := 54) dX2_init_53 rfl ?_
  refine g_putI (Y := Y_X2_init) (pc' := 57) dX2_init_54 rfl fp_X2_35 rfl (by assumption) (by omega) ?_
  rw [u2_0 (zk 6)]
  refine g_aload0 (Y := Y_X2_init) (pc' := 58) dX2_init_57 rfl ?_
  refine g_iconst (Y := Y_X2_init) (pc' := 59) dX2_init_58 rfl ?_
  refine g_putI (Y := Y_X2_init) (pc' := 62) dX2_init_59 rfl fp_X2_38 rfl (by assumption) (by omega) ?_
  rw [u2_0 (zk 7)]
  refine g_iconst (Y := Y_X2_init) (pc' := 63) dX2_init_62 rfl ?_
  refine g_istore1 (Y := Y_X2_init) (pc' := 64) dX2_init_63 rfl (Nat.le_of_ble_eq_true rfl) rfl ?_
  refine s_X2_init_lp t0 t1 hTl 22 0 _ _ _ rfl (Nat.le_of_ble_eq_true rfl) (Nat.le_of_ble_eq_true rfl) (by simp [u2]) (Z0.ne (hz0.le (by omega)) (fun _ _ => rfl) (fun _ _ => rfl) (fun a ha => by rw [u2_ne (by omega), u2_ne (by omega), u2_ne (by omega), u2_ne (by omega), u2_ne (by omega)])) ?_
  refine ⟨rfl, _, rfl, fun a h0 h1 => ?_, ?_, ?_, ?_, ?_, ?_, fun j hj => ?_⟩
  · rw [f_lnR_ne h1, u2_ne h0, u2_ne h0, u2_ne h0, u2_ne h0, u2_ne h0]
  · rw [f_lnR_ne (by omega)]; simp [u2]
  · rw [f_lnR_ne (by omega)]; simp [u2]
  · rw [f_lnR_ne (by omega)]; simp [u2]
  · rw [f_lnR_ne (by omega)]; simp [u2]
  · rw [f_lnR_ne (by omega)]; simp [u2]
  · rw [f_lnR_at, if_pos (by omega)]
