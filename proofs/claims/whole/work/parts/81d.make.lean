/-! constructors: a state -/
set_option maxHeartbeats 2000000 in
set_option maxRecDepth 100000 in
theorem s_X3_init {l : Launch} {E : QE} {T : Nat → Nat × Nat} {I : Nat → Nat → Int} {J : Nat → Nat → Int64} {R : Nat → Nat → Option Nat} {k : Nat} (t0 : T k = (3, 0)) (t1 : T (k + 1) = (6, 12)) (t2 : T (k + 2) = (6, 3)) (t3 : T (k + 3) = (6, 480)) (t4 : T (k + 4) = (6, 480)) (t5 : T (k + 5) = (6, 576)) (hz0 : Z0 I J R k) : Sp l E Y_X3_init [.ref (E.1 + k)] (T, I, J, R, k + 1, k + 2) (fun r w => r = none ∧ ∃ (I' : Nat → Nat → Int) (R' : Nat → Nat → Option Nat), w = (T, I', J, R', k + 6, k + 7) ∧ StN I I' R R' k) := by
  have zk := hz0 k (Nat.le_refl k)
  have zk5 : I k 5 = 0 := zk.1 5
  have zk6 : I k 6 = 0 := zk.1 6
  have zk7 : I k 7 = 0 := zk.1 7
  refine Sp.of [some (.ref (E.1 + k)), none] (by decide +kernel) (Nat.le_of_ble_eq_true rfl) (fun _ h => h) ?_
  refine g_aload0 (Y := Y_X3_init) (pc' := 1) dX3_init_0 rfl ?_
  refine g_objInit (Y := Y_X3_init) (pc' := 4) dX3_init_1 rfl (q_w 29 (by decide +kernel) rfl) (q_w 22 (by decide +kernel) rfl) (q_w 23 (by decide +kernel) rfl) (by first | exact Nat.le_of_ble_eq_true rfl | (show _ ≤ _; omega)) (by first | exact Nat.le_of_ble_eq_true rfl | (show _ ≤ _; omega)) ?_
  refine g_aload0 (Y := Y_X3_init) (pc' := 5) dX3_init_4 rfl ?_
  refine g_bipush (Y := Y_X3_init) (pc' := 7) dX3_init_5 rfl (by decide) ?_
  refine g_newI (Y := Y_X3_init) (n := k + 1) (len := 12) (pc' := 9) dX3_init_7 rfl (q_w 61 (by decide +kernel) rfl) t1 (fun j => (hz0 (k + 1) (by omega)).1 j) (by decide) (by first | exact Nat.le_of_ble_eq_true rfl | (show _ ≤ _; omega)) (by first | exact Nat.le_of_ble_eq_true rfl | (show _ ≤ _; omega)) ?_
  refine g_putR (Y := Y_X3_init) (pc' := 12) dX3_init_9 rfl fp_X3_9 rfl (by assumption) (by omega) rfl ⟨rfl, rfl⟩ ?_
  refine g_aload0 (Y := Y_X3_init) (pc' := 13) dX3_init_12 rfl ?_
  refine g_iconst (Y := Y_X3_init) (pc' := 14) dX3_init_13 rfl ?_
  refine g_newI (Y := Y_X3_init) (n := k + 2) (len := 3) (pc' := 16) dX3_init_14 rfl (q_w 61 (by decide +kernel) rfl) t2 (fun j => (hz0 (k + 2) (by omega)).1 j) (by decide) (by first | exact Nat.le_of_ble_eq_true rfl | (show _ ≤ _; omega)) (by first | exact Nat.le_of_ble_eq_true rfl | (show _ ≤ _; omega)) ?_
  refine g_putR (Y := Y_X3_init) (pc' := 19) dX3_init_16 rfl fp_X3_15 rfl (by assumption) (by omega) rfl ⟨rfl, rfl⟩ ?_
  refine g_aload0 (Y := Y_X3_init) (pc' := 20) dX3_init_19 rfl ?_
  refine g_sipush (Y := Y_X3_init) (pc' := 23) dX3_init_20 rfl (by decide) ?_
  refine g_newI (Y := Y_X3_init) (n := k + 3) (len := 480) (pc' := 25) dX3_init_23 rfl (q_w 61 (by decide +kernel) rfl) t3 (fun j => (hz0 (k + 3) (by omega)).1 j) (by decide) (by first | exact Nat.le_of_ble_eq_true rfl | (show _ ≤ _; omega)) (by first | exact Nat.le_of_ble_eq_true rfl | (show _ ≤ _; omega)) ?_
  refine g_putR (Y := Y_X3_init) (pc' := 28) dX3_init_25 rfl fp_X3_18 rfl (by assumption) (by omega) rfl ⟨rfl, rfl⟩ ?_
  refine g_aload0 (Y := Y_X3_init) (pc' := 29) dX3_init_28 rfl ?_
  refine g_sipush (Y := Y_X3_init) (pc' := 32) dX3_init_29 rfl (by decide) ?_
  refine g_newI (Y := Y_X3_init) (n := k + 4) (len := 480) (pc' := 34) dX3_init_32 rfl (q_w 61 (by decide +kernel) rfl) t4 (fun j => (hz0 (k + 4) (by omega)).1 j) (by decide) (by first | exact Nat.le_of_ble_eq_true rfl | (show _ ≤ _; omega)) (by first | exact Nat.le_of_ble_eq_true rfl | (show _ ≤ _; omega)) ?_
  refine g_putR (Y := Y_X3_init) (pc' := 37) dX3_init_34 rfl fp_X3_21 rfl (by assumption) (by omega) rfl ⟨rfl, rfl⟩ ?_
  refine g_aload0 (Y := Y_X3_init) (pc' := 38) dX3_init_37 rfl ?_
  refine g_sipush (Y := Y_X3_init) (pc' := 41) dX3_init_38 rfl (by decide) ?_
  refine g_newI (Y := Y_X3_init) (n := k + 5) (len := 576) (pc' := 43) dX3_init_41 rfl (q_w 61 (by decide +kernel) rfl) t5 (fun j => (hz0 (k + 5) (by omega)).1 j) (by decide) (by first | exact Nat.le_of_ble_eq_true rfl | (show _ ≤ _; omega)) (by first | exact Nat.le_of_ble_eq_true rfl | (show _ ≤ _; omega)) ?_
  refine g_putR (Y := Y_X3_init) (pc' := 46) dX3_init_43 rfl fp_X3_24 rfl (by assumption) (by omega) rfl ⟨rfl, rfl⟩ ?_
  refine g_aload0 (Y := Y_X3_init) (pc' := 47) dX3_init_46 rfl ?_
  refine g_iconst (Y := Y_X3_init) (pc' := 48) dX3_init_47 rfl ?_
  refine g_putI (Y := Y_X3_init) (pc' := 51) dX3_init_48 rfl fp_X3_27 rfl (by assumption) (by omega) ?_
  refine g_aload0 (Y := Y_X3_init) (pc' := 52) dX3_init_51 rfl ?_
  refine g_iconst (Y := Y_X3_init) (pc' := 53) dX3_init_52 rfl ?_
  refine g_putI (Y := Y_X3_init) (pc' := 56) dX3_init_53 rfl fp_X3_31 rfl (by assumption) (by omega) ?_
  refine g_aload0 (Y := Y_X3_init) (pc' := 57) dX3_init_56 rfl ?_
  refine g_iconst (Y := Y_X3_init) (pc' := 58) dX3_init_57 rfl ?_
  refine g_putI (Y := Y_X3_init) (pc' := 61) dX3_init_58 rfl fp_X3_34 rfl (by assumption) (by omega) ?_
  refine g_iconst (Y := Y_X3_init) (pc' := 62) dX3_init_61 rfl ?_
  refine g_istore1 (Y := Y_X3_init) (pc' := 63) dX3_init_62 rfl (Nat.le_of_ble_eq_true rfl) rfl ?_
  rw [u2_0 (by rw [u2_0 (by rw [u2_0 zk5]; exact zk6), u2_0 zk5]; exact zk7), u2_0 (by rw [u2_0 zk5]; exact zk6), u2_0 zk5]
  have hsb : StB T (u2 (u2 (u2 (u2 (u2 R k 0 (some (k + 1))) k 1 (some (k + 2))) k 2 (some (k + 3))) k 3 (some (k + 4))) k 4 (some (k + 5))) (k + 6) k := by
    refine ⟨t0, t1, t2, t3, t4, t5, ?_, ?_, ?_, ?_, ?_, Nat.le_refl _⟩ <;> simp [u2]
  have hRn : ∀ a, a ≠ k → (u2 (u2 (u2 (u2 (u2 R k 0 (some (k + 1))) k 1 (some (k + 2))) k 2 (some (k + 3))) k 3 (some (k + 4))) k 4 (some (k + 5))) a = R a := fun a ha => by rw [u2_ne ha, u2_ne ha, u2_ne ha, u2_ne ha, u2_ne ha]
  have hsb2 := hsb
  generalize u2 (u2 (u2 (u2 (u2 R k 0 (some (k + 1))) k 1 (some (k + 2))) k 2 (some (k + 3))) k 3 (some (k + 4))) k 4 (some (k + 5)) = R5 at hsb hsb2 hRn ⊢
  refine s_X3_init_lp1 hsb 3 0 I rfl (fun L1 => ?_)
  refine g_iconst (Y := Y_X3_init) (pc' := 98) dX3_init_97 rfl ?_
  refine g_istore1 (Y := Y_X3_init) (pc' := 99) dX3_init_98 rfl (Nat.le_of_ble_eq_true rfl) rfl ?_
  refine s_X3_init_lp2 hsb 480 0 _ rfl (fun L2 => ?_)
  refine g_iconst (Y := Y_X3_init) (pc' := 138) dX3_init_137 rfl ?_
  refine g_istore1 (Y := Y_X3_init) (pc' := 139) dX3_init_138 rfl (Nat.le_of_ble_eq_true rfl) rfl ?_
  refine s_X3_init_lp3 hsb ?_ 576 0 _ rfl rfl
  refine ⟨rfl, _, R5, rfl, ?_⟩
  obtain ⟨-, -, -, -, -, -, r0, r1, r2, r3, r4, -⟩ := hsb2
  have zz : ∀ a, k ≤ a → ∀ j, I a j = 0 := fun a ha j => (hz0 a ha).1 j
  refine ⟨fun a ha => ?_, hRn, r0, r1, r2, r3, r4, fun j => ?_, fun j => ?_, fun j => ?_, fun j => ?_, fun j => ?_, fun j => ?_⟩
  · rw [f_neg_ne (by omega), f_neg2_ne (by omega) (by omega), f_set3_ne (by omega)]
  · rw [f_neg_ne (by omega), f_neg2_ne (by omega) (by omega), f_set3_ne (by omega)]; exact zz _ (by omega) j
  · rw [f_neg_ne (by omega), f_neg2_ne (by omega) (by omega), f_set3_ne (by omega)]; exact zz _ (by omega) j
  · rw [f_neg_ne (by omega), f_neg2_ne (by omega) (by omega), f_set3_at, zz _ (by omega)]
    by_cases h : j < 3
    · rw [if_pos (by omega), if_pos h]
    · rw [if_neg (by omega), if_neg h]
  · rw [f_neg_ne (by omega), f_neg2_at (Or.inl rfl), f_set3_ne (by omega), zz _ (by omega)]
    by_cases h : j < 480
    · rw [if_pos (by omega), if_pos h]
    · rw [if_neg (by omega), if_neg h]
  · rw [f_neg_ne (by omega), f_neg2_at (Or.inr rfl), f_set3_ne (by omega), zz _ (by omega)]
    by_cases h : j < 480
    · rw [if_pos (by omega), if_pos h]
    · rw [if_neg (by omega), if_neg h]
  · rw [f_neg_at, f_neg2_ne (by omega) (by omega), f_set3_ne (by omega), zz _ (by omega)]
    by_cases h : j < 576
    · rw [if_pos (by omega), if_pos h]
    · rw [if_neg (by omega), if_neg h]
