/-! constructors: a line, a text, a map -/
/-- a text as it is made -/
def TxN (I I' : Nat → Nat → Int) (R R' : Nat → Nat → Option Nat) (k : Nat) : Prop := (∀ a, a ≠ k → I' a = I a) ∧ (∀ a, a ≠ k → R' a = R a) ∧ R' k 0 = some (k + 1) ∧ R' k 1 = some (k + 2) ∧ R' k 2 = some (k + 3) ∧ ∀ j, I' k j = if j = 8 then -1 else 0
/-- a map as it is made -/
def LmN (R R' : Nat → Nat → Option Nat) (k : Nat) : Prop := (∀ a, a ≠ k → a ≠ k + 1 → R' a = R a) ∧ R' k 0 = some (k + 1) ∧ R' k 1 = some (k + 2) ∧ R' k 2 = some (k + 3) ∧ R' k 3 = some (k + 4) ∧ R' k 4 = some (k + 5) ∧ ∀ j, j < 22 → R' (k + 1) j = some (k + 6 + j)
def f_lnR (k : Nat) : Nat → Nat → (Nat → Nat → Option Nat) → Nat → Nat → Option Nat
  | 0, _, R => R
  | f + 1, i, R => f_lnR k f (i + 1) (u2 R (k + 1) i (some (k + 6 + i)))
theorem f_lnR_ne {k a : Nat} (h : a ≠ k + 1) : ∀ (f i : Nat) (R : Nat → Nat → Option Nat), f_lnR k f i R a = R a
  | 0, _, _ => rfl
  | f + 1, i, R => by
    unfold f_lnR
    rw [f_lnR_ne h f, u2_ne h]
theorem f_lnR_at {k : Nat} : ∀ (f i : Nat) (R : Nat → Nat → Option Nat) (j : Nat), f_lnR k f i R (k + 1) j = if i ≤ j ∧ j < i + f then some (k + 6 + j) else R (k + 1) j
  | 0, i, R, j => by
    rw [if_neg (by omega)]
    rfl
  | f + 1, i, R, j => by
    unfold f_lnR
    have e : u2 R (k + 1) i (some (k + 6 + i)) (k + 1) j = if j = i then some (k + 6 + i) else R (k + 1) j := by rw [u2_eq]
    rw [f_lnR_at f (i + 1) _ j, e]
    by_cases h : i + 1 ≤ j ∧ j < i + 1 + f
    · rw [if_pos h, if_pos (by omega)]
    · rw [if_neg h]
      by_cases g : j = i
      · rw [if_pos g, if_pos (by omega), g]
      · rw [if_neg g, if_neg (by omega)]
set_option maxHeartbeats 2000000 in
set_option maxRecDepth 100000 in
theorem s_X0_init {l : Launch} {E : QE} {T : Nat → Nat × Nat} {I : Nat → Nat → Int} {J : Nat → Nat → Int64} {R : Nat → Nat → Option Nat} {k : Nat} (t0 : T k = (0, 0)) (t1 : T (k + 1) = (6, 60)) (t2 : T (k + 2) = (6, 15)) (t3 : T (k + 3) = (7, 15)) (hz0 : Z0 I J R k) : Sp l E Y_X0_init [.ref (E.1 + k)] (T, I, J, R, k + 1, k + 2) (fun r w => r = none ∧ ∃ (I' : Nat → Nat → Int) (R' : Nat → Nat → Option Nat), w = (T, I', J, R', k + 4, k + 5) ∧ TxN I I' R R' k) := by
  have zk : ∀ j, I k j = 0 := (hz0 k (Nat.le_refl k)).1
  refine Sp.of [some (.ref (E.1 + k))] (by decide +kernel) (Nat.le_of_ble_eq_true rfl) (fun _ h => h) ?_
  refine g_aload0 (Y := Y_X0_init) (pc' := 1) dX0_init_0 rfl ?_
  refine g_objInit (Y := Y_X0_init) (pc' := 4) dX0_init_1 rfl (q_w 142 (by decide +kernel) rfl) (q_w 22 (by decide +kernel) rfl) (q_w 23 (by decide +kernel) rfl) (by first | exact Nat.le_of_ble_eq_true rfl | (show _ ≤ _; omega)) (by first | exact Nat.le_of_ble_eq_true rfl | (show _ ≤ _; omega)) ?_
  refine g_aload0 (Y := Y_X0_init) (pc' := 5) dX0_init_4 rfl ?_
  refine g_bipush (Y := Y_X0_init) (pc' := 7) dX0_init_5 rfl (by decide) ?_
  refine g_newI (Y := Y_X0_init) (n := k + 1) (len := 60) (pc' := 9) dX0_init_7 rfl (q_w 61 (by decide +kernel) rfl) t1 (fun j => (hz0 (k + 1) (by omega)).1 j) (by decide) (by first | exact Nat.le_of_ble_eq_true rfl | (show _ ≤ _; omega)) (by first | exact Nat.le_of_ble_eq_true rfl | (show _ ≤ _; omega)) ?_
  refine g_putR (Y := Y_X0_init) (pc' := 12) dX0_init_9 rfl fp_X0_11 rfl (by assumption) (by omega) rfl ⟨rfl, rfl⟩ ?_
  refine g_aload0 (Y := Y_X0_init) (pc' := 13) dX0_init_12 rfl ?_
  refine g_bipush (Y := Y_X0_init) (pc' := 15) dX0_init_13 rfl (by decide) ?_
  refine g_newI (Y := Y_X0_init) (n := k + 2) (len := 15) (pc' := 17) dX0_init_15 rfl (q_w 61 (by decide +kernel) rfl) t2 (fun j => (hz0 (k + 2) (by omega)).1 j) (by decide) (by first | exact Nat.le_of_ble_eq_true rfl | (show _ ≤ _; omega)) (by first | exact Nat.le_of_ble_eq_true rfl | (show _ ≤ _; omega)) ?_
  refine g_putR (Y := Y_X0_init) (pc' := 20) dX0_init_17 rfl fp_X0_15 rfl (by assumption) (by omega) rfl ⟨rfl, rfl⟩ ?_
  refine g_aload0 (Y := Y_X0_init) (pc' := 21) dX0_init_20 rfl ?_
  refine g_bipush (Y := Y_X0_init) (pc' := 23) dX0_init_21 rfl (by decide) ?_
  refine g_newZ (Y := Y_X0_init) (n := k + 3) (len := 15) (pc' := 25) dX0_init_23 rfl (q_w 108 (by decide +kernel) rfl) t3 (fun j => (hz0 (k + 3) (by omega)).1 j) (by decide) (by first | exact Nat.le_of_ble_eq_true rfl | (show _ ≤ _; omega)) (by first | exact Nat.le_of_ble_eq_true rfl | (show _ ≤ _; omega)) ?_
  refine g_putR (Y := Y_X0_init) (pc' := 28) dX0_init_25 rfl fp_X0_18 rfl (by assumption) (by omega) rfl ⟨rfl, rfl⟩ ?_
  refine g_aload0 (Y := Y_X0_init) (pc' := 29) dX0_init_28 rfl ?_
  refine g_iconst (Y := Y_X0_init) (pc' := 30) dX0_init_29 rfl ?_
  refine g_putI (Y := Y_X0_init) (pc' := 33) dX0_init_30 rfl fp_X0_22 rfl (by assumption) (by omega) ?_
  rw [u2_0 (zk 3)]
  refine g_aload0 (Y := Y_X0_init) (pc' := 34) dX0_init_33 rfl ?_
  refine g_iconst (Y := Y_X0_init) (pc' := 35) dX0_init_34 rfl ?_
  refine g_putI (Y := Y_X0_init) (pc' := 38) dX0_init_35 rfl fp_X0_26 rfl (by assumption) (by omega) ?_
  rw [u2_0 (zk 4)]
  refine g_aload0 (Y := Y_X0_init) (pc' := 39) dX0_init_38 rfl ?_
  refine g_iconst (Y := Y_X0_init) (pc' := 40) dX0_init_39 rfl ?_
  refine g_putZ (Y := Y_X0_init) (pc' := 43) dX0_init_40 rfl fp_X0_29 rfl (by assumption) (by omega) (Or.inl rfl) ?_
  rw [u2_0 (zk 5)]
  refine g_aload0 (Y := Y_X0_init) (pc' := 44) dX0_init_43 rfl ?_
  refine g_iconst (Y := Y_X0_init) (pc' := 45) dX0_init_44 rfl ?_
  refine g_putZ (Y := Y_X0_init) (pc' := 48) dX0_init_45 rfl fp_X0_33 rfl (by assumption) (by omega) (Or.inl rfl) ?_
  rw [u2_0 (zk 6)]
  refine g_aload0 (Y := Y_X0_init) (pc' := 49) dX0_init_48 rfl ?_
  refine g_iconst (Y := Y_X0_init) (pc' := 50) dX0_init_49 rfl ?_
  refine g_putI (Y := Y_X0_init) (pc' := 53) dX0_init_50 rfl fp_X0_36 rfl (by assumption) (by omega) ?_
  rw [u2_0 (zk 7)]
  refine g_aload0 (Y := Y_X0_init) (pc' := 54) dX0_init_53 rfl ?_
  refine g_iconst (Y := Y_X0_init) (pc' := 55) dX0_init_54 rfl ?_
  refine g_putI (Y := Y_X0_init) (pc' := 58) dX0_init_55 rfl fp_X0_39 rfl (by assumption) (by omega) ?_
  exact g_vret (Y := Y_X0_init) dX0_init_58 rfl (by first | exact Nat.le_of_ble_eq_true rfl | (show _ ≤ _; omega)) (by first | exact Nat.le_of_ble_eq_true rfl | (show _ ≤ _; omega)) (⟨rfl, _, _, rfl, fun a ha => u2_ne ha, fun a ha => by rw [u2_ne ha, u2_ne ha, u2_ne ha], by simp [u2], by simp [u2], by simp [u2], fun j => by rw [u2k, zk]⟩)
