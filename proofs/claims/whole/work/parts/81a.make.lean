/-! constructors: a state -/
/-- what isn't made yet is 0 -/
def Z0 (I : Nat → Nat → Int) (J : Nat → Nat → Int64) (R : Nat → Nat → Option Nat) (m : Nat) : Prop := ∀ a, m ≤ a → (∀ j, I a j = 0) ∧ (∀ j, J a j = 0) ∧ (∀ j, R a j = none)
theorem Z0.le {I : Nat → Nat → Int} {J : Nat → Nat → Int64} {R : Nat → Nat → Option Nat} {m m' : Nat} (h : Z0 I J R m) (hm : m ≤ m') : Z0 I J R m' := fun a ha => h a (by omega)
theorem Z0.ne {I I' : Nat → Nat → Int} {J J' : Nat → Nat → Int64} {R R' : Nat → Nat → Option Nat} {m : Nat} (h : Z0 I J R m) (hI : ∀ a, m ≤ a → I' a = I a) (hJ : ∀ a, m ≤ a → J' a = J a) (hR : ∀ a, m ≤ a → R' a = R a) : Z0 I' J' R' m := fun a ha => by rw [hI a ha, hJ a ha, hR a ha]; exact h a ha
def f_neg (a : Nat) : Nat → Nat → (Nat → Nat → Int) → Nat → Nat → Int
  | 0, _, I => I
  | f + 1, i, I => f_neg a f (i + 1) (u2 I a i (-1))
theorem f_neg_ne {a b : Nat} (h : b ≠ a) : ∀ (f i : Nat) (I : Nat → Nat → Int), f_neg a f i I b = I b
  | 0, _, _ => rfl
  | f + 1, i, I => by
    unfold f_neg
    rw [f_neg_ne h f, u2_ne h]
theorem f_neg_at {a : Nat} : ∀ (f i : Nat) (I : Nat → Nat → Int) (j : Nat), f_neg a f i I a j = if i ≤ j ∧ j < i + f then -1 else I a j
  | 0, i, I, j => by
    rw [if_neg (by omega)]
    rfl
  | f + 1, i, I, j => by
    unfold f_neg
    rw [f_neg_at f (i + 1) _ j, u2k]
    by_cases h : i + 1 ≤ j ∧ j < i + 1 + f
    · rw [if_pos h, if_pos (by omega)]
    · rw [if_neg h]
      by_cases g : j = i
      · rw [if_pos g, if_pos (by omega)]
      · rw [if_neg g, if_neg (by omega)]
def f_neg2 (a : Nat) : Nat → Nat → (Nat → Nat → Int) → Nat → Nat → Int
  | 0, _, I => I
  | f + 1, i, I => f_neg2 a f (i + 1) (u2 (u2 I a i (-1)) (a + 1) i (-1))
theorem f_neg2_ne {a b : Nat} (h : b ≠ a) (h1 : b ≠ a + 1) : ∀ (f i : Nat) (I : Nat → Nat → Int), f_neg2 a f i I b = I b
  | 0, _, _ => rfl
  | f + 1, i, I => by
    unfold f_neg2
    rw [f_neg2_ne h h1 f, u2_ne h1, u2_ne h]
theorem f_neg2_at {a b : Nat} (hb : b = a ∨ b = a + 1) : ∀ (f i : Nat) (I : Nat → Nat → Int) (j : Nat), f_neg2 a f i I b j = if i ≤ j ∧ j < i + f then -1 else I b j
  | 0, i, I, j => by
    rw [if_neg (by omega)]
    rfl
  | f + 1, i, I, j => by
    unfold f_neg2
    have e : u2 (u2 I a i (-1)) (a + 1) i (-1) b j = if j = i then -1 else I b j := by
      rcases hb with rfl | rfl
      · rw [u2_ne (by omega), u2k]
      · rw [u2k, u2_ne (by omega)]
    rw [f_neg2_at hb f (i + 1) _ j, e]
    by_cases h : i + 1 ≤ j ∧ j < i + 1 + f
    · rw [if_pos h, if_pos (by omega)]
    · rw [if_neg h]
      by_cases g : j = i
      · rw [if_pos g, if_pos (by omega)]
      · rw [if_neg g, if_neg (by omega)]
def f_set3 (k : Nat) : Nat → Nat → (Nat → Nat → Int) → Nat → Nat → Int
  | 0, _, I => I
  | f + 1, i, I => f_set3 k f (i + 1) (u2 I (k + 2) i (q_sv 2 i))
theorem f_set3_ne {k b : Nat} (h : b ≠ k + 2) : ∀ (f i : Nat) (I : Nat → Nat → Int), f_set3 k f i I b = I b
  | 0, _, _ => rfl
  | f + 1, i, I => by
    unfold f_set3
    rw [f_set3_ne h f, u2_ne h]
theorem f_set3_at {k : Nat} : ∀ (f i : Nat) (I : Nat → Nat → Int) (j : Nat), f_set3 k f i I (k + 2) j = if i ≤ j ∧ j < i + f then q_sv 2 j else I (k + 2) j
  | 0, i, I, j => by
    rw [if_neg (by omega)]
    rfl
  | f + 1, i, I, j => by
    unfold f_set3
    rw [f_set3_at f (i + 1) _ j, u2k]
    by_cases h : i + 1 ≤ j ∧ j < i + 1 + f
    · rw [if_pos h, if_pos (by omega)]
    · rw [if_neg h]
      by_cases g : j = i
      · rw [if_pos g, if_pos (by omega), g]
      · rw [if_neg g, if_neg (by omega)]
/-- a state as it is made -/
def StN (I I' : Nat → Nat → Int) (R R' : Nat → Nat → Option Nat) (k : Nat) : Prop :=
  (∀ a, a < k ∨ k + 6 ≤ a → I' a = I a) ∧ (∀ a, a ≠ k → R' a = R a) ∧ R' k 0 = some (k + 1) ∧ R' k 1 = some (k + 2) ∧ R' k 2 = some (k + 3) ∧ R' k 3 = some (k + 4) ∧ R' k 4 = some (k + 5) ∧
  (∀ j, I' k j = 0) ∧ (∀ j, I' (k + 1) j = 0) ∧ (∀ j, I' (k + 2) j = if j < 3 then q_sv 2 j else 0) ∧ (∀ j, I' (k + 3) j = if j < 480 then -1 else 0) ∧ (∀ j, I' (k + 4) j = if j < 480 then -1 else 0) ∧ (∀ j, I' (k + 5) j = if j < 576 then -1 else 0)
theorem u2_0 {f : Nat → Nat → Int} {k j : Nat} {x : Int} (h : f k j = x) : u2 f k j x = f := by
  funext a b
  by_cases ha : a = k
  · subst ha
    rw [u2k]
    by_cases hb : b = j
    · rw [if_pos hb, hb, h]
    · rw [if_neg hb]
  · rw [u2_ne ha]
theorem u2_0J {f : Nat → Nat → Int64} {k j : Nat} {x : Int64} (h : f k j = x) : u2 f k j x = f := by
  funext a b
  by_cases ha : a = k
  · subst ha
    rw [u2_eq]
    by_cases hb : b = j
    · simp [hb, h]
    · simp [hb]
  · rw [u2_ne ha]
set_option maxHeartbeats 2000000 in
set_option maxRecDepth 100000 in
theorem s_X3_init_lp1 {l : Launch} {E : QE} {T : Nat → Nat × Nat} {J : Nat → Nat → Int64} {R : Nat → Nat → Option Nat} {n z : Nat} {k : Nat} (hk : StB T R n k) {K : Option Value → QW → Prop} : ∀ (f i : Nat) (I : Nat → Nat → Int), i + f = 3 → (∀ L1 : Int, Go l E Y_X3_init 5 1551 97 [some (.ref (E.1 + k)), some (.int (iz L1))] [] (T, (f_set3 k f i I), J, R, n, z) K) → Go l E Y_X3_init 5 1551 63 [some (.ref (E.1 + k)), some (.int (iz (i : Int)))] [] (T, I, J, R, n, z) K := by
  obtain ⟨t0, t1, t2, t3, t4, t5, r0, r1, r2, r3, r4, hn⟩ := hk
  intro f
  induction f with
  | zero =>
    intro i I hf hend
    refine g_iload1 (Y := Y_X3_init) (pc' := 64) dX3_init_63 rfl ?_
    refine g_aload0 (Y := Y_X3_init) (pc' := 65) dX3_init_64 rfl ?_
    refine g_getR (Y := Y_X3_init) (pc' := 68) dX3_init_65 rfl fl_X3_15 rfl (by assumption) (by omega) (by assumption) ?_
    refine g_alen (Y := Y_X3_init) (pc' := 69) dX3_init_68 rfl (by assumption) (by decide) (by omega) ?_
    refine g_icmp_ge (Y := Y_X3_init) (t := 97) (pc' := 72) dX3_init_69 (by decide) rfl ⟨by omega, by omega⟩ ⟨by omega, by omega⟩ (fun h69 => ?_) (fun h69 => ?_)
    · exact hend _
    · exfalso; omega
  | succ f ih =>
    intro i I hf hend
    refine g_iload1 (Y := Y_X3_init) (pc' := 64) dX3_init_63 rfl ?_
    refine g_aload0 (Y := Y_X3_init) (pc' := 65) dX3_init_64 rfl ?_
    refine g_getR (Y := Y_X3_init) (pc' := 68) dX3_init_65 rfl fl_X3_15 rfl (by assumption) (by omega) (by assumption) ?_
    refine g_alen (Y := Y_X3_init) (pc' := 69) dX3_init_68 rfl (by assumption) (by decide) (by omega) ?_
    refine g_icmp_ge (Y := Y_X3_init) (t := 97) (pc' := 72) dX3_init_69 (by decide) rfl ⟨by omega, by omega⟩ ⟨by omega, by omega⟩ (fun h69 => ?_) (fun h69 => ?_)
    · exfalso; omega
    · refine g_iload1 (Y := Y_X3_init) (pc' := 73) dX3_init_72 rfl ?_
      refine g_getsN (Y := Y_X3_init) (i := 2) (pc' := 76) dX3_init_73 rfl (by decide) (List.mem_of_getElem? (i := 0) rfl) ?_
      refine g_slen (Y := Y_X3_init) (pc' := 77) dX3_init_76 rfl (by decide) ?_
      refine g_icmp_ge (Y := Y_X3_init) (t := 97) (pc' := 80) dX3_init_77 (by decide) rfl ⟨by omega, by omega⟩ ⟨by omega, by omega⟩ (fun h77 => ?_) (fun h77 => ?_)
      · exfalso; omega
      · refine g_aload0 (Y := Y_X3_init) (pc' := 81) dX3_init_80 rfl ?_
        refine g_getR (Y := Y_X3_init) (pc' := 84) dX3_init_81 rfl fl_X3_15 rfl (by assumption) (by omega) (by assumption) ?_
        refine g_iload1 (Y := Y_X3_init) (pc' := 85) dX3_init_84 rfl ?_
        refine g_getsN (Y := Y_X3_init) (i := 2) (pc' := 88) dX3_init_85 rfl (by decide) (List.mem_of_getElem? (i := 0) rfl) ?_
        refine g_iload1 (Y := Y_X3_init) (pc' := 89) dX3_init_88 rfl ?_
        refine g_sald (Y := Y_X3_init) (pc' := 90) dX3_init_89 rfl (by decide) ⟨by omega, by omega⟩ ?_
        rw [show (i : Int).toNat = i from rfl]
        refine g_iast (Y := Y_X3_init) (pc' := 91) dX3_init_90 rfl (by assumption) (by omega) (by decide) ⟨by omega, by omega⟩ ?_
        rw [show (i : Int).toNat = i from rfl]
        refine g_iinc1 (Y := Y_X3_init) (pc' := 94) dX3_init_91 rfl (Nat.le_of_ble_eq_true rfl) rfl ?_
        refine g_goto (Y := Y_X3_init) (t := 63) dX3_init_94 (by decide) ?_
        exact ih (i + 1) _ (by omega) hend
