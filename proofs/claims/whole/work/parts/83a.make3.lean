/-! constructors: the object -/
def StT (T : Nat → Nat × Nat) (k : Nat) : Prop := T k = (3, 0) ∧ T (k + 1) = (6, 12) ∧ T (k + 2) = (6, 3) ∧ T (k + 3) = (6, 480) ∧ T (k + 4) = (6, 480) ∧ T (k + 5) = (6, 576)
def LmT (T : Nat → Nat × Nat) (k : Nat) : Prop := T k = (2, 0) ∧ T (k + 1) = (8, 22) ∧ T (k + 2) = (6, 576) ∧ T (k + 3) = (7, 576) ∧ T (k + 4) = (6, 12) ∧ T (k + 5) = (6, 12) ∧ ∀ j, j < 22 → T (k + 6 + j) = (1, 0)
def TxT (T : Nat → Nat × Nat) (k : Nat) : Prop := T k = (0, 0) ∧ T (k + 1) = (6, 60) ∧ T (k + 2) = (6, 15) ∧ T (k + 3) = (7, 15)
def XT (T : Nat → Nat × Nat) : Prop := T 0 = (4, 0) ∧ StT T 1 ∧ LmT T 7 ∧ T 35 = (9, 6) ∧ TxT T 36 ∧ StT T 40 ∧ LmT T 46 ∧ ∀ i, i < 6 → StT T (74 + 6 * i)
def StR (R : Nat → Nat → Option Nat) (k : Nat) : Prop := R k 0 = some (k + 1) ∧ R k 1 = some (k + 2) ∧ R k 2 = some (k + 3) ∧ R k 3 = some (k + 4) ∧ R k 4 = some (k + 5)
def LmR (R : Nat → Nat → Option Nat) (k : Nat) : Prop := R k 0 = some (k + 1) ∧ R k 1 = some (k + 2) ∧ R k 2 = some (k + 3) ∧ R k 3 = some (k + 4) ∧ R k 4 = some (k + 5) ∧ ∀ j, j < 22 → R (k + 1) j = some (k + 6 + j)
def TxR (R : Nat → Nat → Option Nat) (k : Nat) : Prop := R k 0 = some (k + 1) ∧ R k 1 = some (k + 2) ∧ R k 2 = some (k + 3)
def StZ (I : Nat → Nat → Int) (k : Nat) : Prop := (∀ j, I k j = 0) ∧ (∀ j, I (k + 1) j = 0) ∧ (∀ j, I (k + 2) j = if j < 3 then q_sv 2 j else 0) ∧ (∀ j, I (k + 3) j = if j < 480 then -1 else 0) ∧ (∀ j, I (k + 4) j = if j < 480 then -1 else 0) ∧ (∀ j, I (k + 5) j = if j < 576 then -1 else 0)
theorem StR_ne {R R' : Nat → Nat → Option Nat} {k : Nat} (h : StR R k) (e : R' k = R k) : StR R' k := by unfold StR; rw [e]; exact h
theorem TxR_ne {R R' : Nat → Nat → Option Nat} {k : Nat} (h : TxR R k) (e : R' k = R k) : TxR R' k := by unfold TxR; rw [e]; exact h
theorem LmR_ne {R R' : Nat → Nat → Option Nat} {k : Nat} (h : LmR R k) (e : R' k = R k) (e1 : R' (k + 1) = R (k + 1)) : LmR R' k := by unfold LmR; rw [e, e1]; exact h
theorem StZ_ne {I I' : Nat → Nat → Int} {k : Nat} (h : StZ I k) (e : ∀ a, k ≤ a → a < k + 6 → I' a = I a) : StZ I' k := by
  unfold StZ
  rw [e k (by omega) (by omega), e (k + 1) (by omega) (by omega), e (k + 2) (by omega) (by omega), e (k + 3) (by omega) (by omega), e (k + 4) (by omega) (by omega), e (k + 5) (by omega) (by omega)]
  exact h
/-- the object as it is made, with i of its saved states -/
def XN (i : Nat) (I : Nat → Nat → Int) (R : Nat → Nat → Option Nat) : Prop :=
  (R 0 0 = some 1 ∧ R 0 1 = some 7 ∧ R 0 2 = some 35 ∧ R 0 4 = some 36 ∧ R 0 5 = some 40 ∧ R 0 6 = some 46) ∧ StR R 1 ∧ LmR R 7 ∧ TxR R 36 ∧ StR R 40 ∧ LmR R 46 ∧ (∀ q, q < i → StR R (74 + 6 * q)) ∧ (∀ j, j < i → R 35 j = some (74 + 6 * j)) ∧
  StZ I 1 ∧ StZ I 40 ∧ (∀ q, q < i → StZ I (74 + 6 * q)) ∧ (∀ a, (a = 0 ∨ 7 ≤ a ∧ a < 40 ∧ a ≠ 36 ∨ 46 ≤ a ∧ a < 74) → ∀ j, I a j = 0) ∧ ∀ j, I 36 j = if j = 8 then -1 else 0
theorem XN_1 {i : Nat} {I I' : Nat → Nat → Int} {R R' : Nat → Nat → Option Nat} (hi : i < 6) (h : XN i I R) (g : StN I I' R R' (74 + 6 * i)) : XN (i + 1) I' (u2 R' 35 i (some (74 + 6 * i))) := by
  obtain ⟨a0, a1, a2, a3, a4, a5, a6, a7, b1, b2, b3, b4, b5⟩ := h
  obtain ⟨g1, g2, g3, g4, g5, g6, g7, c1, c2, c3, c4, c5, c6⟩ := g
  have e : ∀ a, a ≠ 35 → a ≠ 74 + 6 * i → u2 R' 35 i (some (74 + 6 * i)) a = R a := fun a h1 h2 => by rw [u2_ne h1, g2 a h2]
  refine ⟨by rw [e 0 (by omega) (by omega)]; exact a0, StR_ne a1 (e _ (by omega) (by omega)), LmR_ne a2 (e _ (by omega) (by omega)) (e _ (by omega) (by omega)), TxR_ne a3 (e _ (by omega) (by omega)), StR_ne a4 (e _ (by omega) (by omega)), LmR_ne a5 (e _ (by omega) (by omega)) (e _ (by omega) (by omega)), fun q hq => ?_, fun j hj => ?_, StZ_ne b1 (fun a h1 h2 => g1 a (by omega)), StZ_ne b2 (fun a h1 h2 => g1 a (by omega)), fun q hq => ?_, fun a ha j => by rw [g1 a (by omega)]; exact b4 a ha j, fun j => by rw [g1 36 (by omega)]; exact b5 j⟩
  · by_cases hqi : q = i
    · subst hqi
      have e2 : u2 R' 35 q (some (74 + 6 * q)) (74 + 6 * q) = R' (74 + 6 * q) := u2_ne (by omega)
      unfold StR
      rw [e2]
      exact ⟨g3, g4, g5, g6, g7⟩
    · exact StR_ne (a6 q (by omega)) (e _ (by omega) (by omega))
  · rw [u2_eq]
    show (if j = i then some (74 + 6 * i) else R' 35 j) = _
    by_cases hj2 : j = i
    · rw [if_pos hj2, hj2]
    · rw [if_neg hj2, g2 35 (by omega)]
      exact a7 j (by omega)
  · by_cases hqi : q = i
    · subst hqi
      exact ⟨c1, c2, c3, c4, c5, c6⟩
    · exact StZ_ne (b3 q (by omega)) (fun a h1 h2 => g1 a (by omega))
theorem StN_Z0 {I I' : Nat → Nat → Int} {J : Nat → Nat → Int64} {R R' : Nat → Nat → Option Nat} {k m : Nat} (h : Z0 I J R m) (g : StN I I' R R' k) (hm : k + 6 ≤ m) : Z0 I' J R' m := h.ne (fun a ha => g.1 a (by omega)) (fun _ _ => rfl) (fun a ha => g.2.1 a (by omega))
set_option maxHeartbeats 2000000 in
set_option maxRecDepth 100000 in
theorem s_X4_init_lp {l : Launch} {E : QE} {T : Nat → Nat × Nat} {J : Nat → Nat → Int64} (ht : XT T) : ∀ (f i kc ks : Nat) (I : Nat → Nat → Int) (R : Nat → Nat → Option Nat), i + f = 6 → kc + 6 * f ≤ 109 → ks + 1559 * f ≤ 15385 → XN i I R → Z0 I J R (74 + 6 * i) → Go l E Y_X4_init kc ks 75 [some (.ref (E.1 + 0)), some (.int (iz (i : Int)))] [] (T, I, J, R, 74 + 6 * i, 74 + 6 * i + 1) (fun r w => r = none ∧ ∃ (I' : Nat → Nat → Int) (R' : Nat → Nat → Option Nat), w = (T, I', J, R', 110, 111) ∧ XN 6 I' R' ∧ Z0 I' J R' 110) := by
  intro f
  induction f with
  | zero =>
    intro i kc ks I R hf hkc hks hx hz0
    have t0 := ht.1
    have t35 := ht.2.2.2.1
    obtain ⟨⟨r0, r1, r2, r4, r5, r6⟩, -⟩ := id hx
    have ei : i = 6 := by omega
    subst ei
    refine g_iload1 (Y := Y_X4_init) (pc' := 76) dX4_init_75 rfl ?_
    refine g_aload0 (Y := Y_X4_init) (pc' := 77) dX4_init_76 rfl ?_
    refine g_getR (Y := Y_X4_init) (pc' := 80) dX4_init_77 rfl fl_X4_23 rfl (by assumption) (by omega) (by assumption) ?_
    refine g_alen (Y := Y_X4_init) (pc' := 81) dX4_init_80 rfl (by assumption) (by decide) (by omega) ?_
    refine g_icmp_ge (Y := Y_X4_init) (t := 103) (pc' := 84) dX4_init_81 (by decide) rfl ⟨by omega, by omega⟩ ⟨by omega, by omega⟩ (fun h81 => ?_) (fun h81 => ?_)
    · exact g_vret (Y := Y_X4_init) dX4_init_103 rfl (by show kc ≤ 109; omega) (by show ks ≤ 15385; omega) (⟨rfl, _, _, rfl, hx, hz0⟩)
    · exfalso; omega
  | succ f ih =>
    intro i kc ks I R hf hkc hks hx hz0
    have t0 := ht.1
    have t35 := ht.2.2.2.1
    obtain ⟨⟨r0, r1, r2, r4, r5, r6⟩, -⟩ := id hx
    have hst := ht.2.2.2.2.2.2.2 i (by omega)
    refine g_iload1 (Y := Y_X4_init) (pc' := 76) dX4_init_75 rfl ?_
    refine g_aload0 (Y := Y_X4_init) (pc' := 77) dX4_init_76 rfl ?_
    refine g_getR (Y := Y_X4_init) (pc' := 80) dX4_init_77 rfl fl_X4_23 rfl (by assumption) (by omega) (by assumption) ?_
    refine g_alen (Y := Y_X4_init) (pc' := 81) dX4_init_80 rfl (by assumption) (by decide) (by omega) ?_
    refine g_icmp_ge (Y := Y_X4_init) (t := 103) (pc' := 84) dX4_init_81 (by decide) rfl ⟨by omega, by omega⟩ ⟨by omega, by omega⟩ (fun h81 => ?_) (fun h81 => ?_)
    · exfalso; omega
    · refine g_aload0 (Y := Y_X4_init) (pc' := 85) dX4_init_84 rfl ?_
      refine g_getR (Y := Y_X4_init) (pc' := 88) dX4_init_85 rfl fl_X4_23 rfl (by assumption) (by omega) (by assumption) ?_
      refine g_iload1 (Y := Y_X4_init) (pc' := 89) dX4_init_88 rfl ?_
      refine g_new (Y := Y_X4_init) (n := 74 + 6 * i) (pc' := 92) dX4_init_89 rfl nw_X4_7 hst.1 (fun j => (hz0 (74 + 6 * i) (by omega)).1 j) (fun j => (hz0 (74 + 6 * i) (by omega)).2.1 j) (fun j => (hz0 (74 + 6 * i) (by omega)).2.2 j) (by show kc + 1 ≤ 109; omega) (by show ks + 8 ≤ 15385; omega) ?_
      refine g_dup (Y := Y_X4_init) (pc' := 93) dX4_init_92 rfl rfl ?_
      refine g_callI (Y := Y_X4_init) (s_X3_init (k := 74 + 6 * i) hst.1 hst.2.1 hst.2.2.1 hst.2.2.2.1 hst.2.2.2.2.1 hst.2.2.2.2.2 hz0) (pc' := 96) dX4_init_93 rfl cv_X4_9 (q_fit_mk (Nat.le_of_ble_eq_true rfl) (Nat.le_of_ble_eq_true rfl) (by show kc + 1 + 5 ≤ 109; omega) (by show ks + 8 + 1551 ≤ 15385; omega)) rfl rfl rfl (fun r w1 hr => ?_)
      obtain ⟨rfl, I1, R1, rfl, h1⟩ := hr
      refine g_aast (Y := Y_X4_init) (pc' := 97) dX4_init_96 rfl t35 (Or.inr ⟨rfl, rfl⟩) (by omega) (by decide) ⟨by omega, by omega⟩ hst.1 (by omega) ?_
      rw [show (i : Int).toNat = i from rfl]
      refine g_iinc1 (Y := Y_X4_init) (pc' := 100) dX4_init_97 rfl (Nat.le_of_ble_eq_true rfl) rfl ?_
      refine g_goto (Y := Y_X4_init) (t := 75) dX4_init_100 (by decide) ?_
      refine ih (i + 1) _ _ _ _ (by omega) (by show kc + 1 + 5 + 6 * f ≤ 109; omega) (by show ks + 8 + 1551 + 1559 * f ≤ 15385; omega) (XN_1 (by omega) hx h1) (Z0.ne (StN_Z0 (hz0.le (by omega)) h1 (by omega)) (fun _ _ => rfl) (fun _ _ => rfl) (fun a ha => u2_ne (by omega)))
