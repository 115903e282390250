/-! InputText -/
/-- InputText's rows as they always are -/
def TxV (I : Nat → Nat → Int) (k : Nat) : Prop := (0 ≤ I k 3 ∧ I k 3 ≤ 60) ∧ (0 ≤ I k 4 ∧ I k 4 ≤ 15) ∧ (I k 5 = 0 ∨ I k 5 = 1) ∧ (I k 6 = 0 ∨ I k 6 = 1) ∧ (0 ≤ I k 7 ∧ I k 7 < 24) ∧ (-1 ≤ I k 8 ∧ I k 8 < 24) ∧ (∀ j : Nat, 0 ≤ I (k + 1) j ∧ I (k + 1) j ≤ 126) ∧ (∀ j : Nat, I (k + 3) j = 0 ∨ I (k + 3) j = 1) ∧ (∀ j : Nat, -1 ≤ I (k + 2) j ∧ I (k + 2) j < 576)
def f_type (I : Nat → Nat → Int) (k : Nat) (c : Int) : Nat → Nat → Int := if I k 3 < 60 then f_typ1 (u2 I (k + 1) (I k 3).toNat c) k else I
where f_typ1 (I : Nat → Nat → Int) (k : Nat) : Nat → Nat → Int := u2 I k 3 (I k 3 + 1)
def f_begin (I : Nat → Nat → Int) (k : Nat) : Nat → Nat → Int := u2 (u2 (u2 I k 5 0) k 6 0) k 8 (-1)
def f_eo1 (I : Nat → Nat → Int) (k : Nat) : Nat → Nat → Int := u2 I (k + 2) (I k 4).toNat (I k 7 * 24 + I k 8)
def f_eo2 (I : Nat → Nat → Int) (k : Nat) : Nat → Nat → Int := u2 I (k + 3) (I k 4).toNat (I k 5)
def f_eo3 (I : Nat → Nat → Int) (k : Nat) : Nat → Nat → Int := u2 I k 4 (I k 4 + 1)
def f_endOrd (I : Nat → Nat → Int) (k : Nat) : Nat → Nat → Int := if I k 4 < 15 then f_eo3 (f_eo2 (f_eo1 I k) k) k else I
def f_endSpot (I : Nat → Nat → Int) (k : Nat) : Int × (Nat → Nat → Int) := if I k 6 = 0 ∨ I k 8 = -1 then (0, I) else (1, f_begin (f_endOrd I k) k)
def f_minus (I : Nat → Nat → Int) (k : Nat) : Int × (Nat → Nat → Int) := if I k 5 = 0 ∧ I k 6 = 0 ∧ I k 8 = -1 then (1, u2 I k 5 1) else (0, I)
def f_co1 (I : Nat → Nat → Int) (k : Nat) : Nat → Nat → Int := u2 (u2 (u2 I k 7 (I k 8)) k 8 (-1)) k 6 1
def f_comma (I : Nat → Nat → Int) (k : Nat) : Int × (Nat → Nat → Int) := if I k 6 = 0 ∧ ¬ I k 8 = -1 then (1, f_co1 I k) else (0, I)
def f_digit (I : Nat → Nat → Int) (k : Nat) (d : Int) : Int × (Nat → Nat → Int) := if I k 8 = -1 then (1, u2 I k 8 d) else if ¬ I k 8 = 0 ∧ I k 8 * 10 + d < 24 then (1, u2 I k 8 (I k 8 * 10 + d)) else (0, I)
def f_take (I : Nat → Nat → Int) (k : Nat) (c : Int) : Int × (Nat → Nat → Int) :=
  if c = 44 then f_comma I k else if c = 45 then f_minus I k else if c = 59 then f_endSpot I k else if 48 ≤ c ∧ c ≤ 57 then f_digit I k (c - 48) else (0, I)
def f_scL (k : Nat) : Nat → Nat → (Nat → Nat → Int) → Int × (Nat → Nat → Int)
  | 0, _, I => (I k 3, I)
  | m + 1, i, I => if (f_take I k (I (k + 1) i)).1 = 0 then ((i : Int), (f_take I k (I (k + 1) i)).2) else f_scL k m (i + 1) (f_take I k (I (k + 1) i)).2
def f_scan (I : Nat → Nat → Int) (k : Nat) : Int × (Nat → Nat → Int) := f_scL k (I k 3).toNat 0 (f_begin (u2 I k 4 0) k)
def f_tells1 (r : Int × (Nat → Nat → Int)) (k : Nat) : Int × (Nat → Nat → Int) := if r.1 = r.2 k 3 then f_endSpot r.2 k else (0, r.2)
def f_tells (I : Nat → Nat → Int) (k : Nat) : Int × (Nat → Nat → Int) := f_tells1 (f_scan I k) k
/-- only row k, the orders' rows change; the length stays -/
def TxK (k : Nat) (I0 I : Nat → Nat → Int) : Prop := (∀ a, a ≠ k → a ≠ k + 2 → a ≠ k + 3 → I a = I0 a) ∧ I k 3 = I0 k 3
theorem u2k {I : Nat → Nat → Int} {k j : Nat} {x : Int} (i : Nat) : u2 I k j x k i = if i = j then x else I k i := by rw [u2_eq]
theorem TxV_begin {I : Nat → Nat → Int} {k : Nat} (hv : TxV I k) : TxV (f_begin I k) k ∧ TxK k I (f_begin I k) := by
  obtain ⟨v3, v4, v5, v6, v7, v8, vc, vh, vo⟩ := hv
  have e : ∀ j, f_begin I k k j = if j = 8 then -1 else if j = 6 then 0 else if j = 5 then 0 else I k j := fun j => by unfold f_begin; simp only [u2_eq]
  have o : ∀ a, a ≠ k → f_begin I k a = I a := fun a h => by unfold f_begin; rw [u2_ne h, u2_ne h, u2_ne h]
  unfold TxV TxK
  rw [e, e, e, e, e, e, o _ (by omega), o _ (by omega), o _ (by omega)]
  simp
  exact ⟨⟨v3, v4, v7, vc, vh, vo⟩, fun a h1 _ _ => o a h1⟩
theorem TxV_endOrd {I : Nat → Nat → Int} {k : Nat} (hv : TxV I k) : TxV (f_endOrd I k) k ∧ TxK k I (f_endOrd I k) := by
  obtain ⟨v3, v4, v5, v6, v7, v8, vc, vh, vo⟩ := id hv
  unfold f_endOrd
  split
  · have e : ∀ j, f_eo3 (f_eo2 (f_eo1 I k) k) k k j = if j = 4 then I k 4 + 1 else I k j := fun j => by
      unfold f_eo3 f_eo2 f_eo1
      rw [u2_eq, u2_ne (by omega), u2_ne (by omega)]
    have o : ∀ a, a ≠ k → a ≠ k + 2 → a ≠ k + 3 → f_eo3 (f_eo2 (f_eo1 I k) k) k a = I a := fun a h h2 h3 => by
      unfold f_eo3 f_eo2 f_eo1
      rw [u2_ne h, u2_ne h3, u2_ne h2]
    have o3 : ∀ j, f_eo3 (f_eo2 (f_eo1 I k) k) k (k + 3) j = if j = (I k 4).toNat then I k 5 else I (k + 3) j := fun j => by
      unfold f_eo3 f_eo2 f_eo1
      rw [u2_ne (by omega), u2_ne (by omega : k ≠ k + 2), u2_eq, u2_ne (by omega)]
    unfold TxV TxK
    rw [e, e, e, e, e, e, o _ (by omega) (by omega) (by omega)]
    simp only [Nat.reduceEqDiff, if_true, if_false]
    have o2 : ∀ j, f_eo3 (f_eo2 (f_eo1 I k) k) k (k + 2) j = if j = (I k 4).toNat then I k 7 * 24 + I k 8 else I (k + 2) j := fun j => by
      unfold f_eo3 f_eo2 f_eo1
      rw [u2_ne (by omega), u2_ne (by omega), u2_eq]
    refine ⟨⟨v3, ⟨by omega, by omega⟩, v5, v6, v7, v8, vc, fun j => ?_, fun j => ?_⟩, o, trivial⟩
    · rw [o3]
      split
      · exact v5
      · exact vh j
    · rw [o2]
      split
      · omega
      · exact vo j
  · exact ⟨hv, fun _ _ _ _ => rfl, rfl⟩
theorem TxK_trans {k : Nat} {I0 I1 I2 : Nat → Nat → Int} (h1 : TxK k I0 I1) (h2 : TxK k I1 I2) : TxK k I0 I2 := ⟨fun a q1 q2 q3 => (h2.1 a q1 q2 q3).trans (h1.1 a q1 q2 q3), h2.2.trans h1.2⟩
theorem TxK_rf {k : Nat} {I : Nat → Nat → Int} : TxK k I I := ⟨fun _ _ _ _ => rfl, rfl⟩
theorem TxV_endSpot {I : Nat → Nat → Int} {k : Nat} (hv : TxV I k) : TxV (f_endSpot I k).2 k ∧ TxK k I (f_endSpot I k).2 := by
  unfold f_endSpot
  split
  · exact ⟨hv, TxK_rf⟩
  · have h1 := TxV_endOrd hv
    have h2 := TxV_begin h1.1
    exact ⟨h2.1, TxK_trans h1.2 h2.2⟩
theorem TxV_u {I : Nat → Nat → Int} {k j : Nat} {x : Int} (hv : TxV I k) (hx : j = 5 ∧ (x = 0 ∨ x = 1) ∨ j = 6 ∧ (x = 0 ∨ x = 1) ∨ j = 7 ∧ 0 ≤ x ∧ x < 24 ∨ j = 8 ∧ -1 ≤ x ∧ x < 24 ∨ j = 4 ∧ 0 ≤ x ∧ x ≤ 15) : TxV (u2 I k j x) k ∧ TxK k I (u2 I k j x) := by
  obtain ⟨v3, v4, v5, v6, v7, v8, vc, vh, vo⟩ := hv
  unfold TxV TxK
  rw [u2k, u2k, u2k, u2k, u2k, u2k, u2_ne (by omega), u2_ne (by omega), u2_ne (by omega)]
  rcases hx with ⟨rfl, h⟩ | ⟨rfl, h⟩ | ⟨rfl, h⟩ | ⟨rfl, h⟩ | ⟨rfl, h⟩
  all_goals
    simp only [Nat.reduceEqDiff, if_true, if_false]
    exact ⟨⟨by omega, by omega, by omega, by omega, by omega, by omega, vc, vh, vo⟩, fun a h1 _ _ => u2_ne h1, trivial⟩
theorem TxV_take {I : Nat → Nat → Int} {k : Nat} {c : Int} (hv : TxV I k) : TxV (f_take I k c).2 k ∧ TxK k I (f_take I k c).2 := by
  obtain ⟨v3, v4, v5, v6, v7, v8, vc, vh, vo⟩ := id hv
  unfold f_take
  split
  · unfold f_comma
    split
    · have h1 := TxV_u (j := 7) (x := I k 8) hv (by omega)
      have h2 := TxV_u (j := 8) (x := -1) h1.1 (by omega)
      have h3 := TxV_u (j := 6) (x := 1) h2.1 (by omega)
      exact ⟨h3.1, TxK_trans h1.2 (TxK_trans h2.2 h3.2)⟩
    · exact ⟨hv, TxK_rf⟩
  · split
    · unfold f_minus
      split
      · exact TxV_u hv (by omega)
      · exact ⟨hv, TxK_rf⟩
    · split
      · exact TxV_endSpot hv
      · split
        · unfold f_digit
          split
          · exact TxV_u hv (by omega)
          · split
            · exact TxV_u hv (by omega)
            · exact ⟨hv, TxK_rf⟩
        · exact ⟨hv, TxK_rf⟩
theorem f_end01 {I : Nat → Nat → Int} {k : Nat} : (f_endSpot I k).1 = 0 ∨ (f_endSpot I k).1 = 1 := by unfold f_endSpot; split <;> simp
theorem f_take01 {I : Nat → Nat → Int} {k : Nat} {c : Int} : (f_take I k c).1 = 0 ∨ (f_take I k c).1 = 1 := by
  unfold f_take f_comma f_minus f_digit
  split
  · split <;> simp
  · split
    · split <;> simp
    · split
      · exact f_end01
      · split
        · split
          · simp
          · split <;> simp
        · simp
theorem TxV_scL (k : Nat) : ∀ (m i : Nat) (I : Nat → Nat → Int), TxV I k → TxV (f_scL k m i I).2 k ∧ TxK k I (f_scL k m i I).2
  | 0, _, _, h => ⟨h, TxK_rf⟩
  | m + 1, i, I, h => by
    have h1 := TxV_take (c := I (k + 1) i) h
    unfold f_scL
    split
    · exact h1
    · have h2 := TxV_scL k m (i + 1) _ h1.1
      exact ⟨h2.1, TxK_trans h1.2 h2.2⟩
theorem TxV_scan {I : Nat → Nat → Int} {k : Nat} (hv : TxV I k) : TxV (f_scan I k).2 k ∧ TxK k I (f_scan I k).2 := by
  have h1 := TxV_u (j := 4) (x := 0) hv (by omega)
  have h2 := TxV_begin h1.1
  have h3 := TxV_scL k (I k 3).toNat 0 _ h2.1
  exact ⟨h3.1, TxK_trans h1.2 (TxK_trans h2.2 h3.2)⟩
theorem f_scL_rg (k : Nat) : ∀ (m i : Nat) (I : Nat → Nat → Int), TxV I k → i + m ≤ 60 → 0 ≤ (f_scL k m i I).1 ∧ (f_scL k m i I).1 ≤ 60
  | 0, _, I, h, _ => h.1
  | m + 1, i, I, h, hm => by
    unfold f_scL
    split
    · exact ⟨by omega, by omega⟩
    · exact f_scL_rg k m (i + 1) _ (TxV_take h).1 (by omega)
theorem f_scan_rg {I : Nat → Nat → Int} {k : Nat} (hv : TxV I k) : 0 ≤ (f_scan I k).1 ∧ (f_scan I k).1 ≤ 60 := f_scL_rg k _ 0 _ (TxV_begin (TxV_u (j := 4) (x := 0) hv (by omega)).1).1 (by have := hv.1; omega)
set_option maxHeartbeats 2000000 in
set_option maxRecDepth 100000 in
theorem s_X0_isFull {l : Launch} {E : QE} {T : Nat → Nat × Nat} {I : Nat → Nat → Int} {J : Nat → Nat → Int64} {R : Nat → Nat → Option Nat} {n z : Nat} {k : Nat} (hk : TxB T R n k) (hv : TxV I k)  : SpV l E Y_X0_isFull [.ref (E.1 + k)] (T, I, J, R, n, z) (.int (iz (if I k 3 < 60 then 0 else 1))) (T, I, J, R, n, z) := by
  obtain ⟨t0, t1, t2, t3, r0, r1, r2, hn⟩ := hk
  obtain ⟨v3, v4, v5, v6, v7, v8, vc, vh, vo⟩ := id hv
  refine Sp.of [some (.ref (E.1 + k))] (by decide +kernel) (Nat.le_of_ble_eq_true rfl) (fun _ h => h) ?_
  refine g_aload0 (Y := Y_X0_isFull) (pc' := 1) dX0_isFull_0 rfl ?_
  refine g_getI (Y := Y_X0_isFull) (pc' := 4) dX0_isFull_1 rfl fl_X0_22 rfl (by assumption) (by omega) ?_
  refine g_aload0 (Y := Y_X0_isFull) (pc' := 5) dX0_isFull_4 rfl ?_
  refine g_getR (Y := Y_X0_isFull) (pc' := 8) dX0_isFull_5 rfl fl_X0_11 rfl (by assumption) (by omega) (by assumption) ?_
  refine g_alen (Y := Y_X0_isFull) (pc' := 9) dX0_isFull_8 rfl (by assumption) (by decide) (by omega) ?_
  refine g_icmp_lt (Y := Y_X0_isFull) (t := 16) (pc' := 12) dX0_isFull_9 (by decide) rfl ⟨by omega, by omega⟩ ⟨by omega, by omega⟩ (fun h9 => ?_) (fun h9 => ?_)
  · refine g_iconst (Y := Y_X0_isFull) (pc' := 17) dX0_isFull_16 rfl ?_
    exact g_zret (Y := Y_X0_isFull) dX0_isFull_17 rfl (by decide) (Nat.zero_le _) (Nat.zero_le _) (⟨vi (by first | omega | (split <;> omega) | rfl), rfl⟩)
  · refine g_iconst (Y := Y_X0_isFull) (pc' := 13) dX0_isFull_12 rfl ?_
    refine g_goto (Y := Y_X0_isFull) (t := 17) dX0_isFull_13 (by decide) ?_
    exact g_zret (Y := Y_X0_isFull) dX0_isFull_17 rfl (by decide) (Nat.zero_le _) (Nat.zero_le _) (⟨vi (by first | omega | (split <;> omega) | rfl), rfl⟩)
set_option maxHeartbeats 2000000 in
set_option maxRecDepth 100000 in
theorem s_X0_add {l : Launch} {E : QE} {T : Nat → Nat × Nat} {I : Nat → Nat → Int} {J : Nat → Nat → Int64} {R : Nat → Nat → Option Nat} {n z : Nat} {k : Nat} (hk : TxB T R n k) (hv : TxV I k) (c : Int) : SpN l E Y_X0_add [.ref (E.1 + k), .int (iz c)] (T, I, J, R, n, z) (T, f_type I k c, J, R, n, z) := by
  obtain ⟨t0, t1, t2, t3, r0, r1, r2, hn⟩ := hk
  obtain ⟨v3, v4, v5, v6, v7, v8, vc, vh, vo⟩ := id hv
  unfold f_type f_type.f_typ1
  refine Sp.of [some (.ref (E.1 + k)), some (.int (iz c))] (by decide +kernel) (Nat.le_of_ble_eq_true rfl) (fun _ h => h) ?_
  refine g_aload0 (Y := Y_X0_add) (pc' := 1) dX0_add_0 rfl ?_
  refine g_getI (Y := Y_X0_add) (pc' := 4) dX0_add_1 rfl fl_X0_22 rfl (by assumption) (by omega) ?_
  refine g_if_lt (Y := Y_X0_add) (t := 39) (pc' := 7) dX0_add_4 (by decide) rfl ⟨by omega, by omega⟩ (fun h4 => ?_) (fun h4 => ?_)
  · exact g_vret (Y := Y_X0_add) dX0_add_39 rfl (Nat.zero_le _) (Nat.zero_le _) (⟨rfl, by first | (rw [if_neg (by omega)]; done) | (rw [if_neg (by omega)]; rfl) | (rw [if_pos (by omega)]; done) | (rw [if_pos (by omega)]; rfl) | (rw [if_pos (by omega), if_neg (by omega)]; done) | (rw [if_pos (by omega), if_neg (by omega)]; rfl) | (rw [if_pos (by omega), if_pos (by omega)]; done) | (rw [if_pos (by omega), if_pos (by omega)]; rfl) | rfl⟩)
  · refine g_aload0 (Y := Y_X0_add) (pc' := 8) dX0_add_7 rfl ?_
    refine g_getI (Y := Y_X0_add) (pc' := 11) dX0_add_8 rfl fl_X0_22 rfl (by assumption) (by omega) ?_
    refine g_aload0 (Y := Y_X0_add) (pc' := 12) dX0_add_11 rfl ?_
    refine g_getR (Y := Y_X0_add) (pc' := 15) dX0_add_12 rfl fl_X0_11 rfl (by assumption) (by omega) (by assumption) ?_
    refine g_alen (Y := Y_X0_add) (pc' := 16) dX0_add_15 rfl (by assumption) (by decide) (by omega) ?_
    refine g_icmp_ge (Y := Y_X0_add) (t := 39) (pc' := 19) dX0_add_16 (by decide) rfl ⟨by omega, by omega⟩ ⟨by omega, by omega⟩ (fun h16 => ?_) (fun h16 => ?_)
    · exact g_vret (Y := Y_X0_add) dX0_add_39 rfl (Nat.zero_le _) (Nat.zero_le _) (⟨rfl, by first | (rw [if_neg (by omega)]; done) | (rw [if_neg (by omega)]; rfl) | (rw [if_pos (by omega)]; done) | (rw [if_pos (by omega)]; rfl) | (rw [if_pos (by omega), if_neg (by omega)]; done) | (rw [if_pos (by omega), if_neg (by omega)]; rfl) | (rw [if_pos (by omega), if_pos (by omega)]; done) | (rw [if_pos (by omega), if_pos (by omega)]; rfl) | rfl⟩)
    · refine g_aload0 (Y := Y_X0_add) (pc' := 20) dX0_add_19 rfl ?_
      refine g_getR (Y := Y_X0_add) (pc' := 23) dX0_add_20 rfl fl_X0_11 rfl (by assumption) (by omega) (by assumption) ?_
      refine g_aload0 (Y := Y_X0_add) (pc' := 24) dX0_add_23 rfl ?_
      refine g_getI (Y := Y_X0_add) (pc' := 27) dX0_add_24 rfl fl_X0_22 rfl (by assumption) (by omega) ?_
      refine g_iload1 (Y := Y_X0_add) (pc' := 28) dX0_add_27 rfl ?_
      refine g_iast (Y := Y_X0_add) (pc' := 29) dX0_add_28 rfl (by assumption) (by omega) (by decide) ⟨by omega, by omega⟩ ?_
      refine g_aload0 (Y := Y_X0_add) (pc' := 30) dX0_add_29 rfl ?_
      refine g_dup (Y := Y_X0_add) (pc' := 31) dX0_add_30 rfl rfl ?_
      refine g_getI (Y := Y_X0_add) (pc' := 34) dX0_add_31 rfl fl_X0_22 rfl (by assumption) (by omega) ?_
      refine g_iconst (Y := Y_X0_add) (pc' := 35) dX0_add_34 rfl ?_
      refine g_iadd (Y := Y_X0_add) (pc' := 36) dX0_add_35 rfl ?_
      refine g_putI (Y := Y_X0_add) (pc' := 39) dX0_add_36 rfl fp_X0_22 rfl (by assumption) (by omega) ?_
      exact g_vret (Y := Y_X0_add) dX0_add_39 rfl (Nat.zero_le _) (Nat.zero_le _) (⟨rfl, by first | (rw [if_neg (by omega)]; done) | (rw [if_neg (by omega)]; rfl) | (rw [if_pos (by omega)]; done) | (rw [if_pos (by omega)]; rfl) | (rw [if_pos (by omega), if_neg (by omega)]; done) | (rw [if_pos (by omega), if_neg (by omega)]; rfl) | (rw [if_pos (by omega), if_pos (by omega)]; done) | (rw [if_pos (by omega), if_pos (by omega)]; rfl) | rfl⟩)
set_option maxHeartbeats 2000000 in
set_option maxRecDepth 100000 in
theorem s_X0_empty {l : Launch} {E : QE} {T : Nat → Nat × Nat} {I : Nat → Nat → Int} {J : Nat → Nat → Int64} {R : Nat → Nat → Option Nat} {n z : Nat} {k : Nat} (hk : TxB T R n k) (hv : TxV I k)  : SpN l E Y_X0_empty [.ref (E.1 + k)] (T, I, J, R, n, z) (T, u2 I k 3 0, J, R, n, z) := by
  obtain ⟨t0, t1, t2, t3, r0, r1, r2, hn⟩ := hk
  refine Sp.of [some (.ref (E.1 + k))] (by decide +kernel) (Nat.le_of_ble_eq_true rfl) (fun _ h => h) ?_
  refine g_aload0 (Y := Y_X0_empty) (pc' := 1) dX0_empty_0 rfl ?_
  refine g_iconst (Y := Y_X0_empty) (pc' := 2) dX0_empty_1 rfl ?_
  refine g_putI (Y := Y_X0_empty) (pc' := 5) dX0_empty_2 rfl fp_X0_22 rfl (by assumption) (by omega) ?_
  exact g_vret (Y := Y_X0_empty) dX0_empty_5 rfl (Nat.zero_le _) (Nat.zero_le _) (⟨rfl, rfl⟩)
set_option maxHeartbeats 2000000 in
set_option maxRecDepth 100000 in
theorem s_X0_codeAt {l : Launch} {E : QE} {T : Nat → Nat × Nat} {I : Nat → Nat → Int} {J : Nat → Nat → Int64} {R : Nat → Nat → Option Nat} {n z : Nat} {k : Nat} (hk : TxB T R n k) (hv : TxV I k) (i : Int) (hi : -2147483648 ≤ i ∧ i < 2147483648) : SpV l E Y_X0_codeAt [.ref (E.1 + k), .int (iz i)] (T, I, J, R, n, z) (.int (iz (if 0 ≤ i ∧ i < I k 3 then I (k + 1) i.toNat else 0))) (T, I, J, R, n, z) := by
  obtain ⟨t0, t1, t2, t3, r0, r1, r2, hn⟩ := hk
  obtain ⟨v3, v4, v5, v6, v7, v8, vc, vh, vo⟩ := id hv
  refine Sp.of [some (.ref (E.1 + k)), some (.int (iz i))] (by decide +kernel) (Nat.le_of_ble_eq_true rfl) (fun _ h => h) ?_
  refine g_iload1 (Y := Y_X0_codeAt) (pc' := 1) dX0_codeAt_0 rfl ?_
  refine g_if_lt (Y := Y_X0_codeAt) (t := 30) (pc' := 4) dX0_codeAt_1 (by decide) rfl ⟨by omega, by omega⟩ (fun h1 => ?_) (fun h1 => ?_)
  · refine g_iconst (Y := Y_X0_codeAt) (pc' := 31) dX0_codeAt_30 rfl ?_
    exact g_iret (Y := Y_X0_codeAt) dX0_codeAt_31 rfl (Nat.zero_le _) (Nat.zero_le _) (⟨vi (by first | omega | (split <;> omega) | rfl), rfl⟩)
  · refine g_iload1 (Y := Y_X0_codeAt) (pc' := 5) dX0_codeAt_4 rfl ?_
    refine g_aload0 (Y := Y_X0_codeAt) (pc' := 6) dX0_codeAt_5 rfl ?_
    refine g_getI (Y := Y_X0_codeAt) (pc' := 9) dX0_codeAt_6 rfl fl_X0_22 rfl (by assumption) (by omega) ?_
    refine g_icmp_ge (Y := Y_X0_codeAt) (t := 30) (pc' := 12) dX0_codeAt_9 (by decide) rfl ⟨by omega, by omega⟩ ⟨by omega, by omega⟩ (fun h9 => ?_) (fun h9 => ?_)
    · refine g_iconst (Y := Y_X0_codeAt) (pc' := 31) dX0_codeAt_30 rfl ?_
      exact g_iret (Y := Y_X0_codeAt) dX0_codeAt_31 rfl (Nat.zero_le _) (Nat.zero_le _) (⟨vi (by first | omega | (split <;> omega) | rfl), rfl⟩)
    · refine g_iload1 (Y := Y_X0_codeAt) (pc' := 13) dX0_codeAt_12 rfl ?_
      refine g_aload0 (Y := Y_X0_codeAt) (pc' := 14) dX0_codeAt_13 rfl ?_
      refine g_getR (Y := Y_X0_codeAt) (pc' := 17) dX0_codeAt_14 rfl fl_X0_11 rfl (by assumption) (by omega) (by assumption) ?_
      refine g_alen (Y := Y_X0_codeAt) (pc' := 18) dX0_codeAt_17 rfl (by assumption) (by decide) (by omega) ?_
      refine g_icmp_ge (Y := Y_X0_codeAt) (t := 30) (pc' := 21) dX0_codeAt_18 (by decide) rfl ⟨by omega, by omega⟩ ⟨by omega, by omega⟩ (fun h18 => ?_) (fun h18 => ?_)
      · refine g_iconst (Y := Y_X0_codeAt) (pc' := 31) dX0_codeAt_30 rfl ?_
        exact g_iret (Y := Y_X0_codeAt) dX0_codeAt_31 rfl (Nat.zero_le _) (Nat.zero_le _) (⟨vi (by first | omega | (split <;> omega) | rfl), rfl⟩)
      · refine g_aload0 (Y := Y_X0_codeAt) (pc' := 22) dX0_codeAt_21 rfl ?_
        refine g_getR (Y := Y_X0_codeAt) (pc' := 25) dX0_codeAt_22 rfl fl_X0_11 rfl (by assumption) (by omega) (by assumption) ?_
        refine g_iload1 (Y := Y_X0_codeAt) (pc' := 26) dX0_codeAt_25 rfl ?_
        refine g_iald (Y := Y_X0_codeAt) (pc' := 27) dX0_codeAt_26 rfl (by assumption) (by omega) (by decide) ⟨by omega, by omega⟩ ?_
        refine g_goto (Y := Y_X0_codeAt) (t := 31) dX0_codeAt_27 (by decide) ?_
        exact g_iret (Y := Y_X0_codeAt) dX0_codeAt_31 rfl (Nat.zero_le _) (Nat.zero_le _) (⟨vi (by first | omega | (split <;> omega) | rfl), rfl⟩)
set_option maxHeartbeats 2000000 in
set_option maxRecDepth 100000 in
theorem s_X0_cellOf {l : Launch} {E : QE} {T : Nat → Nat × Nat} {I : Nat → Nat → Int} {J : Nat → Nat → Int64} {R : Nat → Nat → Option Nat} {n z : Nat} {k : Nat} (hk : TxB T R n k) (hv : TxV I k) (i : Int) (hi : -2147483648 ≤ i ∧ i < 2147483648) : SpV l E Y_X0_cellOf [.ref (E.1 + k), .int (iz i)] (T, I, J, R, n, z) (.int (iz (if 0 ≤ i ∧ i < I k 4 then I (k + 2) i.toNat else -1))) (T, I, J, R, n, z) := by
  obtain ⟨t0, t1, t2, t3, r0, r1, r2, hn⟩ := hk
  obtain ⟨v3, v4, v5, v6, v7, v8, vc, vh, vo⟩ := id hv
  refine Sp.of [some (.ref (E.1 + k)), some (.int (iz i))] (by decide +kernel) (Nat.le_of_ble_eq_true rfl) (fun _ h => h) ?_
  refine g_iload1 (Y := Y_X0_cellOf) (pc' := 1) dX0_cellOf_0 rfl ?_
  refine g_if_lt (Y := Y_X0_cellOf) (t := 30) (pc' := 4) dX0_cellOf_1 (by decide) rfl ⟨by omega, by omega⟩ (fun h1 => ?_) (fun h1 => ?_)
  · refine g_iconst (Y := Y_X0_cellOf) (pc' := 31) dX0_cellOf_30 rfl ?_
    exact g_iret (Y := Y_X0_cellOf) dX0_cellOf_31 rfl (Nat.zero_le _) (Nat.zero_le _) (⟨vi (by first | omega | (split <;> omega) | rfl), rfl⟩)
  · refine g_iload1 (Y := Y_X0_cellOf) (pc' := 5) dX0_cellOf_4 rfl ?_
    refine g_aload0 (Y := Y_X0_cellOf) (pc' := 6) dX0_cellOf_5 rfl ?_
    refine g_getI (Y := Y_X0_cellOf) (pc' := 9) dX0_cellOf_6 rfl fl_X0_26 rfl (by assumption) (by omega) ?_
    refine g_icmp_ge (Y := Y_X0_cellOf) (t := 30) (pc' := 12) dX0_cellOf_9 (by decide) rfl ⟨by omega, by omega⟩ ⟨by omega, by omega⟩ (fun h9 => ?_) (fun h9 => ?_)
    · refine g_iconst (Y := Y_X0_cellOf) (pc' := 31) dX0_cellOf_30 rfl ?_
      exact g_iret (Y := Y_X0_cellOf) dX0_cellOf_31 rfl (Nat.zero_le _) (Nat.zero_le _) (⟨vi (by first | omega | (split <;> omega) | rfl), rfl⟩)
    · refine g_iload1 (Y := Y_X0_cellOf) (pc' := 13) dX0_cellOf_12 rfl ?_
      refine g_aload0 (Y := Y_X0_cellOf) (pc' := 14) dX0_cellOf_13 rfl ?_
      refine g_getR (Y := Y_X0_cellOf) (pc' := 17) dX0_cellOf_14 rfl fl_X0_15 rfl (by assumption) (by omega) (by assumption) ?_
      refine g_alen (Y := Y_X0_cellOf) (pc' := 18) dX0_cellOf_17 rfl (by assumption) (by decide) (by omega) ?_
      refine g_icmp_ge (Y := Y_X0_cellOf) (t := 30) (pc' := 21) dX0_cellOf_18 (by decide) rfl ⟨by omega, by omega⟩ ⟨by omega, by omega⟩ (fun h18 => ?_) (fun h18 => ?_)
      · refine g_iconst (Y := Y_X0_cellOf) (pc' := 31) dX0_cellOf_30 rfl ?_
        exact g_iret (Y := Y_X0_cellOf) dX0_cellOf_31 rfl (Nat.zero_le _) (Nat.zero_le _) (⟨vi (by first | omega | (split <;> omega) | rfl), rfl⟩)
      · refine g_aload0 (Y := Y_X0_cellOf) (pc' := 22) dX0_cellOf_21 rfl ?_
        refine g_getR (Y := Y_X0_cellOf) (pc' := 25) dX0_cellOf_22 rfl fl_X0_15 rfl (by assumption) (by omega) (by assumption) ?_
        refine g_iload1 (Y := Y_X0_cellOf) (pc' := 26) dX0_cellOf_25 rfl ?_
        refine g_iald (Y := Y_X0_cellOf) (pc' := 27) dX0_cellOf_26 rfl (by assumption) (by omega) (by decide) ⟨by omega, by omega⟩ ?_
        refine g_goto (Y := Y_X0_cellOf) (t := 31) dX0_cellOf_27 (by decide) ?_
        exact g_iret (Y := Y_X0_cellOf) dX0_cellOf_31 rfl (Nat.zero_le _) (Nat.zero_le _) (⟨vi (by first | omega | (split <;> omega) | rfl), rfl⟩)
set_option maxHeartbeats 2000000 in
set_option maxRecDepth 100000 in
theorem s_X0_asksToHeal {l : Launch} {E : QE} {T : Nat → Nat × Nat} {I : Nat → Nat → Int} {J : Nat → Nat → Int64} {R : Nat → Nat → Option Nat} {n z : Nat} {k : Nat} (hk : TxB T R n k) (hv : TxV I k) (i : Int) (hi : -2147483648 ≤ i ∧ i < 2147483648) : SpV l E Y_X0_asksToHeal [.ref (E.1 + k), .int (iz i)] (T, I, J, R, n, z) (.int (iz (if (0 ≤ i ∧ i < I k 4) ∧ ¬ I (k + 3) i.toNat = 0 then 1 else 0))) (T, I, J, R, n, z) := by
  obtain ⟨t0, t1, t2, t3, r0, r1, r2, hn⟩ := hk
  obtain ⟨v3, v4, v5, v6, v7, v8, vc, vh, vo⟩ := id hv
  have vh1 := vh i.toNat
  refine Sp.of [some (.ref (E.1 + k)), some (.int (iz i))] (by decide +kernel) (Nat.le_of_ble_eq_true rfl) (fun _ h => h) ?_
  refine g_iload1 (Y := Y_X0_asksToHeal) (pc' := 1) dX0_asksToHeal_0 rfl ?_
  refine g_if_lt (Y := Y_X0_asksToHeal) (t := 34) (pc' := 4) dX0_asksToHeal_1 (by decide) rfl ⟨by omega, by omega⟩ (fun h1 => ?_) (fun h1 => ?_)
  · refine g_iconst (Y := Y_X0_asksToHeal) (pc' := 35) dX0_asksToHeal_34 rfl ?_
    exact g_zret (Y := Y_X0_asksToHeal) dX0_asksToHeal_35 rfl (by decide) (Nat.zero_le _) (Nat.zero_le _) (⟨vi (by first | omega | (split <;> omega) | rfl), rfl⟩)
  · refine g_iload1 (Y := Y_X0_asksToHeal) (pc' := 5) dX0_asksToHeal_4 rfl ?_
    refine g_aload0 (Y := Y_X0_asksToHeal) (pc' := 6) dX0_asksToHeal_5 rfl ?_
    refine g_getI (Y := Y_X0_asksToHeal) (pc' := 9) dX0_asksToHeal_6 rfl fl_X0_26 rfl (by assumption) (by omega) ?_
    refine g_icmp_ge (Y := Y_X0_asksToHeal) (t := 34) (pc' := 12) dX0_asksToHeal_9 (by decide) rfl ⟨by omega, by omega⟩ ⟨by omega, by omega⟩ (fun h9 => ?_) (fun h9 => ?_)
    · refine g_iconst (Y := Y_X0_asksToHeal) (pc' := 35) dX0_asksToHeal_34 rfl ?_
      exact g_zret (Y := Y_X0_asksToHeal) dX0_asksToHeal_35 rfl (by decide) (Nat.zero_le _) (Nat.zero_le _) (⟨vi (by first | omega | (split <;> omega) | rfl), rfl⟩)
    · refine g_iload1 (Y := Y_X0_asksToHeal) (pc' := 13) dX0_asksToHeal_12 rfl ?_
      refine g_aload0 (Y := Y_X0_asksToHeal) (pc' := 14) dX0_asksToHeal_13 rfl ?_
      refine g_getR (Y := Y_X0_asksToHeal) (pc' := 17) dX0_asksToHeal_14 rfl fl_X0_18 rfl (by assumption) (by omega) (by assumption) ?_
      refine g_alen (Y := Y_X0_asksToHeal) (pc' := 18) dX0_asksToHeal_17 rfl (by assumption) (by decide) (by omega) ?_
      refine g_icmp_ge (Y := Y_X0_asksToHeal) (t := 34) (pc' := 21) dX0_asksToHeal_18 (by decide) rfl ⟨by omega, by omega⟩ ⟨by omega, by omega⟩ (fun h18 => ?_) (fun h18 => ?_)
      · refine g_iconst (Y := Y_X0_asksToHeal) (pc' := 35) dX0_asksToHeal_34 rfl ?_
        exact g_zret (Y := Y_X0_asksToHeal) dX0_asksToHeal_35 rfl (by decide) (Nat.zero_le _) (Nat.zero_le _) (⟨vi (by first | omega | (split <;> omega) | rfl), rfl⟩)
      · refine g_aload0 (Y := Y_X0_asksToHeal) (pc' := 22) dX0_asksToHeal_21 rfl ?_
        refine g_getR (Y := Y_X0_asksToHeal) (pc' := 25) dX0_asksToHeal_22 rfl fl_X0_18 rfl (by assumption) (by omega) (by assumption) ?_
        refine g_iload1 (Y := Y_X0_asksToHeal) (pc' := 26) dX0_asksToHeal_25 rfl ?_
        refine g_zald (Y := Y_X0_asksToHeal) (pc' := 27) dX0_asksToHeal_26 rfl (by assumption) (by omega) (by decide) ⟨by omega, by omega⟩ ?_
        refine g_if_eq (Y := Y_X0_asksToHeal) (t := 34) (pc' := 30) dX0_asksToHeal_27 (by decide) rfl ⟨by omega, by omega⟩ (fun h27 => ?_) (fun h27 => ?_)
        · refine g_iconst (Y := Y_X0_asksToHeal) (pc' := 35) dX0_asksToHeal_34 rfl ?_
          exact g_zret (Y := Y_X0_asksToHeal) dX0_asksToHeal_35 rfl (by decide) (Nat.zero_le _) (Nat.zero_le _) (⟨vi (by first | omega | (split <;> omega) | rfl), rfl⟩)
        · refine g_iconst (Y := Y_X0_asksToHeal) (pc' := 31) dX0_asksToHeal_30 rfl ?_
          refine g_goto (Y := Y_X0_asksToHeal) (t := 35) dX0_asksToHeal_31 (by decide) ?_
          exact g_zret (Y := Y_X0_asksToHeal) dX0_asksToHeal_35 rfl (by decide) (Nat.zero_le _) (Nat.zero_le _) (⟨vi (by first | omega | (split <;> omega) | rfl), rfl⟩)
set_option maxHeartbeats 2000000 in
set_option maxRecDepth 100000 in
theorem s_X0_beginSpot {l : Launch} {E : QE} {T : Nat → Nat × Nat} {I : Nat → Nat → Int} {J : Nat → Nat → Int64} {R : Nat → Nat → Option Nat} {n z : Nat} {k : Nat} (hk : TxB T R n k) (hv : TxV I k)  : SpN l E Y_X0_beginSpot [.ref (E.1 + k)] (T, I, J, R, n, z) (T, f_begin I k, J, R, n, z) := by
  obtain ⟨t0, t1, t2, t3, r0, r1, r2, hn⟩ := hk
  refine Sp.of [some (.ref (E.1 + k))] (by decide +kernel) (Nat.le_of_ble_eq_true rfl) (fun _ h => h) ?_
  refine g_aload0 (Y := Y_X0_beginSpot) (pc' := 1) dX0_beginSpot_0 rfl ?_
  refine g_iconst (Y := Y_X0_beginSpot) (pc' := 2) dX0_beginSpot_1 rfl ?_
  refine g_putZ (Y := Y_X0_beginSpot) (pc' := 5) dX0_beginSpot_2 rfl fp_X0_29 rfl (by assumption) (by omega) (Or.inl rfl) ?_
  refine g_aload0 (Y := Y_X0_beginSpot) (pc' := 6) dX0_beginSpot_5 rfl ?_
  refine g_iconst (Y := Y_X0_beginSpot) (pc' := 7) dX0_beginSpot_6 rfl ?_
  refine g_putZ (Y := Y_X0_beginSpot) (pc' := 10) dX0_beginSpot_7 rfl fp_X0_33 rfl (by assumption) (by omega) (Or.inl rfl) ?_
  refine g_aload0 (Y := Y_X0_beginSpot) (pc' := 11) dX0_beginSpot_10 rfl ?_
  refine g_iconst (Y := Y_X0_beginSpot) (pc' := 12) dX0_beginSpot_11 rfl ?_
  refine g_putI (Y := Y_X0_beginSpot) (pc' := 15) dX0_beginSpot_12 rfl fp_X0_39 rfl (by assumption) (by omega) ?_
  exact g_vret (Y := Y_X0_beginSpot) dX0_beginSpot_15 rfl (Nat.zero_le _) (Nat.zero_le _) (⟨rfl, rfl⟩)
set_option maxHeartbeats 2000000 in
set_option maxRecDepth 100000 in
theorem s_X0_endSpot {l : Launch} {E : QE} {T : Nat → Nat × Nat} {I : Nat → Nat → Int} {J : Nat → Nat → Int64} {R : Nat → Nat → Option Nat} {n z : Nat} {k : Nat} (hk : TxB T R n k) (hv : TxV I k)  : SpV l E Y_X0_endSpot [.ref (E.1 + k)] (T, I, J, R, n, z) (.int (iz (f_endSpot I k).1)) (T, (f_endSpot I k).2, J, R, n, z) := by
  obtain ⟨t0, t1, t2, t3, r0, r1, r2, hn⟩ := hk
  obtain ⟨v3, v4, v5, v6, v7, v8, vc, vh, vo⟩ := id hv
  have c91 : ¬ (I k 6 = 0 ∨ I k 8 = -1) → Go l E Y_X0_endSpot 0 0 91 [some (.ref (E.1 + k))] [] (T, f_endOrd I k, J, R, n, z) (KV (.int (iz (f_endSpot I k).1)) (T, (f_endSpot I k).2, J, R, n, z)) := by
    intro hq
    have hv2 := (TxV_endOrd hv).1
    refine g_aload0 (Y := Y_X0_endSpot) (pc' := 92) dX0_endSpot_91 rfl ?_
    refine g_callVn (Y := Y_X0_endSpot) (c := 0) (s_X0_beginSpot (I := f_endOrd I k) ⟨t0, t1, t2, t3, r0, r1, r2, hn⟩ hv2) (pc' := 95) dX0_endSpot_92 rfl cv_X0_42 rfl (by assumption) (by show _ < n; omega) ⟨by decide, _, rfl, rfl⟩ rfl rfl rfl rfl ?_
    refine g_iconst (Y := Y_X0_endSpot) (pc' := 96) dX0_endSpot_95 rfl ?_
    exact g_zret (Y := Y_X0_endSpot) dX0_endSpot_96 rfl (by decide) (Nat.zero_le _) (Nat.zero_le _) (by rw [show f_endSpot I k = (1, f_begin (f_endOrd I k) k) from if_neg hq]; exact ⟨rfl, rfl⟩)
  refine Sp.of [some (.ref (E.1 + k))] (by decide +kernel) (Nat.le_of_ble_eq_true rfl) (fun _ h => h) ?_
  refine g_aload0 (Y := Y_X0_endSpot) (pc' := 1) dX0_endSpot_0 rfl ?_
  refine g_getI (Y := Y_X0_endSpot) (pc' := 4) dX0_endSpot_1 rfl fl_X0_33 rfl (by assumption) (by omega) ?_
  refine g_if_eq (Y := Y_X0_endSpot) (t := 15) (pc' := 7) dX0_endSpot_4 (by decide) rfl ⟨by omega, by omega⟩ (fun h4 => ?_) (fun h4 => ?_)
  · refine g_iconst (Y := Y_X0_endSpot) (pc' := 16) dX0_endSpot_15 rfl ?_
    exact g_zret (Y := Y_X0_endSpot) dX0_endSpot_16 rfl (by decide) (Nat.zero_le _) (Nat.zero_le _) (by rw [show f_endSpot I k = (0, I) from if_pos (by omega)]; exact ⟨rfl, rfl⟩)
  · refine g_aload0 (Y := Y_X0_endSpot) (pc' := 8) dX0_endSpot_7 rfl ?_
    refine g_getI (Y := Y_X0_endSpot) (pc' := 11) dX0_endSpot_8 rfl fl_X0_39 rfl (by assumption) (by omega) ?_
    refine g_iconst (Y := Y_X0_endSpot) (pc' := 12) dX0_endSpot_11 rfl ?_
    refine g_icmp_ne (Y := Y_X0_endSpot) (t := 17) (pc' := 15) dX0_endSpot_12 (by decide) rfl ⟨by omega, by omega⟩ ⟨by omega, by omega⟩ (fun h12 => ?_) (fun h12 => ?_)
    · refine g_aload0 (Y := Y_X0_endSpot) (pc' := 18) dX0_endSpot_17 rfl ?_
      refine g_getI (Y := Y_X0_endSpot) (pc' := 21) dX0_endSpot_18 rfl fl_X0_26 rfl (by assumption) (by omega) ?_
      refine g_if_lt (Y := Y_X0_endSpot) (t := 91) (pc' := 24) dX0_endSpot_21 (by decide) rfl ⟨by omega, by omega⟩ (fun h21 => ?_) (fun h21 => ?_)
      · exfalso; omega
      · refine g_aload0 (Y := Y_X0_endSpot) (pc' := 25) dX0_endSpot_24 rfl ?_
        refine g_getI (Y := Y_X0_endSpot) (pc' := 28) dX0_endSpot_25 rfl fl_X0_26 rfl (by assumption) (by omega) ?_
        refine g_aload0 (Y := Y_X0_endSpot) (pc' := 29) dX0_endSpot_28 rfl ?_
        refine g_getR (Y := Y_X0_endSpot) (pc' := 32) dX0_endSpot_29 rfl fl_X0_15 rfl (by assumption) (by omega) (by assumption) ?_
        refine g_alen (Y := Y_X0_endSpot) (pc' := 33) dX0_endSpot_32 rfl (by assumption) (by decide) (by omega) ?_
        refine g_icmp_ge (Y := Y_X0_endSpot) (t := 91) (pc' := 36) dX0_endSpot_33 (by decide) rfl ⟨by omega, by omega⟩ ⟨by omega, by omega⟩ (fun h33 => ?_) (fun h33 => ?_)
        · have e9 : f_endOrd I k = I := if_neg (by omega)
          rw [e9] at c91
          exact c91 (by omega)
        · have e9 : f_endOrd I k = f_eo3 (f_eo2 (f_eo1 I k) k) k := if_pos (by omega)
          rw [e9] at c91
          have y1 : f_eo1 I k k = I k := u2_ne (by omega)
          have y4 : f_eo1 I k k 4 = I k 4 := congrFun y1 4
          have y5 : f_eo1 I k k 5 = I k 5 := congrFun y1 5
          refine g_aload0 (Y := Y_X0_endSpot) (pc' := 37) dX0_endSpot_36 rfl ?_
          refine g_getI (Y := Y_X0_endSpot) (pc' := 40) dX0_endSpot_37 rfl fl_X0_26 rfl (by assumption) (by omega) ?_
          refine g_aload0 (Y := Y_X0_endSpot) (pc' := 41) dX0_endSpot_40 rfl ?_
          refine g_getR (Y := Y_X0_endSpot) (pc' := 44) dX0_endSpot_41 rfl fl_X0_18 rfl (by assumption) (by omega) (by assumption) ?_
          refine g_alen (Y := Y_X0_endSpot) (pc' := 45) dX0_endSpot_44 rfl (by assumption) (by decide) (by omega) ?_
          refine g_icmp_ge (Y := Y_X0_endSpot) (t := 91) (pc' := 48) dX0_endSpot_45 (by decide) rfl ⟨by omega, by omega⟩ ⟨by omega, by omega⟩ (fun h45 => ?_) (fun h45 => ?_)
          · exfalso; omega
          · refine g_aload0 (Y := Y_X0_endSpot) (pc' := 49) dX0_endSpot_48 rfl ?_
            refine g_getR (Y := Y_X0_endSpot) (pc' := 52) dX0_endSpot_49 rfl fl_X0_15 rfl (by assumption) (by omega) (by assumption) ?_
            refine g_aload0 (Y := Y_X0_endSpot) (pc' := 53) dX0_endSpot_52 rfl ?_
            refine g_getI (Y := Y_X0_endSpot) (pc' := 56) dX0_endSpot_53 rfl fl_X0_26 rfl (by assumption) (by omega) ?_
            refine g_aload0 (Y := Y_X0_endSpot) (pc' := 57) dX0_endSpot_56 rfl ?_
            refine g_getI (Y := Y_X0_endSpot) (pc' := 60) dX0_endSpot_57 rfl fl_X0_36 rfl (by assumption) (by omega) ?_
            refine g_aload0 (Y := Y_X0_endSpot) (pc' := 61) dX0_endSpot_60 rfl ?_
            refine g_getI (Y := Y_X0_endSpot) (pc' := 64) dX0_endSpot_61 rfl fl_X0_39 rfl (by assumption) (by omega) ?_
            refine g_callSNv (Y := Y_X0_endSpot) (s_X4_cellNumber _ _) (pc' := 67) dX0_endSpot_64 rfl cv_X0_61 rfl rfl rfl rfl rfl ?_
            refine g_iast (Y := Y_X0_endSpot) (pc' := 68) dX0_endSpot_67 rfl (by assumption) (by omega) (by decide) ⟨by omega, by omega⟩ ?_
            refine g_aload0 (Y := Y_X0_endSpot) (pc' := 69) dX0_endSpot_68 rfl ?_
            refine g_getR (Y := Y_X0_endSpot) (pc' := 72) dX0_endSpot_69 rfl fl_X0_18 rfl (by assumption) (by omega) (by assumption) ?_
            refine g_aload0 (Y := Y_X0_endSpot) (pc' := 73) dX0_endSpot_72 rfl ?_
            refine g_getI (Y := Y_X0_endSpot) (pc' := 76) dX0_endSpot_73 rfl fl_X0_26 rfl (by assumption) (by omega) ?_
            refine g_aload0 (Y := Y_X0_endSpot) (pc' := 77) dX0_endSpot_76 rfl ?_
            refine g_getI (Y := Y_X0_endSpot) (pc' := 80) dX0_endSpot_77 rfl fl_X0_29 rfl (by assumption) (by omega) ?_
            refine g_zast (Y := Y_X0_endSpot) (pc' := 81) dX0_endSpot_80 rfl (by assumption) (by omega) (by decide) (show 0 ≤ f_eo1 I k k 4 ∧ f_eo1 I k k 4 < (15 : Nat) by rw [y4]; omega) (show f_eo1 I k k 5 = 0 ∨ f_eo1 I k k 5 = 1 by rw [y5]; exact v5) ?_
            refine g_aload0 (Y := Y_X0_endSpot) (pc' := 82) dX0_endSpot_81 rfl ?_
            refine g_dup (Y := Y_X0_endSpot) (pc' := 83) dX0_endSpot_82 rfl rfl ?_
            refine g_getI (Y := Y_X0_endSpot) (pc' := 86) dX0_endSpot_83 rfl fl_X0_26 rfl (by assumption) (by omega) ?_
            refine g_iconst (Y := Y_X0_endSpot) (pc' := 87) dX0_endSpot_86 rfl ?_
            refine g_iadd (Y := Y_X0_endSpot) (pc' := 88) dX0_endSpot_87 rfl ?_
            refine g_putI (Y := Y_X0_endSpot) (pc' := 91) dX0_endSpot_88 rfl fp_X0_26 rfl (by assumption) (by omega) ?_
            exact c91 (by omega)
    · refine g_iconst (Y := Y_X0_endSpot) (pc' := 16) dX0_endSpot_15 rfl ?_
      exact g_zret (Y := Y_X0_endSpot) dX0_endSpot_16 rfl (by decide) (Nat.zero_le _) (Nat.zero_le _) (by rw [show f_endSpot I k = (0, I) from if_pos (by omega)]; exact ⟨rfl, rfl⟩)
set_option maxHeartbeats 2000000 in
set_option maxRecDepth 100000 in
theorem s_X0_takeMinus {l : Launch} {E : QE} {T : Nat → Nat × Nat} {I : Nat → Nat → Int} {J : Nat → Nat → Int64} {R : Nat → Nat → Option Nat} {n z : Nat} {k : Nat} (hk : TxB T R n k) (hv : TxV I k)  : SpV l E Y_X0_takeMinus [.ref (E.1 + k)] (T, I, J, R, n, z) (.int (iz (f_minus I k).1)) (T, (f_minus I k).2, J, R, n, z) := by
  obtain ⟨t0, t1, t2, t3, r0, r1, r2, hn⟩ := hk
  obtain ⟨v3, v4, v5, v6, v7, v8, vc, vh, vo⟩ := id hv
  refine Sp.of [some (.ref (E.1 + k))] (by decide +kernel) (Nat.le_of_ble_eq_true rfl) (fun _ h => h) ?_
  refine g_aload0 (Y := Y_X0_takeMinus) (pc' := 1) dX0_takeMinus_0 rfl ?_
  refine g_getI (Y := Y_X0_takeMinus) (pc' := 4) dX0_takeMinus_1 rfl fl_X0_29 rfl (by assumption) (by omega) ?_
  refine g_if_ne (Y := Y_X0_takeMinus) (t := 22) (pc' := 7) dX0_takeMinus_4 (by decide) rfl ⟨by omega, by omega⟩ (fun h4 => ?_) (fun h4 => ?_)
  · refine g_iconst (Y := Y_X0_takeMinus) (pc' := 23) dX0_takeMinus_22 rfl ?_
    exact g_zret (Y := Y_X0_takeMinus) dX0_takeMinus_23 rfl (by decide) (Nat.zero_le _) (Nat.zero_le _) (by rw [show f_minus I k = (0, I) from if_neg (by omega)]; exact ⟨rfl, rfl⟩)
  · refine g_aload0 (Y := Y_X0_takeMinus) (pc' := 8) dX0_takeMinus_7 rfl ?_
    refine g_getI (Y := Y_X0_takeMinus) (pc' := 11) dX0_takeMinus_8 rfl fl_X0_33 rfl (by assumption) (by omega) ?_
    refine g_if_ne (Y := Y_X0_takeMinus) (t := 22) (pc' := 14) dX0_takeMinus_11 (by decide) rfl ⟨by omega, by omega⟩ (fun h11 => ?_) (fun h11 => ?_)
    · refine g_iconst (Y := Y_X0_takeMinus) (pc' := 23) dX0_takeMinus_22 rfl ?_
      exact g_zret (Y := Y_X0_takeMinus) dX0_takeMinus_23 rfl (by decide) (Nat.zero_le _) (Nat.zero_le _) (by rw [show f_minus I k = (0, I) from if_neg (by omega)]; exact ⟨rfl, rfl⟩)
    · refine g_aload0 (Y := Y_X0_takeMinus) (pc' := 15) dX0_takeMinus_14 rfl ?_
      refine g_getI (Y := Y_X0_takeMinus) (pc' := 18) dX0_takeMinus_15 rfl fl_X0_39 rfl (by assumption) (by omega) ?_
      refine g_iconst (Y := Y_X0_takeMinus) (pc' := 19) dX0_takeMinus_18 rfl ?_
      refine g_icmp_eq (Y := Y_X0_takeMinus) (t := 24) (pc' := 22) dX0_takeMinus_19 (by decide) rfl ⟨by omega, by omega⟩ ⟨by omega, by omega⟩ (fun h19 => ?_) (fun h19 => ?_)
      · refine g_aload0 (Y := Y_X0_takeMinus) (pc' := 25) dX0_takeMinus_24 rfl ?_
        refine g_iconst (Y := Y_X0_takeMinus) (pc' := 26) dX0_takeMinus_25 rfl ?_
        refine g_putZ (Y := Y_X0_takeMinus) (pc' := 29) dX0_takeMinus_26 rfl fp_X0_29 rfl (by assumption) (by omega) (Or.inr rfl) ?_
        refine g_iconst (Y := Y_X0_takeMinus) (pc' := 30) dX0_takeMinus_29 rfl ?_
        exact g_zret (Y := Y_X0_takeMinus) dX0_takeMinus_30 rfl (by decide) (Nat.zero_le _) (Nat.zero_le _) (by rw [show f_minus I k = (1, u2 I k 5 1) from if_pos (by omega)]; exact ⟨rfl, rfl⟩)
      · refine g_iconst (Y := Y_X0_takeMinus) (pc' := 23) dX0_takeMinus_22 rfl ?_
        exact g_zret (Y := Y_X0_takeMinus) dX0_takeMinus_23 rfl (by decide) (Nat.zero_le _) (Nat.zero_le _) (by rw [show f_minus I k = (0, I) from if_neg (by omega)]; exact ⟨rfl, rfl⟩)
set_option maxHeartbeats 2000000 in
set_option maxRecDepth 100000 in
theorem s_X0_takeComma {l : Launch} {E : QE} {T : Nat → Nat × Nat} {I : Nat → Nat → Int} {J : Nat → Nat → Int64} {R : Nat → Nat → Option Nat} {n z : Nat} {k : Nat} (hk : TxB T R n k) (hv : TxV I k)  : SpV l E Y_X0_takeComma [.ref (E.1 + k)] (T, I, J, R, n, z) (.int (iz (f_comma I k).1)) (T, (f_comma I k).2, J, R, n, z) := by
  obtain ⟨t0, t1, t2, t3, r0, r1, r2, hn⟩ := hk
  obtain ⟨v3, v4, v5, v6, v7, v8, vc, vh, vo⟩ := id hv
  refine Sp.of [some (.ref (E.1 + k))] (by decide +kernel) (Nat.le_of_ble_eq_true rfl) (fun _ h => h) ?_
  refine g_aload0 (Y := Y_X0_takeComma) (pc' := 1) dX0_takeComma_0 rfl ?_
  refine g_getI (Y := Y_X0_takeComma) (pc' := 4) dX0_takeComma_1 rfl fl_X0_33 rfl (by assumption) (by omega) ?_
  refine g_if_ne (Y := Y_X0_takeComma) (t := 15) (pc' := 7) dX0_takeComma_4 (by decide) rfl ⟨by omega, by omega⟩ (fun h4 => ?_) (fun h4 => ?_)
  · refine g_iconst (Y := Y_X0_takeComma) (pc' := 16) dX0_takeComma_15 rfl ?_
    exact g_zret (Y := Y_X0_takeComma) dX0_takeComma_16 rfl (by decide) (Nat.zero_le _) (Nat.zero_le _) (by rw [show f_comma I k = (0, I) from if_neg (by omega)]; exact ⟨rfl, rfl⟩)
  · refine g_aload0 (Y := Y_X0_takeComma) (pc' := 8) dX0_takeComma_7 rfl ?_
    refine g_getI (Y := Y_X0_takeComma) (pc' := 11) dX0_takeComma_8 rfl fl_X0_39 rfl (by assumption) (by omega) ?_
    refine g_iconst (Y := Y_X0_takeComma) (pc' := 12) dX0_takeComma_11 rfl ?_
    refine g_icmp_ne (Y := Y_X0_takeComma) (t := 17) (pc' := 15) dX0_takeComma_12 (by decide) rfl ⟨by omega, by omega⟩ ⟨by omega, by omega⟩ (fun h12 => ?_) (fun h12 => ?_)
    · refine g_aload0 (Y := Y_X0_takeComma) (pc' := 18) dX0_takeComma_17 rfl ?_
      refine g_aload0 (Y := Y_X0_takeComma) (pc' := 19) dX0_takeComma_18 rfl ?_
      refine g_getI (Y := Y_X0_takeComma) (pc' := 22) dX0_takeComma_19 rfl fl_X0_39 rfl (by assumption) (by omega) ?_
      refine g_putI (Y := Y_X0_takeComma) (pc' := 25) dX0_takeComma_22 rfl fp_X0_36 rfl (by assumption) (by omega) ?_
      refine g_aload0 (Y := Y_X0_takeComma) (pc' := 26) dX0_takeComma_25 rfl ?_
      refine g_iconst (Y := Y_X0_takeComma) (pc' := 27) dX0_takeComma_26 rfl ?_
      refine g_putI (Y := Y_X0_takeComma) (pc' := 30) dX0_takeComma_27 rfl fp_X0_39 rfl (by assumption) (by omega) ?_
      refine g_aload0 (Y := Y_X0_takeComma) (pc' := 31) dX0_takeComma_30 rfl ?_
      refine g_iconst (Y := Y_X0_takeComma) (pc' := 32) dX0_takeComma_31 rfl ?_
      refine g_putZ (Y := Y_X0_takeComma) (pc' := 35) dX0_takeComma_32 rfl fp_X0_33 rfl (by assumption) (by omega) (Or.inr rfl) ?_
      refine g_iconst (Y := Y_X0_takeComma) (pc' := 36) dX0_takeComma_35 rfl ?_
      exact g_zret (Y := Y_X0_takeComma) dX0_takeComma_36 rfl (by decide) (Nat.zero_le _) (Nat.zero_le _) (by rw [show f_comma I k = (1, f_co1 I k) from if_pos (by omega)]; exact ⟨rfl, rfl⟩)
    · refine g_iconst (Y := Y_X0_takeComma) (pc' := 16) dX0_takeComma_15 rfl ?_
      exact g_zret (Y := Y_X0_takeComma) dX0_takeComma_16 rfl (by decide) (Nat.zero_le _) (Nat.zero_le _) (by rw [show f_comma I k = (0, I) from if_neg (by omega)]; exact ⟨rfl, rfl⟩)
set_option maxHeartbeats 2000000 in
set_option maxRecDepth 100000 in
theorem s_X0_takeDigit {l : Launch} {E : QE} {T : Nat → Nat × Nat} {I : Nat → Nat → Int} {J : Nat → Nat → Int64} {R : Nat → Nat → Option Nat} {n z : Nat} {k : Nat} (hk : TxB T R n k) (hv : TxV I k) (d : Int) (hd : 0 ≤ d ∧ d ≤ 9) : SpV l E Y_X0_takeDigit [.ref (E.1 + k), .int (iz d)] (T, I, J, R, n, z) (.int (iz (f_digit I k d).1)) (T, (f_digit I k d).2, J, R, n, z) := by
  obtain ⟨t0, t1, t2, t3, r0, r1, r2, hn⟩ := hk
  obtain ⟨v3, v4, v5, v6, v7, v8, vc, vh, vo⟩ := id hv
  refine Sp.of [some (.ref (E.1 + k)), some (.int (iz d))] (by decide +kernel) (Nat.le_of_ble_eq_true rfl) (fun _ h => h) ?_
  refine g_aload0 (Y := Y_X0_takeDigit) (pc' := 1) dX0_takeDigit_0 rfl ?_
  refine g_getI (Y := Y_X0_takeDigit) (pc' := 4) dX0_takeDigit_1 rfl fl_X0_39 rfl (by assumption) (by omega) ?_
  refine g_iconst (Y := Y_X0_takeDigit) (pc' := 5) dX0_takeDigit_4 rfl ?_
  refine g_icmp_ne (Y := Y_X0_takeDigit) (t := 15) (pc' := 8) dX0_takeDigit_5 (by decide) rfl ⟨by omega, by omega⟩ ⟨by omega, by omega⟩ (fun h5 => ?_) (fun h5 => ?_)
  · refine g_aload0 (Y := Y_X0_takeDigit) (pc' := 16) dX0_takeDigit_15 rfl ?_
    refine g_getI (Y := Y_X0_takeDigit) (pc' := 19) dX0_takeDigit_16 rfl fl_X0_39 rfl (by assumption) (by omega) ?_
    refine g_if_eq (Y := Y_X0_takeDigit) (t := 36) (pc' := 22) dX0_takeDigit_19 (by decide) rfl ⟨by omega, by omega⟩ (fun h19 => ?_) (fun h19 => ?_)
    · refine g_iconst (Y := Y_X0_takeDigit) (pc' := 37) dX0_takeDigit_36 rfl ?_
      exact g_zret (Y := Y_X0_takeDigit) dX0_takeDigit_37 rfl (by decide) (Nat.zero_le _) (Nat.zero_le _) (by rw [show f_digit I k d = (0, I) by unfold f_digit; rw [if_neg (by omega), if_neg (by omega)]]; exact ⟨rfl, rfl⟩)
    · refine g_aload0 (Y := Y_X0_takeDigit) (pc' := 23) dX0_takeDigit_22 rfl ?_
      refine g_getI (Y := Y_X0_takeDigit) (pc' := 26) dX0_takeDigit_23 rfl fl_X0_39 rfl (by assumption) (by omega) ?_
      refine g_bipush (Y := Y_X0_takeDigit) (pc' := 28) dX0_takeDigit_26 rfl (by decide) ?_
      refine g_imul (Y := Y_X0_takeDigit) (pc' := 29) dX0_takeDigit_28 rfl ?_
      refine g_iload1 (Y := Y_X0_takeDigit) (pc' := 30) dX0_takeDigit_29 rfl ?_
      refine g_iadd (Y := Y_X0_takeDigit) (pc' := 31) dX0_takeDigit_30 rfl ?_
      refine g_bipush (Y := Y_X0_takeDigit) (pc' := 33) dX0_takeDigit_31 rfl (by decide) ?_
      refine g_icmp_lt (Y := Y_X0_takeDigit) (t := 38) (pc' := 36) dX0_takeDigit_33 (by decide) rfl ⟨by omega, by omega⟩ ⟨by omega, by omega⟩ (fun h33 => ?_) (fun h33 => ?_)
      · refine g_aload0 (Y := Y_X0_takeDigit) (pc' := 39) dX0_takeDigit_38 rfl ?_
        refine g_aload0 (Y := Y_X0_takeDigit) (pc' := 40) dX0_takeDigit_39 rfl ?_
        refine g_getI (Y := Y_X0_takeDigit) (pc' := 43) dX0_takeDigit_40 rfl fl_X0_39 rfl (by assumption) (by omega) ?_
        refine g_bipush (Y := Y_X0_takeDigit) (pc' := 45) dX0_takeDigit_43 rfl (by decide) ?_
        refine g_imul (Y := Y_X0_takeDigit) (pc' := 46) dX0_takeDigit_45 rfl ?_
        refine g_iload1 (Y := Y_X0_takeDigit) (pc' := 47) dX0_takeDigit_46 rfl ?_
        refine g_iadd (Y := Y_X0_takeDigit) (pc' := 48) dX0_takeDigit_47 rfl ?_
        refine g_putI (Y := Y_X0_takeDigit) (pc' := 51) dX0_takeDigit_48 rfl fp_X0_39 rfl (by assumption) (by omega) ?_
        refine g_iconst (Y := Y_X0_takeDigit) (pc' := 52) dX0_takeDigit_51 rfl ?_
        exact g_zret (Y := Y_X0_takeDigit) dX0_takeDigit_52 rfl (by decide) (Nat.zero_le _) (Nat.zero_le _) (by rw [show f_digit I k d = (1, u2 I k 8 (I k 8 * 10 + d)) by unfold f_digit; rw [if_neg (by omega), if_pos (by omega)]]; exact ⟨rfl, rfl⟩)
      · refine g_iconst (Y := Y_X0_takeDigit) (pc' := 37) dX0_takeDigit_36 rfl ?_
        exact g_zret (Y := Y_X0_takeDigit) dX0_takeDigit_37 rfl (by decide) (Nat.zero_le _) (Nat.zero_le _) (by rw [show f_digit I k d = (0, I) by unfold f_digit; rw [if_neg (by omega), if_neg (by omega)]]; exact ⟨rfl, rfl⟩)
  · refine g_aload0 (Y := Y_X0_takeDigit) (pc' := 9) dX0_takeDigit_8 rfl ?_
    refine g_iload1 (Y := Y_X0_takeDigit) (pc' := 10) dX0_takeDigit_9 rfl ?_
    refine g_putI (Y := Y_X0_takeDigit) (pc' := 13) dX0_takeDigit_10 rfl fp_X0_39 rfl (by assumption) (by omega) ?_
    refine g_iconst (Y := Y_X0_takeDigit) (pc' := 14) dX0_takeDigit_13 rfl ?_
    exact g_zret (Y := Y_X0_takeDigit) dX0_takeDigit_14 rfl (by decide) (Nat.zero_le _) (Nat.zero_le _) (by rw [show f_digit I k d = (1, u2 I k 8 d) from if_pos (by omega)]; exact ⟨rfl, rfl⟩)
