/-! ScratchMap: saved states; the share's bits; the digest -/
/-- the saved states' references, as the oldest one goes to the end -/
def swp (R : Nat → Nat → Option Nat) (i : Nat) : Nat → Nat → Option Nat := u2 (u2 R 35 i (R 35 (i + 1))) 35 (i + 1) (R 35 i)
def f_rot : Nat → Nat → (Nat → Nat → Option Nat) → Nat → Nat → Option Nat
  | 0, _, R => R
  | m + 1, i, R => f_rot m (i + 1) (swp R i)
theorem swp_ne {R : Nat → Nat → Option Nat} {i a : Nat} (h : a ≠ 35) : swp R i a = R a := by
  unfold swp
  rw [u2_ne h, u2_ne h]
theorem swp_at {R : Nat → Nat → Option Nat} {i j : Nat} : swp R i 35 j = if j = i + 1 then R 35 i else if j = i then R 35 (i + 1) else R 35 j := by
  unfold swp u2
  by_cases h1 : j = i + 1
  · simp [h1]
  · by_cases h2 : j = i
    · subst h2; simp [h1]
    · simp [h1, h2]
theorem ScB_swp {T : Nat → Nat × Nat} {R : Nat → Nat → Option Nat} {n i : Nat} (h : ScB T R n) (hi : i + 1 < 6) : ScB T (swp R i) n := by
  have h14 := h.2.2.2.2.2.2.2.2.2.2.2.2.2.2.1
  have h15 := h.2.2.2.2.2.2.2.2.2.2.2.2.2.2.2.1
  refine ScB_R h (fun a ha => swp_ne ha) (fun j hj => ?_) (fun a b ha hb => ?_)
  · rw [swp_at]
    split
    · exact h14 i (by omega)
    · split
      · exact h14 (i + 1) hi
      · exact h14 j hj
  · rw [swp_at, swp_at]
    intro e
    split at e <;> rename_i a1
    · split at e <;> rename_i b1
      · omega
      · split at e <;> rename_i b2
        · have q := h15 _ _ (by omega) (by omega) e; omega
        · have q := h15 _ _ (by omega) (by omega) e; omega
    · split at e <;> rename_i a2
      · split at e <;> rename_i b1
        · have q := h15 _ _ (by omega) (by omega) e; omega
        · split at e <;> rename_i b2
          · omega
          · have q := h15 _ _ (by omega) (by omega) e; omega
      · split at e <;> rename_i b1
        · have q := h15 _ _ (by omega) (by omega) e; omega
        · split at e <;> rename_i b2
          · have q := h15 _ _ (by omega) (by omega) e; omega
          · exact h15 _ _ (by omega) (by omega) e
theorem f_rot_ne {a : Nat} (h : a ≠ 35) : ∀ (m i : Nat) (R : Nat → Nat → Option Nat), f_rot m i R a = R a
  | 0, _, _ => rfl
  | m + 1, i, R => by
    unfold f_rot
    rw [f_rot_ne h m, swp_ne h]
theorem ScB_rot {T : Nat → Nat × Nat} {n : Nat} : ∀ (m i : Nat) (R : Nat → Nat → Option Nat), m + i < 6 → ScB T R n → ScB T (f_rot m i R) n
  | 0, _, _, _, h => h
  | m + 1, i, R, hm, h => by
    unfold f_rot
    exact ScB_rot m (i + 1) _ (by omega) (ScB_swp h (by omega))
theorem XV_0 {I : Nat → Nat → Int} {x : Int} (h : XV I) (hx : 0 ≤ x ∧ x ≤ 6) : XV (u2 I 0 3 x) := by
  obtain ⟨x1, x7, x46, x36, x40, x74, x3, xl, xl2⟩ := h
  have ne : ∀ a, 1 ≤ a → u2 I 0 3 x a = I a := fun a ha => u2_ne (by omega)
  exact ⟨StV_ne x1 (fun a h1 h2 => ne a (by omega)), LmV_ne x7 (fun a h1 h2 => ne a (by omega)), LmV_ne x46 (fun a h1 h2 => ne a (by omega)), TxV_ne x36 (fun a h1 h2 => ne a (by omega)), StV_ne x40 (fun a h1 h2 => ne a (by omega)), fun i hi => StV_ne (x74 i hi) (fun a h1 h2 => ne a (by omega)), by rw [u2_at]; exact hx, LIN_ne xl x7 (fun a h1 h2 => ne a (by omega)), LIN_ne xl2 x46 (fun a h1 h2 => ne a (by omega))⟩
def f_sv (R : Nat → Nat → Option Nat) (j : Nat) : Nat := (R 35 j).getD 0
theorem f_sv_of {T : Nat → Nat × Nat} {R : Nat → Nat → Option Nat} {n j : Nat} (h : ScB T R n) (hj : j < 6) : R 35 j = some (f_sv R j) ∧ ∃ i : Nat, i < 6 ∧ f_sv R j = 74 + 6 * i := by
  obtain ⟨i, h1, h2⟩ := h.2.2.2.2.2.2.2.2.2.2.2.2.2.2.1 j hj
  have e : f_sv R j = 74 + 6 * i := by unfold f_sv; rw [h2]; rfl
  exact ⟨by rw [e, h2], i, h1, e⟩
theorem XV_cp1 {I : Nat → Nat → Int} {i : Nat} (h : XV I) (hi : i < 6) : XV (f_copy I 1 (74 + 6 * i)) := by
  obtain ⟨x1, x7, x46, x36, x40, x74, x3, xl, xl2⟩ := h
  have ne : ∀ a, a < 74 ∨ 74 + 6 * i + 6 ≤ a ∨ a < 74 + 6 * i → f_copy I 1 (74 + 6 * i) a = I a := fun a ha => f_copy_ne (by omega)
  refine ⟨StV_ne x1 (fun a h1 h2 => ne a (by omega)), LmV_ne x7 (fun a h1 h2 => ne a (by omega)), LmV_ne x46 (fun a h1 h2 => ne a (by omega)), TxV_ne x36 (fun a h1 h2 => ne a (by omega)), StV_ne x40 (fun a h1 h2 => ne a (by omega)), fun j hj => ?_, by rw [ne 0 (by omega)]; exact x3, LIN_ne xl x7 (fun a h1 h2 => ne a (by omega)), LIN_ne xl2 x46 (fun a h1 h2 => ne a (by omega))⟩
  by_cases e : j = i
  · subst e; exact StV_copy (by omega) x1 (x74 j hj)
  · exact StV_ne (x74 j hj) (fun a h1 h2 => ne a (by omega))
def f_saveL (I : Nat → Nat → Int) (R : Nat → Nat → Option Nat) : Nat → Nat → Int := u2 (f_copy I 1 (f_sv R (I 0 3).toNat)) 0 3 (I 0 3 + 1)
theorem XV_saveL {T : Nat → Nat × Nat} {I : Nat → Nat → Int} {R : Nat → Nat → Option Nat} {n : Nat} (hk : ScB T R n) (h : XV I) (hs : I 0 3 < 6) : XV (f_saveL I R) := by
  have h3 := h.2.2.2.2.2.2.1
  obtain ⟨-, i, hi, e⟩ := f_sv_of hk (j := (I 0 3).toNat) (by omega)
  unfold f_saveL
  rw [e]
  exact XV_0 (XV_cp1 h hi) (by omega)
def f_saveI (I : Nat → Nat → Int) : Nat → Nat → Int := if I 0 3 < 6 then I else u2 I 0 3 5
def f_saveR (I : Nat → Nat → Int) (R : Nat → Nat → Option Nat) : Nat → Nat → Option Nat := if I 0 3 < 6 then R else f_rot 5 0 R
def f_save (I : Nat → Nat → Int) (R : Nat → Nat → Option Nat) : Nat → Nat → Int := f_saveL (f_saveI I) (f_saveR I R)
theorem saveI_lt {I : Nat → Nat → Int} : f_saveI I 0 3 < 6 := by
  unfold f_saveI
  split
  · assumption
  · rw [u2_at]; decide
theorem XV_saveI {I : Nat → Nat → Int} (h : XV I) : XV (f_saveI I) := by
  unfold f_saveI
  split
  · exact h
  · exact XV_0 h (by decide)
theorem ScB_saveR {T : Nat → Nat × Nat} {I : Nat → Nat → Int} {R : Nat → Nat → Option Nat} {n : Nat} (hk : ScB T R n) : ScB T (f_saveR I R) n := by
  unfold f_saveR
  split
  · exact hk
  · exact ScB_rot 5 0 R (by decide) hk
theorem XV_save {T : Nat → Nat × Nat} {I : Nat → Nat → Int} {R : Nat → Nat → Option Nat} {n : Nat} (hk : ScB T R n) (h : XV I) : XV (f_save I R) := XV_saveL (ScB_saveR hk) (XV_saveI h) saveI_lt
set_option maxHeartbeats 2000000 in
set_option maxRecDepth 100000 in
theorem s_X4_mote_lp {l : Launch} {E : QE} {T : Nat → Nat × Nat} {I : Nat → Nat → Int} {J : Nat → Nat → Int64} {n z : Nat} : ∀ (m i : Nat) (R : Nat → Nat → Option Nat) (x2 : Option Value), m + i = 5 → ScB T R n → Go l E Y_X4_moveOldestToEnd 0 0 2 [some (.ref (E.1 + 0)), some (.int (iz ((i + 1 : Nat) : Int))), x2] [] (T, I, J, R, n, z) (KN (T, u2 I 0 3 5, J, f_rot m i R, n, z)) := by
  intro m
  induction m with
  | zero =>
    intro i R x2 hm hk
    obtain ⟨a0, a1, a2, a3, a4, a5, a6, a7, a8, a9, a10, a11, a12, a13, a14, a15, a16⟩ := hk
    have b8 := a8.1
    have b9 := a9.1
    have b10 := a10.1
    have b11 := a11.1
    have b12 := a12.1
    refine g_iload1 (Y := Y_X4_moveOldestToEnd) (pc' := 3) dX4_moveOldestToEnd_2 rfl ?_
    refine g_aload0 (Y := Y_X4_moveOldestToEnd) (pc' := 4) dX4_moveOldestToEnd_3 rfl ?_
    refine g_getR (Y := Y_X4_moveOldestToEnd) (pc' := 7) dX4_moveOldestToEnd_4 rfl fl_X4_23 rfl (by assumption) (by omega) (by assumption) ?_
    refine g_alen (Y := Y_X4_moveOldestToEnd) (pc' := 8) dX4_moveOldestToEnd_7 rfl (by assumption) (by decide) (by omega) ?_
    refine g_icmp_ge (Y := Y_X4_moveOldestToEnd) (t := 47) (pc' := 11) dX4_moveOldestToEnd_8 (by decide) rfl ⟨by omega, by omega⟩ ⟨by omega, by omega⟩ (fun h8 => ?_) (fun h8 => ?_)
    · refine g_aload0 (Y := Y_X4_moveOldestToEnd) (pc' := 48) dX4_moveOldestToEnd_47 rfl ?_
      refine g_aload0 (Y := Y_X4_moveOldestToEnd) (pc' := 49) dX4_moveOldestToEnd_48 rfl ?_
      refine g_getR (Y := Y_X4_moveOldestToEnd) (pc' := 52) dX4_moveOldestToEnd_49 rfl fl_X4_23 rfl (by assumption) (by omega) (by assumption) ?_
      refine g_alen (Y := Y_X4_moveOldestToEnd) (pc' := 53) dX4_moveOldestToEnd_52 rfl (by assumption) (by decide) (by omega) ?_
      refine g_iconst (Y := Y_X4_moveOldestToEnd) (pc' := 54) dX4_moveOldestToEnd_53 rfl ?_
      refine g_isub (Y := Y_X4_moveOldestToEnd) (pc' := 55) dX4_moveOldestToEnd_54 rfl ?_
      refine g_putI (Y := Y_X4_moveOldestToEnd) (pc' := 58) dX4_moveOldestToEnd_55 rfl fp_X4_27 rfl (by assumption) (by omega) ?_
      exact g_vret (Y := Y_X4_moveOldestToEnd) dX4_moveOldestToEnd_58 rfl (Nat.zero_le _) (Nat.zero_le _) (⟨rfl, rfl⟩)
    · exfalso; omega
  | succ m ih =>
    intro i R x2 hm hk
    have hk0 := hk
    obtain ⟨a0, a1, a2, a3, a4, a5, a6, a7, a8, a9, a10, a11, a12, a13, a14, a15, a16⟩ := hk
    have b8 := a8.1
    have b9 := a9.1
    have b10 := a10.1
    have b11 := a11.1
    have b12 := a12.1
    obtain ⟨qa, hqa, ra⟩ := a14 i (by omega)
    obtain ⟨qb, hqb, rb⟩ := a14 (i + 1) (by omega)
    have ta := (a13 qa hqa).1
    have tb := (a13 qb hqb).1
    have e1 : ((i + 1 : Nat) : Int) - 1 = (i : Int) := by omega
    have eR : swp R i = u2 (u2 R 35 i (some (74 + 6 * qb))) 35 (i + 1) (some (74 + 6 * qa)) := by unfold swp; rw [ra, rb]
    have r02 : u2 R 35 i (some (74 + 6 * qb)) 0 2 = some 35 := by rw [u2_ne (by decide)]; exact a3
    refine g_iload1 (Y := Y_X4_moveOldestToEnd) (pc' := 3) dX4_moveOldestToEnd_2 rfl ?_
    refine g_aload0 (Y := Y_X4_moveOldestToEnd) (pc' := 4) dX4_moveOldestToEnd_3 rfl ?_
    refine g_getR (Y := Y_X4_moveOldestToEnd) (pc' := 7) dX4_moveOldestToEnd_4 rfl fl_X4_23 rfl (by assumption) (by omega) (by assumption) ?_
    refine g_alen (Y := Y_X4_moveOldestToEnd) (pc' := 8) dX4_moveOldestToEnd_7 rfl (by assumption) (by decide) (by omega) ?_
    refine g_icmp_ge (Y := Y_X4_moveOldestToEnd) (t := 47) (pc' := 11) dX4_moveOldestToEnd_8 (by decide) rfl ⟨by omega, by omega⟩ ⟨by omega, by omega⟩ (fun h8 => ?_) (fun h8 => ?_)
    · exfalso; omega
    · refine g_aload0 (Y := Y_X4_moveOldestToEnd) (pc' := 12) dX4_moveOldestToEnd_11 rfl ?_
      refine g_getR (Y := Y_X4_moveOldestToEnd) (pc' := 15) dX4_moveOldestToEnd_12 rfl fl_X4_23 rfl (by assumption) (by omega) (by assumption) ?_
      refine g_iload1 (Y := Y_X4_moveOldestToEnd) (pc' := 16) dX4_moveOldestToEnd_15 rfl ?_
      refine g_iconst (Y := Y_X4_moveOldestToEnd) (pc' := 17) dX4_moveOldestToEnd_16 rfl ?_
      refine g_isub (Y := Y_X4_moveOldestToEnd) (pc' := 18) dX4_moveOldestToEnd_17 rfl ?_
      rw [e1]
      refine g_aald (Y := Y_X4_moveOldestToEnd) (pc' := 19) dX4_moveOldestToEnd_18 rfl (by assumption) (by decide) (by omega) (by decide) ⟨by omega, by omega⟩ ra ?_
      refine g_astore2 (Y := Y_X4_moveOldestToEnd) (pc' := 20) dX4_moveOldestToEnd_19 rfl (Nat.le_of_ble_eq_true rfl) rfl ?_
      refine g_aload0 (Y := Y_X4_moveOldestToEnd) (pc' := 21) dX4_moveOldestToEnd_20 rfl ?_
      refine g_getR (Y := Y_X4_moveOldestToEnd) (pc' := 24) dX4_moveOldestToEnd_21 rfl fl_X4_23 rfl (by assumption) (by omega) (by assumption) ?_
      refine g_iload1 (Y := Y_X4_moveOldestToEnd) (pc' := 25) dX4_moveOldestToEnd_24 rfl ?_
      refine g_iconst (Y := Y_X4_moveOldestToEnd) (pc' := 26) dX4_moveOldestToEnd_25 rfl ?_
      refine g_isub (Y := Y_X4_moveOldestToEnd) (pc' := 27) dX4_moveOldestToEnd_26 rfl ?_
      rw [e1]
      refine g_aload0 (Y := Y_X4_moveOldestToEnd) (pc' := 28) dX4_moveOldestToEnd_27 rfl ?_
      refine g_getR (Y := Y_X4_moveOldestToEnd) (pc' := 31) dX4_moveOldestToEnd_28 rfl fl_X4_23 rfl (by assumption) (by omega) (by assumption) ?_
      refine g_iload1 (Y := Y_X4_moveOldestToEnd) (pc' := 32) dX4_moveOldestToEnd_31 rfl ?_
      refine g_aald (Y := Y_X4_moveOldestToEnd) (pc' := 33) dX4_moveOldestToEnd_32 rfl (by assumption) (by decide) (by omega) (by decide) ⟨by omega, by omega⟩ rb ?_
      refine g_aast (Y := Y_X4_moveOldestToEnd) (pc' := 34) dX4_moveOldestToEnd_33 rfl a7 (Or.inr ⟨rfl, rfl⟩) (by omega) (by decide) ⟨by omega, by omega⟩ tb (by have := (a13 qb hqb).2; omega) ?_
      refine g_aload0 (Y := Y_X4_moveOldestToEnd) (pc' := 35) dX4_moveOldestToEnd_34 rfl ?_
      refine g_getR (Y := Y_X4_moveOldestToEnd) (pc' := 38) dX4_moveOldestToEnd_35 rfl fl_X4_23 rfl (by assumption) (by omega) r02 ?_
      refine g_iload1 (Y := Y_X4_moveOldestToEnd) (pc' := 39) dX4_moveOldestToEnd_38 rfl ?_
      refine g_aload2 (Y := Y_X4_moveOldestToEnd) (pc' := 40) dX4_moveOldestToEnd_39 rfl ?_
      refine g_aast (Y := Y_X4_moveOldestToEnd) (pc' := 41) dX4_moveOldestToEnd_40 rfl a7 (Or.inr ⟨rfl, rfl⟩) (by omega) (by decide) ⟨by omega, by omega⟩ ta (by have := (a13 qa hqa).2; omega) ?_
      refine g_iinc1 (Y := Y_X4_moveOldestToEnd) (pc' := 44) dX4_moveOldestToEnd_41 rfl (Nat.le_of_ble_eq_true rfl) rfl ?_
      refine g_goto (Y := Y_X4_moveOldestToEnd) (t := 2) dX4_moveOldestToEnd_44 (by decide) ?_
      have e2 : f_rot (m + 1) i R = f_rot m (i + 1) (swp R i) := rfl
      rw [e2, eR]
      exact ih (i + 1) _ _ (by omega) (eR ▸ ScB_swp hk0 (by omega))
set_option maxHeartbeats 2000000 in
set_option maxRecDepth 100000 in
theorem s_X4_moveOldestToEnd {l : Launch} {E : QE} {T : Nat → Nat × Nat} {I : Nat → Nat → Int} {J : Nat → Nat → Int64} {R : Nat → Nat → Option Nat} {n z : Nat} (hk : ScB T R n)  : SpN l E Y_X4_moveOldestToEnd [.ref (E.1 + 0)] (T, I, J, R, n, z) (T, u2 I 0 3 5, J, f_rot 5 0 R, n, z) := by
  refine Sp.of [some (.ref (E.1 + 0)), none, none] (by decide +kernel) (Nat.le_of_ble_eq_true rfl) (fun _ h => h) ?_
  refine g_iconst (Y := Y_X4_moveOldestToEnd) (pc' := 1) dX4_moveOldestToEnd_0 rfl ?_
  refine g_istore1 (Y := Y_X4_moveOldestToEnd) (pc' := 2) dX4_moveOldestToEnd_1 rfl (Nat.le_of_ble_eq_true rfl) rfl ?_
  exact s_X4_mote_lp 5 0 R _ rfl hk
set_option maxHeartbeats 2000000 in
set_option maxRecDepth 100000 in
set_option maxHeartbeats 2000000 in
set_option maxRecDepth 100000 in
theorem s_X4_save16 {l : Launch} {E : QE} {T : Nat → Nat × Nat} {I : Nat → Nat → Int} {J : Nat → Nat → Int64} {R : Nat → Nat → Option Nat} {n : Nat} (hk : ScB T R n) (hv : XV I) (hs : I 0 3 < 6) : Go l E Y_X4_saveState 0 0 16 [some (.ref (E.1 + 0))] [] (T, I, J, R, n, 0) (KN (T, f_saveL I R, J, R, n, 0)) := by
  have hk0 := hk
  obtain ⟨a0, a1, a2, a3, a4, a5, a6, a7, a8, a9, a10, a11, a12, a13, a14, a15, a16⟩ := hk
  have b8 := a8.1
  have b9 := a9.1
  have b10 := a10.1
  have b11 := a11.1
  have b12 := a12.1
  obtain ⟨x1, x7, x46, x36, x40, x74, x3, xl, xl2⟩ := id hv
  obtain ⟨rj, i, hi, ej⟩ := f_sv_of hk0 (j := (I 0 3).toNat) (by omega)
  rw [ej] at rj
  have bi := a13 i hi
  unfold f_saveL
  rw [ej]
  refine g_aload0 (Y := Y_X4_saveState) (pc' := 17) dX4_saveState_16 rfl ?_
  refine g_getI (Y := Y_X4_saveState) (pc' := 20) dX4_saveState_17 rfl fl_X4_27 rfl (by assumption) (by omega) ?_
  refine g_if_lt (Y := Y_X4_saveState) (t := 73) (pc' := 23) dX4_saveState_20 (by decide) rfl ⟨by omega, by omega⟩ (fun h20 => ?_) (fun h20 => ?_)
  · exfalso; omega
  · refine g_aload0 (Y := Y_X4_saveState) (pc' := 24) dX4_saveState_23 rfl ?_
    refine g_getI (Y := Y_X4_saveState) (pc' := 27) dX4_saveState_24 rfl fl_X4_27 rfl (by assumption) (by omega) ?_
    refine g_aload0 (Y := Y_X4_saveState) (pc' := 28) dX4_saveState_27 rfl ?_
    refine g_getR (Y := Y_X4_saveState) (pc' := 31) dX4_saveState_28 rfl fl_X4_23 rfl (by assumption) (by omega) (by assumption) ?_
    refine g_alen (Y := Y_X4_saveState) (pc' := 32) dX4_saveState_31 rfl (by assumption) (by decide) (by omega) ?_
    refine g_icmp_ge (Y := Y_X4_saveState) (t := 73) (pc' := 35) dX4_saveState_32 (by decide) rfl ⟨by omega, by omega⟩ ⟨by omega, by omega⟩ (fun h32 => ?_) (fun h32 => ?_)
    · exfalso; omega
    · refine g_aload0 (Y := Y_X4_saveState) (pc' := 36) dX4_saveState_35 rfl ?_
      refine g_getR (Y := Y_X4_saveState) (pc' := 39) dX4_saveState_36 rfl fl_X4_23 rfl (by assumption) (by omega) (by assumption) ?_
      refine g_aload0 (Y := Y_X4_saveState) (pc' := 40) dX4_saveState_39 rfl ?_
      refine g_getI (Y := Y_X4_saveState) (pc' := 43) dX4_saveState_40 rfl fl_X4_27 rfl (by assumption) (by omega) ?_
      refine g_aald (Y := Y_X4_saveState) (pc' := 44) dX4_saveState_43 rfl (by assumption) (by decide) (by omega) (by decide) ⟨by omega, by omega⟩ rj ?_
      refine g_ifnull (Y := Y_X4_saveState) (pc' := 47) dX4_saveState_44 rfl ?_
      refine g_aload0 (Y := Y_X4_saveState) (pc' := 48) dX4_saveState_47 rfl ?_
      refine g_getR (Y := Y_X4_saveState) (pc' := 51) dX4_saveState_48 rfl fl_X4_23 rfl (by assumption) (by omega) (by assumption) ?_
      refine g_aload0 (Y := Y_X4_saveState) (pc' := 52) dX4_saveState_51 rfl ?_
      refine g_getI (Y := Y_X4_saveState) (pc' := 55) dX4_saveState_52 rfl fl_X4_27 rfl (by assumption) (by omega) ?_
      refine g_aald (Y := Y_X4_saveState) (pc' := 56) dX4_saveState_55 rfl (by assumption) (by decide) (by omega) (by decide) ⟨by omega, by omega⟩ rj ?_
      refine g_aload0 (Y := Y_X4_saveState) (pc' := 57) dX4_saveState_56 rfl ?_
      refine g_getR (Y := Y_X4_saveState) (pc' := 60) dX4_saveState_57 rfl fl_X4_10 rfl (by assumption) (by omega) (by assumption) ?_
      refine g_callVn (Y := Y_X4_saveState) (c := 3) (s_X3_copyFrom bi a8) (pc' := 63) dX4_saveState_60 rfl cv_X4_183 rfl bi.1 (by have := bi.2.2.2.2.2.2.2.2.2.2.2; show 74 + 6 * i < n; omega) ⟨by decide, _, rfl, rfl⟩ rfl rfl rfl rfl ?_
      refine g_aload0 (Y := Y_X4_saveState) (pc' := 64) dX4_saveState_63 rfl ?_
      refine g_dup (Y := Y_X4_saveState) (pc' := 65) dX4_saveState_64 rfl rfl ?_
      refine g_getI (Y := Y_X4_saveState) (pc' := 68) dX4_saveState_65 rfl fl_X4_27 rfl (by assumption) (by omega) ?_
      refine g_iconst (Y := Y_X4_saveState) (pc' := 69) dX4_saveState_68 rfl ?_
      refine g_iadd (Y := Y_X4_saveState) (pc' := 70) dX4_saveState_69 rfl ?_
      refine g_putI (Y := Y_X4_saveState) (pc' := 73) dX4_saveState_70 rfl fp_X4_27 rfl (by assumption) (by omega) ?_
      exact g_vret (Y := Y_X4_saveState) dX4_saveState_73 rfl (Nat.zero_le _) (Nat.zero_le _) (⟨rfl, by rw [f_copy_ne (by omega)]⟩)
set_option maxHeartbeats 2000000 in
set_option maxRecDepth 100000 in
theorem s_X4_saveState {l : Launch} {E : QE} {T : Nat → Nat × Nat} {I : Nat → Nat → Int} {J : Nat → Nat → Int64} {R : Nat → Nat → Option Nat} {n : Nat} (hk : ScB T R n) (hv : XV I)  : SpN l E Y_X4_saveState [.ref (E.1 + 0)] (T, I, J, R, n, 0) (T, f_save I R, J, f_saveR I R, n, 0) := by
  have hk0 := hk
  obtain ⟨a0, a1, a2, a3, a4, a5, a6, a7, a8, a9, a10, a11, a12, a13, a14, a15, a16⟩ := hk
  have b8 := a8.1
  have b9 := a9.1
  have b10 := a10.1
  have b11 := a11.1
  have b12 := a12.1
  obtain ⟨x1, x7, x46, x36, x40, x74, x3, xl, xl2⟩ := id hv
  refine Sp.of [some (.ref (E.1 + 0))] (by decide +kernel) (Nat.le_of_ble_eq_true rfl) (fun _ h => h) ?_
  refine g_aload0 (Y := Y_X4_saveState) (pc' := 1) dX4_saveState_0 rfl ?_
  refine g_getI (Y := Y_X4_saveState) (pc' := 4) dX4_saveState_1 rfl fl_X4_27 rfl (by assumption) (by omega) ?_
  refine g_aload0 (Y := Y_X4_saveState) (pc' := 5) dX4_saveState_4 rfl ?_
  refine g_getR (Y := Y_X4_saveState) (pc' := 8) dX4_saveState_5 rfl fl_X4_23 rfl (by assumption) (by omega) (by assumption) ?_
  refine g_alen (Y := Y_X4_saveState) (pc' := 9) dX4_saveState_8 rfl (by assumption) (by decide) (by omega) ?_
  refine g_icmp_lt (Y := Y_X4_saveState) (t := 16) (pc' := 12) dX4_saveState_9 (by decide) rfl ⟨by omega, by omega⟩ ⟨by omega, by omega⟩ (fun h9 => ?_) (fun h9 => ?_)
  · have eI : f_saveI I = I := if_pos (by omega)
    have eR : f_saveR I R = R := if_pos (by omega)
    unfold f_save
    rw [eI, eR]
    exact s_X4_save16 hk0 hv (by omega)
  · have eI : f_saveI I = u2 I 0 3 5 := if_neg (by omega)
    have eR : f_saveR I R = f_rot 5 0 R := if_neg (by omega)
    unfold f_save
    rw [eI, eR]
    refine g_aload0 (Y := Y_X4_saveState) (pc' := 13) dX4_saveState_12 rfl ?_
    refine g_callVn (Y := Y_X4_saveState) (c := 4) (s_X4_moveOldestToEnd hk0) (pc' := 16) dX4_saveState_13 rfl cv_X4_282 rfl (by assumption) (by show _ < n; omega) ⟨by decide, _, rfl, rfl⟩ rfl rfl rfl rfl ?_
    exact s_X4_save16 (ScB_rot 5 0 R (by decide) hk0) (XV_0 hv (by decide)) (by rw [u2_at]; decide)
/-- the bits of a share: twice it as long as it is below 1 -/
def cz (a b : UInt64) (op : CmpOp) : Int := (Op.cmpValue (FP.dcmp a b) op).toInt
theorem cz_eq (a b : UInt64) (op : CmpOp) : Op.cmpValue (FP.dcmp a b) op = iz (cz a b op) := by
  unfold cz iz
  rw [Int32.ofInt_toInt]
theorem cz_rg (a b : UInt64) (op : CmpOp) : -2147483648 ≤ cz a b op ∧ cz a b op < 2147483648 := by
  unfold cz
  rcases FP.dcmp a b with _ | _ | _ | _ <;> cases op <;> decide
def n64b (r : UInt64) : Bool := decide (r &&& 0x7fffffffffffffff ≤ 0x7ff0000000000000)
theorem n64_of {r : UInt64} (h : n64b r = true) : vf_n64 r := by
  show r &&& 0x7fffffffffffffff ≤ 0x7ff0000000000000
  exact of_decide_eq_true h
def d2 : UInt64 := 4611686018427387904
def d52 : UInt64 := 4841369599423283200
def d576 : UInt64 := 4648277765399773184
def f_shr (g : Int) : UInt64 := FP.ddiv (FP.i2d (iz g)) d576
def bsL : Nat → UInt64 → Int64 → UInt64 × Int64
  | 0, s, x => (s, x)
  | m + 1, s, x => if 0 ≤ cz s FP.dconst1 .g then (s, x) else bsL m (FP.dmul s d2) (x - 1)
def bsOk : Nat → UInt64 → Bool
  | 0, _ => false
  | m + 1, s => if 0 ≤ cz s FP.dconst1 .g then n64b (FP.dsub s FP.dconst1) && n64b (FP.dmul (FP.dsub s FP.dconst1) d52) else n64b (FP.dmul s d2) && bsOk m (FP.dmul s d2)
def f_bits (s : UInt64) : Int64 := if cz s FP.dconst0 .g ≤ 0 then 0 else (bsL 12 s 1023).2 <<< ((iz 52).toInt64 &&& 63) ||| FP.d2l (FP.dmul (FP.dsub (bsL 12 s 1023).1 FP.dconst1) d52)
def shOk (s : UInt64) : Bool := n64b s && (decide (cz s FP.dconst0 .g ≤ 0) || bsOk 12 s)
set_option maxRecDepth 100000 in
theorem shOk_all : ∀ j : Nat, j < 600 → shOk (f_shr ((j : Int) - 20)) = true := by decide +kernel
theorem shOk_g (g : Int) (h : -20 ≤ g ∧ g < 580) : shOk (f_shr g) = true := by
  have q := shOk_all (g + 20).toNat (by omega)
  have e : (((g + 20).toNat : Nat) : Int) - 20 = g := by omega
  rwa [e] at q
