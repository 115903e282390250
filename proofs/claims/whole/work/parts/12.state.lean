/-! the methods of State -/
set_option maxHeartbeats 2000000 in
set_option maxRecDepth 100000 in
theorem s_X3_placeOf {l : Launch} {E : QE} {T : Nat → Nat × Nat} {I : Nat → Nat → Int} {J : Nat → Nat → Int64} {R : Nat → Nat → Option Nat} {n z : Nat} {k : Nat} (hk : StB T R n k) (b : Int) (hb : -2147483648 ≤ b ∧ b < 2147483648) : SpV l E Y_X3_placeOf [.ref (E.1 + k), .int (iz b)] (T, I, J, R, n, z) (.int (iz (if 0 ≤ b ∧ b < 480 then I (k + 4) b.toNat else -1))) (T, I, J, R, n, z) := by
  obtain ⟨t0, t1, t2, t3, t4, t5, r0, r1, r2, r3, r4, hn⟩ := hk
  refine Sp.of [some (.ref (E.1 + k)), some (.int (iz b))] (by decide +kernel) (Nat.le_of_ble_eq_true rfl) (fun _ h => h) ?_
  refine g_iload1 (Y := Y_X3_placeOf) (pc' := 1) dX3_placeOf_0 rfl ?_
  refine g_callSNv (Y := Y_X3_placeOf) (s_X4_isBlock _ ⟨by omega, by omega⟩) (pc' := 4) dX3_placeOf_1 rfl cv_X3_46 rfl rfl rfl rfl rfl ?_
  refine g_if_eq (Y := Y_X3_placeOf) (t := 16) (pc' := 7) dX3_placeOf_4 (by decide) rfl ⟨by omega, by omega⟩ (fun h4 => ?_) (fun h4 => ?_)
  · refine g_iconst (Y := Y_X3_placeOf) (pc' := 17) dX3_placeOf_16 rfl ?_
    exact g_iret (Y := Y_X3_placeOf) dX3_placeOf_17 rfl (Nat.zero_le _) (Nat.zero_le _) (⟨vi (by first | omega | (split <;> omega) | rfl), rfl⟩)
  · refine g_aload0 (Y := Y_X3_placeOf) (pc' := 8) dX3_placeOf_7 rfl ?_
    refine g_getR (Y := Y_X3_placeOf) (pc' := 11) dX3_placeOf_8 rfl fl_X3_21 rfl (by assumption) (by omega) (by assumption) ?_
    refine g_iload1 (Y := Y_X3_placeOf) (pc' := 12) dX3_placeOf_11 rfl ?_
    refine g_iald (Y := Y_X3_placeOf) (pc' := 13) dX3_placeOf_12 rfl (by assumption) (by omega) (by decide) ⟨by omega, by omega⟩ ?_
    refine g_goto (Y := Y_X3_placeOf) (t := 17) dX3_placeOf_13 (by decide) ?_
    exact g_iret (Y := Y_X3_placeOf) dX3_placeOf_17 rfl (Nat.zero_le _) (Nat.zero_le _) (⟨vi (by first | omega | (split <;> omega) | rfl), rfl⟩)
set_option maxHeartbeats 2000000 in
set_option maxRecDepth 100000 in
theorem s_X3_holderOf {l : Launch} {E : QE} {T : Nat → Nat × Nat} {I : Nat → Nat → Int} {J : Nat → Nat → Int64} {R : Nat → Nat → Option Nat} {n z : Nat} {k : Nat} (hk : StB T R n k) (b : Int) (hb : -2147483648 ≤ b ∧ b < 2147483648) : SpV l E Y_X3_holderOf [.ref (E.1 + k), .int (iz b)] (T, I, J, R, n, z) (.int (iz (if 0 ≤ b ∧ b < 576 then I (k + 5) b.toNat else -1))) (T, I, J, R, n, z) := by
  obtain ⟨t0, t1, t2, t3, t4, t5, r0, r1, r2, r3, r4, hn⟩ := hk
  refine Sp.of [some (.ref (E.1 + k)), some (.int (iz b))] (by decide +kernel) (Nat.le_of_ble_eq_true rfl) (fun _ h => h) ?_
  refine g_iload1 (Y := Y_X3_holderOf) (pc' := 1) dX3_holderOf_0 rfl ?_
  refine g_callSNv (Y := Y_X3_holderOf) (s_X4_isCell _ ⟨by omega, by omega⟩) (pc' := 4) dX3_holderOf_1 rfl cv_X3_50 rfl rfl rfl rfl rfl ?_
  refine g_if_eq (Y := Y_X3_holderOf) (t := 16) (pc' := 7) dX3_holderOf_4 (by decide) rfl ⟨by omega, by omega⟩ (fun h4 => ?_) (fun h4 => ?_)
  · refine g_iconst (Y := Y_X3_holderOf) (pc' := 17) dX3_holderOf_16 rfl ?_
    exact g_iret (Y := Y_X3_holderOf) dX3_holderOf_17 rfl (Nat.zero_le _) (Nat.zero_le _) (⟨vi (by first | omega | (split <;> omega) | rfl), rfl⟩)
  · refine g_aload0 (Y := Y_X3_holderOf) (pc' := 8) dX3_holderOf_7 rfl ?_
    refine g_getR (Y := Y_X3_holderOf) (pc' := 11) dX3_holderOf_8 rfl fl_X3_24 rfl (by assumption) (by omega) (by assumption) ?_
    refine g_iload1 (Y := Y_X3_holderOf) (pc' := 12) dX3_holderOf_11 rfl ?_
    refine g_iald (Y := Y_X3_holderOf) (pc' := 13) dX3_holderOf_12 rfl (by assumption) (by omega) (by decide) ⟨by omega, by omega⟩ ?_
    refine g_goto (Y := Y_X3_holderOf) (t := 17) dX3_holderOf_13 (by decide) ?_
    exact g_iret (Y := Y_X3_holderOf) dX3_holderOf_17 rfl (Nat.zero_le _) (Nat.zero_le _) (⟨vi (by first | omega | (split <;> omega) | rfl), rfl⟩)
set_option maxHeartbeats 2000000 in
set_option maxRecDepth 100000 in
theorem s_X3_settingOf {l : Launch} {E : QE} {T : Nat → Nat × Nat} {I : Nat → Nat → Int} {J : Nat → Nat → Int64} {R : Nat → Nat → Option Nat} {n z : Nat} {k : Nat} (hk : StB T R n k) (b : Int) (hb : -2147483648 ≤ b ∧ b < 2147483648) : SpV l E Y_X3_settingOf [.ref (E.1 + k), .int (iz b)] (T, I, J, R, n, z) (.int (iz (if 0 ≤ b ∧ b < 3 then I (k + 2) b.toNat else -1))) (T, I, J, R, n, z) := by
  obtain ⟨t0, t1, t2, t3, t4, t5, r0, r1, r2, r3, r4, hn⟩ := hk
  refine Sp.of [some (.ref (E.1 + k)), some (.int (iz b))] (by decide +kernel) (Nat.le_of_ble_eq_true rfl) (fun _ h => h) ?_
  refine g_iload1 (Y := Y_X3_settingOf) (pc' := 1) dX3_settingOf_0 rfl ?_
  refine g_callSNv (Y := Y_X3_settingOf) (s_X4_isSetting _ ⟨by omega, by omega⟩) (pc' := 4) dX3_settingOf_1 rfl cv_X3_53 rfl rfl rfl rfl rfl ?_
  refine g_if_eq (Y := Y_X3_settingOf) (t := 16) (pc' := 7) dX3_settingOf_4 (by decide) rfl ⟨by omega, by omega⟩ (fun h4 => ?_) (fun h4 => ?_)
  · refine g_iconst (Y := Y_X3_settingOf) (pc' := 17) dX3_settingOf_16 rfl ?_
    exact g_iret (Y := Y_X3_settingOf) dX3_settingOf_17 rfl (Nat.zero_le _) (Nat.zero_le _) (⟨vi (by first | omega | (split <;> omega) | rfl), rfl⟩)
  · refine g_aload0 (Y := Y_X3_settingOf) (pc' := 8) dX3_settingOf_7 rfl ?_
    refine g_getR (Y := Y_X3_settingOf) (pc' := 11) dX3_settingOf_8 rfl fl_X3_15 rfl (by assumption) (by omega) (by assumption) ?_
    refine g_iload1 (Y := Y_X3_settingOf) (pc' := 12) dX3_settingOf_11 rfl ?_
    refine g_iald (Y := Y_X3_settingOf) (pc' := 13) dX3_settingOf_12 rfl (by assumption) (by omega) (by decide) ⟨by omega, by omega⟩ ?_
    refine g_goto (Y := Y_X3_settingOf) (t := 17) dX3_settingOf_13 (by decide) ?_
    exact g_iret (Y := Y_X3_settingOf) dX3_settingOf_17 rfl (Nat.zero_le _) (Nat.zero_le _) (⟨vi (by first | omega | (split <;> omega) | rfl), rfl⟩)
def f_changeSetting (I : Nat → Nat → Int) (k : Nat) (s v : Int) : Nat → Nat → Int := if 0 ≤ s ∧ s < 3 then u2 I (k + 2) s.toNat v else I
def f_leave (I : Nat → Nat → Int) (k : Nat) (p : Int) : Nat → Nat → Int := u2 (u2 I (k + 5) p.toNat (-1)) k 7 ((u2 I (k + 5) p.toNat (-1)) k 7 + 1)
def f_lay (I : Nat → Nat → Int) (k : Nat) (b c v : Int) : Nat → Nat → Int := u2 (u2 (u2 I (k + 5) c.toNat b) (k + 4) b.toNat c) (k + 3) b.toNat v
def f_place (I : Nat → Nat → Int) (k : Nat) (b c v : Int) : Nat → Nat → Int :=
  if (0 ≤ b ∧ b < 480) ∧ 0 ≤ c ∧ c < 576 then
    (if (0 ≤ I (k + 4) b.toNat ∧ I (k + 4) b.toNat < 576) ∧ I (k + 4) b.toNat ≠ c then f_lay (f_leave I k (I (k + 4) b.toNat)) k b c v else f_lay I k b c v)
  else I
def f_forget (I : Nat → Nat → Int) (k : Nat) (b : Int) : Nat → Nat → Int :=
  if (0 ≤ b ∧ b < 480) ∧ 0 ≤ I (k + 4) b.toNat ∧ I (k + 4) b.toNat < 576 then u2 (u2 (u2 I (k + 5) (I (k + 4) b.toNat).toNat (-1)) (k + 4) b.toNat (-1)) (k + 3) b.toNat (-1) else I
/-- the first place i, i + 1 .. of m places where f is x; -1 if there is none -/
def fnd (f : Nat → Int) (x : Int) : Nat → Nat → Int
  | 0, _ => -1
  | m + 1, i => if f i = x then (i : Int) else fnd f x m (i + 1)
theorem fnd_rg (f : Nat → Int) (x : Int) : ∀ m i : Nat, -1 ≤ fnd f x m i ∧ fnd f x m i < i + m ∨ fnd f x m i = -1
  | 0, _ => Or.inr rfl
  | m + 1, i => by
    unfold fnd
    by_cases h : f i = x
    · rw [if_pos h]; left; omega
    · rw [if_neg h]
      rcases fnd_rg f x m (i + 1) with h1 | h1
      · left; omega
      · right; exact h1
def f_spotAt (I : Nat → Nat → Int) (k : Nat) (x : Int) : Int := fnd (I (k + 1)) x (I k 5).toNat 0
def f_canAdd (I : Nat → Nat → Int) (k : Nat) (x : Int) : Prop := (0 ≤ x ∧ x < 576) ∧ I k 5 < 12 ∧ f_spotAt I k x = -1
set_option maxHeartbeats 2000000 in
set_option maxRecDepth 100000 in
theorem s_X3_changeSetting {l : Launch} {E : QE} {T : Nat → Nat × Nat} {I : Nat → Nat → Int} {J : Nat → Nat → Int64} {R : Nat → Nat → Option Nat} {n z : Nat} {k : Nat} (hk : StB T R n k) (s v : Int) (hs : -2147483648 ≤ s ∧ s < 2147483648) : SpN l E Y_X3_changeSetting [.ref (E.1 + k), .int (iz s), .int (iz v)] (T, I, J, R, n, z) (T, f_changeSetting I k s v, J, R, n, z) := by
  obtain ⟨t0, t1, t2, t3, t4, t5, r0, r1, r2, r3, r4, hn⟩ := hk
  unfold f_changeSetting
  refine Sp.of [some (.ref (E.1 + k)), some (.int (iz s)), some (.int (iz v))] (by decide +kernel) (Nat.le_of_ble_eq_true rfl) (fun _ h => h) ?_
  refine g_iload1 (Y := Y_X3_changeSetting) (pc' := 1) dX3_changeSetting_0 rfl ?_
  refine g_callSNv (Y := Y_X3_changeSetting) (s_X4_isSetting _ ⟨by omega, by omega⟩) (pc' := 4) dX3_changeSetting_1 rfl cv_X3_53 rfl rfl rfl rfl rfl ?_
  refine g_if_eq (Y := Y_X3_changeSetting) (t := 14) (pc' := 7) dX3_changeSetting_4 (by decide) rfl ⟨by omega, by omega⟩ (fun h4 => ?_) (fun h4 => ?_)
  · exact g_vret (Y := Y_X3_changeSetting) dX3_changeSetting_14 rfl (Nat.zero_le _) (Nat.zero_le _) (⟨rfl, by first | (rw [if_neg (by omega)]; done) | (rw [if_neg (by omega)]; rfl) | (rw [if_pos (by omega)]; done) | (rw [if_pos (by omega)]; rfl) | (rw [if_pos (by omega), if_neg (by omega)]; done) | (rw [if_pos (by omega), if_neg (by omega)]; rfl) | (rw [if_pos (by omega), if_pos (by omega)]; done) | (rw [if_pos (by omega), if_pos (by omega)]; rfl) | rfl⟩)
  · refine g_aload0 (Y := Y_X3_changeSetting) (pc' := 8) dX3_changeSetting_7 rfl ?_
    refine g_getR (Y := Y_X3_changeSetting) (pc' := 11) dX3_changeSetting_8 rfl fl_X3_15 rfl (by assumption) (by omega) (by assumption) ?_
    refine g_iload1 (Y := Y_X3_changeSetting) (pc' := 12) dX3_changeSetting_11 rfl ?_
    refine g_iload2 (Y := Y_X3_changeSetting) (pc' := 13) dX3_changeSetting_12 rfl ?_
    refine g_iast (Y := Y_X3_changeSetting) (pc' := 14) dX3_changeSetting_13 rfl (by assumption) (by omega) (by decide) ⟨by omega, by omega⟩ ?_
    exact g_vret (Y := Y_X3_changeSetting) dX3_changeSetting_14 rfl (Nat.zero_le _) (Nat.zero_le _) (⟨rfl, by first | (rw [if_neg (by omega)]; done) | (rw [if_neg (by omega)]; rfl) | (rw [if_pos (by omega)]; done) | (rw [if_pos (by omega)]; rfl) | (rw [if_pos (by omega), if_neg (by omega)]; done) | (rw [if_pos (by omega), if_neg (by omega)]; rfl) | (rw [if_pos (by omega), if_pos (by omega)]; done) | (rw [if_pos (by omega), if_pos (by omega)]; rfl) | rfl⟩)
set_option maxHeartbeats 2000000 in
set_option maxRecDepth 100000 in
theorem s_X3_place {l : Launch} {E : QE} {T : Nat → Nat × Nat} {I : Nat → Nat → Int} {J : Nat → Nat → Int64} {R : Nat → Nat → Option Nat} {n z : Nat} {k : Nat} (hk : StB T R n k) (b c v : Int) (hb : -2147483648 ≤ b ∧ b < 2147483648) (hc : -2147483648 ≤ c ∧ c < 2147483648) (hp : (∀ j : Nat, -2147483648 ≤ I (k + 4) j ∧ I (k + 4) j < 2147483648)) : SpN l E Y_X3_place [.ref (E.1 + k), .int (iz b), .int (iz c), .int (iz v)] (T, I, J, R, n, z) (T, f_place I k b c v, J, R, n, z) := by
  obtain ⟨t0, t1, t2, t3, t4, t5, r0, r1, r2, r3, r4, hn⟩ := hk
  have hp1 := hp b.toNat
  unfold f_place
  refine Sp.of [some (.ref (E.1 + k)), some (.int (iz b)), some (.int (iz c)), some (.int (iz v)), none] (by decide +kernel) (Nat.le_of_ble_eq_true rfl) (fun _ h => h) ?_
  refine g_iload1 (Y := Y_X3_place) (pc' := 1) dX3_place_0 rfl ?_
  refine g_callSNv (Y := Y_X3_place) (s_X4_isBlock _ ⟨by omega, by omega⟩) (pc' := 4) dX3_place_1 rfl cv_X3_46 rfl rfl rfl rfl rfl ?_
  refine g_if_eq (Y := Y_X3_place) (t := 14) (pc' := 7) dX3_place_4 (by decide) rfl ⟨by omega, by omega⟩ (fun h4 => ?_) (fun h4 => ?_)
  · exact g_vret (Y := Y_X3_place) dX3_place_14 rfl (Nat.zero_le _) (Nat.zero_le _) (⟨rfl, by first | (rw [if_neg (by omega)]; done) | (rw [if_neg (by omega)]; rfl) | (rw [if_pos (by omega)]; done) | (rw [if_pos (by omega)]; rfl) | (rw [if_pos (by omega), if_neg (by omega)]; done) | (rw [if_pos (by omega), if_neg (by omega)]; rfl) | (rw [if_pos (by omega), if_pos (by omega)]; done) | (rw [if_pos (by omega), if_pos (by omega)]; rfl) | rfl⟩)
  · refine g_iload2 (Y := Y_X3_place) (pc' := 8) dX3_place_7 rfl ?_
    refine g_callSNv (Y := Y_X3_place) (s_X4_isCell _ ⟨by omega, by omega⟩) (pc' := 11) dX3_place_8 rfl cv_X3_50 rfl rfl rfl rfl rfl ?_
    refine g_if_ne (Y := Y_X3_place) (t := 15) (pc' := 14) dX3_place_11 (by decide) rfl ⟨by omega, by omega⟩ (fun h11 => ?_) (fun h11 => ?_)
    · refine g_aload0 (Y := Y_X3_place) (pc' := 16) dX3_place_15 rfl ?_
      refine g_getR (Y := Y_X3_place) (pc' := 19) dX3_place_16 rfl fl_X3_21 rfl (by assumption) (by omega) (by assumption) ?_
      refine g_iload1 (Y := Y_X3_place) (pc' := 20) dX3_place_19 rfl ?_
      refine g_iald (Y := Y_X3_place) (pc' := 21) dX3_place_20 rfl (by assumption) (by omega) (by decide) ⟨by omega, by omega⟩ ?_
      refine g_istore4 (Y := Y_X3_place) (pc' := 23) dX3_place_21 rfl (Nat.le_of_ble_eq_true rfl) rfl ?_
      refine g_iload4 (Y := Y_X3_place) (pc' := 25) dX3_place_23 rfl ?_
      refine g_callSNv (Y := Y_X3_place) (s_X4_isCell _ (hp _)) (pc' := 28) dX3_place_25 rfl cv_X3_50 rfl rfl rfl rfl rfl ?_
      refine g_if_eq (Y := Y_X3_place) (t := 55) (pc' := 31) dX3_place_28 (by decide) rfl ⟨by omega, by omega⟩ (fun h28 => ?_) (fun h28 => ?_)
      · refine g_aload0 (Y := Y_X3_place) (pc' := 56) dX3_place_55 rfl ?_
        refine g_getR (Y := Y_X3_place) (pc' := 59) dX3_place_56 rfl fl_X3_24 rfl (by assumption) (by omega) (by assumption) ?_
        refine g_iload2 (Y := Y_X3_place) (pc' := 60) dX3_place_59 rfl ?_
        refine g_iload1 (Y := Y_X3_place) (pc' := 61) dX3_place_60 rfl ?_
        refine g_iast (Y := Y_X3_place) (pc' := 62) dX3_place_61 rfl (by assumption) (by omega) (by decide) ⟨by omega, by omega⟩ ?_
        refine g_aload0 (Y := Y_X3_place) (pc' := 63) dX3_place_62 rfl ?_
        refine g_getR (Y := Y_X3_place) (pc' := 66) dX3_place_63 rfl fl_X3_21 rfl (by assumption) (by omega) (by assumption) ?_
        refine g_iload1 (Y := Y_X3_place) (pc' := 67) dX3_place_66 rfl ?_
        refine g_iload2 (Y := Y_X3_place) (pc' := 68) dX3_place_67 rfl ?_
        refine g_iast (Y := Y_X3_place) (pc' := 69) dX3_place_68 rfl (by assumption) (by omega) (by decide) ⟨by omega, by omega⟩ ?_
        refine g_aload0 (Y := Y_X3_place) (pc' := 70) dX3_place_69 rfl ?_
        refine g_getR (Y := Y_X3_place) (pc' := 73) dX3_place_70 rfl fl_X3_18 rfl (by assumption) (by omega) (by assumption) ?_
        refine g_iload1 (Y := Y_X3_place) (pc' := 74) dX3_place_73 rfl ?_
        refine g_iload3 (Y := Y_X3_place) (pc' := 75) dX3_place_74 rfl ?_
        refine g_iast (Y := Y_X3_place) (pc' := 76) dX3_place_75 rfl (by assumption) (by omega) (by decide) ⟨by omega, by omega⟩ ?_
        exact g_vret (Y := Y_X3_place) dX3_place_76 rfl (Nat.zero_le _) (Nat.zero_le _) (⟨rfl, by first | (rw [if_neg (by omega)]; done) | (rw [if_neg (by omega)]; rfl) | (rw [if_pos (by omega)]; done) | (rw [if_pos (by omega)]; rfl) | (rw [if_pos (by omega), if_neg (by omega)]; done) | (rw [if_pos (by omega), if_neg (by omega)]; rfl) | (rw [if_pos (by omega), if_pos (by omega)]; done) | (rw [if_pos (by omega), if_pos (by omega)]; rfl) | rfl⟩)
      · refine g_iload4 (Y := Y_X3_place) (pc' := 33) dX3_place_31 rfl ?_
        refine g_iload2 (Y := Y_X3_place) (pc' := 34) dX3_place_33 rfl ?_
        refine g_icmp_eq (Y := Y_X3_place) (t := 55) (pc' := 37) dX3_place_34 (by decide) rfl ⟨by omega, by omega⟩ ⟨by omega, by omega⟩ (fun h34 => ?_) (fun h34 => ?_)
        · refine g_aload0 (Y := Y_X3_place) (pc' := 56) dX3_place_55 rfl ?_
          refine g_getR (Y := Y_X3_place) (pc' := 59) dX3_place_56 rfl fl_X3_24 rfl (by assumption) (by omega) (by assumption) ?_
          refine g_iload2 (Y := Y_X3_place) (pc' := 60) dX3_place_59 rfl ?_
          refine g_iload1 (Y := Y_X3_place) (pc' := 61) dX3_place_60 rfl ?_
          refine g_iast (Y := Y_X3_place) (pc' := 62) dX3_place_61 rfl (by assumption) (by omega) (by decide) ⟨by omega, by omega⟩ ?_
          refine g_aload0 (Y := Y_X3_place) (pc' := 63) dX3_place_62 rfl ?_
          refine g_getR (Y := Y_X3_place) (pc' := 66) dX3_place_63 rfl fl_X3_21 rfl (by assumption) (by omega) (by assumption) ?_
          refine g_iload1 (Y := Y_X3_place) (pc' := 67) dX3_place_66 rfl ?_
          refine g_iload2 (Y := Y_X3_place) (pc' := 68) dX3_place_67 rfl ?_
          refine g_iast (Y := Y_X3_place) (pc' := 69) dX3_place_68 rfl (by assumption) (by omega) (by decide) ⟨by omega, by omega⟩ ?_
          refine g_aload0 (Y := Y_X3_place) (pc' := 70) dX3_place_69 rfl ?_
          refine g_getR (Y := Y_X3_place) (pc' := 73) dX3_place_70 rfl fl_X3_18 rfl (by assumption) (by omega) (by assumption) ?_
          refine g_iload1 (Y := Y_X3_place) (pc' := 74) dX3_place_73 rfl ?_
          refine g_iload3 (Y := Y_X3_place) (pc' := 75) dX3_place_74 rfl ?_
          refine g_iast (Y := Y_X3_place) (pc' := 76) dX3_place_75 rfl (by assumption) (by omega) (by decide) ⟨by omega, by omega⟩ ?_
          exact g_vret (Y := Y_X3_place) dX3_place_76 rfl (Nat.zero_le _) (Nat.zero_le _) (⟨rfl, by first | (rw [if_neg (by omega)]; done) | (rw [if_neg (by omega)]; rfl) | (rw [if_pos (by omega)]; done) | (rw [if_pos (by omega)]; rfl) | (rw [if_pos (by omega), if_neg (by omega)]; done) | (rw [if_pos (by omega), if_neg (by omega)]; rfl) | (rw [if_pos (by omega), if_pos (by omega)]; done) | (rw [if_pos (by omega), if_pos (by omega)]; rfl) | rfl⟩)
        · refine g_aload0 (Y := Y_X3_place) (pc' := 38) dX3_place_37 rfl ?_
          refine g_getR (Y := Y_X3_place) (pc' := 41) dX3_place_38 rfl fl_X3_24 rfl (by assumption) (by omega) (by assumption) ?_
          refine g_iload4 (Y := Y_X3_place) (pc' := 43) dX3_place_41 rfl ?_
          refine g_iconst (Y := Y_X3_place) (pc' := 44) dX3_place_43 rfl ?_
          refine g_iast (Y := Y_X3_place) (pc' := 45) dX3_place_44 rfl (by assumption) (by omega) (by decide) ⟨by omega, by omega⟩ ?_
          refine g_aload0 (Y := Y_X3_place) (pc' := 46) dX3_place_45 rfl ?_
          refine g_dup (Y := Y_X3_place) (pc' := 47) dX3_place_46 rfl rfl ?_
          refine g_getI (Y := Y_X3_place) (pc' := 50) dX3_place_47 rfl fl_X3_34 rfl (by assumption) (by omega) ?_
          refine g_iconst (Y := Y_X3_place) (pc' := 51) dX3_place_50 rfl ?_
          refine g_iadd (Y := Y_X3_place) (pc' := 52) dX3_place_51 rfl ?_
          refine g_putI (Y := Y_X3_place) (pc' := 55) dX3_place_52 rfl fp_X3_34 rfl (by assumption) (by omega) ?_
          refine g_aload0 (Y := Y_X3_place) (pc' := 56) dX3_place_55 rfl ?_
          refine g_getR (Y := Y_X3_place) (pc' := 59) dX3_place_56 rfl fl_X3_24 rfl (by assumption) (by omega) (by assumption) ?_
          refine g_iload2 (Y := Y_X3_place) (pc' := 60) dX3_place_59 rfl ?_
          refine g_iload1 (Y := Y_X3_place) (pc' := 61) dX3_place_60 rfl ?_
          refine g_iast (Y := Y_X3_place) (pc' := 62) dX3_place_61 rfl (by assumption) (by omega) (by decide) ⟨by omega, by omega⟩ ?_
          refine g_aload0 (Y := Y_X3_place) (pc' := 63) dX3_place_62 rfl ?_
          refine g_getR (Y := Y_X3_place) (pc' := 66) dX3_place_63 rfl fl_X3_21 rfl (by assumption) (by omega) (by assumption) ?_
          refine g_iload1 (Y := Y_X3_place) (pc' := 67) dX3_place_66 rfl ?_
          refine g_iload2 (Y := Y_X3_place) (pc' := 68) dX3_place_67 rfl ?_
          refine g_iast (Y := Y_X3_place) (pc' := 69) dX3_place_68 rfl (by assumption) (by omega) (by decide) ⟨by omega, by omega⟩ ?_
          refine g_aload0 (Y := Y_X3_place) (pc' := 70) dX3_place_69 rfl ?_
          refine g_getR (Y := Y_X3_place) (pc' := 73) dX3_place_70 rfl fl_X3_18 rfl (by assumption) (by omega) (by assumption) ?_
          refine g_iload1 (Y := Y_X3_place) (pc' := 74) dX3_place_73 rfl ?_
          refine g_iload3 (Y := Y_X3_place) (pc' := 75) dX3_place_74 rfl ?_
          refine g_iast (Y := Y_X3_place) (pc' := 76) dX3_place_75 rfl (by assumption) (by omega) (by decide) ⟨by omega, by omega⟩ ?_
          exact g_vret (Y := Y_X3_place) dX3_place_76 rfl (Nat.zero_le _) (Nat.zero_le _) (⟨rfl, by first | (rw [if_neg (by omega)]; done) | (rw [if_neg (by omega)]; rfl) | (rw [if_pos (by omega)]; done) | (rw [if_pos (by omega)]; rfl) | (rw [if_pos (by omega), if_neg (by omega)]; done) | (rw [if_pos (by omega), if_neg (by omega)]; rfl) | (rw [if_pos (by omega), if_pos (by omega)]; done) | (rw [if_pos (by omega), if_pos (by omega)]; rfl) | rfl⟩)
    · exact g_vret (Y := Y_X3_place) dX3_place_14 rfl (Nat.zero_le _) (Nat.zero_le _) (⟨rfl, by first | (rw [if_neg (by omega)]; done) | (rw [if_neg (by omega)]; rfl) | (rw [if_pos (by omega)]; done) | (rw [if_pos (by omega)]; rfl) | (rw [if_pos (by omega), if_neg (by omega)]; done) | (rw [if_pos (by omega), if_neg (by omega)]; rfl) | (rw [if_pos (by omega), if_pos (by omega)]; done) | (rw [if_pos (by omega), if_pos (by omega)]; rfl) | rfl⟩)
set_option maxHeartbeats 2000000 in
set_option maxRecDepth 100000 in
theorem s_X3_forget {l : Launch} {E : QE} {T : Nat → Nat × Nat} {I : Nat → Nat → Int} {J : Nat → Nat → Int64} {R : Nat → Nat → Option Nat} {n z : Nat} {k : Nat} (hk : StB T R n k) (b : Int) (hb : -2147483648 ≤ b ∧ b < 2147483648) (hp : (∀ j : Nat, -2147483648 ≤ I (k + 4) j ∧ I (k + 4) j < 2147483648)) : SpN l E Y_X3_forget [.ref (E.1 + k), .int (iz b)] (T, I, J, R, n, z) (T, f_forget I k b, J, R, n, z) := by
  obtain ⟨t0, t1, t2, t3, t4, t5, r0, r1, r2, r3, r4, hn⟩ := hk
  have hp1 := hp b.toNat
  unfold f_forget
  refine Sp.of [some (.ref (E.1 + k)), some (.int (iz b)), none] (by decide +kernel) (Nat.le_of_ble_eq_true rfl) (fun _ h => h) ?_
  refine g_aload0 (Y := Y_X3_forget) (pc' := 1) dX3_forget_0 rfl ?_
  refine g_iload1 (Y := Y_X3_forget) (pc' := 2) dX3_forget_1 rfl ?_
  refine g_callVv (Y := Y_X3_forget) (c := 3) (s_X3_placeOf ⟨t0, t1, t2, t3, t4, t5, r0, r1, r2, r3, r4, hn⟩ _ hb) (pc' := 5) dX3_forget_2 rfl cv_X3_56 rfl (by assumption) (by show _ < n; omega) ⟨by decide, _, rfl, rfl⟩ rfl rfl rfl rfl ?_
  refine g_istore2 (Y := Y_X3_forget) (pc' := 6) dX3_forget_5 rfl (Nat.le_of_ble_eq_true rfl) rfl ?_
  refine g_iload1 (Y := Y_X3_forget) (pc' := 7) dX3_forget_6 rfl ?_
  refine g_callSNv (Y := Y_X3_forget) (s_X4_isBlock _ ⟨by omega, by omega⟩) (pc' := 10) dX3_forget_7 rfl cv_X3_46 rfl rfl rfl rfl rfl ?_
  refine g_if_eq (Y := Y_X3_forget) (t := 20) (pc' := 13) dX3_forget_10 (by decide) rfl ⟨by omega, by omega⟩ (fun h10 => ?_) (fun h10 => ?_)
  · exact g_vret (Y := Y_X3_forget) dX3_forget_20 rfl (Nat.zero_le _) (Nat.zero_le _) (⟨rfl, by first | (rw [if_neg (by omega)]; done) | (rw [if_neg (by omega)]; rfl) | (rw [if_pos (by omega)]; done) | (rw [if_pos (by omega)]; rfl) | (rw [if_pos (by omega), if_neg (by omega)]; done) | (rw [if_pos (by omega), if_neg (by omega)]; rfl) | (rw [if_pos (by omega), if_pos (by omega)]; done) | (rw [if_pos (by omega), if_pos (by omega)]; rfl) | rfl⟩)
  · refine g_iload2 (Y := Y_X3_forget) (pc' := 14) dX3_forget_13 rfl ?_
    refine g_callSNv (Y := Y_X3_forget) (s_X4_isCell _ ⟨by omega, by omega⟩) (pc' := 17) dX3_forget_14 rfl cv_X3_50 rfl rfl rfl rfl rfl ?_
    refine g_if_ne (Y := Y_X3_forget) (t := 21) (pc' := 20) dX3_forget_17 (by decide) rfl ⟨by omega, by omega⟩ (fun h17 => ?_) (fun h17 => ?_)
    · have hb1 : 0 ≤ b ∧ b < 480 := by omega
      rw [if_pos hb1] at h17
      have hp2 : 0 ≤ I (k + 4) b.toNat ∧ I (k + 4) b.toNat < 576 := by omega
      rw [if_pos hb1]
      refine g_aload0 (Y := Y_X3_forget) (pc' := 22) dX3_forget_21 rfl ?_
      refine g_getR (Y := Y_X3_forget) (pc' := 25) dX3_forget_22 rfl fl_X3_24 rfl (by assumption) (by omega) (by assumption) ?_
      refine g_iload2 (Y := Y_X3_forget) (pc' := 26) dX3_forget_25 rfl ?_
      refine g_iconst (Y := Y_X3_forget) (pc' := 27) dX3_forget_26 rfl ?_
      refine g_iast (Y := Y_X3_forget) (pc' := 28) dX3_forget_27 rfl (by assumption) (by omega) (by decide) ⟨by omega, by omega⟩ ?_
      refine g_aload0 (Y := Y_X3_forget) (pc' := 29) dX3_forget_28 rfl ?_
      refine g_getR (Y := Y_X3_forget) (pc' := 32) dX3_forget_29 rfl fl_X3_21 rfl (by assumption) (by omega) (by assumption) ?_
      refine g_iload1 (Y := Y_X3_forget) (pc' := 33) dX3_forget_32 rfl ?_
      refine g_iconst (Y := Y_X3_forget) (pc' := 34) dX3_forget_33 rfl ?_
      refine g_iast (Y := Y_X3_forget) (pc' := 35) dX3_forget_34 rfl (by assumption) (by omega) (by decide) ⟨by omega, by omega⟩ ?_
      refine g_aload0 (Y := Y_X3_forget) (pc' := 36) dX3_forget_35 rfl ?_
      refine g_getR (Y := Y_X3_forget) (pc' := 39) dX3_forget_36 rfl fl_X3_18 rfl (by assumption) (by omega) (by assumption) ?_
      refine g_iload1 (Y := Y_X3_forget) (pc' := 40) dX3_forget_39 rfl ?_
      refine g_iconst (Y := Y_X3_forget) (pc' := 41) dX3_forget_40 rfl ?_
      refine g_iast (Y := Y_X3_forget) (pc' := 42) dX3_forget_41 rfl (by assumption) (by omega) (by decide) ⟨by omega, by omega⟩ ?_
      exact g_vret (Y := Y_X3_forget) dX3_forget_42 rfl (Nat.zero_le _) (Nat.zero_le _) (⟨rfl, by first | (rw [if_neg (by omega)]; done) | (rw [if_neg (by omega)]; rfl) | (rw [if_pos (by omega)]; done) | (rw [if_pos (by omega)]; rfl) | (rw [if_pos (by omega), if_neg (by omega)]; done) | (rw [if_pos (by omega), if_neg (by omega)]; rfl) | (rw [if_pos (by omega), if_pos (by omega)]; done) | (rw [if_pos (by omega), if_pos (by omega)]; rfl) | rfl⟩)
    · have hb1 : 0 ≤ b ∧ b < 480 := by omega
      rw [if_pos hb1] at h17
      exact g_vret (Y := Y_X3_forget) dX3_forget_20 rfl (Nat.zero_le _) (Nat.zero_le _) (⟨rfl, by first | (rw [if_neg (by omega)]; done) | (rw [if_neg (by omega)]; rfl) | (rw [if_pos (by omega)]; done) | (rw [if_pos (by omega)]; rfl) | (rw [if_pos (by omega), if_neg (by omega)]; done) | (rw [if_pos (by omega), if_neg (by omega)]; rfl) | (rw [if_pos (by omega), if_pos (by omega)]; done) | (rw [if_pos (by omega), if_pos (by omega)]; rfl) | rfl⟩)
set_option maxHeartbeats 2000000 in
set_option maxRecDepth 100000 in
theorem s_X3_cellOfSpot {l : Launch} {E : QE} {T : Nat → Nat × Nat} {I : Nat → Nat → Int} {J : Nat → Nat → Int64} {R : Nat → Nat → Option Nat} {n z : Nat} {k : Nat} (hk : StB T R n k) (hcn : 0 ≤ I k 5 ∧ I k 5 ≤ 12) (s : Int) (hs0 : -2147483648 ≤ s ∧ s < 2147483648) : SpV l E Y_X3_cellOfSpot [.ref (E.1 + k), .int (iz s)] (T, I, J, R, n, z) (.int (iz (if 0 ≤ s ∧ s < I k 5 then I (k + 1) s.toNat else -1))) (T, I, J, R, n, z) := by
  obtain ⟨t0, t1, t2, t3, t4, t5, r0, r1, r2, r3, r4, hn⟩ := hk
  refine Sp.of [some (.ref (E.1 + k)), some (.int (iz s))] (by decide +kernel) (Nat.le_of_ble_eq_true rfl) (fun _ h => h) ?_
  refine g_iload1 (Y := Y_X3_cellOfSpot) (pc' := 1) dX3_cellOfSpot_0 rfl ?_
  refine g_if_lt (Y := Y_X3_cellOfSpot) (t := 30) (pc' := 4) dX3_cellOfSpot_1 (by decide) rfl ⟨by omega, by omega⟩ (fun h1 => ?_) (fun h1 => ?_)
  · refine g_iconst (Y := Y_X3_cellOfSpot) (pc' := 31) dX3_cellOfSpot_30 rfl ?_
    exact g_iret (Y := Y_X3_cellOfSpot) dX3_cellOfSpot_31 rfl (Nat.zero_le _) (Nat.zero_le _) (⟨vi (by first | omega | (split <;> omega) | rfl), rfl⟩)
  · refine g_iload1 (Y := Y_X3_cellOfSpot) (pc' := 5) dX3_cellOfSpot_4 rfl ?_
    refine g_aload0 (Y := Y_X3_cellOfSpot) (pc' := 6) dX3_cellOfSpot_5 rfl ?_
    refine g_getI (Y := Y_X3_cellOfSpot) (pc' := 9) dX3_cellOfSpot_6 rfl fl_X3_27 rfl (by assumption) (by omega) ?_
    refine g_icmp_ge (Y := Y_X3_cellOfSpot) (t := 30) (pc' := 12) dX3_cellOfSpot_9 (by decide) rfl ⟨by omega, by omega⟩ ⟨by omega, by omega⟩ (fun h9 => ?_) (fun h9 => ?_)
    · refine g_iconst (Y := Y_X3_cellOfSpot) (pc' := 31) dX3_cellOfSpot_30 rfl ?_
      exact g_iret (Y := Y_X3_cellOfSpot) dX3_cellOfSpot_31 rfl (Nat.zero_le _) (Nat.zero_le _) (⟨vi (by first | omega | (split <;> omega) | rfl), rfl⟩)
    · refine g_iload1 (Y := Y_X3_cellOfSpot) (pc' := 13) dX3_cellOfSpot_12 rfl ?_
      refine g_aload0 (Y := Y_X3_cellOfSpot) (pc' := 14) dX3_cellOfSpot_13 rfl ?_
      refine g_getR (Y := Y_X3_cellOfSpot) (pc' := 17) dX3_cellOfSpot_14 rfl fl_X3_9 rfl (by assumption) (by omega) (by assumption) ?_
      refine g_alen (Y := Y_X3_cellOfSpot) (pc' := 18) dX3_cellOfSpot_17 rfl (by assumption) (by decide) (by omega) ?_
      refine g_icmp_ge (Y := Y_X3_cellOfSpot) (t := 30) (pc' := 21) dX3_cellOfSpot_18 (by decide) rfl ⟨by omega, by omega⟩ ⟨by omega, by omega⟩ (fun h18 => ?_) (fun h18 => ?_)
      · refine g_iconst (Y := Y_X3_cellOfSpot) (pc' := 31) dX3_cellOfSpot_30 rfl ?_
        exact g_iret (Y := Y_X3_cellOfSpot) dX3_cellOfSpot_31 rfl (Nat.zero_le _) (Nat.zero_le _) (⟨vi (by first | omega | (split <;> omega) | rfl), rfl⟩)
      · refine g_aload0 (Y := Y_X3_cellOfSpot) (pc' := 22) dX3_cellOfSpot_21 rfl ?_
        refine g_getR (Y := Y_X3_cellOfSpot) (pc' := 25) dX3_cellOfSpot_22 rfl fl_X3_9 rfl (by assumption) (by omega) (by assumption) ?_
        refine g_iload1 (Y := Y_X3_cellOfSpot) (pc' := 26) dX3_cellOfSpot_25 rfl ?_
        refine g_iald (Y := Y_X3_cellOfSpot) (pc' := 27) dX3_cellOfSpot_26 rfl (by assumption) (by omega) (by decide) ⟨by omega, by omega⟩ ?_
        refine g_goto (Y := Y_X3_cellOfSpot) (t := 31) dX3_cellOfSpot_27 (by decide) ?_
        exact g_iret (Y := Y_X3_cellOfSpot) dX3_cellOfSpot_31 rfl (Nat.zero_le _) (Nat.zero_le _) (⟨vi (by first | omega | (split <;> omega) | rfl), rfl⟩)
theorem s_X3_cellOfSpot_in {l : Launch} {E : QE} {T : Nat → Nat × Nat} {I : Nat → Nat → Int} {J : Nat → Nat → Int64} {R : Nat → Nat → Option Nat} {n z : Nat} {k : Nat} (hk : StB T R n k) (hcn : 0 ≤ I k 5 ∧ I k 5 ≤ 12) (i : Nat) (hi : i < (I k 5).toNat) : SpV l E Y_X3_cellOfSpot [.ref (E.1 + k), .int (iz (i : Int))] (T, I, J, R, n, z) (.int (iz (I (k + 1) i))) (T, I, J, R, n, z) := by
  have h := s_X3_cellOfSpot (l := l) (E := E) (J := J) (z := z) hk hcn (i : Int) ⟨by omega, by omega⟩
  rw [if_pos (by omega)] at h
  exact h
set_option maxHeartbeats 2000000 in
set_option maxRecDepth 100000 in
theorem s_X3_spotAt_lp {l : Launch} {E : QE} {T : Nat → Nat × Nat} {I : Nat → Nat → Int} {J : Nat → Nat → Int64} {R : Nat → Nat → Option Nat} {n z : Nat} {k : Nat} (hk : StB T R n k) (hcn : 0 ≤ I k 5 ∧ I k 5 ≤ 12) (hs : (∀ j : Nat, -2147483648 ≤ I (k + 1) j ∧ I (k + 1) j < 2147483648)) (x : Int) (hx : -2147483648 ≤ x ∧ x < 2147483648) : ∀ (m i : Nat), i + m = (I k 5).toNat → Go l E Y_X3_spotAt 0 0 2 [some (.ref (E.1 + k)), some (.int (iz x)), some (.int (iz (i : Int)))] [] (T, I, J, R, n, z) (KV (.int (iz (fnd (I (k + 1)) x m i))) (T, I, J, R, n, z)) := by
  obtain ⟨t0, t1, t2, t3, t4, t5, r0, r1, r2, r3, r4, hn⟩ := hk
  intro m
  induction m with
  | zero =>
    intro i hm
    refine g_iload2 (Y := Y_X3_spotAt) (pc' := 3) dX3_spotAt_2 rfl ?_
    refine g_aload0 (Y := Y_X3_spotAt) (pc' := 4) dX3_spotAt_3 rfl ?_
    refine g_getI (Y := Y_X3_spotAt) (pc' := 7) dX3_spotAt_4 rfl fl_X3_27 rfl (by assumption) (by omega) ?_
    refine g_icmp_ge (Y := Y_X3_spotAt) (t := 27) (pc' := 10) dX3_spotAt_7 (by decide) rfl ⟨by omega, by omega⟩ ⟨by omega, by omega⟩ (fun h7 => ?_) (fun h7 => ?_)
    · refine g_iconst (Y := Y_X3_spotAt) (pc' := 28) dX3_spotAt_27 rfl ?_
      exact g_iret (Y := Y_X3_spotAt) dX3_spotAt_28 rfl (Nat.zero_le _) (Nat.zero_le _) (⟨rfl, rfl⟩)
    · exfalso; omega
  | succ m ih =>
    intro i hm
    have hsi := hs i
    refine g_iload2 (Y := Y_X3_spotAt) (pc' := 3) dX3_spotAt_2 rfl ?_
    refine g_aload0 (Y := Y_X3_spotAt) (pc' := 4) dX3_spotAt_3 rfl ?_
    refine g_getI (Y := Y_X3_spotAt) (pc' := 7) dX3_spotAt_4 rfl fl_X3_27 rfl (by assumption) (by omega) ?_
    refine g_icmp_ge (Y := Y_X3_spotAt) (t := 27) (pc' := 10) dX3_spotAt_7 (by decide) rfl ⟨by omega, by omega⟩ ⟨by omega, by omega⟩ (fun h7 => ?_) (fun h7 => ?_)
    · exfalso; omega
    · refine g_aload0 (Y := Y_X3_spotAt) (pc' := 11) dX3_spotAt_10 rfl ?_
      refine g_iload2 (Y := Y_X3_spotAt) (pc' := 12) dX3_spotAt_11 rfl ?_
      refine g_callVv (Y := Y_X3_spotAt) (c := 3) (s_X3_cellOfSpot_in ⟨t0, t1, t2, t3, t4, t5, r0, r1, r2, r3, r4, hn⟩ hcn i (by omega)) (pc' := 15) dX3_spotAt_12 rfl cv_X3_60 rfl (by assumption) (by show _ < n; omega) ⟨by decide, _, rfl, rfl⟩ rfl rfl rfl rfl ?_
      refine g_iload1 (Y := Y_X3_spotAt) (pc' := 16) dX3_spotAt_15 rfl ?_
      refine g_icmp_ne (Y := Y_X3_spotAt) (t := 21) (pc' := 19) dX3_spotAt_16 (by decide) rfl ⟨by omega, by omega⟩ ⟨by omega, by omega⟩ (fun h16 => ?_) (fun h16 => ?_)
      · have e : fnd (I (k + 1)) x (m + 1) i = fnd (I (k + 1)) x m (i + 1) := if_neg (by omega)
        rw [e]
        refine g_iinc2 (Y := Y_X3_spotAt) (pc' := 24) dX3_spotAt_21 rfl (Nat.le_of_ble_eq_true rfl) rfl ?_
        refine g_goto (Y := Y_X3_spotAt) (t := 2) dX3_spotAt_24 (by decide) ?_
        exact ih (i + 1) (by omega)
      · refine g_iload2 (Y := Y_X3_spotAt) (pc' := 20) dX3_spotAt_19 rfl ?_
        exact g_iret (Y := Y_X3_spotAt) dX3_spotAt_20 rfl (Nat.zero_le _) (Nat.zero_le _) (⟨by show _ = some (Value.int (iz (if _ then _ else _))); rw [if_pos (by omega)], rfl⟩)
set_option maxHeartbeats 2000000 in
set_option maxRecDepth 100000 in
theorem s_X3_spotAt {l : Launch} {E : QE} {T : Nat → Nat × Nat} {I : Nat → Nat → Int} {J : Nat → Nat → Int64} {R : Nat → Nat → Option Nat} {n z : Nat} {k : Nat} (hk : StB T R n k) (hcn : 0 ≤ I k 5 ∧ I k 5 ≤ 12) (hs : (∀ j : Nat, -2147483648 ≤ I (k + 1) j ∧ I (k + 1) j < 2147483648)) (x : Int) (hx : -2147483648 ≤ x ∧ x < 2147483648) : SpV l E Y_X3_spotAt [.ref (E.1 + k), .int (iz x)] (T, I, J, R, n, z) (.int (iz (f_spotAt I k x))) (T, I, J, R, n, z) := by
  refine Sp.of [some (.ref (E.1 + k)), some (.int (iz x)), none] (by decide +kernel) (Nat.le_of_ble_eq_true rfl) (fun _ h => h) ?_
  refine g_iconst (Y := Y_X3_spotAt) (pc' := 1) dX3_spotAt_0 rfl ?_
  refine g_istore2 (Y := Y_X3_spotAt) (pc' := 2) dX3_spotAt_1 rfl (Nat.le_of_ble_eq_true rfl) rfl ?_
  exact s_X3_spotAt_lp hk hcn hs x hx (I k 5).toNat 0 (by omega)
theorem spotAt_rg (I : Nat → Nat → Int) (k : Nat) (x : Int) (hcn : 0 ≤ I k 5 ∧ I k 5 ≤ 12) : -1 ≤ f_spotAt I k x ∧ f_spotAt I k x < I k 5 ∨ f_spotAt I k x = -1 := by
  rcases fnd_rg (I (k + 1)) x (I k 5).toNat 0 with h | h
  · left; unfold f_spotAt; omega
  · right; exact h

def b01 (p : Prop) [Decidable p] : Int := if p then 1 else 0
def f_can (I : Nat → Nat → Int) (k : Nat) (x : Int) : Int := if (0 ≤ x ∧ x < 576) ∧ I k 5 < 12 ∧ f_spotAt I k x = -1 then 1 else 0
set_option maxHeartbeats 2000000 in
set_option maxRecDepth 100000 in
theorem s_X3_canAddSpot {l : Launch} {E : QE} {T : Nat → Nat × Nat} {I : Nat → Nat → Int} {J : Nat → Nat → Int64} {R : Nat → Nat → Option Nat} {n z : Nat} {k : Nat} (hk : StB T R n k) (hcn : 0 ≤ I k 5 ∧ I k 5 ≤ 12) (hs : (∀ j : Nat, -2147483648 ≤ I (k + 1) j ∧ I (k + 1) j < 2147483648)) (x : Int) (hx : -2147483648 ≤ x ∧ x < 2147483648) : SpV l E Y_X3_canAddSpot [.ref (E.1 + k), .int (iz x)] (T, I, J, R, n, z) (.int (iz (f_can I k x))) (T, I, J, R, n, z) := by
  obtain ⟨t0, t1, t2, t3, t4, t5, r0, r1, r2, r3, r4, hn⟩ := hk
  have hq := spotAt_rg I k x hcn
  unfold f_can
  refine Sp.of [some (.ref (E.1 + k)), some (.int (iz x))] (by decide +kernel) (Nat.le_of_ble_eq_true rfl) (fun _ h => h) ?_
  refine g_iload1 (Y := Y_X3_canAddSpot) (pc' := 1) dX3_canAddSpot_0 rfl ?_
  refine g_callSNv (Y := Y_X3_canAddSpot) (s_X4_isCell _ ⟨by omega, by omega⟩) (pc' := 4) dX3_canAddSpot_1 rfl cv_X3_50 rfl rfl rfl rfl rfl ?_
  refine g_if_eq (Y := Y_X3_canAddSpot) (t := 39) (pc' := 7) dX3_canAddSpot_4 (by decide) rfl ⟨by omega, by omega⟩ (fun h4 => ?_) (fun h4 => ?_)
  · refine g_iconst (Y := Y_X3_canAddSpot) (pc' := 40) dX3_canAddSpot_39 rfl ?_
    exact g_zret (Y := Y_X3_canAddSpot) dX3_canAddSpot_40 rfl (by decide) (Nat.zero_le _) (Nat.zero_le _) (⟨vi (by first | omega | (split <;> omega) | rfl), rfl⟩)
  · refine g_aload0 (Y := Y_X3_canAddSpot) (pc' := 8) dX3_canAddSpot_7 rfl ?_
    refine g_getI (Y := Y_X3_canAddSpot) (pc' := 11) dX3_canAddSpot_8 rfl fl_X3_27 rfl (by assumption) (by omega) ?_
    refine g_if_lt (Y := Y_X3_canAddSpot) (t := 39) (pc' := 14) dX3_canAddSpot_11 (by decide) rfl ⟨by omega, by omega⟩ (fun h11 => ?_) (fun h11 => ?_)
    · refine g_iconst (Y := Y_X3_canAddSpot) (pc' := 40) dX3_canAddSpot_39 rfl ?_
      exact g_zret (Y := Y_X3_canAddSpot) dX3_canAddSpot_40 rfl (by decide) (Nat.zero_le _) (Nat.zero_le _) (⟨vi (by first | omega | (split <;> omega) | rfl), rfl⟩)
    · refine g_aload0 (Y := Y_X3_canAddSpot) (pc' := 15) dX3_canAddSpot_14 rfl ?_
      refine g_getI (Y := Y_X3_canAddSpot) (pc' := 18) dX3_canAddSpot_15 rfl fl_X3_27 rfl (by assumption) (by omega) ?_
      refine g_aload0 (Y := Y_X3_canAddSpot) (pc' := 19) dX3_canAddSpot_18 rfl ?_
      refine g_getR (Y := Y_X3_canAddSpot) (pc' := 22) dX3_canAddSpot_19 rfl fl_X3_9 rfl (by assumption) (by omega) (by assumption) ?_
      refine g_alen (Y := Y_X3_canAddSpot) (pc' := 23) dX3_canAddSpot_22 rfl (by assumption) (by decide) (by omega) ?_
      refine g_icmp_ge (Y := Y_X3_canAddSpot) (t := 39) (pc' := 26) dX3_canAddSpot_23 (by decide) rfl ⟨by omega, by omega⟩ ⟨by omega, by omega⟩ (fun h23 => ?_) (fun h23 => ?_)
      · refine g_iconst (Y := Y_X3_canAddSpot) (pc' := 40) dX3_canAddSpot_39 rfl ?_
        exact g_zret (Y := Y_X3_canAddSpot) dX3_canAddSpot_40 rfl (by decide) (Nat.zero_le _) (Nat.zero_le _) (⟨vi (by first | omega | (split <;> omega) | rfl), rfl⟩)
      · refine g_aload0 (Y := Y_X3_canAddSpot) (pc' := 27) dX3_canAddSpot_26 rfl ?_
        refine g_iload1 (Y := Y_X3_canAddSpot) (pc' := 28) dX3_canAddSpot_27 rfl ?_
        refine g_callVv (Y := Y_X3_canAddSpot) (c := 3) (s_X3_spotAt ⟨t0, t1, t2, t3, t4, t5, r0, r1, r2, r3, r4, hn⟩ hcn hs x hx) (pc' := 31) dX3_canAddSpot_28 rfl cv_X3_63 rfl (by assumption) (by show _ < n; omega) ⟨by decide, _, rfl, rfl⟩ rfl rfl rfl rfl ?_
        refine g_iconst (Y := Y_X3_canAddSpot) (pc' := 32) dX3_canAddSpot_31 rfl ?_
        refine g_icmp_ne (Y := Y_X3_canAddSpot) (t := 39) (pc' := 35) dX3_canAddSpot_32 (by decide) rfl ⟨by omega, by omega⟩ ⟨by omega, by omega⟩ (fun h32 => ?_) (fun h32 => ?_)
        · refine g_iconst (Y := Y_X3_canAddSpot) (pc' := 40) dX3_canAddSpot_39 rfl ?_
          exact g_zret (Y := Y_X3_canAddSpot) dX3_canAddSpot_40 rfl (by decide) (Nat.zero_le _) (Nat.zero_le _) (⟨vi (by first | omega | (split <;> omega) | rfl), rfl⟩)
        · refine g_iconst (Y := Y_X3_canAddSpot) (pc' := 36) dX3_canAddSpot_35 rfl ?_
          refine g_goto (Y := Y_X3_canAddSpot) (t := 40) dX3_canAddSpot_36 (by decide) ?_
          exact g_zret (Y := Y_X3_canAddSpot) dX3_canAddSpot_40 rfl (by decide) (Nat.zero_le _) (Nat.zero_le _) (⟨vi (by first | omega | (split <;> omega) | rfl), rfl⟩)
def f_add0 (I : Nat → Nat → Int) (k : Nat) (x : Int) : Nat → Nat → Int := u2 (u2 I (k + 1) (I k 5).toNat x) k 5 ((u2 I (k + 1) (I k 5).toNat x) k 5 + 1)
def f_addL (I : Nat → Nat → Int) (k : Nat) (b : Int) : Nat → Nat → Int := u2 (f_forget I k b) k 6 (f_forget I k b k 6 + 1)
def f_addSpot (I : Nat → Nat → Int) (k : Nat) (x : Int) : Nat → Nat → Int :=
  if f_can I k x = 0 then I
  else if I (k + 5) x.toNat = -1 then f_add0 I k x
  else f_addL (f_add0 I k x) k (I (k + 5) x.toNat)
theorem f_can_of {I : Nat → Nat → Int} {k : Nat} {x : Int} (h : ¬ f_can I k x = 0) : (0 ≤ x ∧ x < 576) ∧ I k 5 < 12 ∧ f_spotAt I k x = -1 := by
  unfold f_can at h
  split at h
  · assumption
  · exact absurd rfl h
set_option maxHeartbeats 2000000 in
set_option maxRecDepth 100000 in
theorem s_X3_addSpot {l : Launch} {E : QE} {T : Nat → Nat × Nat} {I : Nat → Nat → Int} {J : Nat → Nat → Int64} {R : Nat → Nat → Option Nat} {n z : Nat} {k : Nat} (hk : StB T R n k) (hcn : 0 ≤ I k 5 ∧ I k 5 ≤ 12) (hs : (∀ j : Nat, -2147483648 ≤ I (k + 1) j ∧ I (k + 1) j < 2147483648)) (hp : (∀ j : Nat, -2147483648 ≤ I (k + 4) j ∧ I (k + 4) j < 2147483648)) (hh : (∀ j : Nat, -2147483648 ≤ I (k + 5) j ∧ I (k + 5) j < 2147483648)) (x : Int) (hx : -2147483648 ≤ x ∧ x < 2147483648) : SpN l E Y_X3_addSpot [.ref (E.1 + k), .int (iz x)] (T, I, J, R, n, z) (T, f_addSpot I k x, J, R, n, z) := by
  obtain ⟨t0, t1, t2, t3, t4, t5, r0, r1, r2, r3, r4, hn⟩ := hk
  have hcz : f_can I k x = 0 ∨ f_can I k x = 1 := by unfold f_can; split <;> simp
  have hh1 := hh x.toNat
  unfold f_addSpot
  refine Sp.of [some (.ref (E.1 + k)), some (.int (iz x)), none] (by decide +kernel) (Nat.le_of_ble_eq_true rfl) (fun _ h => h) ?_
  refine g_aload0 (Y := Y_X3_addSpot) (pc' := 1) dX3_addSpot_0 rfl ?_
  refine g_iload1 (Y := Y_X3_addSpot) (pc' := 2) dX3_addSpot_1 rfl ?_
  refine g_callVv (Y := Y_X3_addSpot) (c := 3) (s_X3_canAddSpot ⟨t0, t1, t2, t3, t4, t5, r0, r1, r2, r3, r4, hn⟩ hcn hs x hx) (pc' := 5) dX3_addSpot_2 rfl cv_X3_66 rfl (by assumption) (by show _ < n; omega) ⟨by decide, _, rfl, rfl⟩ rfl rfl rfl rfl ?_
  refine g_if_ne (Y := Y_X3_addSpot) (t := 9) (pc' := 8) dX3_addSpot_5 (by decide) rfl ⟨by omega, by omega⟩ (fun h5 => ?_) (fun h5 => ?_)
  · obtain ⟨hx2, hc2, hs2⟩ := f_can_of h5
    have a5 : f_add0 I k x (k + 5) = I (k + 5) := by unfold f_add0; rw [u2_ne (by omega), u2_ne (by omega)]
    have a4 : f_add0 I k x (k + 4) = I (k + 4) := by unfold f_add0; rw [u2_ne (by omega), u2_ne (by omega)]
    rw [if_neg h5]
    refine g_aload0 (Y := Y_X3_addSpot) (pc' := 10) dX3_addSpot_9 rfl ?_
    refine g_getR (Y := Y_X3_addSpot) (pc' := 13) dX3_addSpot_10 rfl fl_X3_9 rfl (by assumption) (by omega) (by assumption) ?_
    refine g_aload0 (Y := Y_X3_addSpot) (pc' := 14) dX3_addSpot_13 rfl ?_
    refine g_getI (Y := Y_X3_addSpot) (pc' := 17) dX3_addSpot_14 rfl fl_X3_27 rfl (by assumption) (by omega) ?_
    refine g_iload1 (Y := Y_X3_addSpot) (pc' := 18) dX3_addSpot_17 rfl ?_
    refine g_iast (Y := Y_X3_addSpot) (pc' := 19) dX3_addSpot_18 rfl (by assumption) (by omega) (by decide) ⟨by omega, by omega⟩ ?_
    refine g_aload0 (Y := Y_X3_addSpot) (pc' := 20) dX3_addSpot_19 rfl ?_
    refine g_dup (Y := Y_X3_addSpot) (pc' := 21) dX3_addSpot_20 rfl rfl ?_
    refine g_getI (Y := Y_X3_addSpot) (pc' := 24) dX3_addSpot_21 rfl fl_X3_27 rfl (by assumption) (by omega) ?_
    refine g_iconst (Y := Y_X3_addSpot) (pc' := 25) dX3_addSpot_24 rfl ?_
    refine g_iadd (Y := Y_X3_addSpot) (pc' := 26) dX3_addSpot_25 rfl ?_
    refine g_putI (Y := Y_X3_addSpot) (pc' := 29) dX3_addSpot_26 rfl fp_X3_27 rfl (by assumption) (by omega) ?_
    refine g_aload0 (Y := Y_X3_addSpot) (pc' := 30) dX3_addSpot_29 rfl ?_
    refine g_iload1 (Y := Y_X3_addSpot) (pc' := 31) dX3_addSpot_30 rfl ?_
    refine g_callVv (Y := Y_X3_addSpot) (c := 3) (s_X3_holderOf (I := f_add0 I k x) ⟨t0, t1, t2, t3, t4, t5, r0, r1, r2, r3, r4, hn⟩ x hx) (pc' := 34) dX3_addSpot_31 rfl cv_X3_69 rfl (by assumption) (by show _ < n; omega) ⟨by decide, _, rfl, rfl⟩ rfl rfl rfl rfl ?_
    rw [if_pos hx2, a5]
    refine g_istore2 (Y := Y_X3_addSpot) (pc' := 35) dX3_addSpot_34 rfl (Nat.le_of_ble_eq_true rfl) rfl ?_
    refine g_iload2 (Y := Y_X3_addSpot) (pc' := 36) dX3_addSpot_35 rfl ?_
    refine g_iconst (Y := Y_X3_addSpot) (pc' := 37) dX3_addSpot_36 rfl ?_
    refine g_icmp_eq (Y := Y_X3_addSpot) (t := 55) (pc' := 40) dX3_addSpot_37 (by decide) rfl ⟨by omega, by omega⟩ ⟨by omega, by omega⟩ (fun h37 => ?_) (fun h37 => ?_)
    · rw [if_pos (by omega)]
      exact g_vret (Y := Y_X3_addSpot) dX3_addSpot_55 rfl (Nat.zero_le _) (Nat.zero_le _) (⟨rfl, rfl⟩)
    · rw [if_neg (by omega)]
      refine g_aload0 (Y := Y_X3_addSpot) (pc' := 41) dX3_addSpot_40 rfl ?_
      refine g_iload2 (Y := Y_X3_addSpot) (pc' := 42) dX3_addSpot_41 rfl ?_
      refine g_callVn (Y := Y_X3_addSpot) (c := 3) (s_X3_forget (I := f_add0 I k x) ⟨t0, t1, t2, t3, t4, t5, r0, r1, r2, r3, r4, hn⟩ _ (hh x.toNat) (by rw [a4]; exact hp)) (pc' := 45) dX3_addSpot_42 rfl cv_X3_72 rfl (by assumption) (by show _ < n; omega) ⟨by decide, _, rfl, rfl⟩ rfl rfl rfl rfl ?_
      refine g_aload0 (Y := Y_X3_addSpot) (pc' := 46) dX3_addSpot_45 rfl ?_
      refine g_dup (Y := Y_X3_addSpot) (pc' := 47) dX3_addSpot_46 rfl rfl ?_
      refine g_getI (Y := Y_X3_addSpot) (pc' := 50) dX3_addSpot_47 rfl fl_X3_31 rfl (by assumption) (by omega) ?_
      refine g_iconst (Y := Y_X3_addSpot) (pc' := 51) dX3_addSpot_50 rfl ?_
      refine g_iadd (Y := Y_X3_addSpot) (pc' := 52) dX3_addSpot_51 rfl ?_
      refine g_putI (Y := Y_X3_addSpot) (pc' := 55) dX3_addSpot_52 rfl fp_X3_31 rfl (by assumption) (by omega) ?_
      exact g_vret (Y := Y_X3_addSpot) dX3_addSpot_55 rfl (Nat.zero_le _) (Nat.zero_le _) (⟨rfl, rfl⟩)
  · rw [if_pos h5]
    exact g_vret (Y := Y_X3_addSpot) dX3_addSpot_8 rfl (Nat.zero_le _) (Nat.zero_le _) (⟨rfl, rfl⟩)
