/-! the law's own methods that catch -/
abbrev Y9_L_write : QY := (yL_write, cL_write, 5, (some .int), ({ frames := 8, cells := 1, slots := 6, locals := 133 } : Room))
abbrev hh_L_write : QH := [(0, 10, 13, 13), (0, 10, 17, 15), (0, 10, 21, 17)]
theorem cv_L_7 : q_cv "ScratchMapLaw" 7 Y_X4_write 2 := ⟨⟨by decide +kernel, by decide +kernel, by decide +kernel⟩, (q_w 515 (by decide +kernel) rfl), (q_w 516 (by decide +kernel) rfl), (q_w 517 (by decide +kernel) rfl), (q_w 1 (by decide +kernel) rfl), (q_w 518 (by decide +kernel) rfl)⟩
theorem xr_x_write {I : Nat → Nat → Int} {p : Int} {v : Int} {X : String} (h : x_write I p v = some X) : X = xIOB ∨ X = xIAE ∨ X = xISE := by
  unfold x_write at h
  repeat' split at h
  all_goals first | (cases h; first | exact (Or.inl rfl) | exact (Or.inr (Or.inl rfl)) | exact (Or.inr (Or.inr rfl))) | cases h
set_option maxHeartbeats 2000000 in
set_option maxRecDepth 100000 in
theorem s_L_write {l : Launch} {E : QE} (hl9 : l.stackTraces = false) {T : Nat → Nat × Nat} {I : Nat → Nat → Int} {J : Nat → Nat → Int64} {R : Nat → Nat → Option Nat} {n : Nat} (hk : ScB T R n) (hv : XV I) (ho : T 124 = (10, 1)) (p : Int) (h_p : -2147483648 ≤ p ∧ p < 2147483648) (v : Int) (h_v : -2147483648 ≤ v ∧ v < 2147483648) : SpL l E Y9_L_write hh_L_write [.ref (E.1 + 0), .int (iz p), .int (iz v), .ref (E.1 + 124)] (T, I, J, R, n, 0) (fun r1 w1 => (x_write I p v = none ∧ r1 = some (.int (iz 0)) ∧ w1 = (T, w_write I R p v, u2 (J) 124 0 (iz (f_cfw I 1 7 p.toNat)).toInt64, f_saveR I R, n, 0)) ∨ (x_write I p v = some xIOB ∧ r1 = some (.int (iz 1)) ∧ w1 = (T, I, J, R, n, 0)) ∨ (x_write I p v = some xIAE ∧ r1 = some (.int (iz 2)) ∧ w1 = (T, I, J, R, n, 0)) ∨ (x_write I p v = some xISE ∧ r1 = some (.int (iz 3)) ∧ w1 = (T, I, J, R, n, 0))) := by
  have hk0 := hk
  obtain ⟨a0, a1, a2, a3, a4, a5, a6, a7, a8, a9, a10, a11, a12, a13, a14, a15, a16⟩ := hk
  have b8 := a8.1
  have b9 := a9.1
  have b10 := a10.1
  have b11 := a11.1
  have b12 := a12.1
  refine SpL.of [some (.ref (E.1 + 0)), some (.int (iz p)), some (.int (iz v)), some (.ref (E.1 + 124)), none] (by decide +kernel) (Nat.le_of_ble_eq_true rfl) (fun _ h => h) ?_
  refine g_aload3 (Y := Y9_L_write) (pc' := 1) dL_write_0 rfl ?_
  refine g_iconst (Y := Y9_L_write) (pc' := 2) dL_write_1 rfl ?_
  refine g_aload0 (Y := Y9_L_write) (pc' := 3) dL_write_2 rfl ?_
  refine g_iload1 (Y := Y9_L_write) (pc' := 4) dL_write_3 rfl ?_
  refine g_iload2 (Y := Y9_L_write) (pc' := 5) dL_write_4 rfl ?_
  refine g_callX (Y := Y9_L_write) (hh := hh_L_write) (c := 4) (s_X4_write hl9 hk0 hv p h_p v h_v) (pc' := 8) dL_write_5 rfl cv_L_7 rfl (by assumption) (by show _ < n; omega) ⟨by decide, _, rfl, rfl⟩ rfl rfl rfl rfl (by decide) (q_w 511 (by decide +kernel) rfl) rfl (fun r w1 hr => ?_) (fun X w1 hx => ?_)
  · obtain ⟨hn, rfl, rfl⟩ := hr
    refine g_i2l (Y := Y9_L_write) (pc' := 9) dL_write_8 rfl ?_
    refine g_last (Y := Y9_L_write) (pc' := 10) dL_write_9 rfl ho (by omega) (by decide) ⟨by omega, by omega⟩ ?_
    refine g_goto (Y := Y9_L_write) (t := 25) dL_write_10 (by decide) ?_
    refine g_iconst (Y := Y9_L_write) (pc' := 26) dL_write_25 rfl ?_
    exact GoL.of (g_iret (Y := Y9_L_write) dL_write_26 rfl (Nat.le_of_ble_eq_true rfl) (Nat.le_of_ble_eq_true rfl) (Or.inl (⟨hn, rfl, rfl⟩)))
  · obtain ⟨hx1, rfl⟩ := hx
    rcases xr_x_write hx1 with rfl | rfl | rfl
    · refine ⟨13, by decide +kernel, fun q9 => ?_⟩
      refine g_astore4 (Y := Y9_L_write) (pc' := 15) dL_write_13 rfl (Nat.le_of_ble_eq_true rfl) rfl ?_
      refine g_iconst (Y := Y9_L_write) (pc' := 16) dL_write_15 rfl ?_
      exact GoL.of (g_iret (Y := Y9_L_write) dL_write_16 rfl (Nat.le_of_ble_eq_true rfl) (Nat.le_of_ble_eq_true rfl) (Or.inr (Or.inl (⟨hx1, rfl, rfl⟩))))
    · refine ⟨17, by decide +kernel, fun q9 => ?_⟩
      refine g_astore4 (Y := Y9_L_write) (pc' := 19) dL_write_17 rfl (Nat.le_of_ble_eq_true rfl) rfl ?_
      refine g_iconst (Y := Y9_L_write) (pc' := 20) dL_write_19 rfl ?_
      exact GoL.of (g_iret (Y := Y9_L_write) dL_write_20 rfl (Nat.le_of_ble_eq_true rfl) (Nat.le_of_ble_eq_true rfl) (Or.inr (Or.inr (Or.inl (⟨hx1, rfl, rfl⟩)))))
    · refine ⟨21, by decide +kernel, fun q9 => ?_⟩
      refine g_astore4 (Y := Y9_L_write) (pc' := 23) dL_write_21 rfl (Nat.le_of_ble_eq_true rfl) rfl ?_
      refine g_iconst (Y := Y9_L_write) (pc' := 24) dL_write_23 rfl ?_
      exact GoL.of (g_iret (Y := Y9_L_write) dL_write_24 rfl (Nat.le_of_ble_eq_true rfl) (Nat.le_of_ble_eq_true rfl) (Or.inr (Or.inr (Or.inr (⟨hx1, rfl, rfl⟩)))))
abbrev Y9_L_fill : QY := (yL_fill, cL_fill, 6, (some .int), ({ frames := 8, cells := 1, slots := 6, locals := 135 } : Room))
abbrev hh_L_fill : QH := [(0, 12, 15, 13), (0, 12, 19, 15)]
theorem cv_L_19 : q_cv "ScratchMapLaw" 19 Y_X4_fill 3 := ⟨⟨by decide +kernel, by decide +kernel, by decide +kernel⟩, (q_w 637 (by decide +kernel) rfl), (q_w 638 (by decide +kernel) rfl), (q_w 639 (by decide +kernel) rfl), (q_w 1 (by decide +kernel) rfl), (q_w 640 (by decide +kernel) rfl)⟩
theorem xr_x_fill {p : Int} {q : Int} {v : Int} {X : String} (h : x_fill p q v = some X) : X = xIOB ∨ X = xIAE := by
  unfold x_fill at h
  repeat' split at h
  all_goals first | (cases h; first | exact (Or.inl rfl) | exact (Or.inr rfl)) | cases h
set_option maxHeartbeats 2000000 in
set_option maxRecDepth 100000 in
theorem s_L_fill {l : Launch} {E : QE} (hl9 : l.stackTraces = false) {T : Nat → Nat × Nat} {I : Nat → Nat → Int} {J : Nat → Nat → Int64} {R : Nat → Nat → Option Nat} {n : Nat} (hk : ScB T R n) (hv : XV I) (ho : T 124 = (10, 1)) (p : Int) (h_p : -2147483648 ≤ p ∧ p < 2147483648) (q : Int) (h_q : -2147483648 ≤ q ∧ q < 2147483648) (v : Int) (h_v : -2147483648 ≤ v ∧ v < 2147483648) : SpL l E Y9_L_fill hh_L_fill [.ref (E.1 + 0), .int (iz p), .int (iz q), .int (iz v), .ref (E.1 + 124)] (T, I, J, R, n, 0) (fun r1 w1 => (x_fill p q v = none ∧ r1 = some (.int (iz 0)) ∧ w1 = (T, (f_fill I R p q v).2, u2 (J) 124 0 (iz ((f_fill I R p q v).1)).toInt64, f_saveR I R, n, 0)) ∨ (x_fill p q v = some xIOB ∧ r1 = some (.int (iz 1)) ∧ w1 = (T, I, J, R, n, 0)) ∨ (x_fill p q v = some xIAE ∧ r1 = some (.int (iz 2)) ∧ w1 = (T, I, J, R, n, 0))) := by
  have hk0 := hk
  obtain ⟨a0, a1, a2, a3, a4, a5, a6, a7, a8, a9, a10, a11, a12, a13, a14, a15, a16⟩ := hk
  have b8 := a8.1
  have b9 := a9.1
  have b10 := a10.1
  have b11 := a11.1
  have b12 := a12.1
  refine SpL.of [some (.ref (E.1 + 0)), some (.int (iz p)), some (.int (iz q)), some (.int (iz v)), some (.ref (E.1 + 124)), none] (by decide +kernel) (Nat.le_of_ble_eq_true rfl) (fun _ h => h) ?_
  refine g_aload4 (Y := Y9_L_fill) (pc' := 2) dL_fill_0 rfl ?_
  refine g_iconst (Y := Y9_L_fill) (pc' := 3) dL_fill_2 rfl ?_
  refine g_aload0 (Y := Y9_L_fill) (pc' := 4) dL_fill_3 rfl ?_
  refine g_iload1 (Y := Y9_L_fill) (pc' := 5) dL_fill_4 rfl ?_
  refine g_iload2 (Y := Y9_L_fill) (pc' := 6) dL_fill_5 rfl ?_
  refine g_iload3 (Y := Y9_L_fill) (pc' := 7) dL_fill_6 rfl ?_
  refine g_callX (Y := Y9_L_fill) (hh := hh_L_fill) (c := 4) (s_X4_fill hl9 hk0 hv p h_p q h_q v h_v) (pc' := 10) dL_fill_7 rfl cv_L_19 rfl (by assumption) (by show _ < n; omega) ⟨by decide, _, rfl, rfl⟩ rfl rfl rfl rfl (by decide) (q_w 636 (by decide +kernel) rfl) rfl (fun r w1 hr => ?_) (fun X w1 hx => ?_)
  · obtain ⟨hn, rfl, rfl⟩ := hr
    refine g_i2l (Y := Y9_L_fill) (pc' := 11) dL_fill_10 rfl ?_
    refine g_last (Y := Y9_L_fill) (pc' := 12) dL_fill_11 rfl ho (by omega) (by decide) ⟨by omega, by omega⟩ ?_
    refine g_goto (Y := Y9_L_fill) (t := 23) dL_fill_12 (by decide) ?_
    refine g_iconst (Y := Y9_L_fill) (pc' := 24) dL_fill_23 rfl ?_
    exact GoL.of (g_iret (Y := Y9_L_fill) dL_fill_24 rfl (Nat.le_of_ble_eq_true rfl) (Nat.le_of_ble_eq_true rfl) (Or.inl (⟨hn, rfl, rfl⟩)))
  · obtain ⟨hx1, rfl⟩ := hx
    rcases xr_x_fill hx1 with rfl | rfl
    · refine ⟨15, by decide +kernel, fun q9 => ?_⟩
      refine g_astore5 (Y := Y9_L_fill) (pc' := 17) dL_fill_15 rfl (Nat.le_of_ble_eq_true rfl) rfl ?_
      refine g_iconst (Y := Y9_L_fill) (pc' := 18) dL_fill_17 rfl ?_
      exact GoL.of (g_iret (Y := Y9_L_fill) dL_fill_18 rfl (Nat.le_of_ble_eq_true rfl) (Nat.le_of_ble_eq_true rfl) (Or.inr (Or.inl (⟨hx1, rfl, rfl⟩))))
    · refine ⟨19, by decide +kernel, fun q9 => ?_⟩
      refine g_astore5 (Y := Y9_L_fill) (pc' := 21) dL_fill_19 rfl (Nat.le_of_ble_eq_true rfl) rfl ?_
      refine g_iconst (Y := Y9_L_fill) (pc' := 22) dL_fill_21 rfl ?_
      exact GoL.of (g_iret (Y := Y9_L_fill) dL_fill_22 rfl (Nat.le_of_ble_eq_true rfl) (Nat.le_of_ble_eq_true rfl) (Or.inr (Or.inr (⟨hx1, rfl, rfl⟩))))
abbrev Y9_L_drop : QY := (yL_drop, cL_drop, 4, (some .int), ({ frames := 8, cells := 1, slots := 6, locals := 132 } : Room))
abbrev hh_L_drop : QH := [(0, 9, 12, 13)]
theorem cv_L_23 : q_cv "ScratchMapLaw" 23 Y_X4_drop 1 := ⟨⟨by decide +kernel, by decide +kernel, by decide +kernel⟩, (q_w 646 (by decide +kernel) rfl), (q_w 647 (by decide +kernel) rfl), (q_w 648 (by decide +kernel) rfl), (q_w 1 (by decide +kernel) rfl), (q_w 649 (by decide +kernel) rfl)⟩
theorem xr_x_drop {p : Int} {X : String} (h : x_drop p = some X) : X = xIOB := by
  unfold x_drop at h
  repeat' split at h
  all_goals first | (cases h; first | exact rfl) | cases h
set_option maxHeartbeats 2000000 in
set_option maxRecDepth 100000 in
theorem s_L_drop {l : Launch} {E : QE} (hl9 : l.stackTraces = false) {T : Nat → Nat × Nat} {I : Nat → Nat → Int} {J : Nat → Nat → Int64} {R : Nat → Nat → Option Nat} {n : Nat} (hk : ScB T R n) (hv : XV I) (ho : T 124 = (10, 1)) (p : Int) (h_p : -2147483648 ≤ p ∧ p < 2147483648) : SpL l E Y9_L_drop hh_L_drop [.ref (E.1 + 0), .int (iz p), .ref (E.1 + 124)] (T, I, J, R, n, 0) (fun r1 w1 => (x_drop p = none ∧ r1 = some (.int (iz 0)) ∧ w1 = (T, f_forget (f_save I R) 1 p, u2 (J) 124 0 (iz (f_save I R (1 + 3) p.toNat)).toInt64, f_saveR I R, n, 0)) ∨ (x_drop p = some xIOB ∧ r1 = some (.int (iz 1)) ∧ w1 = (T, I, J, R, n, 0))) := by
  have hk0 := hk
  obtain ⟨a0, a1, a2, a3, a4, a5, a6, a7, a8, a9, a10, a11, a12, a13, a14, a15, a16⟩ := hk
  have b8 := a8.1
  have b9 := a9.1
  have b10 := a10.1
  have b11 := a11.1
  have b12 := a12.1
  refine SpL.of [some (.ref (E.1 + 0)), some (.int (iz p)), some (.ref (E.1 + 124)), none] (by decide +kernel) (Nat.le_of_ble_eq_true rfl) (fun _ h => h) ?_
  refine g_aload2 (Y := Y9_L_drop) (pc' := 1) dL_drop_0 rfl ?_
  refine g_iconst (Y := Y9_L_drop) (pc' := 2) dL_drop_1 rfl ?_
  refine g_aload0 (Y := Y9_L_drop) (pc' := 3) dL_drop_2 rfl ?_
  refine g_iload1 (Y := Y9_L_drop) (pc' := 4) dL_drop_3 rfl ?_
  refine g_callX (Y := Y9_L_drop) (hh := hh_L_drop) (c := 4) (s_X4_drop hl9 hk0 hv p h_p) (pc' := 7) dL_drop_4 rfl cv_L_23 rfl (by assumption) (by show _ < n; omega) ⟨by decide, _, rfl, rfl⟩ rfl rfl rfl rfl (by decide) (q_w 645 (by decide +kernel) rfl) rfl (fun r w1 hr => ?_) (fun X w1 hx => ?_)
  · obtain ⟨hn, rfl, rfl⟩ := hr
    refine g_i2l (Y := Y9_L_drop) (pc' := 8) dL_drop_7 rfl ?_
    refine g_last (Y := Y9_L_drop) (pc' := 9) dL_drop_8 rfl ho (by omega) (by decide) ⟨by omega, by omega⟩ ?_
    refine g_goto (Y := Y9_L_drop) (t := 15) dL_drop_9 (by decide) ?_
    refine g_iconst (Y := Y9_L_drop) (pc' := 16) dL_drop_15 rfl ?_
    exact GoL.of (g_iret (Y := Y9_L_drop) dL_drop_16 rfl (Nat.le_of_ble_eq_true rfl) (Nat.le_of_ble_eq_true rfl) (Or.inl (⟨hn, rfl, rfl⟩)))
  · obtain ⟨hx1, rfl⟩ := hx
    cases xr_x_drop hx1
    · refine ⟨12, by decide +kernel, fun q9 => ?_⟩
      refine g_astore3 (Y := Y9_L_drop) (pc' := 13) dL_drop_12 rfl (Nat.le_of_ble_eq_true rfl) rfl ?_
      refine g_iconst (Y := Y9_L_drop) (pc' := 14) dL_drop_13 rfl ?_
      exact GoL.of (g_iret (Y := Y9_L_drop) dL_drop_14 rfl (Nat.le_of_ble_eq_true rfl) (Nat.le_of_ble_eq_true rfl) (Or.inr (⟨hx1, rfl, rfl⟩)))
abbrev Y9_L_fail : QY := (yL_fail, cL_fail, 5, (some .int), ({ frames := 8, cells := 1, slots := 6, locals := 133 } : Room))
abbrev hh_L_fail : QH := [(0, 10, 13, 15), (0, 10, 17, 17)]
theorem cv_L_27 : q_cv "ScratchMapLaw" 27 Y_X4_fail 2 := ⟨⟨by decide +kernel, by decide +kernel, by decide +kernel⟩, (q_w 654 (by decide +kernel) rfl), (q_w 655 (by decide +kernel) rfl), (q_w 656 (by decide +kernel) rfl), (q_w 1 (by decide +kernel) rfl), (q_w 657 (by decide +kernel) rfl)⟩
theorem xr_x_fail {I : Nat → Nat → Int} {p : Int} {q : Int} {X : String} (h : x_fail I p q = some X) : X = xIAE ∨ X = xISE := by
  unfold x_fail at h
  repeat' split at h
  all_goals first | (cases h; first | exact (Or.inl rfl) | exact (Or.inr rfl)) | cases h
set_option maxHeartbeats 2000000 in
set_option maxRecDepth 100000 in
theorem s_L_fail {l : Launch} {E : QE} (hl9 : l.stackTraces = false) {T : Nat → Nat × Nat} {I : Nat → Nat → Int} {J : Nat → Nat → Int64} {R : Nat → Nat → Option Nat} {n : Nat} (hk : ScB T R n) (hv : XV I) (ho : T 124 = (10, 1)) (p : Int) (h_p : -2147483648 ≤ p ∧ p < 2147483648) (q : Int) (h_q : -2147483648 ≤ q ∧ q < 2147483648) : SpL l E Y9_L_fail hh_L_fail [.ref (E.1 + 0), .int (iz p), .int (iz q), .ref (E.1 + 124)] (T, I, J, R, n, 0) (fun r1 w1 => (x_fail I p q = none ∧ r1 = some (.int (iz 0)) ∧ w1 = (T, (w_fail I J R (p * 24 + q)).1, u2 ((w_fail I J R (p * 24 + q)).2) 124 0 (iz ((w_fail I J R (p * 24 + q)).1 7 6)).toInt64, f_saveR I R, n, 0)) ∨ (x_fail I p q = some xIAE ∧ r1 = some (.int (iz 1)) ∧ w1 = (T, I, J, R, n, 0)) ∨ (x_fail I p q = some xISE ∧ r1 = some (.int (iz 2)) ∧ w1 = (T, I, J, R, n, 0))) := by
  have hk0 := hk
  obtain ⟨a0, a1, a2, a3, a4, a5, a6, a7, a8, a9, a10, a11, a12, a13, a14, a15, a16⟩ := hk
  have b8 := a8.1
  have b9 := a9.1
  have b10 := a10.1
  have b11 := a11.1
  have b12 := a12.1
  refine SpL.of [some (.ref (E.1 + 0)), some (.int (iz p)), some (.int (iz q)), some (.ref (E.1 + 124)), none] (by decide +kernel) (Nat.le_of_ble_eq_true rfl) (fun _ h => h) ?_
  refine g_aload3 (Y := Y9_L_fail) (pc' := 1) dL_fail_0 rfl ?_
  refine g_iconst (Y := Y9_L_fail) (pc' := 2) dL_fail_1 rfl ?_
  refine g_aload0 (Y := Y9_L_fail) (pc' := 3) dL_fail_2 rfl ?_
  refine g_iload1 (Y := Y9_L_fail) (pc' := 4) dL_fail_3 rfl ?_
  refine g_iload2 (Y := Y9_L_fail) (pc' := 5) dL_fail_4 rfl ?_
  refine g_callX (Y := Y9_L_fail) (hh := hh_L_fail) (c := 4) (s_X4_fail hl9 hk0 hv p h_p q h_q) (pc' := 8) dL_fail_5 rfl cv_L_27 rfl (by assumption) (by show _ < n; omega) ⟨by decide, _, rfl, rfl⟩ rfl rfl rfl rfl (by decide) (q_w 653 (by decide +kernel) rfl) rfl (fun r w1 hr => ?_) (fun X w1 hx => ?_)
  · obtain ⟨hn, rfl, rfl⟩ := hr
    refine g_i2l (Y := Y9_L_fail) (pc' := 9) dL_fail_8 rfl ?_
    refine g_last (Y := Y9_L_fail) (pc' := 10) dL_fail_9 rfl ho (by omega) (by decide) ⟨by omega, by omega⟩ ?_
    refine g_goto (Y := Y9_L_fail) (t := 21) dL_fail_10 (by decide) ?_
    refine g_iconst (Y := Y9_L_fail) (pc' := 22) dL_fail_21 rfl ?_
    exact GoL.of (g_iret (Y := Y9_L_fail) dL_fail_22 rfl (Nat.le_of_ble_eq_true rfl) (Nat.le_of_ble_eq_true rfl) (Or.inl (⟨hn, rfl, rfl⟩)))
  · obtain ⟨hx1, rfl⟩ := hx
    rcases xr_x_fail hx1 with rfl | rfl
    · refine ⟨13, by decide +kernel, fun q9 => ?_⟩
      refine g_astore4 (Y := Y9_L_fail) (pc' := 15) dL_fail_13 rfl (Nat.le_of_ble_eq_true rfl) rfl ?_
      refine g_iconst (Y := Y9_L_fail) (pc' := 16) dL_fail_15 rfl ?_
      exact GoL.of (g_iret (Y := Y9_L_fail) dL_fail_16 rfl (Nat.le_of_ble_eq_true rfl) (Nat.le_of_ble_eq_true rfl) (Or.inr (Or.inl (⟨hx1, rfl, rfl⟩))))
    · refine ⟨17, by decide +kernel, fun q9 => ?_⟩
      refine g_astore4 (Y := Y9_L_fail) (pc' := 19) dL_fail_17 rfl (Nat.le_of_ble_eq_true rfl) rfl ?_
      refine g_iconst (Y := Y9_L_fail) (pc' := 20) dL_fail_19 rfl ?_
      exact GoL.of (g_iret (Y := Y9_L_fail) dL_fail_20 rfl (Nat.le_of_ble_eq_true rfl) (Nat.le_of_ble_eq_true rfl) (Or.inr (Or.inr (⟨hx1, rfl, rfl⟩))))
abbrev Y9_L_heal : QY := (yL_heal, cL_heal, 5, (some .int), ({ frames := 8, cells := 1, slots := 6, locals := 133 } : Room))
abbrev hh_L_heal : QH := [(0, 10, 13, 15), (0, 10, 17, 17)]
theorem cv_L_30 : q_cv "ScratchMapLaw" 30 Y_X4_heal 2 := ⟨⟨by decide +kernel, by decide +kernel, by decide +kernel⟩, (q_w 665 (by decide +kernel) rfl), (q_w 666 (by decide +kernel) rfl), (q_w 667 (by decide +kernel) rfl), (q_w 1 (by decide +kernel) rfl), (q_w 668 (by decide +kernel) rfl)⟩
theorem xr_x_heal {I : Nat → Nat → Int} {p : Int} {q : Int} {X : String} (h : x_heal I p q = some X) : X = xIAE ∨ X = xISE := by
  unfold x_heal at h
  repeat' split at h
  all_goals first | (cases h; first | exact (Or.inl rfl) | exact (Or.inr rfl)) | cases h
set_option maxHeartbeats 2000000 in
set_option maxRecDepth 100000 in
theorem s_L_heal {l : Launch} {E : QE} (hl9 : l.stackTraces = false) {T : Nat → Nat × Nat} {I : Nat → Nat → Int} {J : Nat → Nat → Int64} {R : Nat → Nat → Option Nat} {n : Nat} (hk : ScB T R n) (hv : XV I) (ho : T 124 = (10, 1)) (p : Int) (h_p : -2147483648 ≤ p ∧ p < 2147483648) (q : Int) (h_q : -2147483648 ≤ q ∧ q < 2147483648) : SpL l E Y9_L_heal hh_L_heal [.ref (E.1 + 0), .int (iz p), .int (iz q), .ref (E.1 + 124)] (T, I, J, R, n, 0) (fun r1 w1 => (x_heal I p q = none ∧ r1 = some (.int (iz 0)) ∧ w1 = (T, (w_heal I J R (p * 24 + q)).1, u2 ((w_heal I J R (p * 24 + q)).2) 124 0 (iz ((w_heal I J R (p * 24 + q)).1 7 6)).toInt64, f_saveR I R, n, 0)) ∨ (x_heal I p q = some xIAE ∧ r1 = some (.int (iz 1)) ∧ w1 = (T, I, J, R, n, 0)) ∨ (x_heal I p q = some xISE ∧ r1 = some (.int (iz 2)) ∧ w1 = (T, I, J, R, n, 0))) := by
  have hk0 := hk
  obtain ⟨a0, a1, a2, a3, a4, a5, a6, a7, a8, a9, a10, a11, a12, a13, a14, a15, a16⟩ := hk
  have b8 := a8.1
  have b9 := a9.1
  have b10 := a10.1
  have b11 := a11.1
  have b12 := a12.1
  refine SpL.of [some (.ref (E.1 + 0)), some (.int (iz p)), some (.int (iz q)), some (.ref (E.1 + 124)), none] (by decide +kernel) (Nat.le_of_ble_eq_true rfl) (fun _ h => h) ?_
  refine g_aload3 (Y := Y9_L_heal) (pc' := 1) dL_heal_0 rfl ?_
  refine g_iconst (Y := Y9_L_heal) (pc' := 2) dL_heal_1 rfl ?_
  refine g_aload0 (Y := Y9_L_heal) (pc' := 3) dL_heal_2 rfl ?_
  refine g_iload1 (Y := Y9_L_heal) (pc' := 4) dL_heal_3 rfl ?_
  refine g_iload2 (Y := Y9_L_heal) (pc' := 5) dL_heal_4 rfl ?_
  refine g_callX (Y := Y9_L_heal) (hh := hh_L_heal) (c := 4) (s_X4_heal hl9 hk0 hv p h_p q h_q) (pc' := 8) dL_heal_5 rfl cv_L_30 rfl (by assumption) (by show _ < n; omega) ⟨by decide, _, rfl, rfl⟩ rfl rfl rfl rfl (by decide) (q_w 664 (by decide +kernel) rfl) rfl (fun r w1 hr => ?_) (fun X w1 hx => ?_)
  · obtain ⟨hn, rfl, rfl⟩ := hr
    refine g_i2l (Y := Y9_L_heal) (pc' := 9) dL_heal_8 rfl ?_
    refine g_last (Y := Y9_L_heal) (pc' := 10) dL_heal_9 rfl ho (by omega) (by decide) ⟨by omega, by omega⟩ ?_
    refine g_goto (Y := Y9_L_heal) (t := 21) dL_heal_10 (by decide) ?_
    refine g_iconst (Y := Y9_L_heal) (pc' := 22) dL_heal_21 rfl ?_
    exact GoL.of (g_iret (Y := Y9_L_heal) dL_heal_22 rfl (Nat.le_of_ble_eq_true rfl) (Nat.le_of_ble_eq_true rfl) (Or.inl (⟨hn, rfl, rfl⟩)))
  · obtain ⟨hx1, rfl⟩ := hx
    rcases xr_x_heal hx1 with rfl | rfl
    · refine ⟨13, by decide +kernel, fun q9 => ?_⟩
      refine g_astore4 (Y := Y9_L_heal) (pc' := 15) dL_heal_13 rfl (Nat.le_of_ble_eq_true rfl) rfl ?_
      refine g_iconst (Y := Y9_L_heal) (pc' := 16) dL_heal_15 rfl ?_
      exact GoL.of (g_iret (Y := Y9_L_heal) dL_heal_16 rfl (Nat.le_of_ble_eq_true rfl) (Nat.le_of_ble_eq_true rfl) (Or.inr (Or.inl (⟨hx1, rfl, rfl⟩))))
    · refine ⟨17, by decide +kernel, fun q9 => ?_⟩
      refine g_astore4 (Y := Y9_L_heal) (pc' := 19) dL_heal_17 rfl (Nat.le_of_ble_eq_true rfl) rfl ?_
      refine g_iconst (Y := Y9_L_heal) (pc' := 20) dL_heal_19 rfl ?_
      exact GoL.of (g_iret (Y := Y9_L_heal) dL_heal_20 rfl (Nat.le_of_ble_eq_true rfl) (Nat.le_of_ble_eq_true rfl) (Or.inr (Or.inr (⟨hx1, rfl, rfl⟩))))
abbrev Y9_L_tidy : QY := (yL_tidy, cL_tidy, 4, (some .int), ({ frames := 8, cells := 1, slots := 6, locals := 132 } : Room))
abbrev hh_L_tidy : QH := [(0, 9, 12, 15)]
theorem cv_L_33 : q_cv "ScratchMapLaw" 33 Y_X4_tidy 1 := ⟨⟨by decide +kernel, by decide +kernel, by decide +kernel⟩, (q_w 678 (by decide +kernel) rfl), (q_w 679 (by decide +kernel) rfl), (q_w 680 (by decide +kernel) rfl), (q_w 1 (by decide +kernel) rfl), (q_w 681 (by decide +kernel) rfl)⟩
theorem xr_x_tidy {p : Int} {X : String} (h : x_tidy p = some X) : X = xIAE := by
  unfold x_tidy at h
  repeat' split at h
  all_goals first | (cases h; first | exact rfl) | cases h
set_option maxHeartbeats 2000000 in
set_option maxRecDepth 100000 in
theorem s_L_tidy {l : Launch} {E : QE} (hl9 : l.stackTraces = false) {T : Nat → Nat × Nat} {I : Nat → Nat → Int} {J : Nat → Nat → Int64} {R : Nat → Nat → Option Nat} {n : Nat} (hk : ScB T R n) (hv : XV I) (ho : T 124 = (10, 1)) (p : Int) (h_p : -2147483648 ≤ p ∧ p < 2147483648) : SpL l E Y9_L_tidy hh_L_tidy [.ref (E.1 + 0), .int (iz p), .ref (E.1 + 124)] (T, I, J, R, n, 0) (fun r1 w1 => (x_tidy p = none ∧ r1 = some (.int (iz 0)) ∧ w1 = (T, (f_tidyUp (f_save I R) 1 7 p).2, u2 (J) 124 0 (iz ((f_tidyUp (f_save I R) 1 7 p).1)).toInt64, f_saveR I R, n, 0)) ∨ (x_tidy p = some xIAE ∧ r1 = some (.int (iz 1)) ∧ w1 = (T, I, J, R, n, 0))) := by
  have hk0 := hk
  obtain ⟨a0, a1, a2, a3, a4, a5, a6, a7, a8, a9, a10, a11, a12, a13, a14, a15, a16⟩ := hk
  have b8 := a8.1
  have b9 := a9.1
  have b10 := a10.1
  have b11 := a11.1
  have b12 := a12.1
  refine SpL.of [some (.ref (E.1 + 0)), some (.int (iz p)), some (.ref (E.1 + 124)), none] (by decide +kernel) (Nat.le_of_ble_eq_true rfl) (fun _ h => h) ?_
  refine g_aload2 (Y := Y9_L_tidy) (pc' := 1) dL_tidy_0 rfl ?_
  refine g_iconst (Y := Y9_L_tidy) (pc' := 2) dL_tidy_1 rfl ?_
  refine g_aload0 (Y := Y9_L_tidy) (pc' := 3) dL_tidy_2 rfl ?_
  refine g_iload1 (Y := Y9_L_tidy) (pc' := 4) dL_tidy_3 rfl ?_
  refine g_callX (Y := Y9_L_tidy) (hh := hh_L_tidy) (c := 4) (s_X4_tidy hl9 hk0 hv p h_p) (pc' := 7) dL_tidy_4 rfl cv_L_33 rfl (by assumption) (by show _ < n; omega) ⟨by decide, _, rfl, rfl⟩ rfl rfl rfl rfl (by decide) (q_w 677 (by decide +kernel) rfl) rfl (fun r w1 hr => ?_) (fun X w1 hx => ?_)
  · obtain ⟨hn, rfl, rfl⟩ := hr
    refine g_i2l (Y := Y9_L_tidy) (pc' := 8) dL_tidy_7 rfl ?_
    refine g_last (Y := Y9_L_tidy) (pc' := 9) dL_tidy_8 rfl ho (by omega) (by decide) ⟨by omega, by omega⟩ ?_
    refine g_goto (Y := Y9_L_tidy) (t := 15) dL_tidy_9 (by decide) ?_
    refine g_iconst (Y := Y9_L_tidy) (pc' := 16) dL_tidy_15 rfl ?_
    exact GoL.of (g_iret (Y := Y9_L_tidy) dL_tidy_16 rfl (Nat.le_of_ble_eq_true rfl) (Nat.le_of_ble_eq_true rfl) (Or.inl (⟨hn, rfl, rfl⟩)))
  · obtain ⟨hx1, rfl⟩ := hx
    cases xr_x_tidy hx1
    · refine ⟨12, by decide +kernel, fun q9 => ?_⟩
      refine g_astore3 (Y := Y9_L_tidy) (pc' := 13) dL_tidy_12 rfl (Nat.le_of_ble_eq_true rfl) rfl ?_
      refine g_iconst (Y := Y9_L_tidy) (pc' := 14) dL_tidy_13 rfl ?_
      exact GoL.of (g_iret (Y := Y9_L_tidy) dL_tidy_14 rfl (Nat.le_of_ble_eq_true rfl) (Nat.le_of_ble_eq_true rfl) (Or.inr (⟨hx1, rfl, rfl⟩)))
abbrev Y9_L_set : QY := (yL_set, cL_set, 5, (some .int), ({ frames := 8, cells := 1, slots := 6, locals := 133 } : Room))
abbrev hh_L_set : QH := [(0, 10, 13, 13), (0, 10, 17, 15)]
theorem cv_L_36 : q_cv "ScratchMapLaw" 36 Y_X4_set 2 := ⟨⟨by decide +kernel, by decide +kernel, by decide +kernel⟩, (q_w 686 (by decide +kernel) rfl), (q_w 687 (by decide +kernel) rfl), (q_w 688 (by decide +kernel) rfl), (q_w 1 (by decide +kernel) rfl), (q_w 689 (by decide +kernel) rfl)⟩
theorem xr_x_set {p : Int} {v : Int} {X : String} (h : x_set p v = some X) : X = xIOB ∨ X = xIAE := by
  unfold x_set at h
  repeat' split at h
  all_goals first | (cases h; first | exact (Or.inl rfl) | exact (Or.inr rfl)) | cases h
set_option maxHeartbeats 2000000 in
set_option maxRecDepth 100000 in
theorem s_L_set {l : Launch} {E : QE} (hl9 : l.stackTraces = false) {T : Nat → Nat × Nat} {I : Nat → Nat → Int} {J : Nat → Nat → Int64} {R : Nat → Nat → Option Nat} {n : Nat} (hk : ScB T R n) (hv : XV I) (ho : T 124 = (10, 1)) (p : Int) (h_p : -2147483648 ≤ p ∧ p < 2147483648) (v : Int) (h_v : -2147483648 ≤ v ∧ v < 2147483648) : SpL l E Y9_L_set hh_L_set [.ref (E.1 + 0), .int (iz p), .int (iz v), .ref (E.1 + 124)] (T, I, J, R, n, 0) (fun r1 w1 => (x_set p v = none ∧ r1 = some (.int (iz 0)) ∧ w1 = (T, (w_set I J R p v).1, u2 ((w_set I J R p v).2) 124 0 (iz (f_save I R (1 + 2) p.toNat)).toInt64, f_saveR I R, n, 0)) ∨ (x_set p v = some xIOB ∧ r1 = some (.int (iz 1)) ∧ w1 = (T, I, J, R, n, 0)) ∨ (x_set p v = some xIAE ∧ r1 = some (.int (iz 2)) ∧ w1 = (T, I, J, R, n, 0))) := by
  have hk0 := hk
  obtain ⟨a0, a1, a2, a3, a4, a5, a6, a7, a8, a9, a10, a11, a12, a13, a14, a15, a16⟩ := hk
  have b8 := a8.1
  have b9 := a9.1
  have b10 := a10.1
  have b11 := a11.1
  have b12 := a12.1
  refine SpL.of [some (.ref (E.1 + 0)), some (.int (iz p)), some (.int (iz v)), some (.ref (E.1 + 124)), none] (by decide +kernel) (Nat.le_of_ble_eq_true rfl) (fun _ h => h) ?_
  refine g_aload3 (Y := Y9_L_set) (pc' := 1) dL_set_0 rfl ?_
  refine g_iconst (Y := Y9_L_set) (pc' := 2) dL_set_1 rfl ?_
  refine g_aload0 (Y := Y9_L_set) (pc' := 3) dL_set_2 rfl ?_
  refine g_iload1 (Y := Y9_L_set) (pc' := 4) dL_set_3 rfl ?_
  refine g_iload2 (Y := Y9_L_set) (pc' := 5) dL_set_4 rfl ?_
  refine g_callX (Y := Y9_L_set) (hh := hh_L_set) (c := 4) (s_X4_set hl9 hk0 hv p h_p v h_v) (pc' := 8) dL_set_5 rfl cv_L_36 rfl (by assumption) (by show _ < n; omega) ⟨by decide, _, rfl, rfl⟩ rfl rfl rfl rfl (by decide) (q_w 685 (by decide +kernel) rfl) rfl (fun r w1 hr => ?_) (fun X w1 hx => ?_)
  · obtain ⟨hn, rfl, rfl⟩ := hr
    refine g_i2l (Y := Y9_L_set) (pc' := 9) dL_set_8 rfl ?_
    refine g_last (Y := Y9_L_set) (pc' := 10) dL_set_9 rfl ho (by omega) (by decide) ⟨by omega, by omega⟩ ?_
    refine g_goto (Y := Y9_L_set) (t := 21) dL_set_10 (by decide) ?_
    refine g_iconst (Y := Y9_L_set) (pc' := 22) dL_set_21 rfl ?_
    exact GoL.of (g_iret (Y := Y9_L_set) dL_set_22 rfl (Nat.le_of_ble_eq_true rfl) (Nat.le_of_ble_eq_true rfl) (Or.inl (⟨hn, rfl, rfl⟩)))
  · obtain ⟨hx1, rfl⟩ := hx
    rcases xr_x_set hx1 with rfl | rfl
    · refine ⟨13, by decide +kernel, fun q9 => ?_⟩
      refine g_astore4 (Y := Y9_L_set) (pc' := 15) dL_set_13 rfl (Nat.le_of_ble_eq_true rfl) rfl ?_
      refine g_iconst (Y := Y9_L_set) (pc' := 16) dL_set_15 rfl ?_
      exact GoL.of (g_iret (Y := Y9_L_set) dL_set_16 rfl (Nat.le_of_ble_eq_true rfl) (Nat.le_of_ble_eq_true rfl) (Or.inr (Or.inl (⟨hx1, rfl, rfl⟩))))
    · refine ⟨17, by decide +kernel, fun q9 => ?_⟩
      refine g_astore4 (Y := Y9_L_set) (pc' := 19) dL_set_17 rfl (Nat.le_of_ble_eq_true rfl) rfl ?_
      refine g_iconst (Y := Y9_L_set) (pc' := 20) dL_set_19 rfl ?_
      exact GoL.of (g_iret (Y := Y9_L_set) dL_set_20 rfl (Nat.le_of_ble_eq_true rfl) (Nat.le_of_ble_eq_true rfl) (Or.inr (Or.inr (⟨hx1, rfl, rfl⟩))))
abbrev Y9_L_append : QY := (yL_append, cL_append, 4, (some .int), ({ frames := 8, cells := 1, slots := 6, locals := 131 } : Room))
abbrev hh_L_append : QH := [(0, 9, 12, 15), (0, 9, 15, 17)]
theorem cv_L_39 : q_cv "ScratchMapLaw" 39 Y_X4_append 1 := ⟨⟨by decide +kernel, by decide +kernel, by decide +kernel⟩, (q_w 707 (by decide +kernel) rfl), (q_w 708 (by decide +kernel) rfl), (q_w 709 (by decide +kernel) rfl), (q_w 1 (by decide +kernel) rfl), (q_w 710 (by decide +kernel) rfl)⟩
theorem xr_x_append {I : Nat → Nat → Int} {p : Int} {X : String} (h : x_append I p = some X) : X = xIAE ∨ X = xISE := by
  unfold x_append at h
  repeat' split at h
  all_goals first | (cases h; first | exact (Or.inl rfl) | exact (Or.inr rfl)) | cases h
set_option maxHeartbeats 2000000 in
set_option maxRecDepth 100000 in
theorem s_L_append {l : Launch} {E : QE} (hl9 : l.stackTraces = false) {T : Nat → Nat × Nat} {I : Nat → Nat → Int} {J : Nat → Nat → Int64} {R : Nat → Nat → Option Nat} {n : Nat} (hk : ScB T R n) (hv : XV I) (ho : T 124 = (10, 1)) (p : Int) (h_p : -2147483648 ≤ p ∧ p < 2147483648) : SpL l E Y9_L_append hh_L_append [.ref (E.1 + 0), .int (iz p), .ref (E.1 + 124)] (T, I, J, R, n, 0) (fun r1 w1 => (x_append I p = none ∧ r1 = some (.int (iz 0)) ∧ w1 = (T, f_type I 36 p, u2 (J) 124 0 (iz (f_type I 36 p 36 3)).toInt64, R, n, 0)) ∨ (x_append I p = some xIAE ∧ r1 = some (.int (iz 1)) ∧ w1 = (T, I, J, R, n, 0)) ∨ (x_append I p = some xISE ∧ r1 = some (.int (iz 2)) ∧ w1 = (T, I, J, R, n, 0))) := by
  have hk0 := hk
  obtain ⟨a0, a1, a2, a3, a4, a5, a6, a7, a8, a9, a10, a11, a12, a13, a14, a15, a16⟩ := hk
  have b8 := a8.1
  have b9 := a9.1
  have b10 := a10.1
  have b11 := a11.1
  have b12 := a12.1
  refine SpL.of [some (.ref (E.1 + 0)), some (.int (iz p)), some (.ref (E.1 + 124)), none] (by decide +kernel) (Nat.le_of_ble_eq_true rfl) (fun _ h => h) ?_
  refine g_aload2 (Y := Y9_L_append) (pc' := 1) dL_append_0 rfl ?_
  refine g_iconst (Y := Y9_L_append) (pc' := 2) dL_append_1 rfl ?_
  refine g_aload0 (Y := Y9_L_append) (pc' := 3) dL_append_2 rfl ?_
  refine g_iload1 (Y := Y9_L_append) (pc' := 4) dL_append_3 rfl ?_
  refine g_callX (Y := Y9_L_append) (hh := hh_L_append) (c := 4) (s_X4_append hl9 hk0 hv p h_p) (pc' := 7) dL_append_4 rfl cv_L_39 rfl (by assumption) (by show _ < n; omega) ⟨by decide, _, rfl, rfl⟩ rfl rfl rfl rfl (by decide) (q_w 706 (by decide +kernel) rfl) rfl (fun r w1 hr => ?_) (fun X w1 hx => ?_)
  · obtain ⟨hn, rfl, rfl⟩ := hr
    refine g_i2l (Y := Y9_L_append) (pc' := 8) dL_append_7 rfl ?_
    refine g_last (Y := Y9_L_append) (pc' := 9) dL_append_8 rfl ho (by omega) (by decide) ⟨by omega, by omega⟩ ?_
    refine g_goto (Y := Y9_L_append) (t := 18) dL_append_9 (by decide) ?_
    refine g_iconst (Y := Y9_L_append) (pc' := 19) dL_append_18 rfl ?_
    exact GoL.of (g_iret (Y := Y9_L_append) dL_append_19 rfl (Nat.le_of_ble_eq_true rfl) (Nat.le_of_ble_eq_true rfl) (Or.inl (⟨hn, rfl, rfl⟩)))
  · obtain ⟨hx1, rfl⟩ := hx
    rcases xr_x_append hx1 with rfl | rfl
    · refine ⟨12, by decide +kernel, fun q9 => ?_⟩
      refine g_astore3 (Y := Y9_L_append) (pc' := 13) dL_append_12 rfl (Nat.le_of_ble_eq_true rfl) rfl ?_
      refine g_iconst (Y := Y9_L_append) (pc' := 14) dL_append_13 rfl ?_
      exact GoL.of (g_iret (Y := Y9_L_append) dL_append_14 rfl (Nat.le_of_ble_eq_true rfl) (Nat.le_of_ble_eq_true rfl) (Or.inr (Or.inl (⟨hx1, rfl, rfl⟩))))
    · refine ⟨15, by decide +kernel, fun q9 => ?_⟩
      refine g_astore3 (Y := Y9_L_append) (pc' := 16) dL_append_15 rfl (Nat.le_of_ble_eq_true rfl) rfl ?_
      refine g_iconst (Y := Y9_L_append) (pc' := 17) dL_append_16 rfl ?_
      exact GoL.of (g_iret (Y := Y9_L_append) dL_append_17 rfl (Nat.le_of_ble_eq_true rfl) (Nat.le_of_ble_eq_true rfl) (Or.inr (Or.inr (⟨hx1, rfl, rfl⟩))))
abbrev Y9_L_read : QY := (yL_read, cL_read, 3, (some .int), ({ frames := 8, cells := 1, slots := 6, locals := 131 } : Room))
abbrev hh_L_read : QH := [(0, 8, 11, 15)]
theorem cv_L_42 : q_cv "ScratchMapLaw" 42 Y_X4_read 0 := ⟨⟨by decide +kernel, by decide +kernel, by decide +kernel⟩, (q_w 727 (by decide +kernel) rfl), (q_w 728 (by decide +kernel) rfl), (q_w 729 (by decide +kernel) rfl), (q_w 1 (by decide +kernel) rfl), (q_w 730 (by decide +kernel) rfl)⟩
theorem xr_x_read {I : Nat → Nat → Int} {X : String} (h : x_read I = some X) : X = xIAE := by
  unfold x_read at h
  repeat' split at h
  all_goals first | (cases h; first | exact rfl) | cases h
set_option maxHeartbeats 2000000 in
set_option maxRecDepth 100000 in
theorem s_L_read {l : Launch} {E : QE} (hl9 : l.stackTraces = false) {T : Nat → Nat × Nat} {I : Nat → Nat → Int} {J : Nat → Nat → Int64} {R : Nat → Nat → Option Nat} {n : Nat} (hk : ScB T R n) (hv : XV I) (ho : T 124 = (10, 1)) : SpL l E Y9_L_read hh_L_read [.ref (E.1 + 0), .ref (E.1 + 124)] (T, I, J, R, n, 0) (fun r1 w1 => (x_read I = none ∧ r1 = some (.int (iz 0)) ∧ w1 = (T, (w_read I J R).1, u2 ((w_read I J R).2) 124 0 (iz ((f_rd I R).1)).toInt64, f_saveR (f_tells I 36).2 R, n, 0)) ∨ (x_read I = some xIAE ∧ r1 = some (.int (iz 1)) ∧ w1 = (T, (f_tells I 36).2, J, R, n, 0))) := by
  have hk0 := hk
  obtain ⟨a0, a1, a2, a3, a4, a5, a6, a7, a8, a9, a10, a11, a12, a13, a14, a15, a16⟩ := hk
  have b8 := a8.1
  have b9 := a9.1
  have b10 := a10.1
  have b11 := a11.1
  have b12 := a12.1
  refine SpL.of [some (.ref (E.1 + 0)), some (.ref (E.1 + 124)), none] (by decide +kernel) (Nat.le_of_ble_eq_true rfl) (fun _ h => h) ?_
  refine g_aload1 (Y := Y9_L_read) (pc' := 1) dL_read_0 rfl ?_
  refine g_iconst (Y := Y9_L_read) (pc' := 2) dL_read_1 rfl ?_
  refine g_aload0 (Y := Y9_L_read) (pc' := 3) dL_read_2 rfl ?_
  refine g_callX (Y := Y9_L_read) (hh := hh_L_read) (c := 4) (s_X4_read hl9 hk0 hv ) (pc' := 6) dL_read_3 rfl cv_L_42 rfl (by assumption) (by show _ < n; omega) ⟨by decide, _, rfl, rfl⟩ rfl rfl rfl rfl (by decide) (q_w 726 (by decide +kernel) rfl) rfl (fun r w1 hr => ?_) (fun X w1 hx => ?_)
  · obtain ⟨hn, rfl, rfl⟩ := hr
    refine g_i2l (Y := Y9_L_read) (pc' := 7) dL_read_6 rfl ?_
    refine g_last (Y := Y9_L_read) (pc' := 8) dL_read_7 rfl ho (by omega) (by decide) ⟨by omega, by omega⟩ ?_
    refine g_goto (Y := Y9_L_read) (t := 14) dL_read_8 (by decide) ?_
    refine g_iconst (Y := Y9_L_read) (pc' := 15) dL_read_14 rfl ?_
    exact GoL.of (g_iret (Y := Y9_L_read) dL_read_15 rfl (Nat.le_of_ble_eq_true rfl) (Nat.le_of_ble_eq_true rfl) (Or.inl (⟨hn, rfl, rfl⟩)))
  · obtain ⟨hx1, rfl⟩ := hx
    cases xr_x_read hx1
    · refine ⟨11, by decide +kernel, fun q9 => ?_⟩
      refine g_astore2 (Y := Y9_L_read) (pc' := 12) dL_read_11 rfl (Nat.le_of_ble_eq_true rfl) rfl ?_
      refine g_iconst (Y := Y9_L_read) (pc' := 13) dL_read_12 rfl ?_
      exact GoL.of (g_iret (Y := Y9_L_read) dL_read_13 rfl (Nat.le_of_ble_eq_true rfl) (Nat.le_of_ble_eq_true rfl) (Or.inr (⟨hx1, rfl, rfl⟩)))
abbrev Y9_L_undo : QY := (yL_undo, cL_undo, 3, (some .int), ({ frames := 8, cells := 1, slots := 6, locals := 131 } : Room))
abbrev hh_L_undo : QH := [(0, 8, 11, 17)]
theorem cv_L_46 : q_cv "ScratchMapLaw" 46 Y_X4_undo 0 := ⟨⟨by decide +kernel, by decide +kernel, by decide +kernel⟩, (q_w 752 (by decide +kernel) rfl), (q_w 753 (by decide +kernel) rfl), (q_w 754 (by decide +kernel) rfl), (q_w 1 (by decide +kernel) rfl), (q_w 755 (by decide +kernel) rfl)⟩
theorem xr_x_undo {I : Nat → Nat → Int} {X : String} (h : x_undo I = some X) : X = xISE := by
  unfold x_undo at h
  repeat' split at h
  all_goals first | (cases h; first | exact rfl) | cases h
set_option maxHeartbeats 2000000 in
set_option maxRecDepth 100000 in
theorem s_L_undo {l : Launch} {E : QE} (hl9 : l.stackTraces = false) {T : Nat → Nat × Nat} {I : Nat → Nat → Int} {J : Nat → Nat → Int64} {R : Nat → Nat → Option Nat} {n : Nat} (hk : ScB T R n) (hv : XV I) (ho : T 124 = (10, 1)) : SpL l E Y9_L_undo hh_L_undo [.ref (E.1 + 0), .ref (E.1 + 124)] (T, I, J, R, n, 0) (fun r1 w1 => (x_undo I = none ∧ r1 = some (.int (iz 0)) ∧ w1 = (T, u2 (w_undo I J R).1 0 3 (I 0 3 - 1), u2 ((w_undo I J R).2) 124 0 (iz (I 0 3 - 1)).toInt64, R, n, 0)) ∨ (x_undo I = some xISE ∧ r1 = some (.int (iz 1)) ∧ w1 = (T, I, J, R, n, 0))) := by
  have hk0 := hk
  obtain ⟨a0, a1, a2, a3, a4, a5, a6, a7, a8, a9, a10, a11, a12, a13, a14, a15, a16⟩ := hk
  have b8 := a8.1
  have b9 := a9.1
  have b10 := a10.1
  have b11 := a11.1
  have b12 := a12.1
  refine SpL.of [some (.ref (E.1 + 0)), some (.ref (E.1 + 124)), none] (by decide +kernel) (Nat.le_of_ble_eq_true rfl) (fun _ h => h) ?_
  refine g_aload1 (Y := Y9_L_undo) (pc' := 1) dL_undo_0 rfl ?_
  refine g_iconst (Y := Y9_L_undo) (pc' := 2) dL_undo_1 rfl ?_
  refine g_aload0 (Y := Y9_L_undo) (pc' := 3) dL_undo_2 rfl ?_
  refine g_callX (Y := Y9_L_undo) (hh := hh_L_undo) (c := 4) (s_X4_undo hl9 hk0 hv ) (pc' := 6) dL_undo_3 rfl cv_L_46 rfl (by assumption) (by show _ < n; omega) ⟨by decide, _, rfl, rfl⟩ rfl rfl rfl rfl (by decide) (q_w 751 (by decide +kernel) rfl) rfl (fun r w1 hr => ?_) (fun X w1 hx => ?_)
  · obtain ⟨hn, rfl, rfl⟩ := hr
    refine g_i2l (Y := Y9_L_undo) (pc' := 7) dL_undo_6 rfl ?_
    refine g_last (Y := Y9_L_undo) (pc' := 8) dL_undo_7 rfl ho (by omega) (by decide) ⟨by omega, by omega⟩ ?_
    refine g_goto (Y := Y9_L_undo) (t := 14) dL_undo_8 (by decide) ?_
    refine g_iconst (Y := Y9_L_undo) (pc' := 15) dL_undo_14 rfl ?_
    exact GoL.of (g_iret (Y := Y9_L_undo) dL_undo_15 rfl (Nat.le_of_ble_eq_true rfl) (Nat.le_of_ble_eq_true rfl) (Or.inl (⟨hn, rfl, rfl⟩)))
  · obtain ⟨hx1, rfl⟩ := hx
    cases xr_x_undo hx1
    · refine ⟨11, by decide +kernel, fun q9 => ?_⟩
      refine g_astore2 (Y := Y9_L_undo) (pc' := 12) dL_undo_11 rfl (Nat.le_of_ble_eq_true rfl) rfl ?_
      refine g_iconst (Y := Y9_L_undo) (pc' := 13) dL_undo_12 rfl ?_
      exact GoL.of (g_iret (Y := Y9_L_undo) dL_undo_13 rfl (Nat.le_of_ble_eq_true rfl) (Nat.le_of_ble_eq_true rfl) (Or.inr (⟨hx1, rfl, rfl⟩)))
abbrev Y9_L_cell : QY := (yL_cell, cL_cell, 6, (some .int), ({ frames := 8, cells := 1, slots := 6, locals := 134 } : Room))
abbrev hh_L_cell : QH := [(0, 12, 15, 15)]
theorem cv_L_49 : q_cv "ScratchMapLaw" 49 Y_X4_cell 3 := ⟨⟨by decide +kernel, by decide +kernel, by decide +kernel⟩, (q_w 760 (by decide +kernel) rfl), (q_w 761 (by decide +kernel) rfl), (q_w 762 (by decide +kernel) rfl), (q_w 1 (by decide +kernel) rfl), (q_w 763 (by decide +kernel) rfl)⟩
theorem xr_x_cell {p : Int} {q : Int} {w : Int} {X : String} (h : x_cell p q w = some X) : X = xIAE := by
  unfold x_cell at h
  repeat' split at h
  all_goals first | (cases h; first | exact rfl) | cases h
set_option maxHeartbeats 2000000 in
set_option maxRecDepth 100000 in
theorem s_L_cell {l : Launch} {E : QE} (hl9 : l.stackTraces = false) {T : Nat → Nat × Nat} {I : Nat → Nat → Int} {J : Nat → Nat → Int64} {R : Nat → Nat → Option Nat} {n : Nat} (hk : ScB T R n) (hv : XV I) (ho : T 124 = (10, 1)) (p : Int) (h_p : -2147483648 ≤ p ∧ p < 2147483648) (q : Int) (h_q : -2147483648 ≤ q ∧ q < 2147483648) (w : Int) (h_w : -2147483648 ≤ w ∧ w < 2147483648) : SpL l E Y9_L_cell hh_L_cell [.ref (E.1 + 0), .int (iz p), .int (iz q), .int (iz w), .ref (E.1 + 124)] (T, I, J, R, n, 0) (fun r1 w1 => (x_cell p q w = none ∧ r1 = some (.int (iz 0)) ∧ w1 = (T, I, u2 (J) 124 0 (iz (f_cell I (p * 24 + q) w.toNat)).toInt64, R, n, 0)) ∨ (x_cell p q w = some xIAE ∧ r1 = some (.int (iz 1)) ∧ w1 = (T, I, J, R, n, 0))) := by
  have hk0 := hk
  obtain ⟨a0, a1, a2, a3, a4, a5, a6, a7, a8, a9, a10, a11, a12, a13, a14, a15, a16⟩ := hk
  have b8 := a8.1
  have b9 := a9.1
  have b10 := a10.1
  have b11 := a11.1
  have b12 := a12.1
  refine SpL.of [some (.ref (E.1 + 0)), some (.int (iz p)), some (.int (iz q)), some (.int (iz w)), some (.ref (E.1 + 124)), none] (by decide +kernel) (Nat.le_of_ble_eq_true rfl) (fun _ h => h) ?_
  refine g_aload4 (Y := Y9_L_cell) (pc' := 2) dL_cell_0 rfl ?_
  refine g_iconst (Y := Y9_L_cell) (pc' := 3) dL_cell_2 rfl ?_
  refine g_aload0 (Y := Y9_L_cell) (pc' := 4) dL_cell_3 rfl ?_
  refine g_iload1 (Y := Y9_L_cell) (pc' := 5) dL_cell_4 rfl ?_
  refine g_iload2 (Y := Y9_L_cell) (pc' := 6) dL_cell_5 rfl ?_
  refine g_iload3 (Y := Y9_L_cell) (pc' := 7) dL_cell_6 rfl ?_
  refine g_callX (Y := Y9_L_cell) (hh := hh_L_cell) (c := 4) (s_X4_cell hl9 hk0 hv p h_p q h_q w h_w) (pc' := 10) dL_cell_7 rfl cv_L_49 rfl (by assumption) (by show _ < n; omega) ⟨by decide, _, rfl, rfl⟩ rfl rfl rfl rfl (by decide) (q_w 759 (by decide +kernel) rfl) rfl (fun r w1 hr => ?_) (fun X w1 hx => ?_)
  · obtain ⟨hn, rfl, rfl⟩ := hr
    refine g_i2l (Y := Y9_L_cell) (pc' := 11) dL_cell_10 rfl ?_
    refine g_last (Y := Y9_L_cell) (pc' := 12) dL_cell_11 rfl ho (by omega) (by decide) ⟨by omega, by omega⟩ ?_
    refine g_goto (Y := Y9_L_cell) (t := 19) dL_cell_12 (by decide) ?_
    refine g_iconst (Y := Y9_L_cell) (pc' := 20) dL_cell_19 rfl ?_
    exact GoL.of (g_iret (Y := Y9_L_cell) dL_cell_20 rfl (Nat.le_of_ble_eq_true rfl) (Nat.le_of_ble_eq_true rfl) (Or.inl (⟨hn, rfl, rfl⟩)))
  · obtain ⟨hx1, rfl⟩ := hx
    cases xr_x_cell hx1
    · refine ⟨15, by decide +kernel, fun q9 => ?_⟩
      refine g_astore5 (Y := Y9_L_cell) (pc' := 17) dL_cell_15 rfl (Nat.le_of_ble_eq_true rfl) rfl ?_
      refine g_iconst (Y := Y9_L_cell) (pc' := 18) dL_cell_17 rfl ?_
      exact GoL.of (g_iret (Y := Y9_L_cell) dL_cell_18 rfl (Nat.le_of_ble_eq_true rfl) (Nat.le_of_ble_eq_true rfl) (Or.inr (⟨hx1, rfl, rfl⟩)))
abbrev Y9_L_block : QY := (yL_block, cL_block, 5, (some .int), ({ frames := 8, cells := 1, slots := 6, locals := 132 } : Room))
abbrev hh_L_block : QH := [(0, 10, 13, 13), (0, 10, 17, 15)]
theorem cv_L_52 : q_cv "ScratchMapLaw" 52 Y_X4_block 2 := ⟨⟨by decide +kernel, by decide +kernel, by decide +kernel⟩, (q_w 772 (by decide +kernel) rfl), (q_w 773 (by decide +kernel) rfl), (q_w 774 (by decide +kernel) rfl), (q_w 1 (by decide +kernel) rfl), (q_w 775 (by decide +kernel) rfl)⟩
theorem xr_x_block {p : Int} {w : Int} {X : String} (h : x_block p w = some X) : X = xIOB ∨ X = xIAE := by
  unfold x_block at h
  repeat' split at h
  all_goals first | (cases h; first | exact (Or.inl rfl) | exact (Or.inr rfl)) | cases h
set_option maxHeartbeats 2000000 in
set_option maxRecDepth 100000 in
theorem s_L_block {l : Launch} {E : QE} (hl9 : l.stackTraces = false) {T : Nat → Nat × Nat} {I : Nat → Nat → Int} {J : Nat → Nat → Int64} {R : Nat → Nat → Option Nat} {n : Nat} (hk : ScB T R n) (hv : XV I) (ho : T 124 = (10, 1)) (p : Int) (h_p : -2147483648 ≤ p ∧ p < 2147483648) (w : Int) (h_w : -2147483648 ≤ w ∧ w < 2147483648) : SpL l E Y9_L_block hh_L_block [.ref (E.1 + 0), .int (iz p), .int (iz w), .ref (E.1 + 124)] (T, I, J, R, n, 0) (fun r1 w1 => (x_block p w = none ∧ r1 = some (.int (iz 0)) ∧ w1 = (T, I, u2 (J) 124 0 (iz (f_block I p.toNat w.toNat)).toInt64, R, n, 0)) ∨ (x_block p w = some xIOB ∧ r1 = some (.int (iz 1)) ∧ w1 = (T, I, J, R, n, 0)) ∨ (x_block p w = some xIAE ∧ r1 = some (.int (iz 2)) ∧ w1 = (T, I, J, R, n, 0))) := by
  have hk0 := hk
  obtain ⟨a0, a1, a2, a3, a4, a5, a6, a7, a8, a9, a10, a11, a12, a13, a14, a15, a16⟩ := hk
  have b8 := a8.1
  have b9 := a9.1
  have b10 := a10.1
  have b11 := a11.1
  have b12 := a12.1
  refine SpL.of [some (.ref (E.1 + 0)), some (.int (iz p)), some (.int (iz w)), some (.ref (E.1 + 124)), none] (by decide +kernel) (Nat.le_of_ble_eq_true rfl) (fun _ h => h) ?_
  refine g_aload3 (Y := Y9_L_block) (pc' := 1) dL_block_0 rfl ?_
  refine g_iconst (Y := Y9_L_block) (pc' := 2) dL_block_1 rfl ?_
  refine g_aload0 (Y := Y9_L_block) (pc' := 3) dL_block_2 rfl ?_
  refine g_iload1 (Y := Y9_L_block) (pc' := 4) dL_block_3 rfl ?_
  refine g_iload2 (Y := Y9_L_block) (pc' := 5) dL_block_4 rfl ?_
  refine g_callX (Y := Y9_L_block) (hh := hh_L_block) (c := 4) (s_X4_block hl9 hk0 hv p h_p w h_w) (pc' := 8) dL_block_5 rfl cv_L_52 rfl (by assumption) (by show _ < n; omega) ⟨by decide, _, rfl, rfl⟩ rfl rfl rfl rfl (by decide) (q_w 771 (by decide +kernel) rfl) rfl (fun r w1 hr => ?_) (fun X w1 hx => ?_)
  · obtain ⟨hn, rfl, rfl⟩ := hr
    refine g_i2l (Y := Y9_L_block) (pc' := 9) dL_block_8 rfl ?_
    refine g_last (Y := Y9_L_block) (pc' := 10) dL_block_9 rfl ho (by omega) (by decide) ⟨by omega, by omega⟩ ?_
    refine g_goto (Y := Y9_L_block) (t := 21) dL_block_10 (by decide) ?_
    refine g_iconst (Y := Y9_L_block) (pc' := 22) dL_block_21 rfl ?_
    exact GoL.of (g_iret (Y := Y9_L_block) dL_block_22 rfl (Nat.le_of_ble_eq_true rfl) (Nat.le_of_ble_eq_true rfl) (Or.inl (⟨hn, rfl, rfl⟩)))
  · obtain ⟨hx1, rfl⟩ := hx
    rcases xr_x_block hx1 with rfl | rfl
    · refine ⟨13, by decide +kernel, fun q9 => ?_⟩
      refine g_astore4 (Y := Y9_L_block) (pc' := 15) dL_block_13 rfl (Nat.le_of_ble_eq_true rfl) rfl ?_
      refine g_iconst (Y := Y9_L_block) (pc' := 16) dL_block_15 rfl ?_
      exact GoL.of (g_iret (Y := Y9_L_block) dL_block_16 rfl (Nat.le_of_ble_eq_true rfl) (Nat.le_of_ble_eq_true rfl) (Or.inr (Or.inl (⟨hx1, rfl, rfl⟩))))
    · refine ⟨17, by decide +kernel, fun q9 => ?_⟩
      refine g_astore4 (Y := Y9_L_block) (pc' := 19) dL_block_17 rfl (Nat.le_of_ble_eq_true rfl) rfl ?_
      refine g_iconst (Y := Y9_L_block) (pc' := 20) dL_block_19 rfl ?_
      exact GoL.of (g_iret (Y := Y9_L_block) dL_block_20 rfl (Nat.le_of_ble_eq_true rfl) (Nat.le_of_ble_eq_true rfl) (Or.inr (Or.inr (⟨hx1, rfl, rfl⟩))))
abbrev Y9_L_line : QY := (yL_line, cL_line, 5, (some .int), ({ frames := 8, cells := 1, slots := 6, locals := 133 } : Room))
abbrev hh_L_line : QH := [(0, 10, 13, 13), (0, 10, 17, 15)]
theorem cv_L_55 : q_cv "ScratchMapLaw" 55 Y_X4_line 2 := ⟨⟨by decide +kernel, by decide +kernel, by decide +kernel⟩, (q_w 783 (by decide +kernel) rfl), (q_w 784 (by decide +kernel) rfl), (q_w 785 (by decide +kernel) rfl), (q_w 1 (by decide +kernel) rfl), (q_w 786 (by decide +kernel) rfl)⟩
theorem xr_x_line {I : Nat → Nat → Int} {p : Int} {w : Int} {X : String} (h : x_line I p w = some X) : X = xIOB ∨ X = xIAE := by
  unfold x_line at h
  repeat' split at h
  all_goals first | (cases h; first | exact (Or.inl rfl) | exact (Or.inr rfl)) | cases h
set_option maxHeartbeats 2000000 in
set_option maxRecDepth 100000 in
theorem s_L_line {l : Launch} {E : QE} (hl9 : l.stackTraces = false) {T : Nat → Nat × Nat} {I : Nat → Nat → Int} {J : Nat → Nat → Int64} {R : Nat → Nat → Option Nat} {n : Nat} (hk : ScB T R n) (hv : XV I) (ho : T 124 = (10, 1)) (p : Int) (h_p : -2147483648 ≤ p ∧ p < 2147483648) (w : Int) (h_w : -2147483648 ≤ w ∧ w < 2147483648) : SpL l E Y9_L_line hh_L_line [.ref (E.1 + 0), .int (iz p), .int (iz w), .ref (E.1 + 124)] (T, I, J, R, n, 0) (fun r1 w1 => (x_line I p w = none ∧ r1 = some (.int (iz 0)) ∧ w1 = (T, I, u2 (J) 124 0 (iz (f_lp I (7 + 6 + p.toNat) w.toNat)).toInt64, R, n, 0)) ∨ (x_line I p w = some xIOB ∧ r1 = some (.int (iz 1)) ∧ w1 = (T, I, J, R, n, 0)) ∨ (x_line I p w = some xIAE ∧ r1 = some (.int (iz 2)) ∧ w1 = (T, I, J, R, n, 0))) := by
  have hk0 := hk
  obtain ⟨a0, a1, a2, a3, a4, a5, a6, a7, a8, a9, a10, a11, a12, a13, a14, a15, a16⟩ := hk
  have b8 := a8.1
  have b9 := a9.1
  have b10 := a10.1
  have b11 := a11.1
  have b12 := a12.1
  refine SpL.of [some (.ref (E.1 + 0)), some (.int (iz p)), some (.int (iz w)), some (.ref (E.1 + 124)), none] (by decide +kernel) (Nat.le_of_ble_eq_true rfl) (fun _ h => h) ?_
  refine g_aload3 (Y := Y9_L_line) (pc' := 1) dL_line_0 rfl ?_
  refine g_iconst (Y := Y9_L_line) (pc' := 2) dL_line_1 rfl ?_
  refine g_aload0 (Y := Y9_L_line) (pc' := 3) dL_line_2 rfl ?_
  refine g_iload1 (Y := Y9_L_line) (pc' := 4) dL_line_3 rfl ?_
  refine g_iload2 (Y := Y9_L_line) (pc' := 5) dL_line_4 rfl ?_
  refine g_callX (Y := Y9_L_line) (hh := hh_L_line) (c := 4) (s_X4_line hl9 hk0 hv p h_p w h_w) (pc' := 8) dL_line_5 rfl cv_L_55 rfl (by assumption) (by show _ < n; omega) ⟨by decide, _, rfl, rfl⟩ rfl rfl rfl rfl (by decide) (q_w 782 (by decide +kernel) rfl) rfl (fun r w1 hr => ?_) (fun X w1 hx => ?_)
  · obtain ⟨hn, rfl, rfl⟩ := hr
    refine g_i2l (Y := Y9_L_line) (pc' := 9) dL_line_8 rfl ?_
    refine g_last (Y := Y9_L_line) (pc' := 10) dL_line_9 rfl ho (by omega) (by decide) ⟨by omega, by omega⟩ ?_
    refine g_goto (Y := Y9_L_line) (t := 21) dL_line_10 (by decide) ?_
    refine g_iconst (Y := Y9_L_line) (pc' := 22) dL_line_21 rfl ?_
    exact GoL.of (g_iret (Y := Y9_L_line) dL_line_22 rfl (Nat.le_of_ble_eq_true rfl) (Nat.le_of_ble_eq_true rfl) (Or.inl (⟨hn, rfl, rfl⟩)))
  · obtain ⟨hx1, rfl⟩ := hx
    rcases xr_x_line hx1 with rfl | rfl
    · refine ⟨13, by decide +kernel, fun q9 => ?_⟩
      refine g_astore4 (Y := Y9_L_line) (pc' := 15) dL_line_13 rfl (Nat.le_of_ble_eq_true rfl) rfl ?_
      refine g_iconst (Y := Y9_L_line) (pc' := 16) dL_line_15 rfl ?_
      exact GoL.of (g_iret (Y := Y9_L_line) dL_line_16 rfl (Nat.le_of_ble_eq_true rfl) (Nat.le_of_ble_eq_true rfl) (Or.inr (Or.inl (⟨hx1, rfl, rfl⟩))))
    · refine ⟨17, by decide +kernel, fun q9 => ?_⟩
      refine g_astore4 (Y := Y9_L_line) (pc' := 19) dL_line_17 rfl (Nat.le_of_ble_eq_true rfl) rfl ?_
      refine g_iconst (Y := Y9_L_line) (pc' := 20) dL_line_19 rfl ?_
      exact GoL.of (g_iret (Y := Y9_L_line) dL_line_20 rfl (Nat.le_of_ble_eq_true rfl) (Nat.le_of_ble_eq_true rfl) (Or.inr (Or.inr (⟨hx1, rfl, rfl⟩))))
abbrev Y9_L_count : QY := (yL_count, cL_count, 4, (some .int), ({ frames := 8, cells := 1, slots := 6, locals := 131 } : Room))
abbrev hh_L_count : QH := [(0, 9, 12, 15)]
theorem cv_L_58 : q_cv "ScratchMapLaw" 58 Y_X4_count 1 := ⟨⟨by decide +kernel, by decide +kernel, by decide +kernel⟩, (q_w 792 (by decide +kernel) rfl), (q_w 793 (by decide +kernel) rfl), (q_w 794 (by decide +kernel) rfl), (q_w 1 (by decide +kernel) rfl), (q_w 795 (by decide +kernel) rfl)⟩
theorem xr_x_count {w : Int} {X : String} (h : x_count w = some X) : X = xIAE := by
  unfold x_count at h
  repeat' split at h
  all_goals first | (cases h; first | exact rfl) | cases h
set_option maxHeartbeats 2000000 in
set_option maxRecDepth 100000 in
theorem s_L_count {l : Launch} {E : QE} (hl9 : l.stackTraces = false) {T : Nat → Nat × Nat} {I : Nat → Nat → Int} {J : Nat → Nat → Int64} {R : Nat → Nat → Option Nat} {n : Nat} (hk : ScB T R n) (hv : XV I) (ho : T 124 = (10, 1)) (w : Int) (h_w : -2147483648 ≤ w ∧ w < 2147483648) : SpL l E Y9_L_count hh_L_count [.ref (E.1 + 0), .int (iz w), .ref (E.1 + 124)] (T, I, J, R, n, 0) (fun r1 w1 => (x_count w = none ∧ r1 = some (.int (iz 0)) ∧ w1 = (T, I, u2 (J) 124 0 (iz (f_num I w.toNat)).toInt64, R, n, 0)) ∨ (x_count w = some xIAE ∧ r1 = some (.int (iz 1)) ∧ w1 = (T, I, J, R, n, 0))) := by
  have hk0 := hk
  obtain ⟨a0, a1, a2, a3, a4, a5, a6, a7, a8, a9, a10, a11, a12, a13, a14, a15, a16⟩ := hk
  have b8 := a8.1
  have b9 := a9.1
  have b10 := a10.1
  have b11 := a11.1
  have b12 := a12.1
  refine SpL.of [some (.ref (E.1 + 0)), some (.int (iz w)), some (.ref (E.1 + 124)), none] (by decide +kernel) (Nat.le_of_ble_eq_true rfl) (fun _ h => h) ?_
  refine g_aload2 (Y := Y9_L_count) (pc' := 1) dL_count_0 rfl ?_
  refine g_iconst (Y := Y9_L_count) (pc' := 2) dL_count_1 rfl ?_
  refine g_aload0 (Y := Y9_L_count) (pc' := 3) dL_count_2 rfl ?_
  refine g_iload1 (Y := Y9_L_count) (pc' := 4) dL_count_3 rfl ?_
  refine g_callX (Y := Y9_L_count) (hh := hh_L_count) (c := 4) (s_X4_count hl9 hk0 hv w h_w) (pc' := 7) dL_count_4 rfl cv_L_58 rfl (by assumption) (by show _ < n; omega) ⟨by decide, _, rfl, rfl⟩ rfl rfl rfl rfl (by decide) (q_w 791 (by decide +kernel) rfl) rfl (fun r w1 hr => ?_) (fun X w1 hx => ?_)
  · obtain ⟨hn, rfl, rfl⟩ := hr
    refine g_i2l (Y := Y9_L_count) (pc' := 8) dL_count_7 rfl ?_
    refine g_last (Y := Y9_L_count) (pc' := 9) dL_count_8 rfl ho (by omega) (by decide) ⟨by omega, by omega⟩ ?_
    refine g_goto (Y := Y9_L_count) (t := 15) dL_count_9 (by decide) ?_
    refine g_iconst (Y := Y9_L_count) (pc' := 16) dL_count_15 rfl ?_
    exact GoL.of (g_iret (Y := Y9_L_count) dL_count_16 rfl (Nat.le_of_ble_eq_true rfl) (Nat.le_of_ble_eq_true rfl) (Or.inl (⟨hn, rfl, rfl⟩)))
  · obtain ⟨hx1, rfl⟩ := hx
    cases xr_x_count hx1
    · refine ⟨12, by decide +kernel, fun q9 => ?_⟩
      refine g_astore3 (Y := Y9_L_count) (pc' := 13) dL_count_12 rfl (Nat.le_of_ble_eq_true rfl) rfl ?_
      refine g_iconst (Y := Y9_L_count) (pc' := 14) dL_count_13 rfl ?_
      exact GoL.of (g_iret (Y := Y9_L_count) dL_count_14 rfl (Nat.le_of_ble_eq_true rfl) (Nat.le_of_ble_eq_true rfl) (Or.inr (⟨hx1, rfl, rfl⟩)))
abbrev Y9_L_setting : QY := (yL_setting, cL_setting, 4, (some .int), ({ frames := 8, cells := 1, slots := 6, locals := 131 } : Room))
abbrev hh_L_setting : QH := [(0, 9, 12, 13)]
theorem cv_L_61 : q_cv "ScratchMapLaw" 61 Y_X4_setting 1 := ⟨⟨by decide +kernel, by decide +kernel, by decide +kernel⟩, (q_w 800 (by decide +kernel) rfl), (q_w 801 (by decide +kernel) rfl), (q_w 802 (by decide +kernel) rfl), (q_w 1 (by decide +kernel) rfl), (q_w 803 (by decide +kernel) rfl)⟩
theorem xr_x_setting {p : Int} {X : String} (h : x_setting p = some X) : X = xIOB := by
  unfold x_setting at h
  repeat' split at h
  all_goals first | (cases h; first | exact rfl) | cases h
set_option maxHeartbeats 2000000 in
set_option maxRecDepth 100000 in
theorem s_L_setting {l : Launch} {E : QE} (hl9 : l.stackTraces = false) {T : Nat → Nat × Nat} {I : Nat → Nat → Int} {J : Nat → Nat → Int64} {R : Nat → Nat → Option Nat} {n : Nat} (hk : ScB T R n) (hv : XV I) (ho : T 124 = (10, 1)) (p : Int) (h_p : -2147483648 ≤ p ∧ p < 2147483648) : SpL l E Y9_L_setting hh_L_setting [.ref (E.1 + 0), .int (iz p), .ref (E.1 + 124)] (T, I, J, R, n, 0) (fun r1 w1 => (x_setting p = none ∧ r1 = some (.int (iz 0)) ∧ w1 = (T, I, u2 (J) 124 0 (iz (I (1 + 2) p.toNat)).toInt64, R, n, 0)) ∨ (x_setting p = some xIOB ∧ r1 = some (.int (iz 1)) ∧ w1 = (T, I, J, R, n, 0))) := by
  have hk0 := hk
  obtain ⟨a0, a1, a2, a3, a4, a5, a6, a7, a8, a9, a10, a11, a12, a13, a14, a15, a16⟩ := hk
  have b8 := a8.1
  have b9 := a9.1
  have b10 := a10.1
  have b11 := a11.1
  have b12 := a12.1
  refine SpL.of [some (.ref (E.1 + 0)), some (.int (iz p)), some (.ref (E.1 + 124)), none] (by decide +kernel) (Nat.le_of_ble_eq_true rfl) (fun _ h => h) ?_
  refine g_aload2 (Y := Y9_L_setting) (pc' := 1) dL_setting_0 rfl ?_
  refine g_iconst (Y := Y9_L_setting) (pc' := 2) dL_setting_1 rfl ?_
  refine g_aload0 (Y := Y9_L_setting) (pc' := 3) dL_setting_2 rfl ?_
  refine g_iload1 (Y := Y9_L_setting) (pc' := 4) dL_setting_3 rfl ?_
  refine g_callX (Y := Y9_L_setting) (hh := hh_L_setting) (c := 4) (s_X4_setting hl9 hk0 hv p h_p) (pc' := 7) dL_setting_4 rfl cv_L_61 rfl (by assumption) (by show _ < n; omega) ⟨by decide, _, rfl, rfl⟩ rfl rfl rfl rfl (by decide) (q_w 799 (by decide +kernel) rfl) rfl (fun r w1 hr => ?_) (fun X w1 hx => ?_)
  · obtain ⟨hn, rfl, rfl⟩ := hr
    refine g_i2l (Y := Y9_L_setting) (pc' := 8) dL_setting_7 rfl ?_
    refine g_last (Y := Y9_L_setting) (pc' := 9) dL_setting_8 rfl ho (by omega) (by decide) ⟨by omega, by omega⟩ ?_
    refine g_goto (Y := Y9_L_setting) (t := 15) dL_setting_9 (by decide) ?_
    refine g_iconst (Y := Y9_L_setting) (pc' := 16) dL_setting_15 rfl ?_
    exact GoL.of (g_iret (Y := Y9_L_setting) dL_setting_16 rfl (Nat.le_of_ble_eq_true rfl) (Nat.le_of_ble_eq_true rfl) (Or.inl (⟨hn, rfl, rfl⟩)))
  · obtain ⟨hx1, rfl⟩ := hx
    cases xr_x_setting hx1
    · refine ⟨12, by decide +kernel, fun q9 => ?_⟩
      refine g_astore3 (Y := Y9_L_setting) (pc' := 13) dL_setting_12 rfl (Nat.le_of_ble_eq_true rfl) rfl ?_
      refine g_iconst (Y := Y9_L_setting) (pc' := 14) dL_setting_13 rfl ?_
      exact GoL.of (g_iret (Y := Y9_L_setting) dL_setting_14 rfl (Nat.le_of_ble_eq_true rfl) (Nat.le_of_ble_eq_true rfl) (Or.inr (⟨hx1, rfl, rfl⟩)))
abbrev Y9_L_ifFailed : QY := (yL_ifFailed, cL_ifFailed, 6, (some .int), ({ frames := 8, cells := 1, slots := 6, locals := 147 } : Room))
abbrev hh_L_ifFailed : QH := [(0, 12, 15, 15)]
theorem cv_L_64 : q_cv "ScratchMapLaw" 64 Y_X4_ifFailed 3 := ⟨⟨by decide +kernel, by decide +kernel, by decide +kernel⟩, (q_w 807 (by decide +kernel) rfl), (q_w 808 (by decide +kernel) rfl), (q_w 809 (by decide +kernel) rfl), (q_w 1 (by decide +kernel) rfl), (q_w 810 (by decide +kernel) rfl)⟩
set_option maxHeartbeats 2000000 in
set_option maxRecDepth 100000 in
theorem s_L_ifFailed {l : Launch} {E : QE} (hl9 : l.stackTraces = false) {T : Nat → Nat × Nat} {I : Nat → Nat → Int} {J : Nat → Nat → Int64} {R : Nat → Nat → Option Nat} {n : Nat} (hk : ScB T R n) (hv : XV I) (ho : T 124 = (10, 1)) (p : Int) (h_p : -2147483648 ≤ p ∧ p < 2147483648) (q : Int) (h_q : -2147483648 ≤ q ∧ q < 2147483648) (w : Int) (h_w : -2147483648 ≤ w ∧ w < 2147483648) : SpL l E Y9_L_ifFailed hh_L_ifFailed [.ref (E.1 + 0), .int (iz p), .int (iz q), .int (iz w), .ref (E.1 + 124)] (T, I, J, R, n, 0) (fun r1 w1 => (x_cell p q w = none ∧ r1 = some (.int (iz 0)) ∧ w1 = (T, (f_try I J (p * 24 + q)).2.1, u2 ((f_try I J (p * 24 + q)).2.2) 124 0 (iz (f_iff I J (p * 24 + q) w.toNat)).toInt64, R, n, 0)) ∨ (x_cell p q w = some xIAE ∧ r1 = some (.int (iz 1)) ∧ w1 = (T, I, J, R, n, 0))) := by
  have hk0 := hk
  obtain ⟨a0, a1, a2, a3, a4, a5, a6, a7, a8, a9, a10, a11, a12, a13, a14, a15, a16⟩ := hk
  have b8 := a8.1
  have b9 := a9.1
  have b10 := a10.1
  have b11 := a11.1
  have b12 := a12.1
  refine SpL.of [some (.ref (E.1 + 0)), some (.int (iz p)), some (.int (iz q)), some (.int (iz w)), some (.ref (E.1 + 124)), none] (by decide +kernel) (Nat.le_of_ble_eq_true rfl) (fun _ h => h) ?_
  refine g_aload4 (Y := Y9_L_ifFailed) (pc' := 2) dL_ifFailed_0 rfl ?_
  refine g_iconst (Y := Y9_L_ifFailed) (pc' := 3) dL_ifFailed_2 rfl ?_
  refine g_aload0 (Y := Y9_L_ifFailed) (pc' := 4) dL_ifFailed_3 rfl ?_
  refine g_iload1 (Y := Y9_L_ifFailed) (pc' := 5) dL_ifFailed_4 rfl ?_
  refine g_iload2 (Y := Y9_L_ifFailed) (pc' := 6) dL_ifFailed_5 rfl ?_
  refine g_iload3 (Y := Y9_L_ifFailed) (pc' := 7) dL_ifFailed_6 rfl ?_
  refine g_callX (Y := Y9_L_ifFailed) (hh := hh_L_ifFailed) (c := 4) (s_X4_ifFailed hl9 hk0 hv p h_p q h_q w h_w) (pc' := 10) dL_ifFailed_7 rfl cv_L_64 rfl (by assumption) (by show _ < n; omega) ⟨by decide, _, rfl, rfl⟩ rfl rfl rfl rfl (by decide) (q_w 806 (by decide +kernel) rfl) rfl (fun r w1 hr => ?_) (fun X w1 hx => ?_)
  · obtain ⟨hn, rfl, rfl⟩ := hr
    refine g_i2l (Y := Y9_L_ifFailed) (pc' := 11) dL_ifFailed_10 rfl ?_
    refine g_last (Y := Y9_L_ifFailed) (pc' := 12) dL_ifFailed_11 rfl ho (by omega) (by decide) ⟨by omega, by omega⟩ ?_
    refine g_goto (Y := Y9_L_ifFailed) (t := 19) dL_ifFailed_12 (by decide) ?_
    refine g_iconst (Y := Y9_L_ifFailed) (pc' := 20) dL_ifFailed_19 rfl ?_
    exact GoL.of (g_iret (Y := Y9_L_ifFailed) dL_ifFailed_20 rfl (Nat.le_of_ble_eq_true rfl) (Nat.le_of_ble_eq_true rfl) (Or.inl (⟨hn, rfl, rfl⟩)))
  · obtain ⟨hx1, rfl⟩ := hx
    cases xr_x_cell hx1
    · refine ⟨15, by decide +kernel, fun q9 => ?_⟩
      refine g_astore5 (Y := Y9_L_ifFailed) (pc' := 17) dL_ifFailed_15 rfl (Nat.le_of_ble_eq_true rfl) rfl ?_
      refine g_iconst (Y := Y9_L_ifFailed) (pc' := 18) dL_ifFailed_17 rfl ?_
      exact GoL.of (g_iret (Y := Y9_L_ifFailed) dL_ifFailed_18 rfl (Nat.le_of_ble_eq_true rfl) (Nat.le_of_ble_eq_true rfl) (Or.inr (⟨hx1, rfl, rfl⟩)))
abbrev Y9_L_find : QY := (yL_find, cL_find, 4, (some .int), ({ frames := 8, cells := 1, slots := 6, locals := 132 } : Room))
abbrev hh_L_find : QH := [(0, 9, 12, 15)]
theorem cv_L_67 : q_cv "ScratchMapLaw" 67 Y_X4_find 1 := ⟨⟨by decide +kernel, by decide +kernel, by decide +kernel⟩, (q_w 814 (by decide +kernel) rfl), (q_w 815 (by decide +kernel) rfl), (q_w 816 (by decide +kernel) rfl), (q_w 1 (by decide +kernel) rfl), (q_w 817 (by decide +kernel) rfl)⟩
theorem xr_x_find {v : Int} {X : String} (h : x_find v = some X) : X = xIAE := by
  unfold x_find at h
  repeat' split at h
  all_goals first | (cases h; first | exact rfl) | cases h
set_option maxHeartbeats 2000000 in
set_option maxRecDepth 100000 in
theorem s_L_find {l : Launch} {E : QE} (hl9 : l.stackTraces = false) {T : Nat → Nat × Nat} {I : Nat → Nat → Int} {J : Nat → Nat → Int64} {R : Nat → Nat → Option Nat} {n : Nat} (hk : ScB T R n) (hv : XV I) (ho : T 124 = (10, 1)) (v : Int) (h_v : -2147483648 ≤ v ∧ v < 2147483648) : SpL l E Y9_L_find hh_L_find [.ref (E.1 + 0), .int (iz v), .ref (E.1 + 124)] (T, I, J, R, n, 0) (fun r1 w1 => (x_find v = none ∧ r1 = some (.int (iz 0)) ∧ w1 = (T, I, u2 (J) 124 0 (iz (fdL I v 480 0)).toInt64, R, n, 0)) ∨ (x_find v = some xIAE ∧ r1 = some (.int (iz 1)) ∧ w1 = (T, I, J, R, n, 0))) := by
  have hk0 := hk
  obtain ⟨a0, a1, a2, a3, a4, a5, a6, a7, a8, a9, a10, a11, a12, a13, a14, a15, a16⟩ := hk
  have b8 := a8.1
  have b9 := a9.1
  have b10 := a10.1
  have b11 := a11.1
  have b12 := a12.1
  refine SpL.of [some (.ref (E.1 + 0)), some (.int (iz v)), some (.ref (E.1 + 124)), none] (by decide +kernel) (Nat.le_of_ble_eq_true rfl) (fun _ h => h) ?_
  refine g_aload2 (Y := Y9_L_find) (pc' := 1) dL_find_0 rfl ?_
  refine g_iconst (Y := Y9_L_find) (pc' := 2) dL_find_1 rfl ?_
  refine g_aload0 (Y := Y9_L_find) (pc' := 3) dL_find_2 rfl ?_
  refine g_iload1 (Y := Y9_L_find) (pc' := 4) dL_find_3 rfl ?_
  refine g_callX (Y := Y9_L_find) (hh := hh_L_find) (c := 4) (s_X4_find hl9 hk0 hv v h_v) (pc' := 7) dL_find_4 rfl cv_L_67 rfl (by assumption) (by show _ < n; omega) ⟨by decide, _, rfl, rfl⟩ rfl rfl rfl rfl (by decide) (q_w 813 (by decide +kernel) rfl) rfl (fun r w1 hr => ?_) (fun X w1 hx => ?_)
  · obtain ⟨hn, rfl, rfl⟩ := hr
    refine g_i2l (Y := Y9_L_find) (pc' := 8) dL_find_7 rfl ?_
    refine g_last (Y := Y9_L_find) (pc' := 9) dL_find_8 rfl ho (by omega) (by decide) ⟨by omega, by omega⟩ ?_
    refine g_goto (Y := Y9_L_find) (t := 15) dL_find_9 (by decide) ?_
    refine g_iconst (Y := Y9_L_find) (pc' := 16) dL_find_15 rfl ?_
    exact GoL.of (g_iret (Y := Y9_L_find) dL_find_16 rfl (Nat.le_of_ble_eq_true rfl) (Nat.le_of_ble_eq_true rfl) (Or.inl (⟨hn, rfl, rfl⟩)))
  · obtain ⟨hx1, rfl⟩ := hx
    cases xr_x_find hx1
    · refine ⟨12, by decide +kernel, fun q9 => ?_⟩
      refine g_astore3 (Y := Y9_L_find) (pc' := 13) dL_find_12 rfl (Nat.le_of_ble_eq_true rfl) rfl ?_
      refine g_iconst (Y := Y9_L_find) (pc' := 14) dL_find_13 rfl ?_
      exact GoL.of (g_iret (Y := Y9_L_find) dL_find_14 rfl (Nat.le_of_ble_eq_true rfl) (Nat.le_of_ble_eq_true rfl) (Or.inr (⟨hx1, rfl, rfl⟩)))
