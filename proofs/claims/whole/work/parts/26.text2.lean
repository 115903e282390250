/-! InputText: a character is taken, the text is scanned -/
set_option maxHeartbeats 2000000 in
set_option maxRecDepth 100000 in
theorem s_X0_take {l : Launch} {E : QE} {T : Nat → Nat × Nat} {I : Nat → Nat → Int} {J : Nat → Nat → Int64} {R : Nat → Nat → Option Nat} {n z : Nat} {k : Nat} (hk : TxB T R n k) (hv : TxV I k) (c : Int) (hc : 0 ≤ c ∧ c < 1000) : SpV l E Y_X0_take [.ref (E.1 + k), .int (iz c)] (T, I, J, R, n, z) (.int (iz (f_take I k c).1)) (T, (f_take I k c).2, J, R, n, z) := by
  obtain ⟨t0, t1, t2, t3, r0, r1, r2, hn⟩ := hk
  have f01m : (f_minus I k).1 = 0 ∨ (f_minus I k).1 = 1 := by unfold f_minus; split <;> simp
  have f01c : (f_comma I k).1 = 0 ∨ (f_comma I k).1 = 1 := by unfold f_comma; split <;> simp
  have f01d : ∀ {d : Int}, (f_digit I k d).1 = 0 ∨ (f_digit I k d).1 = 1 := by intro d; unfold f_digit; split; simp; split <;> simp
  refine Sp.of [some (.ref (E.1 + k)), some (.int (iz c))] (by decide +kernel) (Nat.le_of_ble_eq_true rfl) (fun _ h => h) ?_
  refine g_iload1 (Y := Y_X0_take) (pc' := 1) dX0_take_0 rfl ?_
  rcases (show c = 44 ∨ c = 45 ∨ c = 59 ∨ (c ≠ 44 ∧ c ≠ 45 ∧ c ≠ 59) by omega) with rfl | rfl | rfl | ⟨c1, c2, c3⟩
  · refine g_lsw (Y := Y_X0_take) (t := 41) (off := 40) dX0_take_1 ⟨by omega, by omega⟩ (by decide) (by decide) (by decide) ?_
    rw [(show f_take I k 44 = f_comma I k from if_pos rfl)]
    refine g_aload0 (Y := Y_X0_take) (pc' := 42) dX0_take_41 rfl ?_
    refine g_callVv (Y := Y_X0_take) (c := 0) (s_X0_takeComma ⟨t0, t1, t2, t3, r0, r1, r2, hn⟩ hv) (pc' := 45) dX0_take_42 rfl cv_X0_68 rfl (by assumption) (by show _ < n; omega) ⟨by decide, _, rfl, rfl⟩ rfl rfl rfl rfl ?_
    exact g_zret (Y := Y_X0_take) dX0_take_45 rfl f01c (Nat.zero_le _) (Nat.zero_le _) (⟨rfl, rfl⟩)
  · refine g_lsw (Y := Y_X0_take) (t := 36) (off := 35) dX0_take_1 ⟨by omega, by omega⟩ (by decide) (by decide) (by decide) ?_
    rw [(show f_take I k 45 = f_minus I k from (if_neg (by decide)).trans (if_pos rfl))]
    refine g_aload0 (Y := Y_X0_take) (pc' := 37) dX0_take_36 rfl ?_
    refine g_callVv (Y := Y_X0_take) (c := 0) (s_X0_takeMinus ⟨t0, t1, t2, t3, r0, r1, r2, hn⟩ hv) (pc' := 40) dX0_take_37 rfl cv_X0_65 rfl (by assumption) (by show _ < n; omega) ⟨by decide, _, rfl, rfl⟩ rfl rfl rfl rfl ?_
    exact g_zret (Y := Y_X0_take) dX0_take_40 rfl f01m (Nat.zero_le _) (Nat.zero_le _) (⟨rfl, rfl⟩)
  · refine g_lsw (Y := Y_X0_take) (t := 46) (off := 45) dX0_take_1 ⟨by omega, by omega⟩ (by decide) (by decide) (by decide) ?_
    rw [(show f_take I k 59 = f_endSpot I k from (if_neg (by decide)).trans ((if_neg (by decide)).trans (if_pos rfl)))]
    refine g_aload0 (Y := Y_X0_take) (pc' := 47) dX0_take_46 rfl ?_
    refine g_callVv (Y := Y_X0_take) (c := 0) (s_X0_endSpot ⟨t0, t1, t2, t3, r0, r1, r2, hn⟩ hv) (pc' := 50) dX0_take_47 rfl cv_X0_57 rfl (by assumption) (by show _ < n; omega) ⟨by decide, _, rfl, rfl⟩ rfl rfl rfl rfl ?_
    exact g_zret (Y := Y_X0_take) dX0_take_50 rfl f_end01 (Nat.zero_le _) (Nat.zero_le _) (⟨rfl, rfl⟩)
  · refine g_lsw (Y := Y_X0_take) (t := 51) (off := 50) dX0_take_1 ⟨by omega, by omega⟩ (by decide) (by simp [Op.lookupswitch.offset, Ne.symm c1, Ne.symm c2, Ne.symm c3]) (by decide) ?_
    have e0 : f_take I k c = if 48 ≤ c ∧ c ≤ 57 then f_digit I k (c - 48) else (0, I) := (if_neg c1).trans ((if_neg c2).trans (if_neg c3))
    refine g_iload1 (Y := Y_X0_take) (pc' := 52) dX0_take_51 rfl ?_
    refine g_bipush (Y := Y_X0_take) (pc' := 54) dX0_take_52 rfl (by decide) ?_
    refine g_icmp_lt (Y := Y_X0_take) (t := 78) (pc' := 57) dX0_take_54 (by decide) rfl ⟨by omega, by omega⟩ ⟨by omega, by omega⟩ (fun h54 => ?_) (fun h54 => ?_)
    · have e1 : f_take I k c = (0, I) := e0.trans (if_neg (by omega))
      refine g_iconst (Y := Y_X0_take) (pc' := 79) dX0_take_78 rfl ?_
      exact g_zret (Y := Y_X0_take) dX0_take_79 rfl (by decide) (Nat.zero_le _) (Nat.zero_le _) (by rw [e1]; exact ⟨rfl, rfl⟩)
    · refine g_iload1 (Y := Y_X0_take) (pc' := 58) dX0_take_57 rfl ?_
      refine g_bipush (Y := Y_X0_take) (pc' := 60) dX0_take_58 rfl (by decide) ?_
      refine g_icmp_gt (Y := Y_X0_take) (t := 78) (pc' := 63) dX0_take_60 (by decide) rfl ⟨by omega, by omega⟩ ⟨by omega, by omega⟩ (fun h60 => ?_) (fun h60 => ?_)
      · have e1 : f_take I k c = (0, I) := e0.trans (if_neg (by omega))
        refine g_iconst (Y := Y_X0_take) (pc' := 79) dX0_take_78 rfl ?_
        exact g_zret (Y := Y_X0_take) dX0_take_79 rfl (by decide) (Nat.zero_le _) (Nat.zero_le _) (by rw [e1]; exact ⟨rfl, rfl⟩)
      · have hd01 : (f_digit I k (c - 48)).1 = 0 ∨ (f_digit I k (c - 48)).1 = 1 := f01d
        refine g_aload0 (Y := Y_X0_take) (pc' := 64) dX0_take_63 rfl ?_
        refine g_iload1 (Y := Y_X0_take) (pc' := 65) dX0_take_64 rfl ?_
        refine g_bipush (Y := Y_X0_take) (pc' := 67) dX0_take_65 rfl (by decide) ?_
        refine g_isub (Y := Y_X0_take) (pc' := 68) dX0_take_67 rfl ?_
        refine g_callVv (Y := Y_X0_take) (c := 0) (s_X0_takeDigit ⟨t0, t1, t2, t3, r0, r1, r2, hn⟩ hv (c - 48) ⟨by omega, by omega⟩) (pc' := 71) dX0_take_68 rfl cv_X0_71 rfl (by assumption) (by show _ < n; omega) ⟨by decide, _, rfl, rfl⟩ rfl rfl rfl rfl ?_
        refine g_if_eq (Y := Y_X0_take) (t := 78) (pc' := 74) dX0_take_71 (by decide) rfl ⟨by omega, by omega⟩ (fun h71 => ?_) (fun h71 => ?_)
        · have e1 : f_take I k c = (0, (f_digit I k (c - 48)).2) := (e0.trans (if_pos (by omega))).trans (Prod.ext h71 rfl)
          refine g_iconst (Y := Y_X0_take) (pc' := 79) dX0_take_78 rfl ?_
          exact g_zret (Y := Y_X0_take) dX0_take_79 rfl (by decide) (Nat.zero_le _) (Nat.zero_le _) (by rw [e1]; exact ⟨rfl, rfl⟩)
        · have e1 : f_take I k c = (1, (f_digit I k (c - 48)).2) := (e0.trans (if_pos (by omega))).trans (Prod.ext (by omega) rfl)
          refine g_iconst (Y := Y_X0_take) (pc' := 75) dX0_take_74 rfl ?_
          refine g_goto (Y := Y_X0_take) (t := 79) dX0_take_75 (by decide) ?_
          exact g_zret (Y := Y_X0_take) dX0_take_79 rfl (by decide) (Nat.zero_le _) (Nat.zero_le _) (by rw [e1]; exact ⟨rfl, rfl⟩)
set_option maxHeartbeats 2000000 in
set_option maxRecDepth 100000 in
theorem s_X0_scan_lp {l : Launch} {E : QE} {T : Nat → Nat × Nat} {J : Nat → Nat → Int64} {R : Nat → Nat → Option Nat} {n z : Nat} {k : Nat} (hk : TxB T R n k) : ∀ (m i : Nat) (I : Nat → Nat → Int), TxV I k → i + m = (I k 3).toNat → Go l E Y_X0_scan 0 0 11 [some (.ref (E.1 + k)), some (.int (iz (i : Int)))] [] (T, I, J, R, n, z) (KV (.int (iz (f_scL k m i I).1)) (T, (f_scL k m i I).2, J, R, n, z)) := by
  obtain ⟨t0, t1, t2, t3, r0, r1, r2, hn⟩ := hk
  intro m
  induction m with
  | zero =>
    intro i I hv hm
    have v3 := hv.1
    refine g_iload1 (Y := Y_X0_scan) (pc' := 12) dX0_scan_11 rfl ?_
    refine g_aload0 (Y := Y_X0_scan) (pc' := 13) dX0_scan_12 rfl ?_
    refine g_getI (Y := Y_X0_scan) (pc' := 16) dX0_scan_13 rfl fl_X0_22 rfl (by assumption) (by omega) ?_
    refine g_icmp_ge (Y := Y_X0_scan) (t := 39) (pc' := 19) dX0_scan_16 (by decide) rfl ⟨by omega, by omega⟩ ⟨by omega, by omega⟩ (fun h16 => ?_) (fun h16 => ?_)
    · refine g_aload0 (Y := Y_X0_scan) (pc' := 40) dX0_scan_39 rfl ?_
      refine g_getI (Y := Y_X0_scan) (pc' := 43) dX0_scan_40 rfl fl_X0_22 rfl (by assumption) (by omega) ?_
      exact g_iret (Y := Y_X0_scan) dX0_scan_43 rfl (Nat.zero_le _) (Nat.zero_le _) (⟨rfl, rfl⟩)
    · exfalso; omega
  | succ m ih =>
    intro i I hv hm
    have v3 := hv.1
    have vc := hv.2.2.2.2.2.2.1 i
    have hv2 := TxV_take (c := I (k + 1) i) hv
    have h01 : (f_take I k (I (k + 1) i)).1 = 0 ∨ (f_take I k (I (k + 1) i)).1 = 1 := f_take01
    have e : f_scL k (m + 1) i I = if (f_take I k (I (k + 1) i)).1 = 0 then ((i : Int), (f_take I k (I (k + 1) i)).2) else f_scL k m (i + 1) (f_take I k (I (k + 1) i)).2 := rfl
    rw [e]
    clear e
    have hca := s_X0_codeAt (l := l) (E := E) (J := J) (z := z) ⟨t0, t1, t2, t3, r0, r1, r2, hn⟩ hv (i : Int) ⟨by omega, by omega⟩
    rw [if_pos (by omega)] at hca
    refine g_iload1 (Y := Y_X0_scan) (pc' := 12) dX0_scan_11 rfl ?_
    refine g_aload0 (Y := Y_X0_scan) (pc' := 13) dX0_scan_12 rfl ?_
    refine g_getI (Y := Y_X0_scan) (pc' := 16) dX0_scan_13 rfl fl_X0_22 rfl (by assumption) (by omega) ?_
    refine g_icmp_ge (Y := Y_X0_scan) (t := 39) (pc' := 19) dX0_scan_16 (by decide) rfl ⟨by omega, by omega⟩ ⟨by omega, by omega⟩ (fun h16 => ?_) (fun h16 => ?_)
    · exfalso; omega
    · refine g_aload0 (Y := Y_X0_scan) (pc' := 20) dX0_scan_19 rfl ?_
      refine g_aload0 (Y := Y_X0_scan) (pc' := 21) dX0_scan_20 rfl ?_
      refine g_iload1 (Y := Y_X0_scan) (pc' := 22) dX0_scan_21 rfl ?_
      refine g_callVv (Y := Y_X0_scan) (c := 0) (hca) (pc' := 25) dX0_scan_22 rfl cv_X0_45 rfl (by assumption) (by show _ < n; omega) ⟨by decide, _, rfl, rfl⟩ rfl rfl rfl rfl ?_
      refine g_callVv (Y := Y_X0_scan) (c := 0) (s_X0_take ⟨t0, t1, t2, t3, r0, r1, r2, hn⟩ hv (I (k + 1) i) ⟨by omega, by omega⟩) (pc' := 28) dX0_scan_25 rfl cv_X0_49 rfl (by assumption) (by show _ < n; omega) ⟨by decide, _, rfl, rfl⟩ rfl rfl rfl rfl ?_
      refine g_if_ne (Y := Y_X0_scan) (t := 33) (pc' := 31) dX0_scan_28 (by decide) rfl ⟨by omega, by omega⟩ (fun h28 => ?_) (fun h28 => ?_)
      · rw [if_neg h28]
        refine g_iinc1 (Y := Y_X0_scan) (pc' := 36) dX0_scan_33 rfl (Nat.le_of_ble_eq_true rfl) rfl ?_
        refine g_goto (Y := Y_X0_scan) (t := 11) dX0_scan_36 (by decide) ?_
        exact ih (i + 1) _ hv2.1 (by rw [hv2.2.2]; omega)
      · rw [if_pos h28]
        refine g_iload1 (Y := Y_X0_scan) (pc' := 32) dX0_scan_31 rfl ?_
        exact g_iret (Y := Y_X0_scan) dX0_scan_32 rfl (Nat.zero_le _) (Nat.zero_le _) (⟨rfl, rfl⟩)
set_option maxHeartbeats 2000000 in
set_option maxRecDepth 100000 in
theorem s_X0_scan {l : Launch} {E : QE} {T : Nat → Nat × Nat} {I : Nat → Nat → Int} {J : Nat → Nat → Int64} {R : Nat → Nat → Option Nat} {n z : Nat} {k : Nat} (hk : TxB T R n k) (hv : TxV I k)  : SpV l E Y_X0_scan [.ref (E.1 + k)] (T, I, J, R, n, z) (.int (iz (f_scan I k).1)) (T, (f_scan I k).2, J, R, n, z) := by
  obtain ⟨t0, t1, t2, t3, r0, r1, r2, hn⟩ := hk
  have hv1 := TxV_u (j := 4) (x := 0) hv (by omega)
  have hv2 := TxV_begin hv1.1
  have e3 : f_begin (u2 I k 4 0) k k 3 = I k 3 := hv2.2.2.trans hv1.2.2
  have v3 := hv.1
  refine Sp.of [some (.ref (E.1 + k)), none] (by decide +kernel) (Nat.le_of_ble_eq_true rfl) (fun _ h => h) ?_
  refine g_aload0 (Y := Y_X0_scan) (pc' := 1) dX0_scan_0 rfl ?_
  refine g_iconst (Y := Y_X0_scan) (pc' := 2) dX0_scan_1 rfl ?_
  refine g_putI (Y := Y_X0_scan) (pc' := 5) dX0_scan_2 rfl fp_X0_26 rfl (by assumption) (by omega) ?_
  refine g_aload0 (Y := Y_X0_scan) (pc' := 6) dX0_scan_5 rfl ?_
  refine g_callVn (Y := Y_X0_scan) (c := 0) (s_X0_beginSpot ⟨t0, t1, t2, t3, r0, r1, r2, hn⟩ hv1.1) (pc' := 9) dX0_scan_6 rfl cv_X0_42 rfl (by assumption) (by show _ < n; omega) ⟨by decide, _, rfl, rfl⟩ rfl rfl rfl rfl ?_
  refine g_iconst (Y := Y_X0_scan) (pc' := 10) dX0_scan_9 rfl ?_
  refine g_istore1 (Y := Y_X0_scan) (pc' := 11) dX0_scan_10 rfl (Nat.le_of_ble_eq_true rfl) rfl ?_
  exact s_X0_scan_lp ⟨t0, t1, t2, t3, r0, r1, r2, hn⟩ (I k 3).toNat 0 (f_begin (u2 I k 4 0) k) hv2.1 (by rw [e3]; omega)
set_option maxHeartbeats 2000000 in
set_option maxRecDepth 100000 in
theorem s_X0_tellsSpots {l : Launch} {E : QE} {T : Nat → Nat × Nat} {I : Nat → Nat → Int} {J : Nat → Nat → Int64} {R : Nat → Nat → Option Nat} {n z : Nat} {k : Nat} (hk : TxB T R n k) (hv : TxV I k)  : SpV l E Y_X0_tellsSpots [.ref (E.1 + k)] (T, I, J, R, n, z) (.int (iz (f_tells I k).1)) (T, (f_tells I k).2, J, R, n, z) := by
  obtain ⟨t0, t1, t2, t3, r0, r1, r2, hn⟩ := hk
  have hv1 := TxV_scan hv
  have hr := f_scan_rg hv
  have v3 := hv1.1.1
  have h01 : (f_endSpot (f_scan I k).2 k).1 = 0 ∨ (f_endSpot (f_scan I k).2 k).1 = 1 := f_end01
  show SpV l E Y_X0_tellsSpots _ _ (.int (iz (f_tells1 (f_scan I k) k).1)) (T, (f_tells1 (f_scan I k) k).2, J, R, n, z)
  have hsc := s_X0_scan (l := l) (E := E) (J := J) (z := z) ⟨t0, t1, t2, t3, r0, r1, r2, hn⟩ hv
  generalize f_scan I k = r at hv1 hr v3 h01 hsc ⊢
  refine Sp.of [some (.ref (E.1 + k))] (by decide +kernel) (Nat.le_of_ble_eq_true rfl) (fun _ h => h) ?_
  refine g_aload0 (Y := Y_X0_tellsSpots) (pc' := 1) dX0_tellsSpots_0 rfl ?_
  refine g_callVv (Y := Y_X0_tellsSpots) (c := 0) (hsc) (pc' := 4) dX0_tellsSpots_1 rfl cv_X0_53 rfl (by assumption) (by show _ < n; omega) ⟨by decide, _, rfl, rfl⟩ rfl rfl rfl rfl ?_
  refine g_aload0 (Y := Y_X0_tellsSpots) (pc' := 5) dX0_tellsSpots_4 rfl ?_
  refine g_getI (Y := Y_X0_tellsSpots) (pc' := 8) dX0_tellsSpots_5 rfl fl_X0_22 rfl (by assumption) (by omega) ?_
  refine g_icmp_ne (Y := Y_X0_tellsSpots) (t := 22) (pc' := 11) dX0_tellsSpots_8 (by decide) rfl ⟨by omega, by omega⟩ ⟨by omega, by omega⟩ (fun h8 => ?_) (fun h8 => ?_)
  · have e1 : f_tells1 r k = (0, r.2) := if_neg h8
    refine g_iconst (Y := Y_X0_tellsSpots) (pc' := 23) dX0_tellsSpots_22 rfl ?_
    exact g_zret (Y := Y_X0_tellsSpots) dX0_tellsSpots_23 rfl (by decide) (Nat.zero_le _) (Nat.zero_le _) (by rw [e1]; exact ⟨rfl, rfl⟩)
  · have e0 : f_tells1 r k = f_endSpot r.2 k := if_pos h8
    refine g_aload0 (Y := Y_X0_tellsSpots) (pc' := 12) dX0_tellsSpots_11 rfl ?_
    refine g_callVv (Y := Y_X0_tellsSpots) (c := 0) (s_X0_endSpot (I := r.2) ⟨t0, t1, t2, t3, r0, r1, r2, hn⟩ hv1.1) (pc' := 15) dX0_tellsSpots_12 rfl cv_X0_57 rfl (by assumption) (by show _ < n; omega) ⟨by decide, _, rfl, rfl⟩ rfl rfl rfl rfl ?_
    refine g_if_eq (Y := Y_X0_tellsSpots) (t := 22) (pc' := 18) dX0_tellsSpots_15 (by decide) rfl ⟨by omega, by omega⟩ (fun h15 => ?_) (fun h15 => ?_)
    · have e1 : f_tells1 r k = (0, (f_endSpot r.2 k).2) := e0.trans (Prod.ext h15 rfl)
      refine g_iconst (Y := Y_X0_tellsSpots) (pc' := 23) dX0_tellsSpots_22 rfl ?_
      exact g_zret (Y := Y_X0_tellsSpots) dX0_tellsSpots_23 rfl (by decide) (Nat.zero_le _) (Nat.zero_le _) (by rw [e1]; exact ⟨rfl, rfl⟩)
    · have e1 : f_tells1 r k = (1, (f_endSpot r.2 k).2) := e0.trans (Prod.ext (by omega) rfl)
      refine g_iconst (Y := Y_X0_tellsSpots) (pc' := 19) dX0_tellsSpots_18 rfl ?_
      refine g_goto (Y := Y_X0_tellsSpots) (t := 23) dX0_tellsSpots_19 (by decide) ?_
      exact g_zret (Y := Y_X0_tellsSpots) dX0_tellsSpots_23 rfl (by decide) (Nat.zero_le _) (Nat.zero_le _) (by rw [e1]; exact ⟨rfl, rfl⟩)
