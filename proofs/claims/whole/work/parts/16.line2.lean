/-! Line: spots join, the widest gap, the line is spread -/
theorem f_steps_rg {I : Nat → Nat → Int} {k : Nat} (h4 : 0 ≤ I k 4 ∧ I k 4 < 24) (h5 : 0 ≤ I k 5 ∧ I k 5 < 24) (h1 : -24 < I k 1 ∧ I k 1 < 24) (h2 : -24 < I k 2 ∧ I k 2 < 24) {t s : Int} (ht : 0 ≤ t ∧ t < 24) (hs : 0 ≤ s ∧ s < 24) : -24 < f_steps I k t s ∧ f_steps I k t s < 24 := by
  unfold f_steps f_ratio
  split
  · split
    · omega
    · exact tdiv_rg ⟨by omega, by omega⟩
  · exact tdiv_rg ⟨by omega, by omega⟩
set_option maxHeartbeats 2000000 in
set_option maxRecDepth 100000 in
theorem s_X1_join {l : Launch} {E : QE} {T : Nat → Nat × Nat} {I : Nat → Nat → Int} {J : Nat → Nat → Int64} {R : Nat → Nat → Option Nat} {n z : Nat} {k : Nat} (hk : LnB T n k) (h4 : 0 ≤ I k 4 ∧ I k 4 < 24) (h5 : 0 ≤ I k 5 ∧ I k 5 < 24) (h1 : -24 < I k 1 ∧ I k 1 < 24) (h2 : -24 < I k 2 ∧ I k 2 < 24) (h0 : 0 ≤ I k 0) (h6 : -24 < I k 6 ∧ I k 6 < 24) (h7 : -24 < I k 7 ∧ I k 7 < 24) (sp t s : Int) (hsp : 0 ≤ sp ∧ sp < 12) (ht : 0 ≤ t ∧ t < 24) (hs : 0 ≤ s ∧ s < 24) : SpN l E Y_X1_join [.ref (E.1 + k), .int (iz sp), .int (iz t), .int (iz s)] (T, I, J, R, n, z) (T, f_join I k sp t s, f_joinJ I J k t s, R, n, z) := by
  obtain ⟨t0, hn⟩ := hk
  have hst := f_steps_rg h4 h5 h1 h2 ht hs
  refine Sp.of [some (.ref (E.1 + k)), some (.int (iz sp)), some (.int (iz t)), some (.int (iz s)), none] (by decide +kernel) (Nat.le_of_ble_eq_true rfl) (fun _ h => h) ?_
  refine g_aload0 (Y := Y_X1_join) (pc' := 1) dX1_join_0 rfl ?_
  refine g_iload2 (Y := Y_X1_join) (pc' := 2) dX1_join_1 rfl ?_
  refine g_iload3 (Y := Y_X1_join) (pc' := 3) dX1_join_2 rfl ?_
  refine g_callVv (Y := Y_X1_join) (c := 1) (s_X1_stepsTo ⟨t0, hn⟩ h4 h5 h1 h2 t s ht hs) (pc' := 6) dX1_join_3 rfl cv_X1_50 rfl (by assumption) (by show _ < n; omega) ⟨by decide, _, rfl, rfl⟩ rfl rfl rfl rfl ?_
  refine g_istore4 (Y := Y_X1_join) (pc' := 8) dX1_join_6 rfl (Nat.le_of_ble_eq_true rfl) rfl ?_
  refine g_aload0 (Y := Y_X1_join) (pc' := 9) dX1_join_8 rfl ?_
  refine g_aload0 (Y := Y_X1_join) (pc' := 10) dX1_join_9 rfl ?_
  refine g_getI (Y := Y_X1_join) (pc' := 13) dX1_join_10 rfl fl_X1_9 rfl (by assumption) (by omega) ?_
  refine g_iconst (Y := Y_X1_join) (pc' := 14) dX1_join_13 rfl ?_
  refine g_iload1 (Y := Y_X1_join) (pc' := 15) dX1_join_14 rfl ?_
  refine g_ishl (Y := Y_X1_join) (pc' := 16) dX1_join_15 rfl (iz_shl1 hsp) ?_
  refine g_ior (Y := Y_X1_join) (pc' := 17) dX1_join_16 rfl (iz_obit h0) ?_
  refine g_putI (Y := Y_X1_join) (pc' := 20) dX1_join_17 rfl fp_X1_9 rfl (by assumption) (by omega) ?_
  refine g_aload0 (Y := Y_X1_join) (pc' := 21) dX1_join_20 rfl ?_
  refine g_aload0 (Y := Y_X1_join) (pc' := 22) dX1_join_21 rfl ?_
  refine g_getJ (Y := Y_X1_join) (pc' := 25) dX1_join_22 rfl fl_X1_36 rfl (by assumption) (by omega) ?_
  refine g_lconst (Y := Y_X1_join) (v := 1) (pc' := 26) dX1_join_25 rfl (by decide) ?_
  refine g_bipush (Y := Y_X1_join) (pc' := 28) dX1_join_26 rfl (by decide) ?_
  refine g_iload4 (Y := Y_X1_join) (pc' := 30) dX1_join_28 rfl ?_
  refine g_iadd (Y := Y_X1_join) (pc' := 31) dX1_join_30 rfl ?_
  refine g_lshl (Y := Y_X1_join) (pc' := 32) dX1_join_31 rfl rfl ?_
  refine g_lor (Y := Y_X1_join) (pc' := 33) dX1_join_32 rfl ?_
  refine g_putJ (Y := Y_X1_join) (pc' := 36) dX1_join_33 rfl fp_X1_36 rfl (by assumption) (by omega) ?_
  refine g_aload0 (Y := Y_X1_join) (pc' := 37) dX1_join_36 rfl ?_
  refine g_aload0 (Y := Y_X1_join) (pc' := 38) dX1_join_37 rfl ?_
  refine g_getI (Y := Y_X1_join) (pc' := 41) dX1_join_38 rfl fl_X1_30 rfl (by assumption) (by omega) ?_
  refine g_iload4 (Y := Y_X1_join) (pc' := 43) dX1_join_41 rfl ?_
  refine g_mmin (Y := Y_X1_join) (pc' := 46) dX1_join_43 rfl ⟨(q_w 466 (by decide +kernel) rfl), (q_w 467 (by decide +kernel) rfl), (q_w 15 (by decide +kernel) rfl), (q_w 468 (by decide +kernel) rfl)⟩ (Nat.le_of_ble_eq_true rfl) (Nat.le_of_ble_eq_true rfl) (Nat.zero_le _) (Nat.zero_le _) (by rw [u2_nj (by decide)]; exact ⟨by omega, by omega⟩) ⟨by omega, by omega⟩ rfl ?_
  refine g_putI (Y := Y_X1_join) (pc' := 49) dX1_join_46 rfl fp_X1_30 rfl (by assumption) (by omega) ?_
  refine g_aload0 (Y := Y_X1_join) (pc' := 50) dX1_join_49 rfl ?_
  refine g_aload0 (Y := Y_X1_join) (pc' := 51) dX1_join_50 rfl ?_
  refine g_getI (Y := Y_X1_join) (pc' := 54) dX1_join_51 rfl fl_X1_33 rfl (by assumption) (by omega) ?_
  refine g_iload4 (Y := Y_X1_join) (pc' := 56) dX1_join_54 rfl ?_
  refine g_mmax (Y := Y_X1_join) (pc' := 59) dX1_join_56 rfl ⟨(q_w 469 (by decide +kernel) rfl), (q_w 470 (by decide +kernel) rfl), (q_w 15 (by decide +kernel) rfl), (q_w 471 (by decide +kernel) rfl)⟩ (Nat.le_of_ble_eq_true rfl) (Nat.le_of_ble_eq_true rfl) (Nat.zero_le _) (Nat.zero_le _) (by rw [u2_nj (by decide), u2_nj (by decide)]; exact ⟨by omega, by omega⟩) ⟨by omega, by omega⟩ rfl ?_
  refine g_putI (Y := Y_X1_join) (pc' := 62) dX1_join_59 rfl fp_X1_33 rfl (by assumption) (by omega) ?_
  exact g_vret (Y := Y_X1_join) dX1_join_62 rfl (Nat.zero_le _) (Nat.zero_le _) (⟨rfl, rfl⟩)
set_option maxHeartbeats 2000000 in
set_option maxRecDepth 100000 in
theorem s_X1_widestGap_lp {l : Launch} {E : QE} {T : Nat → Nat × Nat} {I : Nat → Nat → Int} {J : Nat → Nat → Int64} {R : Nat → Nat → Option Nat} {n z : Nat} {k : Nat} (hk : LnB T n k) (h7 : -100 ≤ I k 7 ∧ I k 7 ≤ 100) : ∀ (m : Nat) (st bf wd : Int), st + m = I k 7 + 1 → (-100 ≤ st ∧ -100 ≤ bf ∧ bf ≤ 100 ∧ -1000 ≤ wd ∧ wd ≤ 1000) → Go l E Y_X1_widestGap 0 0 14 [some (.ref (E.1 + k)), some (.int (iz wd)), some (.int (iz bf)), some (.int (iz st))] [] (T, I, J, R, n, z) (KV (.int (iz (gapL (J k 8) m st bf wd))) (T, I, J, R, n, z)) := by
  obtain ⟨t0, hn⟩ := hk
  intro m
  induction m with
  | zero =>
    intro st bf wd hm hr
    refine g_iload3 (Y := Y_X1_widestGap) (pc' := 15) dX1_widestGap_14 rfl ?_
    refine g_aload0 (Y := Y_X1_widestGap) (pc' := 16) dX1_widestGap_15 rfl ?_
    refine g_getI (Y := Y_X1_widestGap) (pc' := 19) dX1_widestGap_16 rfl fl_X1_33 rfl (by assumption) (by omega) ?_
    refine g_icmp_gt (Y := Y_X1_widestGap) (t := 54) (pc' := 22) dX1_widestGap_19 (by decide) rfl ⟨by omega, by omega⟩ ⟨by omega, by omega⟩ (fun h19 => ?_) (fun h19 => ?_)
    · refine g_iload1 (Y := Y_X1_widestGap) (pc' := 55) dX1_widestGap_54 rfl ?_
      exact g_iret (Y := Y_X1_widestGap) dX1_widestGap_55 rfl (Nat.zero_le _) (Nat.zero_le _) (⟨rfl, rfl⟩)
    · exfalso; omega
  | succ m ih =>
    intro st bf wd hm hr
    refine g_iload3 (Y := Y_X1_widestGap) (pc' := 15) dX1_widestGap_14 rfl ?_
    refine g_aload0 (Y := Y_X1_widestGap) (pc' := 16) dX1_widestGap_15 rfl ?_
    refine g_getI (Y := Y_X1_widestGap) (pc' := 19) dX1_widestGap_16 rfl fl_X1_33 rfl (by assumption) (by omega) ?_
    refine g_icmp_gt (Y := Y_X1_widestGap) (t := 54) (pc' := 22) dX1_widestGap_19 (by decide) rfl ⟨by omega, by omega⟩ ⟨by omega, by omega⟩ (fun h19 => ?_) (fun h19 => ?_)
    · exfalso; omega
    · refine g_aload0 (Y := Y_X1_widestGap) (pc' := 23) dX1_widestGap_22 rfl ?_
      refine g_getJ (Y := Y_X1_widestGap) (pc' := 26) dX1_widestGap_23 rfl fl_X1_36 rfl (by assumption) (by omega) ?_
      refine g_bipush (Y := Y_X1_widestGap) (pc' := 28) dX1_widestGap_26 rfl (by decide) ?_
      refine g_iload3 (Y := Y_X1_widestGap) (pc' := 29) dX1_widestGap_28 rfl ?_
      refine g_iadd (Y := Y_X1_widestGap) (pc' := 30) dX1_widestGap_29 rfl ?_
      refine g_lshr (Y := Y_X1_widestGap) (pc' := 31) dX1_widestGap_30 rfl rfl ?_
      refine g_lconst (Y := Y_X1_widestGap) (v := 1) (pc' := 32) dX1_widestGap_31 rfl (by decide) ?_
      refine g_land (Y := Y_X1_widestGap) (pc' := 33) dX1_widestGap_32 rfl ?_
      refine g_lconst (Y := Y_X1_widestGap) (v := 1) (pc' := 34) dX1_widestGap_33 rfl (by decide) ?_
      refine g_lcmp (Y := Y_X1_widestGap) (pc' := 35) dX1_widestGap_34 rfl (lcmp_z _ _) ?_
      refine g_if_ne (Y := Y_X1_widestGap) (t := 48) (pc' := 38) dX1_widestGap_35 (by decide) rfl (lcmp_rg _ _) (fun h35 => ?_) (fun h35 => ?_)
      · have e : gapL (J k 8) (m + 1) st bf wd = gapL (J k 8) m (st + 1) bf wd := if_neg (fun q => h35 ((lcmp_0 _ _).mpr q))
        rw [e]
        refine g_iinc3 (Y := Y_X1_widestGap) (pc' := 51) dX1_widestGap_48 rfl (Nat.le_of_ble_eq_true rfl) rfl ?_
        refine g_goto (Y := Y_X1_widestGap) (t := 14) dX1_widestGap_51 (by decide) ?_
        exact ih _ _ _ (by omega) (by omega)
      · have e : gapL (J k 8) (m + 1) st bf wd = gapL (J k 8) m (st + 1) st (imax2 wd (st - bf)) := if_pos ((lcmp_0 _ _).mp h35)
        rw [e]
        have hx : -1000 ≤ imax2 wd (st - bf) ∧ imax2 wd (st - bf) ≤ 1000 := by unfold imax2; split <;> omega
        refine g_iload1 (Y := Y_X1_widestGap) (pc' := 39) dX1_widestGap_38 rfl ?_
        refine g_iload3 (Y := Y_X1_widestGap) (pc' := 40) dX1_widestGap_39 rfl ?_
        refine g_iload2 (Y := Y_X1_widestGap) (pc' := 41) dX1_widestGap_40 rfl ?_
        refine g_isub (Y := Y_X1_widestGap) (pc' := 42) dX1_widestGap_41 rfl ?_
        refine g_mmax (Y := Y_X1_widestGap) (pc' := 45) dX1_widestGap_42 rfl ⟨(q_w 469 (by decide +kernel) rfl), (q_w 470 (by decide +kernel) rfl), (q_w 15 (by decide +kernel) rfl), (q_w 471 (by decide +kernel) rfl)⟩ (Nat.le_of_ble_eq_true rfl) (Nat.le_of_ble_eq_true rfl) (Nat.zero_le _) (Nat.zero_le _) ⟨by omega, by omega⟩ ⟨by omega, by omega⟩ rfl ?_
        refine g_istore1 (Y := Y_X1_widestGap) (pc' := 46) dX1_widestGap_45 rfl (Nat.le_of_ble_eq_true rfl) rfl ?_
        refine g_iload3 (Y := Y_X1_widestGap) (pc' := 47) dX1_widestGap_46 rfl ?_
        refine g_istore2 (Y := Y_X1_widestGap) (pc' := 48) dX1_widestGap_47 rfl (Nat.le_of_ble_eq_true rfl) rfl ?_
        refine g_iinc3 (Y := Y_X1_widestGap) (pc' := 51) dX1_widestGap_48 rfl (Nat.le_of_ble_eq_true rfl) rfl ?_
        refine g_goto (Y := Y_X1_widestGap) (t := 14) dX1_widestGap_51 (by decide) ?_
        exact ih _ _ _ (by omega) (by omega)
set_option maxHeartbeats 2000000 in
set_option maxRecDepth 100000 in
theorem s_X1_widestGap {l : Launch} {E : QE} {T : Nat → Nat × Nat} {I : Nat → Nat → Int} {J : Nat → Nat → Int64} {R : Nat → Nat → Option Nat} {n z : Nat} {k : Nat} (hk : LnB T n k) (h6 : -100 ≤ I k 6 ∧ I k 6 ≤ I k 7) (h7 : -100 ≤ I k 7 ∧ I k 7 ≤ 100) : SpV l E Y_X1_widestGap [.ref (E.1 + k)] (T, I, J, R, n, z) (.int (iz (f_gap I J k))) (T, I, J, R, n, z) := by
  obtain ⟨t0, hn⟩ := hk
  refine Sp.of [some (.ref (E.1 + k)), none, none, none] (by decide +kernel) (Nat.le_of_ble_eq_true rfl) (fun _ h => h) ?_
  refine g_iconst (Y := Y_X1_widestGap) (pc' := 1) dX1_widestGap_0 rfl ?_
  refine g_istore1 (Y := Y_X1_widestGap) (pc' := 2) dX1_widestGap_1 rfl (Nat.le_of_ble_eq_true rfl) rfl ?_
  refine g_aload0 (Y := Y_X1_widestGap) (pc' := 3) dX1_widestGap_2 rfl ?_
  refine g_getI (Y := Y_X1_widestGap) (pc' := 6) dX1_widestGap_3 rfl fl_X1_30 rfl (by assumption) (by omega) ?_
  refine g_istore2 (Y := Y_X1_widestGap) (pc' := 7) dX1_widestGap_6 rfl (Nat.le_of_ble_eq_true rfl) rfl ?_
  refine g_aload0 (Y := Y_X1_widestGap) (pc' := 8) dX1_widestGap_7 rfl ?_
  refine g_getI (Y := Y_X1_widestGap) (pc' := 11) dX1_widestGap_8 rfl fl_X1_30 rfl (by assumption) (by omega) ?_
  refine g_iconst (Y := Y_X1_widestGap) (pc' := 12) dX1_widestGap_11 rfl ?_
  refine g_iadd (Y := Y_X1_widestGap) (pc' := 13) dX1_widestGap_12 rfl ?_
  refine g_istore3 (Y := Y_X1_widestGap) (pc' := 14) dX1_widestGap_13 rfl (Nat.le_of_ble_eq_true rfl) rfl ?_
  exact s_X1_widestGap_lp ⟨t0, hn⟩ h7 _ _ _ _ (by omega) (by omega)
theorem f_trk_rg {I : Nat → Nat → Int} {k : Nat} (h4 : 0 ≤ I k 4 ∧ I k 4 < 24) (h1 : -24 < I k 1 ∧ I k 1 < 24) {s : Int} (hs : -100 ≤ s ∧ s ≤ 100) : -2147483648 ≤ f_trk I k s ∧ f_trk I k s < 2147483648 := by
  have := mulb (a := s) (b := I k 1) (A := 100) (B := 23) hs (by omega)
  unfold f_trk
  omega
theorem f_sec_rg {I : Nat → Nat → Int} {k : Nat} (h5 : 0 ≤ I k 5 ∧ I k 5 < 24) (h2 : -24 < I k 2 ∧ I k 2 < 24) {s : Int} (hs : -100 ≤ s ∧ s ≤ 100) : -2147483648 ≤ f_sec I k s ∧ f_sec I k s < 2147483648 := by
  have := mulb (a := s) (b := I k 2) (A := 100) (B := 23) hs (by omega)
  unfold f_sec
  omega
set_option maxHeartbeats 2000000 in
set_option maxRecDepth 100000 in
theorem s_X1_spread_lp1 {l : Launch} {E : QE} {T : Nat → Nat × Nat} {J : Nat → Nat → Int64} {R : Nat → Nat → Option Nat} {n z : Nat} {k : Nat} (hk : LnB T n k) {K : Option Value → QW → Prop} {b : Int} (hb : 0 ≤ b ∧ b ≤ 6) : ∀ (m i : Nat) (I : Nat → Nat → Int), (0 ≤ I k 4 ∧ I k 4 < 24) → (0 ≤ I k 5 ∧ I k 5 < 24) → (-24 < I k 1 ∧ I k 1 < 24) → (-24 < I k 2 ∧ I k 2 < 24) → (-80 ≤ I k 6 - (m : Int) ∧ I k 6 ≤ 80) → (i : Int) + m = b → (∀ L3 : Int, Go l E Y_X1_spread 0 0 49 [some (.ref (E.1 + k)), some (.int (iz b)), some (.int (iz L3))] [] (T, f_dn I k m, J, R, n, z) K) → Go l E Y_X1_spread 0 0 2 [some (.ref (E.1 + k)), some (.int (iz b)), some (.int (iz (i : Int)))] [] (T, I, J, R, n, z) K := by
  obtain ⟨t0, hn⟩ := hk
  intro m
  induction m with
  | zero =>
    intro i I ha4 ha5 ha1 ha2 hr hm hend
    refine g_iload2 (Y := Y_X1_spread) (pc' := 3) dX1_spread_2 rfl ?_
    refine g_iload1 (Y := Y_X1_spread) (pc' := 4) dX1_spread_3 rfl ?_
    refine g_icmp_ge (Y := Y_X1_spread) (t := 49) (pc' := 7) dX1_spread_4 (by decide) rfl ⟨by omega, by omega⟩ ⟨by omega, by omega⟩ (fun h4 => ?_) (fun h4 => ?_)
    · exact hend _
    · exfalso; omega
  | succ m ih =>
    intro i I ha4 ha5 ha1 ha2 hr hm hend
    refine g_iload2 (Y := Y_X1_spread) (pc' := 3) dX1_spread_2 rfl ?_
    refine g_iload1 (Y := Y_X1_spread) (pc' := 4) dX1_spread_3 rfl ?_
    refine g_icmp_ge (Y := Y_X1_spread) (t := 49) (pc' := 7) dX1_spread_4 (by decide) rfl ⟨by omega, by omega⟩ ⟨by omega, by omega⟩ (fun h4 => ?_) (fun h4 => ?_)
    · exfalso; omega
    · refine g_aload0 (Y := Y_X1_spread) (pc' := 8) dX1_spread_7 rfl ?_
      refine g_aload0 (Y := Y_X1_spread) (pc' := 9) dX1_spread_8 rfl ?_
      refine g_getI (Y := Y_X1_spread) (pc' := 12) dX1_spread_9 rfl fl_X1_30 rfl (by assumption) (by omega) ?_
      refine g_iconst (Y := Y_X1_spread) (pc' := 13) dX1_spread_12 rfl ?_
      refine g_isub (Y := Y_X1_spread) (pc' := 14) dX1_spread_13 rfl ?_
      refine g_callVv (Y := Y_X1_spread) (c := 1) (s_X1_trackAt ⟨t0, hn⟩ (I k 6 - 1)) (pc' := 17) dX1_spread_14 rfl cv_X1_59 rfl (by assumption) (by show _ < n; omega) ⟨by decide, _, rfl, rfl⟩ rfl rfl rfl rfl ?_
      refine g_aload0 (Y := Y_X1_spread) (pc' := 18) dX1_spread_17 rfl ?_
      refine g_aload0 (Y := Y_X1_spread) (pc' := 19) dX1_spread_18 rfl ?_
      refine g_getI (Y := Y_X1_spread) (pc' := 22) dX1_spread_19 rfl fl_X1_30 rfl (by assumption) (by omega) ?_
      refine g_iconst (Y := Y_X1_spread) (pc' := 23) dX1_spread_22 rfl ?_
      refine g_isub (Y := Y_X1_spread) (pc' := 24) dX1_spread_23 rfl ?_
      refine g_callVv (Y := Y_X1_spread) (c := 1) (s_X1_sectorAt ⟨t0, hn⟩ (I k 6 - 1)) (pc' := 27) dX1_spread_24 rfl cv_X1_62 rfl (by assumption) (by show _ < n; omega) ⟨by decide, _, rfl, rfl⟩ rfl rfl rfl rfl ?_
      refine g_callSNv (Y := Y_X1_spread) (s_X4_inDrive _ _ (f_trk_rg ha4 ha1 ⟨by omega, by omega⟩) (f_sec_rg ha5 ha2 ⟨by omega, by omega⟩)) (pc' := 30) dX1_spread_27 rfl cv_X1_65 rfl rfl rfl rfl rfl ?_
      refine g_if_eq (Y := Y_X1_spread) (t := 49) (pc' := 33) dX1_spread_30 (by decide) rfl ⟨by omega, by omega⟩ (fun h30 => ?_) (fun h30 => ?_)
      · have e : f_dn I k (m + 1) = I := if_neg (by intro q; rw [if_pos q] at h30; exact absurd h30 (by decide))
        rw [e] at hend
        exact hend _
      · have e : f_dn I k (m + 1) = f_dn (u2 I k 6 (I k 6 - 1)) k m := if_pos (by by_cases q : inD (f_trk I k (I k 6 - 1)) (f_sec I k (I k 6 - 1)); exact q; exfalso; exact h30 (if_neg q))
        rw [e] at hend
        have k1 : (u2 I k 6 (I k 6 - 1)) k 1 = I k 1 := u2_nj (by decide)
        have k2 : (u2 I k 6 (I k 6 - 1)) k 2 = I k 2 := u2_nj (by decide)
        have k4 : (u2 I k 6 (I k 6 - 1)) k 4 = I k 4 := u2_nj (by decide)
        have k5 : (u2 I k 6 (I k 6 - 1)) k 5 = I k 5 := u2_nj (by decide)
        have k9 : (u2 I k 6 (I k 6 - 1)) k 6 = I k 6 - 1 := u2_at
        refine g_aload0 (Y := Y_X1_spread) (pc' := 34) dX1_spread_33 rfl ?_
        refine g_dup (Y := Y_X1_spread) (pc' := 35) dX1_spread_34 rfl rfl ?_
        refine g_getI (Y := Y_X1_spread) (pc' := 38) dX1_spread_35 rfl fl_X1_30 rfl (by assumption) (by omega) ?_
        refine g_iconst (Y := Y_X1_spread) (pc' := 39) dX1_spread_38 rfl ?_
        refine g_isub (Y := Y_X1_spread) (pc' := 40) dX1_spread_39 rfl ?_
        refine g_putI (Y := Y_X1_spread) (pc' := 43) dX1_spread_40 rfl fp_X1_30 rfl (by assumption) (by omega) ?_
        refine g_iinc2 (Y := Y_X1_spread) (pc' := 46) dX1_spread_43 rfl (Nat.le_of_ble_eq_true rfl) rfl ?_
        refine g_goto (Y := Y_X1_spread) (t := 2) dX1_spread_46 (by decide) ?_
        exact ih (i + 1) _ (by rw [k4]; exact ha4) (by rw [k5]; exact ha5) (by rw [k1]; exact ha1) (by rw [k2]; exact ha2) (by rw [k9]; omega) (by omega) hend
set_option maxHeartbeats 2000000 in
set_option maxRecDepth 100000 in
theorem s_X1_spread_lp2 {l : Launch} {E : QE} {T : Nat → Nat × Nat} {J : Nat → Nat → Int64} {R : Nat → Nat → Option Nat} {n z : Nat} {k : Nat} (hk : LnB T n k) {K : Option Value → QW → Prop} {b : Int} (hb : 0 ≤ b ∧ b ≤ 6) : ∀ (m i : Nat) (I : Nat → Nat → Int), (0 ≤ I k 4 ∧ I k 4 < 24) → (0 ≤ I k 5 ∧ I k 5 < 24) → (-24 < I k 1 ∧ I k 1 < 24) → (-24 < I k 2 ∧ I k 2 < 24) → (-80 ≤ I k 7 ∧ I k 7 + (m : Int) ≤ 80) → (i : Int) + m = b → (∀ L3 : Int, Go l E Y_X1_spread 0 0 98 [some (.ref (E.1 + k)), some (.int (iz b)), some (.int (iz L3))] [] (T, f_up I k m, J, R, n, z) K) → Go l E Y_X1_spread 0 0 51 [some (.ref (E.1 + k)), some (.int (iz b)), some (.int (iz (i : Int)))] [] (T, I, J, R, n, z) K := by
  obtain ⟨t0, hn⟩ := hk
  intro m
  induction m with
  | zero =>
    intro i I ha4 ha5 ha1 ha2 hr hm hend
    refine g_iload2 (Y := Y_X1_spread) (pc' := 52) dX1_spread_51 rfl ?_
    refine g_iload1 (Y := Y_X1_spread) (pc' := 53) dX1_spread_52 rfl ?_
    refine g_icmp_ge (Y := Y_X1_spread) (t := 98) (pc' := 56) dX1_spread_53 (by decide) rfl ⟨by omega, by omega⟩ ⟨by omega, by omega⟩ (fun h53 => ?_) (fun h53 => ?_)
    · exact hend _
    · exfalso; omega
  | succ m ih =>
    intro i I ha4 ha5 ha1 ha2 hr hm hend
    refine g_iload2 (Y := Y_X1_spread) (pc' := 52) dX1_spread_51 rfl ?_
    refine g_iload1 (Y := Y_X1_spread) (pc' := 53) dX1_spread_52 rfl ?_
    refine g_icmp_ge (Y := Y_X1_spread) (t := 98) (pc' := 56) dX1_spread_53 (by decide) rfl ⟨by omega, by omega⟩ ⟨by omega, by omega⟩ (fun h53 => ?_) (fun h53 => ?_)
    · exfalso; omega
    · refine g_aload0 (Y := Y_X1_spread) (pc' := 57) dX1_spread_56 rfl ?_
      refine g_aload0 (Y := Y_X1_spread) (pc' := 58) dX1_spread_57 rfl ?_
      refine g_getI (Y := Y_X1_spread) (pc' := 61) dX1_spread_58 rfl fl_X1_33 rfl (by assumption) (by omega) ?_
      refine g_iconst (Y := Y_X1_spread) (pc' := 62) dX1_spread_61 rfl ?_
      refine g_iadd (Y := Y_X1_spread) (pc' := 63) dX1_spread_62 rfl ?_
      refine g_callVv (Y := Y_X1_spread) (c := 1) (s_X1_trackAt ⟨t0, hn⟩ (I k 7 + 1)) (pc' := 66) dX1_spread_63 rfl cv_X1_59 rfl (by assumption) (by show _ < n; omega) ⟨by decide, _, rfl, rfl⟩ rfl rfl rfl rfl ?_
      refine g_aload0 (Y := Y_X1_spread) (pc' := 67) dX1_spread_66 rfl ?_
      refine g_aload0 (Y := Y_X1_spread) (pc' := 68) dX1_spread_67 rfl ?_
      refine g_getI (Y := Y_X1_spread) (pc' := 71) dX1_spread_68 rfl fl_X1_33 rfl (by assumption) (by omega) ?_
      refine g_iconst (Y := Y_X1_spread) (pc' := 72) dX1_spread_71 rfl ?_
      refine g_iadd (Y := Y_X1_spread) (pc' := 73) dX1_spread_72 rfl ?_
      refine g_callVv (Y := Y_X1_spread) (c := 1) (s_X1_sectorAt ⟨t0, hn⟩ (I k 7 + 1)) (pc' := 76) dX1_spread_73 rfl cv_X1_62 rfl (by assumption) (by show _ < n; omega) ⟨by decide, _, rfl, rfl⟩ rfl rfl rfl rfl ?_
      refine g_callSNv (Y := Y_X1_spread) (s_X4_inDrive _ _ (f_trk_rg ha4 ha1 ⟨by omega, by omega⟩) (f_sec_rg ha5 ha2 ⟨by omega, by omega⟩)) (pc' := 79) dX1_spread_76 rfl cv_X1_65 rfl rfl rfl rfl rfl ?_
      refine g_if_eq (Y := Y_X1_spread) (t := 98) (pc' := 82) dX1_spread_79 (by decide) rfl ⟨by omega, by omega⟩ (fun h79 => ?_) (fun h79 => ?_)
      · have e : f_up I k (m + 1) = I := if_neg (by intro q; rw [if_pos q] at h79; exact absurd h79 (by decide))
        rw [e] at hend
        exact hend _
      · have e : f_up I k (m + 1) = f_up (u2 I k 7 (I k 7 + 1)) k m := if_pos (by by_cases q : inD (f_trk I k (I k 7 + 1)) (f_sec I k (I k 7 + 1)); exact q; exfalso; exact h79 (if_neg q))
        rw [e] at hend
        have k1 : (u2 I k 7 (I k 7 + 1)) k 1 = I k 1 := u2_nj (by decide)
        have k2 : (u2 I k 7 (I k 7 + 1)) k 2 = I k 2 := u2_nj (by decide)
        have k4 : (u2 I k 7 (I k 7 + 1)) k 4 = I k 4 := u2_nj (by decide)
        have k5 : (u2 I k 7 (I k 7 + 1)) k 5 = I k 5 := u2_nj (by decide)
        have k9 : (u2 I k 7 (I k 7 + 1)) k 7 = I k 7 + 1 := u2_at
        refine g_aload0 (Y := Y_X1_spread) (pc' := 83) dX1_spread_82 rfl ?_
        refine g_dup (Y := Y_X1_spread) (pc' := 84) dX1_spread_83 rfl rfl ?_
        refine g_getI (Y := Y_X1_spread) (pc' := 87) dX1_spread_84 rfl fl_X1_33 rfl (by assumption) (by omega) ?_
        refine g_iconst (Y := Y_X1_spread) (pc' := 88) dX1_spread_87 rfl ?_
        refine g_iadd (Y := Y_X1_spread) (pc' := 89) dX1_spread_88 rfl ?_
        refine g_putI (Y := Y_X1_spread) (pc' := 92) dX1_spread_89 rfl fp_X1_33 rfl (by assumption) (by omega) ?_
        refine g_iinc2 (Y := Y_X1_spread) (pc' := 95) dX1_spread_92 rfl (Nat.le_of_ble_eq_true rfl) rfl ?_
        refine g_goto (Y := Y_X1_spread) (t := 51) dX1_spread_95 (by decide) ?_
        exact ih (i + 1) _ (by rw [k4]; exact ha4) (by rw [k5]; exact ha5) (by rw [k1]; exact ha1) (by rw [k2]; exact ha2) (by rw [k9]; omega) (by omega) hend
theorem f_dn_keep {k : Nat} : ∀ (m : Nat) (I : Nat → Nat → Int) (j : Nat), j ≠ 6 → f_dn I k m k j = I k j
  | 0, _, _, _ => rfl
  | m + 1, I, j, h => by
    unfold f_dn
    split
    · rw [f_dn_keep m _ j h, u2_nj h]
    · rfl
theorem f_up_keep {k : Nat} : ∀ (m : Nat) (I : Nat → Nat → Int) (j : Nat), j ≠ 7 → f_up I k m k j = I k j
  | 0, _, _, _ => rfl
  | m + 1, I, j, h => by
    unfold f_up
    split
    · rw [f_up_keep m _ j h, u2_nj h]
    · rfl
set_option maxHeartbeats 2000000 in
set_option maxRecDepth 100000 in
theorem s_X1_spread {l : Launch} {E : QE} {T : Nat → Nat × Nat} {I : Nat → Nat → Int} {J : Nat → Nat → Int64} {R : Nat → Nat → Option Nat} {n z : Nat} {k : Nat} (hk : LnB T n k) (h4 : 0 ≤ I k 4 ∧ I k 4 < 24) (h5 : 0 ≤ I k 5 ∧ I k 5 < 24) (h1 : -24 < I k 1 ∧ I k 1 < 24) (h2 : -24 < I k 2 ∧ I k 2 < 24) (h6 : -24 < I k 6 ∧ I k 6 < 24) (h7 : -24 < I k 7 ∧ I k 7 < 24) (b : Int) (hb : 0 ≤ b ∧ b ≤ 6) : SpN l E Y_X1_spread [.ref (E.1 + k), .int (iz b)] (T, I, J, R, n, z) (T, f_spread I k b, J, R, n, z) := by
  obtain ⟨t0, hn⟩ := hk
  refine Sp.of [some (.ref (E.1 + k)), some (.int (iz b)), none] (by decide +kernel) (Nat.le_of_ble_eq_true rfl) (fun _ h => h) ?_
  refine g_iconst (Y := Y_X1_spread) (pc' := 1) dX1_spread_0 rfl ?_
  refine g_istore2 (Y := Y_X1_spread) (pc' := 2) dX1_spread_1 rfl (Nat.le_of_ble_eq_true rfl) rfl ?_
  refine s_X1_spread_lp1 ⟨t0, hn⟩ hb b.toNat 0 I h4 h5 h1 h2 (by omega) (by omega) (fun L3 => ?_)
  refine g_iconst (Y := Y_X1_spread) (pc' := 50) dX1_spread_49 rfl ?_
  refine g_istore2 (Y := Y_X1_spread) (pc' := 51) dX1_spread_50 rfl (Nat.le_of_ble_eq_true rfl) rfl ?_
  have kk : ∀ j, j ≠ 6 → f_dn I k b.toNat k j = I k j := fun j hj => f_dn_keep _ _ j hj
  refine s_X1_spread_lp2 ⟨t0, hn⟩ hb b.toNat 0 _ (by rw [kk _ (by decide)]; exact h4) (by rw [kk _ (by decide)]; exact h5) (by rw [kk _ (by decide)]; exact h1) (by rw [kk _ (by decide)]; exact h2) (by rw [kk _ (by decide)]; omega) (by omega) (fun L4 => ?_)
  refine g_aload0 (Y := Y_X1_spread) (pc' := 99) dX1_spread_98 rfl ?_
  refine g_aload0 (Y := Y_X1_spread) (pc' := 100) dX1_spread_99 rfl ?_
  refine g_getI (Y := Y_X1_spread) (pc' := 103) dX1_spread_100 rfl fl_X1_33 rfl (by assumption) (by omega) ?_
  refine g_aload0 (Y := Y_X1_spread) (pc' := 104) dX1_spread_103 rfl ?_
  refine g_getI (Y := Y_X1_spread) (pc' := 107) dX1_spread_104 rfl fl_X1_30 rfl (by assumption) (by omega) ?_
  refine g_isub (Y := Y_X1_spread) (pc' := 108) dX1_spread_107 rfl ?_
  refine g_iconst (Y := Y_X1_spread) (pc' := 109) dX1_spread_108 rfl ?_
  refine g_iadd (Y := Y_X1_spread) (pc' := 110) dX1_spread_109 rfl ?_
  refine g_putI (Y := Y_X1_spread) (pc' := 113) dX1_spread_110 rfl fp_X1_21 rfl (by assumption) (by omega) ?_
  exact g_vret (Y := Y_X1_spread) dX1_spread_113 rfl (Nat.zero_le _) (Nat.zero_le _) (⟨rfl, rfl⟩)
