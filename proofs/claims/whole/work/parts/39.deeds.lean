/-! ScratchMap: what changes the map, but fill, read and undo -/
theorem ifb_t {p : Prop} [Decidable p] (h : ¬ (if p then (1 : Int) else 0) = 0) : p := Decidable.byContradiction fun q => h (if_neg q)
theorem ifb_f {p : Prop} [Decidable p] (h : (if p then (1 : Int) else 0) = 0) : ¬ p := fun q => by rw [if_pos q] at h; exact absurd h (by decide)
def x_write (I : Nat → Nat → Int) (p v : Int) : Option String := if 0 ≤ p ∧ p < 480 then (if 0 ≤ v ∧ v ≤ 999 then (if f_cfw I 1 7 p.toNat = -1 then some xISE else none) else some xIAE) else some xIOB
def w_write (I : Nat → Nat → Int) (R : Nat → Nat → Option Nat) (p v : Int) : Nat → Nat → Int := f_place (f_save I R) 1 p (f_cfw I 1 7 p.toNat) v
set_option maxHeartbeats 2000000 in
set_option maxRecDepth 100000 in
theorem s_X4_write {l : Launch} {E : QE} (hl9 : l.stackTraces = false) {T : Nat → Nat × Nat} {I : Nat → Nat → Int} {J : Nat → Nat → Int64} {R : Nat → Nat → Option Nat} {n : Nat} (hk : ScB T R n) (hv : XV I) (p : Int) (h_p : -2147483648 ≤ p ∧ p < 2147483648) (v : Int) (h_v : -2147483648 ≤ v ∧ v < 2147483648)  : SpT l E Y_X4_write [.ref (E.1 + 0), .int (iz p), .int (iz v)] (T, I, J, R, n, 0) (x_write I p v) (.int (iz (f_cfw I 1 7 p.toNat))) (T, w_write I R p v, J, f_saveR I R, n, 0) := by
  have hk0 := hk
  obtain ⟨a0, a1, a2, a3, a4, a5, a6, a7, a8, a9, a10, a11, a12, a13, a14, a15, a16⟩ := hk
  have b8 := a8.1
  have b9 := a9.1
  have b10 := a10.1
  have b11 := a11.1
  have b12 := a12.1
  obtain ⟨x1, x7, x46, x36, x40, x74, x3, xl, xl2⟩ := id hv
  have hk9 := ScB_saveR (I := I) hk0
  have hv9 := XV_save hk0 hv
  obtain ⟨c0, c1, c2, c3, c4, c5, c6, c7, c8, c9, c10, c11, c12, c13, c14, c15, c16⟩ := id hk9
  obtain ⟨y1, y7, y46, y36, y40, y74, y3, yl, yl2⟩ := id hv9
  refine SpX.of [some (.ref (E.1 + 0)), some (.int (iz p)), some (.int (iz v)), none] (by decide +kernel) (Nat.le_of_ble_eq_true rfl) (fun _ h => h) ?_
  refine g_iload1 (Y := Y_X4_write) (pc' := 1) dX4_write_0 rfl ?_
  refine g_callSv (Y := Y_X4_write) (s_X4_isBlock p h_p) (pc' := 4) dX4_write_1 rfl cv_X4_44 rfl rfl rfl rfl rfl ?_
  refine g_if_ne (Y := Y_X4_write) (t := 17) (pc' := 7) dX4_write_4 (by decide) rfl ⟨by omega, by omega⟩ (fun h4 => ?_) (fun h4 => ?_)
  · have hb := ifb_t h4
    refine g_iload2 (Y := Y_X4_write) (pc' := 18) dX4_write_17 rfl ?_
    refine g_callSv (Y := Y_X4_write) (s_X4_isValue v h_v) (pc' := 21) dX4_write_18 rfl cv_X4_55 rfl rfl rfl rfl rfl ?_
    refine g_if_ne (Y := Y_X4_write) (t := 34) (pc' := 24) dX4_write_21 (by decide) rfl ⟨by omega, by omega⟩ (fun h21 => ?_) (fun h21 => ?_)
    · have hu := ifb_t h21
      obtain ⟨b, rfl⟩ : ∃ b : Nat, p = (b : Int) := ⟨p.toNat, by have q9 := hb; omega⟩
      have hcr := f_cfw_rg (I := I) (ks := 1) (km := 7) (b := b) (by omega)
      refine g_aload0 (Y := Y_X4_write) (pc' := 35) dX4_write_34 rfl ?_
      refine g_getR (Y := Y_X4_write) (pc' := 38) dX4_write_35 rfl fl_X4_10 rfl (by assumption) (by omega) (by assumption) ?_
      refine g_aload0 (Y := Y_X4_write) (pc' := 39) dX4_write_38 rfl ?_
      refine g_getR (Y := Y_X4_write) (pc' := 42) dX4_write_39 rfl fl_X4_19 rfl (by assumption) (by omega) (by assumption) ?_
      refine g_iload1 (Y := Y_X4_write) (pc' := 43) dX4_write_42 rfl ?_
      refine g_callSv (Y := Y_X4_write) (s_X4_cellForWriting a8 a9 (LmV_b x7) (LmV_h x7) (StV_p x1) (StV_o x1) b (by omega)) (pc' := 46) dX4_write_43 rfl cv_X4_63 rfl rfl rfl rfl rfl ?_
      refine g_istore3 (Y := Y_X4_write) (pc' := 47) dX4_write_46 rfl (Nat.le_of_ble_eq_true rfl) rfl ?_
      refine g_iload3 (Y := Y_X4_write) (pc' := 48) dX4_write_47 rfl ?_
      refine g_iconst (Y := Y_X4_write) (pc' := 49) dX4_write_48 rfl ?_
      refine g_icmp_ne (Y := Y_X4_write) (t := 62) (pc' := 52) dX4_write_49 (by decide) rfl ⟨by omega, by omega⟩ ⟨by omega, by omega⟩ (fun h49 => ?_) (fun h49 => ?_)
      · refine g_aload0 (Y := Y_X4_write) (pc' := 63) dX4_write_62 rfl ?_
        refine g_callVn (Y := Y_X4_write) (c := 4) (s_X4_saveState hk0 hv) (pc' := 66) dX4_write_63 rfl cv_X4_72 rfl (by assumption) (by show _ < n; omega) ⟨by decide, _, rfl, rfl⟩ rfl rfl rfl rfl ?_
        refine g_aload0 (Y := Y_X4_write) (pc' := 67) dX4_write_66 rfl ?_
        refine g_getR (Y := Y_X4_write) (pc' := 70) dX4_write_67 rfl fl_X4_10 rfl (by assumption) (by omega) (by assumption) ?_
        refine g_iload1 (Y := Y_X4_write) (pc' := 71) dX4_write_70 rfl ?_
        refine g_iload3 (Y := Y_X4_write) (pc' := 72) dX4_write_71 rfl ?_
        refine g_iload2 (Y := Y_X4_write) (pc' := 73) dX4_write_72 rfl ?_
        refine g_callVn (Y := Y_X4_write) (c := 3) (s_X3_place c8 (b : Int) _ v ⟨by omega, by omega⟩ ⟨by omega, by omega⟩ (StV_p y1)) (pc' := 76) dX4_write_73 rfl cv_X4_75 rfl (by assumption) (by show _ < n; omega) ⟨by decide, _, rfl, rfl⟩ rfl rfl rfl rfl ?_
        refine g_iload3 (Y := Y_X4_write) (pc' := 77) dX4_write_76 rfl ?_
        exact GoX.of (g_iret (Y := Y_X4_write) dX4_write_77 rfl (Nat.zero_le _) (Nat.zero_le _) (⟨(if_pos hb).trans ((if_pos hu).trans (if_neg h49)), rfl, rfl⟩))
      · exact g_throw (Y := Y_X4_write) (cls := xISE) (text := "the block cannot be written") rfl (by decide) (q_w 518 (by decide +kernel) rfl) (by decide) (by decide) (q_w 610 (by decide +kernel) rfl) (q_w 12 (by decide +kernel) rfl) dX4_write_52 dX4_write_55 dX4_write_56 dX4_write_58 dX4_write_61 hl9 (by decide) rfl ⟨(if_pos hb).trans ((if_pos hu).trans (if_pos h49)), rfl⟩
    · have hu := ifb_f h21
      exact g_throw (Y := Y_X4_write) (cls := xIAE) (text := "value is not 0 to 999") rfl (by decide) (q_w 518 (by decide +kernel) rfl) (by decide) (by decide) (q_w 591 (by decide +kernel) rfl) (q_w 11 (by decide +kernel) rfl) dX4_write_24 dX4_write_27 dX4_write_28 dX4_write_30 dX4_write_33 hl9 (by decide) rfl ⟨(if_pos hb).trans (if_neg hu), rfl⟩
  · have hb := ifb_f h4
    exact g_throw (Y := Y_X4_write) (cls := xIOB) (text := "no such block") rfl (by decide) (q_w 518 (by decide +kernel) rfl) (by decide) (by decide) (q_w 520 (by decide +kernel) rfl) (q_w 10 (by decide +kernel) rfl) dX4_write_7 dX4_write_10 dX4_write_11 dX4_write_13 dX4_write_16 hl9 (by decide) rfl ⟨if_neg hb, rfl⟩
def x_drop (p : Int) : Option String := if 0 ≤ p ∧ p < 480 then none else some xIOB
set_option maxHeartbeats 2000000 in
set_option maxRecDepth 100000 in
theorem s_X4_drop {l : Launch} {E : QE} (hl9 : l.stackTraces = false) {T : Nat → Nat × Nat} {I : Nat → Nat → Int} {J : Nat → Nat → Int64} {R : Nat → Nat → Option Nat} {n : Nat} (hk : ScB T R n) (hv : XV I) (p : Int) (h_p : -2147483648 ≤ p ∧ p < 2147483648)  : SpT l E Y_X4_drop [.ref (E.1 + 0), .int (iz p)] (T, I, J, R, n, 0) (x_drop p) (.int (iz (f_save I R (1 + 3) p.toNat))) (T, f_forget (f_save I R) 1 p, J, f_saveR I R, n, 0) := by
  have hk0 := hk
  obtain ⟨a0, a1, a2, a3, a4, a5, a6, a7, a8, a9, a10, a11, a12, a13, a14, a15, a16⟩ := hk
  have b8 := a8.1
  have b9 := a9.1
  have b10 := a10.1
  have b11 := a11.1
  have b12 := a12.1
  obtain ⟨x1, x7, x46, x36, x40, x74, x3, xl, xl2⟩ := id hv
  have hk9 := ScB_saveR (I := I) hk0
  have hv9 := XV_save hk0 hv
  obtain ⟨c0, c1, c2, c3, c4, c5, c6, c7, c8, c9, c10, c11, c12, c13, c14, c15, c16⟩ := id hk9
  obtain ⟨y1, y7, y46, y36, y40, y74, y3, yl, yl2⟩ := id hv9
  refine SpX.of [some (.ref (E.1 + 0)), some (.int (iz p)), none] (by decide +kernel) (Nat.le_of_ble_eq_true rfl) (fun _ h => h) ?_
  refine g_iload1 (Y := Y_X4_drop) (pc' := 1) dX4_drop_0 rfl ?_
  refine g_callSv (Y := Y_X4_drop) (s_X4_isBlock p h_p) (pc' := 4) dX4_drop_1 rfl cv_X4_44 rfl rfl rfl rfl rfl ?_
  refine g_if_ne (Y := Y_X4_drop) (t := 17) (pc' := 7) dX4_drop_4 (by decide) rfl ⟨by omega, by omega⟩ (fun h4 => ?_) (fun h4 => ?_)
  · have hb := ifb_t h4
    obtain ⟨b, rfl⟩ : ∃ b : Nat, p = (b : Int) := ⟨p.toNat, by have q9 := hb; omega⟩
    refine g_aload0 (Y := Y_X4_drop) (pc' := 18) dX4_drop_17 rfl ?_
    refine g_callVn (Y := Y_X4_drop) (c := 4) (s_X4_saveState hk0 hv) (pc' := 21) dX4_drop_18 rfl cv_X4_72 rfl (by assumption) (by show _ < n; omega) ⟨by decide, _, rfl, rfl⟩ rfl rfl rfl rfl ?_
    refine g_aload0 (Y := Y_X4_drop) (pc' := 22) dX4_drop_21 rfl ?_
    refine g_getR (Y := Y_X4_drop) (pc' := 25) dX4_drop_22 rfl fl_X4_10 rfl (by assumption) (by omega) (by assumption) ?_
    refine g_iload1 (Y := Y_X4_drop) (pc' := 26) dX4_drop_25 rfl ?_
    refine g_callVv (Y := Y_X4_drop) (c := 3) (s_X3_valueOf_in c8 b (by omega)) (pc' := 29) dX4_drop_26 rfl cv_X4_83 rfl (by assumption) (by show _ < n; omega) ⟨by decide, _, rfl, rfl⟩ rfl rfl rfl rfl ?_
    refine g_istore2 (Y := Y_X4_drop) (pc' := 30) dX4_drop_29 rfl (Nat.le_of_ble_eq_true rfl) rfl ?_
    refine g_aload0 (Y := Y_X4_drop) (pc' := 31) dX4_drop_30 rfl ?_
    refine g_getR (Y := Y_X4_drop) (pc' := 34) dX4_drop_31 rfl fl_X4_10 rfl (by assumption) (by omega) (by assumption) ?_
    refine g_iload1 (Y := Y_X4_drop) (pc' := 35) dX4_drop_34 rfl ?_
    refine g_callVn (Y := Y_X4_drop) (c := 3) (s_X3_forget c8 (b : Int) ⟨by omega, by omega⟩ (StV_p y1)) (pc' := 38) dX4_drop_35 rfl cv_X4_87 rfl (by assumption) (by show _ < n; omega) ⟨by decide, _, rfl, rfl⟩ rfl rfl rfl rfl ?_
    refine g_iload2 (Y := Y_X4_drop) (pc' := 39) dX4_drop_38 rfl ?_
    exact GoX.of (g_iret (Y := Y_X4_drop) dX4_drop_39 rfl (Nat.zero_le _) (Nat.zero_le _) (⟨if_pos hb, rfl, rfl⟩))
  · have hb := ifb_f h4
    exact g_throw (Y := Y_X4_drop) (cls := xIOB) (text := "no such block") rfl (by decide) (q_w 649 (by decide +kernel) rfl) (by decide) (by decide) (q_w 520 (by decide +kernel) rfl) (q_w 10 (by decide +kernel) rfl) dX4_drop_7 dX4_drop_10 dX4_drop_11 dX4_drop_13 dX4_drop_16 hl9 (by decide) rfl ⟨if_neg hb, rfl⟩
def x_fail (I : Nat → Nat → Int) (p q : Int) : Option String := if (0 ≤ p ∧ p < 24) ∧ 0 ≤ q ∧ q < 24 then (if f_can I 1 (p * 24 + q) = 0 then some xISE else none) else some xIAE
def x_heal (I : Nat → Nat → Int) (p q : Int) : Option String := if (0 ≤ p ∧ p < 24) ∧ 0 ≤ q ∧ q < 24 then (if f_spotAt I 1 (p * 24 + q) = -1 then some xISE else none) else some xIAE
def w_fail (I : Nat → Nat → Int) (J : Nat → Nat → Int64) (R : Nat → Nat → Option Nat) (c : Int) : (Nat → Nat → Int) × (Nat → Nat → Int64) := f_build (f_addSpot (f_save I R) 1 c) J 7 1
def w_heal (I : Nat → Nat → Int) (J : Nat → Nat → Int64) (R : Nat → Nat → Option Nat) (c : Int) : (Nat → Nat → Int) × (Nat → Nat → Int64) := f_build (f_removeSpot (f_save I R) 1 c) J 7 1
set_option maxHeartbeats 2000000 in
set_option maxRecDepth 100000 in
theorem s_X4_fail {l : Launch} {E : QE} (hl9 : l.stackTraces = false) {T : Nat → Nat × Nat} {I : Nat → Nat → Int} {J : Nat → Nat → Int64} {R : Nat → Nat → Option Nat} {n : Nat} (hk : ScB T R n) (hv : XV I) (p : Int) (h_p : -2147483648 ≤ p ∧ p < 2147483648) (q : Int) (h_q : -2147483648 ≤ q ∧ q < 2147483648)  : SpT l E Y_X4_fail [.ref (E.1 + 0), .int (iz p), .int (iz q)] (T, I, J, R, n, 0) (x_fail I p q) (.int (iz ((w_fail I J R (p * 24 + q)).1 7 6))) (T, (w_fail I J R (p * 24 + q)).1, (w_fail I J R (p * 24 + q)).2, f_saveR I R, n, 0) := by
  have hk0 := hk
  obtain ⟨a0, a1, a2, a3, a4, a5, a6, a7, a8, a9, a10, a11, a12, a13, a14, a15, a16⟩ := hk
  have b8 := a8.1
  have b9 := a9.1
  have b10 := a10.1
  have b11 := a11.1
  have b12 := a12.1
  obtain ⟨x1, x7, x46, x36, x40, x74, x3, xl, xl2⟩ := id hv
  have hk9 := ScB_saveR (I := I) hk0
  have hv9 := XV_save hk0 hv
  obtain ⟨c0, c1, c2, c3, c4, c5, c6, c7, c8, c9, c10, c11, c12, c13, c14, c15, c16⟩ := id hk9
  obtain ⟨y1, y7, y46, y36, y40, y74, y3, yl, yl2⟩ := id hv9
  have hv8 := XV_addSpot (x := p * 24 + q) hv9
  have hc01 := f_can01 (I := I) (k := 1) (x := p * 24 + q)
  refine SpX.of [some (.ref (E.1 + 0)), some (.int (iz p)), some (.int (iz q)), none] (by decide +kernel) (Nat.le_of_ble_eq_true rfl) (fun _ h => h) ?_
  refine g_iload1 (Y := Y_X4_fail) (pc' := 1) dX4_fail_0 rfl ?_
  refine g_iload2 (Y := Y_X4_fail) (pc' := 2) dX4_fail_1 rfl ?_
  refine g_callSv (Y := Y_X4_fail) (s_X4_inDrive p q h_p h_q) (pc' := 5) dX4_fail_2 rfl cv_X4_91 rfl rfl rfl rfl rfl ?_
  refine g_if_ne (Y := Y_X4_fail) (t := 18) (pc' := 8) dX4_fail_5 (by decide) rfl ⟨by omega, by omega⟩ (fun h5 => ?_) (fun h5 => ?_)
  · have hb := ifb_t h5
    refine g_iload1 (Y := Y_X4_fail) (pc' := 19) dX4_fail_18 rfl ?_
    refine g_iload2 (Y := Y_X4_fail) (pc' := 20) dX4_fail_19 rfl ?_
    refine g_callSv (Y := Y_X4_fail) (s_X4_cellNumber p q) (pc' := 23) dX4_fail_20 rfl cv_X4_97 rfl rfl rfl rfl rfl ?_
    refine g_istore3 (Y := Y_X4_fail) (pc' := 24) dX4_fail_23 rfl (Nat.le_of_ble_eq_true rfl) rfl ?_
    refine g_aload0 (Y := Y_X4_fail) (pc' := 25) dX4_fail_24 rfl ?_
    refine g_getR (Y := Y_X4_fail) (pc' := 28) dX4_fail_25 rfl fl_X4_10 rfl (by assumption) (by omega) (by assumption) ?_
    refine g_iload3 (Y := Y_X4_fail) (pc' := 29) dX4_fail_28 rfl ?_
    refine g_callVv (Y := Y_X4_fail) (c := 3) (s_X3_canAddSpot a8 x1.1 (StV_s x1) _ ⟨by omega, by omega⟩) (pc' := 32) dX4_fail_29 rfl cv_X4_101 rfl (by assumption) (by show _ < n; omega) ⟨by decide, _, rfl, rfl⟩ rfl rfl rfl rfl ?_
    refine g_if_ne (Y := Y_X4_fail) (t := 45) (pc' := 35) dX4_fail_32 (by decide) rfl ⟨by omega, by omega⟩ (fun h32 => ?_) (fun h32 => ?_)
    · refine g_aload0 (Y := Y_X4_fail) (pc' := 46) dX4_fail_45 rfl ?_
      refine g_callVn (Y := Y_X4_fail) (c := 4) (s_X4_saveState hk0 hv) (pc' := 49) dX4_fail_46 rfl cv_X4_72 rfl (by assumption) (by show _ < n; omega) ⟨by decide, _, rfl, rfl⟩ rfl rfl rfl rfl ?_
      refine g_aload0 (Y := Y_X4_fail) (pc' := 50) dX4_fail_49 rfl ?_
      refine g_getR (Y := Y_X4_fail) (pc' := 53) dX4_fail_50 rfl fl_X4_10 rfl (by assumption) (by omega) (by assumption) ?_
      refine g_iload3 (Y := Y_X4_fail) (pc' := 54) dX4_fail_53 rfl ?_
      refine g_callVn (Y := Y_X4_fail) (c := 3) (s_X3_addSpot c8 y1.1 (StV_s y1) (StV_p y1) (StV_o y1) _ ⟨by omega, by omega⟩) (pc' := 57) dX4_fail_54 rfl cv_X4_106 rfl (by assumption) (by show _ < n; omega) ⟨by decide, _, rfl, rfl⟩ rfl rfl rfl rfl ?_
      refine g_aload0 (Y := Y_X4_fail) (pc' := 58) dX4_fail_57 rfl ?_
      refine g_getR (Y := Y_X4_fail) (pc' := 61) dX4_fail_58 rfl fl_X4_19 rfl (by assumption) (by omega) (by assumption) ?_
      refine g_aload0 (Y := Y_X4_fail) (pc' := 62) dX4_fail_61 rfl ?_
      refine g_getR (Y := Y_X4_fail) (pc' := 65) dX4_fail_62 rfl fl_X4_10 rfl (by assumption) (by omega) (by assumption) ?_
      refine g_callVn (Y := Y_X4_fail) (c := 2) (s_X2_build c9 c8 (by omega) hv8.2.1 hv8.1.1 (StV_s hv8.1) hv8.1.2.2.1 hv8.1.2.2.2.1) (pc' := 68) dX4_fail_65 rfl cv_X4_109 rfl (by assumption) (by show _ < n; omega) ⟨by decide, _, rfl, rfl⟩ rfl rfl rfl rfl ?_
      refine g_aload0 (Y := Y_X4_fail) (pc' := 69) dX4_fail_68 rfl ?_
      refine g_getR (Y := Y_X4_fail) (pc' := 72) dX4_fail_69 rfl fl_X4_19 rfl (by assumption) (by omega) (by assumption) ?_
      refine g_getI (Y := Y_X4_fail) (pc' := 75) dX4_fail_72 rfl fl_X4_113 rfl (by assumption) (by omega) ?_
      exact GoX.of (g_iret (Y := Y_X4_fail) dX4_fail_75 rfl (Nat.zero_le _) (Nat.zero_le _) (⟨(if_pos hb).trans (if_neg h32), rfl, rfl⟩))
    · exact g_throw (Y := Y_X4_fail) (cls := xISE) (text := "a spot already, or there are 12") rfl (by decide) (q_w 657 (by decide +kernel) rfl) (by decide) (by decide) (q_w 610 (by decide +kernel) rfl) (q_w 12 (by decide +kernel) rfl) dX4_fail_35 dX4_fail_38 dX4_fail_39 dX4_fail_41 dX4_fail_44 hl9 (by decide) rfl ⟨(if_pos hb).trans (if_pos h32), rfl⟩
  · have hb := ifb_f h5
    exact g_throw (Y := Y_X4_fail) (cls := xIAE) (text := "no such cell") rfl (by decide) (q_w 657 (by decide +kernel) rfl) (by decide) (by decide) (q_w 591 (by decide +kernel) rfl) (q_w 11 (by decide +kernel) rfl) dX4_fail_8 dX4_fail_11 dX4_fail_12 dX4_fail_14 dX4_fail_17 hl9 (by decide) rfl ⟨if_neg hb, rfl⟩
set_option maxHeartbeats 2000000 in
set_option maxRecDepth 100000 in
theorem s_X4_heal {l : Launch} {E : QE} (hl9 : l.stackTraces = false) {T : Nat → Nat × Nat} {I : Nat → Nat → Int} {J : Nat → Nat → Int64} {R : Nat → Nat → Option Nat} {n : Nat} (hk : ScB T R n) (hv : XV I) (p : Int) (h_p : -2147483648 ≤ p ∧ p < 2147483648) (q : Int) (h_q : -2147483648 ≤ q ∧ q < 2147483648)  : SpT l E Y_X4_heal [.ref (E.1 + 0), .int (iz p), .int (iz q)] (T, I, J, R, n, 0) (x_heal I p q) (.int (iz ((w_heal I J R (p * 24 + q)).1 7 6))) (T, (w_heal I J R (p * 24 + q)).1, (w_heal I J R (p * 24 + q)).2, f_saveR I R, n, 0) := by
  have hk0 := hk
  obtain ⟨a0, a1, a2, a3, a4, a5, a6, a7, a8, a9, a10, a11, a12, a13, a14, a15, a16⟩ := hk
  have b8 := a8.1
  have b9 := a9.1
  have b10 := a10.1
  have b11 := a11.1
  have b12 := a12.1
  obtain ⟨x1, x7, x46, x36, x40, x74, x3, xl, xl2⟩ := id hv
  have hk9 := ScB_saveR (I := I) hk0
  have hv9 := XV_save hk0 hv
  obtain ⟨c0, c1, c2, c3, c4, c5, c6, c7, c8, c9, c10, c11, c12, c13, c14, c15, c16⟩ := id hk9
  obtain ⟨y1, y7, y46, y36, y40, y74, y3, yl, yl2⟩ := id hv9
  have hv8 := XV_removeSpot (x := p * 24 + q) hv9
  have hsp := spotAt_rg I 1 (p * 24 + q) x1.1
  have x15 := x1.1
  refine SpX.of [some (.ref (E.1 + 0)), some (.int (iz p)), some (.int (iz q)), none] (by decide +kernel) (Nat.le_of_ble_eq_true rfl) (fun _ h => h) ?_
  refine g_iload1 (Y := Y_X4_heal) (pc' := 1) dX4_heal_0 rfl ?_
  refine g_iload2 (Y := Y_X4_heal) (pc' := 2) dX4_heal_1 rfl ?_
  refine g_callSv (Y := Y_X4_heal) (s_X4_inDrive p q h_p h_q) (pc' := 5) dX4_heal_2 rfl cv_X4_91 rfl rfl rfl rfl rfl ?_
  refine g_if_ne (Y := Y_X4_heal) (t := 18) (pc' := 8) dX4_heal_5 (by decide) rfl ⟨by omega, by omega⟩ (fun h5 => ?_) (fun h5 => ?_)
  · have hb := ifb_t h5
    refine g_iload1 (Y := Y_X4_heal) (pc' := 19) dX4_heal_18 rfl ?_
    refine g_iload2 (Y := Y_X4_heal) (pc' := 20) dX4_heal_19 rfl ?_
    refine g_callSv (Y := Y_X4_heal) (s_X4_cellNumber p q) (pc' := 23) dX4_heal_20 rfl cv_X4_97 rfl rfl rfl rfl rfl ?_
    refine g_istore3 (Y := Y_X4_heal) (pc' := 24) dX4_heal_23 rfl (Nat.le_of_ble_eq_true rfl) rfl ?_
    refine g_aload0 (Y := Y_X4_heal) (pc' := 25) dX4_heal_24 rfl ?_
    refine g_getR (Y := Y_X4_heal) (pc' := 28) dX4_heal_25 rfl fl_X4_10 rfl (by assumption) (by omega) (by assumption) ?_
    refine g_iload3 (Y := Y_X4_heal) (pc' := 29) dX4_heal_28 rfl ?_
    refine g_callVv (Y := Y_X4_heal) (c := 3) (s_X3_spotAt a8 x1.1 (StV_s x1) _ ⟨by omega, by omega⟩) (pc' := 32) dX4_heal_29 rfl cv_X4_116 rfl (by assumption) (by show _ < n; omega) ⟨by decide, _, rfl, rfl⟩ rfl rfl rfl rfl ?_
    refine g_iconst (Y := Y_X4_heal) (pc' := 33) dX4_heal_32 rfl ?_
    refine g_icmp_ne (Y := Y_X4_heal) (t := 46) (pc' := 36) dX4_heal_33 (by decide) rfl ⟨by omega, by omega⟩ ⟨by omega, by omega⟩ (fun h33 => ?_) (fun h33 => ?_)
    · refine g_aload0 (Y := Y_X4_heal) (pc' := 47) dX4_heal_46 rfl ?_
      refine g_callVn (Y := Y_X4_heal) (c := 4) (s_X4_saveState hk0 hv) (pc' := 50) dX4_heal_47 rfl cv_X4_72 rfl (by assumption) (by show _ < n; omega) ⟨by decide, _, rfl, rfl⟩ rfl rfl rfl rfl ?_
      refine g_aload0 (Y := Y_X4_heal) (pc' := 51) dX4_heal_50 rfl ?_
      refine g_getR (Y := Y_X4_heal) (pc' := 54) dX4_heal_51 rfl fl_X4_10 rfl (by assumption) (by omega) (by assumption) ?_
      refine g_iload3 (Y := Y_X4_heal) (pc' := 55) dX4_heal_54 rfl ?_
      refine g_callVn (Y := Y_X4_heal) (c := 3) (s_X3_removeSpot c8 y1.1 (StV_s y1) _ ⟨by omega, by omega⟩) (pc' := 58) dX4_heal_55 rfl cv_X4_121 rfl (by assumption) (by show _ < n; omega) ⟨by decide, _, rfl, rfl⟩ rfl rfl rfl rfl ?_
      refine g_aload0 (Y := Y_X4_heal) (pc' := 59) dX4_heal_58 rfl ?_
      refine g_getR (Y := Y_X4_heal) (pc' := 62) dX4_heal_59 rfl fl_X4_19 rfl (by assumption) (by omega) (by assumption) ?_
      refine g_aload0 (Y := Y_X4_heal) (pc' := 63) dX4_heal_62 rfl ?_
      refine g_getR (Y := Y_X4_heal) (pc' := 66) dX4_heal_63 rfl fl_X4_10 rfl (by assumption) (by omega) (by assumption) ?_
      refine g_callVn (Y := Y_X4_heal) (c := 2) (s_X2_build c9 c8 (by omega) hv8.2.1 hv8.1.1 (StV_s hv8.1) hv8.1.2.2.1 hv8.1.2.2.2.1) (pc' := 69) dX4_heal_66 rfl cv_X4_109 rfl (by assumption) (by show _ < n; omega) ⟨by decide, _, rfl, rfl⟩ rfl rfl rfl rfl ?_
      refine g_aload0 (Y := Y_X4_heal) (pc' := 70) dX4_heal_69 rfl ?_
      refine g_getR (Y := Y_X4_heal) (pc' := 73) dX4_heal_70 rfl fl_X4_19 rfl (by assumption) (by omega) (by assumption) ?_
      refine g_getI (Y := Y_X4_heal) (pc' := 76) dX4_heal_73 rfl fl_X4_113 rfl (by assumption) (by omega) ?_
      exact GoX.of (g_iret (Y := Y_X4_heal) dX4_heal_76 rfl (Nat.zero_le _) (Nat.zero_le _) (⟨(if_pos hb).trans (if_neg h33), rfl, rfl⟩))
    · exact g_throw (Y := Y_X4_heal) (cls := xISE) (text := "no spot") rfl (by decide) (q_w 668 (by decide +kernel) rfl) (by decide) (by decide) (q_w 610 (by decide +kernel) rfl) (q_w 12 (by decide +kernel) rfl) dX4_heal_36 dX4_heal_39 dX4_heal_40 dX4_heal_42 dX4_heal_45 hl9 (by decide) rfl ⟨(if_pos hb).trans (if_pos h33), rfl⟩
  · have hb := ifb_f h5
    exact g_throw (Y := Y_X4_heal) (cls := xIAE) (text := "no such cell") rfl (by decide) (q_w 668 (by decide +kernel) rfl) (by decide) (by decide) (q_w 591 (by decide +kernel) rfl) (q_w 11 (by decide +kernel) rfl) dX4_heal_8 dX4_heal_11 dX4_heal_12 dX4_heal_14 dX4_heal_17 hl9 (by decide) rfl ⟨if_neg hb, rfl⟩
def x_tidy (p : Int) : Option String := if 1 ≤ p ∧ p ≤ 99 then none else some xIAE
set_option maxHeartbeats 2000000 in
set_option maxRecDepth 100000 in
theorem s_X4_tidy {l : Launch} {E : QE} (hl9 : l.stackTraces = false) {T : Nat → Nat × Nat} {I : Nat → Nat → Int} {J : Nat → Nat → Int64} {R : Nat → Nat → Option Nat} {n : Nat} (hk : ScB T R n) (hv : XV I) (p : Int) (h_p : -2147483648 ≤ p ∧ p < 2147483648)  : SpT l E Y_X4_tidy [.ref (E.1 + 0), .int (iz p)] (T, I, J, R, n, 0) (x_tidy p) (.int (iz (f_tidyUp (f_save I R) 1 7 p).1)) (T, (f_tidyUp (f_save I R) 1 7 p).2, J, f_saveR I R, n, 0) := by
  have hk0 := hk
  obtain ⟨a0, a1, a2, a3, a4, a5, a6, a7, a8, a9, a10, a11, a12, a13, a14, a15, a16⟩ := hk
  have b8 := a8.1
  have b9 := a9.1
  have b10 := a10.1
  have b11 := a11.1
  have b12 := a12.1
  obtain ⟨x1, x7, x46, x36, x40, x74, x3, xl, xl2⟩ := id hv
  have hk9 := ScB_saveR (I := I) hk0
  have hv9 := XV_save hk0 hv
  obtain ⟨c0, c1, c2, c3, c4, c5, c6, c7, c8, c9, c10, c11, c12, c13, c14, c15, c16⟩ := id hk9
  obtain ⟨y1, y7, y46, y36, y40, y74, y3, yl, yl2⟩ := id hv9
  refine SpX.of [some (.ref (E.1 + 0)), some (.int (iz p))] (by decide +kernel) (Nat.le_of_ble_eq_true rfl) (fun _ h => h) ?_
  refine g_iload1 (Y := Y_X4_tidy) (pc' := 1) dX4_tidy_0 rfl ?_
  refine g_iconst (Y := Y_X4_tidy) (pc' := 2) dX4_tidy_1 rfl ?_
  refine g_icmp_lt (Y := Y_X4_tidy) (t := 11) (pc' := 5) dX4_tidy_2 (by decide) rfl ⟨by omega, by omega⟩ ⟨by omega, by omega⟩ (fun h2 => ?_) (fun h2 => ?_)
  · exact g_throw (Y := Y_X4_tidy) (cls := xIAE) (text := "moves is not 1 to 99") rfl (by decide) (q_w 681 (by decide +kernel) rfl) (by decide) (by decide) (q_w 591 (by decide +kernel) rfl) (q_w 11 (by decide +kernel) rfl) dX4_tidy_11 dX4_tidy_14 dX4_tidy_15 dX4_tidy_17 dX4_tidy_20 hl9 (by decide) rfl ⟨if_neg (by omega), rfl⟩
  · refine g_iload1 (Y := Y_X4_tidy) (pc' := 6) dX4_tidy_5 rfl ?_
    refine g_bipush (Y := Y_X4_tidy) (pc' := 8) dX4_tidy_6 rfl (by decide) ?_
    refine g_icmp_le (Y := Y_X4_tidy) (t := 21) (pc' := 11) dX4_tidy_8 (by decide) rfl ⟨by omega, by omega⟩ ⟨by omega, by omega⟩ (fun h8 => ?_) (fun h8 => ?_)
    · refine g_aload0 (Y := Y_X4_tidy) (pc' := 22) dX4_tidy_21 rfl ?_
      refine g_callVn (Y := Y_X4_tidy) (c := 4) (s_X4_saveState hk0 hv) (pc' := 25) dX4_tidy_22 rfl cv_X4_72 rfl (by assumption) (by show _ < n; omega) ⟨by decide, _, rfl, rfl⟩ rfl rfl rfl rfl ?_
      refine g_aload0 (Y := Y_X4_tidy) (pc' := 26) dX4_tidy_25 rfl ?_
      refine g_getR (Y := Y_X4_tidy) (pc' := 29) dX4_tidy_26 rfl fl_X4_10 rfl (by assumption) (by omega) (by assumption) ?_
      refine g_aload0 (Y := Y_X4_tidy) (pc' := 30) dX4_tidy_29 rfl ?_
      refine g_getR (Y := Y_X4_tidy) (pc' := 33) dX4_tidy_30 rfl fl_X4_19 rfl (by assumption) (by omega) (by assumption) ?_
      refine g_iload1 (Y := Y_X4_tidy) (pc' := 34) dX4_tidy_33 rfl ?_
      refine g_callSv (Y := Y_X4_tidy) (s_X4_tidyUp c8 c9 (by omega) (LmV_b y7) (LmV_h y7) (StV_p y1) (StV_o y1) p ⟨by omega, by omega⟩) (pc' := 37) dX4_tidy_34 rfl cv_X4_126 rfl rfl rfl rfl rfl ?_
      exact GoX.of (g_iret (Y := Y_X4_tidy) dX4_tidy_37 rfl (Nat.zero_le _) (Nat.zero_le _) (⟨if_pos (by omega), rfl, rfl⟩))
    · exact g_throw (Y := Y_X4_tidy) (cls := xIAE) (text := "moves is not 1 to 99") rfl (by decide) (q_w 681 (by decide +kernel) rfl) (by decide) (by decide) (q_w 591 (by decide +kernel) rfl) (q_w 11 (by decide +kernel) rfl) dX4_tidy_11 dX4_tidy_14 dX4_tidy_15 dX4_tidy_17 dX4_tidy_20 hl9 (by decide) rfl ⟨if_neg (by omega), rfl⟩
def x_set (p v : Int) : Option String := if 0 ≤ p ∧ p < 3 then (if f_fits p v = 0 then some xIAE else none) else some xIOB
def w_set (I : Nat → Nat → Int) (J : Nat → Nat → Int64) (R : Nat → Nat → Option Nat) (p v : Int) : (Nat → Nat → Int) × (Nat → Nat → Int64) := f_build (f_changeSetting (f_save I R) 1 p v) J 7 1
theorem f_fits01 {s v : Int} : f_fits s v = 0 ∨ f_fits s v = 1 := by unfold f_fits; split <;> simp
set_option maxHeartbeats 2000000 in
set_option maxRecDepth 100000 in
theorem s_X4_set {l : Launch} {E : QE} (hl9 : l.stackTraces = false) {T : Nat → Nat × Nat} {I : Nat → Nat → Int} {J : Nat → Nat → Int64} {R : Nat → Nat → Option Nat} {n : Nat} (hk : ScB T R n) (hv : XV I) (p : Int) (h_p : -2147483648 ≤ p ∧ p < 2147483648) (v : Int) (h_v : -2147483648 ≤ v ∧ v < 2147483648)  : SpT l E Y_X4_set [.ref (E.1 + 0), .int (iz p), .int (iz v)] (T, I, J, R, n, 0) (x_set p v) (.int (iz (f_save I R (1 + 2) p.toNat))) (T, (w_set I J R p v).1, (w_set I J R p v).2, f_saveR I R, n, 0) := by
  have hk0 := hk
  obtain ⟨a0, a1, a2, a3, a4, a5, a6, a7, a8, a9, a10, a11, a12, a13, a14, a15, a16⟩ := hk
  have b8 := a8.1
  have b9 := a9.1
  have b10 := a10.1
  have b11 := a11.1
  have b12 := a12.1
  obtain ⟨x1, x7, x46, x36, x40, x74, x3, xl, xl2⟩ := id hv
  have hk9 := ScB_saveR (I := I) hk0
  have hv9 := XV_save hk0 hv
  obtain ⟨c0, c1, c2, c3, c4, c5, c6, c7, c8, c9, c10, c11, c12, c13, c14, c15, c16⟩ := id hk9
  obtain ⟨y1, y7, y46, y36, y40, y74, y3, yl, yl2⟩ := id hv9
  have hf01 := f_fits01 (s := p) (v := v)
  refine SpX.of [some (.ref (E.1 + 0)), some (.int (iz p)), some (.int (iz v)), none] (by decide +kernel) (Nat.le_of_ble_eq_true rfl) (fun _ h => h) ?_
  refine g_iload1 (Y := Y_X4_set) (pc' := 1) dX4_set_0 rfl ?_
  refine g_callSv (Y := Y_X4_set) (s_X4_isSetting p h_p) (pc' := 4) dX4_set_1 rfl cv_X4_129 rfl rfl rfl rfl rfl ?_
  refine g_if_ne (Y := Y_X4_set) (t := 17) (pc' := 7) dX4_set_4 (by decide) rfl ⟨by omega, by omega⟩ (fun h4 => ?_) (fun h4 => ?_)
  · have hb := ifb_t h4
    refine g_iload1 (Y := Y_X4_set) (pc' := 18) dX4_set_17 rfl ?_
    refine g_iload2 (Y := Y_X4_set) (pc' := 19) dX4_set_18 rfl ?_
    refine g_callSv (Y := Y_X4_set) (s_X4_fitsSetting p v h_p h_v) (pc' := 22) dX4_set_19 rfl cv_X4_134 rfl rfl rfl rfl rfl ?_
    refine g_if_ne (Y := Y_X4_set) (t := 35) (pc' := 25) dX4_set_22 (by decide) rfl ⟨by omega, by omega⟩ (fun h22 => ?_) (fun h22 => ?_)
    · have hv8 := XV_set hv9 h22
      obtain ⟨b, rfl⟩ : ∃ b : Nat, p = (b : Int) := ⟨p.toNat, by have q9 := hb; omega⟩
      refine g_aload0 (Y := Y_X4_set) (pc' := 36) dX4_set_35 rfl ?_
      refine g_callVn (Y := Y_X4_set) (c := 4) (s_X4_saveState hk0 hv) (pc' := 39) dX4_set_36 rfl cv_X4_72 rfl (by assumption) (by show _ < n; omega) ⟨by decide, _, rfl, rfl⟩ rfl rfl rfl rfl ?_
      refine g_aload0 (Y := Y_X4_set) (pc' := 40) dX4_set_39 rfl ?_
      refine g_getR (Y := Y_X4_set) (pc' := 43) dX4_set_40 rfl fl_X4_10 rfl (by assumption) (by omega) (by assumption) ?_
      refine g_iload1 (Y := Y_X4_set) (pc' := 44) dX4_set_43 rfl ?_
      refine g_callVv (Y := Y_X4_set) (c := 3) (s_X3_settingOf_in c8 b (by omega)) (pc' := 47) dX4_set_44 rfl cv_X4_139 rfl (by assumption) (by show _ < n; omega) ⟨by decide, _, rfl, rfl⟩ rfl rfl rfl rfl ?_
      refine g_istore3 (Y := Y_X4_set) (pc' := 48) dX4_set_47 rfl (Nat.le_of_ble_eq_true rfl) rfl ?_
      refine g_aload0 (Y := Y_X4_set) (pc' := 49) dX4_set_48 rfl ?_
      refine g_getR (Y := Y_X4_set) (pc' := 52) dX4_set_49 rfl fl_X4_10 rfl (by assumption) (by omega) (by assumption) ?_
      refine g_iload1 (Y := Y_X4_set) (pc' := 53) dX4_set_52 rfl ?_
      refine g_iload2 (Y := Y_X4_set) (pc' := 54) dX4_set_53 rfl ?_
      refine g_callVn (Y := Y_X4_set) (c := 3) (s_X3_changeSetting c8 (b : Int) v ⟨by omega, by omega⟩) (pc' := 57) dX4_set_54 rfl cv_X4_142 rfl (by assumption) (by show _ < n; omega) ⟨by decide, _, rfl, rfl⟩ rfl rfl rfl rfl ?_
      refine g_aload0 (Y := Y_X4_set) (pc' := 58) dX4_set_57 rfl ?_
      refine g_getR (Y := Y_X4_set) (pc' := 61) dX4_set_58 rfl fl_X4_19 rfl (by assumption) (by omega) (by assumption) ?_
      refine g_aload0 (Y := Y_X4_set) (pc' := 62) dX4_set_61 rfl ?_
      refine g_getR (Y := Y_X4_set) (pc' := 65) dX4_set_62 rfl fl_X4_10 rfl (by assumption) (by omega) (by assumption) ?_
      refine g_callVn (Y := Y_X4_set) (c := 2) (s_X2_build c9 c8 (by omega) hv8.2.1 hv8.1.1 (StV_s hv8.1) hv8.1.2.2.1 hv8.1.2.2.2.1) (pc' := 68) dX4_set_65 rfl cv_X4_109 rfl (by assumption) (by show _ < n; omega) ⟨by decide, _, rfl, rfl⟩ rfl rfl rfl rfl ?_
      refine g_iload3 (Y := Y_X4_set) (pc' := 69) dX4_set_68 rfl ?_
      exact GoX.of (g_iret (Y := Y_X4_set) dX4_set_69 rfl (Nat.zero_le _) (Nat.zero_le _) (⟨(if_pos hb).trans (if_neg h22), rfl, rfl⟩))
    · exact g_throw (Y := Y_X4_set) (cls := xIAE) (text := "value is out of range") rfl (by decide) (q_w 689 (by decide +kernel) rfl) (by decide) (by decide) (q_w 591 (by decide +kernel) rfl) (q_w 11 (by decide +kernel) rfl) dX4_set_25 dX4_set_28 dX4_set_29 dX4_set_31 dX4_set_34 hl9 (by decide) rfl ⟨(if_pos hb).trans (if_pos h22), rfl⟩
  · have hb := ifb_f h4
    exact g_throw (Y := Y_X4_set) (cls := xIOB) (text := "no such setting") rfl (by decide) (q_w 689 (by decide +kernel) rfl) (by decide) (by decide) (q_w 520 (by decide +kernel) rfl) (q_w 10 (by decide +kernel) rfl) dX4_set_7 dX4_set_10 dX4_set_11 dX4_set_13 dX4_set_16 hl9 (by decide) rfl ⟨if_neg hb, rfl⟩
def x_append (I : Nat → Nat → Int) (p : Int) : Option String := if 33 ≤ p ∧ p ≤ 126 then (if I 36 3 < 60 then none else some xISE) else some xIAE
set_option maxHeartbeats 2000000 in
set_option maxRecDepth 100000 in
theorem s_X4_append {l : Launch} {E : QE} (hl9 : l.stackTraces = false) {T : Nat → Nat × Nat} {I : Nat → Nat → Int} {J : Nat → Nat → Int64} {R : Nat → Nat → Option Nat} {n : Nat} (hk : ScB T R n) (hv : XV I) (p : Int) (h_p : -2147483648 ≤ p ∧ p < 2147483648)  : SpT l E Y_X4_append [.ref (E.1 + 0), .int (iz p)] (T, I, J, R, n, 0) (x_append I p) (.int (iz (f_type I 36 p 36 3))) (T, f_type I 36 p, J, R, n, 0) := by
  have hk0 := hk
  obtain ⟨a0, a1, a2, a3, a4, a5, a6, a7, a8, a9, a10, a11, a12, a13, a14, a15, a16⟩ := hk
  have b8 := a8.1
  have b9 := a9.1
  have b10 := a10.1
  have b11 := a11.1
  have b12 := a12.1
  obtain ⟨x1, x7, x46, x36, x40, x74, x3, xl, xl2⟩ := id hv
  refine SpX.of [some (.ref (E.1 + 0)), some (.int (iz p))] (by decide +kernel) (Nat.le_of_ble_eq_true rfl) (fun _ h => h) ?_
  refine g_iload1 (Y := Y_X4_append) (pc' := 1) dX4_append_0 rfl ?_
  refine g_callSv (Y := Y_X4_append) (s_X0_isCode p h_p) (pc' := 4) dX4_append_1 rfl cv_X4_146 rfl rfl rfl rfl rfl ?_
  refine g_if_ne (Y := Y_X4_append) (t := 17) (pc' := 7) dX4_append_4 (by decide) rfl ⟨by omega, by omega⟩ (fun h4 => ?_) (fun h4 => ?_)
  · have hb := ifb_t h4
    refine g_aload0 (Y := Y_X4_append) (pc' := 18) dX4_append_17 rfl ?_
    refine g_getR (Y := Y_X4_append) (pc' := 21) dX4_append_18 rfl fl_X4_34 rfl (by assumption) (by omega) (by assumption) ?_
    refine g_callVv (Y := Y_X4_append) (c := 0) (s_X0_isFull a10 x36) (pc' := 24) dX4_append_21 rfl cv_X4_151 rfl (by assumption) (by show _ < n; omega) ⟨by decide, _, rfl, rfl⟩ rfl rfl rfl rfl ?_
    refine g_if_eq (Y := Y_X4_append) (t := 37) (pc' := 27) dX4_append_24 (by decide) rfl ⟨by omega, by omega⟩ (fun h24 => ?_) (fun h24 => ?_)
    · have hu : I 36 3 < 60 := Decidable.byContradiction fun q => by rw [if_neg q] at h24; exact absurd h24 (by decide)
      refine g_aload0 (Y := Y_X4_append) (pc' := 38) dX4_append_37 rfl ?_
      refine g_getR (Y := Y_X4_append) (pc' := 41) dX4_append_38 rfl fl_X4_34 rfl (by assumption) (by omega) (by assumption) ?_
      refine g_iload1 (Y := Y_X4_append) (pc' := 42) dX4_append_41 rfl ?_
      refine g_callVn (Y := Y_X4_append) (c := 0) (s_X0_add a10 x36 p) (pc' := 45) dX4_append_42 rfl cv_X4_157 rfl (by assumption) (by show _ < n; omega) ⟨by decide, _, rfl, rfl⟩ rfl rfl rfl rfl ?_
      refine g_aload0 (Y := Y_X4_append) (pc' := 46) dX4_append_45 rfl ?_
      refine g_getR (Y := Y_X4_append) (pc' := 49) dX4_append_46 rfl fl_X4_34 rfl (by assumption) (by omega) (by assumption) ?_
      refine g_getI (Y := Y_X4_append) (pc' := 52) dX4_append_49 rfl fl_X4_160 rfl (by assumption) (by omega) ?_
      exact GoX.of (g_iret (Y := Y_X4_append) dX4_append_52 rfl (Nat.zero_le _) (Nat.zero_le _) (⟨(if_pos hb).trans (if_pos hu), rfl, rfl⟩))
    · have hu : ¬ I 36 3 < 60 := fun q => by rw [if_pos q] at h24; exact h24 rfl
      exact g_throw (Y := Y_X4_append) (cls := xISE) (text := "the buffer has 60 characters") rfl (by decide) (q_w 710 (by decide +kernel) rfl) (by decide) (by decide) (q_w 610 (by decide +kernel) rfl) (q_w 12 (by decide +kernel) rfl) dX4_append_27 dX4_append_30 dX4_append_31 dX4_append_33 dX4_append_36 hl9 (by decide) rfl ⟨(if_pos hb).trans (if_neg hu), rfl⟩
  · have hb := ifb_f h4
    exact g_throw (Y := Y_X4_append) (cls := xIAE) (text := "code is not 33 to 126") rfl (by decide) (q_w 710 (by decide +kernel) rfl) (by decide) (by decide) (q_w 591 (by decide +kernel) rfl) (q_w 11 (by decide +kernel) rfl) dX4_append_7 dX4_append_10 dX4_append_11 dX4_append_13 dX4_append_16 hl9 (by decide) rfl ⟨if_neg hb, rfl⟩
