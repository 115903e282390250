/-! ScratchMap: the hash by parts; worst, untidy -/
def hx (h : Int64) (v : Int) : Int64 := 31 * h + (iz v).toInt64
def hL (f : Nat → Int) : Nat → Nat → Int64 → Int64
  | 0, _, h => h
  | m + 1, i, h => hL f m (i + 1) (hx h (f i))
def hLL (I : Nat → Nat → Int) : Nat → Nat → Int64 → Int64
  | 0, _, h => h
  | m + 1, i, h => hLL I m (i + 1) (hL (f_lp I (7 + 6 + i)) 6 0 h)
def hAv (I : Nat → Nat → Int) : Nat → Nat → Int64 → Int64
  | 0, _, h => h
  | m + 1, i, h => if f_isAv I 7 i = 0 then hAv I m (i + 1) h else hAv I m (i + 1) (hx (hx h i) (f_hits I 7 i))
def hBl (I : Nat → Nat → Int) : Nat → Nat → Int64 → Int64
  | 0, _, h => h
  | m + 1, i, h => if I (1 + 3) i = -1 then hBl I m (i + 1) h else hBl I m (i + 1) (hx (hx (hx h i) (I (1 + 3) i)) (I (1 + 4) i))
def f_hsl (I : Nat → Nat → Int) (h : Int64) : Int64 := hLL I (I 7 6).toNat 0 (hL (I (1 + 1)) (I 1 5).toNat 0 h)
def f_htx (I : Nat → Nat → Int) (h : Int64) : Int64 := hL (I (36 + 1)) (I 36 3).toNat 0 (hx h (I 36 3))
def wsL (I : Nat → Nat → Int) : Nat → Nat → Int → Int
  | 0, _, b => b
  | m + 1, c, b => if ¬ f_isAv I 7 c = 0 ∧ (b = -1 ∨ f_hits I 7 b < f_hits I 7 c) then wsL I m (c + 1) c else wsL I m (c + 1) b
def f_worst (I : Nat → Nat → Int) : Int := wsL I 576 0 (-1)
def f_untidy (I : Nat → Nat → Int) : Int × (Nat → Nat → Int) := f_tidyUp (f_copy I 1 40) 40 7 480
theorem f_av01 {I : Nat → Nat → Int} {k : Nat} {c : Int} : f_isAv I k c = 0 ∨ f_isAv I k c = 1 := by unfold f_isAv; split <;> simp
set_option maxHeartbeats 2000000 in
set_option maxRecDepth 100000 in
theorem s_X4_hsl_lp1 {l : Launch} {E : QE} {T : Nat → Nat × Nat} {I : Nat → Nat → Int} {J : Nat → Nat → Int64} {R : Nat → Nat → Option Nat} {n z : Nat} (hk : ScB T R n) (hv : XV I) {K : Option Value → QW → Prop} {h0 : Int64} {x6 x7 : Option Value} : ∀ (m i : Nat) (h : Int64), i + m = (I 1 5).toNat → (∀ L5 : Int, Go l E Y_X4_hashSpotsAndLines 0 0 38 [some (.ref (E.1 + 0)), some (.long h0), none, some (.long (hL (I (1 + 1)) m i h)), none, some (.int (iz L5)), x6, x7] [] (T, I, J, R, n, z) K) → Go l E Y_X4_hashSpotsAndLines 0 0 5 [some (.ref (E.1 + 0)), some (.long h0), none, some (.long h), none, some (.int (iz (i : Int))), x6, x7] [] (T, I, J, R, n, z) K := by
  obtain ⟨a0, a1, a2, a3, a4, a5, a6, a7, a8, a9, a10, a11, a12, a13, a14, a15, a16⟩ := hk
  have b8 := a8.1
  have b9 := a9.1
  have b10 := a10.1
  have b11 := a11.1
  have b12 := a12.1
  obtain ⟨x1, x7, x46, x36, x40, x74, x3, xl, xl2⟩ := id hv
  intro m
  induction m with
  | zero =>
    intro i h hm hend
    have x15 := x1.1
    refine g_iload5 (Y := Y_X4_hashSpotsAndLines) (pc' := 7) dX4_hashSpotsAndLines_5 rfl ?_
    refine g_aload0 (Y := Y_X4_hashSpotsAndLines) (pc' := 8) dX4_hashSpotsAndLines_7 rfl ?_
    refine g_getR (Y := Y_X4_hashSpotsAndLines) (pc' := 11) dX4_hashSpotsAndLines_8 rfl fl_X4_10 rfl (by assumption) (by omega) (by assumption) ?_
    refine g_getI (Y := Y_X4_hashSpotsAndLines) (pc' := 14) dX4_hashSpotsAndLines_11 rfl fl_X4_231 rfl (by assumption) (by omega) ?_
    refine g_icmp_ge (Y := Y_X4_hashSpotsAndLines) (t := 38) (pc' := 17) dX4_hashSpotsAndLines_14 (by decide) rfl ⟨by omega, by omega⟩ ⟨by omega, by omega⟩ (fun h14 => ?_) (fun h14 => ?_)
    · exact hend _
    · exfalso; omega
  | succ m ih =>
    intro i h hm hend
    have x15 := x1.1
    refine g_iload5 (Y := Y_X4_hashSpotsAndLines) (pc' := 7) dX4_hashSpotsAndLines_5 rfl ?_
    refine g_aload0 (Y := Y_X4_hashSpotsAndLines) (pc' := 8) dX4_hashSpotsAndLines_7 rfl ?_
    refine g_getR (Y := Y_X4_hashSpotsAndLines) (pc' := 11) dX4_hashSpotsAndLines_8 rfl fl_X4_10 rfl (by assumption) (by omega) (by assumption) ?_
    refine g_getI (Y := Y_X4_hashSpotsAndLines) (pc' := 14) dX4_hashSpotsAndLines_11 rfl fl_X4_231 rfl (by assumption) (by omega) ?_
    refine g_icmp_ge (Y := Y_X4_hashSpotsAndLines) (t := 38) (pc' := 17) dX4_hashSpotsAndLines_14 (by decide) rfl ⟨by omega, by omega⟩ ⟨by omega, by omega⟩ (fun h14 => ?_) (fun h14 => ?_)
    · exfalso; omega
    · refine g_lload3 (Y := Y_X4_hashSpotsAndLines) (pc' := 18) dX4_hashSpotsAndLines_17 rfl ?_
      refine g_aload0 (Y := Y_X4_hashSpotsAndLines) (pc' := 19) dX4_hashSpotsAndLines_18 rfl ?_
      refine g_getR (Y := Y_X4_hashSpotsAndLines) (pc' := 22) dX4_hashSpotsAndLines_19 rfl fl_X4_10 rfl (by assumption) (by omega) (by assumption) ?_
      refine g_iload5 (Y := Y_X4_hashSpotsAndLines) (pc' := 24) dX4_hashSpotsAndLines_22 rfl ?_
      refine g_callVv (Y := Y_X4_hashSpotsAndLines) (c := 3) (s_X3_cellOfSpot_in a8 x1.1 i (by omega)) (pc' := 27) dX4_hashSpotsAndLines_24 rfl cv_X4_347 rfl (by assumption) (by show _ < n; omega) ⟨by decide, _, rfl, rfl⟩ rfl rfl rfl rfl ?_
      refine g_i2l (Y := Y_X4_hashSpotsAndLines) (pc' := 28) dX4_hashSpotsAndLines_27 rfl ?_
      refine g_callSv (Y := Y_X4_hashSpotsAndLines) (s_X4_mix h _) (pc' := 31) dX4_hashSpotsAndLines_28 rfl cv_X4_241 rfl rfl rfl rfl rfl ?_
      refine g_lstore3 (Y := Y_X4_hashSpotsAndLines) (pc' := 32) dX4_hashSpotsAndLines_31 rfl (Nat.le_of_ble_eq_true rfl) rfl ?_
      refine g_iinc5 (Y := Y_X4_hashSpotsAndLines) (pc' := 35) dX4_hashSpotsAndLines_32 rfl (Nat.le_of_ble_eq_true rfl) rfl ?_
      refine g_goto (Y := Y_X4_hashSpotsAndLines) (t := 5) dX4_hashSpotsAndLines_35 (by decide) ?_
      exact ih (i + 1) _ (by omega) hend
set_option maxHeartbeats 2000000 in
set_option maxRecDepth 100000 in
theorem s_X4_hsl_lp3 {l : Launch} {E : QE} {T : Nat → Nat × Nat} {I : Nat → Nat → Int} {J : Nat → Nat → Int64} {R : Nat → Nat → Option Nat} {n z : Nat} (hk : ScB T R n) (hv : XV I) {K : Option Value → QW → Prop} {h0 : Int64} {i : Nat} (hi : (i : Int) < I 7 6) : ∀ (m w : Nat) (h : Int64), w + m = 6 → (∀ L7 : Int, Go l E Y_X4_hashSpotsAndLines 0 0 99 [some (.ref (E.1 + 0)), some (.long h0), none, some (.long (hL (f_lp I (7 + 6 + i)) m w h)), none, some (.int (iz (i : Int))), some (.ref (E.1 + (7 + 6 + i))), some (.int (iz L7))] [] (T, I, J, R, n, z) K) → Go l E Y_X4_hashSpotsAndLines 0 0 67 [some (.ref (E.1 + 0)), some (.long h0), none, some (.long h), none, some (.int (iz (i : Int))), some (.ref (E.1 + (7 + 6 + i))), some (.int (iz (w : Int)))] [] (T, I, J, R, n, z) K := by
  have hk0 := hk
  obtain ⟨a0, a1, a2, a3, a4, a5, a6, a7, a8, a9, a10, a11, a12, a13, a14, a15, a16⟩ := hk
  have b8 := a8.1
  have b9 := a9.1
  have b10 := a10.1
  have b11 := a11.1
  have b12 := a12.1
  obtain ⟨x1, x7, x46, x36, x40, x74, x3, xl, xl2⟩ := id hv
  intro m
  induction m with
  | zero =>
    intro w h hm hend
    refine g_aload6 (Y := Y_X4_hashSpotsAndLines) (pc' := 69) dX4_hashSpotsAndLines_67 rfl ?_
    refine g_ifnull (Y := Y_X4_hashSpotsAndLines) (pc' := 72) dX4_hashSpotsAndLines_69 rfl ?_
    refine g_iload7 (Y := Y_X4_hashSpotsAndLines) (pc' := 74) dX4_hashSpotsAndLines_72 rfl ?_
    refine g_bipush (Y := Y_X4_hashSpotsAndLines) (pc' := 76) dX4_hashSpotsAndLines_74 rfl (by decide) ?_
    refine g_icmp_ge (Y := Y_X4_hashSpotsAndLines) (t := 99) (pc' := 79) dX4_hashSpotsAndLines_76 (by decide) rfl ⟨by omega, by omega⟩ ⟨by omega, by omega⟩ (fun h76 => ?_) (fun h76 => ?_)
    · exact hend _
    · exfalso; omega
  | succ m ih =>
    intro w h hm hend
    have hlin := xl i hi
    have x76 := x7.2.2.2.2.2.2
    have hln : LnB T n (7 + 6 + i) := ⟨(a9.2.2.2.2.2.2.2.2.2.2.2.1 i (by omega)).2, by omega⟩
    refine g_aload6 (Y := Y_X4_hashSpotsAndLines) (pc' := 69) dX4_hashSpotsAndLines_67 rfl ?_
    refine g_ifnull (Y := Y_X4_hashSpotsAndLines) (pc' := 72) dX4_hashSpotsAndLines_69 rfl ?_
    refine g_iload7 (Y := Y_X4_hashSpotsAndLines) (pc' := 74) dX4_hashSpotsAndLines_72 rfl ?_
    refine g_bipush (Y := Y_X4_hashSpotsAndLines) (pc' := 76) dX4_hashSpotsAndLines_74 rfl (by decide) ?_
    refine g_icmp_ge (Y := Y_X4_hashSpotsAndLines) (t := 99) (pc' := 79) dX4_hashSpotsAndLines_76 (by decide) rfl ⟨by omega, by omega⟩ ⟨by omega, by omega⟩ (fun h76 => ?_) (fun h76 => ?_)
    · exfalso; omega
    · refine g_lload3 (Y := Y_X4_hashSpotsAndLines) (pc' := 80) dX4_hashSpotsAndLines_79 rfl ?_
      refine g_aload0 (Y := Y_X4_hashSpotsAndLines) (pc' := 81) dX4_hashSpotsAndLines_80 rfl ?_
      refine g_aload6 (Y := Y_X4_hashSpotsAndLines) (pc' := 83) dX4_hashSpotsAndLines_81 rfl ?_
      refine g_iload7 (Y := Y_X4_hashSpotsAndLines) (pc' := 85) dX4_hashSpotsAndLines_83 rfl ?_
      refine g_callVv (Y := Y_X4_hashSpotsAndLines) (c := 4) (s_X4_lineProperty hk0 hv hln hlin.1 hlin.2 w (by omega)) (pc' := 88) dX4_hashSpotsAndLines_85 rfl cv_X4_216 rfl (by assumption) (by show _ < n; omega) ⟨by decide, _, rfl, rfl⟩ rfl rfl rfl rfl ?_
      refine g_i2l (Y := Y_X4_hashSpotsAndLines) (pc' := 89) dX4_hashSpotsAndLines_88 rfl ?_
      refine g_callSv (Y := Y_X4_hashSpotsAndLines) (s_X4_mix h _) (pc' := 92) dX4_hashSpotsAndLines_89 rfl cv_X4_241 rfl rfl rfl rfl rfl ?_
      refine g_lstore3 (Y := Y_X4_hashSpotsAndLines) (pc' := 93) dX4_hashSpotsAndLines_92 rfl (Nat.le_of_ble_eq_true rfl) rfl ?_
      refine g_iinc7 (Y := Y_X4_hashSpotsAndLines) (pc' := 96) dX4_hashSpotsAndLines_93 rfl (Nat.le_of_ble_eq_true rfl) rfl ?_
      refine g_goto (Y := Y_X4_hashSpotsAndLines) (t := 67) dX4_hashSpotsAndLines_96 (by decide) ?_
      exact ih (w + 1) _ (by omega) hend
set_option maxHeartbeats 2000000 in
set_option maxRecDepth 100000 in
theorem s_X4_hsl_lp2 {l : Launch} {E : QE} {T : Nat → Nat × Nat} {I : Nat → Nat → Int} {J : Nat → Nat → Int64} {R : Nat → Nat → Option Nat} {n z : Nat} (hk : ScB T R n) (hv : XV I) {h0 : Int64} : ∀ (m i : Nat) (h : Int64) (x6 x7 : Option Value), i + m = (I 7 6).toNat → Go l E Y_X4_hashSpotsAndLines 0 0 41 [some (.ref (E.1 + 0)), some (.long h0), none, some (.long h), none, some (.int (iz (i : Int))), x6, x7] [] (T, I, J, R, n, z) (KV (.long (hLL I m i h)) (T, I, J, R, n, z)) := by
  have hk0 := hk
  obtain ⟨a0, a1, a2, a3, a4, a5, a6, a7, a8, a9, a10, a11, a12, a13, a14, a15, a16⟩ := hk
  have b8 := a8.1
  have b9 := a9.1
  have b10 := a10.1
  have b11 := a11.1
  have b12 := a12.1
  obtain ⟨x1, x7_, x46, x36, x40, x74, x3, xl, xl2⟩ := id hv
  intro m
  induction m with
  | zero =>
    intro i h x6 x7 hm
    have x76 := x7_.2.2.2.2.2.2
    refine g_iload5 (Y := Y_X4_hashSpotsAndLines) (pc' := 43) dX4_hashSpotsAndLines_41 rfl ?_
    refine g_aload0 (Y := Y_X4_hashSpotsAndLines) (pc' := 44) dX4_hashSpotsAndLines_43 rfl ?_
    refine g_getR (Y := Y_X4_hashSpotsAndLines) (pc' := 47) dX4_hashSpotsAndLines_44 rfl fl_X4_19 rfl (by assumption) (by omega) (by assumption) ?_
    refine g_getI (Y := Y_X4_hashSpotsAndLines) (pc' := 50) dX4_hashSpotsAndLines_47 rfl fl_X4_113 rfl (by assumption) (by omega) ?_
    refine g_icmp_ge (Y := Y_X4_hashSpotsAndLines) (t := 105) (pc' := 53) dX4_hashSpotsAndLines_50 (by decide) rfl ⟨by omega, by omega⟩ ⟨by omega, by omega⟩ (fun h50 => ?_) (fun h50 => ?_)
    · refine g_lload3 (Y := Y_X4_hashSpotsAndLines) (pc' := 106) dX4_hashSpotsAndLines_105 rfl ?_
      exact g_lret (Y := Y_X4_hashSpotsAndLines) dX4_hashSpotsAndLines_106 rfl (Nat.zero_le _) (Nat.zero_le _) (⟨rfl, rfl⟩)
    · exfalso; omega
  | succ m ih =>
    intro i h x6 x7 hm
    have x76 := x7_.2.2.2.2.2.2
    refine g_iload5 (Y := Y_X4_hashSpotsAndLines) (pc' := 43) dX4_hashSpotsAndLines_41 rfl ?_
    refine g_aload0 (Y := Y_X4_hashSpotsAndLines) (pc' := 44) dX4_hashSpotsAndLines_43 rfl ?_
    refine g_getR (Y := Y_X4_hashSpotsAndLines) (pc' := 47) dX4_hashSpotsAndLines_44 rfl fl_X4_19 rfl (by assumption) (by omega) (by assumption) ?_
    refine g_getI (Y := Y_X4_hashSpotsAndLines) (pc' := 50) dX4_hashSpotsAndLines_47 rfl fl_X4_113 rfl (by assumption) (by omega) ?_
    refine g_icmp_ge (Y := Y_X4_hashSpotsAndLines) (t := 105) (pc' := 53) dX4_hashSpotsAndLines_50 (by decide) rfl ⟨by omega, by omega⟩ ⟨by omega, by omega⟩ (fun h50 => ?_) (fun h50 => ?_)
    · exfalso; omega
    · refine g_aload0 (Y := Y_X4_hashSpotsAndLines) (pc' := 54) dX4_hashSpotsAndLines_53 rfl ?_
      refine g_getR (Y := Y_X4_hashSpotsAndLines) (pc' := 57) dX4_hashSpotsAndLines_54 rfl fl_X4_19 rfl (by assumption) (by omega) (by assumption) ?_
      refine g_iload5 (Y := Y_X4_hashSpotsAndLines) (pc' := 59) dX4_hashSpotsAndLines_57 rfl ?_
      refine g_callVv (Y := Y_X4_hashSpotsAndLines) (c := 2) (s_X2_lineAt_in a9 x76 i (by omega)) (pc' := 62) dX4_hashSpotsAndLines_59 rfl cv_X4_208 rfl (by assumption) (by show _ < n; omega) ⟨by decide, _, rfl, rfl⟩ rfl rfl rfl rfl ?_
      refine g_astore6 (Y := Y_X4_hashSpotsAndLines) (pc' := 64) dX4_hashSpotsAndLines_62 rfl (Nat.le_of_ble_eq_true rfl) rfl ?_
      refine g_iconst (Y := Y_X4_hashSpotsAndLines) (pc' := 65) dX4_hashSpotsAndLines_64 rfl ?_
      refine g_istore7 (Y := Y_X4_hashSpotsAndLines) (pc' := 67) dX4_hashSpotsAndLines_65 rfl (Nat.le_of_ble_eq_true rfl) rfl ?_
      refine s_X4_hsl_lp3 hk0 hv (by omega : (i : Int) < I 7 6) 6 0 h rfl (fun L7 => ?_)
      refine g_iinc5 (Y := Y_X4_hashSpotsAndLines) (pc' := 102) dX4_hashSpotsAndLines_99 rfl (Nat.le_of_ble_eq_true rfl) rfl ?_
      refine g_goto (Y := Y_X4_hashSpotsAndLines) (t := 41) dX4_hashSpotsAndLines_102 (by decide) ?_
      exact ih (i + 1) _ _ _ (by omega)
set_option maxHeartbeats 2000000 in
set_option maxRecDepth 100000 in
theorem s_X4_hashSpotsAndLines {l : Launch} {E : QE} {T : Nat → Nat × Nat} {I : Nat → Nat → Int} {J : Nat → Nat → Int64} {R : Nat → Nat → Option Nat} {n z : Nat} (hk : ScB T R n) (hv : XV I) (h : Int64) : SpV l E Y_X4_hashSpotsAndLines [.ref (E.1 + 0), .long h] (T, I, J, R, n, z) (.long (f_hsl I h)) (T, I, J, R, n, z) := by
  have hk0 := hk
  obtain ⟨a0, a1, a2, a3, a4, a5, a6, a7, a8, a9, a10, a11, a12, a13, a14, a15, a16⟩ := hk
  have b8 := a8.1
  have b9 := a9.1
  have b10 := a10.1
  have b11 := a11.1
  have b12 := a12.1
  obtain ⟨x1, x7, x46, x36, x40, x74, x3, xl, xl2⟩ := id hv
  refine Sp.of [some (.ref (E.1 + 0)), some (.long h), none, none, none, none, none, none] (by decide +kernel) (Nat.le_of_ble_eq_true rfl) (fun _ h => h) ?_
  refine g_lload1 (Y := Y_X4_hashSpotsAndLines) (pc' := 1) dX4_hashSpotsAndLines_0 rfl ?_
  refine g_lstore3 (Y := Y_X4_hashSpotsAndLines) (pc' := 2) dX4_hashSpotsAndLines_1 rfl (Nat.le_of_ble_eq_true rfl) rfl ?_
  refine g_iconst (Y := Y_X4_hashSpotsAndLines) (pc' := 3) dX4_hashSpotsAndLines_2 rfl ?_
  refine g_istore5 (Y := Y_X4_hashSpotsAndLines) (pc' := 5) dX4_hashSpotsAndLines_3 rfl (Nat.le_of_ble_eq_true rfl) rfl ?_
  refine s_X4_hsl_lp1 hk0 hv (I 1 5).toNat 0 h (by omega) (fun L5 => ?_)
  refine g_iconst (Y := Y_X4_hashSpotsAndLines) (pc' := 39) dX4_hashSpotsAndLines_38 rfl ?_
  refine g_istore5 (Y := Y_X4_hashSpotsAndLines) (pc' := 41) dX4_hashSpotsAndLines_39 rfl (Nat.le_of_ble_eq_true rfl) rfl ?_
  exact s_X4_hsl_lp2 hk0 hv (I 7 6).toNat 0 _ _ _ (by omega)
set_option maxHeartbeats 2000000 in
set_option maxRecDepth 100000 in
theorem s_X4_hav_lp {l : Launch} {E : QE} {T : Nat → Nat × Nat} {I : Nat → Nat → Int} {J : Nat → Nat → Int64} {R : Nat → Nat → Option Nat} {n z : Nat} (hk : ScB T R n) (hv : XV I) {h0 : Int64} : ∀ (m i : Nat) (h : Int64), i + m = 576 → Go l E Y_X4_hashAvoidedCells 0 0 5 [some (.ref (E.1 + 0)), some (.long h0), none, some (.long h), none, some (.int (iz (i : Int)))] [] (T, I, J, R, n, z) (KV (.long (hAv I m i h)) (T, I, J, R, n, z)) := by
  obtain ⟨a0, a1, a2, a3, a4, a5, a6, a7, a8, a9, a10, a11, a12, a13, a14, a15, a16⟩ := hk
  have b8 := a8.1
  have b9 := a9.1
  have b10 := a10.1
  have b11 := a11.1
  have b12 := a12.1
  obtain ⟨x1, x7, x46, x36, x40, x74, x3, xl, xl2⟩ := id hv
  intro m
  induction m with
  | zero =>
    intro i h hm
    refine g_iload5 (Y := Y_X4_hashAvoidedCells) (pc' := 7) dX4_hashAvoidedCells_5 rfl ?_
    refine g_sipush (Y := Y_X4_hashAvoidedCells) (pc' := 10) dX4_hashAvoidedCells_7 rfl (by decide) ?_
    refine g_icmp_ge (Y := Y_X4_hashAvoidedCells) (t := 52) (pc' := 13) dX4_hashAvoidedCells_10 (by decide) rfl ⟨by omega, by omega⟩ ⟨by omega, by omega⟩ (fun h10 => ?_) (fun h10 => ?_)
    · refine g_lload3 (Y := Y_X4_hashAvoidedCells) (pc' := 53) dX4_hashAvoidedCells_52 rfl ?_
      exact g_lret (Y := Y_X4_hashAvoidedCells) dX4_hashAvoidedCells_53 rfl (Nat.zero_le _) (Nat.zero_le _) (⟨rfl, rfl⟩)
    · exfalso; omega
  | succ m ih =>
    intro i h hm
    have hav := f_av01 (I := I) (k := 7) (c := (i : Int))
    refine g_iload5 (Y := Y_X4_hashAvoidedCells) (pc' := 7) dX4_hashAvoidedCells_5 rfl ?_
    refine g_sipush (Y := Y_X4_hashAvoidedCells) (pc' := 10) dX4_hashAvoidedCells_7 rfl (by decide) ?_
    refine g_icmp_ge (Y := Y_X4_hashAvoidedCells) (t := 52) (pc' := 13) dX4_hashAvoidedCells_10 (by decide) rfl ⟨by omega, by omega⟩ ⟨by omega, by omega⟩ (fun h10 => ?_) (fun h10 => ?_)
    · exfalso; omega
    · refine g_aload0 (Y := Y_X4_hashAvoidedCells) (pc' := 14) dX4_hashAvoidedCells_13 rfl ?_
      refine g_getR (Y := Y_X4_hashAvoidedCells) (pc' := 17) dX4_hashAvoidedCells_14 rfl fl_X4_19 rfl (by assumption) (by omega) (by assumption) ?_
      refine g_iload5 (Y := Y_X4_hashAvoidedCells) (pc' := 19) dX4_hashAvoidedCells_17 rfl ?_
      refine g_callVv (Y := Y_X4_hashAvoidedCells) (c := 2) (s_X2_isAvoided a9 (i : Int) ⟨by omega, by omega⟩ (LmV_b x7) (LmV_h x7)) (pc' := 22) dX4_hashAvoidedCells_19 rfl cv_X4_191 rfl (by assumption) (by show _ < n; omega) ⟨by decide, _, rfl, rfl⟩ rfl rfl rfl rfl ?_
      refine g_if_eq (Y := Y_X4_hashAvoidedCells) (t := 46) (pc' := 25) dX4_hashAvoidedCells_22 (by decide) rfl ⟨by omega, by omega⟩ (fun h22 => ?_) (fun h22 => ?_)
      · have e : hAv I (m + 1) i h = hAv I m (i + 1) h := if_pos h22
        rw [e]
        refine g_iinc5 (Y := Y_X4_hashAvoidedCells) (pc' := 49) dX4_hashAvoidedCells_46 rfl (Nat.le_of_ble_eq_true rfl) rfl ?_
        refine g_goto (Y := Y_X4_hashAvoidedCells) (t := 5) dX4_hashAvoidedCells_49 (by decide) ?_
        exact ih (i + 1) _ (by omega)
      · have e : hAv I (m + 1) i h = hAv I m (i + 1) (hx (hx h i) (f_hits I 7 i)) := if_neg h22
        rw [e]
        refine g_lload3 (Y := Y_X4_hashAvoidedCells) (pc' := 26) dX4_hashAvoidedCells_25 rfl ?_
        refine g_iload5 (Y := Y_X4_hashAvoidedCells) (pc' := 28) dX4_hashAvoidedCells_26 rfl ?_
        refine g_i2l (Y := Y_X4_hashAvoidedCells) (pc' := 29) dX4_hashAvoidedCells_28 rfl ?_
        refine g_callSv (Y := Y_X4_hashAvoidedCells) (s_X4_mix _ _) (pc' := 32) dX4_hashAvoidedCells_29 rfl cv_X4_241 rfl rfl rfl rfl rfl ?_
        refine g_aload0 (Y := Y_X4_hashAvoidedCells) (pc' := 33) dX4_hashAvoidedCells_32 rfl ?_
        refine g_getR (Y := Y_X4_hashAvoidedCells) (pc' := 36) dX4_hashAvoidedCells_33 rfl fl_X4_19 rfl (by assumption) (by omega) (by assumption) ?_
        refine g_iload5 (Y := Y_X4_hashAvoidedCells) (pc' := 38) dX4_hashAvoidedCells_36 rfl ?_
        refine g_callVv (Y := Y_X4_hashAvoidedCells) (c := 2) (s_X2_hitsOf a9 (i : Int) ⟨by omega, by omega⟩) (pc' := 41) dX4_hashAvoidedCells_38 rfl cv_X4_197 rfl (by assumption) (by show _ < n; omega) ⟨by decide, _, rfl, rfl⟩ rfl rfl rfl rfl ?_
        refine g_i2l (Y := Y_X4_hashAvoidedCells) (pc' := 42) dX4_hashAvoidedCells_41 rfl ?_
        refine g_callSv (Y := Y_X4_hashAvoidedCells) (s_X4_mix _ _) (pc' := 45) dX4_hashAvoidedCells_42 rfl cv_X4_241 rfl rfl rfl rfl rfl ?_
        refine g_lstore3 (Y := Y_X4_hashAvoidedCells) (pc' := 46) dX4_hashAvoidedCells_45 rfl (Nat.le_of_ble_eq_true rfl) rfl ?_
        refine g_iinc5 (Y := Y_X4_hashAvoidedCells) (pc' := 49) dX4_hashAvoidedCells_46 rfl (Nat.le_of_ble_eq_true rfl) rfl ?_
        refine g_goto (Y := Y_X4_hashAvoidedCells) (t := 5) dX4_hashAvoidedCells_49 (by decide) ?_
        exact ih (i + 1) _ (by omega)
set_option maxHeartbeats 2000000 in
set_option maxRecDepth 100000 in
theorem s_X4_hashAvoidedCells {l : Launch} {E : QE} {T : Nat → Nat × Nat} {I : Nat → Nat → Int} {J : Nat → Nat → Int64} {R : Nat → Nat → Option Nat} {n z : Nat} (hk : ScB T R n) (hv : XV I) (h : Int64) : SpV l E Y_X4_hashAvoidedCells [.ref (E.1 + 0), .long h] (T, I, J, R, n, z) (.long (hAv I 576 0 h)) (T, I, J, R, n, z) := by
  have hk0 := hk
  obtain ⟨a0, a1, a2, a3, a4, a5, a6, a7, a8, a9, a10, a11, a12, a13, a14, a15, a16⟩ := hk
  have b8 := a8.1
  have b9 := a9.1
  have b10 := a10.1
  have b11 := a11.1
  have b12 := a12.1
  refine Sp.of [some (.ref (E.1 + 0)), some (.long h), none, none, none, none] (by decide +kernel) (Nat.le_of_ble_eq_true rfl) (fun _ h => h) ?_
  refine g_lload1 (Y := Y_X4_hashAvoidedCells) (pc' := 1) dX4_hashAvoidedCells_0 rfl ?_
  refine g_lstore3 (Y := Y_X4_hashAvoidedCells) (pc' := 2) dX4_hashAvoidedCells_1 rfl (Nat.le_of_ble_eq_true rfl) rfl ?_
  refine g_iconst (Y := Y_X4_hashAvoidedCells) (pc' := 3) dX4_hashAvoidedCells_2 rfl ?_
  refine g_istore5 (Y := Y_X4_hashAvoidedCells) (pc' := 5) dX4_hashAvoidedCells_3 rfl (Nat.le_of_ble_eq_true rfl) rfl ?_
  exact s_X4_hav_lp hk0 hv 576 0 h rfl
set_option maxHeartbeats 2000000 in
set_option maxRecDepth 100000 in
theorem s_X4_hbl_lp {l : Launch} {E : QE} {T : Nat → Nat × Nat} {I : Nat → Nat → Int} {J : Nat → Nat → Int64} {R : Nat → Nat → Option Nat} {n z : Nat} (hk : ScB T R n) (hv : XV I) {h0 : Int64} : ∀ (m i : Nat) (h : Int64), i + m = 480 → Go l E Y_X4_hashBlocks 0 0 5 [some (.ref (E.1 + 0)), some (.long h0), none, some (.long h), none, some (.int (iz (i : Int)))] [] (T, I, J, R, n, z) (KV (.long (hBl I m i h)) (T, I, J, R, n, z)) := by
  obtain ⟨a0, a1, a2, a3, a4, a5, a6, a7, a8, a9, a10, a11, a12, a13, a14, a15, a16⟩ := hk
  have b8 := a8.1
  have b9 := a9.1
  have b10 := a10.1
  have b11 := a11.1
  have b12 := a12.1
  obtain ⟨x1, x7, x46, x36, x40, x74, x3, xl, xl2⟩ := id hv
  intro m
  induction m with
  | zero =>
    intro i h hm
    refine g_iload5 (Y := Y_X4_hashBlocks) (pc' := 7) dX4_hashBlocks_5 rfl ?_
    refine g_sipush (Y := Y_X4_hashBlocks) (pc' := 10) dX4_hashBlocks_7 rfl (by decide) ?_
    refine g_icmp_ge (Y := Y_X4_hashBlocks) (t := 66) (pc' := 13) dX4_hashBlocks_10 (by decide) rfl ⟨by omega, by omega⟩ ⟨by omega, by omega⟩ (fun h10 => ?_) (fun h10 => ?_)
    · refine g_lload3 (Y := Y_X4_hashBlocks) (pc' := 67) dX4_hashBlocks_66 rfl ?_
      exact g_lret (Y := Y_X4_hashBlocks) dX4_hashBlocks_67 rfl (Nat.zero_le _) (Nat.zero_le _) (⟨rfl, rfl⟩)
    · exfalso; omega
  | succ m ih =>
    intro i h hm
    refine g_iload5 (Y := Y_X4_hashBlocks) (pc' := 7) dX4_hashBlocks_5 rfl ?_
    refine g_sipush (Y := Y_X4_hashBlocks) (pc' := 10) dX4_hashBlocks_7 rfl (by decide) ?_
    refine g_icmp_ge (Y := Y_X4_hashBlocks) (t := 66) (pc' := 13) dX4_hashBlocks_10 (by decide) rfl ⟨by omega, by omega⟩ ⟨by omega, by omega⟩ (fun h10 => ?_) (fun h10 => ?_)
    · exfalso; omega
    · refine g_aload0 (Y := Y_X4_hashBlocks) (pc' := 14) dX4_hashBlocks_13 rfl ?_
      refine g_getR (Y := Y_X4_hashBlocks) (pc' := 17) dX4_hashBlocks_14 rfl fl_X4_10 rfl (by assumption) (by omega) (by assumption) ?_
      refine g_iload5 (Y := Y_X4_hashBlocks) (pc' := 19) dX4_hashBlocks_17 rfl ?_
      refine g_callVv (Y := Y_X4_hashBlocks) (c := 3) (s_X3_valueOf_in a8 i (by omega)) (pc' := 22) dX4_hashBlocks_19 rfl cv_X4_83 rfl (by assumption) (by show _ < n; omega) ⟨by decide, _, rfl, rfl⟩ rfl rfl rfl rfl ?_
      refine g_iconst (Y := Y_X4_hashBlocks) (pc' := 23) dX4_hashBlocks_22 rfl ?_
      refine g_icmp_eq (Y := Y_X4_hashBlocks) (t := 60) (pc' := 26) dX4_hashBlocks_23 (by decide) rfl (StV_v x1 i) ⟨by omega, by omega⟩ (fun h23 => ?_) (fun h23 => ?_)
      · have e : hBl I (m + 1) i h = hBl I m (i + 1) h := if_pos h23
        rw [e]
        refine g_iinc5 (Y := Y_X4_hashBlocks) (pc' := 63) dX4_hashBlocks_60 rfl (Nat.le_of_ble_eq_true rfl) rfl ?_
        refine g_goto (Y := Y_X4_hashBlocks) (t := 5) dX4_hashBlocks_63 (by decide) ?_
        exact ih (i + 1) _ (by omega)
      · have e : hBl I (m + 1) i h = hBl I m (i + 1) (hx (hx (hx h i) (I (1 + 3) i)) (I (1 + 4) i)) := if_neg h23
        rw [e]
        refine g_lload3 (Y := Y_X4_hashBlocks) (pc' := 27) dX4_hashBlocks_26 rfl ?_
        refine g_iload5 (Y := Y_X4_hashBlocks) (pc' := 29) dX4_hashBlocks_27 rfl ?_
        refine g_i2l (Y := Y_X4_hashBlocks) (pc' := 30) dX4_hashBlocks_29 rfl ?_
        refine g_callSv (Y := Y_X4_hashBlocks) (s_X4_mix _ _) (pc' := 33) dX4_hashBlocks_30 rfl cv_X4_241 rfl rfl rfl rfl rfl ?_
        refine g_aload0 (Y := Y_X4_hashBlocks) (pc' := 34) dX4_hashBlocks_33 rfl ?_
        refine g_getR (Y := Y_X4_hashBlocks) (pc' := 37) dX4_hashBlocks_34 rfl fl_X4_10 rfl (by assumption) (by omega) (by assumption) ?_
        refine g_iload5 (Y := Y_X4_hashBlocks) (pc' := 39) dX4_hashBlocks_37 rfl ?_
        refine g_callVv (Y := Y_X4_hashBlocks) (c := 3) (s_X3_valueOf_in a8 i (by omega)) (pc' := 42) dX4_hashBlocks_39 rfl cv_X4_83 rfl (by assumption) (by show _ < n; omega) ⟨by decide, _, rfl, rfl⟩ rfl rfl rfl rfl ?_
        refine g_i2l (Y := Y_X4_hashBlocks) (pc' := 43) dX4_hashBlocks_42 rfl ?_
        refine g_callSv (Y := Y_X4_hashBlocks) (s_X4_mix _ _) (pc' := 46) dX4_hashBlocks_43 rfl cv_X4_241 rfl rfl rfl rfl rfl ?_
        refine g_aload0 (Y := Y_X4_hashBlocks) (pc' := 47) dX4_hashBlocks_46 rfl ?_
        refine g_getR (Y := Y_X4_hashBlocks) (pc' := 50) dX4_hashBlocks_47 rfl fl_X4_10 rfl (by assumption) (by omega) (by assumption) ?_
        refine g_iload5 (Y := Y_X4_hashBlocks) (pc' := 52) dX4_hashBlocks_50 rfl ?_
        refine g_callVv (Y := Y_X4_hashBlocks) (c := 3) (s_X3_placeOf_in a8 i (by omega)) (pc' := 55) dX4_hashBlocks_52 rfl cv_X4_202 rfl (by assumption) (by show _ < n; omega) ⟨by decide, _, rfl, rfl⟩ rfl rfl rfl rfl ?_
        refine g_i2l (Y := Y_X4_hashBlocks) (pc' := 56) dX4_hashBlocks_55 rfl ?_
        refine g_callSv (Y := Y_X4_hashBlocks) (s_X4_mix _ _) (pc' := 59) dX4_hashBlocks_56 rfl cv_X4_241 rfl rfl rfl rfl rfl ?_
        refine g_lstore3 (Y := Y_X4_hashBlocks) (pc' := 60) dX4_hashBlocks_59 rfl (Nat.le_of_ble_eq_true rfl) rfl ?_
        refine g_iinc5 (Y := Y_X4_hashBlocks) (pc' := 63) dX4_hashBlocks_60 rfl (Nat.le_of_ble_eq_true rfl) rfl ?_
        refine g_goto (Y := Y_X4_hashBlocks) (t := 5) dX4_hashBlocks_63 (by decide) ?_
        exact ih (i + 1) _ (by omega)
set_option maxHeartbeats 2000000 in
set_option maxRecDepth 100000 in
theorem s_X4_hashBlocks {l : Launch} {E : QE} {T : Nat → Nat × Nat} {I : Nat → Nat → Int} {J : Nat → Nat → Int64} {R : Nat → Nat → Option Nat} {n z : Nat} (hk : ScB T R n) (hv : XV I) (h : Int64) : SpV l E Y_X4_hashBlocks [.ref (E.1 + 0), .long h] (T, I, J, R, n, z) (.long (hBl I 480 0 h)) (T, I, J, R, n, z) := by
  have hk0 := hk
  obtain ⟨a0, a1, a2, a3, a4, a5, a6, a7, a8, a9, a10, a11, a12, a13, a14, a15, a16⟩ := hk
  have b8 := a8.1
  have b9 := a9.1
  have b10 := a10.1
  have b11 := a11.1
  have b12 := a12.1
  refine Sp.of [some (.ref (E.1 + 0)), some (.long h), none, none, none, none] (by decide +kernel) (Nat.le_of_ble_eq_true rfl) (fun _ h => h) ?_
  refine g_lload1 (Y := Y_X4_hashBlocks) (pc' := 1) dX4_hashBlocks_0 rfl ?_
  refine g_lstore3 (Y := Y_X4_hashBlocks) (pc' := 2) dX4_hashBlocks_1 rfl (Nat.le_of_ble_eq_true rfl) rfl ?_
  refine g_iconst (Y := Y_X4_hashBlocks) (pc' := 3) dX4_hashBlocks_2 rfl ?_
  refine g_istore5 (Y := Y_X4_hashBlocks) (pc' := 5) dX4_hashBlocks_3 rfl (Nat.le_of_ble_eq_true rfl) rfl ?_
  exact s_X4_hbl_lp hk0 hv 480 0 h rfl
set_option maxHeartbeats 2000000 in
set_option maxRecDepth 100000 in
theorem s_X4_htx_lp {l : Launch} {E : QE} {T : Nat → Nat × Nat} {I : Nat → Nat → Int} {J : Nat → Nat → Int64} {R : Nat → Nat → Option Nat} {n z : Nat} (hk : ScB T R n) (hv : XV I) {h0 : Int64} : ∀ (m i : Nat) (h : Int64), i + m = (I 36 3).toNat → Go l E Y_X4_hashText 0 0 16 [some (.ref (E.1 + 0)), some (.long h0), none, some (.long h), none, some (.int (iz (i : Int)))] [] (T, I, J, R, n, z) (KV (.long (hL (I (36 + 1)) m i h)) (T, I, J, R, n, z)) := by
  obtain ⟨a0, a1, a2, a3, a4, a5, a6, a7, a8, a9, a10, a11, a12, a13, a14, a15, a16⟩ := hk
  have b8 := a8.1
  have b9 := a9.1
  have b10 := a10.1
  have b11 := a11.1
  have b12 := a12.1
  obtain ⟨x1, x7, x46, x36, x40, x74, x3, xl, xl2⟩ := id hv
  intro m
  induction m with
  | zero =>
    intro i h hm
    have x363 := x36.1
    refine g_iload5 (Y := Y_X4_hashText) (pc' := 18) dX4_hashText_16 rfl ?_
    refine g_aload0 (Y := Y_X4_hashText) (pc' := 19) dX4_hashText_18 rfl ?_
    refine g_getR (Y := Y_X4_hashText) (pc' := 22) dX4_hashText_19 rfl fl_X4_34 rfl (by assumption) (by omega) (by assumption) ?_
    refine g_getI (Y := Y_X4_hashText) (pc' := 25) dX4_hashText_22 rfl fl_X4_160 rfl (by assumption) (by omega) ?_
    refine g_icmp_ge (Y := Y_X4_hashText) (t := 49) (pc' := 28) dX4_hashText_25 (by decide) rfl ⟨by omega, by omega⟩ ⟨by omega, by omega⟩ (fun h25 => ?_) (fun h25 => ?_)
    · refine g_lload3 (Y := Y_X4_hashText) (pc' := 50) dX4_hashText_49 rfl ?_
      exact g_lret (Y := Y_X4_hashText) dX4_hashText_50 rfl (Nat.zero_le _) (Nat.zero_le _) (⟨rfl, rfl⟩)
    · exfalso; omega
  | succ m ih =>
    intro i h hm
    have x363 := x36.1
    have hca := s_X0_codeAt (l := l) (E := E) (J := J) (z := z) a10 x36 (i : Int) ⟨by omega, by omega⟩
    rw [if_pos (by omega)] at hca
    refine g_iload5 (Y := Y_X4_hashText) (pc' := 18) dX4_hashText_16 rfl ?_
    refine g_aload0 (Y := Y_X4_hashText) (pc' := 19) dX4_hashText_18 rfl ?_
    refine g_getR (Y := Y_X4_hashText) (pc' := 22) dX4_hashText_19 rfl fl_X4_34 rfl (by assumption) (by omega) (by assumption) ?_
    refine g_getI (Y := Y_X4_hashText) (pc' := 25) dX4_hashText_22 rfl fl_X4_160 rfl (by assumption) (by omega) ?_
    refine g_icmp_ge (Y := Y_X4_hashText) (t := 49) (pc' := 28) dX4_hashText_25 (by decide) rfl ⟨by omega, by omega⟩ ⟨by omega, by omega⟩ (fun h25 => ?_) (fun h25 => ?_)
    · exfalso; omega
    · refine g_lload3 (Y := Y_X4_hashText) (pc' := 29) dX4_hashText_28 rfl ?_
      refine g_aload0 (Y := Y_X4_hashText) (pc' := 30) dX4_hashText_29 rfl ?_
      refine g_getR (Y := Y_X4_hashText) (pc' := 33) dX4_hashText_30 rfl fl_X4_34 rfl (by assumption) (by omega) (by assumption) ?_
      refine g_iload5 (Y := Y_X4_hashText) (pc' := 35) dX4_hashText_33 rfl ?_
      refine g_callVv (Y := Y_X4_hashText) (c := 0) (hca) (pc' := 38) dX4_hashText_35 rfl cv_X4_355 rfl (by assumption) (by show _ < n; omega) ⟨by decide, _, rfl, rfl⟩ rfl rfl rfl rfl ?_
      refine g_i2l (Y := Y_X4_hashText) (pc' := 39) dX4_hashText_38 rfl ?_
      refine g_callSv (Y := Y_X4_hashText) (s_X4_mix _ _) (pc' := 42) dX4_hashText_39 rfl cv_X4_241 rfl rfl rfl rfl rfl ?_
      refine g_lstore3 (Y := Y_X4_hashText) (pc' := 43) dX4_hashText_42 rfl (Nat.le_of_ble_eq_true rfl) rfl ?_
      refine g_iinc5 (Y := Y_X4_hashText) (pc' := 46) dX4_hashText_43 rfl (Nat.le_of_ble_eq_true rfl) rfl ?_
      refine g_goto (Y := Y_X4_hashText) (t := 16) dX4_hashText_46 (by decide) ?_
      exact ih (i + 1) _ (by omega)
set_option maxHeartbeats 2000000 in
set_option maxRecDepth 100000 in
theorem s_X4_hashText {l : Launch} {E : QE} {T : Nat → Nat × Nat} {I : Nat → Nat → Int} {J : Nat → Nat → Int64} {R : Nat → Nat → Option Nat} {n z : Nat} (hk : ScB T R n) (hv : XV I) (h : Int64) : SpV l E Y_X4_hashText [.ref (E.1 + 0), .long h] (T, I, J, R, n, z) (.long (f_htx I h)) (T, I, J, R, n, z) := by
  have hk0 := hk
  obtain ⟨a0, a1, a2, a3, a4, a5, a6, a7, a8, a9, a10, a11, a12, a13, a14, a15, a16⟩ := hk
  have b8 := a8.1
  have b9 := a9.1
  have b10 := a10.1
  have b11 := a11.1
  have b12 := a12.1
  refine Sp.of [some (.ref (E.1 + 0)), some (.long h), none, none, none, none] (by decide +kernel) (Nat.le_of_ble_eq_true rfl) (fun _ h => h) ?_
  refine g_lload1 (Y := Y_X4_hashText) (pc' := 1) dX4_hashText_0 rfl ?_
  refine g_aload0 (Y := Y_X4_hashText) (pc' := 2) dX4_hashText_1 rfl ?_
  refine g_getR (Y := Y_X4_hashText) (pc' := 5) dX4_hashText_2 rfl fl_X4_34 rfl (by assumption) (by omega) (by assumption) ?_
  refine g_getI (Y := Y_X4_hashText) (pc' := 8) dX4_hashText_5 rfl fl_X4_160 rfl (by assumption) (by omega) ?_
  refine g_i2l (Y := Y_X4_hashText) (pc' := 9) dX4_hashText_8 rfl ?_
  refine g_callSv (Y := Y_X4_hashText) (s_X4_mix _ _) (pc' := 12) dX4_hashText_9 rfl cv_X4_241 rfl rfl rfl rfl rfl ?_
  refine g_lstore3 (Y := Y_X4_hashText) (pc' := 13) dX4_hashText_12 rfl (Nat.le_of_ble_eq_true rfl) rfl ?_
  refine g_iconst (Y := Y_X4_hashText) (pc' := 14) dX4_hashText_13 rfl ?_
  refine g_istore5 (Y := Y_X4_hashText) (pc' := 16) dX4_hashText_14 rfl (Nat.le_of_ble_eq_true rfl) rfl ?_
  exact s_X4_htx_lp hk0 hv (I 36 3).toNat 0 _ (by omega)
set_option maxHeartbeats 2000000 in
set_option maxRecDepth 100000 in
theorem s_X4_worst_lp {l : Launch} {E : QE} {T : Nat → Nat × Nat} {I : Nat → Nat → Int} {J : Nat → Nat → Int64} {R : Nat → Nat → Option Nat} {n z : Nat} (hk : ScB T R n) (hv : XV I) : ∀ (m c : Nat) (b : Int), c + m = 576 → (b = -1 ∨ 0 ≤ b ∧ b < 576) → Go l E Y_X4_worst 0 0 4 [some (.ref (E.1 + 0)), some (.int (iz b)), some (.int (iz (c : Int)))] [] (T, I, J, R, n, z) (KV (.int (iz (wsL I m c b))) (T, I, J, R, n, z)) := by
  obtain ⟨a0, a1, a2, a3, a4, a5, a6, a7, a8, a9, a10, a11, a12, a13, a14, a15, a16⟩ := hk
  have b8 := a8.1
  have b9 := a9.1
  have b10 := a10.1
  have b11 := a11.1
  have b12 := a12.1
  obtain ⟨x1, x7, x46, x36, x40, x74, x3, xl, xl2⟩ := id hv
  intro m
  induction m with
  | zero =>
    intro c b hm hb
    refine g_iload2 (Y := Y_X4_worst) (pc' := 5) dX4_worst_4 rfl ?_
    refine g_sipush (Y := Y_X4_worst) (pc' := 8) dX4_worst_5 rfl (by decide) ?_
    refine g_icmp_ge (Y := Y_X4_worst) (t := 54) (pc' := 11) dX4_worst_8 (by decide) rfl ⟨by omega, by omega⟩ ⟨by omega, by omega⟩ (fun h8 => ?_) (fun h8 => ?_)
    · refine g_iload1 (Y := Y_X4_worst) (pc' := 55) dX4_worst_54 rfl ?_
      exact g_iret (Y := Y_X4_worst) dX4_worst_55 rfl (Nat.zero_le _) (Nat.zero_le _) (⟨rfl, rfl⟩)
    · exfalso; omega
  | succ m ih =>
    intro c b hm hb
    have hav := f_av01 (I := I) (k := 7) (c := (c : Int))
    have hr : ∀ q : Int, -2147483648 ≤ f_hits I 7 q ∧ f_hits I 7 q < 2147483648 := fun q => by unfold f_hits; split; exact LmV_h x7 _; decide
    refine g_iload2 (Y := Y_X4_worst) (pc' := 5) dX4_worst_4 rfl ?_
    refine g_sipush (Y := Y_X4_worst) (pc' := 8) dX4_worst_5 rfl (by decide) ?_
    refine g_icmp_ge (Y := Y_X4_worst) (t := 54) (pc' := 11) dX4_worst_8 (by decide) rfl ⟨by omega, by omega⟩ ⟨by omega, by omega⟩ (fun h8 => ?_) (fun h8 => ?_)
    · exfalso; omega
    · refine g_aload0 (Y := Y_X4_worst) (pc' := 12) dX4_worst_11 rfl ?_
      refine g_getR (Y := Y_X4_worst) (pc' := 15) dX4_worst_12 rfl fl_X4_19 rfl (by assumption) (by omega) (by assumption) ?_
      refine g_iload2 (Y := Y_X4_worst) (pc' := 16) dX4_worst_15 rfl ?_
      refine g_callVv (Y := Y_X4_worst) (c := 2) (s_X2_isAvoided a9 (c : Int) ⟨by omega, by omega⟩ (LmV_b x7) (LmV_h x7)) (pc' := 19) dX4_worst_16 rfl cv_X4_191 rfl (by assumption) (by show _ < n; omega) ⟨by decide, _, rfl, rfl⟩ rfl rfl rfl rfl ?_
      refine g_if_eq (Y := Y_X4_worst) (t := 48) (pc' := 22) dX4_worst_19 (by decide) rfl ⟨by omega, by omega⟩ (fun h19 => ?_) (fun h19 => ?_)
      · have e : wsL I (m + 1) c b = wsL I m (c + 1) b := if_neg (fun q => q.1 h19)
        rw [e]
        refine g_iinc2 (Y := Y_X4_worst) (pc' := 51) dX4_worst_48 rfl (Nat.le_of_ble_eq_true rfl) rfl ?_
        refine g_goto (Y := Y_X4_worst) (t := 4) dX4_worst_51 (by decide) ?_
        exact ih (c + 1) _ (by omega) (by omega)
      · refine g_iload1 (Y := Y_X4_worst) (pc' := 23) dX4_worst_22 rfl ?_
        refine g_iconst (Y := Y_X4_worst) (pc' := 24) dX4_worst_23 rfl ?_
        refine g_icmp_eq (Y := Y_X4_worst) (t := 46) (pc' := 27) dX4_worst_24 (by decide) rfl ⟨by omega, by omega⟩ ⟨by omega, by omega⟩ (fun h24 => ?_) (fun h24 => ?_)
        · have e : wsL I (m + 1) c b = wsL I m (c + 1) c := if_pos ⟨h19, Or.inl h24⟩
          rw [e]
          refine g_iload2 (Y := Y_X4_worst) (pc' := 47) dX4_worst_46 rfl ?_
          refine g_istore1 (Y := Y_X4_worst) (pc' := 48) dX4_worst_47 rfl (Nat.le_of_ble_eq_true rfl) rfl ?_
          refine g_iinc2 (Y := Y_X4_worst) (pc' := 51) dX4_worst_48 rfl (Nat.le_of_ble_eq_true rfl) rfl ?_
          refine g_goto (Y := Y_X4_worst) (t := 4) dX4_worst_51 (by decide) ?_
          exact ih (c + 1) _ (by omega) (by omega)
        · refine g_aload0 (Y := Y_X4_worst) (pc' := 28) dX4_worst_27 rfl ?_
          refine g_getR (Y := Y_X4_worst) (pc' := 31) dX4_worst_28 rfl fl_X4_19 rfl (by assumption) (by omega) (by assumption) ?_
          refine g_iload2 (Y := Y_X4_worst) (pc' := 32) dX4_worst_31 rfl ?_
          refine g_callVv (Y := Y_X4_worst) (c := 2) (s_X2_hitsOf a9 (c : Int) ⟨by omega, by omega⟩) (pc' := 35) dX4_worst_32 rfl cv_X4_197 rfl (by assumption) (by show _ < n; omega) ⟨by decide, _, rfl, rfl⟩ rfl rfl rfl rfl ?_
          refine g_aload0 (Y := Y_X4_worst) (pc' := 36) dX4_worst_35 rfl ?_
          refine g_getR (Y := Y_X4_worst) (pc' := 39) dX4_worst_36 rfl fl_X4_19 rfl (by assumption) (by omega) (by assumption) ?_
          refine g_iload1 (Y := Y_X4_worst) (pc' := 40) dX4_worst_39 rfl ?_
          refine g_callVv (Y := Y_X4_worst) (c := 2) (s_X2_hitsOf a9 b ⟨by omega, by omega⟩) (pc' := 43) dX4_worst_40 rfl cv_X4_197 rfl (by assumption) (by show _ < n; omega) ⟨by decide, _, rfl, rfl⟩ rfl rfl rfl rfl ?_
          refine g_icmp_le (Y := Y_X4_worst) (t := 48) (pc' := 46) dX4_worst_43 (by decide) rfl (hr _) (hr _) (fun h43 => ?_) (fun h43 => ?_)
          · have e : wsL I (m + 1) c b = wsL I m (c + 1) b := if_neg (by omega)
            rw [e]
            refine g_iinc2 (Y := Y_X4_worst) (pc' := 51) dX4_worst_48 rfl (Nat.le_of_ble_eq_true rfl) rfl ?_
            refine g_goto (Y := Y_X4_worst) (t := 4) dX4_worst_51 (by decide) ?_
            exact ih (c + 1) _ (by omega) (by omega)
          · have e : wsL I (m + 1) c b = wsL I m (c + 1) c := if_pos ⟨h19, Or.inr (by omega)⟩
            rw [e]
            refine g_iload2 (Y := Y_X4_worst) (pc' := 47) dX4_worst_46 rfl ?_
            refine g_istore1 (Y := Y_X4_worst) (pc' := 48) dX4_worst_47 rfl (Nat.le_of_ble_eq_true rfl) rfl ?_
            refine g_iinc2 (Y := Y_X4_worst) (pc' := 51) dX4_worst_48 rfl (Nat.le_of_ble_eq_true rfl) rfl ?_
            refine g_goto (Y := Y_X4_worst) (t := 4) dX4_worst_51 (by decide) ?_
            exact ih (c + 1) _ (by omega) (by omega)
set_option maxHeartbeats 2000000 in
set_option maxRecDepth 100000 in
theorem s_X4_worst {l : Launch} {E : QE} {T : Nat → Nat × Nat} {I : Nat → Nat → Int} {J : Nat → Nat → Int64} {R : Nat → Nat → Option Nat} {n z : Nat} (hk : ScB T R n) (hv : XV I)  : SpV l E Y_X4_worst [.ref (E.1 + 0)] (T, I, J, R, n, z) (.int (iz (f_worst I))) (T, I, J, R, n, z) := by
  have hk0 := hk
  obtain ⟨a0, a1, a2, a3, a4, a5, a6, a7, a8, a9, a10, a11, a12, a13, a14, a15, a16⟩ := hk
  have b8 := a8.1
  have b9 := a9.1
  have b10 := a10.1
  have b11 := a11.1
  have b12 := a12.1
  refine Sp.of [some (.ref (E.1 + 0)), none, none] (by decide +kernel) (Nat.le_of_ble_eq_true rfl) (fun _ h => h) ?_
  refine g_iconst (Y := Y_X4_worst) (pc' := 1) dX4_worst_0 rfl ?_
  refine g_istore1 (Y := Y_X4_worst) (pc' := 2) dX4_worst_1 rfl (Nat.le_of_ble_eq_true rfl) rfl ?_
  refine g_iconst (Y := Y_X4_worst) (pc' := 3) dX4_worst_2 rfl ?_
  refine g_istore2 (Y := Y_X4_worst) (pc' := 4) dX4_worst_3 rfl (Nat.le_of_ble_eq_true rfl) rfl ?_
  exact s_X4_worst_lp hk0 hv 576 0 (-1) rfl (Or.inl rfl)
set_option maxHeartbeats 2000000 in
set_option maxRecDepth 100000 in
theorem s_X4_clearBuffer {l : Launch} {E : QE} {T : Nat → Nat × Nat} {I : Nat → Nat → Int} {J : Nat → Nat → Int64} {R : Nat → Nat → Option Nat} {n z : Nat} (hk : ScB T R n) (hv : XV I)  : SpV l E Y_X4_clearBuffer [.ref (E.1 + 0)] (T, I, J, R, n, z) (.int (iz (I 36 3))) (T, u2 I 36 3 0, J, R, n, z) := by
  obtain ⟨a0, a1, a2, a3, a4, a5, a6, a7, a8, a9, a10, a11, a12, a13, a14, a15, a16⟩ := hk
  have b8 := a8.1
  have b9 := a9.1
  have b10 := a10.1
  have b11 := a11.1
  have b12 := a12.1
  obtain ⟨x1, x7, x46, x36, x40, x74, x3, xl, xl2⟩ := id hv
  refine Sp.of [some (.ref (E.1 + 0)), none] (by decide +kernel) (Nat.le_of_ble_eq_true rfl) (fun _ h => h) ?_
  refine g_aload0 (Y := Y_X4_clearBuffer) (pc' := 1) dX4_clearBuffer_0 rfl ?_
  refine g_getR (Y := Y_X4_clearBuffer) (pc' := 4) dX4_clearBuffer_1 rfl fl_X4_34 rfl (by assumption) (by omega) (by assumption) ?_
  refine g_getI (Y := Y_X4_clearBuffer) (pc' := 7) dX4_clearBuffer_4 rfl fl_X4_160 rfl (by assumption) (by omega) ?_
  refine g_istore1 (Y := Y_X4_clearBuffer) (pc' := 8) dX4_clearBuffer_7 rfl (Nat.le_of_ble_eq_true rfl) rfl ?_
  refine g_aload0 (Y := Y_X4_clearBuffer) (pc' := 9) dX4_clearBuffer_8 rfl ?_
  refine g_getR (Y := Y_X4_clearBuffer) (pc' := 12) dX4_clearBuffer_9 rfl fl_X4_34 rfl (by assumption) (by omega) (by assumption) ?_
  refine g_callVn (Y := Y_X4_clearBuffer) (c := 0) (s_X0_empty a10 x36) (pc' := 15) dX4_clearBuffer_12 rfl cv_X4_163 rfl (by assumption) (by show _ < n; omega) ⟨by decide, _, rfl, rfl⟩ rfl rfl rfl rfl ?_
  refine g_iload1 (Y := Y_X4_clearBuffer) (pc' := 16) dX4_clearBuffer_15 rfl ?_
  exact g_iret (Y := Y_X4_clearBuffer) dX4_clearBuffer_16 rfl (Nat.zero_le _) (Nat.zero_le _) (⟨rfl, rfl⟩)
set_option maxHeartbeats 2000000 in
set_option maxRecDepth 100000 in
theorem s_X4_firstError {l : Launch} {E : QE} {T : Nat → Nat × Nat} {I : Nat → Nat → Int} {J : Nat → Nat → Int64} {R : Nat → Nat → Option Nat} {n z : Nat} (hk : ScB T R n) (hv : XV I)  : SpV l E Y_X4_firstError [.ref (E.1 + 0)] (T, I, J, R, n, z) (.int (iz (f_scan I 36).1)) (T, (f_scan I 36).2, J, R, n, z) := by
  obtain ⟨a0, a1, a2, a3, a4, a5, a6, a7, a8, a9, a10, a11, a12, a13, a14, a15, a16⟩ := hk
  have b8 := a8.1
  have b9 := a9.1
  have b10 := a10.1
  have b11 := a11.1
  have b12 := a12.1
  obtain ⟨x1, x7, x46, x36, x40, x74, x3, xl, xl2⟩ := id hv
  refine Sp.of [some (.ref (E.1 + 0))] (by decide +kernel) (Nat.le_of_ble_eq_true rfl) (fun _ h => h) ?_
  refine g_aload0 (Y := Y_X4_firstError) (pc' := 1) dX4_firstError_0 rfl ?_
  refine g_getR (Y := Y_X4_firstError) (pc' := 4) dX4_firstError_1 rfl fl_X4_34 rfl (by assumption) (by omega) (by assumption) ?_
  refine g_callVv (Y := Y_X4_firstError) (c := 0) (s_X0_scan a10 x36) (pc' := 7) dX4_firstError_4 rfl cv_X4_166 rfl (by assumption) (by show _ < n; omega) ⟨by decide, _, rfl, rfl⟩ rfl rfl rfl rfl ?_
  exact g_iret (Y := Y_X4_firstError) dX4_firstError_7 rfl (Nat.zero_le _) (Nat.zero_le _) (⟨rfl, rfl⟩)
set_option maxHeartbeats 2000000 in
set_option maxRecDepth 100000 in
theorem s_X4_untidy {l : Launch} {E : QE} {T : Nat → Nat × Nat} {I : Nat → Nat → Int} {J : Nat → Nat → Int64} {R : Nat → Nat → Option Nat} {n : Nat} (hk : ScB T R n) (hv : XV I)  : SpV l E Y_X4_untidy [.ref (E.1 + 0)] (T, I, J, R, n, 0) (.int (iz (f_untidy I).1)) (T, (f_untidy I).2, J, R, n, 0) := by
  obtain ⟨a0, a1, a2, a3, a4, a5, a6, a7, a8, a9, a10, a11, a12, a13, a14, a15, a16⟩ := hk
  have b8 := a8.1
  have b9 := a9.1
  have b10 := a10.1
  have b11 := a11.1
  have b12 := a12.1
  obtain ⟨x1, x7, x46, x36, x40, x74, x3, xl, xl2⟩ := id hv
  have c40 := StV_copy (by omega) x1 x40
  have c7 : LmV (f_copy I 1 40) 7 := LmV_ne x7 (fun a h1 h2 => f_copy_ne (by omega))
  refine Sp.of [some (.ref (E.1 + 0))] (by decide +kernel) (Nat.le_of_ble_eq_true rfl) (fun _ h => h) ?_
  refine g_aload0 (Y := Y_X4_untidy) (pc' := 1) dX4_untidy_0 rfl ?_
  refine g_getR (Y := Y_X4_untidy) (pc' := 4) dX4_untidy_1 rfl fl_X4_38 rfl (by assumption) (by omega) (by assumption) ?_
  refine g_aload0 (Y := Y_X4_untidy) (pc' := 5) dX4_untidy_4 rfl ?_
  refine g_getR (Y := Y_X4_untidy) (pc' := 8) dX4_untidy_5 rfl fl_X4_10 rfl (by assumption) (by omega) (by assumption) ?_
  refine g_callVn (Y := Y_X4_untidy) (c := 3) (s_X3_copyFrom a11 a8) (pc' := 11) dX4_untidy_8 rfl cv_X4_183 rfl (by assumption) (by show _ < n; omega) ⟨by decide, _, rfl, rfl⟩ rfl rfl rfl rfl ?_
  refine g_aload0 (Y := Y_X4_untidy) (pc' := 12) dX4_untidy_11 rfl ?_
  refine g_getR (Y := Y_X4_untidy) (pc' := 15) dX4_untidy_12 rfl fl_X4_38 rfl (by assumption) (by omega) (by assumption) ?_
  refine g_aload0 (Y := Y_X4_untidy) (pc' := 16) dX4_untidy_15 rfl ?_
  refine g_getR (Y := Y_X4_untidy) (pc' := 19) dX4_untidy_16 rfl fl_X4_19 rfl (by assumption) (by omega) (by assumption) ?_
  refine g_sipush (Y := Y_X4_untidy) (pc' := 22) dX4_untidy_19 rfl (by decide) ?_
  refine g_callSv (Y := Y_X4_untidy) (s_X4_tidyUp a11 a9 (by omega) (LmV_b c7) (LmV_h c7) (StV_p c40) (StV_o c40) 480 ⟨by decide, by decide⟩) (pc' := 25) dX4_untidy_22 rfl cv_X4_126 rfl rfl rfl rfl rfl ?_
  exact g_iret (Y := Y_X4_untidy) dX4_untidy_25 rfl (Nat.zero_le _) (Nat.zero_le _) (⟨rfl, rfl⟩)
