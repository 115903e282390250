/-! ScratchMap: the digest -/
theorem tdL_ne {ks km : Nat} {most : Int} : ∀ (m b : Nat) (d : Int) (I : Nat → Nat → Int) (a : Nat), (a < ks ∨ ks + 6 ≤ a) → (tdL ks km most m b d I).2 a = I a
  | 0, _, _, _, _, _ => rfl
  | m + 1, b, d, I, a, h => by
    unfold tdL
    split
    · split
      · exact tdL_ne m (b + 1) d I a h
      · rw [tdL_ne m (b + 1) _ _ a h, f_place_ne h]
    · rfl
theorem tdL_StV {ks km : Nat} {most : Int} : ∀ (m b : Nat) (d : Int) (I : Nat → Nat → Int), b + m = 480 → StV I ks → StV (tdL ks km most m b d I).2 ks
  | 0, _, _, _, _, h => h
  | m + 1, b, d, I, hm, h => by
    unfold tdL
    split
    · split
      · exact tdL_StV m (b + 1) d I (by omega) h
      · rename_i h1 h2
        have hc := f_cft_rg (I := I) (ks := ks) (km := km) (b := b) (by omega)
        exact tdL_StV m (b + 1) _ _ (by omega) (StV_place h ⟨by omega, by omega⟩ (by omega) (h.2.2.2.2.1 b))
    · exact h
theorem f_tidyUp_ne {I : Nat → Nat → Int} {ks km : Nat} {most : Int} {a : Nat} (h : a < ks ∨ ks + 6 ≤ a) : (f_tidyUp I ks km most).2 a = I a := tdL_ne 480 0 0 I a h
theorem StV_tidyUp {I : Nat → Nat → Int} {ks km : Nat} {most : Int} (h : StV I ks) : StV (f_tidyUp I ks km most).2 ks := tdL_StV 480 0 0 I rfl h
theorem f_untidy_ne {I : Nat → Nat → Int} {a : Nat} (h : a < 40 ∨ 46 ≤ a) : (f_untidy I).2 a = I a := by
  unfold f_untidy
  rw [f_tidyUp_ne (by omega), f_copy_ne (by omega)]
/-- the object's ints but those of the trial state -/
theorem XV_ne40 {I I' : Nat → Nat → Int} (hv : XV I) (ne : ∀ a, a < 40 ∨ 46 ≤ a → I' a = I a) (h40 : StV I' 40) : XV I' := by
  obtain ⟨x1, x7, x46, x36, x40, x74, x3, xl, xl2⟩ := hv
  exact ⟨StV_ne x1 (fun a h1 h2 => ne a (by omega)), LmV_ne x7 (fun a h1 h2 => ne a (by omega)), LmV_ne x46 (fun a h1 h2 => ne a (by omega)), TxV_ne x36 (fun a h1 h2 => ne a (by omega)), h40, fun i hi => StV_ne (x74 i hi) (fun a h1 h2 => ne a (by omega)), by rw [ne 0 (by omega)]; exact x3, LIN_ne xl x7 (fun a h1 h2 => ne a (by omega)), LIN_ne xl2 x46 (fun a h1 h2 => ne a (by omega))⟩
theorem XV_untidy {I : Nat → Nat → Int} (hv : XV I) : XV (f_untidy I).2 := by
  obtain ⟨x1, x7, x46, x36, x40, x74, x3, xl, xl2⟩ := id hv
  exact XV_ne40 hv (fun a ha => f_untidy_ne ha) (StV_tidyUp (StV_copy (by omega) x1 x40))
theorem hFc_ne : ∀ (m i : Nat) (h : Int64) (I : Nat → Nat → Int) (J : Nat → Nat → Int64) (a : Nat), XV I → (a < 40 ∨ 74 ≤ a) → (hFc m i h I J).2.1 a = I a
  | 0, _, _, _, _, _, _, _ => rfl
  | m + 1, i, h, I, J, a, hv, ha => by
    unfold hFc
    rw [hFc_ne m (i + 1) _ _ _ a (XV_try hv) ha, f_try_ne hv ha]
theorem hFc_XV : ∀ (m i : Nat) (h : Int64) (I : Nat → Nat → Int) (J : Nat → Nat → Int64), XV I → XV (hFc m i h I J).2.1
  | 0, _, _, _, _, hv => hv
  | m + 1, i, h, I, J, hv => by
    unfold hFc
    exact hFc_XV m (i + 1) _ _ _ (XV_try hv)
/-- the digest: after the counts and settings, what the parts of the map, the forecasts and the text bring -/
def dg1 (I : Nat → Nat → Int) : Int64 := hL (I (1 + 2)) 3 0 (hL (f_num I) 10 0 2851)
def dg4 (I : Nat → Nat → Int) : Int64 := hBl I 480 0 (hAv I 576 0 (f_hsl I (dg1 I)))
def dg5 (I : Nat → Nat → Int) (J : Nat → Nat → Int64) : Int64 × (Nat → Nat → Int) × (Nat → Nat → Int64) := hFc 3 0 (dg4 I) I J
def dg8 (I : Nat → Nat → Int) (h : Int64) : Int64 := hx (hx h (f_worst I)) (f_untidy I).1
def dg9 (I : Nat → Nat → Int) (h : Int64) : Int64 := f_htx I (31 * h + f_bits (f_shr (576 - I 1 5 - I 7 7)))
def f_digest (I : Nat → Nat → Int) (J : Nat → Nat → Int64) : Int64 × (Nat → Nat → Int) × (Nat → Nat → Int64) :=
  (dg9 (f_untidy (dg5 I J).2.1).2 (dg8 (dg5 I J).2.1 (dg5 I J).1), (f_untidy (dg5 I J).2.1).2, (dg5 I J).2.2)
set_option maxHeartbeats 2000000 in
set_option maxRecDepth 100000 in
theorem s_X4_dg_lp1 {l : Launch} {E : QE} {T : Nat → Nat × Nat} {I : Nat → Nat → Int} {J : Nat → Nat → Int64} {R : Nat → Nat → Option Nat} {n z : Nat} (hk : ScB T R n) (hv : XV I) {K : Option Value → QW → Prop} : ∀ (m w : Nat) (h : Int64), w + m = 10 → (∀ L3 : Int, Go l E Y_X4_digest 0 0 29 [some (.ref (E.1 + 0)), some (.long (hL (f_num I) m w h)), none, some (.int (iz L3))] [] (T, I, J, R, n, z) K) → Go l E Y_X4_digest 0 0 6 [some (.ref (E.1 + 0)), some (.long h), none, some (.int (iz (w : Int)))] [] (T, I, J, R, n, z) K := by
  have hk0 := hk
  obtain ⟨a0, a1, a2, a3, a4, a5, a6, a7, a8, a9, a10, a11, a12, a13, a14, a15, a16⟩ := hk
  have b8 := a8.1
  have b9 := a9.1
  have b10 := a10.1
  have b11 := a11.1
  have b12 := a12.1
  intro m
  induction m with
  | zero =>
    intro w h hm hend
    refine g_iload3 (Y := Y_X4_digest) (pc' := 7) dX4_digest_6 rfl ?_
    refine g_bipush (Y := Y_X4_digest) (pc' := 9) dX4_digest_7 rfl (by decide) ?_
    refine g_icmp_ge (Y := Y_X4_digest) (t := 29) (pc' := 12) dX4_digest_9 (by decide) rfl ⟨by omega, by omega⟩ ⟨by omega, by omega⟩ (fun h9 => ?_) (fun h9 => ?_)
    · exact hend _
    · exfalso; omega
  | succ m ih =>
    intro w h hm hend
    refine g_iload3 (Y := Y_X4_digest) (pc' := 7) dX4_digest_6 rfl ?_
    refine g_bipush (Y := Y_X4_digest) (pc' := 9) dX4_digest_7 rfl (by decide) ?_
    refine g_icmp_ge (Y := Y_X4_digest) (t := 29) (pc' := 12) dX4_digest_9 (by decide) rfl ⟨by omega, by omega⟩ ⟨by omega, by omega⟩ (fun h9 => ?_) (fun h9 => ?_)
    · exfalso; omega
    · refine g_lload1 (Y := Y_X4_digest) (pc' := 13) dX4_digest_12 rfl ?_
      refine g_aload0 (Y := Y_X4_digest) (pc' := 14) dX4_digest_13 rfl ?_
      refine g_iload3 (Y := Y_X4_digest) (pc' := 15) dX4_digest_14 rfl ?_
      refine g_callVv (Y := Y_X4_digest) (c := 4) (s_X4_numberOf hk0 hv w (by omega)) (pc' := 18) dX4_digest_15 rfl cv_X4_222 rfl (by assumption) (by show _ < n; omega) ⟨by decide, _, rfl, rfl⟩ rfl rfl rfl rfl ?_
      refine g_i2l (Y := Y_X4_digest) (pc' := 19) dX4_digest_18 rfl ?_
      refine g_callSv (Y := Y_X4_digest) (s_X4_mix _ _) (pc' := 22) dX4_digest_19 rfl cv_X4_241 rfl rfl rfl rfl rfl ?_
      refine g_lstore1 (Y := Y_X4_digest) (pc' := 23) dX4_digest_22 rfl (Nat.le_of_ble_eq_true rfl) rfl ?_
      refine g_iinc3 (Y := Y_X4_digest) (pc' := 26) dX4_digest_23 rfl (Nat.le_of_ble_eq_true rfl) rfl ?_
      refine g_goto (Y := Y_X4_digest) (t := 6) dX4_digest_26 (by decide) ?_
      exact ih (w + 1) _ (by omega) hend
set_option maxHeartbeats 2000000 in
set_option maxRecDepth 100000 in
theorem s_X4_dg_lp2 {l : Launch} {E : QE} {T : Nat → Nat × Nat} {I : Nat → Nat → Int} {J : Nat → Nat → Int64} {R : Nat → Nat → Option Nat} {n z : Nat} (hk : ScB T R n) (hv : XV I) {K : Option Value → QW → Prop} : ∀ (m w : Nat) (h : Int64), w + m = 3 → (∀ L3 : Int, Go l E Y_X4_digest 0 0 56 [some (.ref (E.1 + 0)), some (.long (hL (I (1 + 2)) m w h)), none, some (.int (iz L3))] [] (T, I, J, R, n, z) K) → Go l E Y_X4_digest 0 0 31 [some (.ref (E.1 + 0)), some (.long h), none, some (.int (iz (w : Int)))] [] (T, I, J, R, n, z) K := by
  have hk0 := hk
  obtain ⟨a0, a1, a2, a3, a4, a5, a6, a7, a8, a9, a10, a11, a12, a13, a14, a15, a16⟩ := hk
  have b8 := a8.1
  have b9 := a9.1
  have b10 := a10.1
  have b11 := a11.1
  have b12 := a12.1
  intro m
  induction m with
  | zero =>
    intro w h hm hend
    refine g_iload3 (Y := Y_X4_digest) (pc' := 32) dX4_digest_31 rfl ?_
    refine g_iconst (Y := Y_X4_digest) (pc' := 33) dX4_digest_32 rfl ?_
    refine g_icmp_ge (Y := Y_X4_digest) (t := 56) (pc' := 36) dX4_digest_33 (by decide) rfl ⟨by omega, by omega⟩ ⟨by omega, by omega⟩ (fun h33 => ?_) (fun h33 => ?_)
    · exact hend _
    · exfalso; omega
  | succ m ih =>
    intro w h hm hend
    refine g_iload3 (Y := Y_X4_digest) (pc' := 32) dX4_digest_31 rfl ?_
    refine g_iconst (Y := Y_X4_digest) (pc' := 33) dX4_digest_32 rfl ?_
    refine g_icmp_ge (Y := Y_X4_digest) (t := 56) (pc' := 36) dX4_digest_33 (by decide) rfl ⟨by omega, by omega⟩ ⟨by omega, by omega⟩ (fun h33 => ?_) (fun h33 => ?_)
    · exfalso; omega
    · refine g_lload1 (Y := Y_X4_digest) (pc' := 37) dX4_digest_36 rfl ?_
      refine g_aload0 (Y := Y_X4_digest) (pc' := 38) dX4_digest_37 rfl ?_
      refine g_getR (Y := Y_X4_digest) (pc' := 41) dX4_digest_38 rfl fl_X4_10 rfl (by assumption) (by omega) (by assumption) ?_
      refine g_iload3 (Y := Y_X4_digest) (pc' := 42) dX4_digest_41 rfl ?_
      refine g_callVv (Y := Y_X4_digest) (c := 3) (s_X3_settingOf_in a8 w (by omega)) (pc' := 45) dX4_digest_42 rfl cv_X4_139 rfl (by assumption) (by show _ < n; omega) ⟨by decide, _, rfl, rfl⟩ rfl rfl rfl rfl ?_
      refine g_i2l (Y := Y_X4_digest) (pc' := 46) dX4_digest_45 rfl ?_
      refine g_callSv (Y := Y_X4_digest) (s_X4_mix _ _) (pc' := 49) dX4_digest_46 rfl cv_X4_241 rfl rfl rfl rfl rfl ?_
      refine g_lstore1 (Y := Y_X4_digest) (pc' := 50) dX4_digest_49 rfl (Nat.le_of_ble_eq_true rfl) rfl ?_
      refine g_iinc3 (Y := Y_X4_digest) (pc' := 53) dX4_digest_50 rfl (Nat.le_of_ble_eq_true rfl) rfl ?_
      refine g_goto (Y := Y_X4_digest) (t := 31) dX4_digest_53 (by decide) ?_
      exact ih (w + 1) _ (by omega) hend
set_option maxHeartbeats 2000000 in
set_option maxRecDepth 100000 in
theorem s_X4_digest {l : Launch} {E : QE} {T : Nat → Nat × Nat} {I : Nat → Nat → Int} {J : Nat → Nat → Int64} {R : Nat → Nat → Option Nat} {n : Nat} (hk : ScB T R n) (hv : XV I) (hav : 0 ≤ I 7 7 ∧ I 7 7 ≤ 580) : SpV l E Y_X4_digest [.ref (E.1 + 0)] (T, I, J, R, n, 0) (.long (f_digest I J).1) (T, (f_digest I J).2.1, (f_digest I J).2.2, R, n, 0) := by
  have hk0 := hk
  obtain ⟨a0, a1, a2, a3, a4, a5, a6, a7, a8, a9, a10, a11, a12, a13, a14, a15, a16⟩ := hk
  have b8 := a8.1
  have b9 := a9.1
  have b10 := a10.1
  have b11 := a11.1
  have b12 := a12.1
  refine Sp.of [some (.ref (E.1 + 0)), none, none, none] (by decide +kernel) (Nat.le_of_ble_eq_true rfl) (fun _ h => h) ?_
  refine g_ldc2l (Y := Y_X4_digest) (v := (2851 : Int64)) (pc' := 3) dX4_digest_0 rfl (q_w 310 (by decide +kernel) rfl) ?_
  refine g_lstore1 (Y := Y_X4_digest) (pc' := 4) dX4_digest_3 rfl (Nat.le_of_ble_eq_true rfl) rfl ?_
  refine g_iconst (Y := Y_X4_digest) (pc' := 5) dX4_digest_4 rfl ?_
  refine g_istore3 (Y := Y_X4_digest) (pc' := 6) dX4_digest_5 rfl (Nat.le_of_ble_eq_true rfl) rfl ?_
  refine s_X4_dg_lp1 hk0 hv 10 0 _ rfl (fun L3 => ?_)
  refine g_iconst (Y := Y_X4_digest) (pc' := 30) dX4_digest_29 rfl ?_
  refine g_istore3 (Y := Y_X4_digest) (pc' := 31) dX4_digest_30 rfl (Nat.le_of_ble_eq_true rfl) rfl ?_
  refine s_X4_dg_lp2 hk0 hv 3 0 _ rfl (fun L4 => ?_)
  have v5 : XV (dg5 I J).2.1 := hFc_XV 3 0 _ I J hv
  have v6 := XV_untidy v5
  have av6 : 0 ≤ (f_untidy (dg5 I J).2.1).2 7 7 ∧ (f_untidy (dg5 I J).2.1).2 7 7 ≤ 580 := by
    have e5 : (dg5 I J).2.1 7 = I 7 := hFc_ne 3 0 _ I J 7 hv (by omega)
    rw [f_untidy_ne (by omega), e5]
    exact hav
  refine g_aload0 (Y := Y_X4_digest) (pc' := 57) dX4_digest_56 rfl ?_
  refine g_lload1 (Y := Y_X4_digest) (pc' := 58) dX4_digest_57 rfl ?_
  refine g_callVv (Y := Y_X4_digest) (c := 4) (s_X4_hashSpotsAndLines hk0 hv _) (pc' := 61) dX4_digest_58 rfl cv_X4_245 rfl (by assumption) (by show _ < n; omega) ⟨by decide, _, rfl, rfl⟩ rfl rfl rfl rfl ?_
  refine g_lstore1 (Y := Y_X4_digest) (pc' := 62) dX4_digest_61 rfl (Nat.le_of_ble_eq_true rfl) rfl ?_
  refine g_aload0 (Y := Y_X4_digest) (pc' := 63) dX4_digest_62 rfl ?_
  refine g_lload1 (Y := Y_X4_digest) (pc' := 64) dX4_digest_63 rfl ?_
  refine g_callVv (Y := Y_X4_digest) (c := 4) (s_X4_hashAvoidedCells hk0 hv _) (pc' := 67) dX4_digest_64 rfl cv_X4_249 rfl (by assumption) (by show _ < n; omega) ⟨by decide, _, rfl, rfl⟩ rfl rfl rfl rfl ?_
  refine g_lstore1 (Y := Y_X4_digest) (pc' := 68) dX4_digest_67 rfl (Nat.le_of_ble_eq_true rfl) rfl ?_
  refine g_aload0 (Y := Y_X4_digest) (pc' := 69) dX4_digest_68 rfl ?_
  refine g_lload1 (Y := Y_X4_digest) (pc' := 70) dX4_digest_69 rfl ?_
  refine g_callVv (Y := Y_X4_digest) (c := 4) (s_X4_hashBlocks hk0 hv _) (pc' := 73) dX4_digest_70 rfl cv_X4_252 rfl (by assumption) (by show _ < n; omega) ⟨by decide, _, rfl, rfl⟩ rfl rfl rfl rfl ?_
  refine g_lstore1 (Y := Y_X4_digest) (pc' := 74) dX4_digest_73 rfl (Nat.le_of_ble_eq_true rfl) rfl ?_
  refine g_aload0 (Y := Y_X4_digest) (pc' := 75) dX4_digest_74 rfl ?_
  refine g_lload1 (Y := Y_X4_digest) (pc' := 76) dX4_digest_75 rfl ?_
  refine g_callVv (Y := Y_X4_digest) (c := 4) (s_X4_hashForecasts hk0 hv _) (pc' := 79) dX4_digest_76 rfl cv_X4_255 rfl (by assumption) (by show _ < n; omega) ⟨by decide, _, rfl, rfl⟩ rfl rfl rfl rfl ?_
  refine g_lstore1 (Y := Y_X4_digest) (pc' := 80) dX4_digest_79 rfl (Nat.le_of_ble_eq_true rfl) rfl ?_
  refine g_lload1 (Y := Y_X4_digest) (pc' := 81) dX4_digest_80 rfl ?_
  refine g_aload0 (Y := Y_X4_digest) (pc' := 82) dX4_digest_81 rfl ?_
  refine g_callVv (Y := Y_X4_digest) (c := 4) (s_X4_worst hk0 v5) (pc' := 85) dX4_digest_82 rfl cv_X4_258 rfl (by assumption) (by show _ < n; omega) ⟨by decide, _, rfl, rfl⟩ rfl rfl rfl rfl ?_
  refine g_i2l (Y := Y_X4_digest) (pc' := 86) dX4_digest_85 rfl ?_
  refine g_callSv (Y := Y_X4_digest) (s_X4_mix _ _) (pc' := 89) dX4_digest_86 rfl cv_X4_241 rfl rfl rfl rfl rfl ?_
  refine g_lstore1 (Y := Y_X4_digest) (pc' := 90) dX4_digest_89 rfl (Nat.le_of_ble_eq_true rfl) rfl ?_
  refine g_lload1 (Y := Y_X4_digest) (pc' := 91) dX4_digest_90 rfl ?_
  refine g_aload0 (Y := Y_X4_digest) (pc' := 92) dX4_digest_91 rfl ?_
  refine g_callVv (Y := Y_X4_digest) (c := 4) (s_X4_untidy hk0 v5) (pc' := 95) dX4_digest_92 rfl cv_X4_261 rfl (by assumption) (by show _ < n; omega) ⟨by decide, _, rfl, rfl⟩ rfl rfl rfl rfl ?_
  refine g_i2l (Y := Y_X4_digest) (pc' := 96) dX4_digest_95 rfl ?_
  refine g_callSv (Y := Y_X4_digest) (s_X4_mix _ _) (pc' := 99) dX4_digest_96 rfl cv_X4_241 rfl rfl rfl rfl rfl ?_
  refine g_lstore1 (Y := Y_X4_digest) (pc' := 100) dX4_digest_99 rfl (Nat.le_of_ble_eq_true rfl) rfl ?_
  refine g_lload1 (Y := Y_X4_digest) (pc' := 101) dX4_digest_100 rfl ?_
  refine g_aload0 (Y := Y_X4_digest) (pc' := 102) dX4_digest_101 rfl ?_
  refine g_callVv (Y := Y_X4_digest) (c := 4) (s_X4_goodShare hk0 v6 av6) (pc' := 105) dX4_digest_102 rfl cv_X4_264 rfl (by assumption) (by show _ < n; omega) ⟨by decide, _, rfl, rfl⟩ rfl rfl rfl rfl ?_
  refine g_callSv (Y := Y_X4_digest) (s_X4_bitsOfShare _ (shOk_g _ ⟨by have q1 := v6.1.1; omega, by have q1 := v6.1.1; omega⟩)) (pc' := 108) dX4_digest_105 rfl cv_X4_268 rfl rfl rfl rfl rfl ?_
  refine g_callSv (Y := Y_X4_digest) (s_X4_mix _ _) (pc' := 111) dX4_digest_108 rfl cv_X4_241 rfl rfl rfl rfl rfl ?_
  refine g_lstore1 (Y := Y_X4_digest) (pc' := 112) dX4_digest_111 rfl (Nat.le_of_ble_eq_true rfl) rfl ?_
  refine g_aload0 (Y := Y_X4_digest) (pc' := 113) dX4_digest_112 rfl ?_
  refine g_lload1 (Y := Y_X4_digest) (pc' := 114) dX4_digest_113 rfl ?_
  refine g_callVv (Y := Y_X4_digest) (c := 4) (s_X4_hashText hk0 v6 _) (pc' := 117) dX4_digest_114 rfl cv_X4_272 rfl (by assumption) (by show _ < n; omega) ⟨by decide, _, rfl, rfl⟩ rfl rfl rfl rfl ?_
  exact g_lret (Y := Y_X4_digest) dX4_digest_117 rfl (Nat.zero_le _) (Nat.zero_le _) (⟨rfl, rfl⟩)
