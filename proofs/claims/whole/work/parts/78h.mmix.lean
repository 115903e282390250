/-! the reference: what it hashes of the map -/
set_option maxHeartbeats 2000000 in
set_option maxRecDepth 100000 in
theorem s_X5_mixMap {l : Launch} {E : QE} {T : Nat → Nat × Nat} {J : Nat → Nat → Int64} {R : Nat → Nat → Option Nat} {n z : Nat} (hk : MdB T R n) {I : Nat → Nat → Int} (h : Int64) (hz9 : ZV I) (hb9 : HB I) : SpN l E Y_X5_mixMap [.ref (E.1 + 110)] (T, I, jh J (h), R, n, z) (T, (m_lay I), jh J (m_mm I h), R, n, z) := by
  have hk0 := hk
  obtain ⟨t0, t1, t2, t3, t4, t5, t6, t7, t8, t9, t10, t11, t12, t13, r1, r2, r4, r5, r8, r9, r10, r11, r12, r13, r14, r15, r16, hn⟩ := hk
  have hr9 := lay_HR hz9 hb9
  have hl9 := lay_LV hz9 hb9
  have hz8 := ZV_lay hz9
  unfold m_mm
  have e1 : hL (fun q => I 111 (6 + q)) (I 111 3).toNat 0 h = m_mm1 I h := rfl
  refine Sp.of [some (.ref (E.1 + 110)), none, none] (by decide +kernel) (Nat.le_of_ble_eq_true rfl) (fun _ h => h) ?_
  refine g_iconst (Y := Y_X5_mixMap) (pc' := 1) dX5_mixMap_0 rfl ?_
  refine g_istore1 (Y := Y_X5_mixMap) (pc' := 2) dX5_mixMap_1 rfl (Nat.le_of_ble_eq_true rfl) rfl ?_
  refine s_X5_mm_lp1 hk0 hz9 (I 111 3).toNat 0 h (by omega) (fun L1 => ?_)
  rw [e1]
  have hly : SpN l E Y_X5_lay [.ref (E.1 + 110)] (T, I, jh J (m_mm1 I h), R, n, z) (T, m_lay I, jh J (m_mm1 I h), R, n, z) := s_X5_lay hk0 hz9
  generalize m_lay I = I2 at hly hr9 hl9 hz8 ⊢
  generalize m_mm1 I h = h2 at hly ⊢
  unfold m_mm2
  refine g_aload0 (Y := Y_X5_mixMap) (pc' := 29) dX5_mixMap_28 rfl ?_
  refine g_callVn (Y := Y_X5_mixMap) (c := 5) (hly) (pc' := 32) dX5_mixMap_29 rfl cv_X5_130 rfl (by first | exact t0 | exact t1 | exact r1 | exact t2 | exact t3 | exact t4 | exact t5 | exact t6 | exact t7 | exact t8 | exact t9 | exact t10 | exact t11 | exact t12 | exact t13 | exact r2 | exact r4 | exact r5 | exact r8 | exact r9 | exact r10 | exact r11 | exact r12 | exact r13 | exact r14 | exact r15 | exact r16) (by show _ < n; omega) ⟨by decide, _, rfl, rfl⟩ rfl rfl rfl rfl ?_
  refine g_iconst (Y := Y_X5_mixMap) (pc' := 33) dX5_mixMap_32 rfl ?_
  refine g_istore1 (Y := Y_X5_mixMap) (pc' := 34) dX5_mixMap_33 rfl (Nat.le_of_ble_eq_true rfl) rfl ?_
  refine s_X5_mm_lp2 hk0 hz8 hr9 hl9 (I2 110 7).toNat 0 h2 _ (by omega) (fun L1 x2 => ?_)
  refine g_iconst (Y := Y_X5_mixMap) (pc' := 73) dX5_mixMap_72 rfl ?_
  refine g_istore1 (Y := Y_X5_mixMap) (pc' := 74) dX5_mixMap_73 rfl (Nat.le_of_ble_eq_true rfl) rfl ?_
  refine s_X5_mm_lp4 hk0 hz8 hr9 576 0 _ rfl (fun L1 => ?_)
  refine g_iconst (Y := Y_X5_mixMap) (pc' := 113) dX5_mixMap_112 rfl ?_
  refine g_istore1 (Y := Y_X5_mixMap) (pc' := 114) dX5_mixMap_113 rfl (Nat.le_of_ble_eq_true rfl) rfl ?_
  exact s_X5_mm_lp5 hk0 hz8 480 0 _ rfl
