/-! ScratchMap: what would be; the forecasts' hash; an order is followed -/
/-- what one more spot would bring, laid out in trial and trialMap; 0: refused -/
def f_try (I : Nat → Nat → Int) (J : Nat → Nat → Int64) (c : Int) : Int × (Nat → Nat → Int) × (Nat → Nat → Int64) := if f_can I 1 c = 0 then (0, I, J) else (1, f_build (f_addSpot (f_copy I 1 40) 40 c) J 46 40)
theorem f_can01 {I : Nat → Nat → Int} {k : Nat} {x : Int} : f_can I k x = 0 ∨ f_can I k x = 1 := by unfold f_can; split <;> simp
theorem try_st {I : Nat → Nat → Int} (hv : XV I) (c : Int) : StV (f_addSpot (f_copy I 1 40) 40 c) 40 ∧ LmV (f_addSpot (f_copy I 1 40) 40 c) 46 := by
  obtain ⟨x1, x7, x46, x36, x40, x74, x3, xl, xl2⟩ := hv
  exact ⟨StV_addSpot (StV_copy (by omega) x1 x40), LmV_ne x46 (fun a h1 h2 => by rw [f_addSpot_ne (by omega), f_copy_ne (by omega)])⟩
theorem f_try_ne {I : Nat → Nat → Int} {J : Nat → Nat → Int64} {c : Int} {a : Nat} (hv : XV I) (ha : a < 40 ∨ 74 ≤ a) : (f_try I J c).2.1 a = I a := by
  unfold f_try
  split
  · rfl
  · obtain ⟨s40, s46⟩ := try_st hv c
    show (f_build _ J 46 40).1 a = I a
    rw [f_build_ne (by omega) s46 s40.1 s40.2.2.1 s40.2.2.2.1 (by omega), f_addSpot_ne (by omega), f_copy_ne (by omega)]
theorem f_try_J {I : Nat → Nat → Int} {J : Nat → Nat → Int64} {c : Int} {a : Nat} (hv : XV I) (ha : a < 40 ∨ 74 ≤ a) : (f_try I J c).2.2 a = J a := by
  unfold f_try
  split
  · rfl
  · obtain ⟨s40, s46⟩ := try_st hv c
    exact f_build_J (by omega) s46 s40.1 s40.2.2.1 s40.2.2.2.1 (by omega)
theorem LIN_ne {I I' : Nat → Nat → Int} {k : Nat} (h : LIN I k) (hv : LmV I k) (he : ∀ a, k ≤ a → a < k + 28 → I' a = I a) : LIN I' k := by
  have h6 := hv.2.2.2.2.2.2
  exact LIN_row h (by rw [he k (by omega) (by omega)]) (fun a h1 h2 => he a (by omega) (by omega))
theorem XV_try {I : Nat → Nat → Int} {J : Nat → Nat → Int64} {c : Int} (hv : XV I) : XV (f_try I J c).2.1 := by
  have ne : ∀ a, a < 40 ∨ 74 ≤ a → (f_try I J c).2.1 a = I a := fun a ha => f_try_ne hv ha
  obtain ⟨s40, s46⟩ := try_st hv c
  obtain ⟨x1, x7, x46, x36, x40, x74, x3, xl, xl2⟩ := id hv
  refine ⟨StV_ne x1 (fun a h1 h2 => ne a (by omega)), LmV_ne x7 (fun a h1 h2 => ne a (by omega)), ?_, TxV_ne x36 (fun a h1 h2 => ne a (by omega)), ?_, fun i hi => StV_ne (x74 i hi) (fun a h1 h2 => ne a (by omega)), by rw [ne 0 (by omega)]; exact x3, LIN_ne xl x7 (fun a h1 h2 => ne a (by omega)), ?_⟩
  · unfold f_try
    split
    · exact x46
    · exact f_build_LmV (by omega) s46 s40.1 s40.2.2.1 s40.2.2.2.1
  · unfold f_try
    split
    · exact x40
    · exact StV_ne s40 (fun a h1 h2 => f_build_ne (by omega) s46 s40.1 s40.2.2.1 s40.2.2.2.1 (by omega))
  · unfold f_try
    split
    · exact xl2
    · exact f_build_LIN (by omega) s46 s40.1 s40.2.2.1 s40.2.2.2.1
def hFc : Nat → Nat → Int64 → (Nat → Nat → Int) → (Nat → Nat → Int64) → Int64 × (Nat → Nat → Int) × (Nat → Nat → Int64)
  | 0, _, h, I, J => (h, I, J)
  | m + 1, i, h, I, J => hFc m (i + 1) (hL (fun w => if (f_try I J (q_sv 3 i)).1 = 0 then -1 else f_fc (f_try I J (q_sv 3 i)).2.1 w) 4 0 h) (f_try I J (q_sv 3 i)).2.1 (f_try I J (q_sv 3 i)).2.2
def f_follow (I : Nat → Nat → Int) (o : Nat) : Int × (Nat → Nat → Int) :=
  if ¬ I (36 + 3) o = 0 then (if f_spotAt I 1 (I (36 + 2) o) = -1 then (0, I) else (1, f_removeSpot I 1 (I (36 + 2) o)))
  else if f_can I 1 (I (36 + 2) o) = 0 then (0, I) else (1, f_addSpot I 1 (I (36 + 2) o))
set_option maxHeartbeats 2000000 in
set_option maxRecDepth 100000 in
theorem s_X4_tryFailing {l : Launch} {E : QE} {T : Nat → Nat × Nat} {I : Nat → Nat → Int} {J : Nat → Nat → Int64} {R : Nat → Nat → Option Nat} {n : Nat} (hk : ScB T R n) (hv : XV I) (c : Int) (hc : -2147483648 ≤ c ∧ c < 2147483648) : SpV l E Y_X4_tryFailing [.ref (E.1 + 0), .int (iz c)] (T, I, J, R, n, 0) (.int (iz (f_try I J c).1)) (T, (f_try I J c).2.1, (f_try I J c).2.2, R, n, 0) := by
  obtain ⟨a0, a1, a2, a3, a4, a5, a6, a7, a8, a9, a10, a11, a12, a13, a14, a15, a16⟩ := hk
  have b8 := a8.1
  have b9 := a9.1
  have b10 := a10.1
  have b11 := a11.1
  have b12 := a12.1
  obtain ⟨x1, x7, x46, x36, x40, x74, x3, xl, xl2⟩ := id hv
  have hc01 := f_can01 (I := I) (k := 1) (x := c)
  obtain ⟨s40, s46⟩ := try_st hv c
  have c40 := StV_copy (by omega : 1 + 6 ≤ 40 ∨ 40 + 6 ≤ 1) x1 x40
  refine Sp.of [some (.ref (E.1 + 0)), some (.int (iz c))] (by decide +kernel) (Nat.le_of_ble_eq_true rfl) (fun _ h => h) ?_
  refine g_aload0 (Y := Y_X4_tryFailing) (pc' := 1) dX4_tryFailing_0 rfl ?_
  refine g_getR (Y := Y_X4_tryFailing) (pc' := 4) dX4_tryFailing_1 rfl fl_X4_10 rfl (by assumption) (by omega) (by assumption) ?_
  refine g_iload1 (Y := Y_X4_tryFailing) (pc' := 5) dX4_tryFailing_4 rfl ?_
  refine g_callVv (Y := Y_X4_tryFailing) (c := 3) (s_X3_canAddSpot a8 x1.1 (StV_s x1) c hc) (pc' := 8) dX4_tryFailing_5 rfl cv_X4_101 rfl (by assumption) (by show _ < n; omega) ⟨by decide, _, rfl, rfl⟩ rfl rfl rfl rfl ?_
  refine g_if_ne (Y := Y_X4_tryFailing) (t := 13) (pc' := 11) dX4_tryFailing_8 (by decide) rfl ⟨by omega, by omega⟩ (fun h8 => ?_) (fun h8 => ?_)
  · have e : f_try I J c = (1, f_build (f_addSpot (f_copy I 1 40) 40 c) J 46 40) := if_neg h8
    rw [e]
    refine g_aload0 (Y := Y_X4_tryFailing) (pc' := 14) dX4_tryFailing_13 rfl ?_
    refine g_getR (Y := Y_X4_tryFailing) (pc' := 17) dX4_tryFailing_14 rfl fl_X4_38 rfl (by assumption) (by omega) (by assumption) ?_
    refine g_aload0 (Y := Y_X4_tryFailing) (pc' := 18) dX4_tryFailing_17 rfl ?_
    refine g_getR (Y := Y_X4_tryFailing) (pc' := 21) dX4_tryFailing_18 rfl fl_X4_10 rfl (by assumption) (by omega) (by assumption) ?_
    refine g_callVn (Y := Y_X4_tryFailing) (c := 3) (s_X3_copyFrom a11 a8) (pc' := 24) dX4_tryFailing_21 rfl cv_X4_183 rfl (by assumption) (by show _ < n; omega) ⟨by decide, _, rfl, rfl⟩ rfl rfl rfl rfl ?_
    refine g_aload0 (Y := Y_X4_tryFailing) (pc' := 25) dX4_tryFailing_24 rfl ?_
    refine g_getR (Y := Y_X4_tryFailing) (pc' := 28) dX4_tryFailing_25 rfl fl_X4_38 rfl (by assumption) (by omega) (by assumption) ?_
    refine g_iload1 (Y := Y_X4_tryFailing) (pc' := 29) dX4_tryFailing_28 rfl ?_
    refine g_callVn (Y := Y_X4_tryFailing) (c := 3) (s_X3_addSpot a11 c40.1 (StV_s c40) (StV_p c40) (StV_o c40) c hc) (pc' := 32) dX4_tryFailing_29 rfl cv_X4_106 rfl (by assumption) (by show _ < n; omega) ⟨by decide, _, rfl, rfl⟩ rfl rfl rfl rfl ?_
    refine g_aload0 (Y := Y_X4_tryFailing) (pc' := 33) dX4_tryFailing_32 rfl ?_
    refine g_getR (Y := Y_X4_tryFailing) (pc' := 36) dX4_tryFailing_33 rfl fl_X4_41 rfl (by assumption) (by omega) (by assumption) ?_
    refine g_aload0 (Y := Y_X4_tryFailing) (pc' := 37) dX4_tryFailing_36 rfl ?_
    refine g_getR (Y := Y_X4_tryFailing) (pc' := 40) dX4_tryFailing_37 rfl fl_X4_38 rfl (by assumption) (by omega) (by assumption) ?_
    refine g_callVn (Y := Y_X4_tryFailing) (c := 2) (s_X2_build a12 a11 (by omega) s46 s40.1 (StV_s s40) s40.2.2.1 s40.2.2.2.1) (pc' := 43) dX4_tryFailing_40 rfl cv_X4_109 rfl (by assumption) (by show _ < n; omega) ⟨by decide, _, rfl, rfl⟩ rfl rfl rfl rfl ?_
    refine g_iconst (Y := Y_X4_tryFailing) (pc' := 44) dX4_tryFailing_43 rfl ?_
    exact g_zret (Y := Y_X4_tryFailing) dX4_tryFailing_44 rfl (by decide) (Nat.zero_le _) (Nat.zero_le _) (⟨rfl, rfl⟩)
  · have e : f_try I J c = (0, I, J) := if_pos h8
    rw [e]
    refine g_iconst (Y := Y_X4_tryFailing) (pc' := 12) dX4_tryFailing_11 rfl ?_
    exact g_zret (Y := Y_X4_tryFailing) dX4_tryFailing_12 rfl (by decide) (Nat.zero_le _) (Nat.zero_le _) (⟨rfl, rfl⟩)
set_option maxHeartbeats 2000000 in
set_option maxRecDepth 100000 in
theorem s_X4_hfc_lp2 {l : Launch} {E : QE} {T : Nat → Nat × Nat} {I : Nat → Nat → Int} {J : Nat → Nat → Int64} {R : Nat → Nat → Option Nat} {n : Nat} (hk : ScB T R n) (hv : XV I) {K : Option Value → QW → Prop} {h0 : Int64} {x5 : Option Value} {r : Int} (hr : r = 0 ∨ r = 1) : ∀ (m w : Nat) (h : Int64), w + m = 4 → (∀ L7 : Int, Go l E Y_X4_hashForecasts 0 0 64 [some (.ref (E.1 + 0)), some (.long h0), none, some (.long (hL (fun w => if r = 0 then -1 else f_fc I w) m w h)), none, x5, some (.int (iz r)), some (.int (iz L7))] [] (T, I, J, R, n, 0) K) → Go l E Y_X4_hashForecasts 0 0 29 [some (.ref (E.1 + 0)), some (.long h0), none, some (.long h), none, x5, some (.int (iz r)), some (.int (iz (w : Int)))] [] (T, I, J, R, n, 0) K := by
  have hk0 := hk
  obtain ⟨a0, a1, a2, a3, a4, a5, a6, a7, a8, a9, a10, a11, a12, a13, a14, a15, a16⟩ := hk
  have b8 := a8.1
  have b9 := a9.1
  have b10 := a10.1
  have b11 := a11.1
  have b12 := a12.1
  intro m
  induction m with
  | zero =>
    intro w h hm hend
    refine g_iload7 (Y := Y_X4_hashForecasts) (pc' := 31) dX4_hashForecasts_29 rfl ?_
    refine g_iconst (Y := Y_X4_hashForecasts) (pc' := 32) dX4_hashForecasts_31 rfl ?_
    refine g_icmp_ge (Y := Y_X4_hashForecasts) (t := 64) (pc' := 35) dX4_hashForecasts_32 (by decide) rfl ⟨by omega, by omega⟩ ⟨by omega, by omega⟩ (fun h32 => ?_) (fun h32 => ?_)
    · exact hend _
    · exfalso; omega
  | succ m ih =>
    intro w h hm hend
    have e : hL (fun w => if r = 0 then -1 else f_fc I w) (m + 1) w h = hL (fun w => if r = 0 then -1 else f_fc I w) m (w + 1) (hx h ((fun w => if r = 0 then -1 else f_fc I w) w)) := rfl
    rw [e] at hend
    refine g_iload7 (Y := Y_X4_hashForecasts) (pc' := 31) dX4_hashForecasts_29 rfl ?_
    refine g_iconst (Y := Y_X4_hashForecasts) (pc' := 32) dX4_hashForecasts_31 rfl ?_
    refine g_icmp_ge (Y := Y_X4_hashForecasts) (t := 64) (pc' := 35) dX4_hashForecasts_32 (by decide) rfl ⟨by omega, by omega⟩ ⟨by omega, by omega⟩ (fun h32 => ?_) (fun h32 => ?_)
    · exfalso; omega
    · refine g_lload3 (Y := Y_X4_hashForecasts) (pc' := 36) dX4_hashForecasts_35 rfl ?_
      refine g_iload6 (Y := Y_X4_hashForecasts) (pc' := 38) dX4_hashForecasts_36 rfl ?_
      refine g_if_eq (Y := Y_X4_hashForecasts) (t := 51) (pc' := 41) dX4_hashForecasts_38 (by decide) rfl ⟨by omega, by omega⟩ (fun h38 => ?_) (fun h38 => ?_)
      · have e2 : (fun w => if r = 0 then -1 else f_fc I w) w = -1 := if_pos h38
        rw [e2] at hend
        refine g_ldc2l (Y := Y_X4_hashForecasts) (v := (-1 : Int64)) (pc' := 54) dX4_hashForecasts_51 rfl (q_w 494 (by decide +kernel) rfl) ?_
        refine g_callSv (Y := Y_X4_hashForecasts) (s_X4_mix _ _) (pc' := 57) dX4_hashForecasts_54 rfl cv_X4_241 rfl rfl rfl rfl rfl ?_
        refine g_lstore3 (Y := Y_X4_hashForecasts) (pc' := 58) dX4_hashForecasts_57 rfl (Nat.le_of_ble_eq_true rfl) rfl ?_
        refine g_iinc7 (Y := Y_X4_hashForecasts) (pc' := 61) dX4_hashForecasts_58 rfl (Nat.le_of_ble_eq_true rfl) rfl ?_
        refine g_goto (Y := Y_X4_hashForecasts) (t := 29) dX4_hashForecasts_61 (by decide) ?_
        exact ih (w + 1) _ (by omega) hend
      · have e2 : (fun w => if r = 0 then -1 else f_fc I w) w = f_fc I w := if_neg h38
        rw [e2] at hend
        refine g_aload0 (Y := Y_X4_hashForecasts) (pc' := 42) dX4_hashForecasts_41 rfl ?_
        refine g_iload7 (Y := Y_X4_hashForecasts) (pc' := 44) dX4_hashForecasts_42 rfl ?_
        refine g_callVv (Y := Y_X4_hashForecasts) (c := 4) (s_X4_forecast hk0 hv w (by omega)) (pc' := 47) dX4_hashForecasts_44 rfl cv_X4_228 rfl (by assumption) (by show _ < n; omega) ⟨by decide, _, rfl, rfl⟩ rfl rfl rfl rfl ?_
        refine g_i2l (Y := Y_X4_hashForecasts) (pc' := 48) dX4_hashForecasts_47 rfl ?_
        refine g_goto (Y := Y_X4_hashForecasts) (t := 54) dX4_hashForecasts_48 (by decide) ?_
        refine g_callSv (Y := Y_X4_hashForecasts) (s_X4_mix _ _) (pc' := 57) dX4_hashForecasts_54 rfl cv_X4_241 rfl rfl rfl rfl rfl ?_
        refine g_lstore3 (Y := Y_X4_hashForecasts) (pc' := 58) dX4_hashForecasts_57 rfl (Nat.le_of_ble_eq_true rfl) rfl ?_
        refine g_iinc7 (Y := Y_X4_hashForecasts) (pc' := 61) dX4_hashForecasts_58 rfl (Nat.le_of_ble_eq_true rfl) rfl ?_
        refine g_goto (Y := Y_X4_hashForecasts) (t := 29) dX4_hashForecasts_61 (by decide) ?_
        exact ih (w + 1) _ (by omega) hend
set_option maxHeartbeats 2000000 in
set_option maxRecDepth 100000 in
theorem s_X4_hfc_lp1 {l : Launch} {E : QE} {T : Nat → Nat × Nat} {R : Nat → Nat → Option Nat} {n : Nat} (hk : ScB T R n) {h0 : Int64} : ∀ (m i : Nat) (h : Int64) (I : Nat → Nat → Int) (J : Nat → Nat → Int64) (x6 x7 : Option Value), i + m = 3 → XV I → Go l E Y_X4_hashForecasts 0 0 5 [some (.ref (E.1 + 0)), some (.long h0), none, some (.long h), none, some (.int (iz (i : Int))), x6, x7] [] (T, I, J, R, n, 0) (KV (.long (hFc m i h I J).1) (T, (hFc m i h I J).2.1, (hFc m i h I J).2.2, R, n, 0)) := by
  have hk0 := hk
  obtain ⟨a0, a1, a2, a3, a4, a5, a6, a7, a8, a9, a10, a11, a12, a13, a14, a15, a16⟩ := hk
  have b8 := a8.1
  have b9 := a9.1
  have b10 := a10.1
  have b11 := a11.1
  have b12 := a12.1
  intro m
  induction m with
  | zero =>
    intro i h I J x6 x7 hm hv
    refine g_iload5 (Y := Y_X4_hashForecasts) (pc' := 7) dX4_hashForecasts_5 rfl ?_
    refine g_gets (Y := Y_X4_hashForecasts) (i := 3) (pc' := 10) dX4_hashForecasts_7 rfl (by decide) (q_w 391 (by decide +kernel) rfl) ?_
    refine g_slen (Y := Y_X4_hashForecasts) (pc' := 11) dX4_hashForecasts_10 rfl (by decide) ?_
    refine g_icmp_ge (Y := Y_X4_hashForecasts) (t := 70) (pc' := 14) dX4_hashForecasts_11 (by decide) rfl ⟨by omega, by omega⟩ ⟨by omega, by omega⟩ (fun h11 => ?_) (fun h11 => ?_)
    · refine g_lload3 (Y := Y_X4_hashForecasts) (pc' := 71) dX4_hashForecasts_70 rfl ?_
      exact g_lret (Y := Y_X4_hashForecasts) dX4_hashForecasts_71 rfl (Nat.zero_le _) (Nat.zero_le _) (⟨rfl, rfl⟩)
    · exfalso; omega
  | succ m ih =>
    intro i h I J x6 x7 hm hv
    have hq : -2147483648 ≤ q_sv 3 i ∧ q_sv 3 i < 2147483648 := q_sv_rg 3 ⟨i, by omega⟩
    have hxt := XV_try (J := J) (c := q_sv 3 i) hv
    have hr01 : (f_try I J (q_sv 3 i)).1 = 0 ∨ (f_try I J (q_sv 3 i)).1 = 1 := by unfold f_try; split <;> simp
    refine g_iload5 (Y := Y_X4_hashForecasts) (pc' := 7) dX4_hashForecasts_5 rfl ?_
    refine g_gets (Y := Y_X4_hashForecasts) (i := 3) (pc' := 10) dX4_hashForecasts_7 rfl (by decide) (q_w 391 (by decide +kernel) rfl) ?_
    refine g_slen (Y := Y_X4_hashForecasts) (pc' := 11) dX4_hashForecasts_10 rfl (by decide) ?_
    refine g_icmp_ge (Y := Y_X4_hashForecasts) (t := 70) (pc' := 14) dX4_hashForecasts_11 (by decide) rfl ⟨by omega, by omega⟩ ⟨by omega, by omega⟩ (fun h11 => ?_) (fun h11 => ?_)
    · exfalso; omega
    · refine g_aload0 (Y := Y_X4_hashForecasts) (pc' := 15) dX4_hashForecasts_14 rfl ?_
      refine g_gets (Y := Y_X4_hashForecasts) (i := 3) (pc' := 18) dX4_hashForecasts_15 rfl (by decide) (q_w 391 (by decide +kernel) rfl) ?_
      refine g_iload5 (Y := Y_X4_hashForecasts) (pc' := 20) dX4_hashForecasts_18 rfl ?_
      refine g_sald (Y := Y_X4_hashForecasts) (pc' := 21) dX4_hashForecasts_20 rfl (by decide) ⟨by omega, by omega⟩ ?_
      refine g_callVv (Y := Y_X4_hashForecasts) (c := 4) (s_X4_tryFailing hk0 hv (q_sv 3 i) hq) (pc' := 24) dX4_hashForecasts_21 rfl cv_X4_225 rfl (by assumption) (by show _ < n; omega) ⟨by decide, _, rfl, rfl⟩ rfl rfl rfl rfl ?_
      refine g_istore6 (Y := Y_X4_hashForecasts) (pc' := 26) dX4_hashForecasts_24 rfl (Nat.le_of_ble_eq_true rfl) rfl ?_
      refine g_iconst (Y := Y_X4_hashForecasts) (pc' := 27) dX4_hashForecasts_26 rfl ?_
      refine g_istore7 (Y := Y_X4_hashForecasts) (pc' := 29) dX4_hashForecasts_27 rfl (Nat.le_of_ble_eq_true rfl) rfl ?_
      refine s_X4_hfc_lp2 hk0 hxt hr01 4 0 h rfl (fun L7 => ?_)
      refine g_iinc5 (Y := Y_X4_hashForecasts) (pc' := 67) dX4_hashForecasts_64 rfl (Nat.le_of_ble_eq_true rfl) rfl ?_
      refine g_goto (Y := Y_X4_hashForecasts) (t := 5) dX4_hashForecasts_67 (by decide) ?_
      exact ih (i + 1) _ _ _ _ _ (by omega) hxt
set_option maxHeartbeats 2000000 in
set_option maxRecDepth 100000 in
theorem s_X4_hashForecasts {l : Launch} {E : QE} {T : Nat → Nat × Nat} {I : Nat → Nat → Int} {J : Nat → Nat → Int64} {R : Nat → Nat → Option Nat} {n : Nat} (hk : ScB T R n) (hv : XV I) (h : Int64) : SpV l E Y_X4_hashForecasts [.ref (E.1 + 0), .long h] (T, I, J, R, n, 0) (.long (hFc 3 0 h I J).1) (T, (hFc 3 0 h I J).2.1, (hFc 3 0 h I J).2.2, R, n, 0) := by
  have hk0 := hk
  obtain ⟨a0, a1, a2, a3, a4, a5, a6, a7, a8, a9, a10, a11, a12, a13, a14, a15, a16⟩ := hk
  have b8 := a8.1
  have b9 := a9.1
  have b10 := a10.1
  have b11 := a11.1
  have b12 := a12.1
  refine Sp.of [some (.ref (E.1 + 0)), some (.long h), none, none, none, none, none, none] (by decide +kernel) (Nat.le_of_ble_eq_true rfl) (fun _ h => h) ?_
  refine g_lload1 (Y := Y_X4_hashForecasts) (pc' := 1) dX4_hashForecasts_0 rfl ?_
  refine g_lstore3 (Y := Y_X4_hashForecasts) (pc' := 2) dX4_hashForecasts_1 rfl (Nat.le_of_ble_eq_true rfl) rfl ?_
  refine g_iconst (Y := Y_X4_hashForecasts) (pc' := 3) dX4_hashForecasts_2 rfl ?_
  refine g_istore5 (Y := Y_X4_hashForecasts) (pc' := 5) dX4_hashForecasts_3 rfl (Nat.le_of_ble_eq_true rfl) rfl ?_
  exact s_X4_hfc_lp1 hk0 3 0 h I J _ _ rfl hv
set_option maxHeartbeats 2000000 in
set_option maxRecDepth 100000 in
theorem s_X4_follow {l : Launch} {E : QE} {T : Nat → Nat × Nat} {I : Nat → Nat → Int} {J : Nat → Nat → Int64} {R : Nat → Nat → Option Nat} {n z : Nat} (hk : ScB T R n) (hv : XV I) (o : Nat) (ho : (o : Int) < I 36 4) : SpV l E Y_X4_follow [.ref (E.1 + 0), .int (iz (o : Int))] (T, I, J, R, n, z) (.int (iz (f_follow I o).1)) (T, (f_follow I o).2, J, R, n, z) := by
  obtain ⟨a0, a1, a2, a3, a4, a5, a6, a7, a8, a9, a10, a11, a12, a13, a14, a15, a16⟩ := hk
  have b8 := a8.1
  have b9 := a9.1
  have b10 := a10.1
  have b11 := a11.1
  have b12 := a12.1
  obtain ⟨x1, x7, x46, x36, x40, x74, x3, xl, xl2⟩ := id hv
  have x364 := x36.2.1
  have hco := x36.2.2.2.2.2.2.2.2 o
  have hca := s_X0_cellOf (l := l) (E := E) (J := J) (z := z) a10 x36 (o : Int) ⟨by omega, by omega⟩
  rw [if_pos (by omega)] at hca
  have has := s_X0_asksToHeal (l := l) (E := E) (J := J) (z := z) a10 x36 (o : Int) ⟨by omega, by omega⟩
  have hc01 := f_can01 (I := I) (k := 1) (x := I (36 + 2) o)
  have hsp := spotAt_rg I 1 (I (36 + 2) o) x1.1
  have hrc : -2147483648 ≤ I (36 + 2) o ∧ I (36 + 2) o < 2147483648 := by omega
  have x15 := x1.1
  refine Sp.of [some (.ref (E.1 + 0)), some (.int (iz (o : Int))), none] (by decide +kernel) (Nat.le_of_ble_eq_true rfl) (fun _ h => h) ?_
  refine g_aload0 (Y := Y_X4_follow) (pc' := 1) dX4_follow_0 rfl ?_
  refine g_getR (Y := Y_X4_follow) (pc' := 4) dX4_follow_1 rfl fl_X4_34 rfl (by assumption) (by omega) (by assumption) ?_
  refine g_iload1 (Y := Y_X4_follow) (pc' := 5) dX4_follow_4 rfl ?_
  refine g_callVv (Y := Y_X4_follow) (c := 0) (hca) (pc' := 8) dX4_follow_5 rfl cv_X4_295 rfl (by assumption) (by show _ < n; omega) ⟨by decide, _, rfl, rfl⟩ rfl rfl rfl rfl ?_
  refine g_istore2 (Y := Y_X4_follow) (pc' := 9) dX4_follow_8 rfl (Nat.le_of_ble_eq_true rfl) rfl ?_
  refine g_aload0 (Y := Y_X4_follow) (pc' := 10) dX4_follow_9 rfl ?_
  refine g_getR (Y := Y_X4_follow) (pc' := 13) dX4_follow_10 rfl fl_X4_34 rfl (by assumption) (by omega) (by assumption) ?_
  refine g_iload1 (Y := Y_X4_follow) (pc' := 14) dX4_follow_13 rfl ?_
  refine g_callVv (Y := Y_X4_follow) (c := 0) (has) (pc' := 17) dX4_follow_14 rfl cv_X4_298 rfl (by assumption) (by show _ < n; omega) ⟨by decide, _, rfl, rfl⟩ rfl rfl rfl rfl ?_
  refine g_if_eq (Y := Y_X4_follow) (t := 44) (pc' := 20) dX4_follow_17 (by decide) rfl ⟨by omega, by omega⟩ (fun h17 => ?_) (fun h17 => ?_)
  · have hh : ¬ ¬ I (36 + 3) o = 0 := by intro q; rw [if_pos ⟨by omega, q⟩] at h17; exact absurd h17 (by decide)
    refine g_aload0 (Y := Y_X4_follow) (pc' := 45) dX4_follow_44 rfl ?_
    refine g_getR (Y := Y_X4_follow) (pc' := 48) dX4_follow_45 rfl fl_X4_10 rfl (by assumption) (by omega) (by assumption) ?_
    refine g_iload2 (Y := Y_X4_follow) (pc' := 49) dX4_follow_48 rfl ?_
    refine g_callVv (Y := Y_X4_follow) (c := 3) (s_X3_canAddSpot a8 x1.1 (StV_s x1) _ hrc) (pc' := 52) dX4_follow_49 rfl cv_X4_101 rfl (by assumption) (by show _ < n; omega) ⟨by decide, _, rfl, rfl⟩ rfl rfl rfl rfl ?_
    refine g_if_ne (Y := Y_X4_follow) (t := 57) (pc' := 55) dX4_follow_52 (by decide) rfl ⟨by omega, by omega⟩ (fun h52 => ?_) (fun h52 => ?_)
    · have e : f_follow I o = (1, f_addSpot I 1 (I (36 + 2) o)) := (if_neg hh).trans (if_neg h52)
      rw [e]
      refine g_aload0 (Y := Y_X4_follow) (pc' := 58) dX4_follow_57 rfl ?_
      refine g_getR (Y := Y_X4_follow) (pc' := 61) dX4_follow_58 rfl fl_X4_10 rfl (by assumption) (by omega) (by assumption) ?_
      refine g_iload2 (Y := Y_X4_follow) (pc' := 62) dX4_follow_61 rfl ?_
      refine g_callVn (Y := Y_X4_follow) (c := 3) (s_X3_addSpot a8 x1.1 (StV_s x1) (StV_p x1) (StV_o x1) _ hrc) (pc' := 65) dX4_follow_62 rfl cv_X4_106 rfl (by assumption) (by show _ < n; omega) ⟨by decide, _, rfl, rfl⟩ rfl rfl rfl rfl ?_
      refine g_iconst (Y := Y_X4_follow) (pc' := 66) dX4_follow_65 rfl ?_
      exact g_zret (Y := Y_X4_follow) dX4_follow_66 rfl (by decide) (Nat.zero_le _) (Nat.zero_le _) (⟨rfl, rfl⟩)
    · have e : f_follow I o = (0, I) := (if_neg hh).trans (if_pos h52)
      rw [e]
      refine g_iconst (Y := Y_X4_follow) (pc' := 56) dX4_follow_55 rfl ?_
      exact g_zret (Y := Y_X4_follow) dX4_follow_56 rfl (by decide) (Nat.zero_le _) (Nat.zero_le _) (⟨rfl, rfl⟩)
  · have hh : ¬ I (36 + 3) o = 0 := by intro q; apply h17; rw [if_neg]; intro q2; exact q2.2 q
    refine g_aload0 (Y := Y_X4_follow) (pc' := 21) dX4_follow_20 rfl ?_
    refine g_getR (Y := Y_X4_follow) (pc' := 24) dX4_follow_21 rfl fl_X4_10 rfl (by assumption) (by omega) (by assumption) ?_
    refine g_iload2 (Y := Y_X4_follow) (pc' := 25) dX4_follow_24 rfl ?_
    refine g_callVv (Y := Y_X4_follow) (c := 3) (s_X3_spotAt a8 x1.1 (StV_s x1) _ hrc) (pc' := 28) dX4_follow_25 rfl cv_X4_116 rfl (by assumption) (by show _ < n; omega) ⟨by decide, _, rfl, rfl⟩ rfl rfl rfl rfl ?_
    refine g_iconst (Y := Y_X4_follow) (pc' := 29) dX4_follow_28 rfl ?_
    refine g_icmp_ne (Y := Y_X4_follow) (t := 34) (pc' := 32) dX4_follow_29 (by decide) rfl ⟨by omega, by omega⟩ ⟨by omega, by omega⟩ (fun h29 => ?_) (fun h29 => ?_)
    · have e : f_follow I o = (1, f_removeSpot I 1 (I (36 + 2) o)) := (if_pos hh).trans (if_neg h29)
      rw [e]
      refine g_aload0 (Y := Y_X4_follow) (pc' := 35) dX4_follow_34 rfl ?_
      refine g_getR (Y := Y_X4_follow) (pc' := 38) dX4_follow_35 rfl fl_X4_10 rfl (by assumption) (by omega) (by assumption) ?_
      refine g_iload2 (Y := Y_X4_follow) (pc' := 39) dX4_follow_38 rfl ?_
      refine g_callVn (Y := Y_X4_follow) (c := 3) (s_X3_removeSpot a8 x1.1 (StV_s x1) _ hrc) (pc' := 42) dX4_follow_39 rfl cv_X4_121 rfl (by assumption) (by show _ < n; omega) ⟨by decide, _, rfl, rfl⟩ rfl rfl rfl rfl ?_
      refine g_iconst (Y := Y_X4_follow) (pc' := 43) dX4_follow_42 rfl ?_
      exact g_zret (Y := Y_X4_follow) dX4_follow_43 rfl (by decide) (Nat.zero_le _) (Nat.zero_le _) (⟨rfl, rfl⟩)
    · have e : f_follow I o = (0, I) := (if_pos hh).trans (if_pos h29)
      rw [e]
      refine g_iconst (Y := Y_X4_follow) (pc' := 33) dX4_follow_32 rfl ?_
      exact g_zret (Y := Y_X4_follow) dX4_follow_33 rfl (by decide) (Nat.zero_le _) (Nat.zero_le _) (⟨rfl, rfl⟩)
