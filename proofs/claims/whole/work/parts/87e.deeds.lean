/-! deeds answer alike -/
theorem TV_of {M W : Nat → Nat → Int} (hv : TV M) (h6 : W 110 6 = M 110 6) (h114 : W 114 = M 114) : TV W := by
  unfold TV
  rw [h6, h114]
  exact hv
theorem TRel_of {I W : Nat → Nat → Int} (ht : TRel I) (h36 : W 36 3 = I 36 3) (h37 : W 37 = I 37) (h6 : W 110 6 = I 110 6) (h114 : W 114 = I 114) : TRel W := by
  unfold TRel
  rw [h36, h37, h6, h114]
  exact ht
theorem write_low {M : Nat → Nat → Int} (hz : ZV M) {b : Nat} (hb : b < 480) {v : Int} (hg : m_goal M b ≠ -1) {j : Nat} (hj : j < 18) (h5 : j ≠ 5) : m_write M b v 111 j = M 111 j := by
  have gr := m_goal_rg hz hb
  unfold m_write
  rw [u2k, if_neg (by omega), bring_at hz hb (by omega), if_neg (by omega), if_neg (by omega), if_neg (by omega), if_neg (by omega)]
theorem bring_low {M : Nat → Nat → Int} (hz : ZV M) {b : Nat} (hb : b < 480) {c : Int} (hc : 0 ≤ c ∧ c < 576) {j : Nat} (hj : j < 18) (h5 : j ≠ 5) : m_bring M b c 111 j = M 111 j := by
  rw [bring_at hz hb hc, if_neg (by omega), if_neg (by omega), if_neg (by omega), if_neg (by omega)]
theorem w_write_ok {T : Nat → Nat × Nat} {I : Nat → Nat → Int} {J : Nat → Nat → Int64} {R : Nat → Nat → Option Nat} (h : QR T I R) {b : Nat} (hb : b < 480) {v : Int} (hv : 0 ≤ v ∧ v ≤ 999) (hg : f_cfw I 1 7 b ≠ -1) : RLx T 0 (w_write I R b v) (fun I9 => y_write I9 b v) (u2 J 124 0 (iz (f_cfw I 1 7 b)).toInt64) (f_saveR I R) := by
  have hx := h.2.2.2.1
  have hk := h.1
  have ht := h.2.2.2.2.2.2.2.1
  have hmv := h.2.2.2.2.1
  have hmr := h.2.2.2.2.2.2.2.2.2.2
  have ew : w_write I R b v = f_place (f_save I R) 1 b (f_cfw I 1 7 b) v := by
    unfold w_write
    rw [Int.toNat_natCast]
  have gr0 := f_cfw_rg (I := I) (ks := 1) (km := 7) hb
  rw [ew]
  have n1 : ∀ a, a < 1 ∨ 7 ≤ a → f_place (f_save I R) 1 b (f_cfw I 1 7 b) v a = f_save I R a := fun a ha => f_place_ne (by omega)
  have hx1 : XV (f_place (f_save I R) 1 b (f_cfw I 1 7 b) v) := XV_place (XV_save hk hx) (by omega) (by omega) (by omega)
  generalize hI1 : f_place (f_save I R) 1 b (f_cfw I 1 7 b) v = I1 at n1 hx1 ⊢
  have n2 : ∀ a, 7 ≤ a ∧ a < 74 ∨ 110 ≤ a → I1 a = I a := fun a ha => by rw [n1 a (by omega), fsave_ne hk hx (by omega)]
  have hm1 : MV I1 := MV_ne hmv (fun a ha => n2 a (by omega))
  have e0 : ∀ j, m_thr I1 0 111 j = I 111 j := fun j => by rw [thr_111 (by decide), n2 111 (by decide)]
  have hb1 : HB (m_thr I1 0) := thr_HB hm1.2.1
  obtain ⟨a1, a2, a3, a4⟩ := QR_map h hb1 (fun j _ => e0 j)
  have hb0 : HB (m_lay (m_thr I1 0)) := lay_HB (thr_ZV hm1.1) hb1
  have eg := cfw_eq a2 a1 a4 hb
  have l0 : ∀ a, a < 110 ∨ a = 111 ∨ a = 112 ∨ a = 114 → m_lay (m_thr I1 0) a = I1 a := fun a ha => by rw [lay_ne (by omega), thr_111 (by omega)]
  have l110 : ∀ j, j ≠ 0 → j ≠ 7 → m_lay (m_thr I1 0) 110 j = I1 110 j := fun j h1 h2 => by rw [lay_110 h2, thr_110 h1]
  have ey : y_write I1 b v = q_w3 (m_lay (m_thr I1 0)) b v := by
    unfold y_write
    rw [if_pos (by omega), if_pos (by omega)]
  generalize m_lay (m_thr I1 0) = M0 at a1 a2 a3 a4 hb0 eg l0 l110 ey
  have gr := m_goal_rg a4 hb
  have ey2 : y_write I1 b v = (m_write (m_sav1 M0) b v 111 (498 + b), m_write (m_sav1 M0) b v) := by
    rw [ey]
    unfold q_w3
    rw [Int.toNat_natCast, if_neg (by omega)]
  obtain ⟨s1, s2, s3, s4⟩ := sav_rows (M := M0)
  have eg1 : m_goal (m_sav1 M0) b = m_goal M0 b := goal_ne (s1 111 (by decide) (by decide)) (s1 121 (by decide) (by decide)) (s1 122 (by decide) (by decide))
  have hzs : ZV (m_sav1 M0) := sav1_ZV a4
  have e111 : m_sav1 M0 111 = M0 111 := s1 111 (by decide) (by decide)
  have zI : M0 111 = I 111 := by rw [l0 111 (by decide), n2 111 (by decide)]
  obtain ⟨w1, w2⟩ := write_rel (I := f_save I R) (M := m_sav1 M0) (ks := 1) (v := v) (by
    rw [e111]
    exact SRel_of (fun a h1 h2 => fsave_ne hk hx (by omega)) (fun _ _ => rfl) a4.1.2 a2) hzs (by rw [e111]; exact a3) hb (by omega) (by omega)
  rw [eg1, ← eg, hI1] at w1
  have wne : ∀ a, a ≠ 111 → m_write (m_sav1 M0) b v a = m_sav1 M0 a := fun a ha => write_ne ha
  have hzw : ZV (m_write (m_sav1 M0) b v) := write_ZV hzs hb (by omega) (by omega)
  have elow : ∀ j, j < 18 → j ≠ 5 → m_write (m_sav1 M0) b v 111 j = M0 111 j := fun j h1 h2 => by rw [write_low hzs hb (by omega) h1 h2, e111]
  have ean : m_write (m_sav1 M0) b v 111 (498 + b) = m_goal M0 b := by
    unfold m_write
    rw [u2k, if_neg (by omega), bring_at hzs hb (by omega), if_neg (by omega), if_pos rfl, eg1]
  generalize m_write (m_sav1 M0) b v = W at ey2 w1 w2 wne hzw elow ean
  have hlow : ∀ a, a < 110 → W a = I1 a := fun a ha => by rw [wne a (by omega), s1 a (by omega) (by omega), l0 a (by omega)]
  refine ⟨hm1, ?_, ?_, fun _ => ?_, ?_⟩
  · have eR : f_saveR I R 110 = R 110 := by
      unfold f_saveR
      split
      · rfl
      · exact f_rot_ne (by decide) _ _ _
    have := h.2.1
    unfold MdB at this ⊢
    rw [eR]
    exact this
  · show (y_write I1 b v).2 110 0 = 0
    rw [ey2]
    show W 110 0 = 0
    rw [wne 110 (by decide)]
    exact s2
  · show _ = (iz (y_write I1 b v).1).toInt64
    rw [ey2, u2_at]
    dsimp only
    rw [ean, eg]
  · show QR T (y_write I1 b v).2 (f_saveR I R)
    rw [ey2]
    dsimp only
    refine fin_save (M := m_thr M0 0) h (fun j _ => by rw [thr_111 (by decide), zI]) (by rw [thr_110 (by decide), l110 3 (by decide) (by decide), n2 110 (by decide)]) (by rw [thr_111 (by decide), l0 112 (by decide), n2 112 (by decide)]) (fun a h1 h2 => by rw [hlow a h2, n1 a (by omega)]) (by rw [hlow 0 (by decide), n1 0 (by decide)]) (by rw [wne 110 (by decide), s4]) (by rw [wne 112 (by decide), s4]) (XV_of hx1 hlow) hzw (HB_ne hb0 (by rw [wne 121 (by decide), s1 121 (by decide) (by decide)]) (by rw [wne 122 (by decide), s1 122 (by decide) (by decide)])) (TV_of hmv.2.2.1 ?_ ?_) (SRel_of (fun a h1 h2 => hlow a (by omega)) (fun _ _ => rfl) hzw.1.2 w1) w2 (TRel_of ht ?_ ?_ ?_ ?_) (MR_of (fun a h1 h2 => by rw [hlow a (by omega), n2 a (by omega)]) hx.2.1.2.2.2.2.2.2.2 (fun j h1 h2 h3 => by rw [elow j h1 h3, zI]) hmr)
    · rw [wne 110 (by decide), s3 6 (by decide) (by decide), l110 6 (by decide) (by decide), n2 110 (by decide)]
    · rw [wne 114 (by decide), s1 114 (by decide) (by decide), l0 114 (by decide), n2 114 (by decide)]
    · rw [hlow 36 (by decide), n2 36 (by decide)]
    · rw [hlow 37 (by decide), n2 37 (by decide)]
    · rw [wne 110 (by decide), s3 6 (by decide) (by decide), l110 6 (by decide) (by decide), n2 110 (by decide)]
    · rw [wne 114 (by decide), s1 114 (by decide) (by decide), l0 114 (by decide), n2 114 (by decide)]
theorem ml_write {T : Nat → Nat × Nat} {I : Nat → Nat → Int} {J : Nat → Nat → Int64} {R : Nat → Nat → Option Nat} (h : QR T I R) (p : Int) (h_p : -2147483648 ≤ p ∧ p < 2147483648) (v : Int) (h_v : -2147483648 ≤ v ∧ v < 2147483648) : (x_write I p v = none → RLx T 0 (w_write I R p v) (fun I9 => y_write I9 p v) (u2 (J) 124 0 (iz (f_cfw I 1 7 p.toNat)).toInt64) (f_saveR I R)) ∧ (x_write I p v = some xIOB → RLx T 1 (I) (fun I9 => y_write I9 p v) J R) ∧ (x_write I p v = some xIAE → RLx T 2 (I) (fun I9 => y_write I9 p v) J R) ∧ (x_write I p v = some xISE → RLx T 3 (I) (fun I9 => y_write I9 p v) J R) := by
  have hb : HB (m_thr I 0) := thr_HB h.2.2.2.2.1.2.1
  obtain ⟨a1, a2, a3, a4⟩ := QR_map h hb (fun j _ => thr_e)
  unfold x_write
  by_cases hp : 0 ≤ p ∧ p < 480
  · rw [if_pos hp]
    by_cases hv : 0 ≤ v ∧ v ≤ 999
    · rw [if_pos hv]
      by_cases hg : f_cfw I 1 7 p.toNat = -1
      · rw [if_pos hg]
        refine ⟨fun q => absurd q xs, fun q => absurd q x31, fun q => absurd q x32, fun _ => ?_⟩
        have eg := cfw_eq a2 a1 a4 (b := p.toNat) (by omega)
        have ey : y_write I p v = (0, m_thr (m_lay (m_thr I 0)) 3) := by
          unfold y_write
          rw [if_pos (by omega), if_pos hv]
          unfold q_w3
          rw [if_pos (by omega)]
        refine RLx_thr9 (y := fun I9 => y_write I9 p v) h (by decide) ?_ ?_
        · try dsimp only
          rw [ey]
          try dsimp only
          exact thr_0
        · try dsimp only
          rw [ey]
          exact (MK_thr.tr MK_lay).tr MK_thr
      · rw [if_neg hg]
        refine ⟨fun _ => ?_, fun q => absurd q xn, fun q => absurd q xn, fun q => absurd q xn⟩
        have w := w_write_ok (J := J) h (b := p.toNat) (by omega) hv hg
        rw [show ((p.toNat : Nat) : Int) = p by omega] at w
        exact w
    · rw [if_neg hv]
      refine ⟨fun q => absurd q xs, fun q => absurd q x21, fun _ => ?_, fun q => absurd q x23⟩
      refine RLx_thr h (by decide) ?_
      unfold y_write
      rw [if_pos (by omega), if_neg hv]
  · rw [if_neg hp]
    refine ⟨fun q => absurd q xs, fun _ => ?_, fun q => absurd q x12, fun q => absurd q x13⟩
    refine RLx_thr h (by decide) ?_
    unfold y_write
    rw [if_neg (by omega)]
