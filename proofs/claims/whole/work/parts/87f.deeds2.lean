/-! more deeds -/
theorem saveR_MdB {T : Nat → Nat × Nat} {I : Nat → Nat → Int} {R : Nat → Nat → Option Nat} (h : MdB T R 125) : MdB T (f_saveR I R) 125 := by
  have eR : f_saveR I R 110 = R 110 := by
    unfold f_saveR
    split
    · rfl
    · exact f_rot_ne (by decide) _ _ _
  unfold MdB at h ⊢
  rw [eR]
  exact h
theorem RLx_save {T : Nat → Nat × Nat} {I I1 M W : Nat → Nat → Int} {J1 : Nat → Nat → Int64} {R : Nat → Nat → Option Nat} {y : (Nat → Nat → Int) → Int × (Nat → Nat → Int)} {v : Int} (h : QR T I R) (hy : y I1 = (v, W)) (hx1 : XV I1) (hI110 : ∀ a, 110 ≤ a → I1 a = I a) (hI74 : ∀ a, a = 0 ∨ 74 ≤ a ∧ a < 110 → I1 a = f_save I R a) (hM : ∀ j, j < 1554 → M 111 j = I 111 j) (hM3 : M 110 3 = I 110 3) (hM112 : M 112 = I 112) (hW : ∀ a, a < 110 → W a = I1 a) (hW0 : W 110 0 = 0) (hW3 : W 110 3 = m_save M 110 3) (hW112 : W 112 = m_save M 112) (hv : TV W) (ht : TRel W) (hz : ZV W) (hb : HB W) (hs : SRel I1 1 (W 111)) (hw : WF (W 111)) (hm : MR I1 7 (W 111)) (hJ : J1 124 0 = (iz v).toInt64) : RLx T 0 I1 y J1 (f_saveR I R) := by
  refine ⟨MV_ne h.2.2.2.2.1 hI110, saveR_MdB h.2.1, by rw [hy]; exact hW0, fun _ => by rw [hy]; exact hJ, ?_⟩
  rw [hy]
  show QR T W (f_saveR I R)
  exact fin_save h hM hM3 hM112 (fun a h1 h2 => by rw [hW a h2, hI74 a (Or.inr ⟨h1, h2⟩)]) (by rw [hW 0 (by decide), hI74 0 (Or.inl rfl)]) hW3 hW112 (XV_of hx1 hW) hz hb hv (SRel_of (fun a h1 h2 => hW a (by omega)) (fun _ _ => rfl) hz.1.2 hs) hw ht (MR_of (fun a h1 h2 => hW a (by omega)) hx1.2.1.2.2.2.2.2.2.2 (fun _ _ _ _ => rfl) hm)
theorem flL_low {b : Nat} {v : Int} (hv : -1 ≤ v ∧ v ≤ 999) : ∀ (f w : Nat) (M : Nat → Nat → Int), b + w + f ≤ 480 → ZV M → ∀ j, j < 18 → j ≠ 5 → (m_flL b v f w M).2 111 j = M 111 j
  | 0, _, _, _, _, _, _, _ => rfl
  | f + 1, w, M, hb, hz, j, hj, h5 => by
    unfold m_flL
    by_cases hg : m_goal M (b + w) = -1
    · rw [if_pos hg]
    · rw [if_neg hg, flL_low hv f (w + 1) _ (by omega) (write_ZV hz (by omega) hv hg) j hj h5, write_low hz (by omega) hg hj h5]
theorem mtdL_low (mv : Int) : ∀ (f b : Nat) (d : Int) (M : Nat → Nat → Int), b + f ≤ 480 → ZV M → ∀ j, j < 18 → j ≠ 5 → (m_tdL mv f b d M).2 111 j = M 111 j
  | 0, _, _, _, _, _, _, _, _ => rfl
  | f + 1, b, d, M, hb, hz, j, hj, h5 => by
    unfold m_tdL
    by_cases hd : d < mv
    · rw [if_pos hd]
      by_cases hg : m_tgoal M b = M 111 (498 + b)
      · rw [if_pos hg]
        exact mtdL_low mv f (b + 1) d M (by omega) hz j hj h5
      · rw [if_neg hg]
        have rg := tgoal_rg (I := M) (b := b) (by omega)
        have rg2 : 0 ≤ m_tgoal M b ∧ m_tgoal M b < 576 := by
          rcases rg with q | q
          · exact absurd q hg
          · exact q
        rw [mtdL_low mv f (b + 1) (d + 1) _ (by omega) (bring_ZV hz (by omega) rg2) j hj h5, bring_low hz (by omega) rg2 hj h5]
    · rw [if_neg hd]
/-- the reference's rows behind a save -/
theorem sav_all {I I1 : Nat → Nat → Int} (hI : ∀ a, 110 ≤ a → I1 a = I a) (hm : MV I) : m_sav1 I1 111 = I 111 ∧ ZV (m_sav1 I1) ∧ HB (m_sav1 I1) ∧ (∀ a, a < 110 → m_sav1 I1 a = I1 a) ∧ m_sav1 I1 114 = I 114 ∧ m_sav1 I1 110 0 = 0 ∧ m_sav1 I1 110 6 = I 110 6 ∧ m_sav1 I1 110 3 = m_save (m_thr I1 0) 110 3 ∧ m_sav1 I1 112 = m_save (m_thr I1 0) 112 := by
  obtain ⟨s1, s2, s3, s4⟩ := sav_rows (M := I1)
  have hm1 := MV_ne hm hI
  exact ⟨by rw [s1 111 (by decide) (by decide), hI 111 (by decide)], sav1_ZV hm1.1, sav1_HB hm1.2.1, fun a ha => s1 a (by omega) (by omega), by rw [s1 114 (by decide) (by decide), hI 114 (by decide)], s2, by rw [s3 6 (by decide) (by decide), hI 110 (by decide)], by rw [s4], by rw [s4]⟩
theorem thr_M {I I1 : Nat → Nat → Int} (hI : ∀ a, 110 ≤ a → I1 a = I a) : (∀ j, j < 1554 → m_thr I1 0 111 j = I 111 j) ∧ m_thr I1 0 110 3 = I 110 3 ∧ m_thr I1 0 112 = I 112 :=
  ⟨fun j _ => by rw [thr_e, hI 111 (by decide)], by rw [thr_110 (by decide), hI 110 (by decide)], by rw [thr_111 (by decide), hI 112 (by decide)]⟩
set_option maxRecDepth 100000 in
theorem ml_fill {T : Nat → Nat × Nat} {I : Nat → Nat → Int} {J : Nat → Nat → Int64} {R : Nat → Nat → Option Nat} (h : QR T I R) (p : Int) (h_p : -2147483648 ≤ p ∧ p < 2147483648) (q : Int) (h_q : -2147483648 ≤ q ∧ q < 2147483648) (v : Int) (h_v : -2147483648 ≤ v ∧ v < 2147483648) : (x_fill p q v = none → RLx T 0 ((f_fill I R p q v).2) (fun I9 => y_fill I9 p q v) (u2 (J) 124 0 (iz ((f_fill I R p q v).1)).toInt64) (f_saveR I R)) ∧ (x_fill p q v = some xIOB → RLx T 1 (I) (fun I9 => y_fill I9 p q v) J R) ∧ (x_fill p q v = some xIAE → RLx T 2 (I) (fun I9 => y_fill I9 p q v) J R) := by
  have hx := h.2.2.2.1
  have hk := h.1
  have ht := h.2.2.2.2.2.2.2.1
  have hmv := h.2.2.2.2.1
  have hmr := h.2.2.2.2.2.2.2.2.2.2
  unfold x_fill
  by_cases hp : (0 ≤ p ∧ p < 480) ∧ q ≤ 480 - p
  · rw [if_pos hp]
    by_cases hq : (1 ≤ q ∧ q ≤ 48) ∧ 0 ≤ v ∧ v ≤ 999
    · rw [if_pos hq]
      refine ⟨fun _ => ?_, fun q => absurd q xn, fun q => absurd q xn⟩
      have eF : f_fill I R p q v = flL p.toNat v q.toNat 0 (f_save I R) := rfl
      rw [eF]
      have n1 : ∀ a, a < 1 ∨ 7 ≤ a → (flL p.toNat v q.toNat 0 (f_save I R)).2 a = f_save I R a := fun a ha => fl_ne _ _ _ _ _ a ha
      have hx1 : XV (flL p.toNat v q.toNat 0 (f_save I R)).2 := flL_XV _ _ (by omega) _ _ _ (by omega) (XV_save hk hx)
      have n2 : ∀ a, 7 ≤ a ∧ a < 74 ∨ 110 ≤ a → (flL p.toNat v q.toNat 0 (f_save I R)).2 a = I a := fun a ha => by rw [n1 a (by omega), fsave_ne hk hx (by omega)]
      have key := fun M => fl_rel (b := p.toNat) (v := v) (by omega) q.toNat 0 (f_save I R) M (by omega) (by omega)
      generalize flL p.toNat v q.toNat 0 (f_save I R) = r at n1 hx1 n2 key ⊢
      have hI : ∀ a, 110 ≤ a → r.2 a = I a := fun a ha => n2 a (Or.inr ha)
      obtain ⟨s1, s2, s3, s4, s5, s6, s7, s8, s9⟩ := sav_all hI hmv
      obtain ⟨t1, t2, t3⟩ := thr_M hI
      obtain ⟨a1, a2, a3, a4⟩ := QR_map h s3 (fun j _ => by rw [s1])
      have el : m_lay (m_sav1 r.2) 111 = I 111 := by rw [lay_ne (by decide), s1]
      have hbl := lay_HB s2 s3
      obtain ⟨k1, k2, k3⟩ := key (m_lay (m_sav1 r.2)) (SRel_of (fun a h1 h2 => fsave_ne hk hx (by omega)) (fun _ _ => rfl) a4.1.2 a2) a3 a4 (MRel_of (fun a h1 h2 => fsave_ne hk hx (by omega)) hx.2.1.2.2.2.2.2.2.2 (fun _ _ _ => rfl) rfl a1) (by rw [fsave_ne hk hx (by omega)]; exact hx.2.1.2.2.2.2.2.2.2)
      have ey : y_fill r.2 p q v = m_flL p.toNat v q.toNat 0 (m_lay (m_sav1 r.2)) := by
        unfold y_fill
        rw [if_pos (by omega), if_pos hq]
      have wne : ∀ a, a ≠ 111 → (m_flL p.toNat v q.toNat 0 (m_lay (m_sav1 r.2))).2 a = m_lay (m_sav1 r.2) a := fun a ha => flL_ne _ _ _ _ _ a ha
      have hzw := flL_ZV p.toNat v (by omega) q.toNat 0 (m_lay (m_sav1 r.2)) (by omega) a4
      have elow := flL_low (b := p.toNat) (v := v) (by omega) q.toNat 0 (m_lay (m_sav1 r.2)) (by omega) a4
      have hlow : ∀ a, a < 110 → (m_flL p.toNat v q.toNat 0 (m_lay (m_sav1 r.2))).2 a = r.2 a := fun a ha => by rw [wne a (by omega), lay_ne (by omega), s4 a ha]
      have w110 : ∀ j, j ≠ 7 → (m_flL p.toNat v q.toNat 0 (m_lay (m_sav1 r.2))).2 110 j = m_sav1 r.2 110 j := fun j hj => by rw [wne 110 (by decide), lay_110 hj]
      have w112 : (m_flL p.toNat v q.toNat 0 (m_lay (m_sav1 r.2))).2 112 = m_sav1 r.2 112 := by rw [wne 112 (by decide), lay_ne (by decide)]
      have w114 : (m_flL p.toNat v q.toNat 0 (m_lay (m_sav1 r.2))).2 114 = I 114 := by rw [wne 114 (by decide), lay_ne (by decide), s5]
      have w121 := wne 121 (by decide)
      have w122 := wne 122 (by decide)
      generalize m_flL p.toNat v q.toNat 0 (m_lay (m_sav1 r.2)) = rr at ey wne hzw elow hlow w110 w112 w114 w121 w122 k1 k2 k3
      refine RLx_save (M := m_thr r.2 0) (W := rr.2) (v := rr.1) h ey hx1 hI (fun a ha => n1 a (by omega)) t1 t2 t3 hlow (by rw [w110 0 (by decide)]; exact s6) (by rw [w110 3 (by decide)]; exact s8) (by rw [w112]; exact s9) (TV_of hmv.2.2.1 (by rw [w110 6 (by decide), s7]) w114) (TRel_of ht (by rw [hlow 36 (by decide), n2 36 (by decide)]) (by rw [hlow 37 (by decide), n2 37 (by decide)]) (by rw [w110 6 (by decide), s7]) w114) hzw (HB_ne hbl w121 w122) k2 k3 (MR_of (fun a h1 h2 => n2 a (by omega)) hx.2.1.2.2.2.2.2.2.2 (fun j h1 h2 h3 => by rw [elow j h1 h3, el]) hmr) (by rw [u2_at, k1])
    · rw [if_neg hq]
      refine ⟨fun q => absurd q xs, fun q => absurd q x21, fun _ => ?_⟩
      refine RLx_thr h (by decide) ?_
      unfold y_fill
      rw [if_pos (by omega), if_neg hq]
  · rw [if_neg hp]
    refine ⟨fun q => absurd q xs, fun _ => ?_, fun q => absurd q x12⟩
    refine RLx_thr h (by decide) ?_
    unfold y_fill
    rw [if_neg (by omega)]
set_option maxRecDepth 100000 in
theorem ml_tidy {T : Nat → Nat × Nat} {I : Nat → Nat → Int} {J : Nat → Nat → Int64} {R : Nat → Nat → Option Nat} (h : QR T I R) (p : Int) (h_p : -2147483648 ≤ p ∧ p < 2147483648) : (x_tidy p = none → RLx T 0 ((f_tidyUp (f_save I R) 1 7 p).2) (fun I9 => y_tidy I9 p) (u2 (J) 124 0 (iz ((f_tidyUp (f_save I R) 1 7 p).1)).toInt64) (f_saveR I R)) ∧ (x_tidy p = some xIAE → RLx T 1 (I) (fun I9 => y_tidy I9 p) J R) := by
  have hx := h.2.2.2.1
  have hk := h.1
  have ht := h.2.2.2.2.2.2.2.1
  have hmv := h.2.2.2.2.1
  have hmr := h.2.2.2.2.2.2.2.2.2.2
  unfold x_tidy
  by_cases hp : 1 ≤ p ∧ p ≤ 99
  · rw [if_pos hp]
    refine ⟨fun _ => ?_, fun q => absurd q xn⟩
    have n1 : ∀ a, a < 1 ∨ 7 ≤ a → (f_tidyUp (f_save I R) 1 7 p).2 a = f_save I R a := fun a ha => f_tidyUp_ne (by omega)
    have hx1 : XV (f_tidyUp (f_save I R) 1 7 p).2 := XV_tidyUp (XV_save hk hx)
    have n2 : ∀ a, 7 ≤ a ∧ a < 74 ∨ 110 ≤ a → (f_tidyUp (f_save I R) 1 7 p).2 a = I a := fun a ha => by rw [n1 a (by omega), fsave_ne hk hx (by omega)]
    have key := fun M => td_rel (ks := 1) (km := 7) (most := p) (Or.inl (by decide)) 480 0 0 (f_save I R) M rfl
    have eT : f_tidyUp (f_save I R) 1 7 p = tdL 1 7 p 480 0 0 (f_save I R) := rfl
    rw [← eT] at key
    generalize f_tidyUp (f_save I R) 1 7 p = r at n1 hx1 n2 key ⊢
    have hI : ∀ a, 110 ≤ a → r.2 a = I a := fun a ha => n2 a (Or.inr ha)
    obtain ⟨s1, s2, s3, s4, s5, s6, s7, s8, s9⟩ := sav_all hI hmv
    obtain ⟨t1, t2, t3⟩ := thr_M hI
    obtain ⟨a1, a2, a3, a4⟩ := QR_map h s3 (fun j _ => by rw [s1])
    have el : m_lay (m_sav1 r.2) 111 = I 111 := by rw [lay_ne (by decide), s1]
    have hbl := lay_HB s2 s3
    obtain ⟨k1, k2, k3⟩ := key (m_lay (m_sav1 r.2)) (SRel_of (fun a h1 h2 => fsave_ne hk hx (by omega)) (fun _ _ => rfl) a4.1.2 a2) a3 a4 (MRel_of (fun a h1 h2 => fsave_ne hk hx (by omega)) hx.2.1.2.2.2.2.2.2.2 (fun _ _ _ => rfl) rfl a1) (by rw [fsave_ne hk hx (by omega)]; exact hx.2.1.2.2.2.2.2.2.2)
    have ey : y_tidy r.2 p = m_tdL p 480 0 0 (m_lay (m_sav1 r.2)) := by
      unfold y_tidy
      rw [if_pos hp]
      rfl
    have wne : ∀ a, a ≠ 111 → (m_tdL p 480 0 0 (m_lay (m_sav1 r.2))).2 a = m_lay (m_sav1 r.2) a := fun a ha => mtdL_ne _ _ _ _ _ a ha
    have hzw := mtdL_ZV p 480 0 0 (m_lay (m_sav1 r.2)) (by decide) a4
    have elow := mtdL_low p 480 0 0 (m_lay (m_sav1 r.2)) (by decide) a4
    have hlow : ∀ a, a < 110 → (m_tdL p 480 0 0 (m_lay (m_sav1 r.2))).2 a = r.2 a := fun a ha => by rw [wne a (by omega), lay_ne (by omega), s4 a ha]
    have w110 : ∀ j, j ≠ 7 → (m_tdL p 480 0 0 (m_lay (m_sav1 r.2))).2 110 j = m_sav1 r.2 110 j := fun j hj => by rw [wne 110 (by decide), lay_110 hj]
    have w112 : (m_tdL p 480 0 0 (m_lay (m_sav1 r.2))).2 112 = m_sav1 r.2 112 := by rw [wne 112 (by decide), lay_ne (by decide)]
    have w114 : (m_tdL p 480 0 0 (m_lay (m_sav1 r.2))).2 114 = I 114 := by rw [wne 114 (by decide), lay_ne (by decide), s5]
    have w121 := wne 121 (by decide)
    have w122 := wne 122 (by decide)
    generalize m_tdL p 480 0 0 (m_lay (m_sav1 r.2)) = rr at ey wne hzw elow hlow w110 w112 w114 w121 w122 k1 k2 k3
    exact RLx_save (M := m_thr r.2 0) (W := rr.2) (v := rr.1) h ey hx1 hI (fun a ha => n1 a (by omega)) t1 t2 t3 hlow (by rw [w110 0 (by decide)]; exact s6) (by rw [w110 3 (by decide)]; exact s8) (by rw [w112]; exact s9) (TV_of hmv.2.2.1 (by rw [w110 6 (by decide), s7]) w114) (TRel_of ht (by rw [hlow 36 (by decide), n2 36 (by decide)]) (by rw [hlow 37 (by decide), n2 37 (by decide)]) (by rw [w110 6 (by decide), s7]) w114) hzw (HB_ne hbl w121 w122) k2 k3 (MR_of (fun a h1 h2 => n2 a (by omega)) hx.2.1.2.2.2.2.2.2.2 (fun j h1 h2 h3 => by rw [elow j h1 h3, el]) hmr) (by rw [u2_at, k1])
  · rw [if_neg hp]
    refine ⟨fun q => absurd q xs, fun _ => ?_⟩
    refine RLx_thr h (by decide) ?_
    unfold y_tidy
    rw [if_neg hp]
theorem ml_drop {T : Nat → Nat × Nat} {I : Nat → Nat → Int} {J : Nat → Nat → Int64} {R : Nat → Nat → Option Nat} (h : QR T I R) (p : Int) (h_p : -2147483648 ≤ p ∧ p < 2147483648) : (x_drop p = none → RLx T 0 (f_forget (f_save I R) 1 p) (fun I9 => y_drop I9 p) (u2 (J) 124 0 (iz (f_save I R (1 + 3) p.toNat)).toInt64) (f_saveR I R)) ∧ (x_drop p = some xIOB → RLx T 1 (I) (fun I9 => y_drop I9 p) J R) := by
  have hx := h.2.2.2.1
  have hk := h.1
  have ht := h.2.2.2.2.2.2.2.1
  have hmv := h.2.2.2.2.1
  have hs := h.2.2.2.2.2.1
  have hwf := h.2.2.2.2.2.2.1
  have hmr := h.2.2.2.2.2.2.2.2.2.2
  unfold x_drop
  by_cases hp : 0 ≤ p ∧ p < 480
  · rw [if_pos hp]
    refine ⟨fun _ => ?_, fun q => absurd q xn⟩
    have ep : ((p.toNat : Nat) : Int) = p := by omega
    have n1 : ∀ a, a < 1 ∨ 7 ≤ a → f_forget (f_save I R) 1 p a = f_save I R a := fun a ha => f_forget_ne (by omega) (by omega) (by omega)
    have hx1 : XV (f_forget (f_save I R) 1 p) := XV_forget (XV_save hk hx)
    have n2 : ∀ a, 7 ≤ a ∧ a < 74 ∨ 110 ≤ a → f_forget (f_save I R) 1 p a = I a := fun a ha => by rw [n1 a (by omega), fsave_ne hk hx (by omega)]
    have hSs : SRel (f_save I R) 1 (I 111) := SRel_of (fun a h1 h2 => fsave_ne hk hx (by omega)) (fun _ _ => rfl) hmv.1.1.2 hs
    have key0 : (f_save I R) (1 + 3) p.toNat = I 111 (18 + p.toNat) := hSs.2.2.2.2.2.1 p.toNat (by omega)
    have keyA : I 111 (18 + p.toNat) = -1 → f_forget (f_save I R) 1 p = f_save I R := fun q => by
      have w1 := (hwf.2.2.1 p.toNat (by omega)).mp q
      have := forget_0 (I := f_save I R) (k := 1) (b := p.toNat) (by rw [hSs.2.2.2.2.2.2.1 p.toNat (by omega)]; exact w1)
      rw [ep] at this
      exact this
    have keyB : ∀ M, M 111 = I 111 → ZV M → I 111 (18 + p.toNat) ≠ -1 → SRel (f_forget (f_save I R) 1 p) 1 (m_lose M p.toNat 111) ∧ WF (m_lose M p.toNat 111) := fun M e hzM q => by
      have := lose_rel (I := f_save I R) (M := M) (k := 1) (b := p.toNat) (z' := m_lose M p.toNat 111) (by rw [e]; exact hSs) (by rw [e]; exact hwf) hzM (by omega) (by rw [e]; exact fun w => q ((hwf.2.2.1 p.toNat (by omega)).mpr w)) (fun _ _ => rfl)
      rw [ep] at this
      exact this
    rw [key0]
    generalize hI1 : f_forget (f_save I R) 1 p = I1 at n1 hx1 n2 keyA keyB ⊢
    have hI : ∀ a, 110 ≤ a → I1 a = I a := fun a ha => n2 a (Or.inr ha)
    obtain ⟨s1, s2, s3, s4, s5, s6, s7, s8, s9⟩ := sav_all hI hmv
    obtain ⟨t1, t2, t3⟩ := thr_M hI
    by_cases hv : I 111 (18 + p.toNat) = -1
    · have ey : y_drop I1 p = (I 111 (18 + p.toNat), m_sav1 I1) := by
        unfold y_drop
        rw [if_pos (by omega), s1, if_pos hv]
      refine RLx_save (M := m_thr I1 0) (W := m_sav1 I1) (v := I 111 (18 + p.toNat)) h ey hx1 hI (fun a ha => n1 a (by omega)) t1 t2 t3 s4 s6 s8 s9 (TV_of hmv.2.2.1 s7 s5) (TRel_of ht (by rw [s4 36 (by decide), n2 36 (by decide)]) (by rw [s4 37 (by decide), n2 37 (by decide)]) s7 s5) s2 s3 (by rw [s1, keyA hv]; exact hSs) (by rw [s1]; exact hwf) (by rw [s1]; exact MR_of (fun a h1 h2 => n2 a (by omega)) hx.2.1.2.2.2.2.2.2.2 (fun _ _ _ _ => rfl) hmr) u2_at
    · have ey : y_drop I1 p = (I 111 (18 + p.toNat), m_lose (m_sav1 I1) p.toNat) := by
        unfold y_drop
        rw [if_pos (by omega), s1, if_neg hv]
      obtain ⟨k1, k2⟩ := keyB (m_sav1 I1) s1 s2 hv
      have wne : ∀ a, a ≠ 111 → m_lose (m_sav1 I1) p.toNat a = m_sav1 I1 a := fun a ha => lose_ne ha
      have w0 : 0 ≤ m_sav1 I1 111 (498 + p.toNat) := by
        have r := (ZV_P s2).1 p.toNat (by omega)
        have : m_sav1 I1 111 (498 + p.toNat) ≠ -1 := by
          rw [s1]
          exact fun w => hv ((hwf.2.2.1 p.toNat (by omega)).mpr w)
        omega
      have hlow : ∀ a, a < 110 → m_lose (m_sav1 I1) p.toNat a = I1 a := fun a ha => by rw [wne a (by omega), s4 a ha]
      refine RLx_save (M := m_thr I1 0) (W := m_lose (m_sav1 I1) p.toNat) (v := I 111 (18 + p.toNat)) h ey hx1 hI (fun a ha => n1 a (by omega)) t1 t2 t3 hlow (by rw [wne 110 (by decide)]; exact s6) (by rw [wne 110 (by decide)]; exact s8) (by rw [wne 112 (by decide)]; exact s9) (TV_of hmv.2.2.1 (by rw [wne 110 (by decide)]; exact s7) (by rw [wne 114 (by decide)]; exact s5)) (TRel_of ht (by rw [hlow 36 (by decide), n2 36 (by decide)]) (by rw [hlow 37 (by decide), n2 37 (by decide)]) (by rw [wne 110 (by decide)]; exact s7) (by rw [wne 114 (by decide)]; exact s5)) (lose_ZV s2 (by omega)) (HB_ne s3 (wne 121 (by decide)) (wne 122 (by decide))) k1 k2 (MR_of (fun a h1 h2 => n2 a (by omega)) hx.2.1.2.2.2.2.2.2.2 (fun j h1 h2 h3 => by rw [lose_at w0, if_neg (by omega), if_neg (by omega), if_neg (by omega), s1]) hmr) u2_at
  · rw [if_neg hp]
    refine ⟨fun q => absurd q xs, fun _ => ?_⟩
    refine RLx_thr h (by decide) ?_
    unfold y_drop
    rw [if_neg (by omega)]
