/-! what would be, and texts -/
theorem fail_4 {M : Nat → Nat → Int} (hz : ZV M) (hW : WF (M 111)) {c : Nat} (hc : c < 576) (hcan : ¬ m_can M c = 0) : m_failIt M c 111 4 = M 111 4 + (if M 111 (978 + c) = -1 then 0 else 1) := by
  obtain ⟨c1, c2⟩ := m_can_of hcan
  have z3 := hz.1
  have hf := fail1_at hz (c := c)
  have hz1 : ZV (m_fail1 M c) := fail1_ZV hz hc c1 c2
  have e8 : m_fail1 M c 111 (978 + c) = M 111 (978 + c) := by rw [hf, if_neg (by omega), if_neg (by omega)]
  have e4 : m_fail1 M c 111 4 = M 111 4 := by rw [hf, if_neg (by omega), if_neg (by omega)]
  unfold m_failIt
  rw [e8]
  by_cases h : M 111 (978 + c) = -1
  · rw [if_pos h, if_pos h, e4]
    omega
  · rw [if_neg h, if_neg h]
    have r8 := (ZV_P hz).2 c hc
    have w2 := hW.2.1 c hc h
    have e9 : m_fail1 M c 111 (498 + (M 111 (978 + c)).toNat) = M 111 (498 + (M 111 (978 + c)).toNat) := by rw [hf, if_neg (by omega), if_neg (by omega)]
    unfold m_fail2
    rw [u2_at, lose_at (by rw [e9]; omega), if_neg (by omega), if_neg (by omega), if_neg (by omega), e4]
/-- the trial is laid out -/
theorem try_rel {I M : Nat → Nat → Int} {J : Nat → Nat → Int64} (hx : XV I) (hS : SRel I 1 (M 111)) (hW : WF (M 111)) (hz : ZV M) (hb : HB M) {c : Nat} (hc : c < 576) (hcan : ¬ m_can M c = 0) :
    SRel (f_build (f_addSpot (f_copy I 1 40) 40 c) J 46 40).1 40 (m_failIt M c 111) ∧ WF (m_failIt M c 111) ∧ MRel (f_build (f_addSpot (f_copy I 1 40) 40 c) J 46 40).1 46 (m_lay (m_failIt M c)) ∧ ZV (m_failIt M c) := by
  obtain ⟨c1, c2⟩ := m_can_of hcan
  have z3 := hz.1
  have s0 : SRel (f_copy I 1 40) 40 (M 111) := SRel_copy (by decide) z3.2 hS
  obtain ⟨s1, s2⟩ := add_rel s0 hW hz hc hcan
  obtain ⟨t1, t2⟩ := try_st hx c
  have hzX : ZV (m_failIt M c) := failIt_ZV hz hc c1 c2
  have hbX : HB (m_failIt M c) := HB_ne hb (failIt_ne (by decide)) (failIt_ne (by decide))
  have hm := build_MR (J := J) (k := 46) (ks := 40) (z := m_failIt M c 111) (by decide) t2 t1 s1.1 s1.2.2.2.1 s1.2.2.2.2.1 s2.2.2.2.2
  refine ⟨SRel_of (fun a h1 h2 => f_build_ne (by decide) t2 t1.1 t1.2.2.1 t1.2.2.2.1 (by omega)) (fun _ _ => rfl) hzX.1.2 s1, s2, hm _ hzX hbX (fun _ _ _ _ => rfl), hzX⟩
theorem fc_eq {I M : Nat → Nat → Int} {J : Nat → Nat → Int64} (hx : XV I) (hS : SRel I 1 (M 111)) (hW : WF (M 111)) (hz : ZV M) (hb : HB M) {c : Nat} (hc : c < 576) (hcan : ¬ m_can M c = 0) (w : Nat) : f_fc (f_build (f_addSpot (f_copy I 1 40) 40 c) J 46 40).1 w = m_wfv M c w := by
  have hp : m_pa 1554 0 M 111 = M 111 := pa_ne _ _ _ _ (by decide)
  have hcan' : ¬ m_can (m_pa 1554 0 M) c = 0 := by
    unfold m_can at hcan ⊢
    rw [spotAt_ne hp, hp]
    exact hcan
  have hz' : ZV (m_pa 1554 0 M) := pa_ZV hz
  have hb' : HB (m_pa 1554 0 M) := pa_HB hb
  obtain ⟨r1, r2, r3, r4⟩ := try_rel (J := J) (M := m_pa 1554 0 M) hx (by rw [hp]; exact hS) (by rw [hp]; exact hW) hz' hb' hc hcan'
  have f4 := fail_4 hz' (by rw [hp]; exact hW) hc hcan'
  rw [hp] at f4
  obtain ⟨t1, t2⟩ := try_st hx c
  have e1 : (f_build (f_addSpot (f_copy I 1 40) 40 c) J 46 40).1 1 = I 1 := by
    rw [f_build_ne (by decide) t2 t1.1 t1.2.2.1 t1.2.2.2.1 (by omega), f_addSpot_ne (by omega), f_copy_ne (by omega)]
  have el : m_lay (m_failIt (m_pa 1554 0 M) c) 111 = m_failIt (m_pa 1554 0 M) c 111 := lay_ne (by decide)
  have eb := bad_eq (M := m_lay (m_failIt (m_pa 1554 0 M) c)) (by rw [el]; exact r1) r3 (ZV_lay r4) (by rw [el]; exact r2)
  match w with
  | 0 => rw [wfv_0]; exact r3.1
  | 1 => rw [wfv_1]; exact r3.2.1
  | 2 =>
    rw [wfv_2]
    show (f_build (f_addSpot (f_copy I 1 40) 40 c) J 46 40).1 40 6 - (f_build (f_addSpot (f_copy I 1 40) 40 c) J 46 40).1 1 6 = _
    rw [e1, r1.2.1, f4, hS.2.1]
    omega
  | w + 3 =>
    have e : m_wfv M c (w + 3) = m_blk (m_wfI M c) 2 := by unfold m_wfv; rfl
    rw [e]
    exact eb
theorem wf_0 {M : Nat → Nat → Int} {c w : Nat} : (m_wf M c w).2 110 0 = M 110 0 := by
  unfold m_wf
  by_cases h : m_can M c = 0
  · rw [if_pos h]
  · rw [if_neg h]
    dsimp only
    rw [bb_ne _ _ _ _ (by decide)]
    unfold m_wfI
    rw [lay_110 (by decide), failIt_ne (by decide), pa_ne _ _ _ _ (by decide)]
/-- the trial of a cell: its answers -/
theorem iff_eq {I M : Nat → Nat → Int} {J : Nat → Nat → Int64} (hx : XV I) (hS : SRel I 1 (M 111)) (hW : WF (M 111)) (hz : ZV M) (hb : HB M) {c : Nat} (hc : c < 576) (w : Nat) : (if (f_try I J c).1 = 0 then -1 else f_fc (f_try I J c).2.1 w) = (m_wf M c w).1 := by
  have e := can_eq hS hz (x := (c : Int)) (by omega)
  unfold f_try m_wf
  rw [e]
  by_cases h : m_can M c = 0
  · rw [if_pos h, if_pos h]
    rfl
  · rw [if_neg h, if_neg h]
    dsimp only
    rw [if_neg (by decide)]
    exact fc_eq hx hS hW hz hb hc h w
theorem ml_ifFailed {T : Nat → Nat × Nat} {I : Nat → Nat → Int} {J : Nat → Nat → Int64} {R : Nat → Nat → Option Nat} (h : QR T I R) (p : Int) (h_p : -2147483648 ≤ p ∧ p < 2147483648) (q : Int) (h_q : -2147483648 ≤ q ∧ q < 2147483648) (w : Int) (h_w : -2147483648 ≤ w ∧ w < 2147483648) : (x_cell p q w = none → RLx T 0 ((f_try I J (p * 24 + q)).2.1) (fun I9 => y_iff I9 p q w) (u2 ((f_try I J (p * 24 + q)).2.2) 124 0 (iz (f_iff I J (p * 24 + q) w.toNat)).toInt64) (R)) ∧ (x_cell p q w = some xIAE → RLx T 1 (I) (fun I9 => y_iff I9 p q w) J R) := by
  unfold x_cell
  by_cases hc : ((0 ≤ p ∧ p < 24) ∧ 0 ≤ q ∧ q < 24) ∧ 0 ≤ w ∧ w < 4
  · rw [if_pos hc]
    refine ⟨fun _ => ?_, fun q => (by first | exact absurd q x12 | cases q)⟩
    have hx := h.2.2.2.1
    have ne : ∀ a, a < 40 ∨ 74 ≤ a → (f_try I J (p * 24 + q)).2.1 a = I a := fun a ha => f_try_ne hx ha
    have hq := QR_try h ne (XV_try hx)
    obtain ⟨a1, a2, a3, a4, a5⟩ := QR_thr hq 0
    have e111 : m_thr (f_try I J (p * 24 + q)).2.1 0 111 = I 111 := by rw [thr_111 (by decide), ne 111 (by decide)]
    have hS : SRel I 1 (m_thr (f_try I J (p * 24 + q)).2.1 0 111) := by rw [e111]; exact h.2.2.2.2.2.1
    have hi := iff_eq (J := J) hx hS a3 a4 a5 (c := (24 * p + q).toNat) (by omega) w.toNat
    rw [show (((24 * p + q).toNat : Nat) : Int) = p * 24 + q by omega] at hi
    have ey : y_iff (f_try I J (p * 24 + q)).2.1 p q w = m_wf (m_thr (f_try I J (p * 24 + q)).2.1 0) (24 * p + q).toNat w.toNat := by
      unfold y_iff
      exact if_pos (by omega)
    refine ⟨hq.2.2.2.2.1, h.2.1, ?_, fun _ => ?_, ?_⟩
    · show (y_iff (f_try I J (p * 24 + q)).2.1 p q w).2 110 0 = 0
      rw [ey, wf_0, thr_0]
    · show _ = (iz (y_iff (f_try I J (p * 24 + q)).2.1 p q w).1).toInt64
      rw [ey, u2_at, ← hi]
      rfl
    · show QR T (y_iff (f_try I J (p * 24 + q)).2.1 p q w).2 R
      rw [ey]
      exact QR_MK hq (MK_thr.tr (MK_wf a4 (by omega)))
  · rw [if_neg hc]
    refine ⟨fun q => (by first | exact absurd q x12 | cases q), fun _ => ?_⟩
    refine RLx_thr h (by decide) ?_
    unfold y_iff
    exact if_neg (by omega)
theorem wm_1 {M : Nat → Nat → Int} : (m_wm M).1 = (m_tdL 480 480 0 0 (m_lay (m_pa 1554 0 M))).1 := by
  unfold m_wm m_tidyUp
  dsimp only
/-- how many moves tidying up would take -/
theorem wm_eq {I M : Nat → Nat → Int} (hx : XV I) (hS : SRel I 1 (M 111)) (hW : WF (M 111)) (hz : ZV M) (hb : HB M) (hR : MRel I 7 (m_lay (m_pa 1554 0 M))) : (f_untidy I).1 = (m_wm M).1 := by
  have hp : m_lay (m_pa 1554 0 M) 111 = M 111 := by rw [lay_ne (by decide), pa_ne _ _ _ _ (by decide)]
  have z3 := hz.1
  have h6 := hx.2.1.2.2.2.2.2.2
  have t := td_rel (most := 480) (ks := 40) (km := 7) (Or.inr (by decide)) 480 0 0 (f_copy I 1 40) (m_lay (m_pa 1554 0 M)) rfl (by rw [hp]; exact SRel_copy (by decide) z3.2 hS) (by rw [hp]; exact hW) (ZV_lay (pa_ZV hz)) (MRel_of (fun a h1 h2 => f_copy_ne (by omega)) h6.2 (fun _ _ _ => rfl) rfl hR) (by rw [f_copy_ne (by decide)]; exact h6.2)
  rw [wm_1, ← t.1]
  unfold f_untidy f_tidyUp
  rfl
theorem ml_untidy {T : Nat → Nat × Nat} {I : Nat → Nat → Int} {J : Nat → Nat → Int64} {R : Nat → Nat → Option Nat} (h : QR T I R) : ∃ I1 : Nat → Nat → Int, I1 = (f_untidy I).2 ∧ MV I1 ∧ (f_untidy I).1 = (m_wm (m_thr I1 0)).1 ∧ (-2147483648 ≤ (f_untidy I).1 ∧ (f_untidy I).1 < 2147483648) ∧ QR T ((m_wm (m_thr I1 0)).2) R := by
  have hx := h.2.2.2.1
  have ne : ∀ a, a < 40 ∨ 74 ≤ a → (f_untidy I).2 a = I a := fun a ha => f_untidy_ne (by omega)
  have hq := QR_try h ne (XV_untidy hx)
  obtain ⟨a1, a2, a3, a4, a5⟩ := QR_thr hq 0
  have e111 : m_thr (f_untidy I).2 0 111 = I 111 := by rw [thr_111 (by decide), ne 111 (by decide)]
  have hm := (QR_map h (M := m_pa 1554 0 (m_thr (f_untidy I).2 0)) (pa_HB a5) (fun j _ => by rw [pa_ne _ _ _ _ (by decide), e111])).1
  have e := wm_eq (M := m_thr (f_untidy I).2 0) hx (by rw [e111]; exact h.2.2.2.2.2.1) a3 a4 a5 hm
  refine ⟨_, rfl, hq.2.2.2.2.1, e, ?_, QR_MK hq (MK_thr.tr (MK_wm a4))⟩
  rw [e, wm_1]
  have := mtdL_rg 480 480 0 0 (m_lay (m_pa 1554 0 (m_thr (f_untidy I).2 0))) (by decide)
  omega
/-! texts -/
theorem QR_txt {T : Nat → Nat × Nat} {I W : Nat → Nat → Int} {R : Nat → Nat → Option Nat} (h : QR T I R) (hxW : XV W) (ne : ∀ a, (a < 36 ∨ 40 ≤ a) → a ≠ 110 → a ≠ 114 → a ≠ 123 → W a = I a) (h3 : W 110 3 = I 110 3) (hv : TV W) (ht : TRel W) : QR T W R := by
  have hsv := QR_sv h
  obtain ⟨h1, h2, h9, hx, ⟨hz, hb, hv0, hn, hsz⟩, hs, hw, ht0, h03, -, hm⟩ := h
  have e111 := ne 111 (by decide) (by decide) (by decide) (by decide)
  refine QR_mk h1 h2 h9 hxW (ZV_ne hz e111) (HB_ne hb (ne 121 (by decide) (by decide) (by decide) (by decide)) (ne 122 (by decide) (by decide) (by decide) (by decide))) hv (by rw [ne 0 (by decide) (by decide) (by decide) (by decide), h3]; exact h03) (SRel_of (fun a _ h2 => ne a (by omega) (by omega) (by omega) (by omega)) (fun j _ => by rw [e111]) hz.1.2 hs) (WF_of hz (fun j _ => by rw [e111]) hw) ht ?_ (MR_of (fun a _ h2 => ne a (by omega) (by omega) (by omega) (by omega)) hx.2.1.2.2.2.2.2.2.2 (fun j _ _ _ => by rw [e111]) hm)
  rw [h3, ne 112 (by decide) (by decide) (by decide) (by decide)]
  exact SVR_of h1 (by omega) (fun a h1 _ => ne a (by omega) (by omega) (by omega) (by omega)) hsv
theorem MV_ne {I W : Nat → Nat → Int} (h : MV I) (ne : ∀ a, 110 ≤ a → W a = I a) : MV W := by
  obtain ⟨hz, hb, hv, hn, hs⟩ := h
  refine ⟨ZV_ne hz (ne 111 (by decide)), HB_ne hb (ne 121 (by decide)) (ne 122 (by decide)), ?_, by rw [ne 110 (by decide)]; exact hn, fun s q => ?_⟩
  · unfold TV
    rw [ne 110 (by decide), ne 114 (by decide)]
    exact hv
  · rw [ne 110 (by decide)] at q
    rw [ne 112 (by decide)]
    exact hs s q
theorem ml_append {T : Nat → Nat × Nat} {I : Nat → Nat → Int} {J : Nat → Nat → Int64} {R : Nat → Nat → Option Nat} (h : QR T I R) (p : Int) (h_p : -2147483648 ≤ p ∧ p < 2147483648) : (x_append I p = none → RLx T 0 (f_type I 36 p) (fun I9 => y_append I9 p) (u2 (J) 124 0 (iz (f_type I 36 p 36 3)).toInt64) (R)) ∧ (x_append I p = some xIAE → RLx T 1 (I) (fun I9 => y_append I9 p) J R) ∧ (x_append I p = some xISE → RLx T 2 (I) (fun I9 => y_append I9 p) J R) := by
  have ht := h.2.2.2.2.2.2.2.1
  have hv := h.2.2.2.2.1.2.2.1
  have h6 : I 36 3 = I 110 6 := ht.1
  have hv6 := hv.1
  unfold x_append
  by_cases hp : 33 ≤ p ∧ p ≤ 126
  · rw [if_pos hp]
    by_cases hl : I 36 3 < 60
    · rw [if_pos hl]
      refine ⟨fun _ => ?_, fun q => (by first | exact absurd q x12 | cases q), fun q => (by first | exact absurd q x12 | cases q)⟩
      have eT : ∀ a j, f_type I 36 p a j = if a = 36 ∧ j = 3 then I 36 3 + 1 else if a = 37 ∧ j = (I 36 3).toNat then p else I a j := fun a j => by
        unfold f_type
        rw [if_pos hl]
        unfold f_type.f_typ1
        simp only [u2_if]
        simp
      have ne : ∀ a, a ≠ 36 → a ≠ 37 → f_type I 36 p a = I a := fun a h1 h2 => by
        funext j
        rw [eT, if_neg (by omega), if_neg (by omega)]
      have hm1 : MV (f_type I 36 p) := MV_ne h.2.2.2.2.1 (fun a ha => ne a (by omega) (by omega))
      have hx1 : XV (f_type I 36 p) := XV_type h.2.2.2.1 (by omega)
      have ey : y_append (f_type I 36 p) p = (m_ty2 (m_typ (m_thr (f_type I 36 p) 0) p) 110 6, m_ty2 (m_typ (m_thr (f_type I 36 p) 0) p)) := by
        unfold y_append
        rw [if_pos hp, ne 110 (by decide) (by decide), if_neg (by omega)]
      have eW : ∀ a j, m_ty2 (m_typ (m_thr (f_type I 36 p) 0) p) a j = if a = 110 ∧ j = 6 then I 110 6 + 1 else if a = 114 ∧ j = (I 110 6).toNat then p else if a = 110 ∧ j = 0 then 0 else f_type I 36 p a j := fun a j => by
        unfold m_ty2 m_typ m_thr
        simp only [u2_if]
        rw [ne 110 (by decide) (by decide)]
        simp
      have t36 : m_ty2 (m_typ (m_thr (f_type I 36 p) 0) p) 36 3 = I 110 6 + 1 := by
        rw [eW, if_neg (by omega), if_neg (by omega), if_neg (by omega), eT, if_pos ⟨rfl, rfl⟩, h6]
      have t6 : m_ty2 (m_typ (m_thr (f_type I 36 p) 0) p) 110 6 = I 110 6 + 1 := by rw [eW, if_pos ⟨rfl, rfl⟩]
      have t114 : ∀ j, m_ty2 (m_typ (m_thr (f_type I 36 p) 0) p) 114 j = if j = (I 110 6).toNat then p else I 114 j := fun j => by
        rw [eW, if_neg (by omega), ne 114 (by decide) (by decide)]
        by_cases hj : j = (I 110 6).toNat
        · rw [if_pos ⟨rfl, hj⟩, if_pos hj]
        · rw [if_neg (fun q => hj q.2), if_neg hj, if_neg (by omega)]
      have t37 : ∀ j, m_ty2 (m_typ (m_thr (f_type I 36 p) 0) p) 37 j = if j = (I 110 6).toNat then p else I 37 j := fun j => by
        rw [eW, if_neg (by omega), if_neg (by omega), if_neg (by omega), eT, if_neg (by omega), h6]
        by_cases hj : j = (I 110 6).toNat
        · rw [if_pos ⟨rfl, hj⟩, if_pos hj]
        · rw [if_neg (fun q => hj q.2), if_neg hj]
      refine ⟨hm1, h.2.1, ?_, fun _ => ?_, ?_⟩
      · show (y_append (f_type I 36 p) p).2 110 0 = 0
        rw [ey]
        show m_ty2 (m_typ (m_thr (f_type I 36 p) 0) p) 110 0 = 0
        rw [eW, if_neg (by omega), if_neg (by omega), if_pos ⟨rfl, rfl⟩]
      · show _ = (iz (y_append (f_type I 36 p) p).1).toInt64
        rw [ey, u2_at]
        dsimp only
        rw [t6, eT, if_pos ⟨rfl, rfl⟩, h6]
      · show QR T (y_append (f_type I 36 p) p).2 R
        rw [ey]
        dsimp only
        refine QR_txt h (XV_of hx1 (fun a ha => by
          funext j
          rw [eW, if_neg (by omega), if_neg (by omega), if_neg (by omega)])) (fun a h1 h2 h3 h4 => by
          funext j
          rw [eW, if_neg (by omega), if_neg (by omega), if_neg (by omega), ne a (by omega) (by omega)]) (by rw [eW, if_neg (by omega), if_neg (by omega), if_neg (by omega), ne 110 (by decide) (by decide)]) ⟨by rw [t6]; omega, fun j hj => ?_⟩ ⟨by rw [t36, t6], fun j hj => ?_⟩
        · rw [t114]
          split
          · omega
          · exact hv.2 j hj
        · rw [t6] at hj
          rw [t37, t114]
          split
          · rfl
          · exact ht.2 j (by omega)
    · rw [if_neg hl]
      refine ⟨fun q => (by first | exact absurd q x12 | cases q), fun q => absurd q x32, fun _ => ?_⟩
      refine RLx_thr h (by decide) ?_
      unfold y_append
      rw [if_pos hp, if_pos (by omega)]
  · rw [if_neg hp]
    refine ⟨fun q => (by first | exact absurd q x12 | cases q), fun _ => ?_, fun q => absurd q x23⟩
    refine RLx_thr h (by decide) ?_
    unfold y_append
    rw [if_neg hp]
theorem ml_clearBuffer {T : Nat → Nat × Nat} {I : Nat → Nat → Int} {J : Nat → Nat → Int64} {R : Nat → Nat → Option Nat} (h : QR T I R) : ∃ I1 : Nat → Nat → Int, I1 = u2 I 36 3 0 ∧ MV I1 ∧ I 36 3 = I1 110 6 ∧ (-2147483648 ≤ I 36 3 ∧ I 36 3 < 2147483648) ∧ QR T (u2 (m_thr I1 0) 110 6 0) R := by
  have ht := h.2.2.2.2.2.2.2.1
  have hv := h.2.2.2.2.1.2.2.1
  have h6 : I 36 3 = I 110 6 := ht.1
  have hv6 := hv.1
  have eW : ∀ a j, u2 (m_thr (u2 I 36 3 0) 0) 110 6 0 a j = if a = 110 ∧ j = 6 then 0 else if a = 110 ∧ j = 0 then 0 else if a = 36 ∧ j = 3 then 0 else I a j := fun a j => by
    unfold m_thr
    simp only [u2_if]
  refine ⟨_, rfl, MV_ne h.2.2.2.2.1 (fun a ha => u2_ne (by omega)), by rw [u2_ne (by decide)]; exact h6, by omega, ?_⟩
  refine QR_txt h (XV_of (XV_empty h.2.2.2.1) (fun a ha => by
    funext j
    rw [eW, if_neg (by omega), if_neg (by omega), u2_if])) (fun a h1 h2 h3 h4 => by
    funext j
    rw [eW, if_neg (by omega), if_neg (by omega), if_neg (by omega)]) (by rw [eW, if_neg (by omega), if_neg (by omega), if_neg (by omega)]) ⟨by rw [eW, if_pos ⟨rfl, rfl⟩]; decide, fun j hj => ?_⟩ ⟨by rw [eW, eW, if_neg (by omega), if_neg (by omega), if_pos ⟨rfl, rfl⟩, if_pos ⟨rfl, rfl⟩], fun j hj => ?_⟩
  · rw [eW, if_neg (by omega), if_neg (by omega), if_neg (by omega)]
    exact hv.2 j hj
  · rw [eW, if_pos ⟨rfl, rfl⟩] at hj
    omega
/-- a text is scanned and read alike -/
theorem scan_sim {I M : Nat → Nat → Int} (hT : TXR I M) (hv : TV M) (hx : XV I) :
    (∃ w : Nat, m_rb M 110 19 = (w : Int) ∧ (f_scan I 36).1 = w ∧ (f_tells I 36).1 = 0) ∨ (m_rb M 110 19 = -1 ∧ (f_scan I 36).1 = M 110 6 ∧ (f_tells I 36).1 = 1 ∧ ORD (f_tells I 36).2 (m_rb M)) := by
  obtain ⟨r1, r2, r3, r4, r5⟩ := rb0_ok hv
  have hv6 := hv.1
  have e : ∀ j, m_rb0 M 110 j = if j = 19 then -1 else if j = 18 then 0 else if j = 17 then 0 else M 110 j := fun j => by unfold m_rb0; rw [u2k, u2k, u2k]
  have e114 : m_rb0 M 114 = M 114 := by unfold m_rb0; rw [u2_ne (by decide), u2_ne (by decide), u2_ne (by decide)]
  have eI : ∀ a j, f_begin (u2 I 36 4 0) 36 a j = if a = 36 ∧ j = 8 then -1 else if a = 36 ∧ j = 6 then 0 else if a = 36 ∧ j = 5 then 0 else if a = 36 ∧ j = 4 then 0 else I a j := fun a j => by
    unfold f_begin
    simp only [u2_if]
  have e6 : m_rb0 M 110 6 = M 110 6 := by rw [e, if_neg (by decide), if_neg (by decide), if_neg (by decide)]
  have e18 : m_rb0 M 110 18 = 0 := by rw [e, if_neg (by decide), if_pos rfl]
  have e17 : m_rb0 M 110 17 = 0 := by rw [e, if_neg (by decide), if_neg (by decide), if_pos rfl]
  have s := rb_sim 61 (f_begin (u2 I 36 4 0) 36) (m_rb0 M) 0 (I 36 3).toNat 0 ⟨by rw [eI, if_neg (by omega), if_neg (by omega), if_neg (by omega), if_neg (by omega), e6]; exact hT.1, fun q hq => by rw [eI, if_neg (by omega), if_neg (by omega), if_neg (by omega), if_neg (by omega), e114]; exact hT.2 q (by omega)⟩ r1 r2 r4 (by rw [e18]; rfl) r3 (by rw [e17]; rfl) (by rw [e6, hT.1]; omega) (by rw [eI, if_neg (by omega), if_neg (by omega), if_pos ⟨rfl, rfl⟩]) (by rw [eI, if_neg (by omega), if_pos ⟨rfl, rfl⟩]) (by rw [eI, if_pos ⟨rfl, rfl⟩]) ⟨by rw [eI, if_neg (by omega), if_neg (by omega), if_neg (by omega), if_pos ⟨rfl, rfl⟩, e17], fun q hq => by rw [e17] at hq; omega⟩ r5
  rcases s with ⟨w, w1, w2⟩ | ⟨w1, w2, w3, w4⟩
  · exact Or.inl ⟨w, w1, w2.1, w2.2⟩
  · exact Or.inr ⟨w1, by rw [e6] at w2; exact w2, w3, w4⟩
theorem scan_ne {I : Nat → Nat → Int} (hx : XV I) : (∀ a, a ≠ 36 → a ≠ 38 → a ≠ 39 → (f_scan I 36).2 a = I a) ∧ (f_scan I 36).2 36 3 = I 36 3 := (TxV_scan hx.2.2.2.1).2
theorem ml_firstError {T : Nat → Nat × Nat} {I : Nat → Nat → Int} {J : Nat → Nat → Int64} {R : Nat → Nat → Option Nat} (h : QR T I R) : ∃ I1 : Nat → Nat → Int, I1 = (f_scan I 36).2 ∧ MV I1 ∧ (f_scan I 36).1 = m_first I1 ∧ (-2147483648 ≤ (f_scan I 36).1 ∧ (f_scan I 36).1 < 2147483648) ∧ QR T (m_rb (m_thr I1 0)) R := by
  have ht := h.2.2.2.2.2.2.2.1
  have hv := h.2.2.2.2.1.2.2.1
  have hx := h.2.2.2.1
  obtain ⟨n1, n2⟩ := scan_ne hx
  have hm : MV (f_scan I 36).2 := MV_ne h.2.2.2.2.1 (fun a ha => n1 a (by omega) (by omega) (by omega))
  have hq : QR T (f_scan I 36).2 R := QR_txt h (XV_scan hx) (fun a h1 _ _ _ => n1 a (by omega) (by omega) (by omega)) (by rw [n1 110 (by decide) (by decide) (by decide)]) hm.2.2.1 ⟨by rw [n2, n1 110 (by decide) (by decide) (by decide)]; exact ht.1, fun j hj => by
    rw [n1 110 (by decide) (by decide) (by decide)] at hj
    rw [n1 37 (by decide) (by decide) (by decide), n1 114 (by decide) (by decide) (by decide)]
    exact ht.2 j hj⟩
  have hr := f_scan_rg hx.2.2.2.1
  refine ⟨_, rfl, hm, ?_, by omega, QR_MK hq (MK_thr.tr MK_rb)⟩
  have e6 : m_thr (f_scan I 36).2 0 110 6 = I 110 6 := by rw [thr_110 (by decide), n1 110 (by decide) (by decide) (by decide)]
  have e114 : m_thr (f_scan I 36).2 0 114 = I 114 := by rw [thr_111 (by decide), n1 114 (by decide) (by decide) (by decide)]
  have rk := RK_rb (I := m_thr (f_scan I 36).2 0)
  have e9 : m_rb (m_thr (f_scan I 36).2 0) 110 6 = I 110 6 := by rw [rk.2 6 (by decide) (by decide) (by decide), e6]
  unfold m_first
  rw [e9]
  rcases scan_sim (I := I) (M := m_thr (f_scan I 36).2 0) ⟨by rw [e6]; exact ht.1, fun j hj => by rw [e114]; exact ht.2 j (by omega)⟩ (thr_TV hm.2.2.1) hx with ⟨w, w1, w2, w3⟩ | ⟨w1, w2, w3, w4⟩
  · rw [if_neg (by omega), w2, w1]
  · rw [if_pos w1, w2, e6]
