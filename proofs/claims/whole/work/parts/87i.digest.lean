/-! the hash -/
/-- the object I and the reference's world M, as they are looked at -/
def DG (I M : Nat → Nat → Int) : Prop := XV I ∧ SRel I 1 (M 111) ∧ WF (M 111) ∧ ZV M ∧ HB M ∧ I 0 3 = M 110 3 ∧ MR I 7 (M 111) ∧ TRel9 I M
where TRel9 (I M : Nat → Nat → Int) : Prop := I 36 3 = M 110 6 ∧ ∀ j : Nat, (j : Int) < M 110 6 → I 37 j = M 114 j
theorem DG_MK {I M M' : Nat → Nat → Int} (h : DG I M) (k : MK M M') : DG I M' := by
  obtain ⟨d1, d2, d3, d4, d5, d6, d7, d8⟩ := h
  obtain ⟨k1, k2, k3, k4⟩ := id k
  refine ⟨d1, SRel_of (fun _ _ _ => rfl) k1 d4.1.2 d2, WF_of d4 k1 d3, ZV_eq d4 k1, k4 d4 d5, by rw [k3.1]; exact d6, MR_of (fun _ _ _ => rfl) d1.2.1.2.2.2.2.2.2.2 (fun j hj _ _ => k1 j (by omega)) d7, ?_⟩
  unfold DG.TRel9 at d8 ⊢
  rw [k3.2, k2 114 (by decide)]
  exact d8
theorem DG_try {I I' M : Nat → Nat → Int} (h : DG I M) (ne : ∀ a, a < 40 ∨ 74 ≤ a → I' a = I a) (hx : XV I') : DG I' M := by
  obtain ⟨d1, d2, d3, d4, d5, d6, d7, d8⟩ := h
  refine ⟨hx, SRel_of (fun a _ h2 => ne a (by omega)) (fun _ _ => rfl) d4.1.2 d2, d3, d4, d5, by rw [ne 0 (by decide)]; exact d6, MR_of (fun a _ h2 => ne a (by omega)) d1.2.1.2.2.2.2.2.2.2 (fun _ _ _ _ => rfl) d7, ?_⟩
  unfold DG.TRel9 at d8 ⊢
  rw [ne 36 (by decide), ne 37 (by decide)]
  exact d8
theorem DG_map {I M : Nat → Nat → Int} (h : DG I M) : MRel I 7 (m_lay M) := h.2.2.2.2.2.2.1 M h.2.2.2.1 h.2.2.2.2.1 (fun _ _ _ _ => rfl)
theorem hL_cong {f g : Nat → Int} : ∀ (m i : Nat) (h : Int64), (∀ j, i ≤ j → j < i + m → f j = g j) → hL f m i h = hL g m i h
  | 0, _, _, _ => rfl
  | m + 1, i, h, e => by
    unfold hL
    rw [e i (by omega) (by omega), hL_cong m (i + 1) _ (fun j h1 h2 => e j (by omega) (by omega))]
theorem dc_eq {I : Nat → Nat → Int} : ∀ (f k : Nat) (M : Nat → Nat → Int) (h : Int64), DG I M → hL (f_num I) f k h = (m_dcL f k M h).1 ∧ DG I (m_dcL f k M h).2
  | 0, _, _, _, hd => ⟨rfl, hd⟩
  | f + 1, k, M, h, hd => by
    unfold hL m_dcL
    have e := num_eq (DG_map hd) hd.2.1 hd.2.2.2.1 hd.2.2.1 hd.2.2.2.2.2.1 k
    rw [e]
    exact dc_eq f (k + 1) _ _ (DG_MK hd MK_ctI)
theorem hLL_eq {I M : Nat → Nat → Int} (hS : SRel I 1 (M 111)) (hR : MRel I 7 M) : ∀ (f i : Nat) (h : Int64), (i : Int) + f ≤ M 110 7 → hLL I f i h = m_hLL M f i h
  | 0, _, _, _ => rfl
  | f + 1, i, h, hi => by
    unfold hLL m_hLL
    have e : hL (f_lp I (7 + 6 + i)) 6 0 h = hL (m_tl M i) 6 0 h := hL_cong 6 0 h (fun j _ _ => line_eq (hR.2.2.2.2 i (by omega)) hS hR j)
    rw [e, hLL_eq hS hR f (i + 1) _ (by omega)]
theorem hAv_eq {I M : Nat → Nat → Int} (hR : MRel I 7 M) : ∀ (f i : Nat) (h : Int64), i + f ≤ 576 → hAv I f i h = m_hAv M f i h
  | 0, _, _, _ => rfl
  | f + 1, i, h, hi => by
    unfold hAv m_hAv
    have e1 : f_hits I 7 (i : Int) = M 121 i := by
      unfold f_hits
      rw [if_pos (by omega), Int.toNat_natCast]
      exact hR.2.2.1 i (by omega)
    rw [avN_eq hR (by omega), e1, hAv_eq hR f (i + 1) _ (by omega), hAv_eq hR f (i + 1) _ (by omega)]
theorem hBl_eq {I M : Nat → Nat → Int} (hS : SRel I 1 (M 111)) (hW : WF (M 111)) : ∀ (f i : Nat) (h : Int64), i + f ≤ 480 → hBl I f i h = m_hBl M f i h
  | 0, _, _, _ => rfl
  | f + 1, i, h, hi => by
    unfold hBl m_hBl
    rw [hS.2.2.2.2.2.1 i (by omega), hS.2.2.2.2.2.2.1 i (by omega), hBl_eq hS hW f (i + 1) _ (by omega), hBl_eq hS hW f (i + 1) _ (by omega)]
    have w := hW.2.2.1 i (by omega)
    by_cases q : M 111 (498 + i) = -1
    · rw [if_pos (w.mpr q), if_pos q]
    · rw [if_neg (fun z => q (w.mp z)), if_neg q]
theorem mm_eq {I M : Nat → Nat → Int} (hd : DG I M) (h : Int64) : hBl I 480 0 (hAv I 576 0 (f_hsl I h)) = m_mm M h := by
  have hR := DG_map hd
  obtain ⟨d1, d2, d3, d4, d5, d6, d7, d8⟩ := hd
  have el : m_lay M 111 = M 111 := lay_ne (by decide)
  have z3 := d4.1
  have hS' : SRel I 1 (m_lay M 111) := by rw [el]; exact d2
  have e1 : hL (I (1 + 1)) (I 1 5).toNat 0 h = m_mm1 M h := by
    unfold m_mm1
    rw [d2.1]
    exact hL_cong _ _ _ (fun j _ hj => d2.2.2.2.1 j (by omega))
  have lv := lay_LV d4 d5
  unfold f_hsl m_mm m_mm2
  rw [e1, hR.1, hLL_eq hS' hR _ 0 _ (by have := lv.1; omega), hAv_eq hR 576 0 _ (by decide), hBl_eq hS' (by rw [el]; exact d3) 480 0 _ (by decide)]
/-- what one more spot would bring: the hashes of a cell -/
theorem mf_eq {I : Nat → Nat → Int} {J : Nat → Nat → Int64} {c : Nat} (hc : c < 576) : ∀ (f k : Nat) (M : Nat → Nat → Int) (h : Int64), DG I M → hL (fun w => if (f_try I J c).1 = 0 then -1 else f_fc (f_try I J c).2.1 w) f k h = (m_mfL c f k M h).1 ∧ DG I (m_mfL c f k M h).2
  | 0, _, _, _, hd => ⟨rfl, hd⟩
  | f + 1, k, M, h, hd => by
    unfold hL m_mfL
    have e := iff_eq (J := J) hd.1 hd.2.1 hd.2.2.1 hd.2.2.2.1 hd.2.2.2.2.1 hc k
    rw [e]
    exact mf_eq hc f (k + 1) _ _ (DG_MK hd (MK_wf hd.2.2.2.1 hc))
theorem mf_all {I M : Nat → Nat → Int} {J : Nat → Nat → Int64} (hd : DG I M) {c : Nat} (hc : c < 576) (h : Int64) : hL (fun w => if (f_try I J c).1 = 0 then -1 else f_fc (f_try I J c).2.1 w) 4 0 h = (m_mf c M h).1 ∧ DG (f_try I J c).2.1 (m_mf c M h).2 := by
  obtain ⟨a1, a2⟩ := mf_eq (J := J) hc 4 0 M h hd
  exact ⟨a1, DG_try a2 (fun a ha => f_try_ne hd.1 ha) (XV_try hd.1)⟩
theorem mf_x {I M : Nat → Nat → Int} {J : Nat → Nat → Int64} (hd : DG I M) {c : Nat} (hc : c < 576) {x : Int} (hx : x = (c : Int)) (h : Int64) : hL (fun w => if (f_try I J x).1 = 0 then -1 else f_fc (f_try I J x).2.1 w) 4 0 h = (m_mf c M h).1 ∧ DG (f_try I J x).2.1 (m_mf c M h).2 := by
  subst hx
  exact mf_all hd hc h
theorem hFc_s {m i : Nat} {h : Int64} {I : Nat → Nat → Int} {J : Nat → Nat → Int64} : hFc (m + 1) i h I J = hFc m (i + 1) (hL (fun w => if (f_try I J (q_sv 3 i)).1 = 0 then -1 else f_fc (f_try I J (q_sv 3 i)).2.1 w) 4 0 h) (f_try I J (q_sv 3 i)).2.1 (f_try I J (q_sv 3 i)).2.2 := by
  rw [hFc]
theorem hFc_0 {i : Nat} {h : Int64} {I : Nat → Nat → Int} {J : Nat → Nat → Int64} : hFc 0 i h I J = (h, I, J) := by
  rw [hFc]
theorem sv3 : q_sv 3 0 = 51 ∧ q_sv 3 1 = 250 ∧ q_sv 3 2 = 509 := by decide
theorem g8_eq {I M : Nat → Nat → Int} (hd : DG I M) (h : Int64) : f_htx I h = (g8 M h).1 := by
  obtain ⟨d1, d2, d3, d4, d5, d6, d7, d8⟩ := hd
  have t := d1.2.2.2.1.1
  unfold DG.TRel9 at d8
  unfold f_htx g8
  dsimp only
  rw [d8.1]
  exact hL_cong _ _ _ (fun j _ hj => d8.2 j (by omega))
theorem g7_eq {I M : Nat → Nat → Int} (hd : DG I M) (h : Int64) : dg9 I h = (g7 M h).1 := by
  have hR := DG_map hd
  have el : m_lay M 111 = M 111 := lay_ne (by decide)
  have eg := good_eq9 hR (by rw [el]; exact hd.2.1)
  have rg := good_rg hd.2.2.2.1
  unfold dg9 g7
  rw [eg, (shOkm_g _ rg).2]
  exact g8_eq (DG_MK hd MK_lay) _
theorem g5_eq {I M : Nat → Nat → Int} (hd : DG I M) (h : Int64) : dg9 (f_untidy I).2 (dg8 I h) = (g5 M h).1 := by
  have hR := DG_map hd
  have hd1 := DG_MK hd MK_lay
  have ew : f_worst I = m_wc M := ws_eq hR 576 0 (-1) (by decide) (Or.inl rfl)
  have hp : m_pa 1554 0 (m_lay M) 111 = m_lay M 111 := pa_ne _ _ _ _ (by decide)
  have hRp : MRel I 7 (m_lay (m_pa 1554 0 (m_lay M))) := hd1.2.2.2.2.2.2.1 _ (pa_ZV hd1.2.2.2.1) (pa_HB hd1.2.2.2.2.1) (fun j _ _ _ => by rw [hp])
  have eu := wm_eq (M := m_lay M) hd1.1 hd1.2.1 hd1.2.2.1 hd1.2.2.2.1 hd1.2.2.2.2.1 hRp
  have hd2 : DG I (m_wm (m_lay M)).2 := DG_MK hd1 (MK_wm hd1.2.2.2.1)
  have hd3 : DG (f_untidy I).2 (m_wm (m_lay M)).2 := DG_try hd2 (fun a ha => f_untidy_ne (by omega)) (XV_untidy hd.1)
  unfold g5 g6 dg8
  rw [ew, eu]
  exact g7_eq hd3 _
theorem digest_eq {I M : Nat → Nat → Int} {J : Nat → Nat → Int64} (hd0 : DG I M) : (f_digest I J).1 = (g1 M 2851).1 := by
  obtain ⟨c1, c2⟩ := dc_eq 10 0 M 2851 hd0
  have e2 : hL (I (1 + 2)) 3 0 (hL (f_num I) 10 0 2851) = hL (fun q => (m_dcL 10 0 M 2851).2 111 q) 3 0 (m_dcL 10 0 M 2851).1 := by
    rw [c1]
    exact hL_cong _ _ _ (fun j _ hj => c2.2.1.2.2.2.2.1 j (by omega))
  have e3 := mm_eq c2 (hL (I (1 + 2)) 3 0 (hL (f_num I) 10 0 2851))
  have hdl := DG_MK c2 MK_lay
  have e4 : dg4 I = m_mm (m_dcL 10 0 M 2851).2 (hL (fun q => (m_dcL 10 0 M 2851).2 111 q) 3 0 (m_dcL 10 0 M 2851).1) := by
    rw [← e2]
    exact e3
  unfold f_digest g1 g2 g3 g41 g42 g43
  dsimp only
  unfold dg5
  rw [e4]
  generalize m_mm (m_dcL 10 0 M 2851).2 (hL (fun q => (m_dcL 10 0 M 2851).2 111 q) 3 0 (m_dcL 10 0 M 2851).1) = h0
  generalize m_lay (m_dcL 10 0 M 2851).2 = M1 at hdl
  obtain ⟨f1, f2⟩ := mf_x (J := J) (x := 51) hdl (c := 51) (by decide) (by decide) h0
  rw [show (3 : Nat) = 2 + 1 from rfl, hFc_s, sv3.1, f1]
  generalize (f_try I J 51).2.1 = I1 at f2 ⊢
  generalize (f_try I J 51).2.2 = J1
  generalize m_mf 51 M1 h0 = r1 at f2 ⊢
  obtain ⟨f3, f4⟩ := mf_x (J := J1) (x := 250) f2 (c := 250) (by decide) (by decide) r1.1
  rw [show (2 : Nat) = 1 + 1 from rfl, show (0 + 1 : Nat) = 1 from rfl, hFc_s, sv3.2.1, f3]
  generalize (f_try I1 J1 250).2.1 = I2 at f4 ⊢
  generalize (f_try I1 J1 250).2.2 = J2
  generalize m_mf 250 r1.2 r1.1 = r2 at f4 ⊢
  obtain ⟨f5, f6⟩ := mf_x (J := J2) (x := 509) f4 (c := 509) (by decide) (by decide) r2.1
  rw [show (1 + 1 : Nat) = 2 from rfl, show hFc 1 2 r2.1 I2 J2 = hFc (0 + 1) 2 r2.1 I2 J2 from rfl, hFc_s, sv3.2.2, f5, hFc_0]
  dsimp only
  exact g5_eq f6 _
theorem MK_g7 {M : Nat → Nat → Int} {h : Int64} : MK M (g7 M h).2 := MK_lay
theorem MK_g5 {M : Nat → Nat → Int} {h : Int64} (hz : ZV M) : MK M (g5 M h).2 := by
  unfold g5 g6
  exact MK_lay.tr ((MK_wm (ZV_lay hz)).tr MK_g7)
theorem MK_g1 {M : Nat → Nat → Int} {h : Int64} (hz : ZV M) : MK M (g1 M h).2 := by
  have k1 := MK_dcL 10 0 M h hz
  have z1 := k1.zv hz
  unfold g1 g2 g3 g41 g42 g43
  refine k1.tr ?_
  generalize m_dcL 10 0 M h = r at z1
  refine MK_lay.tr ?_
  have z2 := ZV_lay z1
  generalize m_mm r.2 _ = h2
  generalize m_lay r.2 = M1 at z2
  have k2 := MK_mf (c := 51) (h := h2) (by decide) z2
  refine k2.tr ?_
  have z3 := k2.zv z2
  generalize m_mf 51 M1 h2 = r2 at z3
  have k3 := MK_mf (c := 250) (h := r2.1) (by decide) z3
  refine k3.tr ?_
  have z4 := k3.zv z3
  generalize m_mf 250 r2.2 r2.1 = r3 at z4
  have k4 := MK_mf (c := 509) (h := r3.1) (by decide) z4
  exact k4.tr (MK_g5 (k4.zv z4))
theorem digest_ne {I : Nat → Nat → Int} {J : Nat → Nat → Int64} (hx : XV I) : (∀ a, a < 40 ∨ 74 ≤ a → (f_digest I J).2.1 a = I a) ∧ XV (f_digest I J).2.1 := by
  have h1 := hFc_XV 3 0 (dg4 I) I J hx
  refine ⟨fun a ha => ?_, ?_⟩
  · show (f_untidy (dg5 I J).2.1).2 a = I a
    rw [f_untidy_ne (by omega)]
    exact hFc_ne 3 0 (dg4 I) I J a hx ha
  · show XV (f_untidy (dg5 I J).2.1).2
    exact XV_untidy h1
theorem ml_digest {T : Nat → Nat × Nat} {I : Nat → Nat → Int} {J : Nat → Nat → Int64} {R : Nat → Nat → Option Nat} (h : QR T I R) : (0 ≤ I 7 7 ∧ I 7 7 ≤ 580) ∧ MV (f_digest I J).2.1 ∧ (f_digest I J).1 = (m_digest (f_digest I J).2.1).1 ∧ QR T (m_digest (f_digest I J).2.1).2 R := by
  have hx := h.2.2.2.1
  obtain ⟨ne, hx1⟩ := digest_ne (J := J) hx
  have hq := QR_try h ne hx1
  obtain ⟨a1, a2, a3, a4, a5⟩ := QR_thr hq 0
  have h7 := (ml_goodShare (J := J) h).1
  refine ⟨h7, hq.2.2.2.2.1, ?_, ?_⟩
  · unfold m_digest
    have e : ∀ a, a ≠ 110 → m_thr (f_digest I J).2.1 0 a = (f_digest I J).2.1 a := fun a ha => thr_111 ha
    have e111 : m_thr (f_digest I J).2.1 0 111 = I 111 := by rw [e 111 (by decide), ne 111 (by decide)]
    have e110 : ∀ j, j ≠ 0 → m_thr (f_digest I J).2.1 0 110 j = I 110 j := fun j hj => by rw [thr_110 hj, ne 110 (by decide)]
    refine digest_eq ⟨hx, by rw [e111]; exact h.2.2.2.2.2.1, a3, a4, a5, by rw [e110 3 (by decide)]; exact h.2.2.2.2.2.2.2.2.1, by rw [e111]; exact h.2.2.2.2.2.2.2.2.2.2, ?_⟩
    unfold DG.TRel9
    rw [e110 6 (by decide), e 114 (by decide), ne 114 (by decide)]
    exact h.2.2.2.2.2.2.2.1
  · unfold m_digest
    exact QR_MK hq (MK_thr.tr (MK_g1 a4))
