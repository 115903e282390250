/-! between calls: how it is kept -/
theorem XV_of {I W : Nat → Nat → Int} (h : XV I) (e : ∀ a, a < 110 → W a = I a) : XV W := by
  obtain ⟨x1, x7, x46, x36, x40, x74, x3, xl, xl2⟩ := h
  exact ⟨StV_ne x1 (fun a h1 h2 => e a (by omega)), LmV_ne x7 (fun a h1 h2 => e a (by omega)), LmV_ne x46 (fun a h1 h2 => e a (by omega)), TxV_ne x36 (fun a h1 h2 => e a (by omega)), StV_ne x40 (fun a h1 h2 => e a (by omega)), fun i hi => StV_ne (x74 i hi) (fun a h1 h2 => e a (by omega)), by rw [e 0 (by decide)]; exact x3, LIN_ne xl x7 (fun a h1 h2 => e a (by omega)), LIN_ne xl2 x46 (fun a h1 h2 => e a (by omega))⟩
theorem QR_mk {T : Nat → Nat × Nat} {W : Nat → Nat → Int} {R : Nat → Nat → Option Nat} (h1 : ScB T R 125) (h2 : MdB T R 125) (h3 : T 124 = (10, 1)) (hx : XV W) (hz : ZV W) (hb : HB W) (hv : TV W) (h03 : W 0 3 = W 110 3) (hs : SRel W 1 (W 111)) (hw : WF (W 111)) (ht : TRel W) (hsv : SVR W R (W 110 3) (W 112)) (hm : MR W 7 (W 111)) : QR T W R :=
  ⟨h1, h2, h3, hx, ⟨hz, hb, hv, by rw [← h03]; exact hx.2.2.2.2.2.2.1, fun s hs => (hsv s hs).2.2⟩, hs, hw, ht, h03, fun s hs => ⟨(hsv s hs).1, (hsv s hs).2.1⟩, hm⟩
theorem QR_sv {T : Nat → Nat × Nat} {I : Nat → Nat → Int} {R : Nat → Nat → Option Nat} (h : QR T I R) : SVR I R (I 110 3) (I 112) := by
  obtain ⟨h1, h2, h3, hx, ⟨hz, hb, hv, hn, hsz⟩, hs, hw, ht, h03, hsv, hm⟩ := h
  exact fun s hs => ⟨(hsv s hs).1, (hsv s hs).2, hsz s hs⟩
theorem SVR_of {I W : Nat → Nat → Int} {R : Nat → Nat → Option Nat} {T : Nat → Nat × Nat} (hk : ScB T R 125) {n : Int} (hn : n ≤ 6) {Z : Nat → Int} (e : ∀ a, 74 ≤ a → a < 110 → W a = I a) (h : SVR I R n Z) : SVR W R n Z := by
  intro s hs
  obtain ⟨b1, b2, b3⟩ := h s hs
  obtain ⟨p1, i, hi, p2⟩ := f_sv_of hk (j := s) (by omega)
  exact ⟨SRel_of (fun a h1 h2 => e a (by omega) (by omega)) (fun _ _ => rfl) b3.1.2 b1, b2, b3⟩
/-- looking leaves it so -/
theorem QR_MK {T : Nat → Nat × Nat} {I W : Nat → Nat → Int} {R : Nat → Nat → Option Nat} (h : QR T I R) (k : MK I W) : QR T W R := by
  have hsv := QR_sv h
  obtain ⟨h1, h2, h3, hx, ⟨hz, hb, hv, hn, hsz⟩, hs, hw, ht, h03, -, hm⟩ := h
  obtain ⟨k1, k2, k3, k4⟩ := k
  have e : ∀ a, a < 110 → W a = I a := fun a ha => k2 a (Or.inl ha)
  refine QR_mk h1 h2 h3 (XV_of hx e) (ZV_eq hz k1) (k4 hz hb) (TV_MK hv ⟨k1, k2, k3, k4⟩) (by rw [e 0 (by decide), k3.1]; exact h03) (SRel_of (fun a _ h2 => e a (by omega)) k1 hz.1.2 hs) (WF_of hz k1 hw) ?_ ?_ (MR_of (fun a _ h2 => e a (by omega)) hx.2.1.2.2.2.2.2.2.2 (fun j hj _ _ => k1 j (by omega)) hm)
  · refine ⟨by rw [e 36 (by decide), k3.2]; exact ht.1, fun j hj => ?_⟩
    rw [k3.2] at hj
    rw [e 37 (by decide), k2 114 (by decide)]
    exact ht.2 j hj
  · rw [k3.1, k2 112 (by decide)]
    exact SVR_of h1 (by omega) (fun a _ ha => e a ha) hsv
/-- trying out on the object's trial leaves it so -/
theorem QR_try {T : Nat → Nat × Nat} {I W : Nat → Nat → Int} {R : Nat → Nat → Option Nat} (h : QR T I R) (ne : ∀ a, a < 40 ∨ 74 ≤ a → W a = I a) (hxW : XV W) : QR T W R := by
  have hsv := QR_sv h
  obtain ⟨h1, h2, h3, hx, ⟨hz, hb, hv, hn, hsz⟩, hs, hw, ht, h03, -, hm⟩ := h
  have e111 := ne 111 (by decide)
  have e110 := ne 110 (by decide)
  refine QR_mk h1 h2 h3 hxW (ZV_ne hz e111) (HB_ne hb (ne 121 (by decide)) (ne 122 (by decide))) ?_ (by rw [ne 0 (by decide), e110]; exact h03) (SRel_of (fun a _ h2 => ne a (by omega)) (fun j _ => by rw [e111]) hz.1.2 hs) (WF_of hz (fun j _ => by rw [e111]) hw) ?_ ?_ (MR_of (fun a _ h2 => ne a (by omega)) hx.2.1.2.2.2.2.2.2.2 (fun j _ _ _ => by rw [e111]) hm)
  · unfold TV
    rw [e110, ne 114 (by decide)]
    exact hv
  · unfold TRel
    rw [ne 36 (by decide), ne 37 (by decide), e110, ne 114 (by decide)]
    exact ht
  · rw [e110, ne 112 (by decide)]
    exact SVR_of h1 (by omega) (fun a h1 _ => ne a (by omega)) hsv
/-- the map that is laid now -/
theorem QR_map {T : Nat → Nat × Nat} {I M : Nat → Nat → Int} {R : Nat → Nat → Option Nat} (h : QR T I R) (hb : HB M) (he : ∀ j, j < 1554 → M 111 j = I 111 j) : MRel I 7 (m_lay M) ∧ SRel I 1 (m_lay M 111) ∧ WF (m_lay M 111) ∧ ZV (m_lay M) := by
  obtain ⟨h1, h2, h3, hx, ⟨hz, hb0, hv, hn, hsz⟩, hs, hw, ht, h03, -, hm⟩ := h
  have hzM : ZV M := ZV_eq hz he
  have e : m_lay M 111 = M 111 := lay_ne (by decide)
  refine ⟨hm M hzM hb (fun j h1 _ _ => he j (by omega)), ?_, ?_, ZV_lay hzM⟩
  · rw [e]
    exact SRel_of (fun _ _ _ => rfl) he hz.1.2 hs
  · rw [e]
    exact WF_of hz he hw
/-- after a deed that saves -/
theorem fin_save {T : Nat → Nat × Nat} {I M W : Nat → Nat → Int} {R : Nat → Nat → Option Nat} (h : QR T I R) (hM : ∀ j, j < 1554 → M 111 j = I 111 j) (hM3 : M 110 3 = I 110 3) (hM112 : M 112 = I 112) (hW74 : ∀ a, 74 ≤ a → a < 110 → W a = f_save I R a) (hW0 : W 0 3 = f_save I R 0 3) (hW3 : W 110 3 = m_save M 110 3) (hW112 : W 112 = m_save M 112) (hx : XV W) (hz : ZV W) (hb : HB W) (hv : TV W) (hs : SRel W 1 (W 111)) (hw : WF (W 111)) (ht : TRel W) (hm : MR W 7 (W 111)) : QR T W (f_saveR I R) := by
  have hsv := QR_sv h
  obtain ⟨h1, h2, h3, hxI, ⟨hzI, hbI, hvI, hn, hsz⟩, hsI, hwI, htI, h03, -, hmI⟩ := h
  have eR : f_saveR I R 110 = R 110 := by
    unfold f_saveR
    split
    · rfl
    · exact f_rot_ne (by decide) _ _ _
  have hsM : SRel I 1 (M 111) := SRel_of (fun _ _ _ => rfl) hM hzI.1.2 hsI
  have hS := save_SVR (M := M) (W := W) h1 hxI (by rw [hM3]; exact h03) hsM (WF_of hzI hM hwI) (ZV_eq hzI hM) (by rw [hM3, hM112]; exact hsv) hW74
  refine QR_mk (ScB_saveR h1) ?_ h3 hx hz hb hv ?_ hs hw ht (by rw [hW3, hW112]; exact hS) hm
  · unfold MdB
    rw [eR]
    exact h2
  · rw [hW0, hW3, fsave_0 h1 hxI, if_pos rfl, save_110, if_pos rfl, hM3]
    have g := hxI.2.2.2.2.2.2.1
    by_cases h9 : I 0 3 < 6
    · rw [if_pos h9, if_neg (by omega)]
      omega
    · rw [if_neg h9, if_pos (by omega)]
theorem sav_rows {M : Nat → Nat → Int} : (∀ a, a ≠ 110 → a ≠ 112 → m_sav1 M a = M a) ∧ m_sav1 M 110 0 = 0 ∧ (∀ j, j ≠ 0 → j ≠ 3 → m_sav1 M 110 j = M 110 j) ∧ m_sav1 M = m_save (m_thr M 0) := by
  refine ⟨fun a h1 h2 => sav1_111 h1 h2, ?_, fun j h1 h2 => ?_, rfl⟩
  · unfold m_sav1
    rw [save_110, if_neg (by decide), thr_0]
  · unfold m_sav1
    rw [save_110, if_neg h2, thr_110 h1]
theorem RLx_thr {T : Nat → Nat × Nat} {I : Nat → Nat → Int} {J : Nat → Nat → Int64} {R : Nat → Nat → Option Nat} (h : QR T I R) {c : Int} (hc : c ≠ 0) {y : (Nat → Nat → Int) → Int × (Nat → Nat → Int)} (hy : y I = (0, m_thr I c)) : RLx T c I y J R := by
  unfold RLx
  rw [hy]
  exact ⟨h.2.2.2.2.1, h.2.1, thr_0 (I := I) (t := c), fun q => absurd q hc, QR_MK h MK_thr⟩
/-- an answer of a look -/
theorem RLx_look {T : Nat → Nat × Nat} {I : Nat → Nat → Int} {J : Nat → Nat → Int64} {R : Nat → Nat → Option Nat} (h : QR T I R) {y : (Nat → Nat → Int) → Int × (Nat → Nat → Int)} {v : Int} (hv : v = (y I).1) (h0 : (y I).2 110 0 = 0) (hk : MK I (y I).2) : RLx T 0 I y (u2 J 124 0 (iz v).toInt64) R := by
  refine ⟨h.2.2.2.2.1, h.2.1, h0, fun _ => ?_, QR_MK h hk⟩
  rw [u2_at, hv]
theorem RLx_thr9 {T : Nat → Nat × Nat} {I : Nat → Nat → Int} {J : Nat → Nat → Int64} {R : Nat → Nat → Option Nat} (h : QR T I R) {c : Int} (hc : c ≠ 0) {y : (Nat → Nat → Int) → Int × (Nat → Nat → Int)} (h0 : (y I).2 110 0 = c) (hk : MK I (y I).2) : RLx T c I y J R :=
  ⟨h.2.2.2.2.1, h.2.1, h0, fun q => absurd q hc, QR_MK h hk⟩
theorem x12 : ¬ (some xIOB = some xIAE) := by decide
theorem x21 : ¬ (some xIAE = some xIOB) := by decide
theorem x13 : ¬ (some xIOB = some xISE) := by decide
theorem x31 : ¬ (some xISE = some xIOB) := by decide
theorem x23 : ¬ (some xIAE = some xISE) := by decide
theorem x32 : ¬ (some xISE = some xIAE) := by decide
theorem xn {X : String} : ¬ ((none : Option String) = some X) := by simp
theorem xs {X : String} : ¬ (some X = (none : Option String)) := by simp
