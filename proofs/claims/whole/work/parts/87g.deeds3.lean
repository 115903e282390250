/-! deeds that build the map anew -/
/-- after building: the map is as laid -/
theorem build_rel {I : Nat → Nat → Int} {J : Nat → Nat → Int64} {z : Nat → Int} (hx : XV I) (hS : SRel I 1 z) (hW : WF z) : MR (f_build I J 7 1).1 7 z ∧ (∀ a, a < 7 ∨ 35 ≤ a → (f_build I J 7 1).1 a = I a) ∧ XV (f_build I J 7 1).1 := by
  have ne : ∀ a, a < 7 ∨ 35 ≤ a → (f_build I J 7 1).1 a = I a := fun a ha => f_build_ne (by decide) hx.2.1 hx.1.1 hx.1.2.2.1 hx.1.2.2.2.1 (by omega)
  exact ⟨build_MR (by decide) hx.2.1 hx.1 hS.1 hS.2.2.2.1 hS.2.2.2.2.1 hW.2.2.2.2, ne, (XV_build hx).1⟩
theorem end_RLx {T : Nat → Nat × Nat} {I O X : Nat → Nat → Int} {J J1 : Nat → Nat → Int64} {R : Nat → Nat → Option Nat} {y : (Nat → Nat → Int) → Int × (Nat → Nat → Int)} (h : QR T I R) (hxO : XV O) (hO : ∀ a, a = 0 ∨ 7 ≤ a → O a = f_save I R a) (hX : ∀ a, a ≠ 111 → X a = m_sav1 (f_build O J1 7 1).1 a) (hzX : ZV X) (hS : SRel O 1 (X 111)) (hW : WF (X 111)) (hy : y (f_build O J1 7 1).1 = y_end X) : RLx T 0 (f_build O J1 7 1).1 y (u2 J 124 0 (iz ((f_build O J1 7 1).1 7 6)).toInt64) (f_saveR I R) := by
  have hx := h.2.2.2.1
  have hk := h.1
  have ht := h.2.2.2.2.2.2.2.1
  have hmv := h.2.2.2.2.1
  obtain ⟨b1, b2, b3⟩ := build_rel (J := J1) hxO hS hW
  generalize (f_build O J1 7 1).1 = I1 at hX hy b1 b2 b3 ⊢
  have n1 : ∀ a, a = 0 ∨ 35 ≤ a → I1 a = f_save I R a := fun a ha => by rw [b2 a (by omega), hO a (by omega)]
  have n2 : ∀ a, 35 ≤ a ∧ a < 74 ∨ 110 ≤ a → I1 a = I a := fun a ha => by rw [n1 a (by omega), fsave_ne hk hx (by omega)]
  have hI : ∀ a, 110 ≤ a → I1 a = I a := fun a ha => n2 a (Or.inr ha)
  obtain ⟨s1, s2, s3, s4, s5, s6, s7, s8, s9⟩ := sav_all hI hmv
  obtain ⟨t1, t2, t3⟩ := thr_M hI
  have hbX : HB X := HB_ne s3 (hX 121 (by decide)) (hX 122 (by decide))
  have hm := b1 X hzX hbX (fun _ _ _ _ => rfl)
  have el : m_lay X 111 = X 111 := lay_ne (by decide)
  have w110 : ∀ j, j ≠ 7 → m_lay X 110 j = m_sav1 I1 110 j := fun j hj => by rw [lay_110 hj, hX 110 (by decide)]
  have w112 : m_lay X 112 = m_sav1 I1 112 := by rw [lay_ne (by decide), hX 112 (by decide)]
  have w114 : m_lay X 114 = I 114 := by rw [lay_ne (by decide), hX 114 (by decide), s5]
  have hlow : ∀ a, a < 110 → m_lay X a = I1 a := fun a ha => by rw [lay_ne (by omega), hX a (by omega), s4 a ha]
  have ey : y I1 = (m_lay X 110 7, m_lay X) := hy
  refine RLx_save (M := m_thr I1 0) (W := m_lay X) (v := m_lay X 110 7) h ey b3 hI (fun a ha => n1 a (by omega)) t1 t2 t3 hlow (by rw [w110 0 (by decide)]; exact s6) (by rw [w110 3 (by decide)]; exact s8) (by rw [w112]; exact s9) (TV_of hmv.2.2.1 (by rw [w110 6 (by decide), s7]) w114) (TRel_of ht (by rw [hlow 36 (by decide), n2 36 (by decide)]) (by rw [hlow 37 (by decide), n2 37 (by decide)]) (by rw [w110 6 (by decide), s7]) w114) (ZV_lay hzX) (lay_HB hzX hbX) (by rw [el]; exact SRel_of (fun a h1 h2 => b2 a (by omega)) (fun _ _ => rfl) hzX.1.2 hS) (by rw [el]; exact hW) (by rw [el]; exact b1) (by rw [u2_at, hm.1])
theorem ml_fail {T : Nat → Nat × Nat} {I : Nat → Nat → Int} {J : Nat → Nat → Int64} {R : Nat → Nat → Option Nat} (h : QR T I R) (p : Int) (h_p : -2147483648 ≤ p ∧ p < 2147483648) (q : Int) (h_q : -2147483648 ≤ q ∧ q < 2147483648) : (x_fail I p q = none → RLx T 0 ((w_fail I J R (p * 24 + q)).1) (fun I9 => y_fail I9 p q) (u2 ((w_fail I J R (p * 24 + q)).2) 124 0 (iz ((w_fail I J R (p * 24 + q)).1 7 6)).toInt64) (f_saveR I R)) ∧ (x_fail I p q = some xIAE → RLx T 1 (I) (fun I9 => y_fail I9 p q) J R) ∧ (x_fail I p q = some xISE → RLx T 2 (I) (fun I9 => y_fail I9 p q) J R) := by
  have hx := h.2.2.2.1
  have hk := h.1
  have hmv := h.2.2.2.2.1
  have hs := h.2.2.2.2.2.1
  have hwf := h.2.2.2.2.2.2.1
  unfold x_fail
  by_cases hp : (0 ≤ p ∧ p < 24) ∧ 0 ≤ q ∧ q < 24
  · rw [if_pos hp]
    have ec := can_eq hs hmv.1 (x := p * 24 + q) (by omega)
    by_cases hc : f_can I 1 (p * 24 + q) = 0
    · rw [if_pos hc]
      refine ⟨fun q => absurd q xs, fun q => absurd q x32, fun _ => ?_⟩
      refine RLx_thr h (by decide) ?_
      unfold y_fail
      rw [if_pos (by omega), if_pos (by rw [show 24 * p + q = p * 24 + q by omega, ← ec]; exact hc)]
    · rw [if_neg hc]
      refine ⟨fun _ => ?_, fun q => absurd q xn, fun q => absurd q xn⟩
      unfold w_fail
      have hc2 : ¬ m_can I (p * 24 + q) = 0 := by rw [← ec]; exact hc
      have epq : (((24 * p + q).toNat : Nat) : Int) = p * 24 + q := by omega
      have hSs : SRel (f_save I R) 1 (I 111) := SRel_of (fun a h1 h2 => fsave_ne hk hx (by omega)) (fun _ _ => rfl) hmv.1.1.2 hs
      have hxO : XV (f_addSpot (f_save I R) 1 (p * 24 + q)) := XV_addSpot (XV_save hk hx)
      have hI : ∀ a, 110 ≤ a → (f_build (f_addSpot (f_save I R) 1 (p * 24 + q)) J 7 1).1 a = I a := fun a ha => by
        rw [f_build_ne (by decide) hxO.2.1 hxO.1.1 hxO.1.2.2.1 hxO.1.2.2.2.1 (by omega), f_addSpot_ne (by omega), fsave_ne hk hx (by omega)]
      obtain ⟨s1, s2, s3, s4, s5, s6, s7, s8, s9⟩ := sav_all hI hmv
      have hcs : ¬ m_can (m_sav1 (f_build (f_addSpot (f_save I R) 1 (p * 24 + q)) J 7 1).1) (((24 * p + q).toNat : Nat) : Int) = 0 := by
        unfold m_can at hc2 ⊢
        rw [spotAt_ne s1, s1, epq]
        exact hc2
      have ar := add_rel (I := f_save I R) (M := m_sav1 (f_build (f_addSpot (f_save I R) 1 (p * 24 + q)) J 7 1).1) (k := 1) (c := (24 * p + q).toNat) (by rw [s1]; exact hSs) (by rw [s1]; exact hwf) s2 (by omega) hcs
      obtain ⟨c1, c2⟩ := m_can_of hcs
      have hzX := failIt_ZV s2 (c := (24 * p + q).toNat) (by omega) c1 c2
      rw [epq] at ar
      refine end_RLx h hxO (fun a ha => f_addSpot_ne (by omega)) (fun a ha => failIt_ne ha) hzX ar.1 ar.2 ?_
      unfold y_fail
      have hcc : ¬ m_can (f_build (f_addSpot (f_save I R) 1 (p * 24 + q)) J 7 1).1 (24 * p + q) = 0 := by
        unfold m_can at hc2 ⊢
        rw [spotAt_ne (hI 111 (by decide)), hI 111 (by decide), show 24 * p + q = p * 24 + q by omega]
        exact hc2
      rw [if_pos (by omega), if_neg hcc]
  · rw [if_neg hp]
    refine ⟨fun q => absurd q xs, fun _ => ?_, fun q => absurd q x23⟩
    refine RLx_thr h (by decide) ?_
    unfold y_fail
    rw [if_neg (by omega)]
theorem ml_heal {T : Nat → Nat × Nat} {I : Nat → Nat → Int} {J : Nat → Nat → Int64} {R : Nat → Nat → Option Nat} (h : QR T I R) (p : Int) (h_p : -2147483648 ≤ p ∧ p < 2147483648) (q : Int) (h_q : -2147483648 ≤ q ∧ q < 2147483648) : (x_heal I p q = none → RLx T 0 ((w_heal I J R (p * 24 + q)).1) (fun I9 => y_heal I9 p q) (u2 ((w_heal I J R (p * 24 + q)).2) 124 0 (iz ((w_heal I J R (p * 24 + q)).1 7 6)).toInt64) (f_saveR I R)) ∧ (x_heal I p q = some xIAE → RLx T 1 (I) (fun I9 => y_heal I9 p q) J R) ∧ (x_heal I p q = some xISE → RLx T 2 (I) (fun I9 => y_heal I9 p q) J R) := by
  have hx := h.2.2.2.1
  have hk := h.1
  have hmv := h.2.2.2.2.1
  have hs := h.2.2.2.2.2.1
  have hwf := h.2.2.2.2.2.2.1
  unfold x_heal
  by_cases hp : (0 ≤ p ∧ p < 24) ∧ 0 ≤ q ∧ q < 24
  · rw [if_pos hp]
    have ec := spotAt_eq hs hmv.1 (p * 24 + q)
    by_cases hc : f_spotAt I 1 (p * 24 + q) = -1
    · rw [if_pos hc]
      refine ⟨fun q => absurd q xs, fun q => absurd q x32, fun _ => ?_⟩
      refine RLx_thr h (by decide) ?_
      unfold y_heal
      rw [if_pos (by omega), if_pos (by rw [show 24 * p + q = p * 24 + q by omega, ← ec]; exact hc)]
    · rw [if_neg hc]
      refine ⟨fun _ => ?_, fun q => absurd q xn, fun q => absurd q xn⟩
      unfold w_heal
      have hc2 : ¬ m_spotAt I (p * 24 + q) = -1 := by rw [← ec]; exact hc
      have hSs : SRel (f_save I R) 1 (I 111) := SRel_of (fun a h1 h2 => fsave_ne hk hx (by omega)) (fun _ _ => rfl) hmv.1.1.2 hs
      have hxO : XV (f_removeSpot (f_save I R) 1 (p * 24 + q)) := XV_removeSpot (XV_save hk hx)
      have hI : ∀ a, 110 ≤ a → (f_build (f_removeSpot (f_save I R) 1 (p * 24 + q)) J 7 1).1 a = I a := fun a ha => by
        rw [f_build_ne (by decide) hxO.2.1 hxO.1.1 hxO.1.2.2.1 hxO.1.2.2.2.1 (by omega), f_removeSpot_ne (by omega) (by omega), fsave_ne hk hx (by omega)]
      obtain ⟨s1, s2, s3, s4, s5, s6, s7, s8, s9⟩ := sav_all hI hmv
      have hcs : ¬ m_spotAt (m_sav1 (f_build (f_removeSpot (f_save I R) 1 (p * 24 + q)) J 7 1).1) (p * 24 + q) = -1 := by
        rw [spotAt_ne s1]
        exact hc2
      have ar := remove_rel (I := f_save I R) (M := m_sav1 (f_build (f_removeSpot (f_save I R) 1 (p * 24 + q)) J 7 1).1) (k := 1) (x := p * 24 + q) (by rw [s1]; exact hSs) (by rw [s1]; exact hwf) s2 hcs
      have hzX := healIt_ZV s2 hcs
      refine end_RLx h hxO (fun a ha => f_removeSpot_ne (by omega) (by omega)) (fun a ha => healIt_ne ha) hzX ar.1 ar.2 ?_
      unfold y_heal
      rw [if_pos (by omega), show 24 * p + q = p * 24 + q by omega, if_neg (by rw [spotAt_ne (hI 111 (by decide))]; exact hc2)]
  · rw [if_neg hp]
    refine ⟨fun q => absurd q xs, fun _ => ?_, fun q => absurd q x23⟩
    refine RLx_thr h (by decide) ?_
    unfold y_heal
    rw [if_neg (by omega)]
theorem fits_eq {p v : Int} (hp : 0 ≤ p ∧ p < 3) : ¬ f_fits p v = 0 ↔ m_lo p ≤ v ∧ v ≤ m_hi p := by
  obtain ⟨n, rfl⟩ : ∃ n : Nat, p = (n : Int) := ⟨p.toNat, by omega⟩
  have hn : n = 0 ∨ n = 1 ∨ n = 2 := by omega
  unfold f_fits m_lo m_hi
  rcases hn with rfl | rfl | rfl
  · simp [q_sv]
  · simp [q_sv]
  · simp [q_sv]
theorem ml_set {T : Nat → Nat × Nat} {I : Nat → Nat → Int} {J : Nat → Nat → Int64} {R : Nat → Nat → Option Nat} (h : QR T I R) (p : Int) (h_p : -2147483648 ≤ p ∧ p < 2147483648) (v : Int) (h_v : -2147483648 ≤ v ∧ v < 2147483648) : (x_set p v = none → RLx T 0 ((w_set I J R p v).1) (fun I9 => y_set I9 p v) (u2 ((w_set I J R p v).2) 124 0 (iz (f_save I R (1 + 2) p.toNat)).toInt64) (f_saveR I R)) ∧ (x_set p v = some xIOB → RLx T 1 (I) (fun I9 => y_set I9 p v) J R) ∧ (x_set p v = some xIAE → RLx T 2 (I) (fun I9 => y_set I9 p v) J R) := by
  have hx := h.2.2.2.1
  have hk := h.1
  have ht := h.2.2.2.2.2.2.2.1
  have hmv := h.2.2.2.2.1
  have hs := h.2.2.2.2.2.1
  have hwf := h.2.2.2.2.2.2.1
  unfold x_set
  by_cases hp : 0 ≤ p ∧ p < 3
  · rw [if_pos hp]
    by_cases hc : f_fits p v = 0
    · rw [if_pos hc]
      refine ⟨fun q => absurd q xs, fun q => absurd q x21, fun _ => ?_⟩
      refine RLx_thr h (by decide) ?_
      unfold y_set
      rw [if_pos (by omega), if_neg (fun q => (fits_eq hp).mpr q hc)]
    · rw [if_neg hc]
      refine ⟨fun _ => ?_, fun q => absurd q xn, fun q => absurd q xn⟩
      unfold w_set
      have hlh := (fits_eq hp).mp hc
      have hlo : 0 ≤ m_lo p ∧ (p = 0 → m_lo p = 3) := by
        unfold m_lo
        constructor
        · split
          · decide
          · split <;> decide
        · intro q; rw [if_pos q]
      have hhi : m_hi p ≤ 8 ∧ (p = 2 → m_hi p = 6) := by
        unfold m_hi
        constructor
        · split <;> decide
        · intro q; rw [if_neg (by omega)]
      have hxO : XV (f_changeSetting (f_save I R) 1 p v) := XV_set (XV_save hk hx) hc
      have eO : ∀ a j, f_changeSetting (f_save I R) 1 p v a j = if a = 3 ∧ j = p.toNat then v else f_save I R a j := fun a j => by
        unfold f_changeSetting
        rw [if_pos hp, u2_if]
      have hO : ∀ a, a ≠ 3 → f_changeSetting (f_save I R) 1 p v a = f_save I R a := fun a ha => by
        funext j
        rw [eO, if_neg (by omega)]
      have eU : ∀ j, u2 (fun _ => I 111) 111 p.toNat v 111 j = if j = p.toNat then v else I 111 j := fun j => by rw [u2k]
      have hS9 : SRel (f_changeSetting (f_save I R) 1 p v) 1 (u2 (fun _ => I 111) 111 p.toNat v 111) := by
        obtain ⟨a1, a2, a3, a4, a5, a6, a7, a8⟩ := hs
        have hf : ∀ a, 1 ≤ a → a < 7 → f_save I R a = I a := fun a h1 h2 => fsave_ne hk hx (by omega)
        refine ⟨?_, ?_, ?_, fun j hj => ?_, fun j hj => ?_, fun j hj => ?_, fun j hj => ?_, fun j hj => ?_⟩
        · rw [hO 1 (by decide), hf 1 (by decide) (by decide), eU, if_neg (by omega)]; exact a1
        · rw [hO 1 (by decide), hf 1 (by decide) (by decide), eU, if_neg (by omega)]; exact a2
        · rw [hO 1 (by decide), hf 1 (by decide) (by decide), eU, if_neg (by omega)]; exact a3
        · rw [eU, if_neg (by omega)] at hj
          rw [hO 2 (by decide), hf 2 (by decide) (by decide), eU, if_neg (by omega)]; exact a4 j hj
        · rw [eU, eO, hf 3 (by decide) (by decide)]
          by_cases hj2 : j = p.toNat
          · rw [if_pos ⟨rfl, hj2⟩, if_pos hj2]
          · rw [if_neg (fun q => hj2 q.2), if_neg hj2]; exact a5 j hj
        · rw [hO 4 (by decide), hf 4 (by decide) (by decide), eU, if_neg (by omega)]; exact a6 j hj
        · rw [hO 5 (by decide), hf 5 (by decide) (by decide), eU, if_neg (by omega)]; exact a7 j hj
        · rw [hO 6 (by decide), hf 6 (by decide) (by decide), eU, if_neg (by omega)]; exact a8 j hj
      have hW9 : WF (u2 (fun _ => I 111) 111 p.toNat v 111) := by
        obtain ⟨h1, h2⟩ := WF_iff.mp hwf
        obtain ⟨r1, r2⟩ := ZV_P hmv.1
        refine WF_iff.mpr ⟨WW_of r1 r2 (fun b hb => by (try dsimp only); rw [eU, if_neg (by omega)]) (fun b hb => by (try dsimp only); rw [eU, if_neg (by omega)]) (fun b hb => by (try dsimp only); rw [eU, if_neg (by omega)]) h1, ?_⟩
        rw [eU]
        by_cases h0 : 0 = p.toNat
        · rw [if_pos h0]
          have := hlo.2 (by omega)
          omega
        · rw [if_neg h0]; exact h2
      obtain ⟨b1, b2, b3⟩ := build_rel (J := J) hxO hS9 hW9
      have key0 : (f_save I R) (1 + 2) p.toNat = I 111 p.toNat := by
        rw [fsave_ne hk hx (by omega)]
        exact hs.2.2.2.2.1 p.toNat (by omega)
      have hz9 : ∀ M, M 111 = I 111 → ZV M → ZV (u2 M 111 p.toNat v) := fun M e hz => by
        obtain ⟨z1, z2, z3, z4, z5, z6, z7, z8, z9⟩ := hz
        have eM : ∀ j, u2 M 111 p.toNat v 111 j = if j = p.toNat then v else M 111 j := fun j => u2k j
        unfold ZV
        simp only [eM]
        refine ⟨?_, fun j hj => ?_, fun j hj => ?_, fun i j hi hj => ?_, fun j hj => ?_, ?_, fun j hj => ?_, fun j hj => ?_, fun j hj => ?_⟩
        · rw [if_neg (by omega)]; exact z1
        · rw [if_neg (by omega)]; exact z2 j hj
        · rw [if_neg (by omega)] at hj
          rw [if_neg (by omega)]; exact z3 j hj
        · rw [if_neg (by omega)] at hi hj
          rw [if_neg (by omega), if_neg (by omega)]; exact z4 i j hi hj
        · by_cases hj2 : j = p.toNat
          · rw [if_pos hj2]; omega
          · rw [if_neg hj2]; exact z5 j hj
        · by_cases hj2 : 2 = p.toNat
          · rw [if_pos hj2]
            have := hhi.2 (by omega)
            omega
          · rw [if_neg hj2]; exact z6
        · rw [if_neg (by omega)]; exact z7 j hj
        · rw [if_neg (by omega)]; exact z8 j hj
        · rw [if_neg (by omega)]; exact z9 j hj
      rw [key0]
      generalize f_build (f_changeSetting (f_save I R) 1 p v) J 7 1 = r at b1 b2 b3 ⊢
      have n1 : ∀ a, a = 0 ∨ 35 ≤ a → r.1 a = f_save I R a := fun a ha => by rw [b2 a (by omega), hO a (by omega)]
      have n2 : ∀ a, 35 ≤ a ∧ a < 74 ∨ 110 ≤ a → r.1 a = I a := fun a ha => by rw [n1 a (by omega), fsave_ne hk hx (by omega)]
      have hI : ∀ a, 110 ≤ a → r.1 a = I a := fun a ha => n2 a (Or.inr ha)
      obtain ⟨s1, s2, s3, s4, s5, s6, s7, s8, s9⟩ := sav_all hI hmv
      obtain ⟨t1, t2, t3⟩ := thr_M hI
      have ey : y_set r.1 p v = (I 111 p.toNat, u2 (m_sav1 r.1) 111 p.toNat v) := by
        unfold y_set
        rw [if_pos (by omega), if_pos hlh, s1]
      have e111 : u2 (m_sav1 r.1) 111 p.toNat v 111 = u2 (fun _ => I 111) 111 p.toNat v 111 := by
        rw [u2_eq, u2_eq, s1]
      have wne : ∀ a, a ≠ 111 → u2 (m_sav1 r.1) 111 p.toNat v a = m_sav1 r.1 a := fun a ha => u2_ne ha
      have hlow : ∀ a, a < 110 → u2 (m_sav1 r.1) 111 p.toNat v a = r.1 a := fun a ha => by rw [wne a (by omega), s4 a ha]
      exact RLx_save (M := m_thr r.1 0) (W := u2 (m_sav1 r.1) 111 p.toNat v) (v := I 111 p.toNat) h ey b3 hI (fun a ha => n1 a (by omega)) t1 t2 t3 hlow (by rw [wne 110 (by decide)]; exact s6) (by rw [wne 110 (by decide)]; exact s8) (by rw [wne 112 (by decide)]; exact s9) (TV_of hmv.2.2.1 (by rw [wne 110 (by decide)]; exact s7) (by rw [wne 114 (by decide)]; exact s5)) (TRel_of ht (by rw [hlow 36 (by decide), n2 36 (by decide)]) (by rw [hlow 37 (by decide), n2 37 (by decide)]) (by rw [wne 110 (by decide)]; exact s7) (by rw [wne 114 (by decide)]; exact s5)) (hz9 _ s1 s2) (HB_ne s3 (wne 121 (by decide)) (wne 122 (by decide))) (by rw [e111]; exact SRel_of (fun a h1 h2 => b2 a (by omega)) (fun _ _ => rfl) (by rw [eU, if_neg (by omega)]; exact hmv.1.1.2) hS9) (by rw [e111]; exact hW9) (by rw [e111]; exact b1) u2_at
  · rw [if_neg hp]
    refine ⟨fun q => absurd q xs, fun _ => ?_, fun q => absurd q x12⟩
    refine RLx_thr h (by decide) ?_
    unfold y_set
    rw [if_neg (by omega)]
