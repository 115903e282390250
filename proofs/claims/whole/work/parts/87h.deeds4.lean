/-! read, undo -/
theorem follow_rel {I M : Nat → Nat → Int} {o : Nat} (hS : SRel I 1 (M 111)) (hW : WF (M 111)) (hz : ZV M) (h38 : I 38 o = m_oc M o) (h39 : I 39 o = M 123 (3 * o)) (h01 : M 123 (3 * o) = 0 ∨ M 123 (3 * o) = 1) (hc : 0 ≤ m_oc M o ∧ m_oc M o < 576) : (f_follow I o).1 = (m_does M o).1 ∧ SRel (f_follow I o).2 1 ((m_does M o).2 111) ∧ WF ((m_does M o).2 111) := by
  unfold f_follow m_does
  rw [show (36 + 3 : Nat) = 39 from rfl, show (36 + 2 : Nat) = 38 from rfl, h38, h39]
  by_cases h1 : M 123 (3 * o) = 1
  · rw [if_pos (by omega), if_pos h1, spotAt_eq hS hz]
    by_cases h2 : m_spotAt M (m_oc M o) = -1
    · rw [if_pos h2, if_pos h2]
      exact ⟨rfl, hS, hW⟩
    · rw [if_neg h2, if_neg h2]
      exact ⟨rfl, remove_rel hS hW hz h2⟩
  · rw [if_neg (by omega), if_neg h1, can_eq hS hz hc]
    by_cases h2 : m_can M (m_oc M o) = 0
    · rw [if_pos h2, if_pos h2]
      exact ⟨rfl, hS, hW⟩
    · rw [if_neg h2, if_neg h2]
      have e : (((m_oc M o).toNat : Nat) : Int) = m_oc M o := by omega
      have ar := add_rel (c := (m_oc M o).toNat) hS hW hz (by omega) (by rw [e]; exact h2)
      rw [e] at ar
      exact ⟨rfl, ar⟩
theorem rd_rel {n : Nat} : ∀ (f o : Nat) (I M : Nat → Nat → Int), o + f = n → SRel I 1 (M 111) → WF (M 111) → ZV M → (∀ q, q < n → I 38 q = m_oc M q ∧ I 39 q = M 123 (3 * q) ∧ (M 123 (3 * q) = 0 ∨ M 123 (3 * q) = 1) ∧ 0 ≤ m_oc M q ∧ m_oc M q < 576) → (rdL f o I).1 = (m_doL f o M).1 ∧ SRel (rdL f o I).2 1 ((m_doL f o M).2 111) ∧ WF ((m_doL f o M).2 111)
  | 0, o, I, M, _, hS, hW, _, _ => ⟨rfl, hS, hW⟩
  | f + 1, o, I, M, hn, hS, hW, hz, hq => by
    obtain ⟨q1, q2, q3, q4⟩ := hq o (by omega)
    obtain ⟨a1, a2, a3⟩ := follow_rel hS hW hz q1 q2 q3 q4
    unfold rdL m_doL
    rw [a1]
    by_cases h0 : (m_does M o).1 = 0
    · rw [if_pos h0, if_pos h0]
      exact ⟨rfl, a2, a3⟩
    · rw [if_neg h0, if_neg h0]
      have e : ∀ q, m_oc (m_does M o).2 q = m_oc M q := fun q => by
        unfold m_oc
        rw [does_ne (by decide)]
      exact rd_rel (n := n) f (o + 1) _ _ (by omega) a2 a3 (does_ZV hz q4) (fun q hq9 => by
        rw [e, does_ne (a := 123) (by decide), follow_ne (by decide), follow_ne (by decide)]
        exact hq q hq9)
theorem rdL_0 : ∀ (m o : Nat) (I : Nat → Nat → Int) (a : Nat), a < 1 ∨ 7 ≤ a → (rdL m o I).2 a = I a
  | 0, _, _, _, _ => rfl
  | m + 1, o, I, a, h => by
    unfold rdL
    split
    · exact follow_ne h
    · rw [rdL_0 m (o + 1) _ a h, follow_ne h]
theorem tells_ne {I : Nat → Nat → Int} (hx : XV I) : (∀ a, a ≠ 36 → a ≠ 38 → a ≠ 39 → (f_tells I 36).2 a = I a) ∧ (f_tells I 36).2 36 3 = I 36 3 := (TxV_tells hx.2.2.2.1).2
set_option maxRecDepth 100000 in
theorem ml_read {T : Nat → Nat × Nat} {I : Nat → Nat → Int} {J : Nat → Nat → Int64} {R : Nat → Nat → Option Nat} (h : QR T I R) : (x_read I = none → RLx T 0 ((w_read I J R).1) y_read (u2 ((w_read I J R).2) 124 0 (iz ((f_rd I R).1)).toInt64) (f_saveR (f_tells I 36).2 R)) ∧ (x_read I = some xIAE → RLx T 1 ((f_tells I 36).2) y_read J R) := by
  have hx0 := h.2.2.2.1
  have hm0 := h.2.2.2.2.1
  have ht0 := h.2.2.2.2.2.2.2.1
  obtain ⟨n1, n2⟩ := tells_ne hx0
  have hxI : XV (f_tells I 36).2 := XV_tells hx0
  have hmI : MV (f_tells I 36).2 := MV_ne hm0 (fun a ha => n1 a (by omega) (by omega) (by omega))
  have hq : QR T (f_tells I 36).2 R := QR_txt h hxI (fun a h1 _ _ _ => n1 a (by omega) (by omega) (by omega)) (by rw [n1 110 (by decide) (by decide) (by decide)]) hmI.2.2.1 ⟨by rw [n2, n1 110 (by decide) (by decide) (by decide)]; exact ht0.1, fun j hj => by
    rw [n1 110 (by decide) (by decide) (by decide)] at hj
    rw [n1 37 (by decide) (by decide) (by decide), n1 114 (by decide) (by decide) (by decide)]
    exact ht0.2 j hj⟩
  have sim : ∀ M : Nat → Nat → Int, M 110 = I 110 → M 114 = I 114 → _ := fun M e1 e2 => scan_sim (I := I) (M := M) ⟨by rw [e1]; exact ht0.1, fun j hj => by rw [e2]; exact ht0.2 j (by rw [← e1]; exact hj)⟩ (TV_of hm0.2.2.1 (by rw [e1]) e2) hx0
  unfold x_read
  by_cases h0 : (f_tells I 36).1 = 0
  · rw [if_pos h0]
    refine ⟨fun q => absurd q xs, fun _ => ?_⟩
    rcases sim (f_tells I 36).2 (n1 110 (by decide) (by decide) (by decide)) (n1 114 (by decide) (by decide) (by decide)) with ⟨w, w1, -, -⟩ | ⟨-, -, w3, -⟩
    · have ey : y_read (f_tells I 36).2 = (0, m_thr (m_rb (f_tells I 36).2) 1) := by
        unfold y_read
        rw [if_neg (by omega)]
      refine ⟨hmI, h.2.1, by rw [ey]; exact thr_0 (I := m_rb (f_tells I 36).2) (t := 1), fun q => absurd q (by decide), ?_⟩
      rw [ey]
      exact QR_MK hq (MK_rb.tr MK_thr)
    · omega
  · rw [if_neg h0]
    refine ⟨fun _ => ?_, fun q => absurd q xn⟩
    unfold w_read
    have hrd : f_rd I R = rdL (f_save (f_tells I 36).2 R 36 4).toNat 0 (f_save (f_tells I 36).2 R) := rfl
    rw [hrd]
    have key := fun M => sim M
    generalize hI' : (f_tells I 36).2 = I' at n1 n2 hxI hmI hq key ⊢
    have hk := hq.1
    have ht := hq.2.2.2.2.2.2.2.1
    have hs := hq.2.2.2.2.2.1
    have hwf := hq.2.2.2.2.2.2.1
    have hSx : XV (f_save I' R) := XV_save hk hxI
    have r1 : ∀ a, a < 1 ∨ 7 ≤ a → (rdL (f_save I' R 36 4).toNat 0 (f_save I' R)).2 a = f_save I' R a := fun a ha => rdL_0 _ _ _ a ha
    have rx : XV (rdL (f_save I' R 36 4).toNat 0 (f_save I' R)).2 := rdL_XV _ _ _ hSx
    have hxO : XV (u2 (rdL (f_save I' R 36 4).toNat 0 (f_save I' R)).2 36 3 0) := XV_empty rx
    have e36 : f_save I' R 36 = I' 36 := fsave_ne hk hxI (by decide)
    have e38 : f_save I' R 38 = I' 38 := fsave_ne hk hxI (by decide)
    have e39 : f_save I' R 39 = I' 39 := fsave_ne hk hxI (by decide)
    rw [e36] at r1 rx hxO ⊢
    have rel := fun M => rd_rel (n := (I' 36 4).toNat) (I' 36 4).toNat 0 (f_save I' R) M (Nat.zero_add _)
    generalize rdL (I' 36 4).toNat 0 (f_save I' R) = r at r1 rx hxO rel ⊢
    have bne : ∀ a, a < 7 ∨ 35 ≤ a → (f_build (u2 r.2 36 3 0) J 7 1).1 a = u2 r.2 36 3 0 a := fun a ha => f_build_ne (by decide) hxO.2.1 hxO.1.1 hxO.1.2.2.1 hxO.1.2.2.2.1 (by omega)
    have hI : ∀ a, 110 ≤ a → (f_build (u2 r.2 36 3 0) J 7 1).1 a = I' a := fun a ha => by rw [bne a (by omega), u2_ne (by omega), r1 a (by omega), fsave_ne hk hxI (by omega)]
    have hm1 : MV (f_build (u2 r.2 36 3 0) J 7 1).1 := MV_ne hmI hI
    rcases key (f_build (u2 r.2 36 3 0) J 7 1).1 (by rw [hI 110 (by decide), n1 110 (by decide) (by decide) (by decide)]) (by rw [hI 114 (by decide), n1 114 (by decide) (by decide) (by decide)]) with ⟨w, -, -, w3⟩ | ⟨w1, -, -, w4⟩
    · exact absurd w3 h0
    · have hOR := rb_OR hm1.2.2.1
      have rk := RK_rb (I := (f_build (u2 r.2 36 3 0) J 7 1).1)
      have rk2 : ∀ a, a ≠ 110 → a ≠ 123 → m_rb (f_build (u2 r.2 36 3 0) J 7 1).1 a = (f_build (u2 r.2 36 3 0) J 7 1).1 a := fun a h1 h2 => rk.1 a h1 h2
      have rk3 : ∀ j, j ≠ 17 → j ≠ 18 → j ≠ 19 → m_rb (f_build (u2 r.2 36 3 0) J 7 1).1 110 j = I' 110 j := fun j h1 h2 h3 => by rw [rk.2 j h1 h2 h3, hI 110 (by decide)]
      have hzM2 : ZV (m_rb (f_build (u2 r.2 36 3 0) J 7 1).1) := ZV_ne hm1.1 (rk2 111 (by decide) (by decide))
      have hbM2 : HB (m_rb (f_build (u2 r.2 36 3 0) J 7 1).1) := HB_ne hm1.2.1 (rk2 121 (by decide) (by decide)) (rk2 122 (by decide) (by decide))
      have m111 : m_rb (f_build (u2 r.2 36 3 0) J 7 1).1 111 = I' 111 := by rw [rk2 111 (by decide) (by decide), hI 111 (by decide)]
      have m112 : m_rb (f_build (u2 r.2 36 3 0) J 7 1).1 112 = I' 112 := by rw [rk2 112 (by decide) (by decide), hI 112 (by decide)]
      have m114 : m_rb (f_build (u2 r.2 36 3 0) J 7 1).1 114 = I' 114 := by rw [rk2 114 (by decide) (by decide), hI 114 (by decide)]
      have eyr : y_read (f_build (u2 r.2 36 3 0) J 7 1).1 = y_rd (m_sav1 (m_rb (f_build (u2 r.2 36 3 0) J 7 1).1)) := by
        unfold y_read
        rw [if_pos w1]
      have hlow2 : ∀ a, a < 110 → m_rb (f_build (u2 r.2 36 3 0) J 7 1).1 a = (f_build (u2 r.2 36 3 0) J 7 1).1 a := fun a ha => rk2 a (by omega) (by omega)
      generalize m_rb (f_build (u2 r.2 36 3 0) J 7 1).1 = M2 at w1 w4 hOR rk3 hzM2 hbM2 m111 m112 m114 eyr hlow2
      obtain ⟨s1, s2, s3, s4⟩ := sav_rows (M := M2)
      have hOK := hOR.2.2 w1
      have hz3 := sav1_ZV hzM2
      have hb3 := sav1_HB hbM2
      have e17 : m_sav1 M2 110 17 = I' 36 4 := by rw [s3 17 (by decide) (by decide), w4.1]
      have e123 : m_sav1 M2 123 = M2 123 := s1 123 (by decide) (by decide)
      have e111 : m_sav1 M2 111 = I' 111 := by rw [s1 111 (by decide) (by decide), m111]
      obtain ⟨k1, k2, k3⟩ := rel (m_sav1 M2) (by rw [e111]; exact SRel_of (fun a h1 h2 => fsave_ne hk hxI (by omega)) (fun _ _ => rfl) hmI.1.1.2 hs) (by rw [e111]; exact hwf) hz3 (fun q hq9 => by
        have g1 := w4.1
        have g2 := w4.2 q (by omega)
        have g3 := hOK q (by omega)
        unfold m_oc
        rw [e123, e38, e39]
        exact ⟨g2.1, g2.2, g3.1, by omega, by omega⟩)
      have hzD := doL_ZV (I' 36 4).toNat 0 (m_sav1 M2) hz3 (fun k hk9 => by
        rw [e17] at hk9
        have g1 := w4.1
        rw [e123]
        exact hOK k (by omega)) (by rw [e17]; have := hOR.1.1; have := w4.1; omega)
      have dne : ∀ a, a ≠ 111 → (m_doL (I' 36 4).toNat 0 (m_sav1 M2)).2 a = m_sav1 M2 a := fun a ha => doL_ne _ _ _ a ha
      have ey : y_read (f_build (u2 r.2 36 3 0) J 7 1).1 = ((m_doL (I' 36 4).toNat 0 (m_sav1 M2)).1, u2 (m_doL (I' 36 4).toNat 0 (m_sav1 M2)).2 110 6 0) := by
        rw [eyr]
        unfold y_rd
        rw [e17]
      generalize m_doL (I' 36 4).toNat 0 (m_sav1 M2) = D at k1 k2 k3 hzD dne ey
      have hSO : SRel (u2 r.2 36 3 0) 1 (D.2 111) := SRel_of (fun a h1 h2 => u2_ne (by omega)) (fun _ _ => rfl) hzD.1.2 k2
      obtain ⟨b1, b2, b3⟩ := build_rel (J := J) hxO hSO k3
      generalize (f_build (u2 r.2 36 3 0) J 7 1).1 = I1 at bne hI hm1 hlow2 ey b1 b2 b3 ⊢
      have wne : ∀ a, a ≠ 111 → a ≠ 110 → u2 D.2 110 6 0 a = m_sav1 M2 a := fun a h1 h2 => by rw [u2_ne h2, dne a h1]
      have w110 : ∀ j, u2 D.2 110 6 0 110 j = if j = 6 then 0 else m_sav1 M2 110 j := fun j => by rw [u2k, dne 110 (by decide)]
      have w111 : u2 D.2 110 6 0 111 = D.2 111 := u2_ne (by decide)
      have hlow : ∀ a, a < 110 → u2 D.2 110 6 0 a = I1 a := fun a ha => by rw [wne a (by omega) (by omega), s1 a (by omega) (by omega), hlow2 a ha]
      have i36 : I1 36 3 = 0 := by rw [bne 36 (by decide), u2_at]
      refine RLx_save (M := m_thr M2 0) (W := u2 D.2 110 6 0) (v := D.1) hq ey b3 hI (fun a ha => by rw [bne a (by omega), u2_ne (by omega), r1 a (by omega)]) (fun j _ => by rw [thr_111 (by decide), m111]) (by rw [thr_110 (by decide), rk3 3 (by decide) (by decide) (by decide)]) (by rw [thr_111 (by decide), m112]) hlow (by rw [w110, if_neg (by decide)]; exact s2) (by rw [w110, if_neg (by decide), s4]) (by rw [wne 112 (by decide) (by decide), s4]) ⟨by rw [w110, if_pos rfl]; decide, fun j hj => ?_⟩ ⟨by rw [hlow 36 (by decide), i36, w110, if_pos rfl], fun j hj => ?_⟩ (ZV_ne hzD w111) (HB_ne hb3 (wne 121 (by decide) (by decide)) (wne 122 (by decide) (by decide))) (by rw [w111]; exact SRel_of (fun a h1 h2 => b2 a (by omega)) (fun _ _ => rfl) hzD.1.2 hSO) (by rw [w111]; exact k3) (by rw [w111]; exact b1) (by rw [u2_at, k1])
      · rw [wne 114 (by decide) (by decide), s1 114 (by decide) (by decide), m114]
        exact hmI.2.2.1.2 j hj
      · rw [w110, if_pos rfl] at hj
        omega
theorem unL_at {d : Nat} : ∀ (f c : Nat) (M : Nat → Nat → Int) (p : Nat), m_unL d f c M 111 p = if c ≤ p ∧ p < c + f then M 112 (d * 1554 + p) else M 111 p
  | 0, c, M, p => by
    unfold m_unL
    rw [if_neg (by omega)]
  | f + 1, c, M, p => by
    unfold m_unL
    rw [unL_at f (c + 1), u2_ne (by decide : (112 : Nat) ≠ 111), u2_if]
    grind
set_option maxRecDepth 100000 in
theorem ml_undo {T : Nat → Nat × Nat} {I : Nat → Nat → Int} {J : Nat → Nat → Int64} {R : Nat → Nat → Option Nat} (h : QR T I R) : (x_undo I = none → RLx T 0 (u2 (w_undo I J R).1 0 3 (I 0 3 - 1)) y_undo (u2 ((w_undo I J R).2) 124 0 (iz (I 0 3 - 1)).toInt64) (R)) ∧ (x_undo I = some xISE → RLx T 1 (I) y_undo J R) := by
  have hx := h.2.2.2.1
  have hk := h.1
  have ht := h.2.2.2.2.2.2.2.1
  have hmv := h.2.2.2.2.1
  have h03 : I 0 3 = I 110 3 := h.2.2.2.2.2.2.2.2.1
  have hsv := QR_sv h
  have hn := hmv.2.2.2.1
  unfold x_undo
  by_cases h1 : 1 ≤ I 0 3
  · rw [if_pos h1]
    refine ⟨fun _ => ?_, fun q => absurd q xn⟩
    unfold w_undo
    obtain ⟨p1, i, hi, p2⟩ := f_sv_of hk (j := (I 0 3 - 1).toNat) (by omega)
    obtain ⟨v1, v2, v3⟩ := hsv (I 0 3 - 1).toNat (by omega)
    have hxO : XV (f_copy I (f_sv R (I 0 3 - 1).toNat) 1) := by rw [p2]; exact XV_back hx hi
    have hSO : SRel (f_copy I (f_sv R (I 0 3 - 1).toNat) 1) 1 (fun j => I 112 ((I 0 3 - 1).toNat * 1554 + j)) := SRel_copy (by omega) v3.1.2 v1
    have one : ∀ a, a < 1 ∨ 7 ≤ a → f_copy I (f_sv R (I 0 3 - 1).toNat) 1 a = I a := fun a ha => f_copy_ne (by omega)
    obtain ⟨b1, b2, b3⟩ := build_rel (J := J) hxO hSO v2
    generalize f_build (f_copy I (f_sv R (I 0 3 - 1).toNat) 1) J 7 1 = r at b1 b2 b3 ⊢
    have ne1 : ∀ a, a ≠ 0 → u2 r.1 0 3 (I 0 3 - 1) a = r.1 a := fun a ha => u2_ne ha
    have hI : ∀ a, 35 ≤ a → u2 r.1 0 3 (I 0 3 - 1) a = I a := fun a ha => by rw [ne1 a (by omega), b2 a (by omega), one a (by omega)]
    have hx1 : XV (u2 r.1 0 3 (I 0 3 - 1)) := XV_0 b3 (by omega)
    have i03 : u2 r.1 0 3 (I 0 3 - 1) 0 3 = I 0 3 - 1 := u2_at
    generalize hI1 : u2 r.1 0 3 (I 0 3 - 1) = I1 at ne1 hI hx1 i03 ⊢
    have hm1 : MV I1 := MV_ne hmv (fun a ha => hI a (by omega))
    have ey : y_undo I1 = (I 0 3 - 1, m_unL (I 0 3 - 1).toNat 1554 0 (m_un1 I1)) := by
      unfold y_undo
      rw [hI 110 (by decide), if_neg (by omega), h03]
    have u1 : ∀ a, a ≠ 110 → m_un1 I1 a = I1 a := fun a ha => by
      unfold m_un1
      rw [u2_ne ha, thr_111 ha]
    have u110 : ∀ j, m_un1 I1 110 j = if j = 3 then I 0 3 - 1 else if j = 0 then 0 else I 110 j := fun j => by
      unfold m_un1 m_thr
      rw [u2k, u2k, hI 110 (by decide), h03]
    have wat := fun p => unL_at (d := (I 0 3 - 1).toNat) 1554 0 (m_un1 I1) p
    have wne : ∀ a, a ≠ 111 → m_unL (I 0 3 - 1).toNat 1554 0 (m_un1 I1) a = m_un1 I1 a := fun a ha => unL_ne _ _ _ a ha
    generalize m_unL (I 0 3 - 1).toNat 1554 0 (m_un1 I1) = W at ey wat wne
    have hlow : ∀ a, a < 110 → W a = I1 a := fun a ha => by rw [wne a (by omega), u1 a (by omega)]
    have e111 : ∀ j, j < 1554 → W 111 j = I 112 ((I 0 3 - 1).toNat * 1554 + j) := fun j hj => by
      rw [wat, if_pos (by omega), u1 112 (by decide), hI 112 (by decide)]
    have w110 : ∀ j, W 110 j = if j = 3 then I 0 3 - 1 else if j = 0 then 0 else I 110 j := fun j => by rw [wne 110 (by decide), u110]
    have hzW : ZV W := ZV_eq (I := fun _ j => I 112 ((I 0 3 - 1).toNat * 1554 + j)) v3 e111
    refine ⟨hm1, h.2.1, by rw [ey]; show W 110 0 = 0; rw [w110, if_neg (by decide), if_pos rfl], fun _ => by rw [ey]; exact u2_at, ?_⟩
    rw [ey]
    show QR T W R
    refine QR_mk hk h.2.1 h.2.2.1 (XV_of hx1 hlow) hzW (HB_ne hmv.2.1 (by rw [wne 121 (by decide), u1 121 (by decide), hI 121 (by decide)]) (by rw [wne 122 (by decide), u1 122 (by decide), hI 122 (by decide)])) (TV_of hmv.2.2.1 (by rw [w110, if_neg (by decide), if_neg (by decide)]) (by rw [wne 114 (by decide), u1 114 (by decide), hI 114 (by decide)])) (by rw [hlow 0 (by decide), i03, w110, if_pos rfl]) (SRel_of (fun a q1 q2 => by rw [hlow a (by omega), ne1 a (by omega), b2 a (by omega)]) e111 v3.1.2 hSO) (WF_of (M := fun _ j => I 112 ((I 0 3 - 1).toNat * 1554 + j)) (M' := W) v3 e111 v2) (TRel_of ht (by rw [hlow 36 (by decide), hI 36 (by decide)]) (by rw [hlow 37 (by decide), hI 37 (by decide)]) (by rw [w110, if_neg (by decide), if_neg (by decide)]) (by rw [wne 114 (by decide), u1 114 (by decide), hI 114 (by decide)])) ?_ (MR_of (fun a q1 q2 => by rw [hlow a (by omega), ne1 a (by omega)]) b3.2.1.2.2.2.2.2.2.2 (fun j q1 q2 q3 => e111 j (by omega)) b1)
    rw [w110, if_pos rfl, wne 112 (by decide), u1 112 (by decide), hI 112 (by decide)]
    refine SVR_of hk (by omega) (fun a q1 q2 => by rw [hlow a q2, hI a (by omega)]) (fun s hs => hsv s (by omega))
  · rw [if_neg h1]
    refine ⟨fun q => absurd q xs, fun _ => ?_⟩
    refine RLx_thr h (by decide) ?_
    unfold y_undo
    rw [if_pos (by omega)]
