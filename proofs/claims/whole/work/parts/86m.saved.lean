/-! saved states -/
def SVR (I : Nat → Nat → Int) (R : Nat → Nat → Option Nat) (n : Int) (Z : Nat → Int) : Prop := ∀ s : Nat, (s : Int) < n → SRel I (f_sv R s) (fun j => Z (s * 1554 + j)) ∧ WF (fun j => Z (s * 1554 + j)) ∧ ZV (fun _ j => Z (s * 1554 + j))
theorem rot_at : ∀ (m i : Nat) (R : Nat → Nat → Option Nat) (j : Nat), f_rot m i R 35 j = if j < i then R 35 j else if j < i + m then R 35 (j + 1) else if j = i + m then R 35 i else R 35 j
  | 0, i, R, j => by
    unfold f_rot
    by_cases h : j < i
    · rw [if_pos h]
    · rw [if_neg h, if_neg (by omega)]
      by_cases h2 : j = i + 0
      · rw [if_pos h2, h2, Nat.add_zero]
      · rw [if_neg h2]
  | m + 1, i, R, j => by
    unfold f_rot
    rw [rot_at m (i + 1)]
    simp only [swp_at]
    grind
theorem sv_inj {T : Nat → Nat × Nat} {R : Nat → Nat → Option Nat} {n : Nat} (hk : ScB T R n) {s t : Nat} (hs : s < 6) (ht : t < 6) (h : s ≠ t) : f_sv R s + 6 ≤ f_sv R t ∨ f_sv R t + 6 ≤ f_sv R s := by
  obtain ⟨e1, i, hi, e2⟩ := f_sv_of hk hs
  obtain ⟨g1, j, hj, g2⟩ := f_sv_of hk ht
  obtain ⟨a0, a1, a2, a3, a4, a5, a6, a7, a8, a9, a10, a11, a12, a13, a14, a15, a16⟩ := hk
  by_cases hij : i = j
  · exact absurd (a15 s t hs ht (by rw [e1, g1, e2, g2, hij])) h
  · omega
theorem SRel_copy {I : Nat → Nat → Int} {k d : Nat} {z : Nat → Int} (hd : k + 6 ≤ d ∨ d + 6 ≤ k) (h3 : z 3 ≤ 12) (h : SRel I k z) : SRel (f_copy I k d) d z := by
  obtain ⟨a1, a2, a3, a4, a5, a6, a7, a8⟩ := h
  refine ⟨?_, ?_, ?_, fun j hj => ?_, fun j hj => ?_, fun j hj => ?_, fun j hj => ?_, fun j hj => ?_⟩
  · rw [f_copy_k hd, if_pos (by decide)]; exact a1
  · rw [f_copy_k hd, if_pos (by decide)]; exact a2
  · rw [f_copy_k hd, if_pos (by decide)]; exact a3
  · rw [f_copy_1 hd, if_pos (by omega)]; exact a4 j hj
  · rw [f_copy_2 hd, if_pos (by omega)]; exact a5 j hj
  · rw [f_copy_3 hd, if_pos (by omega)]; exact a6 j hj
  · rw [f_copy_4 hd, if_pos (by omega)]; exact a7 j hj
  · rw [f_copy_5 hd, if_pos (by omega)]; exact a8 j hj
theorem sv_at {d : Nat} : ∀ (f c : Nat) (M : Nat → Nat → Int) (p : Nat), m_sv d f c M 112 p = if d * 1554 + c ≤ p ∧ p < d * 1554 + c + f then M 111 (p - d * 1554) else M 112 p
  | 0, c, M, p => by
    unfold m_sv
    rw [if_neg (by omega)]
  | f + 1, c, M, p => by
    unfold m_sv
    rw [sv_at f (c + 1), u2_ne (by decide : (111 : Nat) ≠ 112), u2_if]
    by_cases hp : p = d * 1554 + c
    · have e : p - d * 1554 = c := by omega
      grind
    · grind
theorem sh_at : ∀ (f c : Nat) (M : Nat → Nat → Int) (p : Nat), m_sh f c M 112 p = if c ≤ p ∧ p < c + f then M 112 (p + 1554) else M 112 p
  | 0, c, M, p => by
    unfold m_sh
    rw [if_neg (by omega)]
  | f + 1, c, M, p => by
    unfold m_sh
    rw [sh_at f (c + 1), u2_if, u2_if]
    grind
set_option maxRecDepth 100000 in
theorem save_112 {M : Nat → Nat → Int} (h3 : 0 ≤ M 110 3 ∧ M 110 3 ≤ 6) (p : Nat) : m_save M 112 p = if M 110 3 = 6 then (if 7770 ≤ p ∧ p < 9324 then M 111 (p - 7770) else if p < 7770 then M 112 (p + 1554) else M 112 p) else (if (M 110 3).toNat * 1554 ≤ p ∧ p < (M 110 3).toNat * 1554 + 1554 then M 111 (p - (M 110 3).toNat * 1554) else M 112 p) := by
  unfold m_save
  rw [u2_ne (by decide), sv_at, sv0_110, if_pos rfl]
  unfold m_sv0
  by_cases h : M 110 3 = 6
  · rw [if_pos h, if_pos h, if_pos h, u2_ne (by decide), u2_ne (by decide), sh_ne _ _ _ _ (by decide), sh_at]
    by_cases h1 : 7770 ≤ p ∧ p < 9324
    · rw [if_pos (by omega), if_pos h1]
      rfl
    · rw [if_neg (by omega), if_neg h1]
      by_cases h2 : p < 7770
      · rw [if_pos (by omega), if_pos h2]
      · rw [if_neg (by omega), if_neg h2]
  · rw [if_neg h, if_neg h, if_neg h]
    simp only [Nat.add_zero]
theorem fsave_ne {T : Nat → Nat × Nat} {I : Nat → Nat → Int} {R : Nat → Nat → Option Nat} (hk : ScB T R 125) (hv : XV I) {a : Nat} (ha : (1 ≤ a ∧ a < 74) ∨ 110 ≤ a) : f_save I R a = I a := by
  have h03 := hv.2.2.2.2.2.2.1
  have e03 : f_saveI I 0 3 < 6 := saveI_lt
  have e03' : 0 ≤ f_saveI I 0 3 := by
    unfold f_saveI
    split
    · exact h03.1
    · rw [u2_at]; decide
  obtain ⟨e1, i, hi, e2⟩ := f_sv_of (ScB_saveR (I := I) hk) (j := (f_saveI I 0 3).toNat) (by omega)
  unfold f_save f_saveL
  rw [u2_ne (by omega), f_copy_ne (by omega)]
  unfold f_saveI
  split
  · rfl
  · rw [u2_ne (by omega)]
theorem fsave_0 {I : Nat → Nat → Int} {R : Nat → Nat → Option Nat} {T : Nat → Nat × Nat} (hk : ScB T R 125) (hv : XV I) (j : Nat) : f_save I R 0 j = if j = 3 then (if I 0 3 < 6 then I 0 3 + 1 else 6) else I 0 j := by
  have h03 := hv.2.2.2.2.2.2.1
  have e03 : f_saveI I 0 3 < 6 := saveI_lt
  have e03' : 0 ≤ f_saveI I 0 3 := by
    unfold f_saveI
    split
    · exact h03.1
    · rw [u2_at]; decide
  obtain ⟨e1, i, hi, e2⟩ := f_sv_of (ScB_saveR (I := I) hk) (j := (f_saveI I 0 3).toNat) (by omega)
  unfold f_save f_saveL
  rw [u2k, f_copy_ne (by omega)]
  unfold f_saveI
  by_cases h : I 0 3 < 6
  · rw [if_pos h, if_pos h]
  · rw [if_neg h, if_neg h, u2_at, u2k]
    by_cases hj : j = 3
    · rw [if_pos hj, if_pos hj]
      decide
    · rw [if_neg hj, if_neg hj, if_neg hj]
set_option maxRecDepth 100000 in
theorem save_SVR {T : Nat → Nat × Nat} {I M W : Nat → Nat → Int} {R : Nat → Nat → Option Nat} (hk : ScB T R 125) (hv : XV I) (h03 : I 0 3 = M 110 3) (hS : SRel I 1 (M 111)) (hF : WF (M 111)) (hz : ZV M) (hs : SVR I R (M 110 3) (M 112)) (hW : ∀ a, 74 ≤ a → a < 110 → W a = f_save I R a) : SVR W (f_saveR I R) (m_save M 110 3) (m_save M 112) := by
  have g03 := hv.2.2.2.2.2.2.1
  have z3 := hz.1
  have h112 := save_112 (M := M) (by omega)
  have hk' := ScB_saveR (I := I) hk
  intro s hsn
  rw [save_110, if_pos rfl] at hsn
  by_cases h6 : I 0 3 < 6
  · have hM6 : ¬ M 110 3 = 6 := by omega
    rw [if_neg hM6] at hsn
    have eR : f_saveR I R = R := if_pos h6
    have eI : f_saveI I = I := if_pos h6
    have eF : f_save I R = u2 (f_copy I 1 (f_sv R (I 0 3).toNat)) 0 3 (I 0 3 + 1) := by
      unfold f_save f_saveL
      rw [eI, eR]
    rw [eR]
    obtain ⟨p1, i, hi, p2⟩ := f_sv_of hk (j := s) (by omega)
    obtain ⟨q1, i', hi', q2⟩ := f_sv_of hk (j := (I 0 3).toNat) (by omega)
    by_cases hsn' : s = (I 0 3).toNat
    · have ez : ∀ j, j < 1554 → m_save M 112 (s * 1554 + j) = M 111 j := fun j hj => by
        rw [h112, if_neg hM6, if_pos (by omega), show s * 1554 + j - (M 110 3).toNat * 1554 = j by omega]
      have s1 := SRel_copy (d := f_sv R (I 0 3).toNat) (by omega) z3.2 hS
      rw [hsn']
      rw [hsn'] at ez
      refine ⟨SRel_of (fun a h1 h2 => ?_) ez z3.2 s1, WF_of (M' := fun _ j => m_save M 112 ((I 0 3).toNat * 1554 + j)) hz ez hF, ZV_eq (I' := fun _ j => m_save M 112 ((I 0 3).toNat * 1554 + j)) hz ez⟩
      rw [hW a (by omega) (by omega), eF, u2_ne (by omega)]
    · obtain ⟨b1, b2, b3⟩ := hs s (by omega)
      have ez : ∀ j, j < 1554 → m_save M 112 (s * 1554 + j) = M 112 (s * 1554 + j) := fun j hj => by
        rw [h112, if_neg hM6, if_neg (by omega)]
      have inj := sv_inj hk (s := s) (t := (I 0 3).toNat) (by omega) (by omega) hsn'
      refine ⟨SRel_of (fun a h1 h2 => ?_) ez b3.1.2 b1, WF_of (M := fun _ j => M 112 (s * 1554 + j)) (M' := fun _ j => m_save M 112 (s * 1554 + j)) b3 ez b2, ZV_eq (I' := fun _ j => m_save M 112 (s * 1554 + j)) b3 ez⟩
      rw [hW a (by omega) (by omega), eF, u2_ne (by omega), f_copy_ne (by omega)]
  · have hM6 : M 110 3 = 6 := by omega
    rw [if_pos hM6] at hsn
    have eR : f_saveR I R = f_rot 5 0 R := if_neg h6
    have eI : f_saveI I = u2 I 0 3 5 := if_neg h6
    have eF : f_save I R = u2 (f_copy (u2 I 0 3 5) 1 (f_sv (f_saveR I R) 5)) 0 3 6 := by
      unfold f_save f_saveL
      rw [eI, u2_at]
      rfl
    obtain ⟨p1, i, hi, p2⟩ := f_sv_of hk' (j := s) (by omega)
    obtain ⟨q1, i', hi', q2⟩ := f_sv_of hk' (j := 5) (by omega)
    by_cases hsn' : s = 5
    · have ez : ∀ j, j < 1554 → m_save M 112 (s * 1554 + j) = M 111 j := fun j hj => by
        rw [h112, if_pos hM6, if_pos (by omega), show s * 1554 + j - 7770 = j by omega]
      have s0 : SRel (u2 I 0 3 5) 1 (M 111) := SRel_of (fun a h1 h2 => by rw [u2_ne (by omega)]) (fun _ _ => rfl) z3.2 hS
      have s1 := SRel_copy (d := f_sv (f_saveR I R) 5) (by omega) z3.2 s0
      rw [hsn']
      rw [hsn'] at ez
      refine ⟨SRel_of (fun a h1 h2 => ?_) ez z3.2 s1, WF_of (M' := fun _ j => m_save M 112 (5 * 1554 + j)) hz ez hF, ZV_eq (I' := fun _ j => m_save M 112 (5 * 1554 + j)) hz ez⟩
      rw [hW a (by omega) (by omega), eF, u2_ne (by omega)]
    · obtain ⟨b1, b2, b3⟩ := hs (s + 1) (by omega)
      have ez : ∀ j, j < 1554 → m_save M 112 (s * 1554 + j) = M 112 ((s + 1) * 1554 + j) := fun j hj => by
        rw [h112, if_pos hM6, if_neg (by omega), if_pos (by omega), show s * 1554 + j + 1554 = (s + 1) * 1554 + j by omega]
      have esv : f_sv (f_saveR I R) s = f_sv R (s + 1) := by
        unfold f_sv
        rw [eR, rot_at, if_neg (by omega), if_pos (by omega)]
      have inj := sv_inj hk' (s := s) (t := 5) (by omega) (by omega) hsn'
      rw [esv] at p2 inj ⊢
      refine ⟨SRel_of (fun a h1 h2 => ?_) ez b3.1.2 b1, WF_of (M := fun _ j => M 112 ((s + 1) * 1554 + j)) (M' := fun _ j => m_save M 112 (s * 1554 + j)) b3 ez b2, ZV_eq (I' := fun _ j => m_save M 112 (s * 1554 + j)) b3 ez⟩
      rw [hW a (by omega) (by omega), eF, u2_ne (by omega), f_copy_ne (by omega), u2_ne (by omega)]
