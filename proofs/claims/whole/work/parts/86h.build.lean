/-! the map as a whole: the object's is the reference's -/
/-- how often the line q of the reference has the cell c -/
def cnt1 (M : Nat → Nat → Int) (c q : Nat) : Int := ci (fun s => decide (m_cellOf M q s = (c : Int))) (M 119 q - M 118 q + 1).toNat (M 118 q)
def hsF (M : Nat → Nat → Int) (c : Nat) : Nat → Nat → Int
  | 0, _ => 0
  | f + 1, q => cnt1 M c q + hsF M c f (q + 1)
theorem hsF_snoc (M : Nat → Nat → Int) (c : Nat) : ∀ (f q : Nat), hsF M c (f + 1) q = hsF M c f q + cnt1 M c (q + f)
  | 0, q => by
    unfold hsF hsF
    rw [Nat.add_zero]
    omega
  | f + 1, q => by
    have ih := hsF_snoc M c f (q + 1)
    rw [show q + 1 + f = q + (f + 1) by omega] at ih
    unfold hsF
    rw [ih]
    show _ = cnt1 M c q + hsF M c f (q + 1) + _
    omega
theorem hsF_cong {M M' : Nat → Nat → Int} {c : Nat} : ∀ (f q : Nat), (∀ r : Nat, q ≤ r → r < q + f → cnt1 M' c r = cnt1 M c r) → hsF M' c f q = hsF M c f q
  | 0, _, _ => rfl
  | f + 1, q, h => by
    unfold hsF
    rw [h q (by omega) (by omega), hsF_cong f (q + 1) (fun r h1 h2 => h r (by omega) (by omega))]
theorem cellOf_of {M M' : Nat → Nat → Int} {q : Nat} (h : ∀ a, 115 ≤ a → a ≤ 120 → M' a q = M a q) (s : Int) : m_cellOf M' q s = m_cellOf M q s := by
  unfold m_cellOf m_cellT m_cellS
  rw [h 116 (by decide) (by decide), h 117 (by decide) (by decide), h 120 (by decide) (by decide)]
theorem cnt1_of {M M' : Nat → Nat → Int} {c q : Nat} (h : ∀ a, 115 ≤ a → a ≤ 120 → M' a q = M a q) : cnt1 M' c q = cnt1 M c q := by
  unfold cnt1
  rw [h 118 (by decide) (by decide), h 119 (by decide) (by decide)]
  congr 1
  funext s
  rw [cellOf_of h]
theorem LRel_of {I I' M M' : Nat → Nat → Int} {kl q : Nat} (hI : I' kl = I kl) (h : ∀ a, 115 ≤ a → a ≤ 120 → M' a q = M a q) (g : LRel I kl M q) : LRel I' kl M' q := by
  unfold LRel at g ⊢
  rw [hI, h 115 (by decide) (by decide), h 116 (by decide) (by decide), h 117 (by decide) (by decide), h 118 (by decide) (by decide), h 119 (by decide) (by decide), h 120 (by decide) (by decide)]
  obtain ⟨g0, g1, g2, g3, g4, g5, g6, g7, g8⟩ := g
  exact ⟨g0, g1, g2, g3, g4, g5, g6, g7, fun s h1 h2 => by rw [cellOf_of h]; exact g8 s h1 h2⟩
/-- lines that stand stay -/
theorem layLine_old {M : Nat → Nat → Int} {i j a q : Nat} (hq : q ≠ (M 110 7).toNat) (ha : 115 ≤ a ∧ a ≤ 120) : m_layLine M i j a q = M a q := by
  have e1 : m_ln1 M i j a q = M a q := by
    unfold m_ln1
    rw [u2_nj hq, u2_nj hq]
  unfold m_layLine m_ln3
  split
  · unfold m_ln2
    rw [ln1_110, u2_ne (by omega), u2_nj hq, u2_nj hq, u2_nj hq, u2_nj hq]
    exact e1
  · exact e1
theorem ld2_at {q : Nat} {c : Nat} : ∀ (f : Nat) (s : Int) (M : Nat → Nat → Int), m_ld2 q f s M 121 c = M 121 c + ci (fun s => decide (m_cellOf M q s = (c : Int))) f s
  | 0, s, M => by
    unfold m_ld2 ci
    omega
  | f + 1, s, M => by
    unfold m_ld2 ci
    rw [ld2_at f (s + 1)]
    have e : ∀ x, m_cellOf (if m_cellOf M q s = -1 then M else u2 M 121 (m_cellOf M q s).toNat (M 121 (m_cellOf M q s).toNat + 1)) q x = m_cellOf M q x := fun x => cellOf_of (fun a h1 h2 => by
      split
      · rfl
      · rw [u2_ne (by omega)]) x
    simp only [e]
    rcases m_cellOf_rg (I := M) (q := q) (s := s) with h | h
    · rw [if_pos h, if_neg (by rw [decide_eq_true_eq]; omega)]
      omega
    · rw [if_neg (by omega), u2_if]
      by_cases hc : m_cellOf M q s = (c : Int)
      · rw [if_pos ⟨rfl, by omega⟩, if_pos (by rw [decide_eq_true_eq]; exact hc), hc, Int.toNat_natCast]
        omega
      · rw [if_neg (by omega), if_neg (by rw [decide_eq_true_eq]; exact hc)]
        omega
theorem ld1_at {c : Nat} : ∀ (f q : Nat) (M : Nat → Nat → Int), m_ld1 f q M 121 c = M 121 c + hsF M c f q
  | 0, q, M => by
    unfold m_ld1 hsF
    omega
  | f + 1, q, M => by
    unfold m_ld1 hsF
    rw [ld1_at f (q + 1), ld2_at]
    have e : hsF (m_ld2 q (M 119 q - M 118 q + 1).toNat (M 118 q) M) c f (q + 1) = hsF M c f (q + 1) := hsF_cong f (q + 1) (fun r _ _ => cnt1_of (fun a h1 h2 => by rw [ld2_ne _ _ _ _ (by omega)]))
    rw [e]
    unfold cnt1
    omega
theorem f_hit_at (k kl : Nat) (hkl : kl ≠ k + 2) {c : Nat} (hc : c < 576) : ∀ (m i : Nat) (I : Nat → Nat → Int), f_hit k kl m i I (k + 2) c = I (k + 2) c + ci (fun s => decide (f_cellAt I kl s = (c : Int))) m i
  | 0, i, I => by
    unfold f_hit ci
    omega
  | m + 1, i, I => by
    unfold f_hit ci
    by_cases hg : 0 ≤ f_cellAt I kl i ∧ f_cellAt I kl i < 576
    · rw [if_pos hg, f_hit_at k kl hkl hc m (i + 1)]
      have e : ∀ x, f_cellAt (u2 I (k + 2) (f_cellAt I kl i).toNat (I (k + 2) (f_cellAt I kl i).toNat + 1)) kl x = f_cellAt I kl x := fun x => by
        unfold f_cellAt f_trk f_sec
        rw [u2_ne hkl]
      simp only [e]
      rw [u2_if]
      by_cases hq : f_cellAt I kl i = (c : Int)
      · rw [if_pos ⟨rfl, by omega⟩, if_pos (by rw [decide_eq_true_eq]; exact hq), hq, Int.toNat_natCast]
        rw [show ((i + 1 : Nat) : Int) = (i : Int) + 1 by omega]
        omega
      · rw [if_neg (by omega), if_neg (by rw [decide_eq_true_eq]; exact hq)]
        rw [show ((i + 1 : Nat) : Int) = (i : Int) + 1 by omega]
        omega
    · rw [if_neg hg, f_hit_at k kl hkl hc m (i + 1), if_neg (by rw [decide_eq_true_eq]; omega)]
      rw [show ((i + 1 : Nat) : Int) = (i : Int) + 1 by omega]
      omega
/-- the cell of a line, by its place -/
theorem cellAt_of {I M : Nat → Nat → Int} {kl q : Nat} (h : LRel I kl M q) {d : Int} (hd : 0 ≤ d ∧ d < I kl 3) : f_cellAt I kl d = m_cellOf M q (I kl 6 + d) ∧ m_cellOf M q (I kl 6 + d) ≠ -1 := by
  obtain ⟨g0, g1, g2, g3, g4, g5, g6, g7, g8⟩ := h
  have h9 := (g8 (I kl 6 + d) (by omega) (by omega)).mpr (by omega)
  refine ⟨?_, h9⟩
  unfold m_cellOf at h9 ⊢
  by_cases hc : (0 ≤ m_cellT M q (I kl 6 + d) ∧ m_cellT M q (I kl 6 + d) ≤ 23) ∧ 0 ≤ m_cellS M q (I kl 6 + d) ∧ m_cellS M q (I kl 6 + d) ≤ 23
  · rw [if_pos hc]
    unfold f_cellAt f_trk f_sec m_cellT m_cellS
    rw [g1, g2, g3, g4, Int.mul_comm 24]
  · rw [if_neg hc] at h9; exact absurd rfl h9
/-- numbers of a line's cells -/
theorem ci_line {I M : Nat → Nat → Int} {kl q : Nat} (h : LRel I kl M q) (g g' : Int → Bool) (h0 : ∀ s, m_cellOf M q s = -1 → g s = false) (h1 : ∀ d : Int, 0 ≤ d → d < I kl 3 → g (I kl 6 + d) = g' d) : ci g (M 119 q - M 118 q + 1).toNat (M 118 q) = ci g' (I kl 3).toNat 0 := by
  obtain ⟨g0, g1, g2, g3, g4, g5, g6, g7, g8⟩ := h
  exact ci_part g g' (l := I kl 6) ⟨g5, by omega⟩ (fun x h2 h3 h4 => h0 x (by
    by_cases h9 : m_cellOf M q x = -1
    · exact h9
    · have := (g8 x h2 h3).mp h9
      omega)) (fun d hd => by
    have := h1 d (by omega) (by omega)
    rw [Int.zero_add]
    exact this)
/-- hits of a line -/
theorem hit_line {I M : Nat → Nat → Int} {k kl q c : Nat} (hkl : kl ≠ k + 2) (hc : c < 576) (h : LRel I kl M q) : f_hit k kl (I kl 3).toNat 0 I (k + 2) c = I (k + 2) c + cnt1 M c q := by
  rw [f_hit_at k kl hkl hc]
  unfold cnt1
  rw [ci_line h (fun s => decide (m_cellOf M q s = (c : Int))) (fun s => decide (f_cellAt I kl s = (c : Int))) (fun s hs => by rw [hs]; rw [decide_eq_false_iff_not]; omega) (fun d h1 h2 => by
    have := cellAt_of h ⟨h1, h2⟩
    rw [this.1])]
  rfl
/-- lines and hits as they stand, in the midst of building -/
def BL (k ks : Nat) (I M : Nat → Nat → Int) : Prop := I k 6 = M 110 7 ∧ (0 ≤ M 110 7 ∧ M 110 7 ≤ 22) ∧ I k 5 = M 111 3 ∧ (∀ j : Nat, (j : Int) < M 111 3 → I (k + 4) j = (M 111 (6 + j)).tdiv 24 ∧ I (k + 5) j = tm24 (M 111 (6 + j))) ∧ (∀ j, j < 3 → I (ks + 2) j = M 111 j) ∧ (∀ q : Nat, (q : Int) < M 110 7 → LRel I (k + 6 + q) M q) ∧ ∀ c, c < 576 → I (k + 2) c = hsF M c (M 110 7).toNat 0
theorem layLine_7b {M : Nat → Nat → Int} {i j : Nat} : m_layLine M i j 111 = M 111 := layLine_ne (by decide)
theorem LNP_111 {M M' : Nat → Nat → Int} (h : M' 111 = M 111) {a b : Nat} : LNP M' a b ↔ LNP M a b := by
  unfold LNP
  rw [h]
  simp only [str_111 h]
theorem LNS_0 {M M' : Nat → Nat → Int} (h1 : M' 111 = M 111) (h7 : M' 110 7 = M 110 7) {i j j' : Nat} (hj : j ≤ j') (h : LNS M i j) : LNS M' i j' := by
  obtain ⟨A, B, a1, a2⟩ := h
  refine ⟨A, B, fun q hq => ?_, fun q q' hq hq' => a2 q q' (by omega) (by omega)⟩
  have := a1 q (by omega)
  rw [h1, LNP_111 h1]
  refine ⟨this.1, this.2.1, this.2.2.1, ?_⟩
  omega
theorem LNS_1 {M M' : Nat → Nat → Int} (h1 : M' 111 = M 111) (h7 : M' 110 7 = M 110 7 + 1) (h0 : 0 ≤ M 110 7) {i j : Nat} (hij : i < j) (hj : (j : Int) < M 111 3) (hL : LNP M i j) (h : LNS M i j) : LNS M' i (j + 1) := by
  obtain ⟨A, B, a1, a2⟩ := h
  refine ⟨fun q => if q = (M 110 7).toNat then i else A q, fun q => if q = (M 110 7).toNat then j else B q, fun q hq => ?_, fun q q' hq hq' e1 e2 => ?_⟩
  · dsimp only
    rw [h1, LNP_111 h1]
    by_cases h9 : q = (M 110 7).toNat
    · rw [if_pos h9, if_pos h9]
      exact ⟨hij, hj, hL, by omega⟩
    · rw [if_neg h9, if_neg h9]
      have := a1 q (by omega)
      refine ⟨this.1, this.2.1, this.2.2.1, ?_⟩
      omega
  · dsimp only at e1 e2
    by_cases h9 : q = (M 110 7).toNat
    · by_cases h8 : q' = (M 110 7).toNat
      · omega
      · rw [if_pos h9, if_neg h8] at e1 e2
        have k1 := a1 q' (by omega)
        omega
    · by_cases h8 : q' = (M 110 7).toNat
      · rw [if_neg h9, if_pos h8] at e1 e2
        have k1 := a1 q (by omega)
        omega
      · rw [if_neg h9, if_neg h8] at e1 e2
        exact a2 q q' (by omega) (by omega) e1 e2
theorem LNS_next {M : Nat → Nat → Int} {i j : Nat} (h : LNS M i j) (hj : M 111 3 ≤ j) : LNS M (i + 1) (i + 2) := by
  obtain ⟨A, B, a1, a2⟩ := h
  refine ⟨A, B, fun q hq => ?_, a2⟩
  have := a1 q hq
  refine ⟨this.1, this.2.1, this.2.2.1, ?_⟩
  omega
theorem jd_k {I : Nat → Nat → Int} {J : Nat → Nat → Int64} {k a b : Nat} : (f_jd I J k a b).1 k = I k := by
  unfold f_jd
  rw [f_jn_ne _ _ _ (by omega)]
  unfold f_aimed
  exact f_aim_ne (by omega)
theorem addLine_kj {I : Nat → Nat → Int} {J : Nat → Nat → Int64} {k ks a b j : Nat} (hj : j ≠ 6) : (f_addLine I J k ks a b).2.1 k j = I k j := by
  unfold f_addLine
  split
  · unfold f_add2
    split
    · exact congrFun jd_k j
    · show f_inc6 _ k k j = _
      unfold f_inc6
      rw [u2_nj hj, f_spread_ne (by omega), jd_k]
  · rfl
/-- one pair of spots -/
theorem BL_step {k ks : Nat} {P : (Nat → Nat → Int) × (Nat → Nat → Int64)} {M : Nat → Nat → Int} {a b : Nat} (hz : ZV M) (h3 : 3 ≤ M 111 0) (hd : ks + 6 ≤ k ∨ k + 28 ≤ ks) (hab : a < b) (hb : (b : Int) < M 111 3) (h : BL k ks P.1 M) (hN : LNS M a b) :
    BL k ks (if (f_addLine P.1 P.2 k ks a b).1 = 0 then (f_addLine P.1 P.2 k ks a b).2 else f_bl2.f_hitn (f_addLine P.1 P.2 k ks a b).2 k).1 (m_layLine M a b) ∧ LNS (m_layLine M a b) a (b + 1) := by
  obtain ⟨b1, b2, b3, b4, b5, b6, b7⟩ := h
  obtain ⟨r1, r2⟩ := addLine_rel (J := P.2) hz ⟨b2.1, by omega⟩ b1 b3 b4 b5 hd hab hb h3 (fun q => LNS_22 hz b2.1 hab hb hN q)
  have m1 : m_layLine M a b 111 = M 111 := layLine_7b
  have rk5 : (f_addLine P.1 P.2 k ks a b).2.1 k 5 = P.1 k 5 := addLine_kj (by decide)
  generalize f_addLine P.1 P.2 k ks a b = r at r1 r2 rk5 ⊢
  rcases r2 with ⟨q1, q2, q3⟩ | ⟨q1, q2, q3, q4, q5, q6⟩
  · rw [if_pos q1]
    refine ⟨⟨by rw [q3, q2]; exact b1, by rw [q2]; exact b2, by rw [rk5, m1]; exact b3, ?_, ?_, ?_, ?_⟩, LNS_0 m1 q2 (by omega) hN⟩
    · intro j hj
      rw [m1] at hj ⊢
      rw [r1 (k + 4) (by omega) (by omega), r1 (k + 5) (by omega) (by omega)]
      exact b4 j hj
    · intro j hj
      rw [m1, r1 (ks + 2) (by omega) (by omega)]
      exact b5 j hj
    · intro q hq
      rw [q2] at hq
      exact LRel_of (r1 _ (by omega) (by omega)) (fun x h1 h2 => layLine_old (by omega) ⟨h1, h2⟩) (b6 q hq)
    · intro c hc
      rw [q2, r1 (k + 2) (by omega) (by omega), b7 c hc]
      exact (hsF_cong _ 0 (fun x h1 h2 => cnt1_of (fun y h3 h4 => layLine_old (by omega) ⟨h3, h4⟩))).symm
  · rw [if_neg (by omega)]
    unfold f_bl2.f_hitn
    dsimp only
    have eL : k + 6 + (r.2.1 k 6 - 1).toNat = k + 6 + (M 110 7).toNat := by omega
    rw [eL]
    have hne : ∀ x, x ≠ k + 2 → f_hit k (k + 6 + (M 110 7).toNat) (r.2.1 (k + 6 + (M 110 7).toNat) 3).toNat 0 r.2.1 x = r.2.1 x := fun x hx => f_hit_ne _ _ _ _ _ _ hx
    refine ⟨⟨by rw [hne k (by omega), q3, q2]; omega, by rw [q2]; omega, by rw [hne k (by omega), rk5, m1]; exact b3, ?_, ?_, ?_, ?_⟩, LNS_1 m1 q2 b2.1 hab hb q6 hN⟩
    · intro j hj
      rw [m1] at hj ⊢
      rw [hne (k + 4) (by omega), hne (k + 5) (by omega), r1 (k + 4) (by omega) (by omega), r1 (k + 5) (by omega) (by omega)]
      exact b4 j hj
    · intro j hj
      rw [m1, hne (ks + 2) (by omega), r1 (ks + 2) (by omega) (by omega)]
      exact b5 j hj
    · intro q hq
      rw [q2] at hq
      by_cases hqL : q = (M 110 7).toNat
      · rw [hqL]
        exact LRel_of (hne _ (by omega)) (fun _ _ _ => rfl) q5
      · exact LRel_of ((hne _ (by omega)).trans (r1 _ (by omega) (by omega))) (fun x h1 h2 => layLine_old hqL ⟨h1, h2⟩) (b6 q (by omega))
    · intro c hc
      rw [hit_line (by omega) hc q5, q2, r1 (k + 2) (by omega) (by omega), b7 c hc, show (M 110 7 + 1).toNat = (M 110 7).toNat + 1 by omega, hsF_snoc, Nat.zero_add]
      rw [hsF_cong (M := M) (M' := m_layLine M a b) _ 0 (fun x h1 h2 => cnt1_of (fun y h3 h4 => layLine_old (by omega) ⟨h3, h4⟩))]
