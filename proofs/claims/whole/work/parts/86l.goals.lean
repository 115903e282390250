/-! where blocks go: the object's goals are the reference's -/
theorem isAv_of {M M' : Nat → Nat → Int} (h1 : M' 121 = M 121) (h2 : M' 122 = M 122) (c : Nat) : m_isAv M' c = m_isAv M c := by
  unfold m_isAv
  rw [h1, h2]
theorem isGd_of {M M' : Nat → Nat → Int} (h1 : M' 121 = M 121) (h2 : M' 122 = M 122) (c : Nat) : m_isGd M' c = m_isGd M c := by
  unfold m_isGd
  rw [h1, h2]
theorem MRel_of {I I' M M' : Nat → Nat → Int} {k : Nat} (hI : ∀ a, k ≤ a → a < k + 28 → I' a = I a) (h6 : I k 6 ≤ 22) (hM : ∀ a, 115 ≤ a → a ≤ 122 → M' a = M a) (h7 : M' 110 7 = M 110 7) (h : MRel I k M) : MRel I' k M' := by
  obtain ⟨a1, a2, a3, a4, a5⟩ := h
  refine ⟨by rw [hI k (by omega) (by omega), h7]; exact a1, ?_, fun c hc => by rw [hI _ (by omega) (by omega), hM 121 (by decide) (by decide)]; exact a3 c hc, fun c hc => by rw [hI _ (by omega) (by omega), hM 122 (by decide) (by decide)]; exact a4 c hc, fun i hi => ?_⟩
  · rw [hI k (by omega) (by omega), a2]
    unfold m_avM
    exact cntL_cong _ _ _ (fun c _ _ => by rw [isAv_of (hM 121 (by decide) (by decide)) (hM 122 (by decide) (by decide))])
  · rw [h7] at hi
    exact LRel_of (hI _ (by omega) (by omega)) (fun a h1 h2 => by rw [hM a h1 (by omega)]) (a5 i hi)
theorem good_eq {I M : Nat → Nat → Int} {km : Nat} (h : MRel I km M) {c : Int} (hc : 0 ≤ c ∧ c < 576) : f_isGood I km c = m_isGd M c.toNat := by
  unfold f_isGood m_isGd
  rw [h.2.2.1 c.toNat (by omega), h.2.2.2.1 c.toNat (by omega)]
  by_cases h9 : M 121 c.toNat = 0 ∧ M 122 c.toNat = 0
  · rw [if_pos ⟨hc, h9.2, h9.1⟩, if_pos h9]
  · rw [if_neg (fun q => h9 ⟨q.2.2, q.2.1⟩), if_neg h9]
theorem goodN_eq {I M : Nat → Nat → Int} {km c : Nat} (h : MRel I km M) (hc : c < 576) : f_isGood I km (c : Int) = m_isGd M c := by
  rw [good_eq h (by omega), Int.toNat_natCast]
theorem good_m1 {I : Nat → Nat → Int} {km : Nat} : f_isGood I km (-1) = 0 := by
  unfold f_isGood
  exact if_neg (fun q => by omega)
theorem lfsL_eq {I M : Nat → Nat → Int} {ks km : Nat} (hS : SRel I ks (M 111)) (h : MRel I km M) : ∀ (m c : Nat), c + m ≤ 576 → lfsL I ks km m c = frL M m c
  | 0, _, _ => rfl
  | m + 1, c, hc => by
    unfold lfsL frL
    rw [goodN_eq h (by omega), hS.2.2.2.2.2.2.2 c (by omega), lfsL_eq hS h m (c + 1) (by omega)]
theorem lfs_eq {I M : Nat → Nat → Int} {ks km : Nat} (hS : SRel I ks (M 111)) (h : MRel I km M) : f_lfs I ks km = m_free M := lfsL_eq hS h 96 480 (by decide)
theorem frL_spec (M : Nat → Nat → Int) : ∀ (f c : Nat), frL M f c = -1 ∨ ((c : Int) ≤ frL M f c ∧ frL M f c < c + f ∧ M 111 (978 + (frL M f c).toNat) = -1 ∧ ¬ m_isGd M (frL M f c).toNat = 0)
  | 0, _ => Or.inl rfl
  | f + 1, c => by
    unfold frL
    by_cases h : ¬ m_isGd M c = 0 ∧ M 111 (978 + c) = -1
    · rw [if_pos h, Int.toNat_natCast]
      exact Or.inr ⟨by omega, by omega, h.2, h.1⟩
    · rw [if_neg h]
      rcases frL_spec M f (c + 1) with h1 | ⟨h1, h2, h3⟩
      · exact Or.inl h1
      · exact Or.inr ⟨by omega, by omega, h3⟩
theorem cfw_eq {I M : Nat → Nat → Int} {ks km b : Nat} (hS : SRel I ks (M 111)) (h : MRel I km M) (hz : ZV M) (hb : b < 480) : f_cfw I ks km b = m_goal M b := by
  have hw := (ZV_P hz).1 b hb
  unfold f_cfw m_goal
  rw [hS.2.2.2.2.2.2.1 b hb, lfs_eq hS h, goodN_eq h (by omega)]
  by_cases h9 : M 111 (498 + b) = -1
  · rw [h9, good_m1, if_neg (fun q => q rfl), if_neg (c := ¬ (-1 : Int) = -1 ∧ ¬ m_isGd M (-1 : Int).toNat = 0) (fun q => q.1 rfl)]
  · rw [good_eq h (by omega)]
    by_cases h8 : m_isGd M (M 111 (498 + b)).toNat = 0
    · rw [if_neg (fun q => q h8), if_neg (c := ¬ M 111 (498 + b) = -1 ∧ ¬ m_isGd M (M 111 (498 + b)).toNat = 0) (fun q => q.2 h8)]
    · rw [if_pos h8, if_pos ⟨h9, h8⟩]
/-- a cell to which a block may come -/
def FREE (M : Nat → Nat → Int) (b : Nat) (c : Int) : Prop := (0 ≤ c ∧ c < 576) ∧ (M 111 (978 + c.toNat) = -1 ∨ M 111 (978 + c.toNat) = (b : Int)) ∧ (c = (b : Int) ∨ 480 ≤ c)
theorem FREE_home {M : Nat → Nat → Int} (hz : ZV M) (hW : WF (M 111)) {b : Nat} (hb : b < 480) : FREE M b b := by
  refine ⟨by omega, ?_, Or.inl rfl⟩
  rw [Int.toNat_natCast]
  by_cases h : M 111 (978 + b) = -1
  · exact Or.inl h
  · have r := (ZV_P hz).2 b (by omega)
    have h1 := hW.2.1 b (by omega) h
    have h2 := hW.2.2.2.1 (M 111 (978 + b)).toNat (by omega)
    omega
theorem FREE_here {M : Nat → Nat → Int} (hz : ZV M) (hW : WF (M 111)) {b : Nat} (hb : b < 480) (h : M 111 (498 + b) ≠ -1) : FREE M b (M 111 (498 + b)) := by
  have r := (ZV_P hz).1 b hb
  have h1 := hW.1 b hb h
  have h2 := hW.2.2.2.1 b hb
  exact ⟨by omega, Or.inr h1, by omega⟩
theorem FREE_free {M : Nat → Nat → Int} {b : Nat} (h : m_free M ≠ -1) : FREE M b (m_free M) := by
  unfold m_free at h ⊢
  rcases frL_spec M 96 480 with h1 | ⟨h1, h2, h3, h4⟩
  · exact absurd h1 h
  · exact ⟨by omega, Or.inl h3, Or.inr (by omega)⟩
theorem FREE_goal {M : Nat → Nat → Int} (hz : ZV M) (hW : WF (M 111)) {b : Nat} (hb : b < 480) (h : m_goal M b ≠ -1) : FREE M b (m_goal M b) := by
  unfold m_goal at h ⊢
  by_cases h1 : ¬ M 111 (498 + b) = -1 ∧ ¬ m_isGd M (M 111 (498 + b)).toNat = 0
  · rw [if_pos h1]
    exact FREE_here hz hW hb h1.1
  · rw [if_neg h1] at h ⊢
    by_cases h2 : ¬ m_isGd M b = 0
    · rw [if_pos h2]
      exact FREE_home hz hW hb
    · rw [if_neg h2] at h ⊢
      exact FREE_free h
/-- a block is written -/
theorem write_rel {I M : Nat → Nat → Int} {ks b : Nat} {v : Int} (hS : SRel I ks (M 111)) (hz : ZV M) (hW : WF (M 111)) (hb : b < 480) (hv : v ≠ -1) (hg : m_goal M b ≠ -1) : SRel (f_place I ks b (m_goal M b) v) ks (m_write M b v 111) ∧ WF (m_write M b v 111) := by
  obtain ⟨f1, f2, f3⟩ := FREE_goal hz hW hb hg
  refine place_rel hS hW hz hb f1 f2 f3 hv (fun p _ => ?_)
  unfold m_write
  rw [u2k]
/-- where a block is moved -/
theorem cft_eq {I M : Nat → Nat → Int} {ks km b : Nat} (hS : SRel I ks (M 111)) (h : MRel I km M) (hz : ZV M) (hW : WF (M 111)) (hb : b < 480) : (f_cft I ks km b = -1 ∧ m_tgoal M b = M 111 (498 + b)) ∨ (f_cft I ks km b = m_tgoal M b ∧ ¬ f_cft I ks km b = -1 ∧ ¬ m_tgoal M b = M 111 (498 + b) ∧ M 111 (498 + b) ≠ -1 ∧ FREE M b (m_tgoal M b)) := by
  have hw := (ZV_P hz).1 b hb
  unfold f_cft m_tgoal
  rw [hS.2.2.2.2.2.2.1 b hb, lfs_eq hS h, goodN_eq h (by omega)]
  by_cases h9 : M 111 (498 + b) = -1
  · rw [if_pos (Or.inl h9), if_pos (Or.inl h9)]
    exact Or.inl ⟨rfl, rfl⟩
  · rw [good_eq h (by omega)]
    by_cases h8 : M 111 (498 + b) = b ∧ ¬ m_isGd M b = 0
    · rw [if_pos (Or.inr h8), if_pos (Or.inr ⟨h8.1, by rw [h8.1, Int.toNat_natCast]; exact h8.2⟩)]
      exact Or.inl ⟨rfl, rfl⟩
    · rw [if_neg (c := _ ∨ M 111 (498 + b) = b ∧ ¬ m_isGd M b = 0) (fun q => by
        rcases q with q | q
        · exact h9 q
        · exact h8 q), if_neg (c := _ ∨ M 111 (498 + b) = b ∧ _) (fun q => by
        rcases q with q | q
        · exact h9 q
        · exact h8 ⟨q.1, by have := q.2; rw [q.1, Int.toNat_natCast] at this; exact this⟩)]
      by_cases h7 : ¬ m_isGd M b = 0
      · rw [if_pos h7, if_pos h7]
        exact Or.inr ⟨rfl, by omega, fun q => h8 ⟨q.symm, h7⟩, h9, FREE_home hz hW hb⟩
      · rw [if_neg h7, if_neg h7]
        by_cases h6 : ¬ m_isGd M (M 111 (498 + b)).toNat = 0
        · rw [if_pos h6, if_pos h6]
          exact Or.inl ⟨rfl, rfl⟩
        · rw [if_neg h6, if_neg h6]
          by_cases h5 : m_free M = -1
          · rw [if_pos h5, h5]
            exact Or.inl ⟨rfl, rfl⟩
          · rw [if_neg h5]
            refine Or.inr ⟨rfl, h5, fun q => ?_, h9, FREE_free h5⟩
            have fs := frL_spec M 96 480
            have e : frL M 96 480 = m_free M := rfl
            rw [e] at fs
            rcases fs with f1 | ⟨f1, f2, f3, f4⟩
            · exact h5 f1
            · rw [q] at f4
              exact h6 f4
theorem td_rel {ks km : Nat} {most : Int} (hd : ks + 6 ≤ km ∨ km + 28 ≤ ks) : ∀ (f b : Nat) (d : Int) (I M : Nat → Nat → Int), b + f = 480 → SRel I ks (M 111) → WF (M 111) → ZV M → MRel I km M → I km 6 ≤ 22 → (tdL ks km most f b d I).1 = (m_tdL most f b d M).1 ∧ SRel (tdL ks km most f b d I).2 ks ((m_tdL most f b d M).2 111) ∧ WF ((m_tdL most f b d M).2 111)
  | 0, b, d, I, M, _, hS, hW, _, _, _ => ⟨rfl, hS, hW⟩
  | f + 1, b, d, I, M, hb, hS, hW, hz, hR, h6 => by
    unfold tdL m_tdL
    by_cases hm : d < most
    · rw [if_pos hm, if_pos hm]
      rcases cft_eq hS hR hz hW (b := b) (by omega) with ⟨c1, c2⟩ | ⟨c1, c2, c3, c4, c5, c6, c7⟩
      · rw [if_pos c1, if_pos c2]
        exact td_rel hd f (b + 1) d I M (by omega) hS hW hz hR h6
      · rw [if_neg c2, if_neg c3, c1]
        have hv : I (ks + 3) b = M 111 (18 + b) := hS.2.2.2.2.2.1 b (by omega)
        have hv0 : M 111 (18 + b) ≠ -1 := fun q => c4 ((hW.2.2.1 b (by omega)).mp q)
        obtain ⟨s1, s2⟩ := place_rel (v := I (ks + 3) b) (z' := m_bring M b (m_tgoal M b) 111) hS hW hz (by omega) c5 c6 c7 (by rw [hv]; exact hv0) (fun p _ => by
          by_cases hp : p = 18 + b
          · rw [if_pos hp, hv, hp, bring_at hz (by omega) c5, if_neg (by omega), if_neg (by omega), if_neg (by omega), if_neg (by omega)]
          · rw [if_neg hp])
        have ne : ∀ a, km ≤ a → a < km + 28 → f_place I ks b (m_tgoal M b) (I (ks + 3) b) a = I a := fun a h1 h2 => f_place_ne (by omega)
        exact td_rel hd f (b + 1) (d + 1) _ _ (by omega) s1 s2 (bring_ZV hz (by omega) c5) (MRel_of ne h6 (fun a h1 h2 => bring_ne (by omega)) (by rw [bring_ne (by decide)]) hR) (by rw [ne km (by omega) (by omega)]; exact h6)
    · rw [if_neg hm, if_neg hm]
      exact ⟨rfl, hS, hW⟩
theorem fl_rel {b : Nat} {v : Int} (hv : 0 ≤ v) : ∀ (f w : Nat) (I M : Nat → Nat → Int), b + w + f ≤ 480 → v ≤ 999 → SRel I 1 (M 111) → WF (M 111) → ZV M → MRel I 7 M → I 7 6 ≤ 22 → (flL b v f w I).1 = (m_flL b v f w M).1 ∧ SRel (flL b v f w I).2 1 ((m_flL b v f w M).2 111) ∧ WF ((m_flL b v f w M).2 111)
  | 0, w, I, M, _, _, hS, hW, _, _, _ => ⟨rfl, hS, hW⟩
  | f + 1, w, I, M, hb, h99, hS, hW, hz, hR, h6 => by
    unfold flL m_flL
    rw [cfw_eq hS hR hz (b := b + w) (by omega)]
    by_cases hg : m_goal M (b + w) = -1
    · rw [if_pos hg, if_pos hg]
      exact ⟨rfl, hS, hW⟩
    · rw [if_neg hg, if_neg hg]
      obtain ⟨s1, s2⟩ := write_rel (v := v) hS hz hW (b := b + w) (by omega) (by omega) hg
      have gr := m_goal_rg hz (b := b + w) (by omega)
      have ne : ∀ a, 7 ≤ a → a < 7 + 28 → f_place I 1 ((b + w : Nat) : Int) (m_goal M (b + w)) v a = I a := fun a h1 h2 => f_place_ne (by omega)
      exact fl_rel hv f (w + 1) _ _ (by omega) h99 s1 s2 (write_ZV hz (by omega) (by omega) hg) (MRel_of ne h6 (fun a h1 h2 => write_ne (by omega)) (by rw [write_ne (by decide)]) hR) (by rw [ne 7 (by decide) (by decide)]; exact h6)
theorem fl_ne (b : Nat) (v : Int) : ∀ (f w : Nat) (I : Nat → Nat → Int) (a : Nat), a < 1 ∨ 7 ≤ a → (flL b v f w I).2 a = I a
  | 0, _, _, _, _ => rfl
  | f + 1, w, I, a, h => by
    unfold flL
    split
    · rfl
    · rw [fl_ne b v f (w + 1) _ a h, f_place_ne (by omega)]
