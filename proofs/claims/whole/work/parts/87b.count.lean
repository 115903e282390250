/-! numbers by cells, numbers by blocks -/
theorem cntL_snoc (f : Nat → Bool) : ∀ (m i : Nat) (a : Int), cntL f (m + 1) i a = cntL f m i a + (if f (i + m) = true then 1 else 0)
  | 0, i, a => by
    unfold cntL cntL
    rw [Nat.add_zero]
    split <;> simp [cntL]
  | m + 1, i, a => by
    have e : ∀ x, cntL f (m + 1 + 1) i x = if f i = true then cntL f (m + 1) (i + 1) (x + 1) else cntL f (m + 1) (i + 1) x := fun x => rfl
    have e2 : ∀ x, cntL f (m + 1) i x = if f i = true then cntL f m (i + 1) (x + 1) else cntL f m (i + 1) x := fun x => rfl
    rw [e, e2, cntL_snoc f m (i + 1), cntL_snoc f m (i + 1), show i + 1 + m = i + (m + 1) by omega]
    split <;> rfl
theorem cntL_split (f : Nat → Bool) : ∀ (n m i : Nat) (a : Int), cntL f (m + n) i a = cntL f n (i + m) (cntL f m i a)
  | 0, m, i, a => rfl
  | n + 1, m, i, a => by
    rw [show m + (n + 1) = (m + n) + 1 by omega, cntL_snoc, cntL_split f n m i a, cntL_snoc, show i + (m + n) = i + m + n by omega]
theorem cntL_none {f : Nat → Bool} : ∀ (m i : Nat) (a : Int), (∀ c, i ≤ c → c < i + m → f c = false) → cntL f m i a = a
  | 0, _, _, _ => rfl
  | m + 1, i, a, h => by
    unfold cntL
    rw [h i (by omega) (by omega), if_neg (by decide)]
    exact cntL_none m (i + 1) _ (fun c h1 h2 => h c (by omega) (by omega))
/-- blocks in such cells, by their cells -/
theorem cnt_bij {V P H : Nat → Int} (hP : ∀ b, b < 480 → -1 ≤ P b ∧ P b < 576) (hH : ∀ c, c < 576 → -1 ≤ H c ∧ H c < 480) (hW : WW V P H) (g : Nat → Bool) : ∀ n : Nat, n ≤ 480 → cntL (fun c => (decide (H c ≠ -1) && g c) && decide (H c < (n : Int))) 576 0 0 = cntL (fun b => decide (P b ≠ -1) && g (P b).toNat) n 0 0
  | 0, _ => by
    refine cntL_none 576 0 0 (fun c _ hc => ?_)
    have := hH c (by omega)
    by_cases h : H c = -1
    · simp [h]
    · have e : decide (H c < ((0 : Nat) : Int)) = false := by
        rw [decide_eq_false_iff_not]
        omega
      rw [e, Bool.and_false]
  | n + 1, hn => by
    have ih := cnt_bij hP hH hW g n (by omega)
    rw [cntL_snoc (fun b => decide (P b ≠ -1) && g (P b).toNat), Nat.zero_add, ← ih]
    have hp := hP n (by omega)
    by_cases hc : P n ≠ -1 ∧ g (P n).toNat = true
    · have h1 := hW.1 n (by omega) hc.1
      have e : cntL (fun c => (decide (H c ≠ -1) && g c) && decide (H c < ((n + 1 : Nat) : Int))) 576 0 0 = cntL (fun c => ((decide (H c ≠ -1) && g c) && decide (H c < (n : Int))) || decide (c = (P n).toNat)) 576 0 0 := by
        refine cntL_cong _ _ _ (fun c _ hc9 => ?_)
        by_cases q : c = (P n).toNat
        · rw [q, h1]
          have : ¬ ((n : Int) = -1) := by omega
          simp [hc.2, this]
          omega
        · by_cases q1 : H c = -1
          · simp [q1, q]
          · have hh := hH c (by omega)
            have : H c ≠ (n : Int) := fun w => by
              have := hW.2.1 c (by omega) q1
              rw [w, Int.toNat_natCast] at this
              omega
            have : (H c < ((n + 1 : Nat) : Int)) ↔ H c < (n : Int) := by omega
            simp only [this, q, decide_false, Bool.or_false]
      rw [e, cntL_or (by
        rw [h1]
        simp), if_pos (by omega), if_pos (by simp [hc.1, hc.2])]
    · have e : cntL (fun c => (decide (H c ≠ -1) && g c) && decide (H c < ((n + 1 : Nat) : Int))) 576 0 0 = cntL (fun c => (decide (H c ≠ -1) && g c) && decide (H c < (n : Int))) 576 0 0 := by
        refine cntL_cong _ _ _ (fun c _ hc9 => ?_)
        by_cases q1 : H c = -1
        · simp [q1]
        · have hh := hH c (by omega)
          by_cases w : H c = (n : Int)
          · have h2 := hW.2.1 c (by omega) q1
            rw [w, Int.toNat_natCast] at h2
            have : g c = false := by
              cases hg : g c with
              | false => rfl
              | true => exact absurd ⟨by omega, by rw [h2, Int.toNat_natCast]; exact hg⟩ hc
            simp [this]
          · have : (H c < ((n + 1 : Nat) : Int)) ↔ H c < (n : Int) := by omega
            simp only [this]
      rw [e, if_neg (by
        simp only [Bool.and_eq_true, decide_eq_true_eq]
        exact hc)]
      omega
theorem cnt_bij9 {V P H : Nat → Int} (hP : ∀ b, b < 480 → -1 ≤ P b ∧ P b < 576) (hH : ∀ c, c < 576 → -1 ≤ H c ∧ H c < 480) (hW : WW V P H) (g : Nat → Bool) : cntL (fun c => decide (H c ≠ -1) && g c) 576 0 0 = cntL (fun b => decide (P b ≠ -1) && g (P b).toNat) 480 0 0 := by
  rw [← cnt_bij hP hH hW g 480 (Nat.le_refl _)]
  refine cntL_cong _ _ _ (fun c _ hc => ?_)
  have := hH c (by omega)
  have : H c < ((480 : Nat) : Int) := by omega
  simp only [this, decide_true, Bool.and_true]
/-- blocks in cells that are not good -/
theorem bad_eq {I M : Nat → Nat → Int} {ks km : Nat} (hS : SRel I ks (M 111)) (hR : MRel I km M) (hz : ZV M) (hW : WF (M 111)) : f_bad I ks km = m_blk M 2 := by
  obtain ⟨r1, r2⟩ := ZV_P hz
  have h1 := (WF_iff.mp hW).1
  have e := cnt_bij9 r1 r2 h1 (fun c => decide (m_isGd M c = 0))
  unfold f_bad m_blk
  rw [cntL_cong (g := fun c => decide (M 111 (978 + c) ≠ -1) && decide (m_isGd M c = 0)) _ _ _ (fun c _ hc => by
    rw [hS.2.2.2.2.2.2.2 c (by omega), goodN_eq hR (by omega)])]
  rw [e]
  refine cntL_cong _ _ _ (fun b _ hb => ?_)
  simp
theorem bis_eq {I M : Nat → Nat → Int} (hS : SRel I 1 (M 111)) (hz : ZV M) (hW : WF (M 111)) : f_bis I = m_blk M 1 := by
  obtain ⟨r1, r2⟩ := ZV_P hz
  have h1 := (WF_iff.mp hW).1
  have e := cnt_bij9 r1 r2 h1 (fun c => decide (480 ≤ c))
  unfold f_bis m_blk
  have e2 : cntL (fun c => decide (M 111 (978 + c) ≠ -1) && decide (480 ≤ c)) 576 0 0 = cntL (fun c => decide (¬ I (1 + 5) c = -1)) 96 480 0 := by
    rw [show 576 = 480 + 96 from rfl, cntL_split, cntL_none 480 0 0 (fun c _ hc => by
      have : ¬ 480 ≤ c := by omega
      simp [this])]
    refine cntL_cong _ _ _ (fun c h1 hc => ?_)
    rw [hS.2.2.2.2.2.2.2 c (by omega)]
    have : 480 ≤ c := by omega
    simp [this]
  rw [← e2, e]
  refine cntL_cong _ _ _ (fun b _ hb => ?_)
  have := r1 b (by omega)
  by_cases q : M 111 (498 + b) = -1
  · simp [q]
  · have : 480 ≤ (M 111 (498 + b)).toNat ↔ 480 ≤ M 111 (498 + b) := by omega
    simp [this]
theorem bwv_eq {I M : Nat → Nat → Int} (hS : SRel I 1 (M 111)) (hW : WF (M 111)) : f_bwv I = m_blk M 0 := by
  unfold f_bwv m_blk
  refine cntL_cong _ _ _ (fun b _ hb => ?_)
  rw [hS.2.2.2.2.2.1 b (by omega)]
  have := hW.2.2.1 b (by omega)
  simp [this]
theorem fsp_eq {I M : Nat → Nat → Int} (hS : SRel I 1 (M 111)) (hR : MRel I 7 M) : f_fsp I = m_fsp M := by
  unfold f_fsp m_fsp
  refine cntL_cong _ _ _ (fun c h1 hc => ?_)
  rw [hS.2.2.2.2.2.2.2 c (by omega), goodN_eq hR (by omega)]
theorem avN_eq {I M : Nat → Nat → Int} {k c : Nat} (hR : MRel I k M) (hc : c < 576) : f_isAv I k (c : Int) = m_isAv M c := by
  unfold f_isAv m_isAv
  rw [Int.toNat_natCast, hR.2.2.1 c hc, hR.2.2.2.1 c hc]
  by_cases h9 : 0 < M 121 c ∧ M 122 c = 0
  · rw [if_pos ⟨by omega, h9.2, h9.1⟩, if_pos h9]
  · rw [if_neg (fun q => h9 ⟨q.2.2, q.2.1⟩), if_neg h9]
theorem avI_eq {I M : Nat → Nat → Int} {k : Nat} {c : Int} (hR : MRel I k M) (hc : 0 ≤ c ∧ c < 576) : f_isAv I k c = m_isAv M c.toNat := by
  unfold f_isAv m_isAv
  rw [hR.2.2.1 c.toNat (by omega), hR.2.2.2.1 c.toNat (by omega)]
  by_cases h9 : 0 < M 121 c.toNat ∧ M 122 c.toNat = 0
  · rw [if_pos ⟨by omega, h9.2, h9.1⟩, if_pos h9]
  · rw [if_neg (fun q => h9 ⟨q.2.2, q.2.1⟩), if_neg h9]
/-! properties of a line -/
theorem clL_ci {M : Nat → Nat → Int} {q : Nat} {e : Int} : ∀ (f : Nat) (s a : Int), m_clL M q e f s a = a + ci (m_cok M q e) f s
  | 0, s, a => by
    unfold m_clL ci
    omega
  | f + 1, s, a => by
    unfold m_clL ci
    by_cases h : m_cok M q e s = true
    · rw [if_pos h, if_pos h, clL_ci f (s + 1)]
      omega
    · rw [if_neg h, if_neg h, clL_ci f (s + 1)]
      omega
theorem cntL_ci (f : Nat → Bool) (g : Int → Bool) (hfg : ∀ i : Nat, f i = g i) : ∀ (m i : Nat) (a : Int), cntL f m i a = a + ci g m i
  | 0, i, a => by
    unfold cntL ci
    omega
  | m + 1, i, a => by
    unfold cntL ci
    rw [hfg i, cntL_ci f g hfg m (i + 1), cntL_ci f g hfg m (i + 1), show ((i + 1 : Nat) : Int) = (i : Int) + 1 by omega]
    split <;> omega
theorem ci_all : ∀ (m : Nat) (s : Int), ci (fun _ => true) m s = m
  | 0, _ => rfl
  | m + 1, s => by
    unfold ci
    rw [ci_all m (s + 1), if_pos rfl]
    omega
theorem line_eq {I M : Nat → Nat → Int} {kl q : Nat} (h : LRel I kl M q) (hS : SRel I 1 (M 111)) (hR : MRel I 7 M) (w : Nat) : f_lp I kl w = m_tl M q w := by
  have hc := h
  obtain ⟨g0, g1, g2, g3, g4, g5, g6, g7, g8⟩ := h
  have e2 : m_cls M q 0 = I kl 3 := by
    unfold m_cls
    rw [clL_ci, ci_line hc (m_cok M q 0) (fun _ => true) (fun s hs => by
      unfold m_cok
      rw [hs]
      simp) (fun d h1 h2 => by
      have := cellAt_of hc ⟨h1, h2⟩
      unfold m_cok
      simp [this.2]), ci_all]
    omega
  have e3 : m_cls M q 1 = f_tca I kl := by
    unfold m_cls f_tca
    rw [clL_ci, cntL_ci _ (fun i : Int => decide (¬ f_isAv I 7 (f_cellAt I kl i) = 0) && decide (¬ f_hol I 1 (f_cellAt I kl i) = -1)) (fun _ => rfl)]
    rw [ci_line hc (m_cok M q 1) (fun i : Int => decide (¬ f_isAv I 7 (f_cellAt I kl i) = 0) && decide (¬ f_hol I 1 (f_cellAt I kl i) = -1)) (fun s hs => by
      unfold m_cok
      rw [hs]
      simp) (fun d h1 h2 => by
      have ca := cellAt_of hc ⟨h1, h2⟩
      have rg := m_cellOf_rg (I := M) (q := q) (s := I kl 6 + d)
      unfold m_cok
      rw [ca.1]
      have e9 : f_isAv I 7 (m_cellOf M q (I kl 6 + d)) = m_isAv M (m_cellOf M q (I kl 6 + d)).toNat := by
        exact avI_eq hR (by omega)
      have e8 : f_hol I 1 (m_cellOf M q (I kl 6 + d)) = M 111 (978 + (m_cellOf M q (I kl 6 + d)).toNat) := by
        unfold f_hol
        rw [if_pos (by omega)]
        exact hS.2.2.2.2.2.2.2 _ (by omega)
      rw [e9, e8]
      simp [ca.2])]
    rfl
  match w with
  | 0 => exact g0
  | 1 => show pcn (I kl 0) = pcn (M 115 q); rw [g0]
  | 2 => exact e2.symm
  | 3 => exact e3.symm
  | 4 => exact g1
  | w + 5 => show I kl 2 + 24 = M 117 q + 24; rw [g2]
