/-! the reference: its digest -/
theorem cntL_acc (f : Nat → Bool) : ∀ (m i : Nat) (a : Int), cntL f m i a = a + cntL f m i 0
  | 0, _, a => by show a = a + 0; omega
  | m + 1, i, a => by
    unfold cntL
    split
    · rw [cntL_acc f m (i + 1) (a + 1), cntL_acc f m (i + 1) (0 + 1)]; omega
    · exact cntL_acc f m (i + 1) a
theorem cntL_le {f g : Nat → Bool} (h : ∀ c, f c = true → g c = true) : ∀ (m i : Nat), cntL f m i 0 ≤ cntL g m i 0
  | 0, _ => by show (0 : Int) ≤ 0; decide
  | m + 1, i => by
    have ih := cntL_le h m (i + 1)
    unfold cntL
    rw [cntL_acc f m (i + 1) (0 + 1), cntL_acc g m (i + 1) (0 + 1)]
    by_cases hf : f i = true
    · rw [if_pos hf, if_pos (h i hf)]; omega
    · rw [if_neg hf]
      split <;> omega
theorem cntL_or {f : Nat → Bool} {c0 : Nat} (hf : f c0 = false) : ∀ (m i : Nat), cntL (fun c => f c || decide (c = c0)) m i 0 = cntL f m i 0 + (if i ≤ c0 ∧ c0 < i + m then 1 else 0)
  | 0, i => by
    rw [if_neg (by omega)]
    rfl
  | m + 1, i => by
    have ih := cntL_or hf m (i + 1)
    show (if (f i || decide (i = c0)) = true then _ else _) = (if f i = true then _ else _) + _
    rw [cntL_acc _ m (i + 1) (0 + 1), cntL_acc f m (i + 1) (0 + 1), ih]
    by_cases h : i = c0
    · rw [h, hf]
      simp only [Bool.false_or, decide_true, if_true, Bool.false_eq_true, if_false]
      rw [if_neg (by omega), if_pos (by omega)]
      omega
    · have e : (f i || decide (i = c0)) = f i := by simp [h]
      rw [e]
      have e2 : (if i ≤ c0 ∧ c0 < i + (m + 1) then (1 : Int) else 0) = if i + 1 ≤ c0 ∧ c0 < i + 1 + m then 1 else 0 := by
        by_cases g : i + 1 ≤ c0 ∧ c0 < i + 1 + m
        · rw [if_pos g, if_pos (by omega)]
        · rw [if_neg g, if_neg (by omega)]
      rw [e2]
      split <;> omega
theorem cntL_not (f : Nat → Bool) : ∀ (m i : Nat), cntL f m i 0 + cntL (fun c => !f c) m i 0 = m
  | 0, _ => rfl
  | m + 1, i => by
    have ih := cntL_not f m (i + 1)
    unfold cntL
    rw [cntL_acc f m (i + 1) (0 + 1), cntL_acc (fun c => !f c) m (i + 1) (0 + 1)]
    by_cases hf : f i = true
    · rw [if_pos hf, if_neg (by simp [hf])]; omega
    · rw [if_neg hf, if_pos (by simp [hf])]; omega
def anyS (s : Nat → Nat) : Nat → Nat → Bool
  | 0, _ => false
  | n + 1, c => anyS s n c || decide (c = s n)
theorem anyS_iff (s : Nat → Nat) : ∀ (n c : Nat), anyS s n c = true ↔ ∃ k, k < n ∧ s k = c
  | 0, c => ⟨fun h => (Bool.false_ne_true h).elim, fun ⟨k, h, _⟩ => (Nat.not_lt_zero k h).elim⟩
  | n + 1, c => by
    show (anyS s n c || decide (c = s n)) = true ↔ _
    rw [Bool.or_eq_true, anyS_iff s n c, decide_eq_true_iff]
    constructor
    · rintro (⟨k, g1, g2⟩ | g)
      · exact ⟨k, by omega, g2⟩
      · exact ⟨n, by omega, g.symm⟩
    · rintro ⟨k, g1, g2⟩
      by_cases g : k = n
      · right; rw [← g2, g]
      · left; exact ⟨k, by omega, g2⟩
/-- n places, all apart, all below 576: there are n of them -/
theorem cntL_apart (s : Nat → Nat) : ∀ n : Nat, (∀ k, k < n → s k < 576) → (∀ i j, i < n → j < n → s i = s j → i = j) → cntL (anyS s n) 576 0 0 = n
  | 0, _, _ => by
    have q : ∀ (m i : Nat), cntL (anyS s 0) m i 0 = 0 := by
      intro m
      induction m with
      | zero => intro i; rfl
      | succ m ih => intro i; show (if false = true then _ else _) = _; rw [if_neg (by decide)]; exact ih (i + 1)
    exact q 576 0
  | n + 1, h1, h2 => by
    have ih := cntL_apart s n (fun k hk => h1 k (by omega)) (fun i j hi hj => h2 i j (by omega) (by omega))
    have hf : anyS s n (s n) = false := by
      rw [Bool.eq_false_iff]
      intro h
      obtain ⟨k, g1, g2⟩ := (anyS_iff s n (s n)).mp h
      have := h2 k n (by omega) (by omega) g2
      omega
    have e : anyS s (n + 1) = fun c => anyS s n c || decide (c = s n) := rfl
    have hn := h1 n (by omega)
    rw [e, cntL_or (c0 := s n) hf, ih, if_pos (by omega)]
    omega
theorem lay_122 {I : Nat → Nat → Int} {q : Nat} (hq : (q : Int) < I 111 3) : m_lay I 122 (I 111 (6 + q)).toNat = 1 := by
  have em : m_lb 576 0 (m_lay1 I) 111 = I 111 := by
    rw [lb_ne _ _ _ _ (by decide) (by decide)]
    unfold m_lay1
    rw [a1_ne _ _ _ _ (by decide), u2_ne (by decide)]
  rw [lay_rows (by decide)]
  unfold m_lay3
  exact (lc_122 (I 111 3).toNat 0 (m_lb 576 0 (m_lay1 I)) _).1 ⟨q, by omega, by omega, by rw [em]⟩
theorem good_rg {I : Nat → Nat → Int} (hz9 : ZV I) : 0 ≤ m_good (m_lay I) ∧ m_good (m_lay I) < 580 := by
  obtain ⟨z3, zs, zs0, zd, -⟩ := id hz9
  have h1 := cntL_apart (fun k => (I 111 (6 + k)).toNat) (I 111 3).toNat (fun k hk => by have := zs k (by omega); show (I 111 (6 + k)).toNat < 576; omega) (fun i j hi hj he => by
    have a := zs0 i (by omega)
    have b := zs0 j (by omega)
    have he' : (I 111 (6 + i)).toNat = (I 111 (6 + j)).toNat := he
    exact zd i j (by omega) (by omega) (by omega))
  have h2 : cntL (fun c => decide (¬ m_isAv (m_lay I) c = 0)) 576 0 0 ≤ cntL (fun c => !anyS (fun k => (I 111 (6 + k)).toNat) (I 111 3).toNat c) 576 0 0 := by
    refine cntL_le (fun c hc => ?_) 576 0
    rw [decide_eq_true_iff] at hc
    rw [Bool.not_eq_true', Bool.eq_false_iff]
    intro ha
    obtain ⟨k, g1, g2⟩ := (anyS_iff _ _ _).mp ha
    apply hc
    have e := lay_122 (I := I) (q := k) (by omega)
    rw [g2] at e
    unfold m_isAv
    rw [e]
    exact if_neg (by omega)
  have h3 := cntL_not (anyS (fun k => (I 111 (6 + k)).toNat) (I 111 3).toNat) 576 0
  have h4 := cntL_rg2 (fun c => decide (¬ m_isAv (m_lay I) c = 0)) 576 0 0
  have e3 : m_lay I 111 3 = I 111 3 := by rw [lay_ne (by decide)]
  unfold m_good m_avM
  rw [e3]
  generalize cntL (fun c => decide (¬ m_isAv (m_lay I) c = 0)) 576 0 0 = A at h2 h4 ⊢
  omega
def g8 (I : Nat → Nat → Int) (h : Int64) : Int64 × (Nat → Nat → Int) := (hL (fun q => I 114 q) (I 110 6).toNat 0 (hx h (I 110 6)), I)
def g7 (I : Nat → Nat → Int) (h : Int64) : Int64 × (Nat → Nat → Int) := g8 (m_lay I) (31 * h + m_bits (f_shr (m_good (m_lay I))))
def g6 (I : Nat → Nat → Int) (h : Int64) : Int64 × (Nat → Nat → Int) := g7 (m_wm I).2 (hx h (m_wm I).1)
def g5 (I : Nat → Nat → Int) (h : Int64) : Int64 × (Nat → Nat → Int) := g6 (m_lay I) (hx h (m_wc I))
def g43 (I : Nat → Nat → Int) (h : Int64) : Int64 × (Nat → Nat → Int) := g5 (m_mf 509 I h).2 (m_mf 509 I h).1
def g42 (I : Nat → Nat → Int) (h : Int64) : Int64 × (Nat → Nat → Int) := g43 (m_mf 250 I h).2 (m_mf 250 I h).1
def g41 (I : Nat → Nat → Int) (h : Int64) : Int64 × (Nat → Nat → Int) := g42 (m_mf 51 I h).2 (m_mf 51 I h).1
def g3 (I : Nat → Nat → Int) (h : Int64) : Int64 × (Nat → Nat → Int) := g41 (m_lay I) (m_mm I h)
def g2 (I : Nat → Nat → Int) (h : Int64) : Int64 × (Nat → Nat → Int) := g3 I (hL (fun q => I 111 q) 3 0 h)
def g1 (I : Nat → Nat → Int) (h : Int64) : Int64 × (Nat → Nat → Int) := g2 (m_dcL 10 0 I h).2 (m_dcL 10 0 I h).1
def m_digest (I : Nat → Nat → Int) : Int64 × (Nat → Nat → Int) := g1 (m_thr I 0) 2851
theorem TV_MK {I0 I : Nat → Nat → Int} (h : TV I0) (k : MK I0 I) : TV I := by
  unfold TV
  rw [k.2.2.1.2, k.2.1 114 (by omega)]
  exact h
theorem MK_mf {c : Nat} {I : Nat → Nat → Int} {h : Int64} (hc : c < 576) (hz : ZV I) : MK I (m_mf c I h).2 := MK_mfL hc 4 0 I h hz
set_option maxHeartbeats 2000000 in
set_option maxRecDepth 100000 in
theorem s_X5_dg8_lp {l : Launch} {E : QE} {T : Nat → Nat × Nat} {I : Nat → Nat → Int} {J : Nat → Nat → Int64} {R : Nat → Nat → Option Nat} {n z : Nat} (hk : MdB T R n) (hv9 : TV I) {h0 : Int64} (e9 : hL (fun q => I 114 q) (I 110 6).toNat 0 (hx h0 (I 110 6)) = (g8 I h0).1) : ∀ (f i : Nat) (h : Int64), i + f = (I 110 6).toNat → hL (fun q => I 114 q) f i h = (g8 I h0).1 → Go l E Y_X5_digest 0 0 126 [some (.ref (E.1 + 110)), some (.int (iz (i : Int)))] [] (T, I, jh J (h), R, n, z) (KV (.long (g8 I h0).1) (T, I, jh J (g8 I h0).1, R, n, z)) := by
  have hk0 := hk
  obtain ⟨t0, t1, t2, t3, t4, t5, t6, t7, t8, t9, t10, t11, t12, t13, r1, r2, r4, r5, r8, r9, r10, r11, r12, r13, r14, r15, r16, hn⟩ := hk
  intro f
  induction f with
  | zero =>
    intro i h hf he
    have v1 := hv9.1
    have he2 : h = (g8 I h0).1 := he
    rw [← he2]
    clear he he2 e9
    refine g_iload1 (Y := Y_X5_digest) (pc' := 127) dX5_digest_126 rfl ?_
    refine g_aload0 (Y := Y_X5_digest) (pc' := 128) dX5_digest_127 rfl ?_
    refine g_getI (Y := Y_X5_digest) (pc' := 131) dX5_digest_128 rfl fl_X5_170 rfl (by first | exact t0 | exact t1 | exact r1 | exact t2 | exact t3 | exact t4 | exact t5 | exact t6 | exact t7 | exact t8 | exact t9 | exact t10 | exact t11 | exact t12 | exact t13 | exact r2 | exact r4 | exact r5 | exact r8 | exact r9 | exact r10 | exact r11 | exact r12 | exact r13 | exact r14 | exact r15 | exact r16) (by omega) ?_
    refine g_icmp_ge (Y := Y_X5_digest) (t := 151) (pc' := 134) dX5_digest_131 (by decide) rfl ⟨by omega, by omega⟩ ⟨by omega, by omega⟩ (fun h131 => ?_) (fun h131 => ?_)
    · refine g_aload0 (Y := Y_X5_digest) (pc' := 152) dX5_digest_151 rfl ?_
      refine g_getJ (Y := Y_X5_digest) (pc' := 155) dX5_digest_152 rfl fl_X5_263 rfl (by first | exact t0 | exact t1 | exact r1 | exact t2 | exact t3 | exact t4 | exact t5 | exact t6 | exact t7 | exact t8 | exact t9 | exact t10 | exact t11 | exact t12 | exact t13 | exact r2 | exact r4 | exact r5 | exact r8 | exact r9 | exact r10 | exact r11 | exact r12 | exact r13 | exact r14 | exact r15 | exact r16) (by omega) ?_
      rw [jh_at]
      exact g_lret (Y := Y_X5_digest) dX5_digest_155 rfl (Nat.zero_le _) (Nat.zero_le _) (⟨rfl, rfl⟩)
    · exfalso; omega
  | succ f ih =>
    intro i h hf he
    have v1 := hv9.1
    have he2 : hL (fun q => I 114 q) f (i + 1) (hx h (I 114 i)) = (g8 I h0).1 := he
    refine g_iload1 (Y := Y_X5_digest) (pc' := 127) dX5_digest_126 rfl ?_
    refine g_aload0 (Y := Y_X5_digest) (pc' := 128) dX5_digest_127 rfl ?_
    refine g_getI (Y := Y_X5_digest) (pc' := 131) dX5_digest_128 rfl fl_X5_170 rfl (by first | exact t0 | exact t1 | exact r1 | exact t2 | exact t3 | exact t4 | exact t5 | exact t6 | exact t7 | exact t8 | exact t9 | exact t10 | exact t11 | exact t12 | exact t13 | exact r2 | exact r4 | exact r5 | exact r8 | exact r9 | exact r10 | exact r11 | exact r12 | exact r13 | exact r14 | exact r15 | exact r16) (by omega) ?_
    refine g_icmp_ge (Y := Y_X5_digest) (t := 151) (pc' := 134) dX5_digest_131 (by decide) rfl ⟨by omega, by omega⟩ ⟨by omega, by omega⟩ (fun h131 => ?_) (fun h131 => ?_)
    · exfalso; omega
    · refine g_aload0 (Y := Y_X5_digest) (pc' := 135) dX5_digest_134 rfl ?_
      refine g_aload0 (Y := Y_X5_digest) (pc' := 136) dX5_digest_135 rfl ?_
      refine g_getR (Y := Y_X5_digest) (pc' := 139) dX5_digest_136 rfl fl_X5_19 rfl (by first | exact t0 | exact t1 | exact r1 | exact t2 | exact t3 | exact t4 | exact t5 | exact t6 | exact t7 | exact t8 | exact t9 | exact t10 | exact t11 | exact t12 | exact t13 | exact r2 | exact r4 | exact r5 | exact r8 | exact r9 | exact r10 | exact r11 | exact r12 | exact r13 | exact r14 | exact r15 | exact r16) (by omega) (by first | exact t0 | exact t1 | exact r1 | exact t2 | exact t3 | exact t4 | exact t5 | exact t6 | exact t7 | exact t8 | exact t9 | exact t10 | exact t11 | exact t12 | exact t13 | exact r2 | exact r4 | exact r5 | exact r8 | exact r9 | exact r10 | exact r11 | exact r12 | exact r13 | exact r14 | exact r15 | exact r16) ?_
      refine g_iload1 (Y := Y_X5_digest) (pc' := 140) dX5_digest_139 rfl ?_
      refine g_iald (Y := Y_X5_digest) (pc' := 141) dX5_digest_140 rfl (by first | exact t0 | exact t1 | exact r1 | exact t2 | exact t3 | exact t4 | exact t5 | exact t6 | exact t7 | exact t8 | exact t9 | exact t10 | exact t11 | exact t12 | exact t13 | exact r2 | exact r4 | exact r5 | exact r8 | exact r9 | exact r10 | exact r11 | exact r12 | exact r13 | exact r14 | exact r15 | exact r16) (by omega) (by decide) ⟨by omega, by omega⟩ ?_
      rw [show (i : Int).toNat = i from rfl]
      refine g_i2l (Y := Y_X5_digest) (pc' := 142) dX5_digest_141 rfl ?_
      refine g_callVn (Y := Y_X5_digest) (c := 5) (s_X5_mix hk0 _ _) (pc' := 145) dX5_digest_142 rfl cv_X5_267 rfl (by first | exact t0 | exact t1 | exact r1 | exact t2 | exact t3 | exact t4 | exact t5 | exact t6 | exact t7 | exact t8 | exact t9 | exact t10 | exact t11 | exact t12 | exact t13 | exact r2 | exact r4 | exact r5 | exact r8 | exact r9 | exact r10 | exact r11 | exact r12 | exact r13 | exact r14 | exact r15 | exact r16) (by show _ < n; omega) ⟨by decide, _, rfl, rfl⟩ rfl rfl rfl rfl ?_
      refine g_iinc1 (Y := Y_X5_digest) (pc' := 148) dX5_digest_145 rfl (Nat.le_of_ble_eq_true rfl) rfl ?_
      refine g_goto (Y := Y_X5_digest) (t := 126) dX5_digest_148 (by decide) ?_
      exact ih (i + 1) _ (by omega) he2
