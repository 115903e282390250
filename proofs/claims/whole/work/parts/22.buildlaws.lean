/-! LineMap.build: what its pieces keep -/
theorem f_clr_ne (k : Nat) : ∀ (m i : Nat) (I : Nat → Nat → Int) (a : Nat), a ≠ k + 2 → a ≠ k + 3 → f_clr I k m i a = I a
  | 0, _, _, _, _, _ => rfl
  | m + 1, i, I, a, h2, h3 => by
    unfold f_clr
    rw [f_clr_ne k m (i + 1) _ a h2 h3, u2_ne h3, u2_ne h2]
theorem f_clr_at (k : Nat) : ∀ (m i : Nat) (I : Nat → Nat → Int) (a j : Nat), a = k + 2 ∨ a = k + 3 → f_clr I k m i a j = if i ≤ j ∧ j < i + m then 0 else I a j
  | 0, i, I, a, j, _ => by
    unfold f_clr
    rw [if_neg (by omega)]
  | m + 1, i, I, a, j, h => by
    unfold f_clr
    rw [f_clr_at k m (i + 1) _ a j h]
    by_cases e : j = i
    · subst e
      rw [if_neg (by omega), if_pos (by omega)]
      rcases h with rfl | rfl
      · rw [u2_ne (by omega), u2_at]
      · rw [u2_at]
    · rw [u2_nj e, u2_nj e]
      by_cases q : i + 1 ≤ j ∧ j < i + 1 + m
      · rw [if_pos q, if_pos (by omega)]
      · rw [if_neg q, if_neg (by omega)]
/-- LineMap's rows as they always are -/
def LmV (I : Nat → Nat → Int) (k : Nat) : Prop := (∀ j : Nat, 0 ≤ I (k + 4) j ∧ I (k + 4) j < 24) ∧ (∀ j : Nat, 0 ≤ I (k + 5) j ∧ I (k + 5) j < 24) ∧ (∀ j : Nat, 0 ≤ I (k + 2) j ∧ I (k + 2) j ≤ 10000) ∧ (∀ j : Nat, 576 ≤ j → I (k + 2) j = 0) ∧ (∀ j : Nat, I (k + 3) j = 0 ∨ I (k + 3) j = 1) ∧ (0 ≤ I k 5 ∧ I k 5 ≤ 12) ∧ (0 ≤ I k 6 ∧ I k 6 ≤ 22)
theorem f_clear_ne {I : Nat → Nat → Int} {k a : Nat} (h0 : a ≠ k) (h2 : a ≠ k + 2) (h3 : a ≠ k + 3) : f_clear I k a = I a := by
  unfold f_clear f_z3
  rw [u2_ne h0, u2_ne h0, u2_ne h0, f_clr_ne k _ _ _ _ h2 h3]
theorem f_clear_k {I : Nat → Nat → Int} {k j : Nat} : f_clear I k k j = if j = 5 ∨ j = 6 ∨ j = 7 then 0 else I k j := by
  unfold f_clear f_z3
  simp only [u2_eq]
  rw [f_clr_ne k _ _ _ k (by omega) (by omega)]
  by_cases h7 : j = 7
  · simp [h7]
  · by_cases h6 : j = 6
    · simp [h6]
    · by_cases h5 : j = 5
      · simp [h5]
      · simp [h5, h6, h7]
theorem f_clear_at {I : Nat → Nat → Int} {k a j : Nat} (h : a = k + 2 ∨ a = k + 3) : f_clear I k a j = if j < 576 then 0 else I a j := by
  unfold f_clear f_z3
  rw [u2_ne (by omega), u2_ne (by omega), u2_ne (by omega), f_clr_at k 576 0 I a j h]
  by_cases q : j < 576
  · rw [if_pos q, if_pos (by omega)]
  · rw [if_neg q, if_neg (by omega)]
theorem tdiv24 {c : Int} (h : 0 ≤ c ∧ c < 576) : (0 ≤ c.tdiv 24 ∧ c.tdiv 24 < 24) ∧ 0 ≤ c - c.tdiv 24 * 24 ∧ c - c.tdiv 24 * 24 < 24 ∧ c.tdiv 24 = c / 24 := by
  rw [Int.tdiv_eq_ediv_of_nonneg h.1]
  omega
/-- while the spots are taken -/
def TOK (k : Nat) (I0 : Nat → Nat → Int) (N : Int) (I : Nat → Nat → Int) : Prop := (∀ a, a ≠ k → a ≠ k + 3 → a ≠ k + 4 → a ≠ k + 5 → I a = I0 a) ∧ (∀ j, j ≠ 5 → I k j = I0 k j) ∧ (0 ≤ I k 5 ∧ I k 5 ≤ N) ∧ (∀ j : Nat, I (k + 3) j = 0 ∨ I (k + 3) j = 1) ∧ (∀ j : Nat, 0 ≤ I (k + 4) j ∧ I (k + 4) j < 24) ∧ (∀ j : Nat, 0 ≤ I (k + 5) j ∧ I (k + 5) j < 24)
theorem TOK_1 {k i : Nat} {I0 I : Nat → Nat → Int} {N c : Int} (h : TOK k I0 N I) (hc : 0 ≤ c ∧ c < 576) : TOK k I0 (N + 1) (f_tk1 I k i c) := by
  obtain ⟨h1, h2, h3, h4, h5, h6⟩ := h
  obtain ⟨q1, q2, q3, -⟩ := tdiv24 hc
  have e0 : ∀ a, a ≠ k → f_tk1 I k i c a = u2 (u2 (u2 I (k + 3) c.toNat 1) (k + 4) i (c.tdiv 24)) (k + 5) i (c - c.tdiv 24 * 24) a := fun a ha => by
    unfold f_tk1 f_tk1.f_tk2
    exact u2_ne ha
  have ek : ∀ j, f_tk1 I k i c k j = if j = 5 then I k 5 + 1 else I k j := fun j => by
    unfold f_tk1 f_tk1.f_tk2
    rw [u2_eq, u2_ne (by omega), u2_ne (by omega), u2_ne (by omega)]
  refine ⟨fun a ha1 ha2 ha3 ha4 => ?_, fun j hj => ?_, ?_, fun j => ?_, fun j => ?_, fun j => ?_⟩
  · rw [e0 a ha1, u2_ne ha4, u2_ne ha3, u2_ne ha2]; exact h1 a ha1 ha2 ha3 ha4
  · rw [ek, if_neg hj]; exact h2 j hj
  · rw [ek, if_pos rfl]; omega
  · rw [e0 _ (by omega), u2_ne (by omega), u2_ne (by omega)]
    by_cases e : j = c.toNat
    · subst e; rw [u2_at]; exact Or.inr rfl
    · rw [u2_nj e]; exact h4 j
  · rw [e0 _ (by omega), u2_ne (by omega)]
    by_cases e : j = i
    · subst e; rw [u2_at]; exact q1
    · rw [u2_nj e, u2_ne (by omega)]; exact h5 j
  · rw [e0 _ (by omega)]
    by_cases e : j = i
    · subst e; rw [u2_at]; exact ⟨q2, q3⟩
    · rw [u2_nj e, u2_ne (by omega), u2_ne (by omega)]; exact h6 j
theorem TOK_more {k : Nat} {I0 I : Nat → Nat → Int} {N M : Int} (h : TOK k I0 N I) (hm : N ≤ M) : TOK k I0 M I := ⟨h.1, h.2.1, ⟨h.2.2.1.1, Int.le_trans h.2.2.1.2 hm⟩, h.2.2.2⟩
theorem TOK_tk {k ks : Nat} {I0 : Nat → Nat → Int} : ∀ (m i : Nat) (N : Int) (I : Nat → Nat → Int), TOK k I0 N I → TOK k I0 (N + m) (f_tk k ks m i I)
  | 0, _, N, _, h => TOK_more h (by omega)
  | m + 1, i, N, I, h => by
    unfold f_tk
    by_cases q : 0 ≤ I (ks + 1) i ∧ I (ks + 1) i < 576
    · rw [if_pos q]
      exact TOK_more (TOK_tk m (i + 1) (N + 1) _ (TOK_1 h q)) (by omega)
    · rw [if_neg q]
      exact TOK_more (TOK_tk m (i + 1) N I h) (by omega)
theorem f_dn_ne (k : Nat) : ∀ (m : Nat) (I : Nat → Nat → Int) (a : Nat), a ≠ k → f_dn I k m a = I a
  | 0, _, _, _ => rfl
  | m + 1, I, a, h => by
    unfold f_dn
    split
    · rw [f_dn_ne k m _ a h, u2_ne h]
    · rfl
theorem f_up_ne (k : Nat) : ∀ (m : Nat) (I : Nat → Nat → Int) (a : Nat), a ≠ k → f_up I k m a = I a
  | 0, _, _, _ => rfl
  | m + 1, I, a, h => by
    unfold f_up
    split
    · rw [f_up_ne k m _ a h, u2_ne h]
    · rfl
theorem f_dn_6 (k : Nat) : ∀ (m : Nat) (I : Nat → Nat → Int), I k 6 - m ≤ f_dn I k m k 6 ∧ f_dn I k m k 6 ≤ I k 6
  | 0, I => by unfold f_dn; omega
  | m + 1, I => by
    unfold f_dn
    split
    · have := f_dn_6 k m (u2 I k 6 (I k 6 - 1))
      rw [u2_at] at this
      omega
    · omega
theorem f_up_7 (k : Nat) : ∀ (m : Nat) (I : Nat → Nat → Int), I k 7 ≤ f_up I k m k 7 ∧ f_up I k m k 7 ≤ I k 7 + m
  | 0, I => by unfold f_up; omega
  | m + 1, I => by
    unfold f_up
    split
    · have := f_up_7 k m (u2 I k 7 (I k 7 + 1))
      rw [u2_at] at this
      omega
    · omega
theorem f_spread_ne {I : Nat → Nat → Int} {k : Nat} {b : Int} {a : Nat} (h : a ≠ k) : f_spread I k b a = I a := by
  unfold f_spread f_cnt
  rw [u2_ne h, f_up_ne k _ _ a h, f_dn_ne k _ _ a h]
theorem f_spread_k {I : Nat → Nat → Int} {k : Nat} {b : Int} : ∀ j, j ≠ 3 → j ≠ 6 → j ≠ 7 → f_spread I k b k j = I k j := by
  intro j h3 h6 h7
  unfold f_spread f_cnt
  rw [u2_nj h3, f_up_keep _ _ j h7, f_dn_keep _ _ j h6]
/-- a line in order -/
def LOK (I : Nat → Nat → Int) (kl : Nat) : Prop := (0 ≤ I kl 4 ∧ I kl 4 < 24) ∧ (0 ≤ I kl 5 ∧ I kl 5 < 24) ∧ (-24 < I kl 1 ∧ I kl 1 < 24) ∧ (-24 < I kl 2 ∧ I kl 2 < 24) ∧ (-30 ≤ I kl 6 ∧ I kl 6 ≤ 30) ∧ (0 ≤ I kl 3 ∧ I kl 3 ≤ 60)
theorem LOK_spread {I0 I : Nat → Nat → Int} {kl : Nat} {b : Int} (h : JOK I0 kl I) (hb : 0 ≤ b ∧ b ≤ 6) : LOK (f_spread I kl b) kl := by
  obtain ⟨j0, j4, j5, j1, j2, jm, j6, j7⟩ := h
  have e6 : f_spread I kl b kl 6 = f_dn I kl b.toNat kl 6 := by
    unfold f_spread f_cnt
    rw [u2_nj (by decide), f_up_keep _ _ 6 (by decide)]
  have e3 : f_spread I kl b kl 3 = f_up (f_dn I kl b.toNat) kl b.toNat kl 7 - f_dn I kl b.toNat kl 6 + 1 := by
    unfold f_spread f_cnt
    rw [u2_at, f_up_keep _ _ 6 (by decide)]
  have a6 := f_dn_6 kl b.toNat I
  have a7 := f_up_7 kl b.toNat (f_dn I kl b.toNat)
  rw [f_dn_keep _ _ 7 (by decide)] at a7
  unfold LOK
  rw [f_spread_k 4 (by decide) (by decide) (by decide), f_spread_k 5 (by decide) (by decide) (by decide), f_spread_k 1 (by decide) (by decide) (by decide), f_spread_k 2 (by decide) (by decide) (by decide), e6, e3]
  omega
/-- what addLine keeps -/
theorem addLine_keeps {I : Nat → Nat → Int} {J : Nat → Nat → Int64} {k ks a b : Nat} (hdj : ks + 6 ≤ k ∨ k + 28 ≤ ks) (ht : ∀ j : Nat, 0 ≤ I (k + 4) j ∧ I (k + 4) j < 24) (hs : ∀ j : Nat, 0 ≤ I (k + 5) j ∧ I (k + 5) j < 24) (hcn : 0 ≤ I k 5 ∧ I k 5 ≤ 12) (h6 : 0 ≤ I k 6 ∧ I k 6 ≤ 22) (h2 : 0 ≤ I (ks + 2) 2 ∧ I (ks + 2) 2 ≤ 6) (hab : a < b) (hbc : b < (I k 5).toNat) :
    (∀ x, x ≠ k → x < k + 6 ∨ k + 28 ≤ x → (f_addLine I J k ks a b).2.1 x = I x) ∧ (∀ j, j ≠ 6 → (f_addLine I J k ks a b).2.1 k j = I k j) ∧
    ((f_addLine I J k ks a b).1 = 0 ∧ (f_addLine I J k ks a b).2.1 k 6 = I k 6 ∨ (f_addLine I J k ks a b).1 = 1 ∧ (f_addLine I J k ks a b).2.1 k 6 = I k 6 + 1 ∧ I k 6 < 22 ∧ LOK (f_addLine I J k ks a b).2.1 (k + 6 + (I k 6).toNat)) := by
  unfold f_addLine
  split
  · rename_i hc
    have hJ : JOK I (k + 6 + (I k 6).toNat) (f_jd I J k a b).1 := JOK_jn (by omega) (by omega) ht hs _ _ _ (by omega) (JOK_aim (ht a) (hs a) (ht b) (hs b))
    generalize f_jd I J k a b = P at hJ
    have e2 : P.1 (ks + 2) 2 = I (ks + 2) 2 := congrFun (hJ.1 (ks + 2) (by omega)) 2
    unfold f_add2
    split
    · refine ⟨fun x h1 h2 => hJ.1 x (by omega), fun j hj => congrFun (hJ.1 k (by omega)) j, Or.inl ⟨rfl, congrFun (hJ.1 k (by omega)) 6⟩⟩
    · have hL := LOK_spread hJ (b := P.1 (ks + 2) 2) (by rw [e2]; exact h2)
      refine ⟨fun x h1 h2 => ?_, fun j hj => ?_, Or.inr ⟨rfl, ?_, hc.2.2, ?_⟩⟩
      · show f_inc6 _ k x = _
        unfold f_inc6
        rw [u2_ne h1, f_spread_ne (by omega)]
        exact hJ.1 x (by omega)
      · show f_inc6 _ k k j = _
        unfold f_inc6
        rw [u2_nj hj, f_spread_ne (by omega)]
        exact congrFun (hJ.1 k (by omega)) j
      · show f_inc6 _ k k 6 = _
        unfold f_inc6
        rw [u2_at, f_spread_ne (by omega)]
        rw [congrFun (hJ.1 k (by omega)) 6]
      · show LOK (f_inc6 _ k) _
        unfold LOK f_inc6
        rw [u2_ne (by omega)]
        exact hL
  · exact ⟨fun _ _ _ => rfl, fun _ _ => rfl, Or.inl ⟨rfl, rfl⟩⟩
