/-! a line is added by both, or by none -/
theorem f_aim_at {I : Nat → Nat → Int} {k j : Nat} {a b c d : Int} : f_aim I k a b c d k j = if j = 7 then 0 else if j = 6 then 0 else if j = 0 then 0 else if j = 5 then b else if j = 4 then a else if j = 2 then f_ratio (d - b) (f_dvr (c - a) (d - b)) else if j = 1 then f_ratio (c - a) (f_dvr (c - a) (d - b)) else I k j := by
  unfold f_aim
  simp only [u2k]
theorem st_a {M : Nat → Nat → Int} {a : Nat} : m_st M a a = 0 := by
  unfold m_st m_ta m_sa
  rw [Int.sub_self, Int.sub_self, Int.zero_tdiv, Int.zero_tdiv]
  split <;> rfl
theorem ln1_116 {M : Nat → Nat → Int} {a b : Nat} : m_ln1 M a b 116 (M 110 7).toNat = stT (m_ta M a b) (m_sa M a b) ∧ m_ln1 M a b 117 (M 110 7).toNat = stS (m_ta M a b) (m_sa M a b) := by
  unfold m_ln1 stT stS
  exact ⟨by rw [u2_ne (by decide), u2_at], by rw [u2_at]⟩
theorem gap_near {S : Int} {P : Nat → Prop} {n : Nat} {N X lo hi : Int} {st : Nat → Int} {B : Int64} (hN : (n : Int) = N) (hX : 0 ≤ X) (bit : ∀ p : Nat, S.toNat.testBit p = true ↔ p < n ∧ P p) (jb : ∀ x : Int, 0 ≤ x ∧ x < 64 → (gbit B x = 1 ↔ ∃ q : Nat, q < n ∧ P q ∧ x = 24 + st q)) (strg : ∀ q : Nat, q < n → -24 < st q ∧ st q < 24) (lo8 : ∀ q : Nat, q < n → P q → lo ≤ st q ∧ st q ≤ hi) (lo9 : ∃ q : Nat, q < n ∧ P q ∧ lo = st q) (hi9 : ∃ q : Nat, q < n ∧ P q ∧ hi = st q) :
    gapL B (hi - lo).toNat (lo + 1) lo 0 ≤ X ↔ ∀ k : Nat, (k : Int) < N → S.toNat.testBit k = true → (∃ m : Nat, (m : Int) < N ∧ S.toNat.testBit m = true ∧ st k < st m) → ∃ m : Nat, (m : Int) < N ∧ S.toNat.testBit m = true ∧ st k < st m ∧ st m ≤ st k + X := by
  obtain ⟨lq, lq1, lq2, lq3⟩ := lo9
  obtain ⟨hq, hq1, hq2, hq3⟩ := hi9
  have rlq := strg lq lq1
  have rhq := strg hq hq1
  rw [gapL_iff _ _ _ _ _ _ (by omega)]
  constructor
  · rintro ⟨g0, g1⟩ q q1 q2 ⟨m, m1, m2, m3⟩
    have q3 := (bit q).mp q2
    have m4 := (bit m).mp m2
    have rq := strg q q3.1
    have rm := strg m m4.1
    have b1 := lo8 q q3.1 q3.2
    have b2 := lo8 m m4.1 m4.2
    obtain ⟨s, t1, t2, t3, t4, t5⟩ := g1 (st q) (by
      by_cases h9 : st q = lo
      · exact Or.inl h9
      · exact Or.inr ⟨by omega, (jb _ (by omega)).mpr ⟨q, q3.1, q3.2, rfl⟩⟩) ⟨st m, m3, by omega, by omega, (jb _ (by omega)).mpr ⟨m, m4.1, m4.2, rfl⟩⟩
    obtain ⟨r, r1, r2, r3⟩ := (jb _ (by omega)).mp t4
    exact ⟨r, by omega, (bit r).mpr ⟨r1, r2⟩, by omega, by omega⟩
  · intro g1
    refine ⟨hX, fun t ht ⟨s, t1, t2, t3, t4⟩ => ?_⟩
    have hq9 : ∃ q : Nat, q < n ∧ P q ∧ t = st q := by
      rcases ht with ht | ht
      · exact ⟨lq, lq1, lq2, by rw [ht]; exact lq3⟩
      · obtain ⟨r, r1, r2, r3⟩ := (jb _ (by omega)).mp ht.2
        exact ⟨r, r1, r2, by omega⟩
    obtain ⟨q, q1, q2, q3⟩ := hq9
    obtain ⟨r, r1, r2, r3⟩ := (jb _ (by omega)).mp t4
    obtain ⟨m, m1, m2, m3, m4⟩ := g1 q (by omega) ((bit q).mpr ⟨q1, q2⟩) ⟨r, by omega, (bit r).mpr ⟨r1, r2⟩, by omega⟩
    have m5 := (bit m).mp m2
    have rm := strg m m5.1
    have rq := strg q q1
    have b1 := lo8 q q1 q2
    have b2 := lo8 m m5.1 m5.2
    exact ⟨st m, by omega, by omega, by omega, (jb _ (by omega)).mpr ⟨m, m5.1, m5.2, rfl⟩, by omega⟩
theorem addLine_rel {I : Nat → Nat → Int} {J : Nat → Nat → Int64} {k ks : Nat} {M : Nat → Nat → Int} {a b : Nat} (hz : ZV M) (hL : 0 ≤ M 110 7 ∧ M 110 7 < 66) (e7 : I k 6 = M 110 7) (hn : I k 5 = M 111 3) (hc : ∀ j : Nat, (j : Int) < M 111 3 → I (k + 4) j = (M 111 (6 + j)).tdiv 24 ∧ I (k + 5) j = tm24 (M 111 (6 + j))) (hs : ∀ j, j < 3 → I (ks + 2) j = M 111 j) (hd : ks + 6 ≤ k ∨ k + 28 ≤ ks) (hab : a < b) (hb : (b : Int) < M 111 3) (h3 : 3 ≤ M 111 0) (h22 : LNP M a b → M 110 7 < 22) :
    (∀ x, x ≠ k → x ≠ k + 6 + (M 110 7).toNat → (f_addLine I J k ks a b).2.1 x = I x) ∧ (((f_addLine I J k ks a b).1 = 0 ∧ m_layLine M a b 110 7 = M 110 7 ∧ (f_addLine I J k ks a b).2.1 k 6 = I k 6) ∨ ((f_addLine I J k ks a b).1 = 1 ∧ m_layLine M a b 110 7 = M 110 7 + 1 ∧ (f_addLine I J k ks a b).2.1 k 6 = I k 6 + 1 ∧ M 110 7 < 22 ∧ LRel (f_addLine I J k ks a b).2.1 (k + 6 + (M 110 7).toNat) (m_layLine M a b) (M 110 7).toNat ∧ LNP M a b)) := by
  have ha : (a : Int) < M 111 3 := by omega
  have z3 := hz.1
  have z1 := hz.2.2.2.2.1 1 (by decide)
  have z2 := hz.2.2.2.2.1 2 (by decide)
  have z26 := hz.2.2.2.2.2.1
  have hz1 : ZV (m_ln1 M a b) := ZV_ne hz ln1_111
  have hM7 : m_ln1 M a b 110 = M 110 := ln1_110
  have hM1 : m_ln1 M a b 111 = M 111 := ln1_111
  obtain ⟨p1, p2⟩ := ln1_116 (M := M) (a := a) (b := b)
  have hta := m_ta_rg hz ha hb
  have hsa := m_sa_rg hz ha hb
  have hap := m_apart hz ha hb (by omega)
  obtain ⟨s1, s2, s3, s4, s5, s6, s7, s8⟩ := stp_of hta hsa hap
  have hstr : ∀ p, m_str (m_ln1 M a b) a b p ↔ m_str M a b p := fun p => str_111 hM1
  have hDST : DST (m_ln1 M a b) := by
    unfold DST
    rw [hM7, p1, p2]
    exact ⟨s4, s5⟩
  have strg : ∀ q : Nat, q < (M 111 3).toNat → -24 < m_st (m_ln1 M a b) a q ∧ m_st (m_ln1 M a b) a q < 24 := fun q hq => m_st_rg hz1 (by rw [hM1]; exact ha) (by rw [hM1]; omega)
  have hkk : k ≠ k + 6 + (M 110 7).toNat := by omega
  have hkk' : k + 6 + (M 110 7).toNat ≠ k := by omega
  have hN : (((M 111 3).toNat : Nat) : Int) = M 111 3 := by omega
  unfold f_addLine m_layLine m_ln3
  have eS0 : m_lnS (m_ln1 M a b) a b = lpL (m_ln1 M a b) a b (M 111 3).toNat 0 (0, 1, 0, 0) := by unfold m_lnS; rw [hM1]
  have bit : ∀ p : Nat, (m_lnS (m_ln1 M a b) a b).1.toNat.testBit p = true ↔ p < (M 111 3).toNat ∧ m_str M a b p := fun p => by
    rw [eS0, lpL_bit]
    show (0 : Int).toNat.testBit p = true ∨ _ ↔ _
    rw [hstr]
    constructor
    · rintro (h | ⟨h1, h2, h3⟩)
      · rw [Int.toNat_zero, Nat.zero_testBit] at h; exact absurd h (by decide)
      · exact ⟨by omega, h3⟩
    · rintro ⟨h1, h2⟩
      exact Or.inr ⟨by omega, by omega, h2⟩
  have emask : f_lw I k a b = (m_lnS (m_ln1 M a b) a b).1 := by
    unfold f_lw
    rw [hn, eS0]
    exact msk_lpL (s := (0, 1, 0, 0)) (by rw [hM1]; exact hc) (by rw [hM1]; exact ha) (by rw [hM1]; exact hb) _ 0 (by rw [hM1]; omega)
  have efirst : ¬ (m_lnS (m_ln1 M a b) a b).2.1 = 0 ↔ ∀ p : Nat, p < (M 111 3).toNat → m_str M a b p → p = a ∨ b ≤ p := by
    rw [eS0, lpL_first]
    constructor
    · rintro ⟨-, h⟩ p q1 q2
      exact h p (by omega) (by omega) ((hstr p).mpr q2)
    · intro h
      exact ⟨by decide, fun p q1 q2 q3 => h p (by omega) ((hstr p).mp q3)⟩
  have eobj := first_iff (S := (m_lnS (m_ln1 M a b) a b).1) (P := m_str M a b) (n := (M 111 3).toNat) hab (by omega) str_a bit
  rw [emask, hs 0 (by decide), e7, hM1]
  by_cases hF : (∀ p : Nat, p < (M 111 3).toNat → m_str M a b p → p = a ∨ b ≤ p) ∧ ¬ pcn (m_lnS (m_ln1 M a b) a b).1 < M 111 0
  · -- a straight line with spots enough
    obtain ⟨c, c1, c2, c3⟩ := pcn3 (a := a) (b := b) (m := (m_lnS (m_ln1 M a b) a b).1) (by omega) (by omega) (by omega)
    have c4 := (bit c).mp c3
    have c5 := hF.1 c c4.1 c4.2
    have hLN : LNP M a b := ⟨fun p q1 q2 => hF.1 p (by omega) q2, c, by omega, by omega, c4.2⟩
    have h22' := h22 hLN
    have hks : ks + 2 ≠ k + 6 + (M 110 7).toNat := by omega
    rw [if_pos ⟨eobj.mpr hF.1, hF.2, h22'⟩]
    -- the object's line, joined
    have hkl4 : k + 4 ≠ k + 6 + (M 110 7).toNat := by omega
    have hkl5 : k + 5 ≠ k + 6 + (M 110 7).toNat := by omega
    have eJD : f_jd I J k a b = f_jn k (k + 6 + (M 110 7).toNat) (m_lnS (m_ln1 M a b) a b).1 ((M 111 3).toNat - a) a (f_aimed I J k (k + 6 + (M 110 7).toNat) a b) := by
      unfold f_jd
      rw [emask, e7, hn]
    have ca := hc a ha
    have cb := hc b hb
    have hA : AIM (f_aimed I J k (k + 6 + (M 110 7).toNat) a b).1 (k + 6 + (M 110 7).toNat) (m_ln1 M a b) a := by
      unfold AIM f_aimed
      dsimp only
      rw [hM7, p1, p2, hM1, ca.1, ca.2, cb.1, cb.2]
      refine ⟨?_, ?_, ?_, ?_⟩
      · rw [f_aim_at, if_neg (by decide), if_neg (by decide), if_neg (by decide), if_neg (by decide), if_neg (by decide), if_neg (by decide), if_pos rfl]
        exact s6
      · rw [f_aim_at, if_neg (by decide), if_neg (by decide), if_neg (by decide), if_neg (by decide), if_neg (by decide), if_pos rfl]
        exact s7
      · rw [f_aim_at, if_neg (by decide), if_neg (by decide), if_neg (by decide), if_neg (by decide), if_pos rfl]
      · rw [f_aim_at, if_neg (by decide), if_neg (by decide), if_neg (by decide), if_pos rfl]
    have eskip : m_lnS (m_ln1 M a b) a b = lpL (m_ln1 M a b) a b ((M 111 3).toNat - a) a (0, 1, 0, 0) := by
      rw [eS0]
      have h := lpL_add (M := m_ln1 M a b) (i := a) (j := b) a ((M 111 3).toNat - a) 0 (0, 1, 0, 0)
      rw [show a + ((M 111 3).toNat - a) = (M 111 3).toNat by omega, Nat.zero_add] at h
      rw [h, lpL_skip a 0 _ (fun q q1 q2 q3 => by
        have := hF.1 q (by omega) ((hstr q).mp q3)
        omega)]
    have hJN := jn_lpL (k := k) (kl := k + 6 + (M 110 7).toNat) (mq := (m_lnS (m_ln1 M a b) a b).1) (M := m_ln1 M a b) (a := a) (b := b) hkl4 hkl5 hz1 (by rw [hM1]; exact ha) hDST ((M 111 3).toNat - a) a (f_aimed I J k (k + 6 + (M 110 7).toNat) a b) (0, 1, 0, 0) (by rw [hM1]; omega)
      (fun q q1 q2 => by
        unfold f_aimed
        dsimp only
        rw [f_aim_ne hkl4, f_aim_ne hkl5, hM1]
        have cq := hc q (by omega)
        refine ⟨cq.1, cq.2, ?_⟩
        rw [obt1, bit, hstr]
        exact ⟨fun h => h.2, fun h => ⟨by omega, h⟩⟩)
      hA
      (by unfold f_aimed; dsimp only; rw [f_aim_at, if_neg (by decide), if_neg (by decide), if_pos rfl])
      (by unfold f_aimed; dsimp only; rw [f_aim_at, if_neg (by decide), if_pos rfl])
      (by unfold f_aimed; dsimp only; rw [f_aim_at, if_pos rfl])
    rw [← eskip, ← eJD] at hJN
    obtain ⟨⟨j0, j6, j7⟩, jk, jb⟩ := hJN
    have jne : ∀ x, x ≠ k + 6 + (M 110 7).toNat → (f_jd I J k a b).1 x = I x := fun x hx => by
      rw [eJD, f_jn_ne _ _ _ hx]
      unfold f_aimed
      exact f_aim_ne hx
    have jb' : ∀ x : Int, 0 ≤ x ∧ x < 64 → (gbit ((f_jd I J k a b).2 (k + 6 + (M 110 7).toNat) 8) x = 1 ↔ ∃ q : Nat, q < (M 111 3).toNat ∧ m_str M a b q ∧ x = 24 + m_st (m_ln1 M a b) a q) := fun x hx => by
      rw [jb x hx]
      have e8 : (f_aimed I J k (k + 6 + (M 110 7).toNat) a b).2 (k + 6 + (M 110 7).toNat) 8 = 0 := by
        unfold f_aimed
        exact u2_at
      rw [e8]
      constructor
      · rintro (h | ⟨q, q1, q2, q3, q4⟩)
        · exact absurd h (gbit_0 hx)
        · exact ⟨q, by omega, (hstr q).mp q3, q4⟩
      · rintro ⟨q, q1, q2, q3⟩
        have := hF.1 q q1 q2
        exact Or.inr ⟨q, by omega, by omega, (hstr q).mpr q2, q3⟩
    have hAJ : AIM (f_jd I J k a b).1 (k + 6 + (M 110 7).toNat) (m_ln1 M a b) a := ⟨(jk 1 (by decide) (by decide) (by decide)).trans hA.1, (jk 2 (by decide) (by decide) (by decide)).trans hA.2.1, (jk 4 (by decide) (by decide) (by decide)).trans hA.2.2.1, (jk 5 (by decide) (by decide) (by decide)).trans hA.2.2.2⟩
    obtain ⟨⟨lo1, lo2⟩, lo3⟩ := lpL_low (M := m_ln1 M a b) (i := a) (j := b) (M 111 3).toNat 0 (0, 1, 0, 0)
    obtain ⟨⟨hi1, hi2⟩, hi3⟩ := lpL_high (M := m_ln1 M a b) (i := a) (j := b) (M 111 3).toNat 0 (0, 1, 0, 0)
    rw [← eS0] at lo1 lo2 lo3 hi1 hi2 hi3
    have lo9 : ∃ q : Nat, q < (M 111 3).toNat ∧ m_str M a b q ∧ (m_lnS (m_ln1 M a b) a b).2.2.1 = m_st (m_ln1 M a b) a q := by
      rcases lo3 with h | ⟨q, q1, q2, q3, q4⟩
      · exact ⟨a, by omega, str_a, by rw [st_a]; exact h⟩
      · exact ⟨q, by omega, (hstr q).mp q3, q4⟩
    have hi9 : ∃ q : Nat, q < (M 111 3).toNat ∧ m_str M a b q ∧ (m_lnS (m_ln1 M a b) a b).2.2.2 = m_st (m_ln1 M a b) a q := by
      rcases hi3 with h | ⟨q, q1, q2, q3, q4⟩
      · exact ⟨a, by omega, str_a, by rw [st_a]; exact h⟩
      · exact ⟨q, by omega, (hstr q).mp q3, q4⟩
    have lo8 : ∀ q : Nat, q < (M 111 3).toNat → m_str M a b q → (m_lnS (m_ln1 M a b) a b).2.2.1 ≤ m_st (m_ln1 M a b) a q ∧ m_st (m_ln1 M a b) a q ≤ (m_lnS (m_ln1 M a b) a b).2.2.2 := fun q q1 q2 => ⟨lo2 q (by omega) (by omega) ((hstr q).mpr q2), hi2 q (by omega) (by omega) ((hstr q).mpr q2)⟩
    have lo0 : (m_lnS (m_ln1 M a b) a b).2.2.1 ≤ 0 := lo1
    have hi0 : 0 ≤ (m_lnS (m_ln1 M a b) a b).2.2.2 := hi1
    have enear : ¬ (M 111 1 < f_gap (f_jd I J k a b).1 (f_jd I J k a b).2 (k + 6 + (M 110 7).toNat)) ↔ ¬ m_near (m_ln1 M a b) a (m_lnS (m_ln1 M a b) a b).1 = 0 := by
      rw [near_iff hz1 (by rw [hM1]; exact ha), Int.not_lt]
      unfold f_gap
      rw [j6, j7, hM1]
      exact gap_near (P := m_str M a b) (st := m_st (m_ln1 M a b) a) hN z1.1 bit jb' strg lo8 lo9 hi9
    unfold f_add2
    rw [jne (ks + 2) hks, hs 1 (by decide), hs 2 (by decide)]
    by_cases hg : M 111 1 < f_gap (f_jd I J k a b).1 (f_jd I J k a b).2 (k + 6 + (M 110 7).toNat)
    · rw [if_pos hg, if_neg (fun q => (enear.mpr q.2.2) hg)]
      refine ⟨fun x x1 x2 => jne x x2, Or.inl ⟨rfl, congrFun hM7 7, ?_⟩⟩
      show (f_jd I J k a b).1 k 6 = _
      rw [jne k hkk, e7]
    · rw [if_neg hg, if_pos ⟨efirst.mpr hF.1, hF.2, enear.mp hg⟩]
      have hrow : f_inc6 (f_spread (f_jd I J k a b).1 (k + 6 + (M 110 7).toNat) (M 111 2)) k (k + 6 + (M 110 7).toNat) = f_spread (f_jd I J k a b).1 (k + 6 + (M 110 7).toNat) (M 111 2) (k + 6 + (M 110 7).toNat) := by
        unfold f_inc6
        exact u2_ne hkk'
      refine ⟨fun x x1 x2 => ?_, Or.inr ⟨rfl, ?_, ?_, h22', ?_, hLN⟩⟩
      · show f_inc6 _ k x = _
        unfold f_inc6
        rw [u2_ne x1, f_spread_ne x2]
        exact jne x x2
      · unfold m_ln2
        rw [u2_at, hM7]
      · show f_inc6 _ k k 6 = _
        unfold f_inc6
        rw [u2_at, f_spread_ne (by omega), jne k (by omega), e7]
      · -- the line itself
        have onl : ∀ q : Nat, q < (M 111 3).toNat → m_str M a b q → DD (f_jd I J k a b).1 (k + 6 + (M 110 7).toNat) (m_st (m_ln1 M a b) a q) := fun q q1 q2 => by
          have ol := on_line (x := m_ta M a q) (y := m_sa M a q) hta hsa hap (m_ta_rg hz ha (by omega)) q2
          have e1 : m_st (m_ln1 M a b) a q = if 0 < stT (m_ta M a b) (m_sa M a b) then (m_ta M a q).tdiv (stT (m_ta M a b) (m_sa M a b)) else (m_sa M a q).tdiv (stS (m_ta M a b) (m_sa M a b)) := by
            unfold m_st
            rw [hM7, p1, p2]
            unfold m_ta m_sa
            rw [hM1]
          have zq := td24_0 (x := M 111 (6 + q)) ⟨hz.2.2.1 q (by omega), (hz.2.1 q (by omega)).2⟩
          unfold DD inD f_trk f_sec
          rw [hAJ.1, hAJ.2.1, hAJ.2.2.1, hAJ.2.2.2, hM7, hM1, p1, p2, e1, ol.1, ol.2]
          unfold m_ta m_sa
          omega
        obtain ⟨lq, lq1, lq2, lq3⟩ := lo9
        obtain ⟨hq, hq1, hq2, hq3⟩ := hi9
        obtain ⟨sp1, sp2, sp3, sp4⟩ := spread_spec (I := (f_jd I J k a b).1) (kl := k + 6 + (M 110 7).toNat) (b := M 111 2) z2.1 (by rw [j6, j7]; omega) (by rw [j6, lq3]; exact onl lq lq1 lq2) (by rw [j7, hq3]; exact onl hq hq1 hq2)
        rw [j6] at sp1
        rw [j7] at sp2
        rw [j6, j7] at sp4
        have sk : ∀ j, j ≠ 3 → j ≠ 6 → j ≠ 7 → f_spread (f_jd I J k a b).1 (k + 6 + (M 110 7).toNat) (M 111 2) (k + 6 + (M 110 7).toNat) j = (f_jd I J k a b).1 (k + 6 + (M 110 7).toNat) j := fun j q1 q2 q3 => f_spread_k j q1 q2 q3
        have m115 : m_ln2 (m_ln1 M a b) a (m_lnS (m_ln1 M a b) a b) 115 (M 110 7).toNat = (m_lnS (m_ln1 M a b) a b).1 := by
          unfold m_ln2
          rw [u2_ne (by decide), u2_ne (by decide), u2_ne (by decide), u2_ne (by decide), hM7, u2_at]
        have m120 : m_ln2 (m_ln1 M a b) a (m_lnS (m_ln1 M a b) a b) 120 (M 110 7).toNat = M 111 (6 + a) := by
          unfold m_ln2
          rw [u2_ne (by decide), u2_ne (by decide), u2_ne (by decide), hM7, u2_at, hM1]
        have m118 : m_ln2 (m_ln1 M a b) a (m_lnS (m_ln1 M a b) a b) 118 (M 110 7).toNat = (m_lnS (m_ln1 M a b) a b).2.2.1 - M 111 2 := by
          unfold m_ln2
          rw [u2_ne (by decide), u2_ne (by decide), hM7, u2_at, hM1]
        have m119 : m_ln2 (m_ln1 M a b) a (m_lnS (m_ln1 M a b) a b) 119 (M 110 7).toNat = (m_lnS (m_ln1 M a b) a b).2.2.2 + M 111 2 := by
          unfold m_ln2
          rw [u2_ne (by decide), hM7, u2_at, hM1]
        have m116 : m_ln2 (m_ln1 M a b) a (m_lnS (m_ln1 M a b) a b) 116 (M 110 7).toNat = stT (m_ta M a b) (m_sa M a b) := by
          unfold m_ln2
          rw [u2_ne (by decide), u2_ne (by decide), u2_ne (by decide), u2_ne (by decide), u2_ne (by decide)]
          exact p1
        have m117 : m_ln2 (m_ln1 M a b) a (m_lnS (m_ln1 M a b) a b) 117 (M 110 7).toNat = stS (m_ta M a b) (m_sa M a b) := by
          unfold m_ln2
          rw [u2_ne (by decide), u2_ne (by decide), u2_ne (by decide), u2_ne (by decide), u2_ne (by decide)]
          exact p2
        unfold LRel
        show f_inc6 _ k _ 0 = _ ∧ f_inc6 _ k _ 1 = _ ∧ f_inc6 _ k _ 2 = _ ∧ f_inc6 _ k _ 4 = _ ∧ f_inc6 _ k _ 5 = _ ∧ _ ≤ f_inc6 _ k _ 6 ∧ f_inc6 _ k _ 6 + f_inc6 _ k _ 3 - 1 ≤ _ ∧ 0 ≤ f_inc6 _ k _ 3 ∧ ∀ s : Int, _ ≤ s → s ≤ _ → (_ ↔ f_inc6 _ k _ 6 ≤ s ∧ s < f_inc6 _ k _ 6 + f_inc6 _ k _ 3)
        rw [hrow, m115, m116, m117, m120, m118, m119, sk 0 (by decide) (by decide) (by decide), sk 1 (by decide) (by decide) (by decide), sk 2 (by decide) (by decide) (by decide), sk 4 (by decide) (by decide) (by decide), sk 5 (by decide) (by decide) (by decide), j0, hAJ.1, hAJ.2.1, hAJ.2.2.1, hAJ.2.2.2, hM7, hM1, p1, p2]
        refine ⟨rfl, rfl, rfl, rfl, rfl, sp1, by omega, sp3, fun s t1 t2 => ?_⟩
        rw [← sp4 s t1 t2]
        unfold m_cellOf m_cellT m_cellS DD inD f_trk f_sec
        rw [m116, m117, m120, hAJ.1, hAJ.2.1, hAJ.2.2.1, hAJ.2.2.2, hM7, hM1, p1, p2]
        generalize (M 111 (6 + a)).tdiv 24 + s * stT (m_ta M a b) (m_sa M a b) = x
        generalize tm24 (M 111 (6 + a)) + s * stS (m_ta M a b) (m_sa M a b) = y
        constructor
        · intro h
          by_cases hq : (0 ≤ x ∧ x ≤ 23) ∧ 0 ≤ y ∧ y ≤ 23
          · omega
          · rw [if_neg hq] at h; exact absurd rfl h
        · intro h
          rw [if_pos (by omega)]
          omega
  · have ne1 : ¬ (oand (m_lnS (m_ln1 M a b) a b).1 (((2 ^ b : Nat) : Int) - 1) = ((2 ^ a : Nat) : Int) ∧ ¬ pcn (m_lnS (m_ln1 M a b) a b).1 < M 111 0 ∧ M 110 7 < 22) := fun q => hF ⟨eobj.mp q.1, q.2.1⟩
    have ne2 : ¬ (¬ (m_lnS (m_ln1 M a b) a b).2.1 = 0 ∧ ¬ pcn (m_lnS (m_ln1 M a b) a b).1 < M 111 0 ∧ ¬ m_near (m_ln1 M a b) a (m_lnS (m_ln1 M a b) a b).1 = 0) := fun q => hF ⟨efirst.mp q.1, q.2.1⟩
    rw [if_neg ne1, if_neg ne2]
    exact ⟨fun x _ _ => rfl, Or.inl ⟨rfl, congrFun hM7 7, e7⟩⟩
