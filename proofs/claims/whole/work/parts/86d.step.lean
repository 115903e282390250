/-! steps of a straight line: the object's and the reference's are the same -/
def stT (t u : Int) : Int := (m_sign t u * t).tdiv (m_gcd t u)
def stS (t u : Int) : Int := (m_sign t u * u).tdiv (m_gcd t u)
def stpB (t u : Int) : Bool := (decide (t = 0) && decide (u = 0)) || (decide (0 < m_gcd t u) && decide (m_gcd t u * stT t u = m_sign t u * t) && decide (m_gcd t u * stS t u = m_sign t u * u) && decide (0 ≤ stT t u) && (decide (¬ stT t u = 0) || decide (stS t u = 1)) && decide (f_ratio t (f_dvr t u) = stT t u) && decide (f_ratio u (f_dvr t u) = stS t u) && (List.range 24).all (fun x => decide (¬ (x * (stS t u).natAbs) % (stT t u).natAbs = 0) || decide (x % (stT t u).natAbs = 0)))
theorem stp_all : ∀ a : Nat, a < 47 → ∀ b : Nat, b < 47 → stpB ((a : Int) - 23) ((b : Int) - 23) = true := by decide +kernel
theorem stp_of {t u : Int} (ht : -24 < t ∧ t < 24) (hu : -24 < u ∧ u < 24) (h0 : ¬ (t = 0 ∧ u = 0)) : 0 < m_gcd t u ∧ m_gcd t u * stT t u = m_sign t u * t ∧ m_gcd t u * stS t u = m_sign t u * u ∧ 0 ≤ stT t u ∧ (stT t u = 0 → stS t u = 1) ∧ f_ratio t (f_dvr t u) = stT t u ∧ f_ratio u (f_dvr t u) = stS t u ∧ ∀ x : Nat, x < 24 → (x * (stS t u).natAbs) % (stT t u).natAbs = 0 → x % (stT t u).natAbs = 0 := by
  have h := stp_all (t + 23).toNat (by omega) (u + 23).toNat (by omega)
  rw [show (((t + 23).toNat : Nat) : Int) - 23 = t by omega, show (((u + 23).toNat : Nat) : Int) - 23 = u by omega] at h
  unfold stpB at h
  simp only [Bool.or_eq_true, Bool.and_eq_true, decide_eq_true_eq, List.all_eq_true, List.mem_range] at h
  rcases h with h | ⟨⟨⟨⟨⟨⟨⟨h1, h2⟩, h3⟩, h4⟩, h5⟩, h6⟩, h7⟩, h8⟩
  · exact absurd h h0
  · refine ⟨h1, h2, h3, h4, fun q => ?_, h6, h7, fun x hx hm => ?_⟩
    · rcases h5 with h5 | h5
      · exact absurd q h5
      · exact h5
    · rcases h8 x hx with h9 | h9
      · exact absurd hm h9
      · exact h9
/-- a spot of the line is met by its steps -/
theorem on_line {t u x y : Int} (ht : -24 < t ∧ t < 24) (hu : -24 < u ∧ u < 24) (h0 : ¬ (t = 0 ∧ u = 0)) (hx : -24 < x ∧ x < 24) (hs : t * y = x * u) : (if 0 < stT t u then x.tdiv (stT t u) else y.tdiv (stS t u)) * stT t u = x ∧ (if 0 < stT t u then x.tdiv (stT t u) else y.tdiv (stS t u)) * stS t u = y := by
  obtain ⟨g0, g1, g2, g3, g4, -, -, g7⟩ := stp_of ht hu h0
  generalize stT t u = dt at g1 g3 g4 g7 ⊢
  generalize stS t u = ds at g2 g4 g7 ⊢
  generalize m_gcd t u = g at g0 g1 g2
  have key : dt * y = x * ds := by
    have e : g * (dt * y) = g * (x * ds) := by
      calc g * (dt * y) = (g * dt) * y := by rw [Int.mul_assoc]
        _ = (m_sign t u * t) * y := by rw [g1]
        _ = m_sign t u * (t * y) := by rw [Int.mul_assoc]
        _ = m_sign t u * (x * u) := by rw [hs]
        _ = x * (m_sign t u * u) := by rw [Int.mul_left_comm]
        _ = x * (g * ds) := by rw [g2]
        _ = g * (x * ds) := by rw [Int.mul_left_comm]
    exact Int.eq_of_mul_eq_mul_left (by omega) e
  by_cases hd : 0 < dt
  · rw [if_pos hd]
    have d1 : dt ∣ x * ds := ⟨y, key.symm⟩
    have d2 : dt.natAbs ∣ x.natAbs * ds.natAbs := by
      rw [← Int.natAbs_mul]
      exact Int.natAbs_dvd_natAbs.mpr d1
    have d3 := g7 x.natAbs (by omega) (Nat.mod_eq_zero_of_dvd d2)
    have d4 : dt ∣ x := Int.natAbs_dvd_natAbs.mp (Nat.dvd_of_mod_eq_zero d3)
    obtain ⟨q, hq⟩ := d4
    have e1 : x.tdiv dt = q := by
      rw [hq]
      exact Int.mul_tdiv_cancel_left q (by omega)
    rw [e1]
    refine ⟨by rw [hq, Int.mul_comm], ?_⟩
    have e2 : dt * y = dt * (q * ds) := by rw [key, hq, Int.mul_assoc]
    exact (Int.eq_of_mul_eq_mul_left (by omega) e2).symm
  · have hd0 : dt = 0 := by omega
    have hd1 := g4 hd0
    subst hd0
    subst hd1
    rw [if_neg hd, Int.tdiv_one, Int.mul_zero, Int.mul_one]
    refine ⟨?_, rfl⟩
    omega
theorem cvx {T d s1 s s2 : Int} (h1 : 0 ≤ T + s1 * d ∧ T + s1 * d < 24) (h2 : 0 ≤ T + s2 * d ∧ T + s2 * d < 24) (ha : s1 ≤ s) (hb : s ≤ s2) : 0 ≤ T + s * d ∧ T + s * d < 24 := by
  by_cases hd : 0 ≤ d
  · have q1 := Int.mul_le_mul_of_nonneg_right ha hd
    have q2 := Int.mul_le_mul_of_nonneg_right hb hd
    omega
  · have q1 := Int.mul_le_mul_of_nonpos_right ha (by omega : d ≤ 0)
    have q2 := Int.mul_le_mul_of_nonpos_right hb (by omega : d ≤ 0)
    omega
def DD (I : Nat → Nat → Int) (kl : Nat) (s : Int) : Prop := inD (f_trk I kl s) (f_sec I kl s)
theorem DD_cvx {I : Nat → Nat → Int} {kl : Nat} {s1 s s2 : Int} (h1 : DD I kl s1) (h2 : DD I kl s2) (ha : s1 ≤ s) (hb : s ≤ s2) : DD I kl s :=
  ⟨cvx h1.1 h2.1 ha hb, cvx h1.2 h2.2 ha hb⟩
theorem DD_of {I I' : Nat → Nat → Int} {kl : Nat} (h : ∀ j, j = 1 ∨ j = 2 ∨ j = 4 ∨ j = 5 → I' kl j = I kl j) (s : Int) : DD I' kl s ↔ DD I kl s := by
  unfold DD f_trk f_sec
  rw [h 1 (by decide), h 2 (by decide), h 4 (by decide), h 5 (by decide)]
theorem f_dn_spec (kl : Nat) : ∀ (m : Nat) (I : Nat → Nat → Int), (∀ s, f_dn I kl m kl 6 ≤ s → s < I kl 6 → DD I kl s) ∧ f_dn I kl m kl 6 ≤ I kl 6 ∧ I kl 6 - m ≤ f_dn I kl m kl 6 ∧ (I kl 6 - m < f_dn I kl m kl 6 → ¬ DD I kl (f_dn I kl m kl 6 - 1))
  | 0, I => by
    unfold f_dn
    exact ⟨fun s h1 h2 => by omega, Int.le_refl _, by omega, fun h => by omega⟩
  | m + 1, I => by
    unfold f_dn
    by_cases hc : inD (f_trk I kl (I kl 6 - 1)) (f_sec I kl (I kl 6 - 1))
    · rw [if_pos hc]
      have e6 : u2 I kl 6 (I kl 6 - 1) kl 6 = I kl 6 - 1 := u2_at
      have eD : ∀ s, DD (u2 I kl 6 (I kl 6 - 1)) kl s ↔ DD I kl s := DD_of (fun j hj => u2_nj (by omega))
      obtain ⟨a1, a2, a3, a4⟩ := f_dn_spec kl m (u2 I kl 6 (I kl 6 - 1))
      rw [e6] at a1 a2 a3 a4
      refine ⟨fun s h1 h2 => ?_, by omega, by omega, fun h q => a4 (by omega) ((eD _).mpr q)⟩
      by_cases hs : s = I kl 6 - 1
      · rw [hs]; exact hc
      · exact (eD s).mp (a1 s h1 (by omega))
    · rw [if_neg hc]
      exact ⟨fun s h1 h2 => by omega, Int.le_refl _, by omega, fun _ => hc⟩
theorem f_up_spec (kl : Nat) : ∀ (m : Nat) (I : Nat → Nat → Int), (∀ s, I kl 7 < s → s ≤ f_up I kl m kl 7 → DD I kl s) ∧ I kl 7 ≤ f_up I kl m kl 7 ∧ f_up I kl m kl 7 ≤ I kl 7 + m ∧ (f_up I kl m kl 7 < I kl 7 + m → ¬ DD I kl (f_up I kl m kl 7 + 1))
  | 0, I => by
    unfold f_up
    exact ⟨fun s h1 h2 => by omega, Int.le_refl _, by omega, fun h => by omega⟩
  | m + 1, I => by
    unfold f_up
    by_cases hc : inD (f_trk I kl (I kl 7 + 1)) (f_sec I kl (I kl 7 + 1))
    · rw [if_pos hc]
      have e6 : u2 I kl 7 (I kl 7 + 1) kl 7 = I kl 7 + 1 := u2_at
      have eD : ∀ s, DD (u2 I kl 7 (I kl 7 + 1)) kl s ↔ DD I kl s := DD_of (fun j hj => u2_nj (by omega))
      obtain ⟨a1, a2, a3, a4⟩ := f_up_spec kl m (u2 I kl 7 (I kl 7 + 1))
      rw [e6] at a1 a2 a3 a4
      refine ⟨fun s h1 h2 => ?_, by omega, by omega, fun h q => a4 (by omega) ((eD _).mpr q)⟩
      by_cases hs : s = I kl 7 + 1
      · rw [hs]; exact hc
      · exact (eD s).mp (a1 s (by omega) h2)
    · rw [if_neg hc]
      exact ⟨fun s h1 h2 => by omega, Int.le_refl _, by omega, fun _ => hc⟩
/-- the line is spread: it has just its cells in the drive -/
theorem spread_spec {I : Nat → Nat → Int} {kl : Nat} {b : Int} (hb : 0 ≤ b) (hlh : I kl 6 ≤ I kl 7) (h1 : DD I kl (I kl 6)) (h2 : DD I kl (I kl 7)) : I kl 6 - b ≤ f_spread I kl b kl 6 ∧ f_spread I kl b kl 6 + f_spread I kl b kl 3 - 1 ≤ I kl 7 + b ∧ 0 ≤ f_spread I kl b kl 3 ∧ ∀ s, I kl 6 - b ≤ s → s ≤ I kl 7 + b → (DD I kl s ↔ f_spread I kl b kl 6 ≤ s ∧ s < f_spread I kl b kl 6 + f_spread I kl b kl 3) := by
  obtain ⟨a1, a2, a3, a4⟩ := f_dn_spec kl b.toNat I
  obtain ⟨c1, c2, c3, c4⟩ := f_up_spec kl b.toNat (f_dn I kl b.toNat)
  have eD : ∀ s, DD (f_dn I kl b.toNat) kl s ↔ DD I kl s := DD_of (fun j hj => f_dn_keep _ _ j (by omega))
  have e7 : f_dn I kl b.toNat kl 7 = I kl 7 := f_dn_keep _ _ 7 (by decide)
  rw [e7] at c1 c2 c3 c4
  have e6 : f_spread I kl b kl 6 = f_dn I kl b.toNat kl 6 := by
    unfold f_spread f_cnt
    rw [u2_nj (by decide), f_up_keep _ _ 6 (by decide)]
  have e3 : f_spread I kl b kl 3 = f_up (f_dn I kl b.toNat) kl b.toNat kl 7 - f_dn I kl b.toNat kl 6 + 1 := by
    unfold f_spread f_cnt
    rw [u2_at, f_up_keep _ _ 6 (by decide)]
  rw [e6, e3]
  generalize f_up (f_dn I kl b.toNat) kl b.toNat kl 7 = hi at c1 c2 c3 c4 ⊢
  generalize f_dn I kl b.toNat kl 6 = lo at a1 a2 a3 a4 ⊢
  refine ⟨by omega, by omega, by omega, fun s s1 s2 => ⟨fun hs => ⟨?_, ?_⟩, fun hs => ?_⟩⟩
  · by_cases hlt : s < lo
    · exact absurd (DD_cvx hs h1 (by omega : s ≤ lo - 1) (by omega)) (a4 (by omega))
    · omega
  · by_cases hlt : hi < s
    · exact absurd ((eD _).mpr (DD_cvx h2 hs (by omega : I kl 7 ≤ hi + 1) (by omega))) (c4 (by omega))
    · omega
  · by_cases q1 : s < I kl 6
    · exact a1 s hs.1 q1
    · by_cases q2 : I kl 7 < s
      · exact (eD s).mp (c1 s q2 (by omega))
      · exact DD_cvx h1 h2 (by omega) (by omega)
