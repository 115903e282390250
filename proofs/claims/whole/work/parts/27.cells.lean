/-! ScratchMap: where blocks go -/
theorem s_X3_valueOf_in {l : Launch} {E : QE} {T : Nat → Nat × Nat} {I : Nat → Nat → Int} {J : Nat → Nat → Int64} {R : Nat → Nat → Option Nat} {n z : Nat} {k : Nat} (hk : StB T R n k) (i : Nat) (hi : i < 480) : SpV l E Y_X3_valueOf [.ref (E.1 + k), .int (iz (i : Int))] (T, I, J, R, n, z) (.int (iz (I (k + 3) i))) (T, I, J, R, n, z) := by
  have h := s_X3_valueOf (l := l) (E := E) (J := J) (I := I) (z := z) hk (i : Int) ⟨by omega, by omega⟩
  rw [if_pos (by omega)] at h
  exact h
theorem s_X3_placeOf_in {l : Launch} {E : QE} {T : Nat → Nat × Nat} {I : Nat → Nat → Int} {J : Nat → Nat → Int64} {R : Nat → Nat → Option Nat} {n z : Nat} {k : Nat} (hk : StB T R n k) (i : Nat) (hi : i < 480) : SpV l E Y_X3_placeOf [.ref (E.1 + k), .int (iz (i : Int))] (T, I, J, R, n, z) (.int (iz (I (k + 4) i))) (T, I, J, R, n, z) := by
  have h := s_X3_placeOf (l := l) (E := E) (J := J) (I := I) (z := z) hk (i : Int) ⟨by omega, by omega⟩
  rw [if_pos (by omega)] at h
  exact h
theorem s_X3_holderOf_in {l : Launch} {E : QE} {T : Nat → Nat × Nat} {I : Nat → Nat → Int} {J : Nat → Nat → Int64} {R : Nat → Nat → Option Nat} {n z : Nat} {k : Nat} (hk : StB T R n k) (i : Nat) (hi : i < 576) : SpV l E Y_X3_holderOf [.ref (E.1 + k), .int (iz (i : Int))] (T, I, J, R, n, z) (.int (iz (I (k + 5) i))) (T, I, J, R, n, z) := by
  have h := s_X3_holderOf (l := l) (E := E) (J := J) (I := I) (z := z) hk (i : Int) ⟨by omega, by omega⟩
  rw [if_pos (by omega)] at h
  exact h
def lfsL (I : Nat → Nat → Int) (ks km : Nat) : Nat → Nat → Int
  | 0, _ => -1
  | m + 1, c => if ¬ f_isGood I km c = 0 ∧ I (ks + 5) c = -1 then (c : Int) else lfsL I ks km m (c + 1)
/-- the lowest spare cell that is good and not taken -/
def f_lfs (I : Nat → Nat → Int) (ks km : Nat) : Int := lfsL I ks km 96 480
def f_cfw (I : Nat → Nat → Int) (ks km b : Nat) : Int := if ¬ f_isGood I km (I (ks + 4) b) = 0 then I (ks + 4) b else if ¬ f_isGood I km b = 0 then (b : Int) else f_lfs I ks km
def f_cft (I : Nat → Nat → Int) (ks km b : Nat) : Int :=
  if I (ks + 4) b = -1 ∨ I (ks + 4) b = b ∧ ¬ f_isGood I km (I (ks + 4) b) = 0 then -1
  else if ¬ f_isGood I km b = 0 then (b : Int)
  else if ¬ f_isGood I km (I (ks + 4) b) = 0 then -1 else f_lfs I ks km
def tdL (ks km : Nat) (most : Int) : Nat → Nat → Int → (Nat → Nat → Int) → Int × (Nat → Nat → Int)
  | 0, _, d, I => (d, I)
  | m + 1, b, d, I => if d < most then (if f_cft I ks km b = -1 then tdL ks km most m (b + 1) d I else tdL ks km most m (b + 1) (d + 1) (f_place I ks b (f_cft I ks km b) (I (ks + 3) b))) else (d, I)
def f_tidyUp (I : Nat → Nat → Int) (ks km : Nat) (most : Int) : Int × (Nat → Nat → Int) := tdL ks km most 480 0 0 I
def cntL (f : Nat → Bool) : Nat → Nat → Int → Int
  | 0, _, a => a
  | m + 1, i, a => if f i = true then cntL f m (i + 1) (a + 1) else cntL f m (i + 1) a
def f_bad (I : Nat → Nat → Int) (ks km : Nat) : Int := cntL (fun c => decide (¬ I (ks + 5) c = -1) && decide (f_isGood I km c = 0)) 576 0 0
theorem lfsL_rg (I : Nat → Nat → Int) (ks km : Nat) : ∀ m c : Nat, lfsL I ks km m c = -1 ∨ (c : Int) ≤ lfsL I ks km m c ∧ lfsL I ks km m c < c + m
  | 0, _ => Or.inl rfl
  | m + 1, c => by
    unfold lfsL
    split
    · exact Or.inr ⟨by omega, by omega⟩
    · rcases lfsL_rg I ks km m (c + 1) with h | h
      · exact Or.inl h
      · exact Or.inr ⟨by omega, by omega⟩
theorem f_lfs_rg (I : Nat → Nat → Int) (ks km : Nat) : f_lfs I ks km = -1 ∨ 480 ≤ f_lfs I ks km ∧ f_lfs I ks km < 576 := by
  have := lfsL_rg I ks km 96 480
  unfold f_lfs
  omega
theorem f_good01 {I : Nat → Nat → Int} {k : Nat} {c : Int} : f_isGood I k c = 0 ∨ f_isGood I k c = 1 := by unfold f_isGood; split <;> simp
theorem f_good_rg {I : Nat → Nat → Int} {k : Nat} {c : Int} (h : ¬ f_isGood I k c = 0) : 0 ≤ c ∧ c < 576 := by
  unfold f_isGood at h
  split at h
  · rename_i q; exact q.1
  · exact absurd rfl h
theorem f_cfw_rg {I : Nat → Nat → Int} {ks km b : Nat} (hb : b < 480) : f_cfw I ks km b = -1 ∨ 0 ≤ f_cfw I ks km b ∧ f_cfw I ks km b < 576 := by
  unfold f_cfw
  split
  · rename_i h; exact Or.inr (f_good_rg h)
  · split
    · exact Or.inr ⟨by omega, by omega⟩
    · have := f_lfs_rg I ks km; omega
theorem f_cft_rg {I : Nat → Nat → Int} {ks km b : Nat} (hb : b < 480) : f_cft I ks km b = -1 ∨ 0 ≤ f_cft I ks km b ∧ f_cft I ks km b < 576 := by
  unfold f_cft
  split
  · exact Or.inl rfl
  · split
    · exact Or.inr ⟨by omega, by omega⟩
    · split
      · exact Or.inl rfl
      · have := f_lfs_rg I ks km; omega
theorem cntL_rg (f : Nat → Bool) : ∀ (m i : Nat) (a : Int), a ≤ cntL f m i a ∧ cntL f m i a ≤ a + m
  | 0, _, a => by unfold cntL; omega
  | m + 1, i, a => by
    unfold cntL
    split
    · have := cntL_rg f m (i + 1) (a + 1); omega
    · have := cntL_rg f m (i + 1) a; omega
/-- f_place changes the state's rows alone; its places stay in range -/
theorem f_place_ne {I : Nat → Nat → Int} {k : Nat} {b c v : Int} {a : Nat} (h : a < k ∨ k + 6 ≤ a) : f_place I k b c v a = I a := by
  unfold f_place f_lay f_leave
  split
  · split
    · rw [u2_ne (by omega), u2_ne (by omega), u2_ne (by omega), u2_ne (by omega), u2_ne (by omega)]
    · rw [u2_ne (by omega), u2_ne (by omega), u2_ne (by omega)]
  · rfl
theorem f_place_4 {I : Nat → Nat → Int} {k : Nat} {b c v : Int} (hc : 0 ≤ c ∧ c < 576) (j : Nat) : f_place I k b c v (k + 4) j = if (0 ≤ b ∧ b < 480) ∧ j = b.toNat then c else I (k + 4) j := by
  unfold f_place f_lay f_leave
  by_cases hb : 0 ≤ b ∧ b < 480
  · rw [if_pos ⟨hb, hc⟩]
    split
    · rw [u2_ne (by omega), u2_eq, u2_ne (by omega), u2_ne (by omega), u2_ne (by omega)]
      by_cases e : j = b.toNat
      · rw [if_pos ⟨hb, e⟩]; exact if_pos e
      · rw [if_neg (fun q => e q.2)]; exact if_neg e
    · rw [u2_ne (by omega), u2_eq, u2_ne (by omega)]
      by_cases e : j = b.toNat
      · rw [if_pos ⟨hb, e⟩]; exact if_pos e
      · rw [if_neg (fun q => e q.2)]; exact if_neg e
  · rw [if_neg (fun q => hb q.1), if_neg (fun q => hb q.1)]
theorem f_place_5 {I : Nat → Nat → Int} {k : Nat} {b c v : Int} (hb : 0 ≤ b ∧ b < 480) (hc : 0 ≤ c ∧ c < 576) (j : Nat) : f_place I k b c v (k + 5) j = if j = c.toNat then b else if ((0 ≤ I (k + 4) b.toNat ∧ I (k + 4) b.toNat < 576) ∧ I (k + 4) b.toNat ≠ c) ∧ j = (I (k + 4) b.toNat).toNat then -1 else I (k + 5) j := by
  unfold f_place f_lay f_leave
  rw [if_pos ⟨hb, hc⟩]
  by_cases hq : (0 ≤ I (k + 4) b.toNat ∧ I (k + 4) b.toNat < 576) ∧ I (k + 4) b.toNat ≠ c
  · rw [if_pos hq, u2_ne (by omega), u2_ne (by omega), u2_eq, u2_ne (by omega : k + 5 ≠ k), u2_eq]
    by_cases e : j = c.toNat
    · rw [if_pos e]; exact if_pos e
    · rw [if_neg e]
      refine (if_neg e).trans ?_
      by_cases e2 : j = (I (k + 4) b.toNat).toNat
      · rw [if_pos ⟨hq, e2⟩]; exact if_pos e2
      · rw [if_neg (fun q => e2 q.2)]; exact if_neg e2
  · rw [if_neg hq, u2_ne (by omega), u2_ne (by omega), u2_eq]
    by_cases e : j = c.toNat
    · rw [if_pos e]; exact if_pos e
    · rw [if_neg e, if_neg (fun q => hq q.1)]; exact if_neg e
set_option maxHeartbeats 2000000 in
set_option maxRecDepth 100000 in
theorem s_X4_lfs_lp {l : Launch} {E : QE} {T : Nat → Nat × Nat} {I : Nat → Nat → Int} {J : Nat → Nat → Int64} {R : Nat → Nat → Option Nat} {n z : Nat} {ks : Nat} (hks : StB T R n ks) {km : Nat} (hkm : LmB T R n km) (hb : ∀ j : Nat, I (km + 3) j = 0 ∨ I (km + 3) j = 1) (hh : ∀ j : Nat, -2147483648 ≤ I (km + 2) j ∧ I (km + 2) j < 2147483648) (hp : ∀ j : Nat, -2147483648 ≤ I (ks + 4) j ∧ I (ks + 4) j < 2147483648) (ho : ∀ j : Nat, -2147483648 ≤ I (ks + 5) j ∧ I (ks + 5) j < 2147483648) : ∀ (m c : Nat), c + m = 576 → 480 ≤ c → Go l E Y_X4_lowestFreeSpare 0 0 4 [some (.ref (E.1 + ks)), some (.ref (E.1 + km)), some (.int (iz (c : Int)))] [] (T, I, J, R, n, z) (KV (.int (iz (lfsL I ks km m c))) (T, I, J, R, n, z)) := by
  obtain ⟨v0, v1, v2, v3, v4, v5, q0, q1, q2, q3, q4, hn2⟩ := hks
  obtain ⟨t0, t1, t2, t3, t4, t5, r0, r1, r2, r3, r4, rl, hn⟩ := hkm
  intro m
  induction m with
  | zero =>
    intro c hm hc
    refine g_iload2 (Y := Y_X4_lowestFreeSpare) (pc' := 5) dX4_lowestFreeSpare_4 rfl ?_
    refine g_sipush (Y := Y_X4_lowestFreeSpare) (pc' := 8) dX4_lowestFreeSpare_5 rfl (by decide) ?_
    refine g_icmp_ge (Y := Y_X4_lowestFreeSpare) (t := 36) (pc' := 11) dX4_lowestFreeSpare_8 (by decide) rfl ⟨by omega, by omega⟩ ⟨by omega, by omega⟩ (fun h8 => ?_) (fun h8 => ?_)
    · refine g_iconst (Y := Y_X4_lowestFreeSpare) (pc' := 37) dX4_lowestFreeSpare_36 rfl ?_
      exact g_iret (Y := Y_X4_lowestFreeSpare) dX4_lowestFreeSpare_37 rfl (Nat.zero_le _) (Nat.zero_le _) (⟨rfl, rfl⟩)
    · exfalso; omega
  | succ m ih =>
    intro c hm hc
    have hg01 : f_isGood I km c = 0 ∨ f_isGood I km c = 1 := f_good01
    have ho1 := ho c
    refine g_iload2 (Y := Y_X4_lowestFreeSpare) (pc' := 5) dX4_lowestFreeSpare_4 rfl ?_
    refine g_sipush (Y := Y_X4_lowestFreeSpare) (pc' := 8) dX4_lowestFreeSpare_5 rfl (by decide) ?_
    refine g_icmp_ge (Y := Y_X4_lowestFreeSpare) (t := 36) (pc' := 11) dX4_lowestFreeSpare_8 (by decide) rfl ⟨by omega, by omega⟩ ⟨by omega, by omega⟩ (fun h8 => ?_) (fun h8 => ?_)
    · exfalso; omega
    · refine g_aload1 (Y := Y_X4_lowestFreeSpare) (pc' := 12) dX4_lowestFreeSpare_11 rfl ?_
      refine g_iload2 (Y := Y_X4_lowestFreeSpare) (pc' := 13) dX4_lowestFreeSpare_12 rfl ?_
      refine g_callVv (Y := Y_X4_lowestFreeSpare) (c := 2) (s_X2_isGood ⟨t0, t1, t2, t3, t4, t5, r0, r1, r2, r3, r4, rl, hn⟩ (c : Int) ⟨by omega, by omega⟩ hb hh) (pc' := 16) dX4_lowestFreeSpare_13 rfl cv_X4_285 rfl (by assumption) (by show _ < n; omega) ⟨by decide, _, rfl, rfl⟩ rfl rfl rfl rfl ?_
      refine g_if_eq (Y := Y_X4_lowestFreeSpare) (t := 30) (pc' := 19) dX4_lowestFreeSpare_16 (by decide) rfl ⟨by omega, by omega⟩ (fun h16 => ?_) (fun h16 => ?_)
      · have e : lfsL I ks km (m + 1) c = lfsL I ks km m (c + 1) := if_neg (fun q => q.1 h16)
        rw [e]
        refine g_iinc2 (Y := Y_X4_lowestFreeSpare) (pc' := 33) dX4_lowestFreeSpare_30 rfl (Nat.le_of_ble_eq_true rfl) rfl ?_
        refine g_goto (Y := Y_X4_lowestFreeSpare) (t := 4) dX4_lowestFreeSpare_33 (by decide) ?_
        exact ih (c + 1) (by omega) (by omega)
      · refine g_aload0 (Y := Y_X4_lowestFreeSpare) (pc' := 20) dX4_lowestFreeSpare_19 rfl ?_
        refine g_iload2 (Y := Y_X4_lowestFreeSpare) (pc' := 21) dX4_lowestFreeSpare_20 rfl ?_
        refine g_callVv (Y := Y_X4_lowestFreeSpare) (c := 3) (s_X3_holderOf_in ⟨v0, v1, v2, v3, v4, v5, q0, q1, q2, q3, q4, hn2⟩ c (by omega)) (pc' := 24) dX4_lowestFreeSpare_21 rfl cv_X4_194 rfl (by assumption) (by show _ < n; omega) ⟨by decide, _, rfl, rfl⟩ rfl rfl rfl rfl ?_
        refine g_iconst (Y := Y_X4_lowestFreeSpare) (pc' := 25) dX4_lowestFreeSpare_24 rfl ?_
        refine g_icmp_ne (Y := Y_X4_lowestFreeSpare) (t := 30) (pc' := 28) dX4_lowestFreeSpare_25 (by decide) rfl ⟨by omega, by omega⟩ ⟨by omega, by omega⟩ (fun h25 => ?_) (fun h25 => ?_)
        · have e : lfsL I ks km (m + 1) c = lfsL I ks km m (c + 1) := if_neg (fun q => h25 q.2)
          rw [e]
          refine g_iinc2 (Y := Y_X4_lowestFreeSpare) (pc' := 33) dX4_lowestFreeSpare_30 rfl (Nat.le_of_ble_eq_true rfl) rfl ?_
          refine g_goto (Y := Y_X4_lowestFreeSpare) (t := 4) dX4_lowestFreeSpare_33 (by decide) ?_
          exact ih (c + 1) (by omega) (by omega)
        · have e : lfsL I ks km (m + 1) c = (c : Int) := if_pos ⟨h16, h25⟩
          rw [e]
          refine g_iload2 (Y := Y_X4_lowestFreeSpare) (pc' := 29) dX4_lowestFreeSpare_28 rfl ?_
          exact g_iret (Y := Y_X4_lowestFreeSpare) dX4_lowestFreeSpare_29 rfl (Nat.zero_le _) (Nat.zero_le _) (⟨rfl, rfl⟩)
set_option maxHeartbeats 2000000 in
set_option maxRecDepth 100000 in
theorem s_X4_lowestFreeSpare {l : Launch} {E : QE} {T : Nat → Nat × Nat} {I : Nat → Nat → Int} {J : Nat → Nat → Int64} {R : Nat → Nat → Option Nat} {n z : Nat} {ks : Nat} (hks : StB T R n ks) {km : Nat} (hkm : LmB T R n km) (hb : ∀ j : Nat, I (km + 3) j = 0 ∨ I (km + 3) j = 1) (hh : ∀ j : Nat, -2147483648 ≤ I (km + 2) j ∧ I (km + 2) j < 2147483648) (hp : ∀ j : Nat, -2147483648 ≤ I (ks + 4) j ∧ I (ks + 4) j < 2147483648) (ho : ∀ j : Nat, -2147483648 ≤ I (ks + 5) j ∧ I (ks + 5) j < 2147483648)  : SpV l E Y_X4_lowestFreeSpare [.ref (E.1 + ks), .ref (E.1 + km)] (T, I, J, R, n, z) (.int (iz (f_lfs I ks km))) (T, I, J, R, n, z) := by
  obtain ⟨v0, v1, v2, v3, v4, v5, q0, q1, q2, q3, q4, hn2⟩ := hks
  obtain ⟨t0, t1, t2, t3, t4, t5, r0, r1, r2, r3, r4, rl, hn⟩ := hkm
  refine Sp.of [some (.ref (E.1 + ks)), some (.ref (E.1 + km)), none] (by decide +kernel) (Nat.le_of_ble_eq_true rfl) (fun _ h => h) ?_
  refine g_sipush (Y := Y_X4_lowestFreeSpare) (pc' := 3) dX4_lowestFreeSpare_0 rfl (by decide) ?_
  refine g_istore2 (Y := Y_X4_lowestFreeSpare) (pc' := 4) dX4_lowestFreeSpare_3 rfl (Nat.le_of_ble_eq_true rfl) rfl ?_
  exact s_X4_lfs_lp ⟨v0, v1, v2, v3, v4, v5, q0, q1, q2, q3, q4, hn2⟩ ⟨t0, t1, t2, t3, t4, t5, r0, r1, r2, r3, r4, rl, hn⟩ hb hh hp ho 96 480 rfl (by omega)
set_option maxHeartbeats 2000000 in
set_option maxRecDepth 100000 in
theorem s_X4_cellForWriting {l : Launch} {E : QE} {T : Nat → Nat × Nat} {I : Nat → Nat → Int} {J : Nat → Nat → Int64} {R : Nat → Nat → Option Nat} {n z : Nat} {ks : Nat} (hks : StB T R n ks) {km : Nat} (hkm : LmB T R n km) (hb : ∀ j : Nat, I (km + 3) j = 0 ∨ I (km + 3) j = 1) (hh : ∀ j : Nat, -2147483648 ≤ I (km + 2) j ∧ I (km + 2) j < 2147483648) (hp : ∀ j : Nat, -2147483648 ≤ I (ks + 4) j ∧ I (ks + 4) j < 2147483648) (ho : ∀ j : Nat, -2147483648 ≤ I (ks + 5) j ∧ I (ks + 5) j < 2147483648) (b : Nat) (hb9 : b < 480) : SpV l E Y_X4_cellForWriting [.ref (E.1 + ks), .ref (E.1 + km), .int (iz (b : Int))] (T, I, J, R, n, z) (.int (iz (f_cfw I ks km b))) (T, I, J, R, n, z) := by
  obtain ⟨v0, v1, v2, v3, v4, v5, q0, q1, q2, q3, q4, hn2⟩ := hks
  obtain ⟨t0, t1, t2, t3, t4, t5, r0, r1, r2, r3, r4, rl, hn⟩ := hkm
  have hp1 := hp b
  have g1 : f_isGood I km (I (ks + 4) b) = 0 ∨ f_isGood I km (I (ks + 4) b) = 1 := f_good01
  have g2 : f_isGood I km (b : Int) = 0 ∨ f_isGood I km (b : Int) = 1 := f_good01
  refine Sp.of [some (.ref (E.1 + ks)), some (.ref (E.1 + km)), some (.int (iz (b : Int))), none] (by decide +kernel) (Nat.le_of_ble_eq_true rfl) (fun _ h => h) ?_
  refine g_aload0 (Y := Y_X4_cellForWriting) (pc' := 1) dX4_cellForWriting_0 rfl ?_
  refine g_iload2 (Y := Y_X4_cellForWriting) (pc' := 2) dX4_cellForWriting_1 rfl ?_
  refine g_callVv (Y := Y_X4_cellForWriting) (c := 3) (s_X3_placeOf_in ⟨v0, v1, v2, v3, v4, v5, q0, q1, q2, q3, q4, hn2⟩ b hb9) (pc' := 5) dX4_cellForWriting_2 rfl cv_X4_202 rfl (by assumption) (by show _ < n; omega) ⟨by decide, _, rfl, rfl⟩ rfl rfl rfl rfl ?_
  refine g_istore3 (Y := Y_X4_cellForWriting) (pc' := 6) dX4_cellForWriting_5 rfl (Nat.le_of_ble_eq_true rfl) rfl ?_
  refine g_aload1 (Y := Y_X4_cellForWriting) (pc' := 7) dX4_cellForWriting_6 rfl ?_
  refine g_iload3 (Y := Y_X4_cellForWriting) (pc' := 8) dX4_cellForWriting_7 rfl ?_
  refine g_callVv (Y := Y_X4_cellForWriting) (c := 2) (s_X2_isGood ⟨t0, t1, t2, t3, t4, t5, r0, r1, r2, r3, r4, rl, hn⟩ (I (ks + 4) b) hp1 hb hh) (pc' := 11) dX4_cellForWriting_8 rfl cv_X4_285 rfl (by assumption) (by show _ < n; omega) ⟨by decide, _, rfl, rfl⟩ rfl rfl rfl rfl ?_
  refine g_if_eq (Y := Y_X4_cellForWriting) (t := 16) (pc' := 14) dX4_cellForWriting_11 (by decide) rfl ⟨by omega, by omega⟩ (fun h11 => ?_) (fun h11 => ?_)
  · refine g_aload1 (Y := Y_X4_cellForWriting) (pc' := 17) dX4_cellForWriting_16 rfl ?_
    refine g_iload2 (Y := Y_X4_cellForWriting) (pc' := 18) dX4_cellForWriting_17 rfl ?_
    refine g_callVv (Y := Y_X4_cellForWriting) (c := 2) (s_X2_isGood ⟨t0, t1, t2, t3, t4, t5, r0, r1, r2, r3, r4, rl, hn⟩ (b : Int) ⟨by omega, by omega⟩ hb hh) (pc' := 21) dX4_cellForWriting_18 rfl cv_X4_285 rfl (by assumption) (by show _ < n; omega) ⟨by decide, _, rfl, rfl⟩ rfl rfl rfl rfl ?_
    refine g_if_eq (Y := Y_X4_cellForWriting) (t := 28) (pc' := 24) dX4_cellForWriting_21 (by decide) rfl ⟨by omega, by omega⟩ (fun h21 => ?_) (fun h21 => ?_)
    · have e : f_cfw I ks km b = f_lfs I ks km := (if_neg (fun q => q h11)).trans (if_neg (fun q => q h21))
      rw [e]
      refine g_aload0 (Y := Y_X4_cellForWriting) (pc' := 29) dX4_cellForWriting_28 rfl ?_
      refine g_aload1 (Y := Y_X4_cellForWriting) (pc' := 30) dX4_cellForWriting_29 rfl ?_
      refine g_callSv (Y := Y_X4_cellForWriting) (s_X4_lowestFreeSpare ⟨v0, v1, v2, v3, v4, v5, q0, q1, q2, q3, q4, hn2⟩ ⟨t0, t1, t2, t3, t4, t5, r0, r1, r2, r3, r4, rl, hn⟩ hb hh hp ho) (pc' := 33) dX4_cellForWriting_30 rfl cv_X4_288 rfl rfl rfl rfl rfl ?_
      exact g_iret (Y := Y_X4_cellForWriting) dX4_cellForWriting_33 rfl (Nat.zero_le _) (Nat.zero_le _) (⟨rfl, rfl⟩)
    · have e : f_cfw I ks km b = (b : Int) := (if_neg (fun q => q h11)).trans (if_pos h21)
      rw [e]
      refine g_iload2 (Y := Y_X4_cellForWriting) (pc' := 25) dX4_cellForWriting_24 rfl ?_
      refine g_goto (Y := Y_X4_cellForWriting) (t := 33) dX4_cellForWriting_25 (by decide) ?_
      exact g_iret (Y := Y_X4_cellForWriting) dX4_cellForWriting_33 rfl (Nat.zero_le _) (Nat.zero_le _) (⟨rfl, rfl⟩)
  · have e : f_cfw I ks km b = I (ks + 4) b := if_pos h11
    rw [e]
    refine g_iload3 (Y := Y_X4_cellForWriting) (pc' := 15) dX4_cellForWriting_14 rfl ?_
    exact g_iret (Y := Y_X4_cellForWriting) dX4_cellForWriting_15 rfl (Nat.zero_le _) (Nat.zero_le _) (⟨rfl, rfl⟩)
set_option maxHeartbeats 2000000 in
set_option maxRecDepth 100000 in
theorem s_X4_cellForTidying {l : Launch} {E : QE} {T : Nat → Nat × Nat} {I : Nat → Nat → Int} {J : Nat → Nat → Int64} {R : Nat → Nat → Option Nat} {n z : Nat} {ks : Nat} (hks : StB T R n ks) {km : Nat} (hkm : LmB T R n km) (hb : ∀ j : Nat, I (km + 3) j = 0 ∨ I (km + 3) j = 1) (hh : ∀ j : Nat, -2147483648 ≤ I (km + 2) j ∧ I (km + 2) j < 2147483648) (hp : ∀ j : Nat, -2147483648 ≤ I (ks + 4) j ∧ I (ks + 4) j < 2147483648) (ho : ∀ j : Nat, -2147483648 ≤ I (ks + 5) j ∧ I (ks + 5) j < 2147483648) (b : Nat) (hb9 : b < 480) : SpV l E Y_X4_cellForTidying [.ref (E.1 + ks), .ref (E.1 + km), .int (iz (b : Int))] (T, I, J, R, n, z) (.int (iz (f_cft I ks km b))) (T, I, J, R, n, z) := by
  obtain ⟨v0, v1, v2, v3, v4, v5, q0, q1, q2, q3, q4, hn2⟩ := hks
  obtain ⟨t0, t1, t2, t3, t4, t5, r0, r1, r2, r3, r4, rl, hn⟩ := hkm
  have hp1 := hp b
  have g1 : f_isGood I km (I (ks + 4) b) = 0 ∨ f_isGood I km (I (ks + 4) b) = 1 := f_good01
  have g2 : f_isGood I km (b : Int) = 0 ∨ f_isGood I km (b : Int) = 1 := f_good01
  refine Sp.of [some (.ref (E.1 + ks)), some (.ref (E.1 + km)), some (.int (iz (b : Int))), none] (by decide +kernel) (Nat.le_of_ble_eq_true rfl) (fun _ h => h) ?_
  refine g_aload0 (Y := Y_X4_cellForTidying) (pc' := 1) dX4_cellForTidying_0 rfl ?_
  refine g_iload2 (Y := Y_X4_cellForTidying) (pc' := 2) dX4_cellForTidying_1 rfl ?_
  refine g_callVv (Y := Y_X4_cellForTidying) (c := 3) (s_X3_placeOf_in ⟨v0, v1, v2, v3, v4, v5, q0, q1, q2, q3, q4, hn2⟩ b hb9) (pc' := 5) dX4_cellForTidying_2 rfl cv_X4_202 rfl (by assumption) (by show _ < n; omega) ⟨by decide, _, rfl, rfl⟩ rfl rfl rfl rfl ?_
  refine g_istore3 (Y := Y_X4_cellForTidying) (pc' := 6) dX4_cellForTidying_5 rfl (Nat.le_of_ble_eq_true rfl) rfl ?_
  refine g_iload3 (Y := Y_X4_cellForTidying) (pc' := 7) dX4_cellForTidying_6 rfl ?_
  refine g_iconst (Y := Y_X4_cellForTidying) (pc' := 8) dX4_cellForTidying_7 rfl ?_
  refine g_icmp_eq (Y := Y_X4_cellForTidying) (t := 24) (pc' := 11) dX4_cellForTidying_8 (by decide) rfl ⟨by omega, by omega⟩ ⟨by omega, by omega⟩ (fun h8 => ?_) (fun h8 => ?_)
  · have e : f_cft I ks km b = -1 := if_pos (Or.inl h8)
    rw [e]
    refine g_iconst (Y := Y_X4_cellForTidying) (pc' := 25) dX4_cellForTidying_24 rfl ?_
    exact g_iret (Y := Y_X4_cellForTidying) dX4_cellForTidying_25 rfl (Nat.zero_le _) (Nat.zero_le _) (⟨rfl, rfl⟩)
  · refine g_iload3 (Y := Y_X4_cellForTidying) (pc' := 12) dX4_cellForTidying_11 rfl ?_
    refine g_iload2 (Y := Y_X4_cellForTidying) (pc' := 13) dX4_cellForTidying_12 rfl ?_
    refine g_icmp_ne (Y := Y_X4_cellForTidying) (t := 26) (pc' := 16) dX4_cellForTidying_13 (by decide) rfl ⟨by omega, by omega⟩ ⟨by omega, by omega⟩ (fun h13 => ?_) (fun h13 => ?_)
    · have e0 : ¬ (I (ks + 4) b = -1 ∨ I (ks + 4) b = b ∧ ¬ f_isGood I km (I (ks + 4) b) = 0) := by omega
      refine g_aload1 (Y := Y_X4_cellForTidying) (pc' := 27) dX4_cellForTidying_26 rfl ?_
      refine g_iload2 (Y := Y_X4_cellForTidying) (pc' := 28) dX4_cellForTidying_27 rfl ?_
      refine g_callVv (Y := Y_X4_cellForTidying) (c := 2) (s_X2_isGood ⟨t0, t1, t2, t3, t4, t5, r0, r1, r2, r3, r4, rl, hn⟩ (b : Int) ⟨by omega, by omega⟩ hb hh) (pc' := 31) dX4_cellForTidying_28 rfl cv_X4_285 rfl (by assumption) (by show _ < n; omega) ⟨by decide, _, rfl, rfl⟩ rfl rfl rfl rfl ?_
      refine g_if_eq (Y := Y_X4_cellForTidying) (t := 36) (pc' := 34) dX4_cellForTidying_31 (by decide) rfl ⟨by omega, by omega⟩ (fun h31 => ?_) (fun h31 => ?_)
      · refine g_aload1 (Y := Y_X4_cellForTidying) (pc' := 37) dX4_cellForTidying_36 rfl ?_
        refine g_iload3 (Y := Y_X4_cellForTidying) (pc' := 38) dX4_cellForTidying_37 rfl ?_
        refine g_callVv (Y := Y_X4_cellForTidying) (c := 2) (s_X2_isGood ⟨t0, t1, t2, t3, t4, t5, r0, r1, r2, r3, r4, rl, hn⟩ (I (ks + 4) b) hp1 hb hh) (pc' := 41) dX4_cellForTidying_38 rfl cv_X4_285 rfl (by assumption) (by show _ < n; omega) ⟨by decide, _, rfl, rfl⟩ rfl rfl rfl rfl ?_
        refine g_if_eq (Y := Y_X4_cellForTidying) (t := 48) (pc' := 44) dX4_cellForTidying_41 (by decide) rfl ⟨by omega, by omega⟩ (fun h41 => ?_) (fun h41 => ?_)
        · have e : f_cft I ks km b = f_lfs I ks km := (if_neg e0).trans ((if_neg (fun q => q h31)).trans (if_neg (fun q => q h41)))
          rw [e]
          refine g_aload0 (Y := Y_X4_cellForTidying) (pc' := 49) dX4_cellForTidying_48 rfl ?_
          refine g_aload1 (Y := Y_X4_cellForTidying) (pc' := 50) dX4_cellForTidying_49 rfl ?_
          refine g_callSv (Y := Y_X4_cellForTidying) (s_X4_lowestFreeSpare ⟨v0, v1, v2, v3, v4, v5, q0, q1, q2, q3, q4, hn2⟩ ⟨t0, t1, t2, t3, t4, t5, r0, r1, r2, r3, r4, rl, hn⟩ hb hh hp ho) (pc' := 53) dX4_cellForTidying_50 rfl cv_X4_288 rfl rfl rfl rfl rfl ?_
          exact g_iret (Y := Y_X4_cellForTidying) dX4_cellForTidying_53 rfl (Nat.zero_le _) (Nat.zero_le _) (⟨rfl, rfl⟩)
        · have e : f_cft I ks km b = -1 := (if_neg e0).trans ((if_neg (fun q => q h31)).trans (if_pos h41))
          rw [e]
          refine g_iconst (Y := Y_X4_cellForTidying) (pc' := 45) dX4_cellForTidying_44 rfl ?_
          refine g_goto (Y := Y_X4_cellForTidying) (t := 53) dX4_cellForTidying_45 (by decide) ?_
          exact g_iret (Y := Y_X4_cellForTidying) dX4_cellForTidying_53 rfl (Nat.zero_le _) (Nat.zero_le _) (⟨rfl, rfl⟩)
      · have e : f_cft I ks km b = (b : Int) := (if_neg e0).trans (if_pos h31)
        rw [e]
        refine g_iload2 (Y := Y_X4_cellForTidying) (pc' := 35) dX4_cellForTidying_34 rfl ?_
        exact g_iret (Y := Y_X4_cellForTidying) dX4_cellForTidying_35 rfl (Nat.zero_le _) (Nat.zero_le _) (⟨rfl, rfl⟩)
    · refine g_aload1 (Y := Y_X4_cellForTidying) (pc' := 17) dX4_cellForTidying_16 rfl ?_
      refine g_iload3 (Y := Y_X4_cellForTidying) (pc' := 18) dX4_cellForTidying_17 rfl ?_
      refine g_callVv (Y := Y_X4_cellForTidying) (c := 2) (s_X2_isGood ⟨t0, t1, t2, t3, t4, t5, r0, r1, r2, r3, r4, rl, hn⟩ (I (ks + 4) b) hp1 hb hh) (pc' := 21) dX4_cellForTidying_18 rfl cv_X4_285 rfl (by assumption) (by show _ < n; omega) ⟨by decide, _, rfl, rfl⟩ rfl rfl rfl rfl ?_
      refine g_if_eq (Y := Y_X4_cellForTidying) (t := 26) (pc' := 24) dX4_cellForTidying_21 (by decide) rfl ⟨by omega, by omega⟩ (fun h21 => ?_) (fun h21 => ?_)
      · have e0 : ¬ (I (ks + 4) b = -1 ∨ I (ks + 4) b = b ∧ ¬ f_isGood I km (I (ks + 4) b) = 0) := by omega
        refine g_aload1 (Y := Y_X4_cellForTidying) (pc' := 27) dX4_cellForTidying_26 rfl ?_
        refine g_iload2 (Y := Y_X4_cellForTidying) (pc' := 28) dX4_cellForTidying_27 rfl ?_
        refine g_callVv (Y := Y_X4_cellForTidying) (c := 2) (s_X2_isGood ⟨t0, t1, t2, t3, t4, t5, r0, r1, r2, r3, r4, rl, hn⟩ (b : Int) ⟨by omega, by omega⟩ hb hh) (pc' := 31) dX4_cellForTidying_28 rfl cv_X4_285 rfl (by assumption) (by show _ < n; omega) ⟨by decide, _, rfl, rfl⟩ rfl rfl rfl rfl ?_
        refine g_if_eq (Y := Y_X4_cellForTidying) (t := 36) (pc' := 34) dX4_cellForTidying_31 (by decide) rfl ⟨by omega, by omega⟩ (fun h31 => ?_) (fun h31 => ?_)
        · refine g_aload1 (Y := Y_X4_cellForTidying) (pc' := 37) dX4_cellForTidying_36 rfl ?_
          refine g_iload3 (Y := Y_X4_cellForTidying) (pc' := 38) dX4_cellForTidying_37 rfl ?_
          refine g_callVv (Y := Y_X4_cellForTidying) (c := 2) (s_X2_isGood ⟨t0, t1, t2, t3, t4, t5, r0, r1, r2, r3, r4, rl, hn⟩ (I (ks + 4) b) hp1 hb hh) (pc' := 41) dX4_cellForTidying_38 rfl cv_X4_285 rfl (by assumption) (by show _ < n; omega) ⟨by decide, _, rfl, rfl⟩ rfl rfl rfl rfl ?_
          refine g_if_eq (Y := Y_X4_cellForTidying) (t := 48) (pc' := 44) dX4_cellForTidying_41 (by decide) rfl ⟨by omega, by omega⟩ (fun h41 => ?_) (fun h41 => ?_)
          · have e : f_cft I ks km b = f_lfs I ks km := (if_neg e0).trans ((if_neg (fun q => q h31)).trans (if_neg (fun q => q h41)))
            rw [e]
            refine g_aload0 (Y := Y_X4_cellForTidying) (pc' := 49) dX4_cellForTidying_48 rfl ?_
            refine g_aload1 (Y := Y_X4_cellForTidying) (pc' := 50) dX4_cellForTidying_49 rfl ?_
            refine g_callSv (Y := Y_X4_cellForTidying) (s_X4_lowestFreeSpare ⟨v0, v1, v2, v3, v4, v5, q0, q1, q2, q3, q4, hn2⟩ ⟨t0, t1, t2, t3, t4, t5, r0, r1, r2, r3, r4, rl, hn⟩ hb hh hp ho) (pc' := 53) dX4_cellForTidying_50 rfl cv_X4_288 rfl rfl rfl rfl rfl ?_
            exact g_iret (Y := Y_X4_cellForTidying) dX4_cellForTidying_53 rfl (Nat.zero_le _) (Nat.zero_le _) (⟨rfl, rfl⟩)
          · have e : f_cft I ks km b = -1 := (if_neg e0).trans ((if_neg (fun q => q h31)).trans (if_pos h41))
            rw [e]
            refine g_iconst (Y := Y_X4_cellForTidying) (pc' := 45) dX4_cellForTidying_44 rfl ?_
            refine g_goto (Y := Y_X4_cellForTidying) (t := 53) dX4_cellForTidying_45 (by decide) ?_
            exact g_iret (Y := Y_X4_cellForTidying) dX4_cellForTidying_53 rfl (Nat.zero_le _) (Nat.zero_le _) (⟨rfl, rfl⟩)
        · have e : f_cft I ks km b = (b : Int) := (if_neg e0).trans (if_pos h31)
          rw [e]
          refine g_iload2 (Y := Y_X4_cellForTidying) (pc' := 35) dX4_cellForTidying_34 rfl ?_
          exact g_iret (Y := Y_X4_cellForTidying) dX4_cellForTidying_35 rfl (Nat.zero_le _) (Nat.zero_le _) (⟨rfl, rfl⟩)
      · have e : f_cft I ks km b = -1 := if_pos (Or.inr ⟨h13, h21⟩)
        rw [e]
        refine g_iconst (Y := Y_X4_cellForTidying) (pc' := 25) dX4_cellForTidying_24 rfl ?_
        exact g_iret (Y := Y_X4_cellForTidying) dX4_cellForTidying_25 rfl (Nat.zero_le _) (Nat.zero_le _) (⟨rfl, rfl⟩)
