/-! LineMap: what addLine does -/
theorem iz_shlN {a : Nat} (h : a < 12) : iz 1 <<< (iz (a : Int) &&& 31) = iz (((2 ^ a : Nat)) : Int) := iz_shl1 (s := (a : Int)) ⟨by omega, by omega⟩
def oand (m x : Int) : Int := ((m.toNat &&& x.toNat : Nat) : Int)
theorem iz_oand {m x : Int} (hm : 0 ≤ m) (hx : 0 ≤ x) : iz m &&& iz x = iz (oand m x) := by
  have h := iz_and m.toNat x.toNat
  rw [show ((m.toNat : Nat) : Int) = m by omega, show ((x.toNat : Nat) : Int) = x by omega] at h
  exact h
theorem oand_rg {m x : Int} (hm : 0 ≤ m ∧ m < 4096) : 0 ≤ oand m x ∧ oand m x < 4096 := by
  unfold oand
  have : m.toNat &&& x.toNat ≤ m.toNat := Nat.and_le_left
  omega
theorem pow_rg {a : Nat} (h : a < 12) : 1 ≤ ((2 ^ a : Nat) : Int) ∧ ((2 ^ a : Nat) : Int) < 4096 := by
  have h1 : 2 ^ a < 2 ^ 12 := Nat.pow_lt_pow_right (by omega) h
  have h2 : 0 < 2 ^ a := Nat.pow_pos (by omega)
  omega
def oshr (m : Int) (i : Nat) : Int := ((m.toNat >>> i : Nat) : Int)
theorem iz_shrN {m : Int} {i : Nat} (hm : 0 ≤ m ∧ m < 4096) (hi : i < 12) : iz m >>> (iz (i : Int) &&& 31) = iz (oshr m i) := by
  have key : ∀ j : Fin 12, ((iz (j.val : Int) &&& 31).toBitVec.smod 32).toNat = j.val := by decide
  have h := pk_shrN (n := m.toNat) (by omega) (iz (i : Int) &&& 31) i (key ⟨i, hi⟩)
  rw [show nI m.toNat = iz m by unfold nI; rw [← Int32.ofInt_eq_ofNat, show ((m.toNat : Nat) : Int) = m by omega]; rfl] at h
  rw [h]
  unfold oshr nI
  rw [Nat.shiftRight_eq_div_pow, ← Int32.ofInt_eq_ofNat]
  rfl
theorem oshr_rg {m : Int} {i : Nat} (hm : 0 ≤ m ∧ m < 4096) : 0 ≤ oshr m i ∧ oshr m i < 4096 := by
  unfold oshr
  have : m.toNat >>> i ≤ m.toNat := Nat.shiftRight_le _ _
  generalize m.toNat >>> i = q at this ⊢
  omega
def obt (m : Int) (i : Nat) : Int := if m.toNat.testBit i then 1 else 0
theorem iz_obt {m : Int} {i : Nat} (hm : 0 ≤ m ∧ m < 4096) : iz (oshr m i) &&& iz 1 = iz (obt m i) := by
  have h := iz_and (m.toNat >>> i) 1
  have e : (m.toNat >>> i) &&& 1 = if m.toNat.testBit i then 1 else 0 := by
    unfold Nat.testBit
    rw [Nat.and_comm 1]
    rcases Nat.mod_two_eq_zero_or_one (m.toNat >>> i) with q | q <;> simp [Nat.and_one_is_mod, q]
  rw [e] at h
  unfold oshr obt
  have e1 : ((1 : Nat) : Int) = 1 := rfl
  rw [e1] at h
  rw [h]
  split <;> rfl
theorem pcn_rg (m : Int) : 0 ≤ pcn m ∧ pcn m ≤ 12 := by
  unfold pcn
  have := List.length_filter_le (fun j => m.toNat.testBit j) (List.range 12)
  rw [List.length_range] at this
  omega
/-- the spots from i on (m of them) that are in mq join the line kl -/
def f_jn (k kl : Nat) (mq : Int) : Nat → Nat → (Nat → Nat → Int) × (Nat → Nat → Int64) → (Nat → Nat → Int) × (Nat → Nat → Int64)
  | 0, _, P => P
  | m + 1, i, P => if obt mq i = 1 then f_jn k kl mq m (i + 1) (f_join P.1 kl i (P.1 (k + 4) i) (P.1 (k + 5) i), f_joinJ P.1 P.2 kl (P.1 (k + 4) i) (P.1 (k + 5) i)) else f_jn k kl mq m (i + 1) P
def f_aimed (I : Nat → Nat → Int) (J : Nat → Nat → Int64) (k kl a b : Nat) : (Nat → Nat → Int) × (Nat → Nat → Int64) := (f_aim I kl (I (k + 4) a) (I (k + 5) a) (I (k + 4) b) (I (k + 5) b), u2 J kl 8 0)
def f_jd (I : Nat → Nat → Int) (J : Nat → Nat → Int64) (k a b : Nat) : (Nat → Nat → Int) × (Nat → Nat → Int64) := f_jn k (k + 6 + (I k 6).toNat) (f_lw I k a b) ((I k 5).toNat - a) a (f_aimed I J k (k + 6 + (I k 6).toNat) a b)
def f_inc6 (I : Nat → Nat → Int) (k : Nat) : Nat → Nat → Int := u2 I k 6 (I k 6 + 1)
def f_add2 (P : (Nat → Nat → Int) × (Nat → Nat → Int64)) (k ks kl : Nat) : Int × (Nat → Nat → Int) × (Nat → Nat → Int64) :=
  if P.1 (ks + 2) 1 < f_gap P.1 P.2 kl then (0, P.1, P.2) else (1, f_inc6 (f_spread P.1 kl (P.1 (ks + 2) 2)) k, P.2)
/-- the line of the spots a and b, if there is one: it is the next one then -/
def f_addLine (I : Nat → Nat → Int) (J : Nat → Nat → Int64) (k ks a b : Nat) : Int × (Nat → Nat → Int) × (Nat → Nat → Int64) :=
  if oand (f_lw I k a b) (((2 ^ b : Nat) : Int) - 1) = ((2 ^ a : Nat) : Int) ∧ ¬ pcn (f_lw I k a b) < I (ks + 2) 0 ∧ I k 6 < 22 then f_add2 (f_jd I J k a b) k ks (k + 6 + (I k 6).toNat) else (0, I, J)
/-- a line that joins: its row is in order, all other rows are as in I0 -/
def JOK (I0 : Nat → Nat → Int) (kl : Nat) (I : Nat → Nat → Int) : Prop := (∀ a, a ≠ kl → I a = I0 a) ∧ (0 ≤ I kl 4 ∧ I kl 4 < 24) ∧ (0 ≤ I kl 5 ∧ I kl 5 < 24) ∧ (-24 < I kl 1 ∧ I kl 1 < 24) ∧ (-24 < I kl 2 ∧ I kl 2 < 24) ∧ (0 ≤ I kl 0 ∧ I kl 0 < 4096) ∧ (-24 < I kl 6 ∧ I kl 6 ≤ 0) ∧ (0 ≤ I kl 7 ∧ I kl 7 < 24)
theorem f_dvr_rg {tw sw : Int} (h1 : -24 < tw ∧ tw < 24) (h2 : -24 < sw ∧ sw < 24) : -24 < f_dvr tw sw ∧ f_dvr tw sw < 24 := by
  have ha1 : 0 ≤ iabs tw ∧ iabs tw < 24 := by unfold iabs; split <;> omega
  have ha2 : 0 ≤ iabs sw ∧ iabs sw < 24 := by unfold iabs; split <;> omega
  have hg := f_cd_rg ha1 ha2
  unfold f_dvr
  split <;> omega
theorem f_ratio_rg {a d : Int} (h : -24 < a ∧ a < 24) : -24 < f_ratio a d ∧ f_ratio a d < 24 := by
  unfold f_ratio
  split
  · omega
  · exact tdiv_rg h
theorem f_aim_ne {I : Nat → Nat → Int} {kl : Nat} {a b c d : Int} {x : Nat} (h : x ≠ kl) : f_aim I kl a b c d x = I x := by
  unfold f_aim
  rw [u2_ne h, u2_ne h, u2_ne h, u2_ne h, u2_ne h, u2_ne h, u2_ne h]
theorem JOK_aim {I : Nat → Nat → Int} {kl : Nat} {a b c d : Int} (ha : 0 ≤ a ∧ a < 24) (hb : 0 ≤ b ∧ b < 24) (hc : 0 ≤ c ∧ c < 24) (hd : 0 ≤ d ∧ d < 24) : JOK I kl (f_aim I kl a b c d) := by
  refine ⟨fun x hx => f_aim_ne hx, ?_⟩
  have h1 := f_ratio_rg (a := c - a) (d := f_dvr (c - a) (d - b)) ⟨by omega, by omega⟩
  have h2 := f_ratio_rg (a := d - b) (d := f_dvr (c - a) (d - b)) ⟨by omega, by omega⟩
  have e : ∀ j, f_aim I kl a b c d kl j = if j = 7 then 0 else if j = 6 then 0 else if j = 0 then 0 else if j = 5 then b else if j = 4 then a else if j = 2 then f_ratio (d - b) (f_dvr (c - a) (d - b)) else if j = 1 then f_ratio (c - a) (f_dvr (c - a) (d - b)) else I kl j := by
    intro j
    unfold f_aim
    simp only [u2_eq]
  rw [e 4, e 5, e 1, e 2, e 0, e 6, e 7]
  simp only [Nat.reduceEqDiff, if_true, if_false]
  simp
  omega
theorem JOK_join {I0 I : Nat → Nat → Int} {kl : Nat} {sp t s : Int} (h : JOK I0 kl I) (hsp : 0 ≤ sp ∧ sp < 12) (ht : 0 ≤ t ∧ t < 24) (hs : 0 ≤ s ∧ s < 24) : JOK I0 kl (f_join I kl sp t s) := by
  obtain ⟨h0, h4, h5, h1, h2, hm, h6, h7⟩ := h
  have hst := f_steps_rg h4 h5 h1 h2 ht hs
  have hob := obit_rg hm hsp
  have e : ∀ j, f_join I kl sp t s kl j = if j = 7 then imax2 (I kl 7) (f_steps I kl t s) else if j = 6 then imin2 (I kl 6) (f_steps I kl t s) else if j = 0 then obit (I kl 0) sp else I kl j := by
    intro j
    unfold f_join f_jhi f_jlo
    simp only [u2_eq]
    simp
  refine ⟨fun x hx => ?_, ?_⟩
  · unfold f_join f_jhi f_jlo
    rw [u2_ne hx, u2_ne hx, u2_ne hx]
    exact h0 x hx
  · rw [e 4, e 5, e 1, e 2, e 0, e 6, e 7]
    simp only [Nat.reduceEqDiff, if_true, if_false]
    try simp
    unfold imax2 imin2
    refine ⟨h4, h5, h1, h2, hob, ?_, ?_⟩ <;> split <;> omega
theorem JOK_jn {I0 : Nat → Nat → Int} {k kl : Nat} {mq : Int} (hk4 : k + 4 ≠ kl) (hk5 : k + 5 ≠ kl) (ht : ∀ j : Nat, 0 ≤ I0 (k + 4) j ∧ I0 (k + 4) j < 24) (hs : ∀ j : Nat, 0 ≤ I0 (k + 5) j ∧ I0 (k + 5) j < 24) : ∀ (m i : Nat) (P : (Nat → Nat → Int) × (Nat → Nat → Int64)), i + m ≤ 12 → JOK I0 kl P.1 → JOK I0 kl (f_jn k kl mq m i P).1
  | 0, _, _, _, h => h
  | m + 1, i, P, hm, h => by
    unfold f_jn
    split
    · refine JOK_jn hk4 hk5 ht hs m (i + 1) _ (by omega) (JOK_join h ⟨by omega, by omega⟩ ?_ ?_)
      · rw [h.1 _ hk4]; exact ht i
      · rw [h.1 _ hk5]; exact hs i
    · exact JOK_jn hk4 hk5 ht hs m (i + 1) P (by omega) h
theorem s_X3_settingOf_in {l : Launch} {E : QE} {T : Nat → Nat × Nat} {I : Nat → Nat → Int} {J : Nat → Nat → Int64} {R : Nat → Nat → Option Nat} {n z : Nat} {k : Nat} (hk : StB T R n k) (i : Nat) (hi : i < 3) : SpV l E Y_X3_settingOf [.ref (E.1 + k), .int (iz (i : Int))] (T, I, J, R, n, z) (.int (iz (I (k + 2) i))) (T, I, J, R, n, z) := by
  have h := s_X3_settingOf (l := l) (E := E) (J := J) (I := I) (z := z) hk (i : Int) ⟨by omega, by omega⟩
  rw [if_pos (by omega)] at h
  exact h
