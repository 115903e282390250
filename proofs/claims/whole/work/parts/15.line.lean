/-! the methods of Line -/
/-- the largest divisor of both from d downwards; t if there is none above 1 -/
def cdl (a b t : Int) : Nat → Int
  | 0 => t
  | 1 => t
  | d + 2 => if a - a.tdiv ((d : Int) + 2) * ((d : Int) + 2) = 0 ∧ b - b.tdiv ((d : Int) + 2) * ((d : Int) + 2) = 0 then (d : Int) + 2 else cdl a b t (d + 1)
def imax (a b : Int) : Int := if a ≤ b then b else a
def f_cd (a b : Int) : Int := cdl a b (if imax a b ≤ 0 then 0 else 1) (imax a b).toNat
theorem tmod_rg (a d : Int) (ha : 0 ≤ a ∧ a < 2147483648) : -2147483648 ≤ a - a.tdiv d * d ∧ a - a.tdiv d * d < 2147483648 := by
  have h2 : a - a.tdiv d * d = a.tmod d := by rw [Int.tmod_def, Int.mul_comm]
  rw [h2]
  have h3 := Int.tmod_nonneg d ha.1
  have h4 : (a.tmod d) ≤ a := by
    have := Int.natAbs_tmod a d
    have h5 : a.natAbs % d.natAbs ≤ a.natAbs := Nat.mod_le _ _
    omega
  omega
set_option maxHeartbeats 2000000 in
set_option maxRecDepth 100000 in
theorem s_X1_commonDivisor_lp {l : Launch} {E : QE} {w : QW} (a b : Int) (ha : 0 ≤ a ∧ a < 2147483648) (hb : 0 ≤ b ∧ b < 2147483648) : ∀ (m d : Nat), d ≤ m + 1 → (d : Int) ≤ imax a b → Go l E Y_X1_commonDivisor 0 0 13 [some (.int (iz a)), some (.int (iz b)), some (.int (iz (imax a b))), some (.int (iz (d : Int)))] [] w (KV (.int (iz (cdl a b (if imax a b ≤ 0 then 0 else 1) d))) w) := by
  intro m
  induction m with
  | zero =>
    intro d hd hm
    have him : imax a b < 2147483648 := by unfold imax; split <;> omega
    have e : cdl a b (if imax a b ≤ 0 then 0 else 1) d = (if imax a b ≤ 0 then 0 else 1) := by
      rcases (show d = 0 ∨ d = 1 by omega) with rfl | rfl <;> rfl
    rw [e]
    refine g_iload3 (Y := Y_X1_commonDivisor) (pc' := 14) dX1_commonDivisor_13 rfl ?_
    refine g_iconst (Y := Y_X1_commonDivisor) (pc' := 15) dX1_commonDivisor_14 rfl ?_
    refine g_icmp_le (Y := Y_X1_commonDivisor) (t := 38) (pc' := 18) dX1_commonDivisor_15 (by decide) rfl ⟨by omega, by omega⟩ ⟨by omega, by omega⟩ (fun h15 => ?_) (fun h15 => ?_)
    · refine g_iload2 (Y := Y_X1_commonDivisor) (pc' := 39) dX1_commonDivisor_38 rfl ?_
      refine g_if_le (Y := Y_X1_commonDivisor) (t := 46) (pc' := 42) dX1_commonDivisor_39 (by decide) rfl ⟨by omega, by omega⟩ (fun h39 => ?_) (fun h39 => ?_)
      · refine g_iconst (Y := Y_X1_commonDivisor) (pc' := 47) dX1_commonDivisor_46 rfl ?_
        exact g_iret (Y := Y_X1_commonDivisor) dX1_commonDivisor_47 rfl (Nat.zero_le _) (Nat.zero_le _) (⟨vi (by first | omega | (split <;> omega)), rfl⟩)
      · refine g_iconst (Y := Y_X1_commonDivisor) (pc' := 43) dX1_commonDivisor_42 rfl ?_
        refine g_goto (Y := Y_X1_commonDivisor) (t := 47) dX1_commonDivisor_43 (by decide) ?_
        exact g_iret (Y := Y_X1_commonDivisor) dX1_commonDivisor_47 rfl (Nat.zero_le _) (Nat.zero_le _) (⟨vi (by first | omega | (split <;> omega)), rfl⟩)
    · exfalso; omega
  | succ m ih =>
    intro d hd hm
    have him : imax a b < 2147483648 := by unfold imax; split <;> omega
    by_cases hd2 : d ≤ m + 1
    · exact ih d hd2 hm
    obtain ⟨q, rfl⟩ : ∃ q, d = q + 2 := ⟨d - 2, by omega⟩
    have er : ((q + 2 : Nat) : Int) = (q : Int) + 2 := rfl
    rw [er] at hm ⊢
    refine g_iload3 (Y := Y_X1_commonDivisor) (pc' := 14) dX1_commonDivisor_13 rfl ?_
    refine g_iconst (Y := Y_X1_commonDivisor) (pc' := 15) dX1_commonDivisor_14 rfl ?_
    refine g_icmp_le (Y := Y_X1_commonDivisor) (t := 38) (pc' := 18) dX1_commonDivisor_15 (by decide) rfl ⟨by omega, by omega⟩ ⟨by omega, by omega⟩ (fun h15 => ?_) (fun h15 => ?_)
    · exfalso; omega
    · refine g_iload0 (Y := Y_X1_commonDivisor) (pc' := 19) dX1_commonDivisor_18 rfl ?_
      refine g_iload3 (Y := Y_X1_commonDivisor) (pc' := 20) dX1_commonDivisor_19 rfl ?_
      refine g_irem (Y := Y_X1_commonDivisor) (pc' := 21) dX1_commonDivisor_20 rfl ⟨by omega, by omega⟩ ⟨by omega, by omega⟩ (by omega) ?_
      refine g_if_ne (Y := Y_X1_commonDivisor) (t := 32) (pc' := 24) dX1_commonDivisor_21 (by decide) rfl (tmod_rg _ _ ha) (fun h21 => ?_) (fun h21 => ?_)
      · have e : cdl a b (if imax a b ≤ 0 then 0 else 1) (q + 2) = cdl a b (if imax a b ≤ 0 then 0 else 1) (q + 1) := if_neg (fun h => h21 h.1)
        rw [e]
        refine g_iinc3 (Y := Y_X1_commonDivisor) (pc' := 35) dX1_commonDivisor_32 rfl (Nat.le_of_ble_eq_true rfl) rfl ?_
        rw [show (q : Int) + 2 + -1 = ((q + 1 : Nat) : Int) by omega]
        refine g_goto (Y := Y_X1_commonDivisor) (t := 13) dX1_commonDivisor_35 (by decide) ?_
        exact ih (q + 1) (by omega) (by omega)
      · refine g_iload1 (Y := Y_X1_commonDivisor) (pc' := 25) dX1_commonDivisor_24 rfl ?_
        refine g_iload3 (Y := Y_X1_commonDivisor) (pc' := 26) dX1_commonDivisor_25 rfl ?_
        refine g_irem (Y := Y_X1_commonDivisor) (pc' := 27) dX1_commonDivisor_26 rfl ⟨by omega, by omega⟩ ⟨by omega, by omega⟩ (by omega) ?_
        refine g_if_ne (Y := Y_X1_commonDivisor) (t := 32) (pc' := 30) dX1_commonDivisor_27 (by decide) rfl (tmod_rg _ _ hb) (fun h27 => ?_) (fun h27 => ?_)
        · have e : cdl a b (if imax a b ≤ 0 then 0 else 1) (q + 2) = cdl a b (if imax a b ≤ 0 then 0 else 1) (q + 1) := if_neg (fun h => h27 h.2)
          rw [e]
          refine g_iinc3 (Y := Y_X1_commonDivisor) (pc' := 35) dX1_commonDivisor_32 rfl (Nat.le_of_ble_eq_true rfl) rfl ?_
          rw [show (q : Int) + 2 + -1 = ((q + 1 : Nat) : Int) by omega]
          refine g_goto (Y := Y_X1_commonDivisor) (t := 13) dX1_commonDivisor_35 (by decide) ?_
          exact ih (q + 1) (by omega) (by omega)
        · refine g_iload3 (Y := Y_X1_commonDivisor) (pc' := 31) dX1_commonDivisor_30 rfl ?_
          exact g_iret (Y := Y_X1_commonDivisor) dX1_commonDivisor_31 rfl (Nat.zero_le _) (Nat.zero_le _) (⟨by show _ = some (Value.int (iz (if _ then _ else _))); rw [if_pos ⟨h21, h27⟩], rfl⟩)
set_option maxHeartbeats 2000000 in
set_option maxRecDepth 100000 in
theorem s_X1_commonDivisor {l : Launch} {E : QE} {w : QW} (a b : Int) (ha : 0 ≤ a ∧ a < 2147483648) (hb : 0 ≤ b ∧ b < 2147483648) : SpV l E Y_X1_commonDivisor [.int (iz a), .int (iz b)] w (.int (iz (f_cd a b))) w := by
  have hc : ∀ m : Int, m = imax a b → Go l E Y_X1_commonDivisor 0 0 10 [some (.int (iz a)), some (.int (iz b)), none, none] [.int (iz m)] w (KV (.int (iz (f_cd a b))) w) := by
    rintro m rfl
    refine g_istore2 (Y := Y_X1_commonDivisor) (pc' := 11) dX1_commonDivisor_10 rfl (Nat.le_of_ble_eq_true rfl) rfl ?_
    refine g_iload2 (Y := Y_X1_commonDivisor) (pc' := 12) dX1_commonDivisor_11 rfl ?_
    refine g_istore3 (Y := Y_X1_commonDivisor) (pc' := 13) dX1_commonDivisor_12 rfl (Nat.le_of_ble_eq_true rfl) rfl ?_
    rw [show iz (imax a b) = iz (((imax a b).toNat : Nat) : Int) by rw [show (((imax a b).toNat : Nat) : Int) = imax a b by unfold imax; split <;> omega]]
    have e := s_X1_commonDivisor_lp (l := l) (E := E) (w := w) a b ha hb (imax a b).toNat (imax a b).toNat (by omega) (by unfold imax; split <;> omega)
    rw [show iz (imax a b) = iz (((imax a b).toNat : Nat) : Int) by rw [show (((imax a b).toNat : Nat) : Int) = imax a b by unfold imax; split <;> omega]] at e
    exact e
  refine Sp.of [some (.int (iz a)), some (.int (iz b)), none, none] (by decide +kernel) (Nat.le_of_ble_eq_true rfl) (fun _ h => h) ?_
  refine g_iload0 (Y := Y_X1_commonDivisor) (pc' := 1) dX1_commonDivisor_0 rfl ?_
  refine g_iload1 (Y := Y_X1_commonDivisor) (pc' := 2) dX1_commonDivisor_1 rfl ?_
  refine g_icmp_le (Y := Y_X1_commonDivisor) (t := 9) (pc' := 5) dX1_commonDivisor_2 (by decide) rfl ⟨by omega, by omega⟩ ⟨by omega, by omega⟩ (fun h2 => ?_) (fun h2 => ?_)
  · refine g_iload1 (Y := Y_X1_commonDivisor) (pc' := 10) dX1_commonDivisor_9 rfl ?_
    exact hc _ (by unfold imax; first | rw [if_pos (by omega)] | rw [if_neg (by omega)])
  · refine g_iload0 (Y := Y_X1_commonDivisor) (pc' := 6) dX1_commonDivisor_5 rfl ?_
    refine g_goto (Y := Y_X1_commonDivisor) (t := 10) dX1_commonDivisor_6 (by decide) ?_
    exact hc _ (by unfold imax; first | rw [if_pos (by omega)] | rw [if_neg (by omega)])
def f_ratio (a d : Int) : Int := if d = 0 then 0 else a.tdiv d
def f_back (tw sw : Int) : Int := if tw < 0 ∨ tw = 0 ∧ sw < 0 then 1 else 0
def iabs (a : Int) : Int := if 0 ≤ a then a else 0 - a
def f_dvr (tw sw : Int) : Int := if f_back tw sw = 0 then f_cd (iabs tw) (iabs sw) else -(f_cd (iabs tw) (iabs sw))
def f_aim (I : Nat → Nat → Int) (k : Nat) (ft fs tt ts : Int) : Nat → Nat → Int :=
  u2 (u2 (u2 (u2 (u2 (u2 (u2 I k 1 (f_ratio (tt - ft) (f_dvr (tt - ft) (ts - fs)))) k 2 (f_ratio (ts - fs) (f_dvr (tt - ft) (ts - fs)))) k 4 ft) k 5 fs) k 0 0) k 6 0) k 7 0
theorem cdl_rg (a b t M : Int) (ht : 0 ≤ t ∧ t ≤ M) : ∀ d : Nat, (d : Int) ≤ M → 0 ≤ cdl a b t d ∧ cdl a b t d ≤ M
  | 0, _ => ht
  | 1, _ => ht
  | d + 2, h => by
    unfold cdl
    split
    · omega
    · exact cdl_rg a b t M ht (d + 1) (by omega)
theorem f_cd_rg {a b : Int} (ha : 0 ≤ a ∧ a < 24) (hb : 0 ≤ b ∧ b < 24) : 0 ≤ f_cd a b ∧ f_cd a b < 24 := by
  have h := cdl_rg a b (if imax a b ≤ 0 then 0 else 1) 23 (by split <;> omega) (imax a b).toNat (by unfold imax; split <;> omega)
  unfold f_cd
  omega
def f_steps (I : Nat → Nat → Int) (k : Nat) (t s : Int) : Int := if I k 1 = 0 then f_ratio (s - I k 5) (I k 2) else (t - I k 4).tdiv (I k 1)
def jbit (b : Int64) (e : Int) : Int64 := b ||| ((1 : Int64) <<< ((iz e).toInt64 &&& 63))
def imin2 (a b : Int) : Int := if b < a then b else a
def imax2 (a b : Int) : Int := if a < b then b else a
def f_jlo (I : Nat → Nat → Int) (k : Nat) (st : Int) : Nat → Nat → Int := u2 I k 6 (imin2 (I k 6) st)
def f_jhi (I : Nat → Nat → Int) (k : Nat) (st : Int) : Nat → Nat → Int := u2 I k 7 (imax2 (I k 7) st)
def f_join (I : Nat → Nat → Int) (k : Nat) (sp t s : Int) : Nat → Nat → Int :=
  f_jhi (f_jlo (u2 I k 0 (obit (I k 0) sp)) k (f_steps I k t s)) k (f_steps I k t s)
def f_joinJ (I : Nat → Nat → Int) (J : Nat → Nat → Int64) (k : Nat) (t s : Int) : Nat → Nat → Int64 := u2 J k 8 (jbit (J k 8) (24 + f_steps I k t s))
def f_trk (I : Nat → Nat → Int) (k : Nat) (s : Int) : Int := I k 4 + s * I k 1
def f_sec (I : Nat → Nat → Int) (k : Nat) (s : Int) : Int := I k 5 + s * I k 2
def f_cellAt (I : Nat → Nat → Int) (k : Nat) (i : Int) : Int := f_trk I k (I k 6 + i) * 24 + f_sec I k (I k 6 + i)
def gbit (b : Int64) (e : Int) : Int64 := (b >>> ((iz e).toInt64 &&& 63)) &&& 1
/-- the widest gap from 'steps' on, m places -/
def gapL (b : Int64) : Nat → Int → Int → Int → Int
  | 0, _, _, wd => wd
  | m + 1, st, bf, wd => if gbit b (24 + st) = 1 then gapL b m (st + 1) st (imax2 wd (st - bf)) else gapL b m (st + 1) bf wd
def f_gap (I : Nat → Nat → Int) (J : Nat → Nat → Int64) (k : Nat) : Int := gapL (J k 8) (I k 7 - I k 6).toNat (I k 6 + 1) (I k 6) 0
abbrev inD (t s : Int) : Prop := (0 ≤ t ∧ t < 24) ∧ 0 ≤ s ∧ s < 24
def f_dn (I : Nat → Nat → Int) (k : Nat) : Nat → Nat → Nat → Int
  | 0 => I
  | m + 1 => if inD (f_trk I k (I k 6 - 1)) (f_sec I k (I k 6 - 1)) then f_dn (u2 I k 6 (I k 6 - 1)) k m else I
def f_up (I : Nat → Nat → Int) (k : Nat) : Nat → Nat → Nat → Int
  | 0 => I
  | m + 1 => if inD (f_trk I k (I k 7 + 1)) (f_sec I k (I k 7 + 1)) then f_up (u2 I k 7 (I k 7 + 1)) k m else I
def f_cnt (I : Nat → Nat → Int) (k : Nat) : Nat → Nat → Int := u2 I k 3 (I k 7 - I k 6 + 1)
def f_spread (I : Nat → Nat → Int) (k : Nat) (b : Int) : Nat → Nat → Int := f_cnt (f_up (f_dn I k b.toNat) k b.toNat) k
set_option maxHeartbeats 2000000 in
set_option maxRecDepth 100000 in
theorem s_X1_aim {l : Launch} {E : QE} {T : Nat → Nat × Nat} {I : Nat → Nat → Int} {J : Nat → Nat → Int64} {R : Nat → Nat → Option Nat} {n z : Nat} {k : Nat} (hk : LnB T n k) (ft fs tt ts : Int) (h1 : 0 ≤ ft ∧ ft < 24) (h2 : 0 ≤ fs ∧ fs < 24) (h3 : 0 ≤ tt ∧ tt < 24) (h4 : 0 ≤ ts ∧ ts < 24) : SpN l E Y_X1_aim [.ref (E.1 + k), .int (iz ft), .int (iz fs), .int (iz tt), .int (iz ts)] (T, I, J, R, n, z) (T, f_aim I k ft fs tt ts, u2 J k 8 0, R, n, z) := by
  obtain ⟨t0, hn⟩ := hk
  have ha1 : 0 ≤ iabs (tt - ft) ∧ iabs (tt - ft) < 24 := by unfold iabs; split <;> omega
  have ha2 : 0 ≤ iabs (ts - fs) ∧ iabs (ts - fs) < 24 := by unfold iabs; split <;> omega
  have hg := f_cd_rg ha1 ha2
  have hdv : -24 < f_dvr (tt - ft) (ts - fs) ∧ f_dvr (tt - ft) (ts - fs) < 24 := by unfold f_dvr; split <;> omega
  have hb2 : f_back (tt - ft) (ts - fs) = 0 ∨ f_back (tt - ft) (ts - fs) = 1 := by unfold f_back; split <;> simp
  have c96 : Go l E Y_X1_aim 0 0 96 [some (.ref (E.1 + k)), some (.int (iz ft)), some (.int (iz fs)), some (.int (iz tt)), some (.int (iz ts)), some (.int (iz (tt - ft))), some (.int (iz (ts - fs))), some (.int (iz (f_cd (iabs (tt - ft)) (iabs (ts - fs))))), some (.int (iz (f_back (tt - ft) (ts - fs)))), some (.int (iz (f_dvr (tt - ft) (ts - fs))))] [.int (iz (f_ratio (ts - fs) (f_dvr (tt - ft) (ts - fs)))), .ref (E.1 + k)] (T, u2 I k 1 (f_ratio (tt - ft) (f_dvr (tt - ft) (ts - fs))), J, R, n, z) (KN (T, f_aim I k ft fs tt ts, u2 J k 8 0, R, n, z)) := by
    refine g_putI (Y := Y_X1_aim) (pc' := 99) dX1_aim_96 rfl fp_X1_18 rfl (by assumption) (by omega) ?_
    refine g_aload0 (Y := Y_X1_aim) (pc' := 100) dX1_aim_99 rfl ?_
    refine g_iload1 (Y := Y_X1_aim) (pc' := 101) dX1_aim_100 rfl ?_
    refine g_putI (Y := Y_X1_aim) (pc' := 104) dX1_aim_101 rfl fp_X1_24 rfl (by assumption) (by omega) ?_
    refine g_aload0 (Y := Y_X1_aim) (pc' := 105) dX1_aim_104 rfl ?_
    refine g_iload2 (Y := Y_X1_aim) (pc' := 106) dX1_aim_105 rfl ?_
    refine g_putI (Y := Y_X1_aim) (pc' := 109) dX1_aim_106 rfl fp_X1_27 rfl (by assumption) (by omega) ?_
    refine g_aload0 (Y := Y_X1_aim) (pc' := 110) dX1_aim_109 rfl ?_
    refine g_iconst (Y := Y_X1_aim) (pc' := 111) dX1_aim_110 rfl ?_
    refine g_putI (Y := Y_X1_aim) (pc' := 114) dX1_aim_111 rfl fp_X1_9 rfl (by assumption) (by omega) ?_
    refine g_aload0 (Y := Y_X1_aim) (pc' := 115) dX1_aim_114 rfl ?_
    refine g_lconst (Y := Y_X1_aim) (v := 0) (pc' := 116) dX1_aim_115 rfl (by decide) ?_
    refine g_putJ (Y := Y_X1_aim) (pc' := 119) dX1_aim_116 rfl fp_X1_36 rfl (by assumption) (by omega) ?_
    refine g_aload0 (Y := Y_X1_aim) (pc' := 120) dX1_aim_119 rfl ?_
    refine g_iconst (Y := Y_X1_aim) (pc' := 121) dX1_aim_120 rfl ?_
    refine g_putI (Y := Y_X1_aim) (pc' := 124) dX1_aim_121 rfl fp_X1_30 rfl (by assumption) (by omega) ?_
    refine g_aload0 (Y := Y_X1_aim) (pc' := 125) dX1_aim_124 rfl ?_
    refine g_iconst (Y := Y_X1_aim) (pc' := 126) dX1_aim_125 rfl ?_
    refine g_putI (Y := Y_X1_aim) (pc' := 129) dX1_aim_126 rfl fp_X1_33 rfl (by assumption) (by omega) ?_
    exact g_vret (Y := Y_X1_aim) dX1_aim_129 rfl (Nat.zero_le _) (Nat.zero_le _) (⟨rfl, rfl⟩)
  have c78 : Go l E Y_X1_aim 0 0 78 [some (.ref (E.1 + k)), some (.int (iz ft)), some (.int (iz fs)), some (.int (iz tt)), some (.int (iz ts)), some (.int (iz (tt - ft))), some (.int (iz (ts - fs))), some (.int (iz (f_cd (iabs (tt - ft)) (iabs (ts - fs))))), some (.int (iz (f_back (tt - ft) (ts - fs)))), some (.int (iz (f_dvr (tt - ft) (ts - fs))))] [.int (iz (f_ratio (tt - ft) (f_dvr (tt - ft) (ts - fs)))), .ref (E.1 + k)] (T, I, J, R, n, z) (KN (T, f_aim I k ft fs tt ts, u2 J k 8 0, R, n, z)) := by
    refine g_putI (Y := Y_X1_aim) (pc' := 81) dX1_aim_78 rfl fp_X1_15 rfl (by assumption) (by omega) ?_
    refine g_aload0 (Y := Y_X1_aim) (pc' := 82) dX1_aim_81 rfl ?_
    refine g_iload9 (Y := Y_X1_aim) (pc' := 84) dX1_aim_82 rfl ?_
    refine g_if_eq (Y := Y_X1_aim) (t := 95) (pc' := 87) dX1_aim_84 (by decide) rfl ⟨by omega, by omega⟩ (fun h84 => ?_) (fun h84 => ?_)
    · have e9 : f_ratio (ts - fs) (f_dvr (tt - ft) (ts - fs)) = 0 := by unfold f_ratio; rw [if_pos h84]
      rw [e9] at c96
      refine g_iconst (Y := Y_X1_aim) (pc' := 96) dX1_aim_95 rfl ?_
      exact c96
    · have e9 : f_ratio (ts - fs) (f_dvr (tt - ft) (ts - fs)) = (ts - fs).tdiv (f_dvr (tt - ft) (ts - fs)) := by unfold f_ratio; rw [if_neg h84]
      rw [e9] at c96
      refine g_iload6 (Y := Y_X1_aim) (pc' := 89) dX1_aim_87 rfl ?_
      refine g_iload9 (Y := Y_X1_aim) (pc' := 91) dX1_aim_89 rfl ?_
      refine g_idiv (Y := Y_X1_aim) (pc' := 92) dX1_aim_91 rfl ⟨by omega, by omega⟩ ⟨by omega, by omega⟩ (by omega) ?_
      refine g_goto (Y := Y_X1_aim) (t := 96) dX1_aim_92 (by decide) ?_
      exact c96
  have c61 : Go l E Y_X1_aim 0 0 61 [some (.ref (E.1 + k)), some (.int (iz ft)), some (.int (iz fs)), some (.int (iz tt)), some (.int (iz ts)), some (.int (iz (tt - ft))), some (.int (iz (ts - fs))), some (.int (iz (f_cd (iabs (tt - ft)) (iabs (ts - fs))))), some (.int (iz (f_back (tt - ft) (ts - fs)))), none] [.int (iz (f_dvr (tt - ft) (ts - fs)))] (T, I, J, R, n, z) (KN (T, f_aim I k ft fs tt ts, u2 J k 8 0, R, n, z)) := by
    refine g_istore9 (Y := Y_X1_aim) (pc' := 63) dX1_aim_61 rfl (Nat.le_of_ble_eq_true rfl) rfl ?_
    refine g_aload0 (Y := Y_X1_aim) (pc' := 64) dX1_aim_63 rfl ?_
    refine g_iload9 (Y := Y_X1_aim) (pc' := 66) dX1_aim_64 rfl ?_
    refine g_if_eq (Y := Y_X1_aim) (t := 77) (pc' := 69) dX1_aim_66 (by decide) rfl ⟨by omega, by omega⟩ (fun h66 => ?_) (fun h66 => ?_)
    · have e9 : f_ratio (tt - ft) (f_dvr (tt - ft) (ts - fs)) = 0 := by unfold f_ratio; rw [if_pos h66]
      rw [e9] at c78
      refine g_iconst (Y := Y_X1_aim) (pc' := 78) dX1_aim_77 rfl ?_
      exact c78
    · have e9 : f_ratio (tt - ft) (f_dvr (tt - ft) (ts - fs)) = (tt - ft).tdiv (f_dvr (tt - ft) (ts - fs)) := by unfold f_ratio; rw [if_neg h66]
      rw [e9] at c78
      refine g_iload5 (Y := Y_X1_aim) (pc' := 71) dX1_aim_69 rfl ?_
      refine g_iload9 (Y := Y_X1_aim) (pc' := 73) dX1_aim_71 rfl ?_
      refine g_idiv (Y := Y_X1_aim) (pc' := 74) dX1_aim_73 rfl ⟨by omega, by omega⟩ ⟨by omega, by omega⟩ (by omega) ?_
      refine g_goto (Y := Y_X1_aim) (t := 78) dX1_aim_74 (by decide) ?_
      exact c78
  have c46 : Go l E Y_X1_aim 0 0 46 [some (.ref (E.1 + k)), some (.int (iz ft)), some (.int (iz fs)), some (.int (iz tt)), some (.int (iz ts)), some (.int (iz (tt - ft))), some (.int (iz (ts - fs))), some (.int (iz (f_cd (iabs (tt - ft)) (iabs (ts - fs))))), none, none] [.int (iz (f_back (tt - ft) (ts - fs)))] (T, I, J, R, n, z) (KN (T, f_aim I k ft fs tt ts, u2 J k 8 0, R, n, z)) := by
    refine g_istore8 (Y := Y_X1_aim) (pc' := 48) dX1_aim_46 rfl (Nat.le_of_ble_eq_true rfl) rfl ?_
    refine g_iload8 (Y := Y_X1_aim) (pc' := 50) dX1_aim_48 rfl ?_
    refine g_if_eq (Y := Y_X1_aim) (t := 59) (pc' := 53) dX1_aim_50 (by decide) rfl ⟨by omega, by omega⟩ (fun h50 => ?_) (fun h50 => ?_)
    · have e9 : (f_dvr (tt - ft) (ts - fs)) = (f_cd (iabs (tt - ft)) (iabs (ts - fs))) := by unfold f_dvr; rw [if_pos h50]
      rw [e9] at c61
      refine g_iload7 (Y := Y_X1_aim) (pc' := 61) dX1_aim_59 rfl ?_
      exact c61
    · have e9 : (f_dvr (tt - ft) (ts - fs)) = -(f_cd (iabs (tt - ft)) (iabs (ts - fs))) := by unfold f_dvr; rw [if_neg h50]
      rw [e9] at c61
      refine g_iload7 (Y := Y_X1_aim) (pc' := 55) dX1_aim_53 rfl ?_
      refine g_ineg (Y := Y_X1_aim) (pc' := 56) dX1_aim_55 rfl ?_
      refine g_goto (Y := Y_X1_aim) (t := 61) dX1_aim_56 (by decide) ?_
      exact c61
  refine Sp.of [some (.ref (E.1 + k)), some (.int (iz ft)), some (.int (iz fs)), some (.int (iz tt)), some (.int (iz ts)), none, none, none, none, none] (by decide +kernel) (Nat.le_of_ble_eq_true rfl) (fun _ h => h) ?_
  refine g_iload3 (Y := Y_X1_aim) (pc' := 1) dX1_aim_0 rfl ?_
  refine g_iload1 (Y := Y_X1_aim) (pc' := 2) dX1_aim_1 rfl ?_
  refine g_isub (Y := Y_X1_aim) (pc' := 3) dX1_aim_2 rfl ?_
  refine g_istore5 (Y := Y_X1_aim) (pc' := 5) dX1_aim_3 rfl (Nat.le_of_ble_eq_true rfl) rfl ?_
  refine g_iload4 (Y := Y_X1_aim) (pc' := 7) dX1_aim_5 rfl ?_
  refine g_iload2 (Y := Y_X1_aim) (pc' := 8) dX1_aim_7 rfl ?_
  refine g_isub (Y := Y_X1_aim) (pc' := 9) dX1_aim_8 rfl ?_
  refine g_istore6 (Y := Y_X1_aim) (pc' := 11) dX1_aim_9 rfl (Nat.le_of_ble_eq_true rfl) rfl ?_
  refine g_iload5 (Y := Y_X1_aim) (pc' := 13) dX1_aim_11 rfl ?_
  refine g_mabs (Y := Y_X1_aim) (pc' := 16) dX1_aim_13 rfl ⟨(q_w 452 (by decide +kernel) rfl), (q_w 453 (by decide +kernel) rfl), (q_w 15 (by decide +kernel) rfl), (q_w 454 (by decide +kernel) rfl)⟩ (Nat.le_of_ble_eq_true rfl) (Nat.le_of_ble_eq_true rfl) (Nat.zero_le _) (Nat.zero_le _) ⟨by omega, by omega⟩ rfl ?_
  refine g_iload6 (Y := Y_X1_aim) (pc' := 18) dX1_aim_16 rfl ?_
  refine g_mabs (Y := Y_X1_aim) (pc' := 21) dX1_aim_18 rfl ⟨(q_w 452 (by decide +kernel) rfl), (q_w 453 (by decide +kernel) rfl), (q_w 15 (by decide +kernel) rfl), (q_w 454 (by decide +kernel) rfl)⟩ (Nat.le_of_ble_eq_true rfl) (Nat.le_of_ble_eq_true rfl) (Nat.zero_le _) (Nat.zero_le _) ⟨by omega, by omega⟩ rfl ?_
  refine g_callSv (Y := Y_X1_aim) (s_X1_commonDivisor (iabs (tt - ft)) (iabs (ts - fs)) ⟨by omega, by omega⟩ ⟨by omega, by omega⟩) (pc' := 24) dX1_aim_21 rfl cv_X1_46 rfl rfl rfl rfl rfl ?_
  refine g_istore7 (Y := Y_X1_aim) (pc' := 26) dX1_aim_24 rfl (Nat.le_of_ble_eq_true rfl) rfl ?_
  refine g_iload5 (Y := Y_X1_aim) (pc' := 28) dX1_aim_26 rfl ?_
  refine g_if_lt (Y := Y_X1_aim) (t := 41) (pc' := 31) dX1_aim_28 (by decide) rfl ⟨by omega, by omega⟩ (fun h28 => ?_) (fun h28 => ?_)
  · refine g_iconst (Y := Y_X1_aim) (pc' := 42) dX1_aim_41 rfl ?_
    refine g_goto (Y := Y_X1_aim) (t := 46) dX1_aim_42 (by decide) ?_
    first
      | (have e8 : f_back (tt - ft) (ts - fs) = 1 := (by unfold f_back; rw [if_pos (by omega)]); rw [e8] at c46; exact c46)
      | (have e8 : f_back (tt - ft) (ts - fs) = 0 := (by unfold f_back; rw [if_neg (by omega)]); rw [e8] at c46; exact c46)
  · refine g_iload5 (Y := Y_X1_aim) (pc' := 33) dX1_aim_31 rfl ?_
    refine g_if_ne (Y := Y_X1_aim) (t := 45) (pc' := 36) dX1_aim_33 (by decide) rfl ⟨by omega, by omega⟩ (fun h33 => ?_) (fun h33 => ?_)
    · refine g_iconst (Y := Y_X1_aim) (pc' := 46) dX1_aim_45 rfl ?_
      first
        | (have e8 : f_back (tt - ft) (ts - fs) = 1 := (by unfold f_back; rw [if_pos (by omega)]); rw [e8] at c46; exact c46)
        | (have e8 : f_back (tt - ft) (ts - fs) = 0 := (by unfold f_back; rw [if_neg (by omega)]); rw [e8] at c46; exact c46)
    · refine g_iload6 (Y := Y_X1_aim) (pc' := 38) dX1_aim_36 rfl ?_
      refine g_if_ge (Y := Y_X1_aim) (t := 45) (pc' := 41) dX1_aim_38 (by decide) rfl ⟨by omega, by omega⟩ (fun h38 => ?_) (fun h38 => ?_)
      · refine g_iconst (Y := Y_X1_aim) (pc' := 46) dX1_aim_45 rfl ?_
        first
          | (have e8 : f_back (tt - ft) (ts - fs) = 1 := (by unfold f_back; rw [if_pos (by omega)]); rw [e8] at c46; exact c46)
          | (have e8 : f_back (tt - ft) (ts - fs) = 0 := (by unfold f_back; rw [if_neg (by omega)]); rw [e8] at c46; exact c46)
      · refine g_iconst (Y := Y_X1_aim) (pc' := 42) dX1_aim_41 rfl ?_
        refine g_goto (Y := Y_X1_aim) (t := 46) dX1_aim_42 (by decide) ?_
        first
          | (have e8 : f_back (tt - ft) (ts - fs) = 1 := (by unfold f_back; rw [if_pos (by omega)]); rw [e8] at c46; exact c46)
          | (have e8 : f_back (tt - ft) (ts - fs) = 0 := (by unfold f_back; rw [if_neg (by omega)]); rw [e8] at c46; exact c46)
set_option maxHeartbeats 2000000 in
set_option maxRecDepth 100000 in
theorem s_X1_trackAt {l : Launch} {E : QE} {T : Nat → Nat × Nat} {I : Nat → Nat → Int} {J : Nat → Nat → Int64} {R : Nat → Nat → Option Nat} {n z : Nat} {k : Nat} (hk : LnB T n k) (s : Int) : SpV l E Y_X1_trackAt [.ref (E.1 + k), .int (iz s)] (T, I, J, R, n, z) (.int (iz (f_trk I k s))) (T, I, J, R, n, z) := by
  obtain ⟨t0, hn⟩ := hk
  refine Sp.of [some (.ref (E.1 + k)), some (.int (iz s))] (by decide +kernel) (Nat.le_of_ble_eq_true rfl) (fun _ h => h) ?_
  refine g_aload0 (Y := Y_X1_trackAt) (pc' := 1) dX1_trackAt_0 rfl ?_
  refine g_getI (Y := Y_X1_trackAt) (pc' := 4) dX1_trackAt_1 rfl fl_X1_24 rfl (by assumption) (by omega) ?_
  refine g_iload1 (Y := Y_X1_trackAt) (pc' := 5) dX1_trackAt_4 rfl ?_
  refine g_aload0 (Y := Y_X1_trackAt) (pc' := 6) dX1_trackAt_5 rfl ?_
  refine g_getI (Y := Y_X1_trackAt) (pc' := 9) dX1_trackAt_6 rfl fl_X1_15 rfl (by assumption) (by omega) ?_
  refine g_imul (Y := Y_X1_trackAt) (pc' := 10) dX1_trackAt_9 rfl ?_
  refine g_iadd (Y := Y_X1_trackAt) (pc' := 11) dX1_trackAt_10 rfl ?_
  exact g_iret (Y := Y_X1_trackAt) dX1_trackAt_11 rfl (Nat.zero_le _) (Nat.zero_le _) (⟨rfl, rfl⟩)
set_option maxHeartbeats 2000000 in
set_option maxRecDepth 100000 in
theorem s_X1_sectorAt {l : Launch} {E : QE} {T : Nat → Nat × Nat} {I : Nat → Nat → Int} {J : Nat → Nat → Int64} {R : Nat → Nat → Option Nat} {n z : Nat} {k : Nat} (hk : LnB T n k) (s : Int) : SpV l E Y_X1_sectorAt [.ref (E.1 + k), .int (iz s)] (T, I, J, R, n, z) (.int (iz (f_sec I k s))) (T, I, J, R, n, z) := by
  obtain ⟨t0, hn⟩ := hk
  refine Sp.of [some (.ref (E.1 + k)), some (.int (iz s))] (by decide +kernel) (Nat.le_of_ble_eq_true rfl) (fun _ h => h) ?_
  refine g_aload0 (Y := Y_X1_sectorAt) (pc' := 1) dX1_sectorAt_0 rfl ?_
  refine g_getI (Y := Y_X1_sectorAt) (pc' := 4) dX1_sectorAt_1 rfl fl_X1_27 rfl (by assumption) (by omega) ?_
  refine g_iload1 (Y := Y_X1_sectorAt) (pc' := 5) dX1_sectorAt_4 rfl ?_
  refine g_aload0 (Y := Y_X1_sectorAt) (pc' := 6) dX1_sectorAt_5 rfl ?_
  refine g_getI (Y := Y_X1_sectorAt) (pc' := 9) dX1_sectorAt_6 rfl fl_X1_18 rfl (by assumption) (by omega) ?_
  refine g_imul (Y := Y_X1_sectorAt) (pc' := 10) dX1_sectorAt_9 rfl ?_
  refine g_iadd (Y := Y_X1_sectorAt) (pc' := 11) dX1_sectorAt_10 rfl ?_
  exact g_iret (Y := Y_X1_sectorAt) dX1_sectorAt_11 rfl (Nat.zero_le _) (Nat.zero_le _) (⟨rfl, rfl⟩)
set_option maxHeartbeats 2000000 in
set_option maxRecDepth 100000 in
theorem s_X1_cellAt {l : Launch} {E : QE} {T : Nat → Nat × Nat} {I : Nat → Nat → Int} {J : Nat → Nat → Int64} {R : Nat → Nat → Option Nat} {n z : Nat} {k : Nat} (hk : LnB T n k) (i : Int) : SpV l E Y_X1_cellAt [.ref (E.1 + k), .int (iz i)] (T, I, J, R, n, z) (.int (iz (f_cellAt I k i))) (T, I, J, R, n, z) := by
  obtain ⟨t0, hn⟩ := hk
  refine Sp.of [some (.ref (E.1 + k)), some (.int (iz i))] (by decide +kernel) (Nat.le_of_ble_eq_true rfl) (fun _ h => h) ?_
  refine g_aload0 (Y := Y_X1_cellAt) (pc' := 1) dX1_cellAt_0 rfl ?_
  refine g_aload0 (Y := Y_X1_cellAt) (pc' := 2) dX1_cellAt_1 rfl ?_
  refine g_getI (Y := Y_X1_cellAt) (pc' := 5) dX1_cellAt_2 rfl fl_X1_30 rfl (by assumption) (by omega) ?_
  refine g_iload1 (Y := Y_X1_cellAt) (pc' := 6) dX1_cellAt_5 rfl ?_
  refine g_iadd (Y := Y_X1_cellAt) (pc' := 7) dX1_cellAt_6 rfl ?_
  refine g_callVv (Y := Y_X1_cellAt) (c := 1) (s_X1_trackAt ⟨t0, hn⟩ _) (pc' := 10) dX1_cellAt_7 rfl cv_X1_59 rfl (by assumption) (by show _ < n; omega) ⟨by decide, _, rfl, rfl⟩ rfl rfl rfl rfl ?_
  refine g_bipush (Y := Y_X1_cellAt) (pc' := 12) dX1_cellAt_10 rfl (by decide) ?_
  refine g_imul (Y := Y_X1_cellAt) (pc' := 13) dX1_cellAt_12 rfl ?_
  refine g_aload0 (Y := Y_X1_cellAt) (pc' := 14) dX1_cellAt_13 rfl ?_
  refine g_aload0 (Y := Y_X1_cellAt) (pc' := 15) dX1_cellAt_14 rfl ?_
  refine g_getI (Y := Y_X1_cellAt) (pc' := 18) dX1_cellAt_15 rfl fl_X1_30 rfl (by assumption) (by omega) ?_
  refine g_iload1 (Y := Y_X1_cellAt) (pc' := 19) dX1_cellAt_18 rfl ?_
  refine g_iadd (Y := Y_X1_cellAt) (pc' := 20) dX1_cellAt_19 rfl ?_
  refine g_callVv (Y := Y_X1_cellAt) (c := 1) (s_X1_sectorAt ⟨t0, hn⟩ _) (pc' := 23) dX1_cellAt_20 rfl cv_X1_62 rfl (by assumption) (by show _ < n; omega) ⟨by decide, _, rfl, rfl⟩ rfl rfl rfl rfl ?_
  refine g_iadd (Y := Y_X1_cellAt) (pc' := 24) dX1_cellAt_23 rfl ?_
  exact g_iret (Y := Y_X1_cellAt) dX1_cellAt_24 rfl (Nat.zero_le _) (Nat.zero_le _) (⟨rfl, rfl⟩)
set_option maxHeartbeats 2000000 in
set_option maxRecDepth 100000 in
theorem s_X1_stepsTo {l : Launch} {E : QE} {T : Nat → Nat × Nat} {I : Nat → Nat → Int} {J : Nat → Nat → Int64} {R : Nat → Nat → Option Nat} {n z : Nat} {k : Nat} (hk : LnB T n k) (h4 : 0 ≤ I k 4 ∧ I k 4 < 24) (h5 : 0 ≤ I k 5 ∧ I k 5 < 24) (h1 : -24 < I k 1 ∧ I k 1 < 24) (h2 : -24 < I k 2 ∧ I k 2 < 24) (t s : Int) (ht : 0 ≤ t ∧ t < 24) (hs : 0 ≤ s ∧ s < 24) : SpV l E Y_X1_stepsTo [.ref (E.1 + k), .int (iz t), .int (iz s)] (T, I, J, R, n, z) (.int (iz (f_steps I k t s))) (T, I, J, R, n, z) := by
  obtain ⟨t0, hn⟩ := hk
  have h4i := h4
  unfold f_steps f_ratio
  refine Sp.of [some (.ref (E.1 + k)), some (.int (iz t)), some (.int (iz s))] (by decide +kernel) (Nat.le_of_ble_eq_true rfl) (fun _ h => h) ?_
  refine g_aload0 (Y := Y_X1_stepsTo) (pc' := 1) dX1_stepsTo_0 rfl ?_
  refine g_getI (Y := Y_X1_stepsTo) (pc' := 4) dX1_stepsTo_1 rfl fl_X1_15 rfl (by assumption) (by omega) ?_
  refine g_if_eq (Y := Y_X1_stepsTo) (t := 19) (pc' := 7) dX1_stepsTo_4 (by decide) rfl ⟨by omega, by omega⟩ (fun h4 => ?_) (fun h4 => ?_)
  · refine g_aload0 (Y := Y_X1_stepsTo) (pc' := 20) dX1_stepsTo_19 rfl ?_
    refine g_getI (Y := Y_X1_stepsTo) (pc' := 23) dX1_stepsTo_20 rfl fl_X1_18 rfl (by assumption) (by omega) ?_
    refine g_if_eq (Y := Y_X1_stepsTo) (t := 40) (pc' := 26) dX1_stepsTo_23 (by decide) rfl ⟨by omega, by omega⟩ (fun h23 => ?_) (fun h23 => ?_)
    · refine g_iconst (Y := Y_X1_stepsTo) (pc' := 41) dX1_stepsTo_40 rfl ?_
      exact g_iret (Y := Y_X1_stepsTo) dX1_stepsTo_41 rfl (Nat.zero_le _) (Nat.zero_le _) (⟨by first | rw [if_pos h4, if_neg h23] | rw [if_pos h4, if_pos h23], rfl⟩)
    · refine g_iload2 (Y := Y_X1_stepsTo) (pc' := 27) dX1_stepsTo_26 rfl ?_
      refine g_aload0 (Y := Y_X1_stepsTo) (pc' := 28) dX1_stepsTo_27 rfl ?_
      refine g_getI (Y := Y_X1_stepsTo) (pc' := 31) dX1_stepsTo_28 rfl fl_X1_27 rfl (by assumption) (by omega) ?_
      refine g_isub (Y := Y_X1_stepsTo) (pc' := 32) dX1_stepsTo_31 rfl ?_
      refine g_aload0 (Y := Y_X1_stepsTo) (pc' := 33) dX1_stepsTo_32 rfl ?_
      refine g_getI (Y := Y_X1_stepsTo) (pc' := 36) dX1_stepsTo_33 rfl fl_X1_18 rfl (by assumption) (by omega) ?_
      refine g_idiv (Y := Y_X1_stepsTo) (pc' := 37) dX1_stepsTo_36 rfl ⟨by omega, by omega⟩ ⟨by omega, by omega⟩ (by omega) ?_
      refine g_goto (Y := Y_X1_stepsTo) (t := 41) dX1_stepsTo_37 (by decide) ?_
      exact g_iret (Y := Y_X1_stepsTo) dX1_stepsTo_41 rfl (Nat.zero_le _) (Nat.zero_le _) (⟨by first | rw [if_pos h4, if_neg h23] | rw [if_pos h4, if_pos h23], rfl⟩)
  · refine g_iload1 (Y := Y_X1_stepsTo) (pc' := 8) dX1_stepsTo_7 rfl ?_
    refine g_aload0 (Y := Y_X1_stepsTo) (pc' := 9) dX1_stepsTo_8 rfl ?_
    refine g_getI (Y := Y_X1_stepsTo) (pc' := 12) dX1_stepsTo_9 rfl fl_X1_24 rfl (by assumption) (by omega) ?_
    refine g_isub (Y := Y_X1_stepsTo) (pc' := 13) dX1_stepsTo_12 rfl ?_
    refine g_aload0 (Y := Y_X1_stepsTo) (pc' := 14) dX1_stepsTo_13 rfl ?_
    refine g_getI (Y := Y_X1_stepsTo) (pc' := 17) dX1_stepsTo_14 rfl fl_X1_15 rfl (by assumption) (by omega) ?_
    refine g_idiv (Y := Y_X1_stepsTo) (pc' := 18) dX1_stepsTo_17 rfl ⟨by omega, by omega⟩ ⟨by omega, by omega⟩ (by omega) ?_
    exact g_iret (Y := Y_X1_stepsTo) dX1_stepsTo_18 rfl (Nat.zero_le _) (Nat.zero_le _) (⟨by rw [if_neg h4], rfl⟩)
