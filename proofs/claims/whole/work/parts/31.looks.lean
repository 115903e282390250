/-! ScratchMap: counts, a line's properties -/
theorem StV_s {I : Nat → Nat → Int} {k : Nat} (h : StV I k) : ∀ j : Nat, -2147483648 ≤ I (k + 1) j ∧ I (k + 1) j < 2147483648 := fun j => by have := h.2.1 j; omega
theorem StV_v {I : Nat → Nat → Int} {k : Nat} (h : StV I k) : ∀ j : Nat, -2147483648 ≤ I (k + 3) j ∧ I (k + 3) j < 2147483648 := fun j => by have := h.2.2.2.2.1 j; omega
theorem StV_p {I : Nat → Nat → Int} {k : Nat} (h : StV I k) : ∀ j : Nat, -2147483648 ≤ I (k + 4) j ∧ I (k + 4) j < 2147483648 := fun j => by have := h.2.2.2.2.2.1 j; omega
theorem StV_o {I : Nat → Nat → Int} {k : Nat} (h : StV I k) : ∀ j : Nat, -2147483648 ≤ I (k + 5) j ∧ I (k + 5) j < 2147483648 := fun j => by have := h.2.2.2.2.2.2 j; omega
theorem LmV_h {I : Nat → Nat → Int} {k : Nat} (h : LmV I k) : ∀ j : Nat, -2147483648 ≤ I (k + 2) j ∧ I (k + 2) j < 2147483648 := fun j => by have := h.2.2.1 j; omega
theorem LmV_b {I : Nat → Nat → Int} {k : Nat} (h : LmV I k) : ∀ j : Nat, I (k + 3) j = 0 ∨ I (k + 3) j = 1 := h.2.2.2.2.1
/-- the object's ints, their ranges -/
def XV (I : Nat → Nat → Int) : Prop := StV I 1 ∧ LmV I 7 ∧ LmV I 46 ∧ TxV I 36 ∧ StV I 40 ∧ (∀ i : Nat, i < 6 → StV I (74 + 6 * i)) ∧ (0 ≤ I 0 3 ∧ I 0 3 ≤ 6) ∧ LIN I 7 ∧ LIN I 46
def f_bwv (I : Nat → Nat → Int) : Int := cntL (fun b => decide (¬ I (1 + 3) b = -1)) 480 0 0
def f_bis (I : Nat → Nat → Int) : Int := cntL (fun c => decide (¬ I (1 + 5) c = -1)) 96 480 0
def f_fsp (I : Nat → Nat → Int) : Int := cntL (fun c => decide (¬ f_isGood I 7 c = 0) && decide (I (1 + 5) c = -1)) 96 480 0
def f_hol (I : Nat → Nat → Int) (k : Nat) (c : Int) : Int := if 0 ≤ c ∧ c < 576 then I (k + 5) c.toNat else -1
def f_tca (I : Nat → Nat → Int) (kl : Nat) : Int := cntL (fun i => decide (¬ f_isAv I 7 (f_cellAt I kl i) = 0) && decide (¬ f_hol I 1 (f_cellAt I kl i) = -1)) (I kl 3).toNat 0 0
def f_num (I : Nat → Nat → Int) : Nat → Int
  | 0 => I 1 5 | 1 => I 7 6 | 2 => I 7 7 | 3 => f_bwv I | 4 => f_bis I | 5 => f_bad I 1 7 | 6 => f_fsp I | 7 => I 1 6 | 8 => I 1 7 | _ => I 0 3
def f_lp (I : Nat → Nat → Int) (kl : Nat) : Nat → Int
  | 0 => I kl 0 | 1 => pcn (I kl 0) | 2 => I kl 3 | 3 => f_tca I kl | 4 => I kl 1 | _ => I kl 2 + 24
def f_fc (I : Nat → Nat → Int) : Nat → Int
  | 0 => I 46 6 | 1 => I 46 7 | 2 => I 40 6 - I 1 6 | _ => f_bad I 40 46
set_option maxHeartbeats 2000000 in
set_option maxRecDepth 100000 in
theorem s_X4_blocksWithValues_lp {l : Launch} {E : QE} {T : Nat → Nat × Nat} {I : Nat → Nat → Int} {J : Nat → Nat → Int64} {R : Nat → Nat → Option Nat} {n z : Nat} (hk : ScB T R n) (hv : XV I) : ∀ (m i : Nat) (a : Int), i + m = 480 → 0 ≤ i → Go l E Y_X4_blocksWithValues 0 0 4 [some (.ref (E.1 + 0)), some (.int (iz a)), some (.int (iz (i : Int)))] [] (T, I, J, R, n, z) (KV (.int (iz (cntL (fun b => decide (¬ I (1 + 3) b = -1)) m i a))) (T, I, J, R, n, z)) := by
  obtain ⟨a0, a1, a2, a3, a4, a5, a6, a7, a8, a9, a10, a11, a12, a13, a14, a15, a16⟩ := hk
  have b8 := a8.1
  have b9 := a9.1
  have b10 := a10.1
  have b11 := a11.1
  have b12 := a12.1
  obtain ⟨x1, x7, x46, x36, x40, x74, x3, xl, xl2⟩ := id hv
  intro m
  induction m with
  | zero =>
    intro i a hm hi0
    refine g_iload2 (Y := Y_X4_blocksWithValues) (pc' := 5) dX4_blocksWithValues_4 rfl ?_
    refine g_sipush (Y := Y_X4_blocksWithValues) (pc' := 8) dX4_blocksWithValues_5 rfl (by decide) ?_
    refine g_icmp_ge (Y := Y_X4_blocksWithValues) (t := 32) (pc' := 11) dX4_blocksWithValues_8 (by decide) rfl ⟨by omega, by omega⟩ ⟨by omega, by omega⟩ (fun h8 => ?_) (fun h8 => ?_)
    · refine g_iload1 (Y := Y_X4_blocksWithValues) (pc' := 33) dX4_blocksWithValues_32 rfl ?_
      exact g_iret (Y := Y_X4_blocksWithValues) dX4_blocksWithValues_33 rfl (Nat.zero_le _) (Nat.zero_le _) (⟨rfl, rfl⟩)
    · exfalso; omega
  | succ m ih =>
    intro i a hm hi0
    refine g_iload2 (Y := Y_X4_blocksWithValues) (pc' := 5) dX4_blocksWithValues_4 rfl ?_
    refine g_sipush (Y := Y_X4_blocksWithValues) (pc' := 8) dX4_blocksWithValues_5 rfl (by decide) ?_
    refine g_icmp_ge (Y := Y_X4_blocksWithValues) (t := 32) (pc' := 11) dX4_blocksWithValues_8 (by decide) rfl ⟨by omega, by omega⟩ ⟨by omega, by omega⟩ (fun h8 => ?_) (fun h8 => ?_)
    · exfalso; omega
    · refine g_aload0 (Y := Y_X4_blocksWithValues) (pc' := 12) dX4_blocksWithValues_11 rfl ?_
      refine g_getR (Y := Y_X4_blocksWithValues) (pc' := 15) dX4_blocksWithValues_12 rfl fl_X4_10 rfl (by assumption) (by omega) (by assumption) ?_
      refine g_iload2 (Y := Y_X4_blocksWithValues) (pc' := 16) dX4_blocksWithValues_15 rfl ?_
      refine g_callVv (Y := Y_X4_blocksWithValues) (c := 3) (s_X3_valueOf_in a8 i (by omega)) (pc' := 19) dX4_blocksWithValues_16 rfl cv_X4_83 rfl (by assumption) (by show _ < n; omega) ⟨by decide, _, rfl, rfl⟩ rfl rfl rfl rfl ?_
      refine g_iconst (Y := Y_X4_blocksWithValues) (pc' := 20) dX4_blocksWithValues_19 rfl ?_
      refine g_icmp_eq (Y := Y_X4_blocksWithValues) (t := 26) (pc' := 23) dX4_blocksWithValues_20 (by decide) rfl (StV_v x1 i) ⟨by omega, by omega⟩ (fun h20 => ?_) (fun h20 => ?_)
      · have e : cntL (fun b => decide (¬ I (1 + 3) b = -1)) (m + 1) i a = cntL (fun b => decide (¬ I (1 + 3) b = -1)) m (i + 1) a := if_neg (by simp [h20])
        rw [e]
        refine g_iinc2 (Y := Y_X4_blocksWithValues) (pc' := 29) dX4_blocksWithValues_26 rfl (Nat.le_of_ble_eq_true rfl) rfl ?_
        refine g_goto (Y := Y_X4_blocksWithValues) (t := 4) dX4_blocksWithValues_29 (by decide) ?_
        exact ih (i + 1) _ (by omega) (by omega)
      · have e : cntL (fun b => decide (¬ I (1 + 3) b = -1)) (m + 1) i a = cntL (fun b => decide (¬ I (1 + 3) b = -1)) m (i + 1) (a + 1) := if_pos (by simp [h20])
        rw [e]
        refine g_iinc1 (Y := Y_X4_blocksWithValues) (pc' := 26) dX4_blocksWithValues_23 rfl (Nat.le_of_ble_eq_true rfl) rfl ?_
        refine g_iinc2 (Y := Y_X4_blocksWithValues) (pc' := 29) dX4_blocksWithValues_26 rfl (Nat.le_of_ble_eq_true rfl) rfl ?_
        refine g_goto (Y := Y_X4_blocksWithValues) (t := 4) dX4_blocksWithValues_29 (by decide) ?_
        exact ih (i + 1) _ (by omega) (by omega)
set_option maxHeartbeats 2000000 in
set_option maxRecDepth 100000 in
theorem s_X4_blocksWithValues {l : Launch} {E : QE} {T : Nat → Nat × Nat} {I : Nat → Nat → Int} {J : Nat → Nat → Int64} {R : Nat → Nat → Option Nat} {n z : Nat} (hk : ScB T R n) (hv : XV I)  : SpV l E Y_X4_blocksWithValues [.ref (E.1 + 0)] (T, I, J, R, n, z) (.int (iz (f_bwv I))) (T, I, J, R, n, z) := by
  have hk0 := hk
  obtain ⟨a0, a1, a2, a3, a4, a5, a6, a7, a8, a9, a10, a11, a12, a13, a14, a15, a16⟩ := hk
  have b8 := a8.1
  have b9 := a9.1
  have b10 := a10.1
  have b11 := a11.1
  have b12 := a12.1
  refine Sp.of [some (.ref (E.1 + 0)), none, none] (by decide +kernel) (Nat.le_of_ble_eq_true rfl) (fun _ h => h) ?_
  refine g_iconst (Y := Y_X4_blocksWithValues) (pc' := 1) dX4_blocksWithValues_0 rfl ?_
  refine g_istore1 (Y := Y_X4_blocksWithValues) (pc' := 2) dX4_blocksWithValues_1 rfl (Nat.le_of_ble_eq_true rfl) rfl ?_
  refine g_iconst (Y := Y_X4_blocksWithValues) (pc' := 3) dX4_blocksWithValues_2 rfl ?_
  refine g_istore2 (Y := Y_X4_blocksWithValues) (pc' := 4) dX4_blocksWithValues_3 rfl (Nat.le_of_ble_eq_true rfl) rfl ?_
  exact s_X4_blocksWithValues_lp hk0 hv 480 0 0 rfl (by omega)
set_option maxHeartbeats 2000000 in
set_option maxRecDepth 100000 in
theorem s_X4_blocksInSpares_lp {l : Launch} {E : QE} {T : Nat → Nat × Nat} {I : Nat → Nat → Int} {J : Nat → Nat → Int64} {R : Nat → Nat → Option Nat} {n z : Nat} (hk : ScB T R n) (hv : XV I) : ∀ (m i : Nat) (a : Int), i + m = 576 → 480 ≤ i → Go l E Y_X4_blocksInSpares 0 0 6 [some (.ref (E.1 + 0)), some (.int (iz a)), some (.int (iz (i : Int)))] [] (T, I, J, R, n, z) (KV (.int (iz (cntL (fun c => decide (¬ I (1 + 5) c = -1)) m i a))) (T, I, J, R, n, z)) := by
  obtain ⟨a0, a1, a2, a3, a4, a5, a6, a7, a8, a9, a10, a11, a12, a13, a14, a15, a16⟩ := hk
  have b8 := a8.1
  have b9 := a9.1
  have b10 := a10.1
  have b11 := a11.1
  have b12 := a12.1
  obtain ⟨x1, x7, x46, x36, x40, x74, x3, xl, xl2⟩ := id hv
  intro m
  induction m with
  | zero =>
    intro i a hm hi0
    refine g_iload2 (Y := Y_X4_blocksInSpares) (pc' := 7) dX4_blocksInSpares_6 rfl ?_
    refine g_sipush (Y := Y_X4_blocksInSpares) (pc' := 10) dX4_blocksInSpares_7 rfl (by decide) ?_
    refine g_icmp_ge (Y := Y_X4_blocksInSpares) (t := 34) (pc' := 13) dX4_blocksInSpares_10 (by decide) rfl ⟨by omega, by omega⟩ ⟨by omega, by omega⟩ (fun h10 => ?_) (fun h10 => ?_)
    · refine g_iload1 (Y := Y_X4_blocksInSpares) (pc' := 35) dX4_blocksInSpares_34 rfl ?_
      exact g_iret (Y := Y_X4_blocksInSpares) dX4_blocksInSpares_35 rfl (Nat.zero_le _) (Nat.zero_le _) (⟨rfl, rfl⟩)
    · exfalso; omega
  | succ m ih =>
    intro i a hm hi0
    refine g_iload2 (Y := Y_X4_blocksInSpares) (pc' := 7) dX4_blocksInSpares_6 rfl ?_
    refine g_sipush (Y := Y_X4_blocksInSpares) (pc' := 10) dX4_blocksInSpares_7 rfl (by decide) ?_
    refine g_icmp_ge (Y := Y_X4_blocksInSpares) (t := 34) (pc' := 13) dX4_blocksInSpares_10 (by decide) rfl ⟨by omega, by omega⟩ ⟨by omega, by omega⟩ (fun h10 => ?_) (fun h10 => ?_)
    · exfalso; omega
    · refine g_aload0 (Y := Y_X4_blocksInSpares) (pc' := 14) dX4_blocksInSpares_13 rfl ?_
      refine g_getR (Y := Y_X4_blocksInSpares) (pc' := 17) dX4_blocksInSpares_14 rfl fl_X4_10 rfl (by assumption) (by omega) (by assumption) ?_
      refine g_iload2 (Y := Y_X4_blocksInSpares) (pc' := 18) dX4_blocksInSpares_17 rfl ?_
      refine g_callVv (Y := Y_X4_blocksInSpares) (c := 3) (s_X3_holderOf_in a8 i (by omega)) (pc' := 21) dX4_blocksInSpares_18 rfl cv_X4_194 rfl (by assumption) (by show _ < n; omega) ⟨by decide, _, rfl, rfl⟩ rfl rfl rfl rfl ?_
      refine g_iconst (Y := Y_X4_blocksInSpares) (pc' := 22) dX4_blocksInSpares_21 rfl ?_
      refine g_icmp_eq (Y := Y_X4_blocksInSpares) (t := 28) (pc' := 25) dX4_blocksInSpares_22 (by decide) rfl (StV_o x1 i) ⟨by omega, by omega⟩ (fun h22 => ?_) (fun h22 => ?_)
      · have e : cntL (fun c => decide (¬ I (1 + 5) c = -1)) (m + 1) i a = cntL (fun c => decide (¬ I (1 + 5) c = -1)) m (i + 1) a := if_neg (by simp [h22])
        rw [e]
        refine g_iinc2 (Y := Y_X4_blocksInSpares) (pc' := 31) dX4_blocksInSpares_28 rfl (Nat.le_of_ble_eq_true rfl) rfl ?_
        refine g_goto (Y := Y_X4_blocksInSpares) (t := 6) dX4_blocksInSpares_31 (by decide) ?_
        exact ih (i + 1) _ (by omega) (by omega)
      · have e : cntL (fun c => decide (¬ I (1 + 5) c = -1)) (m + 1) i a = cntL (fun c => decide (¬ I (1 + 5) c = -1)) m (i + 1) (a + 1) := if_pos (by simp [h22])
        rw [e]
        refine g_iinc1 (Y := Y_X4_blocksInSpares) (pc' := 28) dX4_blocksInSpares_25 rfl (Nat.le_of_ble_eq_true rfl) rfl ?_
        refine g_iinc2 (Y := Y_X4_blocksInSpares) (pc' := 31) dX4_blocksInSpares_28 rfl (Nat.le_of_ble_eq_true rfl) rfl ?_
        refine g_goto (Y := Y_X4_blocksInSpares) (t := 6) dX4_blocksInSpares_31 (by decide) ?_
        exact ih (i + 1) _ (by omega) (by omega)
set_option maxHeartbeats 2000000 in
set_option maxRecDepth 100000 in
theorem s_X4_blocksInSpares {l : Launch} {E : QE} {T : Nat → Nat × Nat} {I : Nat → Nat → Int} {J : Nat → Nat → Int64} {R : Nat → Nat → Option Nat} {n z : Nat} (hk : ScB T R n) (hv : XV I)  : SpV l E Y_X4_blocksInSpares [.ref (E.1 + 0)] (T, I, J, R, n, z) (.int (iz (f_bis I))) (T, I, J, R, n, z) := by
  have hk0 := hk
  obtain ⟨a0, a1, a2, a3, a4, a5, a6, a7, a8, a9, a10, a11, a12, a13, a14, a15, a16⟩ := hk
  have b8 := a8.1
  have b9 := a9.1
  have b10 := a10.1
  have b11 := a11.1
  have b12 := a12.1
  refine Sp.of [some (.ref (E.1 + 0)), none, none] (by decide +kernel) (Nat.le_of_ble_eq_true rfl) (fun _ h => h) ?_
  refine g_iconst (Y := Y_X4_blocksInSpares) (pc' := 1) dX4_blocksInSpares_0 rfl ?_
  refine g_istore1 (Y := Y_X4_blocksInSpares) (pc' := 2) dX4_blocksInSpares_1 rfl (Nat.le_of_ble_eq_true rfl) rfl ?_
  refine g_sipush (Y := Y_X4_blocksInSpares) (pc' := 5) dX4_blocksInSpares_2 rfl (by decide) ?_
  refine g_istore2 (Y := Y_X4_blocksInSpares) (pc' := 6) dX4_blocksInSpares_5 rfl (Nat.le_of_ble_eq_true rfl) rfl ?_
  exact s_X4_blocksInSpares_lp hk0 hv 96 480 0 rfl (by omega)
set_option maxHeartbeats 2000000 in
set_option maxRecDepth 100000 in
theorem s_X4_freeSpares_lp {l : Launch} {E : QE} {T : Nat → Nat × Nat} {I : Nat → Nat → Int} {J : Nat → Nat → Int64} {R : Nat → Nat → Option Nat} {n z : Nat} (hk : ScB T R n) (hv : XV I) : ∀ (m i : Nat) (a : Int), i + m = 576 → 480 ≤ i → Go l E Y_X4_freeSpares 0 0 6 [some (.ref (E.1 + 0)), some (.int (iz a)), some (.int (iz (i : Int)))] [] (T, I, J, R, n, z) (KV (.int (iz (cntL (fun c => decide (¬ f_isGood I 7 c = 0) && decide (I (1 + 5) c = -1)) m i a))) (T, I, J, R, n, z)) := by
  obtain ⟨a0, a1, a2, a3, a4, a5, a6, a7, a8, a9, a10, a11, a12, a13, a14, a15, a16⟩ := hk
  have b8 := a8.1
  have b9 := a9.1
  have b10 := a10.1
  have b11 := a11.1
  have b12 := a12.1
  obtain ⟨x1, x7, x46, x36, x40, x74, x3, xl, xl2⟩ := id hv
  intro m
  induction m with
  | zero =>
    intro i a hm hi0
    refine g_iload2 (Y := Y_X4_freeSpares) (pc' := 7) dX4_freeSpares_6 rfl ?_
    refine g_sipush (Y := Y_X4_freeSpares) (pc' := 10) dX4_freeSpares_7 rfl (by decide) ?_
    refine g_icmp_ge (Y := Y_X4_freeSpares) (t := 45) (pc' := 13) dX4_freeSpares_10 (by decide) rfl ⟨by omega, by omega⟩ ⟨by omega, by omega⟩ (fun h10 => ?_) (fun h10 => ?_)
    · refine g_iload1 (Y := Y_X4_freeSpares) (pc' := 46) dX4_freeSpares_45 rfl ?_
      exact g_iret (Y := Y_X4_freeSpares) dX4_freeSpares_46 rfl (Nat.zero_le _) (Nat.zero_le _) (⟨rfl, rfl⟩)
    · exfalso; omega
  | succ m ih =>
    intro i a hm hi0
    have hg01 : f_isGood I 7 i = 0 ∨ f_isGood I 7 i = 1 := f_good01
    refine g_iload2 (Y := Y_X4_freeSpares) (pc' := 7) dX4_freeSpares_6 rfl ?_
    refine g_sipush (Y := Y_X4_freeSpares) (pc' := 10) dX4_freeSpares_7 rfl (by decide) ?_
    refine g_icmp_ge (Y := Y_X4_freeSpares) (t := 45) (pc' := 13) dX4_freeSpares_10 (by decide) rfl ⟨by omega, by omega⟩ ⟨by omega, by omega⟩ (fun h10 => ?_) (fun h10 => ?_)
    · exfalso; omega
    · refine g_aload0 (Y := Y_X4_freeSpares) (pc' := 14) dX4_freeSpares_13 rfl ?_
      refine g_getR (Y := Y_X4_freeSpares) (pc' := 17) dX4_freeSpares_14 rfl fl_X4_19 rfl (by assumption) (by omega) (by assumption) ?_
      refine g_iload2 (Y := Y_X4_freeSpares) (pc' := 18) dX4_freeSpares_17 rfl ?_
      refine g_callVv (Y := Y_X4_freeSpares) (c := 2) (s_X2_isGood a9 (i : Int) ⟨by omega, by omega⟩ (LmV_b x7) (LmV_h x7)) (pc' := 21) dX4_freeSpares_18 rfl cv_X4_285 rfl (by assumption) (by show _ < n; omega) ⟨by decide, _, rfl, rfl⟩ rfl rfl rfl rfl ?_
      refine g_if_eq (Y := Y_X4_freeSpares) (t := 39) (pc' := 24) dX4_freeSpares_21 (by decide) rfl ⟨by omega, by omega⟩ (fun h21 => ?_) (fun h21 => ?_)
      · have e : cntL (fun c => decide (¬ f_isGood I 7 c = 0) && decide (I (1 + 5) c = -1)) (m + 1) i a = cntL (fun c => decide (¬ f_isGood I 7 c = 0) && decide (I (1 + 5) c = -1)) m (i + 1) a := if_neg (by simp [h21])
        rw [e]
        refine g_iinc2 (Y := Y_X4_freeSpares) (pc' := 42) dX4_freeSpares_39 rfl (Nat.le_of_ble_eq_true rfl) rfl ?_
        refine g_goto (Y := Y_X4_freeSpares) (t := 6) dX4_freeSpares_42 (by decide) ?_
        exact ih (i + 1) _ (by omega) (by omega)
      · refine g_aload0 (Y := Y_X4_freeSpares) (pc' := 25) dX4_freeSpares_24 rfl ?_
        refine g_getR (Y := Y_X4_freeSpares) (pc' := 28) dX4_freeSpares_25 rfl fl_X4_10 rfl (by assumption) (by omega) (by assumption) ?_
        refine g_iload2 (Y := Y_X4_freeSpares) (pc' := 29) dX4_freeSpares_28 rfl ?_
        refine g_callVv (Y := Y_X4_freeSpares) (c := 3) (s_X3_holderOf_in a8 i (by omega)) (pc' := 32) dX4_freeSpares_29 rfl cv_X4_194 rfl (by assumption) (by show _ < n; omega) ⟨by decide, _, rfl, rfl⟩ rfl rfl rfl rfl ?_
        refine g_iconst (Y := Y_X4_freeSpares) (pc' := 33) dX4_freeSpares_32 rfl ?_
        refine g_icmp_ne (Y := Y_X4_freeSpares) (t := 39) (pc' := 36) dX4_freeSpares_33 (by decide) rfl (StV_o x1 i) ⟨by omega, by omega⟩ (fun h33 => ?_) (fun h33 => ?_)
        · have e : cntL (fun c => decide (¬ f_isGood I 7 c = 0) && decide (I (1 + 5) c = -1)) (m + 1) i a = cntL (fun c => decide (¬ f_isGood I 7 c = 0) && decide (I (1 + 5) c = -1)) m (i + 1) a := if_neg (by simp [h33])
          rw [e]
          refine g_iinc2 (Y := Y_X4_freeSpares) (pc' := 42) dX4_freeSpares_39 rfl (Nat.le_of_ble_eq_true rfl) rfl ?_
          refine g_goto (Y := Y_X4_freeSpares) (t := 6) dX4_freeSpares_42 (by decide) ?_
          exact ih (i + 1) _ (by omega) (by omega)
        · have e : cntL (fun c => decide (¬ f_isGood I 7 c = 0) && decide (I (1 + 5) c = -1)) (m + 1) i a = cntL (fun c => decide (¬ f_isGood I 7 c = 0) && decide (I (1 + 5) c = -1)) m (i + 1) (a + 1) := if_pos (by simp [h21, h33])
          rw [e]
          refine g_iinc1 (Y := Y_X4_freeSpares) (pc' := 39) dX4_freeSpares_36 rfl (Nat.le_of_ble_eq_true rfl) rfl ?_
          refine g_iinc2 (Y := Y_X4_freeSpares) (pc' := 42) dX4_freeSpares_39 rfl (Nat.le_of_ble_eq_true rfl) rfl ?_
          refine g_goto (Y := Y_X4_freeSpares) (t := 6) dX4_freeSpares_42 (by decide) ?_
          exact ih (i + 1) _ (by omega) (by omega)
set_option maxHeartbeats 2000000 in
set_option maxRecDepth 100000 in
theorem s_X4_freeSpares {l : Launch} {E : QE} {T : Nat → Nat × Nat} {I : Nat → Nat → Int} {J : Nat → Nat → Int64} {R : Nat → Nat → Option Nat} {n z : Nat} (hk : ScB T R n) (hv : XV I)  : SpV l E Y_X4_freeSpares [.ref (E.1 + 0)] (T, I, J, R, n, z) (.int (iz (f_fsp I))) (T, I, J, R, n, z) := by
  have hk0 := hk
  obtain ⟨a0, a1, a2, a3, a4, a5, a6, a7, a8, a9, a10, a11, a12, a13, a14, a15, a16⟩ := hk
  have b8 := a8.1
  have b9 := a9.1
  have b10 := a10.1
  have b11 := a11.1
  have b12 := a12.1
  refine Sp.of [some (.ref (E.1 + 0)), none, none] (by decide +kernel) (Nat.le_of_ble_eq_true rfl) (fun _ h => h) ?_
  refine g_iconst (Y := Y_X4_freeSpares) (pc' := 1) dX4_freeSpares_0 rfl ?_
  refine g_istore1 (Y := Y_X4_freeSpares) (pc' := 2) dX4_freeSpares_1 rfl (Nat.le_of_ble_eq_true rfl) rfl ?_
  refine g_sipush (Y := Y_X4_freeSpares) (pc' := 5) dX4_freeSpares_2 rfl (by decide) ?_
  refine g_istore2 (Y := Y_X4_freeSpares) (pc' := 6) dX4_freeSpares_5 rfl (Nat.le_of_ble_eq_true rfl) rfl ?_
  exact s_X4_freeSpares_lp hk0 hv 96 480 0 rfl (by omega)
set_option maxHeartbeats 2000000 in
set_option maxRecDepth 100000 in
theorem s_X4_numberOf {l : Launch} {E : QE} {T : Nat → Nat × Nat} {I : Nat → Nat → Int} {J : Nat → Nat → Int64} {R : Nat → Nat → Option Nat} {n z : Nat} (hk : ScB T R n) (hv : XV I) (w : Nat) (hw : w < 10) : SpV l E Y_X4_numberOf [.ref (E.1 + 0), .int (iz (w : Int))] (T, I, J, R, n, z) (.int (iz (f_num I w))) (T, I, J, R, n, z) := by
  have hk0 := hk
  obtain ⟨a0, a1, a2, a3, a4, a5, a6, a7, a8, a9, a10, a11, a12, a13, a14, a15, a16⟩ := hk
  have b8 := a8.1
  have b9 := a9.1
  have b10 := a10.1
  have b11 := a11.1
  have b12 := a12.1
  obtain ⟨x1, x7, x46, x36, x40, x74, x3, xl, xl2⟩ := id hv
  refine Sp.of [some (.ref (E.1 + 0)), some (.int (iz (w : Int)))] (by decide +kernel) (Nat.le_of_ble_eq_true rfl) (fun _ h => h) ?_
  refine g_iload1 (Y := Y_X4_numberOf) (pc' := 1) dX4_numberOf_0 rfl ?_
  rcases (show w = 0 ∨ w = 1 ∨ w = 2 ∨ w = 3 ∨ w = 4 ∨ w = 5 ∨ w = 6 ∨ w = 7 ∨ w = 8 ∨ w = 9 by omega) with rfl | rfl | rfl | rfl | rfl | rfl | rfl | rfl | rfl | rfl
  · refine g_tswIn (Y := Y_X4_numberOf) (t := 52) (off := 51) dX4_numberOf_1 ⟨by decide, by decide⟩ (by decide) (by decide) rfl (by decide) ?_
    refine g_aload0 (Y := Y_X4_numberOf) (pc' := 53) dX4_numberOf_52 rfl ?_
    refine g_getR (Y := Y_X4_numberOf) (pc' := 56) dX4_numberOf_53 rfl fl_X4_10 rfl (by assumption) (by omega) (by assumption) ?_
    refine g_getI (Y := Y_X4_numberOf) (pc' := 59) dX4_numberOf_56 rfl fl_X4_231 rfl (by assumption) (by omega) ?_
    exact g_iret (Y := Y_X4_numberOf) dX4_numberOf_59 rfl (Nat.zero_le _) (Nat.zero_le _) (⟨rfl, rfl⟩)
  · refine g_tswIn (Y := Y_X4_numberOf) (t := 60) (off := 59) dX4_numberOf_1 ⟨by decide, by decide⟩ (by decide) (by decide) rfl (by decide) ?_
    refine g_aload0 (Y := Y_X4_numberOf) (pc' := 61) dX4_numberOf_60 rfl ?_
    refine g_getR (Y := Y_X4_numberOf) (pc' := 64) dX4_numberOf_61 rfl fl_X4_19 rfl (by assumption) (by omega) (by assumption) ?_
    refine g_getI (Y := Y_X4_numberOf) (pc' := 67) dX4_numberOf_64 rfl fl_X4_113 rfl (by assumption) (by omega) ?_
    exact g_iret (Y := Y_X4_numberOf) dX4_numberOf_67 rfl (Nat.zero_le _) (Nat.zero_le _) (⟨rfl, rfl⟩)
  · refine g_tswIn (Y := Y_X4_numberOf) (t := 68) (off := 67) dX4_numberOf_1 ⟨by decide, by decide⟩ (by decide) (by decide) rfl (by decide) ?_
    refine g_aload0 (Y := Y_X4_numberOf) (pc' := 69) dX4_numberOf_68 rfl ?_
    refine g_getR (Y := Y_X4_numberOf) (pc' := 72) dX4_numberOf_69 rfl fl_X4_19 rfl (by assumption) (by omega) (by assumption) ?_
    refine g_getI (Y := Y_X4_numberOf) (pc' := 75) dX4_numberOf_72 rfl fl_X4_234 rfl (by assumption) (by omega) ?_
    exact g_iret (Y := Y_X4_numberOf) dX4_numberOf_75 rfl (Nat.zero_le _) (Nat.zero_le _) (⟨rfl, rfl⟩)
  · refine g_tswIn (Y := Y_X4_numberOf) (t := 76) (off := 75) dX4_numberOf_1 ⟨by decide, by decide⟩ (by decide) (by decide) rfl (by decide) ?_
    refine g_aload0 (Y := Y_X4_numberOf) (pc' := 77) dX4_numberOf_76 rfl ?_
    refine g_callVv (Y := Y_X4_numberOf) (c := 4) (s_X4_blocksWithValues hk0 hv) (pc' := 80) dX4_numberOf_77 rfl cv_X4_301 rfl (by assumption) (by show _ < n; omega) ⟨by decide, _, rfl, rfl⟩ rfl rfl rfl rfl ?_
    exact g_iret (Y := Y_X4_numberOf) dX4_numberOf_80 rfl (Nat.zero_le _) (Nat.zero_le _) (⟨rfl, rfl⟩)
  · refine g_tswIn (Y := Y_X4_numberOf) (t := 81) (off := 80) dX4_numberOf_1 ⟨by decide, by decide⟩ (by decide) (by decide) rfl (by decide) ?_
    refine g_aload0 (Y := Y_X4_numberOf) (pc' := 82) dX4_numberOf_81 rfl ?_
    refine g_callVv (Y := Y_X4_numberOf) (c := 4) (s_X4_blocksInSpares hk0 hv) (pc' := 85) dX4_numberOf_82 rfl cv_X4_304 rfl (by assumption) (by show _ < n; omega) ⟨by decide, _, rfl, rfl⟩ rfl rfl rfl rfl ?_
    exact g_iret (Y := Y_X4_numberOf) dX4_numberOf_85 rfl (Nat.zero_le _) (Nat.zero_le _) (⟨rfl, rfl⟩)
  · refine g_tswIn (Y := Y_X4_numberOf) (t := 86) (off := 85) dX4_numberOf_1 ⟨by decide, by decide⟩ (by decide) (by decide) rfl (by decide) ?_
    refine g_aload0 (Y := Y_X4_numberOf) (pc' := 87) dX4_numberOf_86 rfl ?_
    refine g_getR (Y := Y_X4_numberOf) (pc' := 90) dX4_numberOf_87 rfl fl_X4_10 rfl (by assumption) (by omega) (by assumption) ?_
    refine g_aload0 (Y := Y_X4_numberOf) (pc' := 91) dX4_numberOf_90 rfl ?_
    refine g_getR (Y := Y_X4_numberOf) (pc' := 94) dX4_numberOf_91 rfl fl_X4_19 rfl (by assumption) (by omega) (by assumption) ?_
    refine g_callSv (Y := Y_X4_numberOf) (s_X4_blocksInBadCells a8 a9 (LmV_b x7) (LmV_h x7) (StV_p x1) (StV_o x1)) (pc' := 97) dX4_numberOf_94 rfl cv_X4_307 rfl rfl rfl rfl rfl ?_
    exact g_iret (Y := Y_X4_numberOf) dX4_numberOf_97 rfl (Nat.zero_le _) (Nat.zero_le _) (⟨rfl, rfl⟩)
  · refine g_tswIn (Y := Y_X4_numberOf) (t := 98) (off := 97) dX4_numberOf_1 ⟨by decide, by decide⟩ (by decide) (by decide) rfl (by decide) ?_
    refine g_aload0 (Y := Y_X4_numberOf) (pc' := 99) dX4_numberOf_98 rfl ?_
    refine g_callVv (Y := Y_X4_numberOf) (c := 4) (s_X4_freeSpares hk0 hv) (pc' := 102) dX4_numberOf_99 rfl cv_X4_310 rfl (by assumption) (by show _ < n; omega) ⟨by decide, _, rfl, rfl⟩ rfl rfl rfl rfl ?_
    exact g_iret (Y := Y_X4_numberOf) dX4_numberOf_102 rfl (Nat.zero_le _) (Nat.zero_le _) (⟨rfl, rfl⟩)
  · refine g_tswIn (Y := Y_X4_numberOf) (t := 103) (off := 102) dX4_numberOf_1 ⟨by decide, by decide⟩ (by decide) (by decide) rfl (by decide) ?_
    refine g_aload0 (Y := Y_X4_numberOf) (pc' := 104) dX4_numberOf_103 rfl ?_
    refine g_getR (Y := Y_X4_numberOf) (pc' := 107) dX4_numberOf_104 rfl fl_X4_10 rfl (by assumption) (by omega) (by assumption) ?_
    refine g_getI (Y := Y_X4_numberOf) (pc' := 110) dX4_numberOf_107 rfl fl_X4_313 rfl (by assumption) (by omega) ?_
    exact g_iret (Y := Y_X4_numberOf) dX4_numberOf_110 rfl (Nat.zero_le _) (Nat.zero_le _) (⟨rfl, rfl⟩)
  · refine g_tswIn (Y := Y_X4_numberOf) (t := 111) (off := 110) dX4_numberOf_1 ⟨by decide, by decide⟩ (by decide) (by decide) rfl (by decide) ?_
    refine g_aload0 (Y := Y_X4_numberOf) (pc' := 112) dX4_numberOf_111 rfl ?_
    refine g_getR (Y := Y_X4_numberOf) (pc' := 115) dX4_numberOf_112 rfl fl_X4_10 rfl (by assumption) (by omega) (by assumption) ?_
    refine g_getI (Y := Y_X4_numberOf) (pc' := 118) dX4_numberOf_115 rfl fl_X4_316 rfl (by assumption) (by omega) ?_
    exact g_iret (Y := Y_X4_numberOf) dX4_numberOf_118 rfl (Nat.zero_le _) (Nat.zero_le _) (⟨rfl, rfl⟩)
  · refine g_tswOut (Y := Y_X4_numberOf) (t := 119) dX4_numberOf_1 ⟨by decide, by decide⟩ (by decide) (by decide) ?_
    refine g_aload0 (Y := Y_X4_numberOf) (pc' := 120) dX4_numberOf_119 rfl ?_
    refine g_getI (Y := Y_X4_numberOf) (pc' := 123) dX4_numberOf_120 rfl fl_X4_27 rfl (by assumption) (by omega) ?_
    exact g_iret (Y := Y_X4_numberOf) dX4_numberOf_123 rfl (Nat.zero_le _) (Nat.zero_le _) (⟨rfl, rfl⟩)
set_option maxHeartbeats 2000000 in
set_option maxRecDepth 100000 in
theorem s_X4_taken_lp {l : Launch} {E : QE} {T : Nat → Nat × Nat} {I : Nat → Nat → Int} {J : Nat → Nat → Int64} {R : Nat → Nat → Option Nat} {n z : Nat} (hk : ScB T R n) (hv : XV I) {kl : Nat} (hkl : LnB T n kl) (hlo : LOK I kl) (hm0 : 0 ≤ I kl 0 ∧ I kl 0 < 4096) : ∀ (m i : Nat) (a : Int) (x4 : Option Value), i + m = (I kl 3).toNat → Go l E Y_X4_takenCellsToAvoid 0 0 4 [some (.ref (E.1 + 0)), some (.ref (E.1 + kl)), some (.int (iz a)), some (.int (iz (i : Int))), x4] [] (T, I, J, R, n, z) (KV (.int (iz (cntL (fun i => decide (¬ f_isAv I 7 (f_cellAt I kl i) = 0) && decide (¬ f_hol I 1 (f_cellAt I kl i) = -1)) m i a))) (T, I, J, R, n, z)) := by
  obtain ⟨a0, a1, a2, a3, a4, a5, a6, a7, a8, a9, a10, a11, a12, a13, a14, a15, a16⟩ := hk
  have b8 := a8.1
  have b9 := a9.1
  have b10 := a10.1
  have b11 := a11.1
  have b12 := a12.1
  obtain ⟨x1, x7, x46, x36, x40, x74, x3, xl, xl2⟩ := id hv
  obtain ⟨l4, l5, l1, l2, l6, l3⟩ := id hlo
  obtain ⟨u0, u1⟩ := id hkl
  intro m
  induction m with
  | zero =>
    intro i a x4 hm
    refine g_iload3 (Y := Y_X4_takenCellsToAvoid) (pc' := 5) dX4_takenCellsToAvoid_4 rfl ?_
    refine g_aload1 (Y := Y_X4_takenCellsToAvoid) (pc' := 6) dX4_takenCellsToAvoid_5 rfl ?_
    refine g_getI (Y := Y_X4_takenCellsToAvoid) (pc' := 9) dX4_takenCellsToAvoid_6 rfl fl_X4_329 rfl (by assumption) (by omega) ?_
    refine g_icmp_ge (Y := Y_X4_takenCellsToAvoid) (t := 53) (pc' := 12) dX4_takenCellsToAvoid_9 (by decide) rfl ⟨by omega, by omega⟩ ⟨by omega, by omega⟩ (fun h9 => ?_) (fun h9 => ?_)
    · refine g_iload2 (Y := Y_X4_takenCellsToAvoid) (pc' := 54) dX4_takenCellsToAvoid_53 rfl ?_
      exact g_iret (Y := Y_X4_takenCellsToAvoid) dX4_takenCellsToAvoid_54 rfl (Nat.zero_le _) (Nat.zero_le _) (⟨rfl, rfl⟩)
    · exfalso; omega
  | succ m ih =>
    intro i a x4 hm
    have hrg := f_cellAt_rg (I := I) (k := kl) l4 l5 l1 l2 (i := (i : Int)) ⟨by omega, by omega⟩
    have hav : f_isAv I 7 (f_cellAt I kl i) = 0 ∨ f_isAv I 7 (f_cellAt I kl i) = 1 := by unfold f_isAv; split <;> simp
    have hho : -2147483648 ≤ f_hol I 1 (f_cellAt I kl i) ∧ f_hol I 1 (f_cellAt I kl i) < 2147483648 := by unfold f_hol; split; exact StV_o x1 _; decide
    have hhs := s_X3_holderOf (l := l) (E := E) (J := J) (I := I) (z := z) a8 (f_cellAt I kl i) hrg
    refine g_iload3 (Y := Y_X4_takenCellsToAvoid) (pc' := 5) dX4_takenCellsToAvoid_4 rfl ?_
    refine g_aload1 (Y := Y_X4_takenCellsToAvoid) (pc' := 6) dX4_takenCellsToAvoid_5 rfl ?_
    refine g_getI (Y := Y_X4_takenCellsToAvoid) (pc' := 9) dX4_takenCellsToAvoid_6 rfl fl_X4_329 rfl (by assumption) (by omega) ?_
    refine g_icmp_ge (Y := Y_X4_takenCellsToAvoid) (t := 53) (pc' := 12) dX4_takenCellsToAvoid_9 (by decide) rfl ⟨by omega, by omega⟩ ⟨by omega, by omega⟩ (fun h9 => ?_) (fun h9 => ?_)
    · exfalso; omega
    · refine g_aload1 (Y := Y_X4_takenCellsToAvoid) (pc' := 13) dX4_takenCellsToAvoid_12 rfl ?_
      refine g_iload3 (Y := Y_X4_takenCellsToAvoid) (pc' := 14) dX4_takenCellsToAvoid_13 rfl ?_
      refine g_callVv (Y := Y_X4_takenCellsToAvoid) (c := 1) (s_X1_cellAt hkl _) (pc' := 17) dX4_takenCellsToAvoid_14 rfl cv_X4_342 rfl (by assumption) (by show _ < n; omega) ⟨by decide, _, rfl, rfl⟩ rfl rfl rfl rfl ?_
      refine g_istore4 (Y := Y_X4_takenCellsToAvoid) (pc' := 19) dX4_takenCellsToAvoid_17 rfl (Nat.le_of_ble_eq_true rfl) rfl ?_
      refine g_aload0 (Y := Y_X4_takenCellsToAvoid) (pc' := 20) dX4_takenCellsToAvoid_19 rfl ?_
      refine g_getR (Y := Y_X4_takenCellsToAvoid) (pc' := 23) dX4_takenCellsToAvoid_20 rfl fl_X4_19 rfl (by assumption) (by omega) (by assumption) ?_
      refine g_iload4 (Y := Y_X4_takenCellsToAvoid) (pc' := 25) dX4_takenCellsToAvoid_23 rfl ?_
      refine g_callVv (Y := Y_X4_takenCellsToAvoid) (c := 2) (s_X2_isAvoided a9 _ hrg (LmV_b x7) (LmV_h x7)) (pc' := 28) dX4_takenCellsToAvoid_25 rfl cv_X4_191 rfl (by assumption) (by show _ < n; omega) ⟨by decide, _, rfl, rfl⟩ rfl rfl rfl rfl ?_
      refine g_if_eq (Y := Y_X4_takenCellsToAvoid) (t := 47) (pc' := 31) dX4_takenCellsToAvoid_28 (by decide) rfl ⟨by omega, by omega⟩ (fun h28 => ?_) (fun h28 => ?_)
      · have e : cntL (fun i => decide (¬ f_isAv I 7 (f_cellAt I kl i) = 0) && decide (¬ f_hol I 1 (f_cellAt I kl i) = -1)) (m + 1) i a = cntL (fun i => decide (¬ f_isAv I 7 (f_cellAt I kl i) = 0) && decide (¬ f_hol I 1 (f_cellAt I kl i) = -1)) m (i + 1) a := if_neg (by simp [h28])
        rw [e]
        refine g_iinc3 (Y := Y_X4_takenCellsToAvoid) (pc' := 50) dX4_takenCellsToAvoid_47 rfl (Nat.le_of_ble_eq_true rfl) rfl ?_
        refine g_goto (Y := Y_X4_takenCellsToAvoid) (t := 4) dX4_takenCellsToAvoid_50 (by decide) ?_
        exact ih (i + 1) _ _ (by omega)
      · refine g_aload0 (Y := Y_X4_takenCellsToAvoid) (pc' := 32) dX4_takenCellsToAvoid_31 rfl ?_
        refine g_getR (Y := Y_X4_takenCellsToAvoid) (pc' := 35) dX4_takenCellsToAvoid_32 rfl fl_X4_10 rfl (by assumption) (by omega) (by assumption) ?_
        refine g_iload4 (Y := Y_X4_takenCellsToAvoid) (pc' := 37) dX4_takenCellsToAvoid_35 rfl ?_
        refine g_callVv (Y := Y_X4_takenCellsToAvoid) (c := 3) ((show SpV l E Y_X3_holderOf _ _ (.int (iz (f_hol I 1 (f_cellAt I kl i)))) _ from hhs)) (pc' := 40) dX4_takenCellsToAvoid_37 rfl cv_X4_194 rfl (by assumption) (by show _ < n; omega) ⟨by decide, _, rfl, rfl⟩ rfl rfl rfl rfl ?_
        refine g_iconst (Y := Y_X4_takenCellsToAvoid) (pc' := 41) dX4_takenCellsToAvoid_40 rfl ?_
        refine g_icmp_eq (Y := Y_X4_takenCellsToAvoid) (t := 47) (pc' := 44) dX4_takenCellsToAvoid_41 (by decide) rfl hho ⟨by omega, by omega⟩ (fun h41 => ?_) (fun h41 => ?_)
        · have e : cntL (fun i => decide (¬ f_isAv I 7 (f_cellAt I kl i) = 0) && decide (¬ f_hol I 1 (f_cellAt I kl i) = -1)) (m + 1) i a = cntL (fun i => decide (¬ f_isAv I 7 (f_cellAt I kl i) = 0) && decide (¬ f_hol I 1 (f_cellAt I kl i) = -1)) m (i + 1) a := if_neg (by simp [h41])
          rw [e]
          refine g_iinc3 (Y := Y_X4_takenCellsToAvoid) (pc' := 50) dX4_takenCellsToAvoid_47 rfl (Nat.le_of_ble_eq_true rfl) rfl ?_
          refine g_goto (Y := Y_X4_takenCellsToAvoid) (t := 4) dX4_takenCellsToAvoid_50 (by decide) ?_
          exact ih (i + 1) _ _ (by omega)
        · have e : cntL (fun i => decide (¬ f_isAv I 7 (f_cellAt I kl i) = 0) && decide (¬ f_hol I 1 (f_cellAt I kl i) = -1)) (m + 1) i a = cntL (fun i => decide (¬ f_isAv I 7 (f_cellAt I kl i) = 0) && decide (¬ f_hol I 1 (f_cellAt I kl i) = -1)) m (i + 1) (a + 1) := if_pos (by simp [h28, h41])
          rw [e]
          refine g_iinc2 (Y := Y_X4_takenCellsToAvoid) (pc' := 47) dX4_takenCellsToAvoid_44 rfl (Nat.le_of_ble_eq_true rfl) rfl ?_
          refine g_iinc3 (Y := Y_X4_takenCellsToAvoid) (pc' := 50) dX4_takenCellsToAvoid_47 rfl (Nat.le_of_ble_eq_true rfl) rfl ?_
          refine g_goto (Y := Y_X4_takenCellsToAvoid) (t := 4) dX4_takenCellsToAvoid_50 (by decide) ?_
          exact ih (i + 1) _ _ (by omega)
set_option maxHeartbeats 2000000 in
set_option maxRecDepth 100000 in
theorem s_X4_takenCellsToAvoid {l : Launch} {E : QE} {T : Nat → Nat × Nat} {I : Nat → Nat → Int} {J : Nat → Nat → Int64} {R : Nat → Nat → Option Nat} {n z : Nat} (hk : ScB T R n) (hv : XV I) {kl : Nat} (hkl : LnB T n kl) (hlo : LOK I kl) (hm0 : 0 ≤ I kl 0 ∧ I kl 0 < 4096)  : SpV l E Y_X4_takenCellsToAvoid [.ref (E.1 + 0), .ref (E.1 + kl)] (T, I, J, R, n, z) (.int (iz (f_tca I kl))) (T, I, J, R, n, z) := by
  have hk0 := hk
  obtain ⟨a0, a1, a2, a3, a4, a5, a6, a7, a8, a9, a10, a11, a12, a13, a14, a15, a16⟩ := hk
  have b8 := a8.1
  have b9 := a9.1
  have b10 := a10.1
  have b11 := a11.1
  have b12 := a12.1
  obtain ⟨l4, l5, l1, l2, l6, l3⟩ := id hlo
  obtain ⟨u0, u1⟩ := id hkl
  refine Sp.of [some (.ref (E.1 + 0)), some (.ref (E.1 + kl)), none, none, none] (by decide +kernel) (Nat.le_of_ble_eq_true rfl) (fun _ h => h) ?_
  refine g_iconst (Y := Y_X4_takenCellsToAvoid) (pc' := 1) dX4_takenCellsToAvoid_0 rfl ?_
  refine g_istore2 (Y := Y_X4_takenCellsToAvoid) (pc' := 2) dX4_takenCellsToAvoid_1 rfl (Nat.le_of_ble_eq_true rfl) rfl ?_
  refine g_iconst (Y := Y_X4_takenCellsToAvoid) (pc' := 3) dX4_takenCellsToAvoid_2 rfl ?_
  refine g_istore3 (Y := Y_X4_takenCellsToAvoid) (pc' := 4) dX4_takenCellsToAvoid_3 rfl (Nat.le_of_ble_eq_true rfl) rfl ?_
  exact s_X4_taken_lp hk0 hv hkl hlo hm0 (I kl 3).toNat 0 0 _ (by omega)
set_option maxHeartbeats 2000000 in
set_option maxRecDepth 100000 in
theorem s_X4_lineProperty {l : Launch} {E : QE} {T : Nat → Nat × Nat} {I : Nat → Nat → Int} {J : Nat → Nat → Int64} {R : Nat → Nat → Option Nat} {n z : Nat} (hk : ScB T R n) (hv : XV I) {kl : Nat} (hkl : LnB T n kl) (hlo : LOK I kl) (hm0 : 0 ≤ I kl 0 ∧ I kl 0 < 4096) (w : Nat) (hw : w < 6) : SpV l E Y_X4_lineProperty [.ref (E.1 + 0), .ref (E.1 + kl), .int (iz (w : Int))] (T, I, J, R, n, z) (.int (iz (f_lp I kl w))) (T, I, J, R, n, z) := by
  have hk0 := hk
  obtain ⟨a0, a1, a2, a3, a4, a5, a6, a7, a8, a9, a10, a11, a12, a13, a14, a15, a16⟩ := hk
  have b8 := a8.1
  have b9 := a9.1
  have b10 := a10.1
  have b11 := a11.1
  have b12 := a12.1
  obtain ⟨l4, l5, l1, l2, l6, l3⟩ := id hlo
  obtain ⟨u0, u1⟩ := id hkl
  refine Sp.of [some (.ref (E.1 + 0)), some (.ref (E.1 + kl)), some (.int (iz (w : Int)))] (by decide +kernel) (Nat.le_of_ble_eq_true rfl) (fun _ h => h) ?_
  refine g_iload2 (Y := Y_X4_lineProperty) (pc' := 1) dX4_lineProperty_0 rfl ?_
  rcases (show w = 0 ∨ w = 1 ∨ w = 2 ∨ w = 3 ∨ w = 4 ∨ w = 5 by omega) with rfl | rfl | rfl | rfl | rfl | rfl
  · refine g_tswIn (Y := Y_X4_lineProperty) (t := 36) (off := 35) dX4_lineProperty_1 ⟨by decide, by decide⟩ (by decide) (by decide) rfl (by decide) ?_
    refine g_aload1 (Y := Y_X4_lineProperty) (pc' := 37) dX4_lineProperty_36 rfl ?_
    refine g_getI (Y := Y_X4_lineProperty) (pc' := 40) dX4_lineProperty_37 rfl fl_X4_319 rfl (by assumption) (by omega) ?_
    exact g_iret (Y := Y_X4_lineProperty) dX4_lineProperty_40 rfl (Nat.zero_le _) (Nat.zero_le _) (⟨rfl, rfl⟩)
  · refine g_tswIn (Y := Y_X4_lineProperty) (t := 41) (off := 40) dX4_lineProperty_1 ⟨by decide, by decide⟩ (by decide) (by decide) rfl (by decide) ?_
    refine g_aload1 (Y := Y_X4_lineProperty) (pc' := 42) dX4_lineProperty_41 rfl ?_
    refine g_getI (Y := Y_X4_lineProperty) (pc' := 45) dX4_lineProperty_42 rfl fl_X4_319 rfl (by assumption) (by omega) ?_
    refine g_callSv (Y := Y_X4_lineProperty) (s_J6_bitCount_0f7a4 _ hm0) (pc' := 48) dX4_lineProperty_45 rfl cv_X4_324 rfl rfl rfl rfl rfl ?_
    exact g_iret (Y := Y_X4_lineProperty) dX4_lineProperty_48 rfl (Nat.zero_le _) (Nat.zero_le _) (⟨rfl, rfl⟩)
  · refine g_tswIn (Y := Y_X4_lineProperty) (t := 49) (off := 48) dX4_lineProperty_1 ⟨by decide, by decide⟩ (by decide) (by decide) rfl (by decide) ?_
    refine g_aload1 (Y := Y_X4_lineProperty) (pc' := 50) dX4_lineProperty_49 rfl ?_
    refine g_getI (Y := Y_X4_lineProperty) (pc' := 53) dX4_lineProperty_50 rfl fl_X4_329 rfl (by assumption) (by omega) ?_
    exact g_iret (Y := Y_X4_lineProperty) dX4_lineProperty_53 rfl (Nat.zero_le _) (Nat.zero_le _) (⟨rfl, rfl⟩)
  · refine g_tswIn (Y := Y_X4_lineProperty) (t := 54) (off := 53) dX4_lineProperty_1 ⟨by decide, by decide⟩ (by decide) (by decide) rfl (by decide) ?_
    refine g_aload0 (Y := Y_X4_lineProperty) (pc' := 55) dX4_lineProperty_54 rfl ?_
    refine g_aload1 (Y := Y_X4_lineProperty) (pc' := 56) dX4_lineProperty_55 rfl ?_
    refine g_callVv (Y := Y_X4_lineProperty) (c := 4) (s_X4_takenCellsToAvoid hk0 hv hkl hlo hm0) (pc' := 59) dX4_lineProperty_56 rfl cv_X4_332 rfl (by assumption) (by show _ < n; omega) ⟨by decide, _, rfl, rfl⟩ rfl rfl rfl rfl ?_
    exact g_iret (Y := Y_X4_lineProperty) dX4_lineProperty_59 rfl (Nat.zero_le _) (Nat.zero_le _) (⟨rfl, rfl⟩)
  · refine g_tswIn (Y := Y_X4_lineProperty) (t := 60) (off := 59) dX4_lineProperty_1 ⟨by decide, by decide⟩ (by decide) (by decide) rfl (by decide) ?_
    refine g_aload1 (Y := Y_X4_lineProperty) (pc' := 61) dX4_lineProperty_60 rfl ?_
    refine g_getI (Y := Y_X4_lineProperty) (pc' := 64) dX4_lineProperty_61 rfl fl_X4_336 rfl (by assumption) (by omega) ?_
    exact g_iret (Y := Y_X4_lineProperty) dX4_lineProperty_64 rfl (Nat.zero_le _) (Nat.zero_le _) (⟨rfl, rfl⟩)
  · refine g_tswOut (Y := Y_X4_lineProperty) (t := 65) dX4_lineProperty_1 ⟨by decide, by decide⟩ (by decide) (by decide) ?_
    refine g_aload1 (Y := Y_X4_lineProperty) (pc' := 66) dX4_lineProperty_65 rfl ?_
    refine g_getI (Y := Y_X4_lineProperty) (pc' := 69) dX4_lineProperty_66 rfl fl_X4_339 rfl (by assumption) (by omega) ?_
    refine g_bipush (Y := Y_X4_lineProperty) (pc' := 71) dX4_lineProperty_69 rfl (by decide) ?_
    refine g_iadd (Y := Y_X4_lineProperty) (pc' := 72) dX4_lineProperty_71 rfl ?_
    exact g_iret (Y := Y_X4_lineProperty) dX4_lineProperty_72 rfl (Nat.zero_le _) (Nat.zero_le _) (⟨rfl, rfl⟩)
set_option maxHeartbeats 2000000 in
set_option maxRecDepth 100000 in
theorem s_X4_forecast {l : Launch} {E : QE} {T : Nat → Nat × Nat} {I : Nat → Nat → Int} {J : Nat → Nat → Int64} {R : Nat → Nat → Option Nat} {n z : Nat} (hk : ScB T R n) (hv : XV I) (w : Nat) (hw : w < 4) : SpV l E Y_X4_forecast [.ref (E.1 + 0), .int (iz (w : Int))] (T, I, J, R, n, z) (.int (iz (f_fc I w))) (T, I, J, R, n, z) := by
  have hk0 := hk
  obtain ⟨a0, a1, a2, a3, a4, a5, a6, a7, a8, a9, a10, a11, a12, a13, a14, a15, a16⟩ := hk
  have b8 := a8.1
  have b9 := a9.1
  have b10 := a10.1
  have b11 := a11.1
  have b12 := a12.1
  obtain ⟨x1, x7, x46, x36, x40, x74, x3, xl, xl2⟩ := id hv
  refine Sp.of [some (.ref (E.1 + 0)), some (.int (iz (w : Int)))] (by decide +kernel) (Nat.le_of_ble_eq_true rfl) (fun _ h => h) ?_
  refine g_iload1 (Y := Y_X4_forecast) (pc' := 1) dX4_forecast_0 rfl ?_
  rcases (show w = 0 ∨ w = 1 ∨ w = 2 ∨ w = 3 by omega) with rfl | rfl | rfl | rfl
  · refine g_tswIn (Y := Y_X4_forecast) (t := 28) (off := 27) dX4_forecast_1 ⟨by decide, by decide⟩ (by decide) (by decide) rfl (by decide) ?_
    refine g_aload0 (Y := Y_X4_forecast) (pc' := 29) dX4_forecast_28 rfl ?_
    refine g_getR (Y := Y_X4_forecast) (pc' := 32) dX4_forecast_29 rfl fl_X4_41 rfl (by assumption) (by omega) (by assumption) ?_
    refine g_getI (Y := Y_X4_forecast) (pc' := 35) dX4_forecast_32 rfl fl_X4_113 rfl (by assumption) (by omega) ?_
    exact g_iret (Y := Y_X4_forecast) dX4_forecast_35 rfl (Nat.zero_le _) (Nat.zero_le _) (⟨rfl, rfl⟩)
  · refine g_tswIn (Y := Y_X4_forecast) (t := 36) (off := 35) dX4_forecast_1 ⟨by decide, by decide⟩ (by decide) (by decide) rfl (by decide) ?_
    refine g_aload0 (Y := Y_X4_forecast) (pc' := 37) dX4_forecast_36 rfl ?_
    refine g_getR (Y := Y_X4_forecast) (pc' := 40) dX4_forecast_37 rfl fl_X4_41 rfl (by assumption) (by omega) (by assumption) ?_
    refine g_getI (Y := Y_X4_forecast) (pc' := 43) dX4_forecast_40 rfl fl_X4_234 rfl (by assumption) (by omega) ?_
    exact g_iret (Y := Y_X4_forecast) dX4_forecast_43 rfl (Nat.zero_le _) (Nat.zero_le _) (⟨rfl, rfl⟩)
  · refine g_tswIn (Y := Y_X4_forecast) (t := 44) (off := 43) dX4_forecast_1 ⟨by decide, by decide⟩ (by decide) (by decide) rfl (by decide) ?_
    refine g_aload0 (Y := Y_X4_forecast) (pc' := 45) dX4_forecast_44 rfl ?_
    refine g_getR (Y := Y_X4_forecast) (pc' := 48) dX4_forecast_45 rfl fl_X4_38 rfl (by assumption) (by omega) (by assumption) ?_
    refine g_getI (Y := Y_X4_forecast) (pc' := 51) dX4_forecast_48 rfl fl_X4_313 rfl (by assumption) (by omega) ?_
    refine g_aload0 (Y := Y_X4_forecast) (pc' := 52) dX4_forecast_51 rfl ?_
    refine g_getR (Y := Y_X4_forecast) (pc' := 55) dX4_forecast_52 rfl fl_X4_10 rfl (by assumption) (by omega) (by assumption) ?_
    refine g_getI (Y := Y_X4_forecast) (pc' := 58) dX4_forecast_55 rfl fl_X4_313 rfl (by assumption) (by omega) ?_
    refine g_isub (Y := Y_X4_forecast) (pc' := 59) dX4_forecast_58 rfl ?_
    exact g_iret (Y := Y_X4_forecast) dX4_forecast_59 rfl (Nat.zero_le _) (Nat.zero_le _) (⟨rfl, rfl⟩)
  · refine g_tswOut (Y := Y_X4_forecast) (t := 60) dX4_forecast_1 ⟨by decide, by decide⟩ (by decide) (by decide) ?_
    refine g_aload0 (Y := Y_X4_forecast) (pc' := 61) dX4_forecast_60 rfl ?_
    refine g_getR (Y := Y_X4_forecast) (pc' := 64) dX4_forecast_61 rfl fl_X4_38 rfl (by assumption) (by omega) (by assumption) ?_
    refine g_aload0 (Y := Y_X4_forecast) (pc' := 65) dX4_forecast_64 rfl ?_
    refine g_getR (Y := Y_X4_forecast) (pc' := 68) dX4_forecast_65 rfl fl_X4_41 rfl (by assumption) (by omega) (by assumption) ?_
    refine g_callSv (Y := Y_X4_forecast) (s_X4_blocksInBadCells a11 a12 (LmV_b x46) (LmV_h x46) (StV_p x40) (StV_o x40)) (pc' := 71) dX4_forecast_68 rfl cv_X4_307 rfl rfl rfl rfl rfl ?_
    exact g_iret (Y := Y_X4_forecast) dX4_forecast_71 rfl (Nat.zero_le _) (Nat.zero_le _) (⟨rfl, rfl⟩)
