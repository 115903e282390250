/-! ScratchMap: tidying up, counting, settings -/
set_option maxHeartbeats 2000000 in
set_option maxRecDepth 100000 in
theorem s_X4_tidyUp_lp {l : Launch} {E : QE} {T : Nat → Nat × Nat} {J : Nat → Nat → Int64} {R : Nat → Nat → Option Nat} {n z : Nat} {ks : Nat} (hks : StB T R n ks) {km : Nat} (hkm : LmB T R n km) (hdj : ks + 6 ≤ km ∨ km + 28 ≤ ks) {most : Int} (hmo : 0 ≤ most ∧ most ≤ 1000) : ∀ (m b : Nat) (d : Int) (I : Nat → Nat → Int) (x5 : Option Value), b + m = 480 → (0 ≤ d ∧ d ≤ b) → ( ∀ j : Nat, I (km + 3) j = 0 ∨ I (km + 3) j = 1) → ( ∀ j : Nat, -2147483648 ≤ I (km + 2) j ∧ I (km + 2) j < 2147483648) → ( ∀ j : Nat, -2147483648 ≤ I (ks + 4) j ∧ I (ks + 4) j < 2147483648) → ( ∀ j : Nat, -2147483648 ≤ I (ks + 5) j ∧ I (ks + 5) j < 2147483648) → Go l E Y_X4_tidyUp 0 0 5 [some (.ref (E.1 + ks)), some (.ref (E.1 + km)), some (.int (iz most)), some (.int (iz d)), some (.int (iz (b : Int))), x5] [] (T, I, J, R, n, z) (KV (.int (iz (tdL ks km most m b d I).1)) (T, (tdL ks km most m b d I).2, J, R, n, z)) := by
  obtain ⟨v0, v1, v2, v3, v4, v5, q0, q1, q2, q3, q4, hn2⟩ := hks
  obtain ⟨t0, t1, t2, t3, t4, t5, r0, r1, r2, r3, r4, rl, hn⟩ := hkm
  intro m
  induction m with
  | zero =>
    intro b d I x5 hm hd hb hh hp ho
    refine g_iload4 (Y := Y_X4_tidyUp) (pc' := 7) dX4_tidyUp_5 rfl ?_
    refine g_sipush (Y := Y_X4_tidyUp) (pc' := 10) dX4_tidyUp_7 rfl (by decide) ?_
    refine g_icmp_ge (Y := Y_X4_tidyUp) (t := 56) (pc' := 13) dX4_tidyUp_10 (by decide) rfl ⟨by omega, by omega⟩ ⟨by omega, by omega⟩ (fun h10 => ?_) (fun h10 => ?_)
    · refine g_iload3 (Y := Y_X4_tidyUp) (pc' := 57) dX4_tidyUp_56 rfl ?_
      exact g_iret (Y := Y_X4_tidyUp) dX4_tidyUp_57 rfl (Nat.zero_le _) (Nat.zero_le _) (⟨rfl, rfl⟩)
    · exfalso; omega
  | succ m ih =>
    intro b d I x5 hm hd hb hh hp ho
    have hc := f_cft_rg (I := I) (ks := ks) (km := km) (b := b) (by omega)
    have hp1 := hp b
    have e : tdL ks km most (m + 1) b d I = if d < most then (if f_cft I ks km b = -1 then tdL ks km most m (b + 1) d I else tdL ks km most m (b + 1) (d + 1) (f_place I ks b (f_cft I ks km b) (I (ks + 3) b))) else (d, I) := rfl
    rw [e]
    clear e
    refine g_iload4 (Y := Y_X4_tidyUp) (pc' := 7) dX4_tidyUp_5 rfl ?_
    refine g_sipush (Y := Y_X4_tidyUp) (pc' := 10) dX4_tidyUp_7 rfl (by decide) ?_
    refine g_icmp_ge (Y := Y_X4_tidyUp) (t := 56) (pc' := 13) dX4_tidyUp_10 (by decide) rfl ⟨by omega, by omega⟩ ⟨by omega, by omega⟩ (fun h10 => ?_) (fun h10 => ?_)
    · exfalso; omega
    · refine g_iload3 (Y := Y_X4_tidyUp) (pc' := 14) dX4_tidyUp_13 rfl ?_
      refine g_iload2 (Y := Y_X4_tidyUp) (pc' := 15) dX4_tidyUp_14 rfl ?_
      refine g_icmp_ge (Y := Y_X4_tidyUp) (t := 56) (pc' := 18) dX4_tidyUp_15 (by decide) rfl ⟨by omega, by omega⟩ ⟨by omega, by omega⟩ (fun h15 => ?_) (fun h15 => ?_)
      · rw [if_neg (show ¬ d < most by omega)]
        refine g_iload3 (Y := Y_X4_tidyUp) (pc' := 57) dX4_tidyUp_56 rfl ?_
        exact g_iret (Y := Y_X4_tidyUp) dX4_tidyUp_57 rfl (Nat.zero_le _) (Nat.zero_le _) (⟨rfl, rfl⟩)
      · rw [if_pos (show d < most by omega)]
        refine g_aload0 (Y := Y_X4_tidyUp) (pc' := 19) dX4_tidyUp_18 rfl ?_
        refine g_aload1 (Y := Y_X4_tidyUp) (pc' := 20) dX4_tidyUp_19 rfl ?_
        refine g_iload4 (Y := Y_X4_tidyUp) (pc' := 22) dX4_tidyUp_20 rfl ?_
        refine g_callSv (Y := Y_X4_tidyUp) (s_X4_cellForTidying ⟨v0, v1, v2, v3, v4, v5, q0, q1, q2, q3, q4, hn2⟩ ⟨t0, t1, t2, t3, t4, t5, r0, r1, r2, r3, r4, rl, hn⟩ hb hh hp ho b (by omega)) (pc' := 25) dX4_tidyUp_22 rfl cv_X4_292 rfl rfl rfl rfl rfl ?_
        refine g_istore5 (Y := Y_X4_tidyUp) (pc' := 27) dX4_tidyUp_25 rfl (Nat.le_of_ble_eq_true rfl) rfl ?_
        refine g_iload5 (Y := Y_X4_tidyUp) (pc' := 29) dX4_tidyUp_27 rfl ?_
        refine g_iconst (Y := Y_X4_tidyUp) (pc' := 30) dX4_tidyUp_29 rfl ?_
        refine g_icmp_eq (Y := Y_X4_tidyUp) (t := 50) (pc' := 33) dX4_tidyUp_30 (by decide) rfl ⟨by omega, by omega⟩ ⟨by omega, by omega⟩ (fun h30 => ?_) (fun h30 => ?_)
        · rw [if_pos h30]
          refine g_iinc4 (Y := Y_X4_tidyUp) (pc' := 53) dX4_tidyUp_50 rfl (Nat.le_of_ble_eq_true rfl) rfl ?_
          refine g_goto (Y := Y_X4_tidyUp) (t := 5) dX4_tidyUp_53 (by decide) ?_
          first
            | exact ih (b + 1) d I _ (by omega) (by omega) hb hh hp ho
            | exact ih (b + 1) (d + 1) (f_place I ks b (f_cft I ks km b) (I (ks + 3) b)) _ (by omega) (by omega) (by rw [n3]; exact hb) (by rw [n2]; exact hh) n4 n5
        · rw [if_neg h30]
          have hc2 : 0 ≤ f_cft I ks km b ∧ f_cft I ks km b < 576 := by omega
          have n2 : (f_place I ks b (f_cft I ks km b) (I (ks + 3) b)) (km + 2) = I (km + 2) := f_place_ne (by omega)
          have n3 : (f_place I ks b (f_cft I ks km b) (I (ks + 3) b)) (km + 3) = I (km + 3) := f_place_ne (by omega)
          have n4 : ∀ j : Nat, -2147483648 ≤ (f_place I ks b (f_cft I ks km b) (I (ks + 3) b)) (ks + 4) j ∧ (f_place I ks b (f_cft I ks km b) (I (ks + 3) b)) (ks + 4) j < 2147483648 := by
            intro j
            rw [f_place_4 hc2]
            split
            · omega
            · exact hp j
          have n5 : ∀ j : Nat, -2147483648 ≤ (f_place I ks b (f_cft I ks km b) (I (ks + 3) b)) (ks + 5) j ∧ (f_place I ks b (f_cft I ks km b) (I (ks + 3) b)) (ks + 5) j < 2147483648 := by
            intro j
            rw [f_place_5 ⟨by omega, by omega⟩ hc2]
            split
            · omega
            · split
              · decide
              · exact ho j
          refine g_aload0 (Y := Y_X4_tidyUp) (pc' := 34) dX4_tidyUp_33 rfl ?_
          refine g_iload4 (Y := Y_X4_tidyUp) (pc' := 36) dX4_tidyUp_34 rfl ?_
          refine g_iload5 (Y := Y_X4_tidyUp) (pc' := 38) dX4_tidyUp_36 rfl ?_
          refine g_aload0 (Y := Y_X4_tidyUp) (pc' := 39) dX4_tidyUp_38 rfl ?_
          refine g_iload4 (Y := Y_X4_tidyUp) (pc' := 41) dX4_tidyUp_39 rfl ?_
          refine g_callVv (Y := Y_X4_tidyUp) (c := 3) (s_X3_valueOf_in ⟨v0, v1, v2, v3, v4, v5, q0, q1, q2, q3, q4, hn2⟩ b (by omega)) (pc' := 44) dX4_tidyUp_41 rfl cv_X4_83 rfl (by assumption) (by show _ < n; omega) ⟨by decide, _, rfl, rfl⟩ rfl rfl rfl rfl ?_
          refine g_callVn (Y := Y_X4_tidyUp) (c := 3) (s_X3_place ⟨v0, v1, v2, v3, v4, v5, q0, q1, q2, q3, q4, hn2⟩ _ _ _ ⟨by omega, by omega⟩ ⟨by omega, by omega⟩ hp) (pc' := 47) dX4_tidyUp_44 rfl cv_X4_75 rfl (by assumption) (by show _ < n; omega) ⟨by decide, _, rfl, rfl⟩ rfl rfl rfl rfl ?_
          refine g_iinc3 (Y := Y_X4_tidyUp) (pc' := 50) dX4_tidyUp_47 rfl (Nat.le_of_ble_eq_true rfl) rfl ?_
          refine g_iinc4 (Y := Y_X4_tidyUp) (pc' := 53) dX4_tidyUp_50 rfl (Nat.le_of_ble_eq_true rfl) rfl ?_
          refine g_goto (Y := Y_X4_tidyUp) (t := 5) dX4_tidyUp_53 (by decide) ?_
          first
            | exact ih (b + 1) d I _ (by omega) (by omega) hb hh hp ho
            | exact ih (b + 1) (d + 1) (f_place I ks b (f_cft I ks km b) (I (ks + 3) b)) _ (by omega) (by omega) (by rw [n3]; exact hb) (by rw [n2]; exact hh) n4 n5
set_option maxHeartbeats 2000000 in
set_option maxRecDepth 100000 in
theorem s_X4_tidyUp {l : Launch} {E : QE} {T : Nat → Nat × Nat} {I : Nat → Nat → Int} {J : Nat → Nat → Int64} {R : Nat → Nat → Option Nat} {n z : Nat} {ks : Nat} (hks : StB T R n ks) {km : Nat} (hkm : LmB T R n km) (hdj : ks + 6 ≤ km ∨ km + 28 ≤ ks) (hb : ∀ j : Nat, I (km + 3) j = 0 ∨ I (km + 3) j = 1) (hh : ∀ j : Nat, -2147483648 ≤ I (km + 2) j ∧ I (km + 2) j < 2147483648) (hp : ∀ j : Nat, -2147483648 ≤ I (ks + 4) j ∧ I (ks + 4) j < 2147483648) (ho : ∀ j : Nat, -2147483648 ≤ I (ks + 5) j ∧ I (ks + 5) j < 2147483648) (most : Int) (hmo : 0 ≤ most ∧ most ≤ 1000) : SpV l E Y_X4_tidyUp [.ref (E.1 + ks), .ref (E.1 + km), .int (iz most)] (T, I, J, R, n, z) (.int (iz (f_tidyUp I ks km most).1)) (T, (f_tidyUp I ks km most).2, J, R, n, z) := by
  obtain ⟨v0, v1, v2, v3, v4, v5, q0, q1, q2, q3, q4, hn2⟩ := hks
  obtain ⟨t0, t1, t2, t3, t4, t5, r0, r1, r2, r3, r4, rl, hn⟩ := hkm
  refine Sp.of [some (.ref (E.1 + ks)), some (.ref (E.1 + km)), some (.int (iz most)), none, none, none] (by decide +kernel) (Nat.le_of_ble_eq_true rfl) (fun _ h => h) ?_
  refine g_iconst (Y := Y_X4_tidyUp) (pc' := 1) dX4_tidyUp_0 rfl ?_
  refine g_istore3 (Y := Y_X4_tidyUp) (pc' := 2) dX4_tidyUp_1 rfl (Nat.le_of_ble_eq_true rfl) rfl ?_
  refine g_iconst (Y := Y_X4_tidyUp) (pc' := 3) dX4_tidyUp_2 rfl ?_
  refine g_istore4 (Y := Y_X4_tidyUp) (pc' := 5) dX4_tidyUp_3 rfl (Nat.le_of_ble_eq_true rfl) rfl ?_
  exact s_X4_tidyUp_lp ⟨v0, v1, v2, v3, v4, v5, q0, q1, q2, q3, q4, hn2⟩ ⟨t0, t1, t2, t3, t4, t5, r0, r1, r2, r3, r4, rl, hn⟩ hdj hmo 480 0 0 I _ rfl (by decide) hb hh hp ho
set_option maxHeartbeats 2000000 in
set_option maxRecDepth 100000 in
theorem s_X4_bad_lp {l : Launch} {E : QE} {T : Nat → Nat × Nat} {I : Nat → Nat → Int} {J : Nat → Nat → Int64} {R : Nat → Nat → Option Nat} {n z : Nat} {ks : Nat} (hks : StB T R n ks) {km : Nat} (hkm : LmB T R n km) (hb : ∀ j : Nat, I (km + 3) j = 0 ∨ I (km + 3) j = 1) (hh : ∀ j : Nat, -2147483648 ≤ I (km + 2) j ∧ I (km + 2) j < 2147483648) (hp : ∀ j : Nat, -2147483648 ≤ I (ks + 4) j ∧ I (ks + 4) j < 2147483648) (ho : ∀ j : Nat, -2147483648 ≤ I (ks + 5) j ∧ I (ks + 5) j < 2147483648) : ∀ (m c : Nat) (a : Int), c + m = 576 → Go l E Y_X4_blocksInBadCells 0 0 4 [some (.ref (E.1 + ks)), some (.ref (E.1 + km)), some (.int (iz a)), some (.int (iz (c : Int)))] [] (T, I, J, R, n, z) (KV (.int (iz (cntL (fun c => decide (¬ I (ks + 5) c = -1) && decide (f_isGood I km c = 0)) m c a))) (T, I, J, R, n, z)) := by
  obtain ⟨v0, v1, v2, v3, v4, v5, q0, q1, q2, q3, q4, hn2⟩ := hks
  obtain ⟨t0, t1, t2, t3, t4, t5, r0, r1, r2, r3, r4, rl, hn⟩ := hkm
  intro m
  induction m with
  | zero =>
    intro c a hm
    refine g_iload3 (Y := Y_X4_blocksInBadCells) (pc' := 5) dX4_blocksInBadCells_4 rfl ?_
    refine g_sipush (Y := Y_X4_blocksInBadCells) (pc' := 8) dX4_blocksInBadCells_5 rfl (by decide) ?_
    refine g_icmp_ge (Y := Y_X4_blocksInBadCells) (t := 37) (pc' := 11) dX4_blocksInBadCells_8 (by decide) rfl ⟨by omega, by omega⟩ ⟨by omega, by omega⟩ (fun h8 => ?_) (fun h8 => ?_)
    · refine g_iload2 (Y := Y_X4_blocksInBadCells) (pc' := 38) dX4_blocksInBadCells_37 rfl ?_
      exact g_iret (Y := Y_X4_blocksInBadCells) dX4_blocksInBadCells_38 rfl (Nat.zero_le _) (Nat.zero_le _) (⟨rfl, rfl⟩)
    · exfalso; omega
  | succ m ih =>
    intro c a hm
    have hg01 : f_isGood I km c = 0 ∨ f_isGood I km c = 1 := f_good01
    have ho1 := ho c
    refine g_iload3 (Y := Y_X4_blocksInBadCells) (pc' := 5) dX4_blocksInBadCells_4 rfl ?_
    refine g_sipush (Y := Y_X4_blocksInBadCells) (pc' := 8) dX4_blocksInBadCells_5 rfl (by decide) ?_
    refine g_icmp_ge (Y := Y_X4_blocksInBadCells) (t := 37) (pc' := 11) dX4_blocksInBadCells_8 (by decide) rfl ⟨by omega, by omega⟩ ⟨by omega, by omega⟩ (fun h8 => ?_) (fun h8 => ?_)
    · exfalso; omega
    · refine g_aload0 (Y := Y_X4_blocksInBadCells) (pc' := 12) dX4_blocksInBadCells_11 rfl ?_
      refine g_iload3 (Y := Y_X4_blocksInBadCells) (pc' := 13) dX4_blocksInBadCells_12 rfl ?_
      refine g_callVv (Y := Y_X4_blocksInBadCells) (c := 3) (s_X3_holderOf_in ⟨v0, v1, v2, v3, v4, v5, q0, q1, q2, q3, q4, hn2⟩ c (by omega)) (pc' := 16) dX4_blocksInBadCells_13 rfl cv_X4_194 rfl (by assumption) (by show _ < n; omega) ⟨by decide, _, rfl, rfl⟩ rfl rfl rfl rfl ?_
      refine g_iconst (Y := Y_X4_blocksInBadCells) (pc' := 17) dX4_blocksInBadCells_16 rfl ?_
      refine g_icmp_eq (Y := Y_X4_blocksInBadCells) (t := 31) (pc' := 20) dX4_blocksInBadCells_17 (by decide) rfl ⟨by omega, by omega⟩ ⟨by omega, by omega⟩ (fun h17 => ?_) (fun h17 => ?_)
      · have e : cntL (fun c => decide (¬ I (ks + 5) c = -1) && decide (f_isGood I km c = 0)) (m + 1) c a = cntL (fun c => decide (¬ I (ks + 5) c = -1) && decide (f_isGood I km c = 0)) m (c + 1) a := if_neg (by simp [h17])
        rw [e]
        refine g_iinc3 (Y := Y_X4_blocksInBadCells) (pc' := 34) dX4_blocksInBadCells_31 rfl (Nat.le_of_ble_eq_true rfl) rfl ?_
        refine g_goto (Y := Y_X4_blocksInBadCells) (t := 4) dX4_blocksInBadCells_34 (by decide) ?_
        exact ih (c + 1) _ (by omega)
      · refine g_aload1 (Y := Y_X4_blocksInBadCells) (pc' := 21) dX4_blocksInBadCells_20 rfl ?_
        refine g_iload3 (Y := Y_X4_blocksInBadCells) (pc' := 22) dX4_blocksInBadCells_21 rfl ?_
        refine g_callVv (Y := Y_X4_blocksInBadCells) (c := 2) (s_X2_isGood ⟨t0, t1, t2, t3, t4, t5, r0, r1, r2, r3, r4, rl, hn⟩ (c : Int) ⟨by omega, by omega⟩ hb hh) (pc' := 25) dX4_blocksInBadCells_22 rfl cv_X4_285 rfl (by assumption) (by show _ < n; omega) ⟨by decide, _, rfl, rfl⟩ rfl rfl rfl rfl ?_
        refine g_if_ne (Y := Y_X4_blocksInBadCells) (t := 31) (pc' := 28) dX4_blocksInBadCells_25 (by decide) rfl ⟨by omega, by omega⟩ (fun h25 => ?_) (fun h25 => ?_)
        · have e : cntL (fun c => decide (¬ I (ks + 5) c = -1) && decide (f_isGood I km c = 0)) (m + 1) c a = cntL (fun c => decide (¬ I (ks + 5) c = -1) && decide (f_isGood I km c = 0)) m (c + 1) a := if_neg (by simp [h25])
          rw [e]
          refine g_iinc3 (Y := Y_X4_blocksInBadCells) (pc' := 34) dX4_blocksInBadCells_31 rfl (Nat.le_of_ble_eq_true rfl) rfl ?_
          refine g_goto (Y := Y_X4_blocksInBadCells) (t := 4) dX4_blocksInBadCells_34 (by decide) ?_
          exact ih (c + 1) _ (by omega)
        · have e : cntL (fun c => decide (¬ I (ks + 5) c = -1) && decide (f_isGood I km c = 0)) (m + 1) c a = cntL (fun c => decide (¬ I (ks + 5) c = -1) && decide (f_isGood I km c = 0)) m (c + 1) (a + 1) := if_pos (by simp [h17, h25])
          rw [e]
          refine g_iinc2 (Y := Y_X4_blocksInBadCells) (pc' := 31) dX4_blocksInBadCells_28 rfl (Nat.le_of_ble_eq_true rfl) rfl ?_
          refine g_iinc3 (Y := Y_X4_blocksInBadCells) (pc' := 34) dX4_blocksInBadCells_31 rfl (Nat.le_of_ble_eq_true rfl) rfl ?_
          refine g_goto (Y := Y_X4_blocksInBadCells) (t := 4) dX4_blocksInBadCells_34 (by decide) ?_
          exact ih (c + 1) _ (by omega)
set_option maxHeartbeats 2000000 in
set_option maxRecDepth 100000 in
theorem s_X4_blocksInBadCells {l : Launch} {E : QE} {T : Nat → Nat × Nat} {I : Nat → Nat → Int} {J : Nat → Nat → Int64} {R : Nat → Nat → Option Nat} {n z : Nat} {ks : Nat} (hks : StB T R n ks) {km : Nat} (hkm : LmB T R n km) (hb : ∀ j : Nat, I (km + 3) j = 0 ∨ I (km + 3) j = 1) (hh : ∀ j : Nat, -2147483648 ≤ I (km + 2) j ∧ I (km + 2) j < 2147483648) (hp : ∀ j : Nat, -2147483648 ≤ I (ks + 4) j ∧ I (ks + 4) j < 2147483648) (ho : ∀ j : Nat, -2147483648 ≤ I (ks + 5) j ∧ I (ks + 5) j < 2147483648)  : SpV l E Y_X4_blocksInBadCells [.ref (E.1 + ks), .ref (E.1 + km)] (T, I, J, R, n, z) (.int (iz (f_bad I ks km))) (T, I, J, R, n, z) := by
  obtain ⟨v0, v1, v2, v3, v4, v5, q0, q1, q2, q3, q4, hn2⟩ := hks
  obtain ⟨t0, t1, t2, t3, t4, t5, r0, r1, r2, r3, r4, rl, hn⟩ := hkm
  refine Sp.of [some (.ref (E.1 + ks)), some (.ref (E.1 + km)), none, none] (by decide +kernel) (Nat.le_of_ble_eq_true rfl) (fun _ h => h) ?_
  refine g_iconst (Y := Y_X4_blocksInBadCells) (pc' := 1) dX4_blocksInBadCells_0 rfl ?_
  refine g_istore2 (Y := Y_X4_blocksInBadCells) (pc' := 2) dX4_blocksInBadCells_1 rfl (Nat.le_of_ble_eq_true rfl) rfl ?_
  refine g_iconst (Y := Y_X4_blocksInBadCells) (pc' := 3) dX4_blocksInBadCells_2 rfl ?_
  refine g_istore3 (Y := Y_X4_blocksInBadCells) (pc' := 4) dX4_blocksInBadCells_3 rfl (Nat.le_of_ble_eq_true rfl) rfl ?_
  exact s_X4_bad_lp ⟨v0, v1, v2, v3, v4, v5, q0, q1, q2, q3, q4, hn2⟩ ⟨t0, t1, t2, t3, t4, t5, r0, r1, r2, r3, r4, rl, hn⟩ hb hh hp ho 576 0 0 rfl
def f_fits (s v : Int) : Int := if (0 ≤ s ∧ s < 3) ∧ q_sv 0 s.toNat ≤ v ∧ v ≤ q_sv 1 s.toNat then 1 else 0
theorem q_sv_rg : ∀ i : Fin 4, ∀ j : Fin 3, -2147483648 ≤ q_sv i.val j.val ∧ q_sv i.val j.val < 2147483648 := by decide
set_option maxHeartbeats 2000000 in
set_option maxRecDepth 100000 in
theorem s_X4_fitsSetting {l : Launch} {E : QE} {w : QW} (s v : Int) (hs : -2147483648 ≤ s ∧ s < 2147483648) (hv : -2147483648 ≤ v ∧ v < 2147483648) : SpV l E Y_X4_fitsSetting [.int (iz s), .int (iz v)] w (.int (iz (f_fits s v))) w := by
  unfold f_fits
  refine Sp.of [some (.int (iz s)), some (.int (iz v))] (by decide +kernel) (Nat.le_of_ble_eq_true rfl) (fun _ h => h) ?_
  refine g_iload0 (Y := Y_X4_fitsSetting) (pc' := 1) dX4_fitsSetting_0 rfl ?_
  refine g_callSv (Y := Y_X4_fitsSetting) (s_X4_isSetting s hs) (pc' := 4) dX4_fitsSetting_1 rfl cv_X4_129 rfl rfl rfl rfl rfl ?_
  refine g_if_eq (Y := Y_X4_fitsSetting) (t := 29) (pc' := 7) dX4_fitsSetting_4 (by decide) rfl ⟨by omega, by omega⟩ (fun h4 => ?_) (fun h4 => ?_)
  · refine g_iconst (Y := Y_X4_fitsSetting) (pc' := 30) dX4_fitsSetting_29 rfl ?_
    exact g_zret (Y := Y_X4_fitsSetting) dX4_fitsSetting_30 rfl (by decide) (Nat.zero_le _) (Nat.zero_le _) (⟨vi (by first | omega | (split <;> omega) | rfl), rfl⟩)
  · refine g_iload1 (Y := Y_X4_fitsSetting) (pc' := 8) dX4_fitsSetting_7 rfl ?_
    refine g_gets (Y := Y_X4_fitsSetting) (i := 0) (pc' := 11) dX4_fitsSetting_8 rfl (by decide) (q_w 695 (by decide +kernel) rfl) ?_
    refine g_iload0 (Y := Y_X4_fitsSetting) (pc' := 12) dX4_fitsSetting_11 rfl ?_
    refine g_sald (Y := Y_X4_fitsSetting) (pc' := 13) dX4_fitsSetting_12 rfl (by decide) ⟨by omega, by omega⟩ ?_
    refine g_icmp_lt (Y := Y_X4_fitsSetting) (t := 29) (pc' := 16) dX4_fitsSetting_13 (by decide) rfl ⟨by omega, by omega⟩ (by rcases (show s = 0 ∨ s = 1 ∨ s = 2 by omega) with rfl | rfl | rfl <;> decide) (fun h13 => ?_) (fun h13 => ?_)
    · refine g_iconst (Y := Y_X4_fitsSetting) (pc' := 30) dX4_fitsSetting_29 rfl ?_
      exact g_zret (Y := Y_X4_fitsSetting) dX4_fitsSetting_30 rfl (by decide) (Nat.zero_le _) (Nat.zero_le _) (⟨vi (by first | omega | (split <;> omega) | rfl), rfl⟩)
    · refine g_iload1 (Y := Y_X4_fitsSetting) (pc' := 17) dX4_fitsSetting_16 rfl ?_
      refine g_gets (Y := Y_X4_fitsSetting) (i := 1) (pc' := 20) dX4_fitsSetting_17 rfl (by decide) (q_w 697 (by decide +kernel) rfl) ?_
      refine g_iload0 (Y := Y_X4_fitsSetting) (pc' := 21) dX4_fitsSetting_20 rfl ?_
      refine g_sald (Y := Y_X4_fitsSetting) (pc' := 22) dX4_fitsSetting_21 rfl (by decide) ⟨by omega, by omega⟩ ?_
      refine g_icmp_gt (Y := Y_X4_fitsSetting) (t := 29) (pc' := 25) dX4_fitsSetting_22 (by decide) rfl ⟨by omega, by omega⟩ (by rcases (show s = 0 ∨ s = 1 ∨ s = 2 by omega) with rfl | rfl | rfl <;> decide) (fun h22 => ?_) (fun h22 => ?_)
      · refine g_iconst (Y := Y_X4_fitsSetting) (pc' := 30) dX4_fitsSetting_29 rfl ?_
        exact g_zret (Y := Y_X4_fitsSetting) dX4_fitsSetting_30 rfl (by decide) (Nat.zero_le _) (Nat.zero_le _) (⟨vi (by first | omega | (split <;> omega) | rfl), rfl⟩)
      · refine g_iconst (Y := Y_X4_fitsSetting) (pc' := 26) dX4_fitsSetting_25 rfl ?_
        refine g_goto (Y := Y_X4_fitsSetting) (t := 30) dX4_fitsSetting_26 (by decide) ?_
        exact g_zret (Y := Y_X4_fitsSetting) dX4_fitsSetting_30 rfl (by decide) (Nat.zero_le _) (Nat.zero_le _) (⟨vi (by first | omega | (split <;> omega) | rfl), rfl⟩)
set_option maxHeartbeats 2000000 in
set_option maxRecDepth 100000 in
theorem s_X4_mix {l : Launch} {E : QE} {w : QW} (h v : Int64) : SpV l E Y_X4_mix [.long h, .long v] w (.long (31 * h + v)) w := by
  refine Sp.of [some (.long h), none, some (.long v), none] (by decide +kernel) (Nat.le_of_ble_eq_true rfl) (fun _ h => h) ?_
  refine g_ldc2l (Y := Y_X4_mix) (v := (31 : Int64)) (pc' := 3) dX4_mix_0 rfl (q_w 333 (by decide +kernel) rfl) ?_
  refine g_lload0 (Y := Y_X4_mix) (pc' := 4) dX4_mix_3 rfl ?_
  refine g_lmul (Y := Y_X4_mix) (pc' := 5) dX4_mix_4 rfl ?_
  refine g_lload2 (Y := Y_X4_mix) (pc' := 6) dX4_mix_5 rfl ?_
  refine g_ladd (Y := Y_X4_mix) (pc' := 7) dX4_mix_6 rfl ?_
  exact g_lret (Y := Y_X4_mix) dX4_mix_7 rfl (Nat.zero_le _) (Nat.zero_le _) (⟨rfl, rfl⟩)
