/-! LineMap.addLine -/
theorem gapL_rg (b : Int64) : ∀ (m : Nat) (st bf wd : Int), st + m ≤ 101 → (-100 ≤ st ∧ -100 ≤ bf ∧ bf ≤ 100 ∧ -1000 ≤ wd ∧ wd ≤ 1000) → -1000 ≤ gapL b m st bf wd ∧ gapL b m st bf wd ≤ 1000
  | 0, _, _, _, _, h => ⟨h.2.2.2.1, h.2.2.2.2⟩
  | m + 1, st, bf, wd, hm, h => by
    unfold gapL
    split
    · refine gapL_rg b m _ _ _ (by omega) ?_
      unfold imax2
      split <;> omega
    · exact gapL_rg b m _ _ _ (by omega) (by omega)
set_option maxHeartbeats 2000000 in
set_option maxRecDepth 100000 in
theorem s_X2_addLine_lp {l : Launch} {E : QE} {T : Nat → Nat × Nat} {R : Nat → Nat → Option Nat} {n z : Nat} {k : Nat} (hk : LmB T R n k) {ks : Nat} {kl : Nat} (hkl : LnB T n kl) (hkl2 : k + 6 ≤ kl ∧ kl < k + 28) {K : Option Value → QW → Prop} {a b : Nat} {mq : Int} (hmq : 0 ≤ mq ∧ mq < 4096) {x5 : Option Value} (I0 : Nat → Nat → Int) (ht : ∀ j : Nat, 0 ≤ I0 (k + 4) j ∧ I0 (k + 4) j < 24) (hs : ∀ j : Nat, 0 ≤ I0 (k + 5) j ∧ I0 (k + 5) j < 24) (hcn : 0 ≤ I0 k 5 ∧ I0 k 5 ≤ 12) : ∀ (m i : Nat) (P : (Nat → Nat → Int) × (Nat → Nat → Int64)), i + m = (I0 k 5).toNat → JOK I0 kl P.1 → (∀ L7 : Int, Go l E Y_X2_addLine 0 0 164 [some (.ref (E.1 + k)), some (.ref (E.1 + ks)), some (.int (iz (a : Int))), some (.int (iz (b : Int))), some (.int (iz mq)), x5, some (.ref (E.1 + kl)), some (.int (iz L7))] [] (T, (f_jn k kl mq m i P).1, (f_jn k kl mq m i P).2, R, n, z) K) → Go l E Y_X2_addLine 0 0 119 [some (.ref (E.1 + k)), some (.ref (E.1 + ks)), some (.int (iz (a : Int))), some (.int (iz (b : Int))), some (.int (iz mq)), x5, some (.ref (E.1 + kl)), some (.int (iz (i : Int)))] [] (T, P.1, P.2, R, n, z) K := by
  obtain ⟨t0, t1, t2, t3, t4, t5, r0, r1, r2, r3, r4, rl, hn⟩ := hk
  intro m
  induction m with
  | zero =>
    intro i P hm hj hend
    have e5 : P.1 k 5 = I0 k 5 := congrFun (hj.1 k (by omega)) 5
    refine g_iload7 (Y := Y_X2_addLine) (pc' := 121) dX2_addLine_119 rfl ?_
    refine g_aload0 (Y := Y_X2_addLine) (pc' := 122) dX2_addLine_121 rfl ?_
    refine g_getI (Y := Y_X2_addLine) (pc' := 125) dX2_addLine_122 rfl fl_X2_31 rfl (by assumption) (by omega) ?_
    refine g_icmp_ge (Y := Y_X2_addLine) (t := 164) (pc' := 128) dX2_addLine_125 (by decide) rfl ⟨by omega, by omega⟩ ⟨by omega, by omega⟩ (fun h125 => ?_) (fun h125 => ?_)
    · exact hend _
    · exfalso; omega
  | succ m ih =>
    intro i P hm hj hend
    have e5 : P.1 k 5 = I0 k 5 := congrFun (hj.1 k (by omega)) 5
    obtain ⟨j0, j4, j5, j1, j2, jm, j6, j7⟩ := id hj
    have eti : P.1 (k + 4) i = I0 (k + 4) i := congrFun (hj.1 (k + 4) (by omega)) i
    have esi : P.1 (k + 5) i = I0 (k + 5) i := congrFun (hj.1 (k + 5) (by omega)) i
    have hobr : obt mq i = 0 ∨ obt mq i = 1 := by unfold obt; split <;> simp
    refine g_iload7 (Y := Y_X2_addLine) (pc' := 121) dX2_addLine_119 rfl ?_
    refine g_aload0 (Y := Y_X2_addLine) (pc' := 122) dX2_addLine_121 rfl ?_
    refine g_getI (Y := Y_X2_addLine) (pc' := 125) dX2_addLine_122 rfl fl_X2_31 rfl (by assumption) (by omega) ?_
    refine g_icmp_ge (Y := Y_X2_addLine) (t := 164) (pc' := 128) dX2_addLine_125 (by decide) rfl ⟨by omega, by omega⟩ ⟨by omega, by omega⟩ (fun h125 => ?_) (fun h125 => ?_)
    · exfalso; omega
    · refine g_iload4 (Y := Y_X2_addLine) (pc' := 130) dX2_addLine_128 rfl ?_
      refine g_iload7 (Y := Y_X2_addLine) (pc' := 132) dX2_addLine_130 rfl ?_
      refine g_ishr (Y := Y_X2_addLine) (pc' := 133) dX2_addLine_132 rfl (iz_shrN hmq (by omega)) ?_
      refine g_iconst (Y := Y_X2_addLine) (pc' := 134) dX2_addLine_133 rfl ?_
      refine g_iand (Y := Y_X2_addLine) (pc' := 135) dX2_addLine_134 rfl (iz_obt hmq) ?_
      refine g_iconst (Y := Y_X2_addLine) (pc' := 136) dX2_addLine_135 rfl ?_
      refine g_icmp_ne (Y := Y_X2_addLine) (t := 158) (pc' := 139) dX2_addLine_136 (by decide) rfl ⟨by omega, by omega⟩ ⟨by omega, by omega⟩ (fun h136 => ?_) (fun h136 => ?_)
      · have e : f_jn k kl mq (m + 1) i P = f_jn k kl mq m (i + 1) P := if_neg h136
        rw [e] at hend
        refine g_iinc7 (Y := Y_X2_addLine) (pc' := 161) dX2_addLine_158 rfl (Nat.le_of_ble_eq_true rfl) rfl ?_
        refine g_goto (Y := Y_X2_addLine) (t := 119) dX2_addLine_161 (by decide) ?_
        first
          | exact ih (i + 1) P (by omega) hj hend
          | exact ih (i + 1) (f_join P.1 kl i (P.1 (k + 4) i) (P.1 (k + 5) i), f_joinJ P.1 P.2 kl (P.1 (k + 4) i) (P.1 (k + 5) i)) (by omega) (JOK_join hj ⟨by omega, by omega⟩ (by rw [eti]; exact ht i) (by rw [esi]; exact hs i)) hend
      · have e : f_jn k kl mq (m + 1) i P = f_jn k kl mq m (i + 1) (f_join P.1 kl i (P.1 (k + 4) i) (P.1 (k + 5) i), f_joinJ P.1 P.2 kl (P.1 (k + 4) i) (P.1 (k + 5) i)) := if_pos h136
        rw [e] at hend
        refine g_aload6 (Y := Y_X2_addLine) (pc' := 141) dX2_addLine_139 rfl ?_
        refine g_iload7 (Y := Y_X2_addLine) (pc' := 143) dX2_addLine_141 rfl ?_
        refine g_aload0 (Y := Y_X2_addLine) (pc' := 144) dX2_addLine_143 rfl ?_
        refine g_iload7 (Y := Y_X2_addLine) (pc' := 146) dX2_addLine_144 rfl ?_
        refine g_callVv (Y := Y_X2_addLine) (c := 2) (s_X2_trackOf ⟨t0, t1, t2, t3, t4, t5, r0, r1, r2, r3, r4, rl, hn⟩ i (by omega)) (pc' := 149) dX2_addLine_146 rfl cv_X2_87 rfl (by assumption) (by show _ < n; omega) ⟨by decide, _, rfl, rfl⟩ rfl rfl rfl rfl ?_
        refine g_aload0 (Y := Y_X2_addLine) (pc' := 150) dX2_addLine_149 rfl ?_
        refine g_iload7 (Y := Y_X2_addLine) (pc' := 152) dX2_addLine_150 rfl ?_
        refine g_callVv (Y := Y_X2_addLine) (c := 2) (s_X2_sectorOf ⟨t0, t1, t2, t3, t4, t5, r0, r1, r2, r3, r4, rl, hn⟩ i (by omega)) (pc' := 155) dX2_addLine_152 rfl cv_X2_90 rfl (by assumption) (by show _ < n; omega) ⟨by decide, _, rfl, rfl⟩ rfl rfl rfl rfl ?_
        refine g_callVn (Y := Y_X2_addLine) (c := 1) (s_X1_join hkl j4 j5 j1 j2 jm.1 ⟨by omega, by omega⟩ ⟨by omega, by omega⟩ _ _ _ ⟨by omega, by omega⟩ (by rw [eti]; exact ht i) (by rw [esi]; exact hs i)) (pc' := 158) dX2_addLine_155 rfl cv_X2_97 rfl hkl.1 (by show _ < n; exact hkl.2) ⟨by decide, _, rfl, rfl⟩ rfl rfl rfl rfl ?_
        refine g_iinc7 (Y := Y_X2_addLine) (pc' := 161) dX2_addLine_158 rfl (Nat.le_of_ble_eq_true rfl) rfl ?_
        refine g_goto (Y := Y_X2_addLine) (t := 119) dX2_addLine_161 (by decide) ?_
        first
          | exact ih (i + 1) P (by omega) hj hend
          | exact ih (i + 1) (f_join P.1 kl i (P.1 (k + 4) i) (P.1 (k + 5) i), f_joinJ P.1 P.2 kl (P.1 (k + 4) i) (P.1 (k + 5) i)) (by omega) (JOK_join hj ⟨by omega, by omega⟩ (by rw [eti]; exact ht i) (by rw [esi]; exact hs i)) hend
set_option maxHeartbeats 2000000 in
set_option maxRecDepth 100000 in
theorem s_X2_addLine {l : Launch} {E : QE} {T : Nat → Nat × Nat} {I : Nat → Nat → Int} {J : Nat → Nat → Int64} {R : Nat → Nat → Option Nat} {n z : Nat} {k : Nat} (hk : LmB T R n k) {ks : Nat} (hks : StB T R n ks) (hdj : ks + 6 ≤ k ∨ k + 28 ≤ ks) (ht : ∀ j : Nat, 0 ≤ I (k + 4) j ∧ I (k + 4) j < 24) (hs : ∀ j : Nat, 0 ≤ I (k + 5) j ∧ I (k + 5) j < 24) (hcn : 0 ≤ I k 5 ∧ I k 5 ≤ 12) (h6 : 0 ≤ I k 6 ∧ I k 6 ≤ 22) (hset : ∀ j : Nat, j < 3 → 0 ≤ I (ks + 2) j ∧ I (ks + 2) j ≤ 8) (hset2 : I (ks + 2) 2 ≤ 6) (a b : Nat) (hab : a < b) (hbc : b < (I k 5).toNat) : SpV l E Y_X2_addLine [.ref (E.1 + k), .ref (E.1 + ks), .int (iz (a : Int)), .int (iz (b : Int))] (T, I, J, R, n, z) (.int (iz (f_addLine I J k ks a b).1)) (T, (f_addLine I J k ks a b).2.1, (f_addLine I J k ks a b).2.2, R, n, z) := by
  obtain ⟨t0, t1, t2, t3, t4, t5, r0, r1, r2, r3, r4, rl, hn⟩ := hk
  obtain ⟨v0, v1, v2, v3, v4, v5, q0, q1, q2, q3, q4, hn2⟩ := hks
  have hmq : 0 ≤ (f_lw I k a b) ∧ (f_lw I k a b) < 4096 := f_msk_rg I k a b _ _ _ (by omega) (by omega)
  have hpb := pow_rg (a := b) (by omega)
  have hpa := pow_rg (a := a) (by omega)
  have hpc := pcn_rg (f_lw I k a b)
  have hs00 := hset 0 (by decide)
  have hor := oand_rg (x := ((2 ^ b : Nat) : Int) - 1) hmq
  have c27b : ¬ oand (f_lw I k a b) (((2 ^ b : Nat) : Int) - 1) = ((2 ^ a : Nat) : Int) → Go l E Y_X2_addLine 0 0 27 [some (.ref (E.1 + k)), some (.ref (E.1 + ks)), some (.int (iz (a : Int))), some (.int (iz (b : Int))), some (.int (iz (f_lw I k a b))), none, none, none] [.int (iz 1)] (T, I, J, R, n, z) (KV (.int (iz (f_addLine I J k ks a b).1)) (T, (f_addLine I J k ks a b).2.1, (f_addLine I J k ks a b).2.2, R, n, z)) := by
    intro hns
    refine g_istore5 (Y := Y_X2_addLine) (pc' := 29) dX2_addLine_27 rfl (Nat.le_of_ble_eq_true rfl) rfl ?_
    refine g_iload5 (Y := Y_X2_addLine) (pc' := 31) dX2_addLine_29 rfl ?_
    refine g_if_ne (Y := Y_X2_addLine) (t := 78) (pc' := 34) dX2_addLine_31 (by decide) rfl ⟨by omega, by omega⟩ (fun h31 => ?_) (fun h31 => ?_)
    · refine g_iconst (Y := Y_X2_addLine) (pc' := 79) dX2_addLine_78 rfl ?_
      exact g_zret (Y := Y_X2_addLine) dX2_addLine_79 rfl (by decide) (Nat.zero_le _) (Nat.zero_le _) (by have er : f_addLine I J k ks a b = (0, I, J) := if_neg (by rintro ⟨q1, q2, q3⟩; first | exact hns q1 | omega); rw [er]; exact ⟨rfl, rfl⟩)
    · exfalso; omega
  have c27 : oand (f_lw I k a b) (((2 ^ b : Nat) : Int) - 1) = ((2 ^ a : Nat) : Int) → Go l E Y_X2_addLine 0 0 27 [some (.ref (E.1 + k)), some (.ref (E.1 + ks)), some (.int (iz (a : Int))), some (.int (iz (b : Int))), some (.int (iz (f_lw I k a b))), none, none, none] [.int (iz 0)] (T, I, J, R, n, z) (KV (.int (iz (f_addLine I J k ks a b).1)) (T, (f_addLine I J k ks a b).2.1, (f_addLine I J k ks a b).2.2, R, n, z)) := by
    intro hns
    refine g_istore5 (Y := Y_X2_addLine) (pc' := 29) dX2_addLine_27 rfl (Nat.le_of_ble_eq_true rfl) rfl ?_
    refine g_iload5 (Y := Y_X2_addLine) (pc' := 31) dX2_addLine_29 rfl ?_
    refine g_if_ne (Y := Y_X2_addLine) (t := 78) (pc' := 34) dX2_addLine_31 (by decide) rfl ⟨by omega, by omega⟩ (fun h31 => ?_) (fun h31 => ?_)
    · exfalso; exact h31 rfl
    · refine g_iload4 (Y := Y_X2_addLine) (pc' := 36) dX2_addLine_34 rfl ?_
      refine g_callSv (Y := Y_X2_addLine) (s_J6_bitCount_0f7a4 _ hmq) (pc' := 39) dX2_addLine_36 rfl cv_X2_79 rfl rfl rfl rfl rfl ?_
      refine g_aload1 (Y := Y_X2_addLine) (pc' := 40) dX2_addLine_39 rfl ?_
      refine g_iconst (Y := Y_X2_addLine) (pc' := 41) dX2_addLine_40 rfl ?_
      refine g_callVv (Y := Y_X2_addLine) (c := 3) (s_X3_settingOf_in ⟨v0, v1, v2, v3, v4, v5, q0, q1, q2, q3, q4, hn2⟩ 0 (by decide)) (pc' := 44) dX2_addLine_41 rfl cv_X2_84 rfl (by assumption) (by show _ < n; omega) ⟨by decide, _, rfl, rfl⟩ rfl rfl rfl rfl ?_
      refine g_icmp_lt (Y := Y_X2_addLine) (t := 78) (pc' := 47) dX2_addLine_44 (by decide) rfl ⟨by omega, by omega⟩ ⟨by omega, by omega⟩ (fun h44 => ?_) (fun h44 => ?_)
      · refine g_iconst (Y := Y_X2_addLine) (pc' := 79) dX2_addLine_78 rfl ?_
        exact g_zret (Y := Y_X2_addLine) dX2_addLine_79 rfl (by decide) (Nat.zero_le _) (Nat.zero_le _) (by have er : f_addLine I J k ks a b = (0, I, J) := if_neg (by rintro ⟨q1, q2, q3⟩; omega); rw [er]; exact ⟨rfl, rfl⟩)
      · refine g_aload0 (Y := Y_X2_addLine) (pc' := 48) dX2_addLine_47 rfl ?_
        refine g_getI (Y := Y_X2_addLine) (pc' := 51) dX2_addLine_48 rfl fl_X2_35 rfl (by assumption) (by omega) ?_
        refine g_if_lt (Y := Y_X2_addLine) (t := 78) (pc' := 54) dX2_addLine_51 (by decide) rfl ⟨by omega, by omega⟩ (fun h51 => ?_) (fun h51 => ?_)
        · exfalso; omega
        · refine g_aload0 (Y := Y_X2_addLine) (pc' := 55) dX2_addLine_54 rfl ?_
          refine g_getI (Y := Y_X2_addLine) (pc' := 58) dX2_addLine_55 rfl fl_X2_35 rfl (by assumption) (by omega) ?_
          refine g_aload0 (Y := Y_X2_addLine) (pc' := 59) dX2_addLine_58 rfl ?_
          refine g_getR (Y := Y_X2_addLine) (pc' := 62) dX2_addLine_59 rfl fl_X2_11 rfl (by assumption) (by omega) (by assumption) ?_
          refine g_alen (Y := Y_X2_addLine) (pc' := 63) dX2_addLine_62 rfl (by assumption) (by decide) (by omega) ?_
          refine g_icmp_ge (Y := Y_X2_addLine) (t := 78) (pc' := 66) dX2_addLine_63 (by decide) rfl ⟨by omega, by omega⟩ ⟨by omega, by omega⟩ (fun h63 => ?_) (fun h63 => ?_)
          · refine g_iconst (Y := Y_X2_addLine) (pc' := 79) dX2_addLine_78 rfl ?_
            exact g_zret (Y := Y_X2_addLine) dX2_addLine_79 rfl (by decide) (Nat.zero_le _) (Nat.zero_le _) (by have er : f_addLine I J k ks a b = (0, I, J) := if_neg (by rintro ⟨q1, q2, q3⟩; omega); rw [er]; exact ⟨rfl, rfl⟩)
          · refine g_aload0 (Y := Y_X2_addLine) (pc' := 67) dX2_addLine_66 rfl ?_
            refine g_getR (Y := Y_X2_addLine) (pc' := 70) dX2_addLine_67 rfl fl_X2_11 rfl (by assumption) (by omega) (by assumption) ?_
            refine g_aload0 (Y := Y_X2_addLine) (pc' := 71) dX2_addLine_70 rfl ?_
            refine g_getI (Y := Y_X2_addLine) (pc' := 74) dX2_addLine_71 rfl fl_X2_35 rfl (by assumption) (by omega) ?_
            refine g_aald (Y := Y_X2_addLine) (pc' := 75) dX2_addLine_74 rfl (by assumption) (by decide) (by omega) (by decide) ⟨by omega, by omega⟩ (rl _ (by omega)).1 ?_
            refine g_ifnonnull (Y := Y_X2_addLine) (t := 80) dX2_addLine_75 (by decide) ?_
            have hkl : LnB T n (k + 6 + (I k 6).toNat) := ⟨(rl _ (by omega)).2, by omega⟩
            have er : f_addLine I J k ks a b = f_add2 (f_jd I J k a b) k ks (k + 6 + (I k 6).toNat) := if_pos ⟨hns, h44, by omega⟩
            refine g_aload0 (Y := Y_X2_addLine) (pc' := 81) dX2_addLine_80 rfl ?_
            refine g_getR (Y := Y_X2_addLine) (pc' := 84) dX2_addLine_81 rfl fl_X2_11 rfl (by assumption) (by omega) (by assumption) ?_
            refine g_aload0 (Y := Y_X2_addLine) (pc' := 85) dX2_addLine_84 rfl ?_
            refine g_getI (Y := Y_X2_addLine) (pc' := 88) dX2_addLine_85 rfl fl_X2_35 rfl (by assumption) (by omega) ?_
            refine g_aald (Y := Y_X2_addLine) (pc' := 89) dX2_addLine_88 rfl (by assumption) (by decide) (by omega) (by decide) ⟨by omega, by omega⟩ (rl _ (by omega)).1 ?_
            refine g_astore6 (Y := Y_X2_addLine) (pc' := 91) dX2_addLine_89 rfl (Nat.le_of_ble_eq_true rfl) rfl ?_
            refine g_aload6 (Y := Y_X2_addLine) (pc' := 93) dX2_addLine_91 rfl ?_
            refine g_aload0 (Y := Y_X2_addLine) (pc' := 94) dX2_addLine_93 rfl ?_
            refine g_iload2 (Y := Y_X2_addLine) (pc' := 95) dX2_addLine_94 rfl ?_
            refine g_callVv (Y := Y_X2_addLine) (c := 2) (s_X2_trackOf ⟨t0, t1, t2, t3, t4, t5, r0, r1, r2, r3, r4, rl, hn⟩ a (by omega)) (pc' := 98) dX2_addLine_95 rfl cv_X2_87 rfl (by assumption) (by show _ < n; omega) ⟨by decide, _, rfl, rfl⟩ rfl rfl rfl rfl ?_
            refine g_aload0 (Y := Y_X2_addLine) (pc' := 99) dX2_addLine_98 rfl ?_
            refine g_iload2 (Y := Y_X2_addLine) (pc' := 100) dX2_addLine_99 rfl ?_
            refine g_callVv (Y := Y_X2_addLine) (c := 2) (s_X2_sectorOf ⟨t0, t1, t2, t3, t4, t5, r0, r1, r2, r3, r4, rl, hn⟩ a (by omega)) (pc' := 103) dX2_addLine_100 rfl cv_X2_90 rfl (by assumption) (by show _ < n; omega) ⟨by decide, _, rfl, rfl⟩ rfl rfl rfl rfl ?_
            refine g_aload0 (Y := Y_X2_addLine) (pc' := 104) dX2_addLine_103 rfl ?_
            refine g_iload3 (Y := Y_X2_addLine) (pc' := 105) dX2_addLine_104 rfl ?_
            refine g_callVv (Y := Y_X2_addLine) (c := 2) (s_X2_trackOf ⟨t0, t1, t2, t3, t4, t5, r0, r1, r2, r3, r4, rl, hn⟩ b (by omega)) (pc' := 108) dX2_addLine_105 rfl cv_X2_87 rfl (by assumption) (by show _ < n; omega) ⟨by decide, _, rfl, rfl⟩ rfl rfl rfl rfl ?_
            refine g_aload0 (Y := Y_X2_addLine) (pc' := 109) dX2_addLine_108 rfl ?_
            refine g_iload3 (Y := Y_X2_addLine) (pc' := 110) dX2_addLine_109 rfl ?_
            refine g_callVv (Y := Y_X2_addLine) (c := 2) (s_X2_sectorOf ⟨t0, t1, t2, t3, t4, t5, r0, r1, r2, r3, r4, rl, hn⟩ b (by omega)) (pc' := 113) dX2_addLine_110 rfl cv_X2_90 rfl (by assumption) (by show _ < n; omega) ⟨by decide, _, rfl, rfl⟩ rfl rfl rfl rfl ?_
            refine g_callVn (Y := Y_X2_addLine) (c := 1) (s_X1_aim hkl _ _ _ _ (ht a) (hs a) (ht b) (hs b)) (pc' := 116) dX2_addLine_113 rfl cv_X2_93 rfl hkl.1 (by show _ < n; exact hkl.2) ⟨by decide, _, rfl, rfl⟩ rfl rfl rfl rfl ?_
            refine g_iload2 (Y := Y_X2_addLine) (pc' := 117) dX2_addLine_116 rfl ?_
            refine g_istore7 (Y := Y_X2_addLine) (pc' := 119) dX2_addLine_117 rfl (Nat.le_of_ble_eq_true rfl) rfl ?_
            obtain ⟨P, hP⟩ : ∃ P, P = f_jd I J k a b := ⟨_, rfl⟩
            have hJ : JOK I (k + 6 + (I k 6).toNat) P.1 := by rw [hP]; exact JOK_jn (by omega) (by omega) ht hs _ _ _ (by omega) (JOK_aim (ht a) (hs a) (ht b) (hs b))
            rw [← hP] at er
            obtain ⟨j0, j4, j5, j1, j2, jm, j6, j7⟩ := id hJ
            have es : ∀ j, P.1 (ks + 2) j = I (ks + 2) j := fun j => congrFun (j0 (ks + 2) (by omega)) j
            have hgr : -1000 ≤ f_gap P.1 P.2 (k + 6 + (I k 6).toNat) ∧ f_gap P.1 P.2 (k + 6 + (I k 6).toNat) ≤ 1000 := gapL_rg _ _ _ _ _ (by omega) (by omega)
            have hs0 := hset 1 (by decide)
            have hs2 := hset 2 (by decide)
            have es1 := es 1
            have es2 := es 2
            refine s_X2_addLine_lp ⟨t0, t1, t2, t3, t4, t5, r0, r1, r2, r3, r4, rl, hn⟩ hkl ⟨by omega, by omega⟩ hmq I ht hs hcn ((I k 5).toNat - a) a (f_aimed I J k (k + 6 + (I k 6).toNat) a b) (by omega) (JOK_aim (ht a) (hs a) (ht b) (hs b)) (fun L7 => ?_)
            change Go l E Y_X2_addLine 0 0 164 _ [] (T, (f_jd I J k a b).1, (f_jd I J k a b).2, R, n, z) _
            rw [← hP, er]
            refine g_aload6 (Y := Y_X2_addLine) (pc' := 166) dX2_addLine_164 rfl ?_
            refine g_callVv (Y := Y_X2_addLine) (c := 1) (s_X1_widestGap hkl ⟨by omega, by omega⟩ ⟨by omega, by omega⟩) (pc' := 169) dX2_addLine_166 rfl cv_X2_101 rfl hkl.1 (by show _ < n; exact hkl.2) ⟨by decide, _, rfl, rfl⟩ rfl rfl rfl rfl ?_
            refine g_aload1 (Y := Y_X2_addLine) (pc' := 170) dX2_addLine_169 rfl ?_
            refine g_iconst (Y := Y_X2_addLine) (pc' := 171) dX2_addLine_170 rfl ?_
            refine g_callVv (Y := Y_X2_addLine) (c := 3) (s_X3_settingOf_in ⟨v0, v1, v2, v3, v4, v5, q0, q1, q2, q3, q4, hn2⟩ 1 (by decide)) (pc' := 174) dX2_addLine_171 rfl cv_X2_84 rfl (by assumption) (by show _ < n; omega) ⟨by decide, _, rfl, rfl⟩ rfl rfl rfl rfl ?_
            refine g_icmp_le (Y := Y_X2_addLine) (t := 179) (pc' := 177) dX2_addLine_174 (by decide) rfl ⟨by omega, by omega⟩ ⟨by omega, by omega⟩ (fun h174 => ?_) (fun h174 => ?_)
            · refine g_aload6 (Y := Y_X2_addLine) (pc' := 181) dX2_addLine_179 rfl ?_
              refine g_aload1 (Y := Y_X2_addLine) (pc' := 182) dX2_addLine_181 rfl ?_
              refine g_iconst (Y := Y_X2_addLine) (pc' := 183) dX2_addLine_182 rfl ?_
              refine g_callVv (Y := Y_X2_addLine) (c := 3) (s_X3_settingOf_in ⟨v0, v1, v2, v3, v4, v5, q0, q1, q2, q3, q4, hn2⟩ 2 (by decide)) (pc' := 186) dX2_addLine_183 rfl cv_X2_84 rfl (by assumption) (by show _ < n; omega) ⟨by decide, _, rfl, rfl⟩ rfl rfl rfl rfl ?_
              refine g_callVn (Y := Y_X2_addLine) (c := 1) (s_X1_spread hkl j4 j5 j1 j2 ⟨by omega, by omega⟩ ⟨by omega, by omega⟩ _ ⟨by omega, by omega⟩) (pc' := 189) dX2_addLine_186 rfl cv_X2_105 rfl hkl.1 (by show _ < n; exact hkl.2) ⟨by decide, _, rfl, rfl⟩ rfl rfl rfl rfl ?_
              refine g_aload0 (Y := Y_X2_addLine) (pc' := 190) dX2_addLine_189 rfl ?_
              refine g_dup (Y := Y_X2_addLine) (pc' := 191) dX2_addLine_190 rfl rfl ?_
              refine g_getI (Y := Y_X2_addLine) (pc' := 194) dX2_addLine_191 rfl fl_X2_35 rfl (by assumption) (by omega) ?_
              refine g_iconst (Y := Y_X2_addLine) (pc' := 195) dX2_addLine_194 rfl ?_
              refine g_iadd (Y := Y_X2_addLine) (pc' := 196) dX2_addLine_195 rfl ?_
              refine g_putI (Y := Y_X2_addLine) (pc' := 199) dX2_addLine_196 rfl fp_X2_35 rfl (by assumption) (by omega) ?_
              refine g_iconst (Y := Y_X2_addLine) (pc' := 200) dX2_addLine_199 rfl ?_
              exact g_zret (Y := Y_X2_addLine) dX2_addLine_200 rfl (by decide) (Nat.zero_le _) (Nat.zero_le _) (by rw [show f_add2 P k ks (k + 6 + (I k 6).toNat) = (1, f_inc6 (f_spread P.1 (k + 6 + (I k 6).toNat) (P.1 (ks + 2) 2)) k, P.2) from if_neg (by omega)]; exact ⟨rfl, rfl⟩)
            · refine g_iconst (Y := Y_X2_addLine) (pc' := 178) dX2_addLine_177 rfl ?_
              exact g_zret (Y := Y_X2_addLine) dX2_addLine_178 rfl (by decide) (Nat.zero_le _) (Nat.zero_le _) (by rw [show f_add2 P k ks (k + 6 + (I k 6).toNat) = (0, P.1, P.2) from if_pos (by omega)]; exact ⟨rfl, rfl⟩)
  
  refine Sp.of [some (.ref (E.1 + k)), some (.ref (E.1 + ks)), some (.int (iz (a : Int))), some (.int (iz (b : Int))), none, none, none, none] (by decide +kernel) (Nat.le_of_ble_eq_true rfl) (fun _ h => h) ?_
  refine g_aload0 (Y := Y_X2_addLine) (pc' := 1) dX2_addLine_0 rfl ?_
  refine g_iload2 (Y := Y_X2_addLine) (pc' := 2) dX2_addLine_1 rfl ?_
  refine g_iload3 (Y := Y_X2_addLine) (pc' := 3) dX2_addLine_2 rfl ?_
  refine g_callVv (Y := Y_X2_addLine) (c := 2) (s_X2_spotsInLineWith ⟨t0, t1, t2, t3, t4, t5, r0, r1, r2, r3, r4, rl, hn⟩ ht hs hcn a b (by omega) (by omega)) (pc' := 6) dX2_addLine_3 rfl cv_X2_75 rfl (by assumption) (by show _ < n; omega) ⟨by decide, _, rfl, rfl⟩ rfl rfl rfl rfl ?_
  refine g_istore4 (Y := Y_X2_addLine) (pc' := 8) dX2_addLine_6 rfl (Nat.le_of_ble_eq_true rfl) rfl ?_
  refine g_iload4 (Y := Y_X2_addLine) (pc' := 10) dX2_addLine_8 rfl ?_
  refine g_iconst (Y := Y_X2_addLine) (pc' := 11) dX2_addLine_10 rfl ?_
  refine g_iload3 (Y := Y_X2_addLine) (pc' := 12) dX2_addLine_11 rfl ?_
  refine g_ishl (Y := Y_X2_addLine) (pc' := 13) dX2_addLine_12 rfl (iz_shlN (by omega)) ?_
  refine g_iconst (Y := Y_X2_addLine) (pc' := 14) dX2_addLine_13 rfl ?_
  refine g_isub (Y := Y_X2_addLine) (pc' := 15) dX2_addLine_14 rfl ?_
  refine g_iand (Y := Y_X2_addLine) (pc' := 16) dX2_addLine_15 rfl (iz_oand hmq.1 (by omega)) ?_
  refine g_iconst (Y := Y_X2_addLine) (pc' := 17) dX2_addLine_16 rfl ?_
  refine g_iload2 (Y := Y_X2_addLine) (pc' := 18) dX2_addLine_17 rfl ?_
  refine g_ishl (Y := Y_X2_addLine) (pc' := 19) dX2_addLine_18 rfl (iz_shlN (by omega)) ?_
  refine g_icmp_eq (Y := Y_X2_addLine) (t := 26) (pc' := 22) dX2_addLine_19 (by decide) rfl ⟨by omega, by omega⟩ ⟨by omega, by omega⟩ (fun h19 => ?_) (fun h19 => ?_)
  · refine g_iconst (Y := Y_X2_addLine) (pc' := 27) dX2_addLine_26 rfl ?_
    first
      | exact c27 h19
      | exact c27b h19
  · refine g_iconst (Y := Y_X2_addLine) (pc' := 23) dX2_addLine_22 rfl ?_
    refine g_goto (Y := Y_X2_addLine) (t := 27) dX2_addLine_23 (by decide) ?_
    first
      | exact c27 h19
      | exact c27b h19
