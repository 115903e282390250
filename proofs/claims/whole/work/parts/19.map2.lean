/-! LineMap: straight lines, cells that are hit -/
theorem mul24 {a b : Int} (ha : -24 < a ∧ a < 24) (hb : -24 < b ∧ b < 24) : -2147483648 ≤ a * b ∧ a * b < 2147483648 := by
  have := mulb (a := a) (b := b) (A := 23) (B := 23) (by omega) (by omega)
  omega
/-- the spots from i on (m of them) that lie on one straight line with the spots a and b, beside mq -/
def f_msk (I : Nat → Nat → Int) (k a b : Nat) : Nat → Nat → Int → Int
  | 0, _, mq => mq
  | m + 1, i, mq => if (I (k + 4) i - I (k + 4) a) * (I (k + 5) b - I (k + 5) a) = (I (k + 5) i - I (k + 5) a) * (I (k + 4) b - I (k + 4) a) then f_msk I k a b m (i + 1) (obit mq i) else f_msk I k a b m (i + 1) mq
def f_lw (I : Nat → Nat → Int) (k a b : Nat) : Int := f_msk I k a b (I k 5).toNat 0 0
theorem f_msk_rg (I : Nat → Nat → Int) (k a b : Nat) : ∀ (m i : Nat) (mq : Int), i + m ≤ 12 → (0 ≤ mq ∧ mq < 4096) → 0 ≤ f_msk I k a b m i mq ∧ f_msk I k a b m i mq < 4096
  | 0, _, _, _, h => h
  | m + 1, i, mq, h, hm => by
    unfold f_msk
    split
    · exact f_msk_rg I k a b m (i + 1) _ (by omega) (obit_rg hm (by omega))
    · exact f_msk_rg I k a b m (i + 1) mq (by omega) hm
set_option maxHeartbeats 2000000 in
set_option maxRecDepth 100000 in
theorem s_X2_lw_lp {l : Launch} {E : QE} {T : Nat → Nat × Nat} {I : Nat → Nat → Int} {J : Nat → Nat → Int64} {R : Nat → Nat → Option Nat} {n z : Nat} {k : Nat} (hk : LmB T R n k) (ht : ∀ j : Nat, 0 ≤ I (k + 4) j ∧ I (k + 4) j < 24) (hs : ∀ j : Nat, 0 ≤ I (k + 5) j ∧ I (k + 5) j < 24) (hcn : 0 ≤ I k 5 ∧ I k 5 ≤ 12) (a b : Nat) (ha : a < 12) (hb : b < 12) : ∀ (m i : Nat) (mq : Int) (x7 x8 : Option Value), i + m = (I k 5).toNat → (0 ≤ mq ∧ mq < 4096) → Go l E Y_X2_spotsInLineWith 0 0 31 [some (.ref (E.1 + k)), some (.int (iz (a : Int))), some (.int (iz (b : Int))), some (.int (iz mq)), some (.int (iz (I (k + 4) b - I (k + 4) a))), some (.int (iz (I (k + 5) b - I (k + 5) a))), some (.int (iz (i : Int))), x7, x8] [] (T, I, J, R, n, z) (KV (.int (iz (f_msk I k a b m i mq))) (T, I, J, R, n, z)) := by
  obtain ⟨t0, t1, t2, t3, t4, t5, r0, r1, r2, r3, r4, rl, hn⟩ := hk
  intro m
  induction m with
  | zero =>
    intro i mq x7 x8 hm hr
    refine g_iload6 (Y := Y_X2_spotsInLineWith) (pc' := 33) dX2_spotsInLineWith_31 rfl ?_
    refine g_aload0 (Y := Y_X2_spotsInLineWith) (pc' := 34) dX2_spotsInLineWith_33 rfl ?_
    refine g_getI (Y := Y_X2_spotsInLineWith) (pc' := 37) dX2_spotsInLineWith_34 rfl fl_X2_31 rfl (by assumption) (by omega) ?_
    refine g_icmp_ge (Y := Y_X2_spotsInLineWith) (t := 94) (pc' := 40) dX2_spotsInLineWith_37 (by decide) rfl ⟨by omega, by omega⟩ ⟨by omega, by omega⟩ (fun h37 => ?_) (fun h37 => ?_)
    · refine g_iload3 (Y := Y_X2_spotsInLineWith) (pc' := 95) dX2_spotsInLineWith_94 rfl ?_
      exact g_iret (Y := Y_X2_spotsInLineWith) dX2_spotsInLineWith_95 rfl (Nat.zero_le _) (Nat.zero_le _) (⟨rfl, rfl⟩)
    · exfalso; omega
  | succ m ih =>
    intro i mq x7 x8 hm hr
    refine g_iload6 (Y := Y_X2_spotsInLineWith) (pc' := 33) dX2_spotsInLineWith_31 rfl ?_
    refine g_aload0 (Y := Y_X2_spotsInLineWith) (pc' := 34) dX2_spotsInLineWith_33 rfl ?_
    refine g_getI (Y := Y_X2_spotsInLineWith) (pc' := 37) dX2_spotsInLineWith_34 rfl fl_X2_31 rfl (by assumption) (by omega) ?_
    refine g_icmp_ge (Y := Y_X2_spotsInLineWith) (t := 94) (pc' := 40) dX2_spotsInLineWith_37 (by decide) rfl ⟨by omega, by omega⟩ ⟨by omega, by omega⟩ (fun h37 => ?_) (fun h37 => ?_)
    · exfalso; omega
    · refine g_aload0 (Y := Y_X2_spotsInLineWith) (pc' := 41) dX2_spotsInLineWith_40 rfl ?_
      refine g_iload6 (Y := Y_X2_spotsInLineWith) (pc' := 43) dX2_spotsInLineWith_41 rfl ?_
      refine g_callVv (Y := Y_X2_spotsInLineWith) (c := 2) (s_X2_trackOf ⟨t0, t1, t2, t3, t4, t5, r0, r1, r2, r3, r4, rl, hn⟩ i (by omega)) (pc' := 46) dX2_spotsInLineWith_43 rfl cv_X2_87 rfl (by assumption) (by show _ < n; omega) ⟨by decide, _, rfl, rfl⟩ rfl rfl rfl rfl ?_
      refine g_aload0 (Y := Y_X2_spotsInLineWith) (pc' := 47) dX2_spotsInLineWith_46 rfl ?_
      refine g_iload1 (Y := Y_X2_spotsInLineWith) (pc' := 48) dX2_spotsInLineWith_47 rfl ?_
      refine g_callVv (Y := Y_X2_spotsInLineWith) (c := 2) (s_X2_trackOf ⟨t0, t1, t2, t3, t4, t5, r0, r1, r2, r3, r4, rl, hn⟩ a (by omega)) (pc' := 51) dX2_spotsInLineWith_48 rfl cv_X2_87 rfl (by assumption) (by show _ < n; omega) ⟨by decide, _, rfl, rfl⟩ rfl rfl rfl rfl ?_
      refine g_isub (Y := Y_X2_spotsInLineWith) (pc' := 52) dX2_spotsInLineWith_51 rfl ?_
      refine g_istore7 (Y := Y_X2_spotsInLineWith) (pc' := 54) dX2_spotsInLineWith_52 rfl (Nat.le_of_ble_eq_true rfl) rfl ?_
      refine g_aload0 (Y := Y_X2_spotsInLineWith) (pc' := 55) dX2_spotsInLineWith_54 rfl ?_
      refine g_iload6 (Y := Y_X2_spotsInLineWith) (pc' := 57) dX2_spotsInLineWith_55 rfl ?_
      refine g_callVv (Y := Y_X2_spotsInLineWith) (c := 2) (s_X2_sectorOf ⟨t0, t1, t2, t3, t4, t5, r0, r1, r2, r3, r4, rl, hn⟩ i (by omega)) (pc' := 60) dX2_spotsInLineWith_57 rfl cv_X2_90 rfl (by assumption) (by show _ < n; omega) ⟨by decide, _, rfl, rfl⟩ rfl rfl rfl rfl ?_
      refine g_aload0 (Y := Y_X2_spotsInLineWith) (pc' := 61) dX2_spotsInLineWith_60 rfl ?_
      refine g_iload1 (Y := Y_X2_spotsInLineWith) (pc' := 62) dX2_spotsInLineWith_61 rfl ?_
      refine g_callVv (Y := Y_X2_spotsInLineWith) (c := 2) (s_X2_sectorOf ⟨t0, t1, t2, t3, t4, t5, r0, r1, r2, r3, r4, rl, hn⟩ a (by omega)) (pc' := 65) dX2_spotsInLineWith_62 rfl cv_X2_90 rfl (by assumption) (by show _ < n; omega) ⟨by decide, _, rfl, rfl⟩ rfl rfl rfl rfl ?_
      refine g_isub (Y := Y_X2_spotsInLineWith) (pc' := 66) dX2_spotsInLineWith_65 rfl ?_
      refine g_istore8 (Y := Y_X2_spotsInLineWith) (pc' := 68) dX2_spotsInLineWith_66 rfl (Nat.le_of_ble_eq_true rfl) rfl ?_
      refine g_iload7 (Y := Y_X2_spotsInLineWith) (pc' := 70) dX2_spotsInLineWith_68 rfl ?_
      refine g_iload5 (Y := Y_X2_spotsInLineWith) (pc' := 72) dX2_spotsInLineWith_70 rfl ?_
      refine g_imul (Y := Y_X2_spotsInLineWith) (pc' := 73) dX2_spotsInLineWith_72 rfl ?_
      refine g_iload8 (Y := Y_X2_spotsInLineWith) (pc' := 75) dX2_spotsInLineWith_73 rfl ?_
      refine g_iload4 (Y := Y_X2_spotsInLineWith) (pc' := 77) dX2_spotsInLineWith_75 rfl ?_
      refine g_imul (Y := Y_X2_spotsInLineWith) (pc' := 78) dX2_spotsInLineWith_77 rfl ?_
      refine g_icmp_ne (Y := Y_X2_spotsInLineWith) (t := 88) (pc' := 81) dX2_spotsInLineWith_78 (by decide) rfl (by have q1 := ht i; have q2 := ht a; have q3 := ht b; have q4 := hs i; have q5 := hs a; have q6 := hs b; exact mul24 ⟨by omega, by omega⟩ ⟨by omega, by omega⟩) (by have q1 := ht i; have q2 := ht a; have q3 := ht b; have q4 := hs i; have q5 := hs a; have q6 := hs b; exact mul24 ⟨by omega, by omega⟩ ⟨by omega, by omega⟩) (fun h78 => ?_) (fun h78 => ?_)
      · have e : f_msk I k a b (m + 1) i mq = f_msk I k a b m (i + 1) mq := if_neg h78
        rw [e]
        refine g_iinc6 (Y := Y_X2_spotsInLineWith) (pc' := 91) dX2_spotsInLineWith_88 rfl (Nat.le_of_ble_eq_true rfl) rfl ?_
        refine g_goto (Y := Y_X2_spotsInLineWith) (t := 31) dX2_spotsInLineWith_91 (by decide) ?_
        first
          | exact ih (i + 1) _ _ _ (by omega) hr
          | exact ih (i + 1) _ _ _ (by omega) (obit_rg hr (by omega))
      · have e : f_msk I k a b (m + 1) i mq = f_msk I k a b m (i + 1) (obit mq i) := if_pos h78
        rw [e]
        refine g_iload3 (Y := Y_X2_spotsInLineWith) (pc' := 82) dX2_spotsInLineWith_81 rfl ?_
        refine g_iconst (Y := Y_X2_spotsInLineWith) (pc' := 83) dX2_spotsInLineWith_82 rfl ?_
        refine g_iload6 (Y := Y_X2_spotsInLineWith) (pc' := 85) dX2_spotsInLineWith_83 rfl ?_
        refine g_ishl (Y := Y_X2_spotsInLineWith) (pc' := 86) dX2_spotsInLineWith_85 rfl (iz_shl1 ⟨by omega, by omega⟩) ?_
        refine g_ior (Y := Y_X2_spotsInLineWith) (pc' := 87) dX2_spotsInLineWith_86 rfl (iz_obit hr.1) ?_
        refine g_istore3 (Y := Y_X2_spotsInLineWith) (pc' := 88) dX2_spotsInLineWith_87 rfl (Nat.le_of_ble_eq_true rfl) rfl ?_
        refine g_iinc6 (Y := Y_X2_spotsInLineWith) (pc' := 91) dX2_spotsInLineWith_88 rfl (Nat.le_of_ble_eq_true rfl) rfl ?_
        refine g_goto (Y := Y_X2_spotsInLineWith) (t := 31) dX2_spotsInLineWith_91 (by decide) ?_
        first
          | exact ih (i + 1) _ _ _ (by omega) hr
          | exact ih (i + 1) _ _ _ (by omega) (obit_rg hr (by omega))
set_option maxHeartbeats 2000000 in
set_option maxRecDepth 100000 in
theorem s_X2_spotsInLineWith {l : Launch} {E : QE} {T : Nat → Nat × Nat} {I : Nat → Nat → Int} {J : Nat → Nat → Int64} {R : Nat → Nat → Option Nat} {n z : Nat} {k : Nat} (hk : LmB T R n k) (ht : ∀ j : Nat, 0 ≤ I (k + 4) j ∧ I (k + 4) j < 24) (hs : ∀ j : Nat, 0 ≤ I (k + 5) j ∧ I (k + 5) j < 24) (hcn : 0 ≤ I k 5 ∧ I k 5 ≤ 12) (a b : Nat) (ha : a < 12) (hb : b < 12) : SpV l E Y_X2_spotsInLineWith [.ref (E.1 + k), .int (iz (a : Int)), .int (iz (b : Int))] (T, I, J, R, n, z) (.int (iz (f_lw I k a b))) (T, I, J, R, n, z) := by
  obtain ⟨t0, t1, t2, t3, t4, t5, r0, r1, r2, r3, r4, rl, hn⟩ := hk
  refine Sp.of [some (.ref (E.1 + k)), some (.int (iz (a : Int))), some (.int (iz (b : Int))), none, none, none, none, none, none] (by decide +kernel) (Nat.le_of_ble_eq_true rfl) (fun _ h => h) ?_
  refine g_iconst (Y := Y_X2_spotsInLineWith) (pc' := 1) dX2_spotsInLineWith_0 rfl ?_
  refine g_istore3 (Y := Y_X2_spotsInLineWith) (pc' := 2) dX2_spotsInLineWith_1 rfl (Nat.le_of_ble_eq_true rfl) rfl ?_
  refine g_aload0 (Y := Y_X2_spotsInLineWith) (pc' := 3) dX2_spotsInLineWith_2 rfl ?_
  refine g_iload2 (Y := Y_X2_spotsInLineWith) (pc' := 4) dX2_spotsInLineWith_3 rfl ?_
  refine g_callVv (Y := Y_X2_spotsInLineWith) (c := 2) (s_X2_trackOf ⟨t0, t1, t2, t3, t4, t5, r0, r1, r2, r3, r4, rl, hn⟩ b (by omega)) (pc' := 7) dX2_spotsInLineWith_4 rfl cv_X2_87 rfl (by assumption) (by show _ < n; omega) ⟨by decide, _, rfl, rfl⟩ rfl rfl rfl rfl ?_
  refine g_aload0 (Y := Y_X2_spotsInLineWith) (pc' := 8) dX2_spotsInLineWith_7 rfl ?_
  refine g_iload1 (Y := Y_X2_spotsInLineWith) (pc' := 9) dX2_spotsInLineWith_8 rfl ?_
  refine g_callVv (Y := Y_X2_spotsInLineWith) (c := 2) (s_X2_trackOf ⟨t0, t1, t2, t3, t4, t5, r0, r1, r2, r3, r4, rl, hn⟩ a (by omega)) (pc' := 12) dX2_spotsInLineWith_9 rfl cv_X2_87 rfl (by assumption) (by show _ < n; omega) ⟨by decide, _, rfl, rfl⟩ rfl rfl rfl rfl ?_
  refine g_isub (Y := Y_X2_spotsInLineWith) (pc' := 13) dX2_spotsInLineWith_12 rfl ?_
  refine g_istore4 (Y := Y_X2_spotsInLineWith) (pc' := 15) dX2_spotsInLineWith_13 rfl (Nat.le_of_ble_eq_true rfl) rfl ?_
  refine g_aload0 (Y := Y_X2_spotsInLineWith) (pc' := 16) dX2_spotsInLineWith_15 rfl ?_
  refine g_iload2 (Y := Y_X2_spotsInLineWith) (pc' := 17) dX2_spotsInLineWith_16 rfl ?_
  refine g_callVv (Y := Y_X2_spotsInLineWith) (c := 2) (s_X2_sectorOf ⟨t0, t1, t2, t3, t4, t5, r0, r1, r2, r3, r4, rl, hn⟩ b (by omega)) (pc' := 20) dX2_spotsInLineWith_17 rfl cv_X2_90 rfl (by assumption) (by show _ < n; omega) ⟨by decide, _, rfl, rfl⟩ rfl rfl rfl rfl ?_
  refine g_aload0 (Y := Y_X2_spotsInLineWith) (pc' := 21) dX2_spotsInLineWith_20 rfl ?_
  refine g_iload1 (Y := Y_X2_spotsInLineWith) (pc' := 22) dX2_spotsInLineWith_21 rfl ?_
  refine g_callVv (Y := Y_X2_spotsInLineWith) (c := 2) (s_X2_sectorOf ⟨t0, t1, t2, t3, t4, t5, r0, r1, r2, r3, r4, rl, hn⟩ a (by omega)) (pc' := 25) dX2_spotsInLineWith_22 rfl cv_X2_90 rfl (by assumption) (by show _ < n; omega) ⟨by decide, _, rfl, rfl⟩ rfl rfl rfl rfl ?_
  refine g_isub (Y := Y_X2_spotsInLineWith) (pc' := 26) dX2_spotsInLineWith_25 rfl ?_
  refine g_istore5 (Y := Y_X2_spotsInLineWith) (pc' := 28) dX2_spotsInLineWith_26 rfl (Nat.le_of_ble_eq_true rfl) rfl ?_
  refine g_iconst (Y := Y_X2_spotsInLineWith) (pc' := 29) dX2_spotsInLineWith_28 rfl ?_
  refine g_istore6 (Y := Y_X2_spotsInLineWith) (pc' := 31) dX2_spotsInLineWith_29 rfl (Nat.le_of_ble_eq_true rfl) rfl ?_
  exact s_X2_lw_lp ⟨t0, t1, t2, t3, t4, t5, r0, r1, r2, r3, r4, rl, hn⟩ ht hs hcn a b ha hb (I k 5).toNat 0 0 _ _ (by omega) (by omega)
def f_hit (k kl : Nat) : Nat → Nat → (Nat → Nat → Int) → Nat → Nat → Int
  | 0, _, I => I
  | m + 1, i, I => if 0 ≤ f_cellAt I kl i ∧ f_cellAt I kl i < 576 then f_hit k kl m (i + 1) (u2 I (k + 2) (f_cellAt I kl i).toNat (I (k + 2) (f_cellAt I kl i).toNat + 1)) else f_hit k kl m (i + 1) I
theorem f_cellAt_rg {I : Nat → Nat → Int} {k : Nat} (h4 : 0 ≤ I k 4 ∧ I k 4 < 24) (h5 : 0 ≤ I k 5 ∧ I k 5 < 24) (h1 : -24 < I k 1 ∧ I k 1 < 24) (h2 : -24 < I k 2 ∧ I k 2 < 24) {i : Int} (hs : -100 ≤ I k 6 + i ∧ I k 6 + i ≤ 100) : -2147483648 ≤ f_cellAt I k i ∧ f_cellAt I k i < 2147483648 := by
  have q1 := mulb (a := I k 6 + i) (b := I k 1) (A := 100) (B := 23) hs (by omega)
  have q2 := mulb (a := I k 6 + i) (b := I k 2) (A := 100) (B := 23) hs (by omega)
  unfold f_cellAt f_trk f_sec
  omega
theorem f_hit_ne (k kl : Nat) : ∀ (m i : Nat) (I : Nat → Nat → Int) (a : Nat), a ≠ k + 2 → f_hit k kl m i I a = I a
  | 0, _, _, _, _ => rfl
  | m + 1, i, I, a, h => by
    unfold f_hit
    split
    · rw [f_hit_ne k kl m (i + 1) _ a h, u2_ne h]
    · exact f_hit_ne k kl m (i + 1) I a h
theorem f_hit_rg (k kl : Nat) {B : Int} : ∀ (m i : Nat) (I : Nat → Nat → Int), (∀ j : Nat, 0 ≤ I (k + 2) j ∧ I (k + 2) j ≤ B) → ∀ j : Nat, 0 ≤ f_hit k kl m i I (k + 2) j ∧ f_hit k kl m i I (k + 2) j ≤ B + m
  | 0, _, I, h, j => by have := h j; unfold f_hit; omega
  | m + 1, i, I, h, j => by
    unfold f_hit
    split
    · have := f_hit_rg k kl (B := B + 1) m (i + 1) _ (fun j2 => (by
        by_cases e : j2 = (f_cellAt I kl i).toNat
        · subst e; rw [u2_at]; have := h (f_cellAt I kl i).toNat; omega
        · rw [u2_nj e]; have := h j2; omega : 0 ≤ u2 I (k + 2) (f_cellAt I kl i).toNat (I (k + 2) (f_cellAt I kl i).toNat + 1) (k + 2) j2 ∧ u2 I (k + 2) (f_cellAt I kl i).toNat (I (k + 2) (f_cellAt I kl i).toNat + 1) (k + 2) j2 ≤ B + 1)) j
      omega
    · have := f_hit_rg k kl (B := B) m (i + 1) I h j
      omega
set_option maxHeartbeats 2000000 in
set_option maxRecDepth 100000 in
theorem s_X2_hitCells_lp {l : Launch} {E : QE} {T : Nat → Nat × Nat} {J : Nat → Nat → Int64} {R : Nat → Nat → Option Nat} {n z : Nat} {k : Nat} (hk : LmB T R n k) {kl : Nat} (hkl : LnB T n kl) (hd : kl ≠ k + 2) {K : Option Value → QW → Prop} (L0 : Nat → Int) (h4 : 0 ≤ L0 4 ∧ L0 4 < 24) (h5 : 0 ≤ L0 5 ∧ L0 5 < 24) (h1 : -24 < L0 1 ∧ L0 1 < 24) (h2 : -24 < L0 2 ∧ L0 2 < 24) (h6 : -30 ≤ L0 6 ∧ L0 6 ≤ 30) (h3 : 0 ≤ L0 3 ∧ L0 3 ≤ 60) : ∀ (m i : Nat) (I : Nat → Nat → Int) (x3 : Option Value), I kl = L0 → i + m = (L0 3).toNat → (∀ L2 : Int, ∀ L3, Go l E Y_X2_hitCells 0 0 43 [some (.ref (E.1 + k)), some (.ref (E.1 + kl)), some (.int (iz L2)), L3] [] (T, f_hit k kl m i I, J, R, n, z) K) → Go l E Y_X2_hitCells 0 0 2 [some (.ref (E.1 + k)), some (.ref (E.1 + kl)), some (.int (iz (i : Int))), x3] [] (T, I, J, R, n, z) K := by
  obtain ⟨t0, t1, t2, t3, t4, t5, r0, r1, r2, r3, r4, rl, hn⟩ := hk
  intro m
  induction m with
  | zero =>
    intro i I x3 hL hm hend
    obtain ⟨u0, hn3⟩ := id hkl
    have g3 := congrFun hL 3
    refine g_aload1 (Y := Y_X2_hitCells) (pc' := 3) dX2_hitCells_2 rfl ?_
    refine g_ifnull (Y := Y_X2_hitCells) (pc' := 6) dX2_hitCells_3 rfl ?_
    refine g_iload2 (Y := Y_X2_hitCells) (pc' := 7) dX2_hitCells_6 rfl ?_
    refine g_aload1 (Y := Y_X2_hitCells) (pc' := 8) dX2_hitCells_7 rfl ?_
    refine g_getI (Y := Y_X2_hitCells) (pc' := 11) dX2_hitCells_8 rfl fl_X2_109 rfl (by assumption) (by omega) ?_
    refine g_icmp_ge (Y := Y_X2_hitCells) (t := 43) (pc' := 14) dX2_hitCells_11 (by decide) rfl ⟨by omega, by omega⟩ ⟨by omega, by omega⟩ (fun h11 => ?_) (fun h11 => ?_)
    · exact hend _ _
    · exfalso; omega
  | succ m ih =>
    intro i I x3 hL hm hend
    obtain ⟨u0, hn3⟩ := id hkl
    have g3 := congrFun hL 3
    have g6 := congrFun hL 6
    have hrg := f_cellAt_rg (I := I) (k := kl) (by rw [hL]; exact h4) (by rw [hL]; exact h5) (by rw [hL]; exact h1) (by rw [hL]; exact h2) (i := (i : Int)) ⟨by omega, by omega⟩
    refine g_aload1 (Y := Y_X2_hitCells) (pc' := 3) dX2_hitCells_2 rfl ?_
    refine g_ifnull (Y := Y_X2_hitCells) (pc' := 6) dX2_hitCells_3 rfl ?_
    refine g_iload2 (Y := Y_X2_hitCells) (pc' := 7) dX2_hitCells_6 rfl ?_
    refine g_aload1 (Y := Y_X2_hitCells) (pc' := 8) dX2_hitCells_7 rfl ?_
    refine g_getI (Y := Y_X2_hitCells) (pc' := 11) dX2_hitCells_8 rfl fl_X2_109 rfl (by assumption) (by omega) ?_
    refine g_icmp_ge (Y := Y_X2_hitCells) (t := 43) (pc' := 14) dX2_hitCells_11 (by decide) rfl ⟨by omega, by omega⟩ ⟨by omega, by omega⟩ (fun h11 => ?_) (fun h11 => ?_)
    · exfalso; omega
    · refine g_aload1 (Y := Y_X2_hitCells) (pc' := 15) dX2_hitCells_14 rfl ?_
      refine g_iload2 (Y := Y_X2_hitCells) (pc' := 16) dX2_hitCells_15 rfl ?_
      refine g_callVv (Y := Y_X2_hitCells) (c := 1) (s_X1_cellAt hkl _) (pc' := 19) dX2_hitCells_16 rfl cv_X2_112 rfl (by assumption) (by show _ < n; omega) ⟨by decide, _, rfl, rfl⟩ rfl rfl rfl rfl ?_
      refine g_istore3 (Y := Y_X2_hitCells) (pc' := 20) dX2_hitCells_19 rfl (Nat.le_of_ble_eq_true rfl) rfl ?_
      refine g_iload3 (Y := Y_X2_hitCells) (pc' := 21) dX2_hitCells_20 rfl ?_
      refine g_callSNv (Y := Y_X2_hitCells) (s_X4_isCell _ hrg) (pc' := 24) dX2_hitCells_21 rfl cv_X2_65 rfl rfl rfl rfl rfl ?_
      refine g_if_eq (Y := Y_X2_hitCells) (t := 37) (pc' := 27) dX2_hitCells_24 (by decide) rfl ⟨by omega, by omega⟩ (fun h24 => ?_) (fun h24 => ?_)
      · have e : f_hit k kl (m + 1) i I = f_hit k kl m (i + 1) I := if_neg (by omega)
        rw [e] at hend
        refine g_iinc2 (Y := Y_X2_hitCells) (pc' := 40) dX2_hitCells_37 rfl (Nat.le_of_ble_eq_true rfl) rfl ?_
        refine g_goto (Y := Y_X2_hitCells) (t := 2) dX2_hitCells_40 (by decide) ?_
        first
          | exact ih (i + 1) I _ hL (by omega) hend
          | exact ih (i + 1) _ _ ((u2_ne hd).trans hL) (by omega) hend
      · have hc9 : 0 ≤ f_cellAt I kl i ∧ f_cellAt I kl i < 576 := by omega
        have e : f_hit k kl (m + 1) i I = f_hit k kl m (i + 1) (u2 I (k + 2) (f_cellAt I kl i).toNat (I (k + 2) (f_cellAt I kl i).toNat + 1)) := if_pos hc9
        rw [e] at hend
        refine g_aload0 (Y := Y_X2_hitCells) (pc' := 28) dX2_hitCells_27 rfl ?_
        refine g_getR (Y := Y_X2_hitCells) (pc' := 31) dX2_hitCells_28 rfl fl_X2_17 rfl (by assumption) (by omega) (by assumption) ?_
        refine g_iload3 (Y := Y_X2_hitCells) (pc' := 32) dX2_hitCells_31 rfl ?_
        refine g_dup2 (Y := Y_X2_hitCells) (pc' := 33) dX2_hitCells_32 rfl rfl rfl ?_
        refine g_iald (Y := Y_X2_hitCells) (pc' := 34) dX2_hitCells_33 rfl (by assumption) (by omega) (by decide) ⟨by omega, by omega⟩ ?_
        refine g_iconst (Y := Y_X2_hitCells) (pc' := 35) dX2_hitCells_34 rfl ?_
        refine g_iadd (Y := Y_X2_hitCells) (pc' := 36) dX2_hitCells_35 rfl ?_
        refine g_iast (Y := Y_X2_hitCells) (pc' := 37) dX2_hitCells_36 rfl (by assumption) (by omega) (by decide) ⟨by omega, by omega⟩ ?_
        refine g_iinc2 (Y := Y_X2_hitCells) (pc' := 40) dX2_hitCells_37 rfl (Nat.le_of_ble_eq_true rfl) rfl ?_
        refine g_goto (Y := Y_X2_hitCells) (t := 2) dX2_hitCells_40 (by decide) ?_
        first
          | exact ih (i + 1) I _ hL (by omega) hend
          | exact ih (i + 1) _ _ ((u2_ne hd).trans hL) (by omega) hend
set_option maxHeartbeats 2000000 in
set_option maxRecDepth 100000 in
theorem s_X2_hitCells {l : Launch} {E : QE} {T : Nat → Nat × Nat} {I : Nat → Nat → Int} {J : Nat → Nat → Int64} {R : Nat → Nat → Option Nat} {n z : Nat} {k : Nat} (hk : LmB T R n k) {kl : Nat} (hkl : LnB T n kl) (hd : kl ≠ k + 2) (h4 : 0 ≤ I kl 4 ∧ I kl 4 < 24) (h5 : 0 ≤ I kl 5 ∧ I kl 5 < 24) (h1 : -24 < I kl 1 ∧ I kl 1 < 24) (h2 : -24 < I kl 2 ∧ I kl 2 < 24) (h6 : -30 ≤ I kl 6 ∧ I kl 6 ≤ 30) (h3 : 0 ≤ I kl 3 ∧ I kl 3 ≤ 60)  : SpN l E Y_X2_hitCells [.ref (E.1 + k), .ref (E.1 + kl)] (T, I, J, R, n, z) (T, f_hit k kl (I kl 3).toNat 0 I, J, R, n, z) := by
  obtain ⟨t0, t1, t2, t3, t4, t5, r0, r1, r2, r3, r4, rl, hn⟩ := hk
  refine Sp.of [some (.ref (E.1 + k)), some (.ref (E.1 + kl)), none, none] (by decide +kernel) (Nat.le_of_ble_eq_true rfl) (fun _ h => h) ?_
  refine g_iconst (Y := Y_X2_hitCells) (pc' := 1) dX2_hitCells_0 rfl ?_
  refine g_istore2 (Y := Y_X2_hitCells) (pc' := 2) dX2_hitCells_1 rfl (Nat.le_of_ble_eq_true rfl) rfl ?_
  refine s_X2_hitCells_lp ⟨t0, t1, t2, t3, t4, t5, r0, r1, r2, r3, r4, rl, hn⟩ hkl hd (I kl) h4 h5 h1 h2 h6 h3 (I kl 3).toNat 0 I _ rfl (by omega) (fun L2 L3 => ?_)
  exact g_vret (Y := Y_X2_hitCells) dX2_hitCells_43 rfl (Nat.zero_le _) (Nat.zero_le _) (⟨rfl, rfl⟩)
