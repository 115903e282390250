/-! constructors: a state -/
set_option maxHeartbeats 2000000 in
set_option maxRecDepth 100000 in
theorem s_X3_init_lp2 {l : Launch} {E : QE} {T : Nat → Nat × Nat} {J : Nat → Nat → Int64} {R : Nat → Nat → Option Nat} {n z : Nat} {k : Nat} (hk : StB T R n k) {K : Option Value → QW → Prop} : ∀ (f i : Nat) (I : Nat → Nat → Int), i + f = 480 → (∀ L1 : Int, Go l E Y_X3_init 5 1551 137 [some (.ref (E.1 + k)), some (.int (iz L1))] [] (T, (f_neg2 (k + 3) f i I), J, R, n, z) K) → Go l E Y_X3_init 5 1551 99 [some (.ref (E.1 + k)), some (.int (iz (i : Int)))] [] (T, I, J, R, n, z) K := by
  obtain ⟨t0, t1, t2, t3, t4, t5, r0, r1, r2, r3, r4, hn⟩ := hk
  intro f
  induction f with
  | zero =>
    intro i I hf hend
    refine g_iload1 (Y := Y_X3_init) (pc' := 100) dX3_init_99 rfl ?_
    refine g_aload0 (Y := Y_X3_init) (pc' := 101) dX3_init_100 rfl ?_
    refine g_getR (Y := Y_X3_init) (pc' := 104) dX3_init_101 rfl fl_X3_18 rfl (by assumption) (by omega) (by assumption) ?_
    refine g_alen (Y := Y_X3_init) (pc' := 105) dX3_init_104 rfl (by assumption) (by decide) (by omega) ?_
    refine g_icmp_ge (Y := Y_X3_init) (t := 137) (pc' := 108) dX3_init_105 (by decide) rfl ⟨by omega, by omega⟩ ⟨by omega, by omega⟩ (fun h105 => ?_) (fun h105 => ?_)
    · exact hend _
    · exfalso; omega
  | succ f ih =>
    intro i I hf hend
    refine g_iload1 (Y := Y_X3_init) (pc' := 100) dX3_init_99 rfl ?_
    refine g_aload0 (Y := Y_X3_init) (pc' := 101) dX3_init_100 rfl ?_
    refine g_getR (Y := Y_X3_init) (pc' := 104) dX3_init_101 rfl fl_X3_18 rfl (by assumption) (by omega) (by assumption) ?_
    refine g_alen (Y := Y_X3_init) (pc' := 105) dX3_init_104 rfl (by assumption) (by decide) (by omega) ?_
    refine g_icmp_ge (Y := Y_X3_init) (t := 137) (pc' := 108) dX3_init_105 (by decide) rfl ⟨by omega, by omega⟩ ⟨by omega, by omega⟩ (fun h105 => ?_) (fun h105 => ?_)
    · exfalso; omega
    · refine g_iload1 (Y := Y_X3_init) (pc' := 109) dX3_init_108 rfl ?_
      refine g_aload0 (Y := Y_X3_init) (pc' := 110) dX3_init_109 rfl ?_
      refine g_getR (Y := Y_X3_init) (pc' := 113) dX3_init_110 rfl fl_X3_21 rfl (by assumption) (by omega) (by assumption) ?_
      refine g_alen (Y := Y_X3_init) (pc' := 114) dX3_init_113 rfl (by assumption) (by decide) (by omega) ?_
      refine g_icmp_ge (Y := Y_X3_init) (t := 137) (pc' := 117) dX3_init_114 (by decide) rfl ⟨by omega, by omega⟩ ⟨by omega, by omega⟩ (fun h114 => ?_) (fun h114 => ?_)
      · exfalso; omega
      · refine g_aload0 (Y := Y_X3_init) (pc' := 118) dX3_init_117 rfl ?_
        refine g_getR (Y := Y_X3_init) (pc' := 121) dX3_init_118 rfl fl_X3_18 rfl (by assumption) (by omega) (by assumption) ?_
        refine g_iload1 (Y := Y_X3_init) (pc' := 122) dX3_init_121 rfl ?_
        refine g_iconst (Y := Y_X3_init) (pc' := 123) dX3_init_122 rfl ?_
        refine g_iast (Y := Y_X3_init) (pc' := 124) dX3_init_123 rfl (by assumption) (by omega) (by decide) ⟨by omega, by omega⟩ ?_
        rw [show (i : Int).toNat = i from rfl]
        refine g_aload0 (Y := Y_X3_init) (pc' := 125) dX3_init_124 rfl ?_
        refine g_getR (Y := Y_X3_init) (pc' := 128) dX3_init_125 rfl fl_X3_21 rfl (by assumption) (by omega) (by assumption) ?_
        refine g_iload1 (Y := Y_X3_init) (pc' := 129) dX3_init_128 rfl ?_
        refine g_iconst (Y := Y_X3_init) (pc' := 130) dX3_init_129 rfl ?_
        refine g_iast (Y := Y_X3_init) (pc' := 131) dX3_init_130 rfl (by assumption) (by omega) (by decide) ⟨by omega, by omega⟩ ?_
        rw [show (i : Int).toNat = i from rfl]
        refine g_iinc1 (Y := Y_X3_init) (pc' := 134) dX3_init_131 rfl (Nat.le_of_ble_eq_true rfl) rfl ?_
        refine g_goto (Y := Y_X3_init) (t := 99) dX3_init_134 (by decide) ?_
        exact ih (i + 1) _ (by omega) hend
