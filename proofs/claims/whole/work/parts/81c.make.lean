/-! constructors: a state -/
set_option maxHeartbeats 2000000 in
set_option maxRecDepth 100000 in
theorem s_X3_init_lp3 {l : Launch} {E : QE} {T : Nat → Nat × Nat} {J : Nat → Nat → Int64} {R : Nat → Nat → Option Nat} {n z : Nat} {k : Nat} (hk : StB T R n k) {K : Option Value → QW → Prop} {I9 : Nat → Nat → Int} (hend : K none (T, I9, J, R, n, z)) : ∀ (f i : Nat) (I : Nat → Nat → Int), i + f = 576 → f_neg (k + 5) f i I = I9 → Go l E Y_X3_init 5 1551 139 [some (.ref (E.1 + k)), some (.int (iz (i : Int)))] [] (T, I, J, R, n, z) K := by
  obtain ⟨t0, t1, t2, t3, t4, t5, r0, r1, r2, r3, r4, hn⟩ := hk
  intro f
  induction f with
  | zero =>
    intro i I hf he
    refine g_iload1 (Y := Y_X3_init) (pc' := 140) dX3_init_139 rfl ?_
    refine g_aload0 (Y := Y_X3_init) (pc' := 141) dX3_init_140 rfl ?_
    refine g_getR (Y := Y_X3_init) (pc' := 144) dX3_init_141 rfl fl_X3_24 rfl (by assumption) (by omega) (by assumption) ?_
    refine g_alen (Y := Y_X3_init) (pc' := 145) dX3_init_144 rfl (by assumption) (by decide) (by omega) ?_
    refine g_icmp_ge (Y := Y_X3_init) (t := 161) (pc' := 148) dX3_init_145 (by decide) rfl ⟨by omega, by omega⟩ ⟨by omega, by omega⟩ (fun h145 => ?_) (fun h145 => ?_)
    · rw [show I = I9 from he]
      exact g_vret (Y := Y_X3_init) dX3_init_161 rfl (Nat.le_refl _) (Nat.le_refl _) (hend)
    · exfalso; omega
  | succ f ih =>
    intro i I hf he
    refine g_iload1 (Y := Y_X3_init) (pc' := 140) dX3_init_139 rfl ?_
    refine g_aload0 (Y := Y_X3_init) (pc' := 141) dX3_init_140 rfl ?_
    refine g_getR (Y := Y_X3_init) (pc' := 144) dX3_init_141 rfl fl_X3_24 rfl (by assumption) (by omega) (by assumption) ?_
    refine g_alen (Y := Y_X3_init) (pc' := 145) dX3_init_144 rfl (by assumption) (by decide) (by omega) ?_
    refine g_icmp_ge (Y := Y_X3_init) (t := 161) (pc' := 148) dX3_init_145 (by decide) rfl ⟨by omega, by omega⟩ ⟨by omega, by omega⟩ (fun h145 => ?_) (fun h145 => ?_)
    · exfalso; omega
    · refine g_aload0 (Y := Y_X3_init) (pc' := 149) dX3_init_148 rfl ?_
      refine g_getR (Y := Y_X3_init) (pc' := 152) dX3_init_149 rfl fl_X3_24 rfl (by assumption) (by omega) (by assumption) ?_
      refine g_iload1 (Y := Y_X3_init) (pc' := 153) dX3_init_152 rfl ?_
      refine g_iconst (Y := Y_X3_init) (pc' := 154) dX3_init_153 rfl ?_
      refine g_iast (Y := Y_X3_init) (pc' := 155) dX3_init_154 rfl (by assumption) (by omega) (by decide) ⟨by omega, by omega⟩ ?_
      rw [show (i : Int).toNat = i from rfl]
      refine g_iinc1 (Y := Y_X3_init) (pc' := 158) dX3_init_155 rfl (Nat.le_of_ble_eq_true rfl) rfl ?_
      refine g_goto (Y := Y_X3_init) (t := 139) dX3_init_158 (by decide) ?_
      exact ih (i + 1) _ (by omega) he
