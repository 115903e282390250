/-! constructors: a line, a text, a map -/
set_option maxHeartbeats 2000000 in
set_option maxRecDepth 100000 in
theorem s_X2_init_lp {l : Launch} {E : QE} {T : Nat → Nat × Nat} {I : Nat → Nat → Int} {J : Nat → Nat → Int64}  {k : Nat} (t0 : T k = (2, 0)) (t1 : T (k + 1) = (8, 22)) (hTl : ∀ j, j < 22 → T (k + 6 + j) = (1, 0)) {K : Option Value → QW → Prop} : ∀ (f i kc ks : Nat) (R : Nat → Nat → Option Nat), i + f = 22 → kc + f ≤ 27 → ks + 9 * f ≤ 1396 → R k 0 = some (k + 1) → Z0 I J R (k + 6) → K none (T, I, J, f_lnR k f i R, k + 6 + i + f, k + 6 + i + f + 1) → Go l E Y_X2_init kc ks 64 [some (.ref (E.1 + k)), some (.int (iz (i : Int)))] [] (T, I, J, R, k + 6 + i, k + 6 + i + 1) K := by
  intro f
  induction f with
  | zero =>
    intro i kc ks R hf hkc hks hR0 hz0 hend
    refine g_iload1 (Y := Y_X2_init) (pc' := 65) dX2_init_64 rfl ?_
    refine g_aload0 (Y := Y_X2_init) (pc' := 66) dX2_init_65 rfl ?_
    refine g_getR (Y := Y_X2_init) (pc' := 69) dX2_init_66 rfl fl_X2_11 rfl (by assumption) (by omega) (by assumption) ?_
    refine g_alen (Y := Y_X2_init) (pc' := 70) dX2_init_69 rfl (by assumption) (by decide) (by omega) ?_
    refine g_icmp_ge (Y := Y_X2_init) (t := 92) (pc' := 73) dX2_init_70 (by decide) rfl ⟨by omega, by omega⟩ ⟨by omega, by omega⟩ (fun h70 => ?_) (fun h70 => ?_)
    · exact g_vret (Y := Y_X2_init) dX2_init_92 rfl (by show kc ≤ 27; omega) (by show ks ≤ 1396; omega) (hend)
    · exfalso; omega
  | succ f ih =>
    intro i kc ks R hf hkc hks hR0 hz0 hend
    refine g_iload1 (Y := Y_X2_init) (pc' := 65) dX2_init_64 rfl ?_
    refine g_aload0 (Y := Y_X2_init) (pc' := 66) dX2_init_65 rfl ?_
    refine g_getR (Y := Y_X2_init) (pc' := 69) dX2_init_66 rfl fl_X2_11 rfl (by assumption) (by omega) (by assumption) ?_
    refine g_alen (Y := Y_X2_init) (pc' := 70) dX2_init_69 rfl (by assumption) (by decide) (by omega) ?_
    refine g_icmp_ge (Y := Y_X2_init) (t := 92) (pc' := 73) dX2_init_70 (by decide) rfl ⟨by omega, by omega⟩ ⟨by omega, by omega⟩ (fun h70 => ?_) (fun h70 => ?_)
    · exfalso; omega
    · refine g_aload0 (Y := Y_X2_init) (pc' := 74) dX2_init_73 rfl ?_
      refine g_getR (Y := Y_X2_init) (pc' := 77) dX2_init_74 rfl fl_X2_11 rfl (by assumption) (by omega) (by assumption) ?_
      refine g_iload1 (Y := Y_X2_init) (pc' := 78) dX2_init_77 rfl ?_
      refine g_new (Y := Y_X2_init) (n := k + 6 + i) (pc' := 81) dX2_init_78 rfl nw_X2_9 (hTl i (by omega)) (fun j => (hz0 (k + 6 + i) (by omega)).1 j) (fun j => (hz0 (k + 6 + i) (by omega)).2.1 j) (fun j => (hz0 (k + 6 + i) (by omega)).2.2 j) (by show kc + 1 ≤ 27; omega) (by show ks + 9 ≤ 1396; omega) ?_
      refine g_dup (Y := Y_X2_init) (pc' := 82) dX2_init_81 rfl rfl ?_
      refine g_callIN (Y := Y_X2_init) (s_X1_init (k := k + 6 + i) (hTl i (by omega)) (Nat.lt_succ_self _) ⟨(hz0 (k + 6 + i) (by omega)).1, (hz0 (k + 6 + i) (by omega)).2.1⟩) (pc' := 85) dX2_init_82 rfl cv_X2_41 (q_fit_mk (Nat.le_of_ble_eq_true rfl) (Nat.le_of_ble_eq_true rfl) (by show kc + 1 + 0 ≤ 27; omega) (by show ks + 9 + 0 ≤ 1396; omega)) rfl rfl rfl (fun r w1 hr => ?_)
      obtain ⟨rfl, rfl⟩ := hr
      refine g_aast (Y := Y_X2_init) (pc' := 86) dX2_init_85 rfl t1 (Or.inl ⟨rfl, rfl⟩) (by omega) (by decide) ⟨by omega, by omega⟩ (hTl i (by omega)) (by omega) ?_
      rw [show (i : Int).toNat = i from rfl]
      refine g_iinc1 (Y := Y_X2_init) (pc' := 89) dX2_init_86 rfl (Nat.le_of_ble_eq_true rfl) rfl ?_
      refine g_goto (Y := Y_X2_init) (t := 64) dX2_init_89 (by decide) ?_
      refine ih (i + 1) _ _ _ (by omega) (by show kc + 1 + 0 + f ≤ 27; omega) (by show ks + 9 + 0 + 9 * f ≤ 1396; omega) (by rw [u2_ne (by omega)]; exact hR0) (hz0.ne (fun _ _ => rfl) (fun _ _ => rfl) (fun a ha => u2_ne (by omega))) ?_
      rw [show k + 6 + (i + 1) + f = k + 6 + i + (f + 1) by omega]
      exact hend
