/-! the reference: what it hashes of the map -/
set_option maxHeartbeats 2000000 in
set_option maxRecDepth 100000 in
theorem s_X5_mm_lp2 {l : Launch} {E : QE} {T : Nat → Nat × Nat} {I : Nat → Nat → Int} {J : Nat → Nat → Int64} {R : Nat → Nat → Option Nat} {n z : Nat} (hk : MdB T R n) (hz9 : ZV I) (hr9 : HR I) (hl9 : LV I) {K : Option Value → QW → Prop} : ∀ (f i : Nat) (h : Int64) (x2 : Option Value), i + f = (I 110 7).toNat → (∀ (L1 : Int) (x2 : Option Value), Go l E Y_X5_mixMap 0 0 72 [some (.ref (E.1 + 110)), some (.int (iz L1)), x2] [] (T, I, jh J (m_hLL I f i h), R, n, z) K) → Go l E Y_X5_mixMap 0 0 34 [some (.ref (E.1 + 110)), some (.int (iz (i : Int))), x2] [] (T, I, jh J (h), R, n, z) K := by
  have hk0 := hk
  obtain ⟨t0, t1, t2, t3, t4, t5, t6, t7, t8, t9, t10, t11, t12, t13, r1, r2, r4, r5, r8, r9, r10, r11, r12, r13, r14, r15, r16, hn⟩ := hk
  intro f
  induction f with
  | zero =>
    intro i h x2 hf hend
    have l66 := hl9.1
    refine g_iload1 (Y := Y_X5_mixMap) (pc' := 35) dX5_mixMap_34 rfl ?_
    refine g_aload0 (Y := Y_X5_mixMap) (pc' := 36) dX5_mixMap_35 rfl ?_
    refine g_getI (Y := Y_X5_mixMap) (pc' := 39) dX5_mixMap_36 rfl fl_X5_72 rfl (by first | exact t0 | exact t1 | exact r1 | exact t2 | exact t3 | exact t4 | exact t5 | exact t6 | exact t7 | exact t8 | exact t9 | exact t10 | exact t11 | exact t12 | exact t13 | exact r2 | exact r4 | exact r5 | exact r8 | exact r9 | exact r10 | exact r11 | exact r12 | exact r13 | exact r14 | exact r15 | exact r16) (by omega) ?_
    refine g_icmp_ge (Y := Y_X5_mixMap) (t := 72) (pc' := 42) dX5_mixMap_39 (by decide) rfl ⟨by omega, by omega⟩ ⟨by omega, by omega⟩ (fun h39 => ?_) (fun h39 => ?_)
    · exact hend _ _
    · exfalso; omega
  | succ f ih =>
    intro i h x2 hf hend
    have l66 := hl9.1
    refine g_iload1 (Y := Y_X5_mixMap) (pc' := 35) dX5_mixMap_34 rfl ?_
    refine g_aload0 (Y := Y_X5_mixMap) (pc' := 36) dX5_mixMap_35 rfl ?_
    refine g_getI (Y := Y_X5_mixMap) (pc' := 39) dX5_mixMap_36 rfl fl_X5_72 rfl (by first | exact t0 | exact t1 | exact r1 | exact t2 | exact t3 | exact t4 | exact t5 | exact t6 | exact t7 | exact t8 | exact t9 | exact t10 | exact t11 | exact t12 | exact t13 | exact r2 | exact r4 | exact r5 | exact r8 | exact r9 | exact r10 | exact r11 | exact r12 | exact r13 | exact r14 | exact r15 | exact r16) (by omega) ?_
    refine g_icmp_ge (Y := Y_X5_mixMap) (t := 72) (pc' := 42) dX5_mixMap_39 (by decide) rfl ⟨by omega, by omega⟩ ⟨by omega, by omega⟩ (fun h39 => ?_) (fun h39 => ?_)
    · exfalso; omega
    · refine g_iconst (Y := Y_X5_mixMap) (pc' := 43) dX5_mixMap_42 rfl ?_
      refine g_istore2 (Y := Y_X5_mixMap) (pc' := 44) dX5_mixMap_43 rfl (Nat.le_of_ble_eq_true rfl) rfl ?_
      refine s_X5_mm_lp3 hk0 hz9 hr9 hl9 (i := i) (by omega) 6 0 h rfl (fun L2 => ?_)
      refine g_iinc1 (Y := Y_X5_mixMap) (pc' := 69) dX5_mixMap_66 rfl (Nat.le_of_ble_eq_true rfl) rfl ?_
      refine g_goto (Y := Y_X5_mixMap) (t := 34) dX5_mixMap_69 (by decide) ?_
      exact ih (i + 1) _ _ (by omega) hend
