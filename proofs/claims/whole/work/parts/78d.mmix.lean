/-! the reference: what it hashes of the map -/
set_option maxHeartbeats 2000000 in
set_option maxRecDepth 100000 in
theorem s_X5_mm_lp3 {l : Launch} {E : QE} {T : Nat → Nat × Nat} {I : Nat → Nat → Int} {J : Nat → Nat → Int64} {R : Nat → Nat → Option Nat} {n z : Nat} (hk : MdB T R n) (hz9 : ZV I) (hr9 : HR I) (hl9 : LV I) {i : Nat} (hi : (i : Int) < I 110 7) {K : Option Value → QW → Prop} : ∀ (f w : Nat) (h : Int64), w + f = 6 → (∀ L2 : Int, Go l E Y_X5_mixMap 0 0 66 [some (.ref (E.1 + 110)), some (.int (iz (i : Int))), some (.int (iz L2))] [] (T, I, jh J (hL (m_tl I i) f w h), R, n, z) K) → Go l E Y_X5_mixMap 0 0 44 [some (.ref (E.1 + 110)), some (.int (iz (i : Int))), some (.int (iz (w : Int)))] [] (T, I, jh J (h), R, n, z) K := by
  have hk0 := hk
  obtain ⟨t0, t1, t2, t3, t4, t5, t6, t7, t8, t9, t10, t11, t12, t13, r1, r2, r4, r5, r8, r9, r10, r11, r12, r13, r14, r15, r16, hn⟩ := hk
  intro f
  induction f with
  | zero =>
    intro w h hf hend
    refine g_iload2 (Y := Y_X5_mixMap) (pc' := 45) dX5_mixMap_44 rfl ?_
    refine g_iconst (Y := Y_X5_mixMap) (pc' := 46) dX5_mixMap_45 rfl ?_
    refine g_icmp_gt (Y := Y_X5_mixMap) (t := 66) (pc' := 49) dX5_mixMap_46 (by decide) rfl ⟨by omega, by omega⟩ ⟨by omega, by omega⟩ (fun h46 => ?_) (fun h46 => ?_)
    · exact hend _
    · exfalso; omega
  | succ f ih =>
    intro w h hf hend
    have lq := hl9.2.1 i hi
    have l66 := hl9.1
    refine g_iload2 (Y := Y_X5_mixMap) (pc' := 45) dX5_mixMap_44 rfl ?_
    refine g_iconst (Y := Y_X5_mixMap) (pc' := 46) dX5_mixMap_45 rfl ?_
    refine g_icmp_gt (Y := Y_X5_mixMap) (t := 66) (pc' := 49) dX5_mixMap_46 (by decide) rfl ⟨by omega, by omega⟩ ⟨by omega, by omega⟩ (fun h46 => ?_) (fun h46 => ?_)
    · exfalso; omega
    · refine g_aload0 (Y := Y_X5_mixMap) (pc' := 50) dX5_mixMap_49 rfl ?_
      refine g_aload0 (Y := Y_X5_mixMap) (pc' := 51) dX5_mixMap_50 rfl ?_
      refine g_iload1 (Y := Y_X5_mixMap) (pc' := 52) dX5_mixMap_51 rfl ?_
      refine g_iload2 (Y := Y_X5_mixMap) (pc' := 53) dX5_mixMap_52 rfl ?_
      refine g_callVv (Y := Y_X5_mixMap) (c := 5) (s_X5_toldLine hk0 hz9 hr9 (q := i) (by omega) lq w (by omega)) (pc' := 56) dX5_mixMap_53 rfl cv_X5_214 rfl (by first | exact t0 | exact t1 | exact r1 | exact t2 | exact t3 | exact t4 | exact t5 | exact t6 | exact t7 | exact t8 | exact t9 | exact t10 | exact t11 | exact t12 | exact t13 | exact r2 | exact r4 | exact r5 | exact r8 | exact r9 | exact r10 | exact r11 | exact r12 | exact r13 | exact r14 | exact r15 | exact r16) (by show _ < n; omega) ⟨by decide, _, rfl, rfl⟩ rfl rfl rfl rfl ?_
      refine g_i2l (Y := Y_X5_mixMap) (pc' := 57) dX5_mixMap_56 rfl ?_
      refine g_callVn (Y := Y_X5_mixMap) (c := 5) (s_X5_mix hk0 h _) (pc' := 60) dX5_mixMap_57 rfl cv_X5_267 rfl (by first | exact t0 | exact t1 | exact r1 | exact t2 | exact t3 | exact t4 | exact t5 | exact t6 | exact t7 | exact t8 | exact t9 | exact t10 | exact t11 | exact t12 | exact t13 | exact r2 | exact r4 | exact r5 | exact r8 | exact r9 | exact r10 | exact r11 | exact r12 | exact r13 | exact r14 | exact r15 | exact r16) (by show _ < n; omega) ⟨by decide, _, rfl, rfl⟩ rfl rfl rfl rfl ?_
      refine g_iinc2 (Y := Y_X5_mixMap) (pc' := 63) dX5_mixMap_60 rfl (Nat.le_of_ble_eq_true rfl) rfl ?_
      refine g_goto (Y := Y_X5_mixMap) (t := 44) dX5_mixMap_63 (by decide) ?_
      exact ih (w + 1) _ (by omega) hend
