/-! the reference: its digest -/
set_option maxHeartbeats 2000000 in
set_option maxRecDepth 100000 in
theorem s_X5_dg1_lp {l : Launch} {E : QE} {T : Nat → Nat × Nat} {J : Nat → Nat → Int64} {R : Nat → Nat → Option Nat} {n z : Nat} (hk : MdB T R n) {K : Option Value → QW → Prop} : ∀ (f i : Nat) (I : Nat → Nat → Int) (h : Int64), i + f = 10 → ZV I → HB I → (∀ L1 : Int, Go l E Y_X5_digest 0 0 36 [some (.ref (E.1 + 110)), some (.int (iz L1))] [] (T, (m_dcL f i I h).2, jh J (m_dcL f i I h).1, R, n, z) K) → Go l E Y_X5_digest 0 0 14 [some (.ref (E.1 + 110)), some (.int (iz (i : Int)))] [] (T, I, jh J (h), R, n, z) K := by
  have hk0 := hk
  obtain ⟨t0, t1, t2, t3, t4, t5, t6, t7, t8, t9, t10, t11, t12, t13, r1, r2, r4, r5, r8, r9, r10, r11, r12, r13, r14, r15, r16, hn⟩ := hk
  intro f
  induction f with
  | zero =>
    intro i I h hf hz9 hb9 hend
    refine g_iload1 (Y := Y_X5_digest) (pc' := 15) dX5_digest_14 rfl ?_
    refine g_bipush (Y := Y_X5_digest) (pc' := 17) dX5_digest_15 rfl (by decide) ?_
    refine g_icmp_gt (Y := Y_X5_digest) (t := 36) (pc' := 20) dX5_digest_17 (by decide) rfl ⟨by omega, by omega⟩ ⟨by omega, by omega⟩ (fun h17 => ?_) (fun h17 => ?_)
    · exact hend _
    · exfalso; omega
  | succ f ih =>
    intro i I h hf hz9 hb9 hend
    have mk := MK_ctI (I := I) (w := (i : Int))
    have hsp := s_X5_counted (l := l) (E := E) (J := jh J h) (z := z) hk0 hz9 hb9 i (by omega)
    have nx := ih (i + 1) (m_ctI I i) (hx h (m_ctd (m_ctI I i) i)) (by omega) (mk.zv hz9) (mk.2.2.2 hz9 hb9) hend
    clear hend
    generalize m_ctd (m_ctI I i) i = a9 at hsp nx ⊢
    generalize m_ctI I i = I2 at hsp nx ⊢
    refine g_iload1 (Y := Y_X5_digest) (pc' := 15) dX5_digest_14 rfl ?_
    refine g_bipush (Y := Y_X5_digest) (pc' := 17) dX5_digest_15 rfl (by decide) ?_
    refine g_icmp_gt (Y := Y_X5_digest) (t := 36) (pc' := 20) dX5_digest_17 (by decide) rfl ⟨by omega, by omega⟩ ⟨by omega, by omega⟩ (fun h17 => ?_) (fun h17 => ?_)
    · exfalso; omega
    · refine g_aload0 (Y := Y_X5_digest) (pc' := 21) dX5_digest_20 rfl ?_
      refine g_aload0 (Y := Y_X5_digest) (pc' := 22) dX5_digest_21 rfl ?_
      refine g_iload1 (Y := Y_X5_digest) (pc' := 23) dX5_digest_22 rfl ?_
      refine g_callVv (Y := Y_X5_digest) (c := 5) (hsp) (pc' := 26) dX5_digest_23 rfl cv_X5_226 rfl (by first | exact t0 | exact t1 | exact r1 | exact t2 | exact t3 | exact t4 | exact t5 | exact t6 | exact t7 | exact t8 | exact t9 | exact t10 | exact t11 | exact t12 | exact t13 | exact r2 | exact r4 | exact r5 | exact r8 | exact r9 | exact r10 | exact r11 | exact r12 | exact r13 | exact r14 | exact r15 | exact r16) (by show _ < n; omega) ⟨by decide, _, rfl, rfl⟩ rfl rfl rfl rfl ?_
      refine g_i2l (Y := Y_X5_digest) (pc' := 27) dX5_digest_26 rfl ?_
      refine g_callVn (Y := Y_X5_digest) (c := 5) (s_X5_mix hk0 h _) (pc' := 30) dX5_digest_27 rfl cv_X5_267 rfl (by first | exact t0 | exact t1 | exact r1 | exact t2 | exact t3 | exact t4 | exact t5 | exact t6 | exact t7 | exact t8 | exact t9 | exact t10 | exact t11 | exact t12 | exact t13 | exact r2 | exact r4 | exact r5 | exact r8 | exact r9 | exact r10 | exact r11 | exact r12 | exact r13 | exact r14 | exact r15 | exact r16) (by show _ < n; omega) ⟨by decide, _, rfl, rfl⟩ rfl rfl rfl rfl ?_
      refine g_iinc1 (Y := Y_X5_digest) (pc' := 33) dX5_digest_30 rfl (Nat.le_of_ble_eq_true rfl) rfl ?_
      refine g_goto (Y := Y_X5_digest) (t := 14) dX5_digest_33 (by decide) ?_
      exact nx
