/-! the reference: a text is read, an order is followed -/
set_option maxHeartbeats 2000000 in
set_option maxRecDepth 100000 in
theorem s_X5_rb_lp {l : Launch} {E : QE} {T : Nat → Nat × Nat} {J : Nat → Nat → Int64} {R : Nat → Nat → Option Nat} {n z : Nat} (hk : MdB T R n) : ∀ (f : Nat) (I : Nat → Nat → Int), TV I → AV I → I 110 19 = -1 → OV I → 61 ≤ I 110 18 + f → Go l E Y_X5_readBuffer 0 0 17 [some (.ref (E.1 + 110)), some (.int (iz 1))] [] (T, I, J, R, n, z) (KV (.int (iz (m_rbL f I 110 19))) (T, m_rbL f I, J, R, n, z)) := by
  have hk0 := hk
  obtain ⟨t0, t1, t2, t3, t4, t5, t6, t7, t8, t9, t10, t11, t12, t13, r1, r2, r4, r5, r8, r9, r10, r11, r12, r13, r14, r15, r16, hn⟩ := hk
  intro f
  induction f with
  | zero =>
    intro I hv9 ha9 hw9 ho9 hf
    have v1 := hv9.1
    have a1 := ha9.2
    exfalso; omega
  | succ f ih =>
    intro I hv9 ha9 hw9 ho9 hf
    have v1 := hv9.1
    have a1 := ha9.2
    obtain ⟨o1, o2, o3⟩ := id ho9
    have hout : ∀ I1 : Nat → Nat → Int, (I1 110 19 = -1 ∨ 0 ≤ I1 110 19 ∧ I1 110 19 ≤ 60) → Go l E Y_X5_readBuffer 0 0 17 [some (.ref (E.1 + 110)), some (.int (iz 0))] [] (T, I1, J, R, n, z) (KV (.int (iz (I1 110 19))) (T, I1, J, R, n, z)) := by
      intro I1 hrg
      refine g_iload1 (Y := Y_X5_readBuffer) (pc' := 18) dX5_readBuffer_17 rfl ?_
      refine g_if_eq (Y := Y_X5_readBuffer) (t := 89) (pc' := 21) dX5_readBuffer_18 (by decide) rfl ⟨by omega, by omega⟩ (fun h18 => ?_) (fun h18 => ?_)
      · refine g_aload0 (Y := Y_X5_readBuffer) (pc' := 90) dX5_readBuffer_89 rfl ?_
        refine g_getI (Y := Y_X5_readBuffer) (pc' := 93) dX5_readBuffer_90 rfl fl_X5_176 rfl (by assumption) (by omega) ?_
        exact g_iret (Y := Y_X5_readBuffer) dX5_readBuffer_93 rfl (Nat.zero_le _) (Nat.zero_le _) (⟨rfl, rfl⟩)
      · exact absurd rfl h18
    obtain ⟨c1, c2, c3⟩ := ro_OV hv9 ha9 hw9 ho9
    obtain ⟨b1, b2, b3, b4, b5⟩ : TV (m_ro I) ∧ AV (m_ro I) ∧ _ := roT_AV hv9 ha9 hw9 (t := (3 * I 110 17).toNat)
    have hr1 := c1.2.1
    have vr := b1.1
    have ar := b2.1
    have ar2 := b2.2
    have rl := m_let_rg b1 b2
    obtain ⟨d1, d2, d3, d4, d5⟩ := semi_AV (I := m_ro I) b1 b2
    have d22 := d2.2
    have d21 := d1.1
    have ih9 := fun h1 => ih (m_semi (m_ro I)) d1 d2 h1
    refine g_iload1 (Y := Y_X5_readBuffer) (pc' := 18) dX5_readBuffer_17 rfl ?_
    refine g_if_eq (Y := Y_X5_readBuffer) (t := 89) (pc' := 21) dX5_readBuffer_18 (by decide) rfl ⟨by omega, by omega⟩ (fun h18 => ?_) (fun h18 => ?_)
    · exact absurd h18 (by decide)
    · refine g_aload0 (Y := Y_X5_readBuffer) (pc' := 22) dX5_readBuffer_21 rfl ?_
      refine g_callVn (Y := Y_X5_readBuffer) (c := 5) (s_X5_readOrder hk0 hv9 ha9 hw9 (by omega)) (pc' := 25) dX5_readBuffer_22 rfl cv_X5_192 rfl (by assumption) (by show _ < n; omega) ⟨by decide, _, rfl, rfl⟩ rfl rfl rfl rfl ?_
      refine g_aload0 (Y := Y_X5_readBuffer) (pc' := 26) dX5_readBuffer_25 rfl ?_
      refine g_getI (Y := Y_X5_readBuffer) (pc' := 29) dX5_readBuffer_26 rfl fl_X5_176 rfl (by assumption) (by omega) ?_
      refine g_iconst (Y := Y_X5_readBuffer) (pc' := 30) dX5_readBuffer_29 rfl ?_
      refine g_icmp_ne (Y := Y_X5_readBuffer) (t := 48) (pc' := 33) dX5_readBuffer_30 (by decide) rfl ⟨by omega, by omega⟩ ⟨by omega, by omega⟩ (fun h30 => ?_) (fun h30 => ?_)
      · have e : m_rbL (f + 1) I = m_ro I := if_neg (by omega)
        rw [e]
        refine g_iconst (Y := Y_X5_readBuffer) (pc' := 49) dX5_readBuffer_48 rfl ?_
        refine g_istore1 (Y := Y_X5_readBuffer) (pc' := 50) dX5_readBuffer_49 rfl (Nat.le_of_ble_eq_true rfl) rfl ?_
        refine g_iload1 (Y := Y_X5_readBuffer) (pc' := 51) dX5_readBuffer_50 rfl ?_
        refine g_if_eq (Y := Y_X5_readBuffer) (t := 17) (pc' := 54) dX5_readBuffer_51 (by decide) rfl ⟨by omega, by omega⟩ (fun h51 => ?_) (fun h51 => ?_)
        · exact hout _ hr1
        · exact absurd rfl h51
      · refine g_aload0 (Y := Y_X5_readBuffer) (pc' := 34) dX5_readBuffer_33 rfl ?_
        refine g_getI (Y := Y_X5_readBuffer) (pc' := 37) dX5_readBuffer_34 rfl fl_X5_173 rfl (by assumption) (by omega) ?_
        refine g_aload0 (Y := Y_X5_readBuffer) (pc' := 38) dX5_readBuffer_37 rfl ?_
        refine g_getI (Y := Y_X5_readBuffer) (pc' := 41) dX5_readBuffer_38 rfl fl_X5_170 rfl (by assumption) (by omega) ?_
        refine g_icmp_ge (Y := Y_X5_readBuffer) (t := 48) (pc' := 44) dX5_readBuffer_41 (by decide) rfl ⟨by omega, by omega⟩ ⟨by omega, by omega⟩ (fun h41 => ?_) (fun h41 => ?_)
        · have e : m_rbL (f + 1) I = m_ro I := if_neg (by omega)
          rw [e]
          refine g_iconst (Y := Y_X5_readBuffer) (pc' := 49) dX5_readBuffer_48 rfl ?_
          refine g_istore1 (Y := Y_X5_readBuffer) (pc' := 50) dX5_readBuffer_49 rfl (Nat.le_of_ble_eq_true rfl) rfl ?_
          refine g_iload1 (Y := Y_X5_readBuffer) (pc' := 51) dX5_readBuffer_50 rfl ?_
          refine g_if_eq (Y := Y_X5_readBuffer) (t := 17) (pc' := 54) dX5_readBuffer_51 (by decide) rfl ⟨by omega, by omega⟩ (fun h51 => ?_) (fun h51 => ?_)
          · exact hout _ hr1
          · exact absurd rfl h51
        · refine g_iconst (Y := Y_X5_readBuffer) (pc' := 45) dX5_readBuffer_44 rfl ?_
          refine g_goto (Y := Y_X5_readBuffer) (t := 49) dX5_readBuffer_45 (by decide) ?_
          refine g_istore1 (Y := Y_X5_readBuffer) (pc' := 50) dX5_readBuffer_49 rfl (Nat.le_of_ble_eq_true rfl) rfl ?_
          refine g_iload1 (Y := Y_X5_readBuffer) (pc' := 51) dX5_readBuffer_50 rfl ?_
          refine g_if_eq (Y := Y_X5_readBuffer) (t := 17) (pc' := 54) dX5_readBuffer_51 (by decide) rfl ⟨by omega, by omega⟩ (fun h51 => ?_) (fun h51 => ?_)
          · exact absurd h51 (by decide)
          · refine g_aload0 (Y := Y_X5_readBuffer) (pc' := 55) dX5_readBuffer_54 rfl ?_
            refine g_aload0 (Y := Y_X5_readBuffer) (pc' := 56) dX5_readBuffer_55 rfl ?_
            refine g_callVv (Y := Y_X5_readBuffer) (c := 5) (s_X5_letter (I := m_ro I) hk0 b1 b2) (pc' := 59) dX5_readBuffer_56 rfl cv_X5_179 rfl (by assumption) (by show _ < n; omega) ⟨by decide, _, rfl, rfl⟩ rfl rfl rfl rfl ?_
            refine g_bipush (Y := Y_X5_readBuffer) (pc' := 61) dX5_readBuffer_59 rfl (by decide) ?_
            refine g_icmp_ne (Y := Y_X5_readBuffer) (t := 68) (pc' := 64) dX5_readBuffer_61 (by decide) rfl ⟨by omega, by omega⟩ ⟨by omega, by omega⟩ (fun h61 => ?_) (fun h61 => ?_)
            · have e3 : m_semi (m_ro I) = m_want (m_ro I) 0 := by unfold m_semi; rw [if_neg h61]
              rw [e3] at ih9 d22 d21 d4 d5 d3
              refine g_iconst (Y := Y_X5_readBuffer) (pc' := 69) dX5_readBuffer_68 rfl ?_
              first
              | (refine g_callVn (Y := Y_X5_readBuffer) (c := 5) (s_X5_wants (I := m_ro I) hk0 b1 b2 0 (Or.inl rfl)) (pc' := 72) dX5_readBuffer_69 rfl cv_X5_182 rfl (by assumption) (by show _ < n; omega) ⟨by decide, _, rfl, rfl⟩ rfl rfl rfl rfl ?_)
              | (refine g_callVn (Y := Y_X5_readBuffer) (c := 5) (s_X5_wants (I := m_ro I) hk0 b1 b2 1 (Or.inr rfl)) (pc' := 72) dX5_readBuffer_69 rfl cv_X5_182 rfl (by assumption) (by show _ < n; omega) ⟨by decide, _, rfl, rfl⟩ rfl rfl rfl rfl ?_)
              refine g_aload0 (Y := Y_X5_readBuffer) (pc' := 73) dX5_readBuffer_72 rfl ?_
              refine g_getI (Y := Y_X5_readBuffer) (pc' := 76) dX5_readBuffer_73 rfl fl_X5_176 rfl (by assumption) (by omega) ?_
              refine g_iconst (Y := Y_X5_readBuffer) (pc' := 77) dX5_readBuffer_76 rfl ?_
              refine g_icmp_ne (Y := Y_X5_readBuffer) (t := 84) (pc' := 80) dX5_readBuffer_77 (by decide) rfl ⟨by omega, by omega⟩ ⟨by omega, by omega⟩ (fun h77 => ?_) (fun h77 => ?_)
              · have e : m_rbL (f + 1) I = m_semi (m_ro I) := (if_pos (by omega)).trans (if_neg (by rw [e3]; exact h77))
                rw [e, e3]
                refine g_iconst (Y := Y_X5_readBuffer) (pc' := 85) dX5_readBuffer_84 rfl ?_
                refine g_istore1 (Y := Y_X5_readBuffer) (pc' := 86) dX5_readBuffer_85 rfl (Nat.le_of_ble_eq_true rfl) rfl ?_
                refine g_goto (Y := Y_X5_readBuffer) (t := 17) dX5_readBuffer_86 (by decide) ?_
                exact hout _ (by omega)
              · have e : m_rbL (f + 1) I = m_rbL f (m_semi (m_ro I)) := (if_pos (by omega)).trans (if_pos (by rw [e3]; exact h77))
                rw [e, e3]
                refine g_iconst (Y := Y_X5_readBuffer) (pc' := 81) dX5_readBuffer_80 rfl ?_
                refine g_goto (Y := Y_X5_readBuffer) (t := 85) dX5_readBuffer_81 (by decide) ?_
                refine g_istore1 (Y := Y_X5_readBuffer) (pc' := 86) dX5_readBuffer_85 rfl (Nat.le_of_ble_eq_true rfl) rfl ?_
                refine g_goto (Y := Y_X5_readBuffer) (t := 17) dX5_readBuffer_86 (by decide) ?_
                have c33 := c3 (by omega)
                have d33 := d3 h77
                refine ih9 h77 ⟨by rw [d4]; exact c1.1.1, by rw [d4, d33.2]; omega, fun k9 hk9 => ?_⟩ (by rw [d33.2]; omega)
                rw [d4] at hk9
                rw [d5]
                exact c1.2.2 (by omega) k9 hk9
            · have e3 : m_semi (m_ro I) = m_want (m_ro I) 1 := by unfold m_semi; rw [if_pos h61]
              rw [e3] at ih9 d22 d21 d4 d5 d3
              refine g_iconst (Y := Y_X5_readBuffer) (pc' := 65) dX5_readBuffer_64 rfl ?_
              refine g_goto (Y := Y_X5_readBuffer) (t := 69) dX5_readBuffer_65 (by decide) ?_
              first
              | (refine g_callVn (Y := Y_X5_readBuffer) (c := 5) (s_X5_wants (I := m_ro I) hk0 b1 b2 0 (Or.inl rfl)) (pc' := 72) dX5_readBuffer_69 rfl cv_X5_182 rfl (by assumption) (by show _ < n; omega) ⟨by decide, _, rfl, rfl⟩ rfl rfl rfl rfl ?_)
              | (refine g_callVn (Y := Y_X5_readBuffer) (c := 5) (s_X5_wants (I := m_ro I) hk0 b1 b2 1 (Or.inr rfl)) (pc' := 72) dX5_readBuffer_69 rfl cv_X5_182 rfl (by assumption) (by show _ < n; omega) ⟨by decide, _, rfl, rfl⟩ rfl rfl rfl rfl ?_)
              refine g_aload0 (Y := Y_X5_readBuffer) (pc' := 73) dX5_readBuffer_72 rfl ?_
              refine g_getI (Y := Y_X5_readBuffer) (pc' := 76) dX5_readBuffer_73 rfl fl_X5_176 rfl (by assumption) (by omega) ?_
              refine g_iconst (Y := Y_X5_readBuffer) (pc' := 77) dX5_readBuffer_76 rfl ?_
              refine g_icmp_ne (Y := Y_X5_readBuffer) (t := 84) (pc' := 80) dX5_readBuffer_77 (by decide) rfl ⟨by omega, by omega⟩ ⟨by omega, by omega⟩ (fun h77 => ?_) (fun h77 => ?_)
              · have e : m_rbL (f + 1) I = m_semi (m_ro I) := (if_pos (by omega)).trans (if_neg (by rw [e3]; exact h77))
                rw [e, e3]
                refine g_iconst (Y := Y_X5_readBuffer) (pc' := 85) dX5_readBuffer_84 rfl ?_
                refine g_istore1 (Y := Y_X5_readBuffer) (pc' := 86) dX5_readBuffer_85 rfl (Nat.le_of_ble_eq_true rfl) rfl ?_
                refine g_goto (Y := Y_X5_readBuffer) (t := 17) dX5_readBuffer_86 (by decide) ?_
                exact hout _ (by omega)
              · have e : m_rbL (f + 1) I = m_rbL f (m_semi (m_ro I)) := (if_pos (by omega)).trans (if_pos (by rw [e3]; exact h77))
                rw [e, e3]
                refine g_iconst (Y := Y_X5_readBuffer) (pc' := 81) dX5_readBuffer_80 rfl ?_
                refine g_goto (Y := Y_X5_readBuffer) (t := 85) dX5_readBuffer_81 (by decide) ?_
                refine g_istore1 (Y := Y_X5_readBuffer) (pc' := 86) dX5_readBuffer_85 rfl (Nat.le_of_ble_eq_true rfl) rfl ?_
                refine g_goto (Y := Y_X5_readBuffer) (t := 17) dX5_readBuffer_86 (by decide) ?_
                have c33 := c3 (by omega)
                have d33 := d3 h77
                refine ih9 h77 ⟨by rw [d4]; exact c1.1.1, by rw [d4, d33.2]; omega, fun k9 hk9 => ?_⟩ (by rw [d33.2]; omega)
                rw [d4] at hk9
                rw [d5]
                exact c1.2.2 (by omega) k9 hk9
set_option maxHeartbeats 2000000 in
set_option maxRecDepth 100000 in
theorem s_X5_readBuffer {l : Launch} {E : QE} {T : Nat → Nat × Nat} {I : Nat → Nat → Int} {J : Nat → Nat → Int64} {R : Nat → Nat → Option Nat} {n z : Nat} (hk : MdB T R n) (hv9 : TV I)  : SpV l E Y_X5_readBuffer [.ref (E.1 + 110)] (T, I, J, R, n, z) (.int (iz (m_rb I 110 19))) (T, m_rb I, J, R, n, z) := by
  have hk0 := hk
  obtain ⟨t0, t1, t2, t3, t4, t5, t6, t7, t8, t9, t10, t11, t12, t13, r1, r2, r4, r5, r8, r9, r10, r11, r12, r13, r14, r15, r16, hn⟩ := hk
  obtain ⟨b1, b2, b3, b4, b5⟩ := rb0_ok hv9
  refine Sp.of [some (.ref (E.1 + 110)), none] (by decide +kernel) (Nat.le_of_ble_eq_true rfl) (fun _ h => h) ?_
  refine g_aload0 (Y := Y_X5_readBuffer) (pc' := 1) dX5_readBuffer_0 rfl ?_
  refine g_iconst (Y := Y_X5_readBuffer) (pc' := 2) dX5_readBuffer_1 rfl ?_
  refine g_putI (Y := Y_X5_readBuffer) (pc' := 5) dX5_readBuffer_2 rfl fp_X5_186 rfl (by assumption) (by omega) ?_
  refine g_aload0 (Y := Y_X5_readBuffer) (pc' := 6) dX5_readBuffer_5 rfl ?_
  refine g_iconst (Y := Y_X5_readBuffer) (pc' := 7) dX5_readBuffer_6 rfl ?_
  refine g_putI (Y := Y_X5_readBuffer) (pc' := 10) dX5_readBuffer_7 rfl fp_X5_173 rfl (by assumption) (by omega) ?_
  refine g_aload0 (Y := Y_X5_readBuffer) (pc' := 11) dX5_readBuffer_10 rfl ?_
  refine g_iconst (Y := Y_X5_readBuffer) (pc' := 12) dX5_readBuffer_11 rfl ?_
  refine g_putI (Y := Y_X5_readBuffer) (pc' := 15) dX5_readBuffer_12 rfl fp_X5_176 rfl (by assumption) (by omega) ?_
  refine g_iconst (Y := Y_X5_readBuffer) (pc' := 16) dX5_readBuffer_15 rfl ?_
  refine g_istore1 (Y := Y_X5_readBuffer) (pc' := 17) dX5_readBuffer_16 rfl (Nat.le_of_ble_eq_true rfl) rfl ?_
  exact s_X5_rb_lp hk0 61 (m_rb0 I) b1 b2 b3 b4 b5
def m_thr (I : Nat → Nat → Int) (t : Int) : Nat → Nat → Int := u2 I 110 0 t
theorem thr_111 {I : Nat → Nat → Int} {t : Int} {a : Nat} (h : a ≠ 110) : m_thr I t a = I a := u2_ne h
theorem thr_110 {I : Nat → Nat → Int} {t : Int} {j : Nat} (h : j ≠ 0) : m_thr I t 110 j = I 110 j := u2_nj h
theorem thr_0 {I : Nat → Nat → Int} {t : Int} : m_thr I t 110 0 = t := u2_at
theorem thr_ZV {I : Nat → Nat → Int} {t : Int} (h : ZV I) : ZV (m_thr I t) := ZV_ne h (thr_111 (by decide))
theorem thr_HB {I : Nat → Nat → Int} {t : Int} (h : HB I) : HB (m_thr I t) := HB_ne h (thr_111 (by decide)) (thr_111 (by decide))
theorem thr_TV {I : Nat → Nat → Int} {t : Int} (h : TV I) : TV (m_thr I t) := by
  unfold TV
  rw [thr_110 (by decide), thr_111 (by decide)]
  exact h
def m_first (I : Nat → Nat → Int) : Int := if m_rb (m_thr I 0) 110 19 = -1 then m_rb (m_thr I 0) 110 6 else m_rb (m_thr I 0) 110 19
set_option maxHeartbeats 2000000 in
set_option maxRecDepth 100000 in
theorem s_X5_firstError {l : Launch} {E : QE} {T : Nat → Nat × Nat} {I : Nat → Nat → Int} {J : Nat → Nat → Int64} {R : Nat → Nat → Option Nat} {n z : Nat} (hk : MdB T R n) (hv9 : TV I)  : SpV l E Y_X5_firstError [.ref (E.1 + 110)] (T, I, J, R, n, z) (.int (iz (m_first I))) (T, m_rb (m_thr I 0), J, R, n, z) := by
  have hk0 := hk
  obtain ⟨t0, t1, t2, t3, t4, t5, t6, t7, t8, t9, t10, t11, t12, t13, r1, r2, r4, r5, r8, r9, r10, r11, r12, r13, r14, r15, r16, hn⟩ := hk
  have hv1 := thr_TV (t := 0) hv9
  have ho := (rb_OR hv1).2.1
  refine Sp.of [some (.ref (E.1 + 110)), none] (by decide +kernel) (Nat.le_of_ble_eq_true rfl) (fun _ h => h) ?_
  refine g_aload0 (Y := Y_X5_firstError) (pc' := 1) dX5_firstError_0 rfl ?_
  refine g_iconst (Y := Y_X5_firstError) (pc' := 2) dX5_firstError_1 rfl ?_
  refine g_putI (Y := Y_X5_firstError) (pc' := 5) dX5_firstError_2 rfl fp_X5_50 rfl (by assumption) (by omega) ?_
  refine g_aload0 (Y := Y_X5_firstError) (pc' := 6) dX5_firstError_5 rfl ?_
  refine g_callVv (Y := Y_X5_firstError) (c := 5) (s_X5_readBuffer (I := m_thr I 0) hk0 hv1) (pc' := 9) dX5_firstError_6 rfl cv_X5_195 rfl (by assumption) (by show _ < n; omega) ⟨by decide, _, rfl, rfl⟩ rfl rfl rfl rfl ?_
  refine g_istore1 (Y := Y_X5_firstError) (pc' := 10) dX5_firstError_9 rfl (Nat.le_of_ble_eq_true rfl) rfl ?_
  refine g_iload1 (Y := Y_X5_firstError) (pc' := 11) dX5_firstError_10 rfl ?_
  refine g_iconst (Y := Y_X5_firstError) (pc' := 12) dX5_firstError_11 rfl ?_
  refine g_icmp_ne (Y := Y_X5_firstError) (t := 22) (pc' := 15) dX5_firstError_12 (by decide) rfl ⟨by omega, by omega⟩ ⟨by omega, by omega⟩ (fun h12 => ?_) (fun h12 => ?_)
  · have e : m_first I = m_rb (m_thr I 0) 110 19 := if_neg h12
    rw [e]
    refine g_iload1 (Y := Y_X5_firstError) (pc' := 23) dX5_firstError_22 rfl ?_
    exact g_iret (Y := Y_X5_firstError) dX5_firstError_23 rfl (Nat.zero_le _) (Nat.zero_le _) (⟨rfl, rfl⟩)
  · have e : m_first I = m_rb (m_thr I 0) 110 6 := if_pos h12
    rw [e]
    refine g_aload0 (Y := Y_X5_firstError) (pc' := 16) dX5_firstError_15 rfl ?_
    refine g_getI (Y := Y_X5_firstError) (pc' := 19) dX5_firstError_16 rfl fl_X5_170 rfl (by assumption) (by omega) ?_
    refine g_goto (Y := Y_X5_firstError) (t := 23) dX5_firstError_19 (by decide) ?_
    exact g_iret (Y := Y_X5_firstError) dX5_firstError_23 rfl (Nat.zero_le _) (Nat.zero_le _) (⟨rfl, rfl⟩)
def m_oc (I : Nat → Nat → Int) (k : Nat) : Int := 24 * I 123 (3 * k + 1) + I 123 (3 * k + 2)
def m_does (I : Nat → Nat → Int) (k : Nat) : Int × (Nat → Nat → Int) :=
  if I 123 (3 * k) = 1 then (if m_spotAt I (m_oc I k) = -1 then (0, I) else (1, m_healIt I (m_oc I k))) else (if m_can I (m_oc I k) = 0 then (0, I) else (1, m_failIt I (m_oc I k).toNat))
theorem m_can01 {I : Nat → Nat → Int} {x : Int} : m_can I x = 0 ∨ m_can I x = 1 := by unfold m_can; split <;> simp
theorem m_can_of {I : Nat → Nat → Int} {x : Int} (h : ¬ m_can I x = 0) : I 111 3 < 12 ∧ m_spotAt I x = -1 := by
  unfold m_can at h
  exact Decidable.byContradiction fun g => h (if_neg g)
theorem does_ZV {I : Nat → Nat → Int} (hz9 : ZV I) {k : Nat} (hc : 0 ≤ m_oc I k ∧ m_oc I k < 576) : ZV (m_does I k).2 := by
  unfold m_does
  split
  · split
    · exact hz9
    · rename_i h; exact healIt_ZV hz9 h
  · split
    · exact hz9
    · rename_i h
      have q := m_can_of h
      exact failIt_ZV hz9 (by omega) q.1 (by rw [show (((m_oc I k).toNat : Nat) : Int) = m_oc I k by omega]; exact q.2)
theorem does_ne {I : Nat → Nat → Int} {k a : Nat} (h : a ≠ 111) : (m_does I k).2 a = I a := by
  unfold m_does
  split
  · split
    · rfl
    · exact healIt_ne h
  · split
    · rfl
    · exact failIt_ne h
def m_doL : Nat → Nat → (Nat → Nat → Int) → Int × (Nat → Nat → Int)
  | 0, k, I => (k, I)
  | f + 1, k, I => if (m_does I k).1 = 0 then ((k : Int), (m_does I k).2) else m_doL f (k + 1) (m_does I k).2
theorem does01 {I : Nat → Nat → Int} {k : Nat} : (m_does I k).1 = 0 ∨ (m_does I k).1 = 1 := by
  unfold m_does
  split
  · split <;> simp
  · split <;> simp
theorem doL_ne : ∀ (f k : Nat) (I : Nat → Nat → Int) (a : Nat), a ≠ 111 → (m_doL f k I).2 a = I a
  | 0, _, _, _, _ => rfl
  | f + 1, k, I, a, h => by
    unfold m_doL
    split
    · exact does_ne h
    · rw [doL_ne f (k + 1) _ a h, does_ne h]
def OK9 (I : Nat → Nat → Int) : Prop := ∀ k : Nat, (k : Int) < I 110 17 → (I 123 (3 * k) = 0 ∨ I 123 (3 * k) = 1) ∧ (0 ≤ I 123 (3 * k + 1) ∧ I 123 (3 * k + 1) < 24) ∧ (0 ≤ I 123 (3 * k + 2) ∧ I 123 (3 * k + 2) < 24)
theorem doL_ZV : ∀ (f k : Nat) (I : Nat → Nat → Int), ZV I → OK9 I → (k : Int) + f ≤ I 110 17 → ZV (m_doL f k I).2
  | 0, _, _, h, _, _ => h
  | f + 1, k, I, h, ho, hf => by
    have o := ho k (by omega)
    have hc : 0 ≤ m_oc I k ∧ m_oc I k < 576 := by unfold m_oc; omega
    have h1 := does_ZV h hc
    unfold m_doL
    split
    · exact h1
    · refine doL_ZV f (k + 1) _ h1 ?_ (by rw [does_ne (by decide)]; omega)
      unfold OK9
      rw [does_ne (by decide), does_ne (by decide)]
      exact ho
set_option maxHeartbeats 2000000 in
set_option maxRecDepth 100000 in
theorem s_X5_does {l : Launch} {E : QE} {T : Nat → Nat × Nat} {I : Nat → Nat → Int} {J : Nat → Nat → Int64} {R : Nat → Nat → Option Nat} {n z : Nat} (hk : MdB T R n) (hz9 : ZV I) (k9 : Nat) (hk9 : k9 < 19) (o1 : I 123 (3 * k9) = 0 ∨ I 123 (3 * k9) = 1) (o2 : 0 ≤ I 123 (3 * k9 + 1) ∧ I 123 (3 * k9 + 1) < 24) (o3 : 0 ≤ I 123 (3 * k9 + 2) ∧ I 123 (3 * k9 + 2) < 24) : SpV l E Y_X5_does [.ref (E.1 + 110), .int (iz (k9 : Int))] (T, I, J, R, n, z) (.int (iz (m_does I k9).1)) (T, (m_does I k9).2, J, R, n, z) := by
  have hk0 := hk
  obtain ⟨t0, t1, t2, t3, t4, t5, t6, t7, t8, t9, t10, t11, t12, t13, r1, r2, r4, r5, r8, r9, r10, r11, r12, r13, r14, r15, r16, hn⟩ := hk
  have hc : 0 ≤ m_oc I k9 ∧ m_oc I k9 < 576 := by unfold m_oc; omega
  have z3 := hz9.1
  have hsr : -1 ≤ m_spotAt I (m_oc I k9) ∧ m_spotAt I (m_oc I k9) < 12 := by
    rcases m_spotAt_spec hz9 (m_oc I k9) with ⟨h, -⟩ | ⟨q, h1, h2, h3⟩ <;> omega
  refine Sp.of [some (.ref (E.1 + 110)), some (.int (iz (k9 : Int))), none, none, none] (by decide +kernel) (Nat.le_of_ble_eq_true rfl) (fun _ h => h) ?_
  refine g_bipush (Y := Y_X5_does) (pc' := 2) dX5_does_0 rfl (by decide) ?_
  refine g_aload0 (Y := Y_X5_does) (pc' := 3) dX5_does_2 rfl ?_
  refine g_getR (Y := Y_X5_does) (pc' := 6) dX5_does_3 rfl fl_X5_47 rfl (by assumption) (by omega) (by assumption) ?_
  refine g_iconst (Y := Y_X5_does) (pc' := 7) dX5_does_6 rfl ?_
  refine g_iload1 (Y := Y_X5_does) (pc' := 8) dX5_does_7 rfl ?_
  refine g_imul (Y := Y_X5_does) (pc' := 9) dX5_does_8 rfl ?_
  refine g_iconst (Y := Y_X5_does) (pc' := 10) dX5_does_9 rfl ?_
  refine g_iadd (Y := Y_X5_does) (pc' := 11) dX5_does_10 rfl ?_
  refine g_iald (Y := Y_X5_does) (pc' := 12) dX5_does_11 rfl (by assumption) (by omega) (by decide) ⟨by omega, by omega⟩ ?_
  rw [show (3 * (k9 : Int) + 1).toNat = 3 * k9 + 1 by omega]
  refine g_imul (Y := Y_X5_does) (pc' := 13) dX5_does_12 rfl ?_
  refine g_aload0 (Y := Y_X5_does) (pc' := 14) dX5_does_13 rfl ?_
  refine g_getR (Y := Y_X5_does) (pc' := 17) dX5_does_14 rfl fl_X5_47 rfl (by assumption) (by omega) (by assumption) ?_
  refine g_iconst (Y := Y_X5_does) (pc' := 18) dX5_does_17 rfl ?_
  refine g_iload1 (Y := Y_X5_does) (pc' := 19) dX5_does_18 rfl ?_
  refine g_imul (Y := Y_X5_does) (pc' := 20) dX5_does_19 rfl ?_
  refine g_iconst (Y := Y_X5_does) (pc' := 21) dX5_does_20 rfl ?_
  refine g_iadd (Y := Y_X5_does) (pc' := 22) dX5_does_21 rfl ?_
  refine g_iald (Y := Y_X5_does) (pc' := 23) dX5_does_22 rfl (by assumption) (by omega) (by decide) ⟨by omega, by omega⟩ ?_
  rw [show (3 * (k9 : Int) + 2).toNat = 3 * k9 + 2 by omega]
  refine g_iadd (Y := Y_X5_does) (pc' := 24) dX5_does_23 rfl ?_
  rw [show 24 * I 123 (3 * k9 + 1) + I 123 (3 * k9 + 2) = m_oc I k9 from rfl]
  refine g_istore2 (Y := Y_X5_does) (pc' := 25) dX5_does_24 rfl (Nat.le_of_ble_eq_true rfl) rfl ?_
  refine g_aload0 (Y := Y_X5_does) (pc' := 26) dX5_does_25 rfl ?_
  refine g_getR (Y := Y_X5_does) (pc' := 29) dX5_does_26 rfl fl_X5_47 rfl (by assumption) (by omega) (by assumption) ?_
  refine g_iconst (Y := Y_X5_does) (pc' := 30) dX5_does_29 rfl ?_
  refine g_iload1 (Y := Y_X5_does) (pc' := 31) dX5_does_30 rfl ?_
  refine g_imul (Y := Y_X5_does) (pc' := 32) dX5_does_31 rfl ?_
  refine g_iald (Y := Y_X5_does) (pc' := 33) dX5_does_32 rfl (by assumption) (by omega) (by decide) ⟨by omega, by omega⟩ ?_
  rw [show (3 * (k9 : Int)).toNat = 3 * k9 by omega]
  refine g_iconst (Y := Y_X5_does) (pc' := 34) dX5_does_33 rfl ?_
  refine g_icmp_ne (Y := Y_X5_does) (t := 41) (pc' := 37) dX5_does_34 (by decide) rfl ⟨by omega, by omega⟩ ⟨by omega, by omega⟩ (fun h34 => ?_) (fun h34 => ?_)
  · have hh : ¬ I 123 (3 * k9) = 1 := h34
    refine g_iconst (Y := Y_X5_does) (pc' := 42) dX5_does_41 rfl ?_
    refine g_istore3 (Y := Y_X5_does) (pc' := 43) dX5_does_42 rfl (Nat.le_of_ble_eq_true rfl) rfl ?_
    refine g_iload3 (Y := Y_X5_does) (pc' := 44) dX5_does_43 rfl ?_
    refine g_if_eq (Y := Y_X5_does) (t := 64) (pc' := 47) dX5_does_44 (by decide) rfl ⟨by omega, by omega⟩ (fun h44 => ?_) (fun h44 => ?_)
    · have hc01 := m_can01 (I := I) (x := m_oc I k9)
      by_cases hcan : m_can I (m_oc I k9) = 0
      · have e : m_does I k9 = (0, I) := (if_neg hh).trans (if_pos hcan)
        rw [e]
        refine g_aload0 (Y := Y_X5_does) (pc' := 65) dX5_does_64 rfl ?_
        refine g_iload2 (Y := Y_X5_does) (pc' := 66) dX5_does_65 rfl ?_
        refine g_callVv (Y := Y_X5_does) (c := 5) (s_X5_canFail hk0 hz9 (m_oc I k9) ⟨by omega, by omega⟩) (pc' := 69) dX5_does_66 rfl cv_X5_146 rfl (by assumption) (by show _ < n; omega) ⟨by decide, _, rfl, rfl⟩ rfl rfl rfl rfl ?_
        rw [hcan]
        refine g_istore4 (Y := Y_X5_does) (pc' := 71) dX5_does_69 rfl (Nat.le_of_ble_eq_true rfl) rfl ?_
        refine g_iload4 (Y := Y_X5_does) (pc' := 73) dX5_does_71 rfl ?_
        refine g_if_eq (Y := Y_X5_does) (t := 88) (pc' := 76) dX5_does_73 (by decide) rfl ⟨by omega, by omega⟩ (fun h73 => ?_) (fun h73 => ?_)
        · refine g_iload4 (Y := Y_X5_does) (pc' := 90) dX5_does_88 rfl ?_
          refine g_if_eq (Y := Y_X5_does) (t := 98) (pc' := 93) dX5_does_90 (by decide) rfl ⟨by omega, by omega⟩ (fun h90 => ?_) (fun h90 => ?_)
          · refine g_iload4 (Y := Y_X5_does) (pc' := 100) dX5_does_98 rfl ?_
            exact g_zret (Y := Y_X5_does) dX5_does_100 rfl (by decide) (Nat.zero_le _) (Nat.zero_le _) (⟨rfl, rfl⟩)
          · exact absurd rfl h90
        · exact absurd rfl h73
      · have e : m_does I k9 = (1, m_failIt I (m_oc I k9).toNat) := (if_neg hh).trans (if_neg hcan)
        rw [e]
        have hq := m_can_of hcan
        have hcn : (((m_oc I k9).toNat : Nat) : Int) = m_oc I k9 := by omega
        refine g_aload0 (Y := Y_X5_does) (pc' := 65) dX5_does_64 rfl ?_
        refine g_iload2 (Y := Y_X5_does) (pc' := 66) dX5_does_65 rfl ?_
        refine g_callVv (Y := Y_X5_does) (c := 5) (s_X5_canFail hk0 hz9 (m_oc I k9) ⟨by omega, by omega⟩) (pc' := 69) dX5_does_66 rfl cv_X5_146 rfl (by assumption) (by show _ < n; omega) ⟨by decide, _, rfl, rfl⟩ rfl rfl rfl rfl ?_
        rw [show m_can I (m_oc I k9) = 1 by omega]
        refine g_istore4 (Y := Y_X5_does) (pc' := 71) dX5_does_69 rfl (Nat.le_of_ble_eq_true rfl) rfl ?_
        refine g_iload4 (Y := Y_X5_does) (pc' := 73) dX5_does_71 rfl ?_
        refine g_if_eq (Y := Y_X5_does) (t := 88) (pc' := 76) dX5_does_73 (by decide) rfl ⟨by omega, by omega⟩ (fun h73 => ?_) (fun h73 => ?_)
        · exact absurd h73 (by decide)
        · refine g_iload3 (Y := Y_X5_does) (pc' := 77) dX5_does_76 rfl ?_
          refine g_if_eq (Y := Y_X5_does) (t := 88) (pc' := 80) dX5_does_77 (by decide) rfl ⟨by omega, by omega⟩ (fun h77 => ?_) (fun h77 => ?_)
          · refine g_iload4 (Y := Y_X5_does) (pc' := 90) dX5_does_88 rfl ?_
            refine g_if_eq (Y := Y_X5_does) (t := 98) (pc' := 93) dX5_does_90 (by decide) rfl ⟨by omega, by omega⟩ (fun h90 => ?_) (fun h90 => ?_)
            · exact absurd h90 (by decide)
            · refine g_aload0 (Y := Y_X5_does) (pc' := 94) dX5_does_93 rfl ?_
              refine g_iload2 (Y := Y_X5_does) (pc' := 95) dX5_does_94 rfl ?_
              refine g_callVn (Y := Y_X5_does) (c := 5) ((show SpN l E Y_X5_failIt [.ref (E.1 + 110), .int (iz (m_oc I k9))] _ _ from by
            have q := s_X5_failIt (l := l) (E := E) (J := J) (z := z) hk0 hz9 (m_oc I k9).toNat (by omega) hq.1 (by rw [hcn]; exact hq.2)
            rw [hcn] at q
            exact q)) (pc' := 98) dX5_does_95 rfl cv_X5_149 rfl (by assumption) (by show _ < n; omega) ⟨by decide, _, rfl, rfl⟩ rfl rfl rfl rfl ?_
              refine g_iload4 (Y := Y_X5_does) (pc' := 100) dX5_does_98 rfl ?_
              exact g_zret (Y := Y_X5_does) dX5_does_100 rfl (by decide) (Nat.zero_le _) (Nat.zero_le _) (⟨rfl, rfl⟩)
          · exact absurd rfl h77
    · exact absurd rfl h44
  · have hh : I 123 (3 * k9) = 1 := h34
    refine g_iconst (Y := Y_X5_does) (pc' := 38) dX5_does_37 rfl ?_
    refine g_goto (Y := Y_X5_does) (t := 42) dX5_does_38 (by decide) ?_
    refine g_istore3 (Y := Y_X5_does) (pc' := 43) dX5_does_42 rfl (Nat.le_of_ble_eq_true rfl) rfl ?_
    refine g_iload3 (Y := Y_X5_does) (pc' := 44) dX5_does_43 rfl ?_
    refine g_if_eq (Y := Y_X5_does) (t := 64) (pc' := 47) dX5_does_44 (by decide) rfl ⟨by omega, by omega⟩ (fun h44 => ?_) (fun h44 => ?_)
    · exact absurd h44 (by decide)
    · refine g_aload0 (Y := Y_X5_does) (pc' := 48) dX5_does_47 rfl ?_
      refine g_iload2 (Y := Y_X5_does) (pc' := 49) dX5_does_48 rfl ?_
      refine g_callVv (Y := Y_X5_does) (c := 5) (s_X5_spotAt hk0 hz9 (m_oc I k9) ⟨by omega, by omega⟩) (pc' := 52) dX5_does_49 rfl cv_X5_143 rfl (by assumption) (by show _ < n; omega) ⟨by decide, _, rfl, rfl⟩ rfl rfl rfl rfl ?_
      refine g_iconst (Y := Y_X5_does) (pc' := 53) dX5_does_52 rfl ?_
      refine g_icmp_eq (Y := Y_X5_does) (t := 60) (pc' := 56) dX5_does_53 (by decide) rfl ⟨by omega, by omega⟩ ⟨by omega, by omega⟩ (fun h53 => ?_) (fun h53 => ?_)
      · have e : m_does I k9 = (0, I) := (if_pos hh).trans (if_pos h53)
        rw [e]
        refine g_iconst (Y := Y_X5_does) (pc' := 61) dX5_does_60 rfl ?_
        refine g_goto (Y := Y_X5_does) (t := 69) dX5_does_61 (by decide) ?_
        refine g_istore4 (Y := Y_X5_does) (pc' := 71) dX5_does_69 rfl (Nat.le_of_ble_eq_true rfl) rfl ?_
        refine g_iload4 (Y := Y_X5_does) (pc' := 73) dX5_does_71 rfl ?_
        refine g_if_eq (Y := Y_X5_does) (t := 88) (pc' := 76) dX5_does_73 (by decide) rfl ⟨by omega, by omega⟩ (fun h73 => ?_) (fun h73 => ?_)
        · refine g_iload4 (Y := Y_X5_does) (pc' := 90) dX5_does_88 rfl ?_
          refine g_if_eq (Y := Y_X5_does) (t := 98) (pc' := 93) dX5_does_90 (by decide) rfl ⟨by omega, by omega⟩ (fun h90 => ?_) (fun h90 => ?_)
          · refine g_iload4 (Y := Y_X5_does) (pc' := 100) dX5_does_98 rfl ?_
            exact g_zret (Y := Y_X5_does) dX5_does_100 rfl (by decide) (Nat.zero_le _) (Nat.zero_le _) (⟨rfl, rfl⟩)
          · exact absurd rfl h90
        · exact absurd rfl h73
      · have hsp : ¬ m_spotAt I (m_oc I k9) = -1 := h53
        have e : m_does I k9 = (1, m_healIt I (m_oc I k9)) := (if_pos hh).trans (if_neg hsp)
        rw [e]
        refine g_iconst (Y := Y_X5_does) (pc' := 57) dX5_does_56 rfl ?_
        refine g_goto (Y := Y_X5_does) (t := 69) dX5_does_57 (by decide) ?_
        refine g_istore4 (Y := Y_X5_does) (pc' := 71) dX5_does_69 rfl (Nat.le_of_ble_eq_true rfl) rfl ?_
        refine g_iload4 (Y := Y_X5_does) (pc' := 73) dX5_does_71 rfl ?_
        refine g_if_eq (Y := Y_X5_does) (t := 88) (pc' := 76) dX5_does_73 (by decide) rfl ⟨by omega, by omega⟩ (fun h73 => ?_) (fun h73 => ?_)
        · exact absurd h73 (by decide)
        · refine g_iload3 (Y := Y_X5_does) (pc' := 77) dX5_does_76 rfl ?_
          refine g_if_eq (Y := Y_X5_does) (t := 88) (pc' := 80) dX5_does_77 (by decide) rfl ⟨by omega, by omega⟩ (fun h77 => ?_) (fun h77 => ?_)
          · exact absurd h77 (by decide)
          · refine g_aload0 (Y := Y_X5_does) (pc' := 81) dX5_does_80 rfl ?_
            refine g_iload2 (Y := Y_X5_does) (pc' := 82) dX5_does_81 rfl ?_
            refine g_callVn (Y := Y_X5_does) (c := 5) (s_X5_healIt hk0 hz9 (m_oc I k9) ⟨by omega, by omega⟩ hsp) (pc' := 85) dX5_does_82 rfl cv_X5_155 rfl (by assumption) (by show _ < n; omega) ⟨by decide, _, rfl, rfl⟩ rfl rfl rfl rfl ?_
            refine g_goto (Y := Y_X5_does) (t := 98) dX5_does_85 (by decide) ?_
            refine g_iload4 (Y := Y_X5_does) (pc' := 100) dX5_does_98 rfl ?_
            exact g_zret (Y := Y_X5_does) dX5_does_100 rfl (by decide) (Nat.zero_le _) (Nat.zero_le _) (⟨rfl, rfl⟩)
