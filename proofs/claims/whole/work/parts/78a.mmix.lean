/-! the reference: what it hashes of the map -/
def m_mfL (c : Nat) : Nat → Nat → (Nat → Nat → Int) → Int64 → Int64 × (Nat → Nat → Int)
  | 0, _, I, h => (h, I)
  | f + 1, k, I, h => m_mfL c f (k + 1) (m_wf I c k).2 (hx h (m_wf I c k).1)
def m_mf (c : Nat) (I : Nat → Nat → Int) (h : Int64) : Int64 × (Nat → Nat → Int) := m_mfL c 4 0 I h
theorem MK_mfL {c : Nat} (hc : c < 576) : ∀ (f k : Nat) (I : Nat → Nat → Int) (h : Int64), ZV I → MK I (m_mfL c f k I h).2
  | 0, _, _, _, _ => MK.rf
  | f + 1, k, I, h, hz => by
    unfold m_mfL
    have k1 := MK_wf (w := k) hz hc
    exact k1.tr (MK_mfL hc f (k + 1) _ _ (k1.zv hz))
def m_hLL (I : Nat → Nat → Int) : Nat → Nat → Int64 → Int64
  | 0, _, h => h
  | f + 1, i, h => m_hLL I f (i + 1) (hL (m_tl I i) 6 0 h)
def m_hAv (I : Nat → Nat → Int) : Nat → Nat → Int64 → Int64
  | 0, _, h => h
  | f + 1, i, h => if m_isAv I i = 0 then m_hAv I f (i + 1) h else m_hAv I f (i + 1) (hx (hx h i) (I 121 i))
def m_hBl (I : Nat → Nat → Int) : Nat → Nat → Int64 → Int64
  | 0, _, h => h
  | f + 1, i, h => if I 111 (498 + i) = -1 then m_hBl I f (i + 1) h else m_hBl I f (i + 1) (hx (hx (hx h i) (I 111 (18 + i))) (I 111 (498 + i)))
def m_mm2 (I : Nat → Nat → Int) (h : Int64) : Int64 := m_hBl I 480 0 (m_hAv I 576 0 (m_hLL I (I 110 7).toNat 0 h))
def m_mm1 (I : Nat → Nat → Int) (h : Int64) : Int64 := hL (fun q => I 111 (6 + q)) (I 111 3).toNat 0 h
def m_mm (I : Nat → Nat → Int) (h : Int64) : Int64 := m_mm2 (m_lay I) (m_mm1 I h)
def m_dcL : Nat → Nat → (Nat → Nat → Int) → Int64 → Int64 × (Nat → Nat → Int)
  | 0, _, I, h => (h, I)
  | f + 1, k, I, h => m_dcL f (k + 1) (m_ctI I k) (hx h (m_ctd (m_ctI I k) k))
theorem MK_dcL : ∀ (f k : Nat) (I : Nat → Nat → Int) (h : Int64), ZV I → MK I (m_dcL f k I h).2
  | 0, _, _, _, _ => MK.rf
  | f + 1, k, I, h, hz => by
    unfold m_dcL
    have k1 := MK_ctI (I := I) (w := (k : Int))
    exact k1.tr (MK_dcL f (k + 1) _ _ (k1.zv hz))
set_option maxHeartbeats 2000000 in
set_option maxRecDepth 100000 in
theorem s_X5_mixFailed_lp {l : Launch} {E : QE} {T : Nat → Nat × Nat} {J : Nat → Nat → Int64} {R : Nat → Nat → Option Nat} {n z : Nat} (hk : MdB T R n) {c : Nat} (hc : c < 576) : ∀ (f k9 : Nat) (I : Nat → Nat → Int) (h : Int64), k9 + f = 4 → ZV I → HB I → Go l E Y_X5_mixFailed 0 0 2 [some (.ref (E.1 + 110)), some (.int (iz (c : Int))), some (.int (iz (k9 : Int)))] [] (T, I, jh J (h), R, n, z) (KN (T, (m_mfL c f k9 I h).2, jh J (m_mfL c f k9 I h).1, R, n, z)) := by
  have hk0 := hk
  obtain ⟨t0, t1, t2, t3, t4, t5, t6, t7, t8, t9, t10, t11, t12, t13, r1, r2, r4, r5, r8, r9, r10, r11, r12, r13, r14, r15, r16, hn⟩ := hk
  intro f
  induction f with
  | zero =>
    intro k9 I h hf hz9 hb9
    refine g_iload2 (Y := Y_X5_mixFailed) (pc' := 3) dX5_mixFailed_2 rfl ?_
    refine g_iconst (Y := Y_X5_mixFailed) (pc' := 4) dX5_mixFailed_3 rfl ?_
    refine g_icmp_gt (Y := Y_X5_mixFailed) (t := 24) (pc' := 7) dX5_mixFailed_4 (by decide) rfl ⟨by omega, by omega⟩ ⟨by omega, by omega⟩ (fun h4 => ?_) (fun h4 => ?_)
    · exact g_vret (Y := Y_X5_mixFailed) dX5_mixFailed_24 rfl (Nat.zero_le _) (Nat.zero_le _) (⟨rfl, rfl⟩)
    · exfalso; omega
  | succ f ih =>
    intro k9 I h hf hz9 hb9
    have mk := MK_wf (w := k9) hz9 hc
    refine g_iload2 (Y := Y_X5_mixFailed) (pc' := 3) dX5_mixFailed_2 rfl ?_
    refine g_iconst (Y := Y_X5_mixFailed) (pc' := 4) dX5_mixFailed_3 rfl ?_
    refine g_icmp_gt (Y := Y_X5_mixFailed) (t := 24) (pc' := 7) dX5_mixFailed_4 (by decide) rfl ⟨by omega, by omega⟩ ⟨by omega, by omega⟩ (fun h4 => ?_) (fun h4 => ?_)
    · exfalso; omega
    · refine g_aload0 (Y := Y_X5_mixFailed) (pc' := 8) dX5_mixFailed_7 rfl ?_
      refine g_aload0 (Y := Y_X5_mixFailed) (pc' := 9) dX5_mixFailed_8 rfl ?_
      refine g_iload1 (Y := Y_X5_mixFailed) (pc' := 10) dX5_mixFailed_9 rfl ?_
      refine g_iload2 (Y := Y_X5_mixFailed) (pc' := 11) dX5_mixFailed_10 rfl ?_
      refine g_callVv (Y := Y_X5_mixFailed) (c := 5) (s_X5_wouldFail hk0 hz9 hb9 c hc k9 (by omega)) (pc' := 14) dX5_mixFailed_11 rfl cv_X5_235 rfl (by first | exact t0 | exact t1 | exact r1 | exact t2 | exact t3 | exact t4 | exact t5 | exact t6 | exact t7 | exact t8 | exact t9 | exact t10 | exact t11 | exact t12 | exact t13 | exact r2 | exact r4 | exact r5 | exact r8 | exact r9 | exact r10 | exact r11 | exact r12 | exact r13 | exact r14 | exact r15 | exact r16) (by show _ < n; omega) ⟨by decide, _, rfl, rfl⟩ rfl rfl rfl rfl ?_
      refine g_i2l (Y := Y_X5_mixFailed) (pc' := 15) dX5_mixFailed_14 rfl ?_
      refine g_callVn (Y := Y_X5_mixFailed) (c := 5) (s_X5_mix hk0 _ _) (pc' := 18) dX5_mixFailed_15 rfl cv_X5_267 rfl (by first | exact t0 | exact t1 | exact r1 | exact t2 | exact t3 | exact t4 | exact t5 | exact t6 | exact t7 | exact t8 | exact t9 | exact t10 | exact t11 | exact t12 | exact t13 | exact r2 | exact r4 | exact r5 | exact r8 | exact r9 | exact r10 | exact r11 | exact r12 | exact r13 | exact r14 | exact r15 | exact r16) (by show _ < n; omega) ⟨by decide, _, rfl, rfl⟩ rfl rfl rfl rfl ?_
      refine g_iinc2 (Y := Y_X5_mixFailed) (pc' := 21) dX5_mixFailed_18 rfl (Nat.le_of_ble_eq_true rfl) rfl ?_
      refine g_goto (Y := Y_X5_mixFailed) (t := 2) dX5_mixFailed_21 (by decide) ?_
      exact ih (k9 + 1) _ _ (by omega) (mk.zv hz9) (mk.2.2.2 hz9 hb9)
