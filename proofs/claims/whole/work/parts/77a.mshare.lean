/-! the reference: the share, its bits; what looking leaves alone -/
def bmOk : Nat → UInt64 → Bool
  | 0, _ => false
  | m + 1, s => if 0 ≤ cz s FP.dconst1 .g then n64b (FP.dmul s d52) else n64b (FP.dmul s d2) && bmOk m (FP.dmul s d2)
def m_bits (s : UInt64) : Int64 := if cz s FP.dconst0 .l = 0 then 0 else (bsL 12 s 1023).2 <<< ((iz 52).toInt64 &&& 63) + FP.d2l (FP.dmul (bsL 12 s 1023).1 d52) - 4503599627370496
def shOkm (s : UInt64) : Bool := n64b s && (decide (cz s FP.dconst0 .l = 0) || (decide (cz s d2 .l < 0) && bmOk 12 s))
set_option maxRecDepth 100000 in
theorem shOkm_all : ∀ j : Nat, j < 600 → (shOkm (f_shr ((j : Int) - 20)) = true ∨ (j : Int) - 20 < 0) ∧ (f_bits (f_shr ((j : Int) - 20)) = m_bits (f_shr ((j : Int) - 20)) ∨ (j : Int) - 20 < 0) := by decide +kernel
theorem shOkm_g (g : Int) (h : 0 ≤ g ∧ g < 580) : shOkm (f_shr g) = true ∧ f_bits (f_shr g) = m_bits (f_shr g) := by
  have q := shOkm_all (g + 20).toNat (by omega)
  have e : (((g + 20).toNat : Nat) : Int) - 20 = g := by omega
  rw [e] at q
  exact ⟨q.1.resolve_right (by omega), q.2.resolve_right (by omega)⟩
def m_good (I : Nat → Nat → Int) : Int := 576 - I 111 3 - m_avM I
def jh (J : Nat → Nat → Int64) (h : Int64) : Nat → Nat → Int64 := u2 J 110 20 h
theorem u2_u2 {α : Type} {f : Nat → Nat → α} {k j : Nat} {x y : α} : u2 (u2 f k j x) k j y = u2 f k j y := by
  funext a b
  by_cases ha : a = k
  · subst ha
    rw [u2_eq, u2_eq, u2_eq]
    by_cases hb : b = j
    · simp [hb]
    · simp [hb]
  · rw [u2_ne ha, u2_ne ha, u2_ne ha]
theorem jh_jh {J : Nat → Nat → Int64} {h g : Int64} : u2 (jh J h) 110 20 g = jh J g := u2_u2
theorem jh_at {J : Nat → Nat → Int64} {h : Int64} : jh J h 110 20 = h := u2_at
set_option maxHeartbeats 2000000 in
set_option maxRecDepth 100000 in
theorem s_X5_share {l : Launch} {E : QE} {T : Nat → Nat × Nat} {I : Nat → Nat → Int} {J : Nat → Nat → Int64} {R : Nat → Nat → Option Nat} {n z : Nat} (hk : MdB T R n) (hz9 : ZV I) (hb9 : HB I) (h20 : 0 ≤ m_good (m_lay I) ∧ m_good (m_lay I) < 580) : SpV l E Y_X5_share [.ref (E.1 + 110)] (T, I, J, R, n, z) (.double (f_shr (m_good (m_lay I)))) (T, m_lay I, J, R, n, z) := by
  have hk0 := hk
  obtain ⟨t0, t1, t2, t3, t4, t5, t6, t7, t8, t9, t10, t11, t12, t13, r1, r2, r4, r5, r8, r9, r10, r11, r12, r13, r14, r15, r16, hn⟩ := hk
  obtain ⟨z3, zs, zs0, zd, zt, zt2, zv, zw, zk⟩ := id hz9
  have hr9 := lay_HR hz9 hb9
  have hz8 := ZV_lay hz9
  have ok := (shOkm_g (m_good (m_lay I)) h20).1
  unfold shOkm at ok
  rw [Bool.and_eq_true] at ok
  have hly : SpN l E Y_X5_lay [.ref (E.1 + 110)] (T, I, J, R, n, z) (T, m_lay I, J, R, n, z) := s_X5_lay hk0 hz9
  generalize m_lay I = I2 at hly h20 ok hr9 hz8 ⊢
  refine Sp.of [some (.ref (E.1 + 110)), none] (by decide +kernel) (Nat.le_of_ble_eq_true rfl) (fun _ h => h) ?_
  refine g_aload0 (Y := Y_X5_share) (pc' := 1) dX5_share_0 rfl ?_
  refine g_callVn (Y := Y_X5_share) (c := 5) (hly) (pc' := 4) dX5_share_1 rfl cv_X5_130 rfl (by first | exact t0 | exact t1 | exact r1 | exact t2 | exact t3 | exact t4 | exact t5 | exact t6 | exact t7 | exact t8 | exact t9 | exact t10 | exact t11 | exact t12 | exact t13 | exact r2 | exact r4 | exact r5 | exact r8 | exact r9 | exact r10 | exact r11 | exact r12 | exact r13 | exact r14 | exact r15 | exact r16) (by show _ < n; omega) ⟨by decide, _, rfl, rfl⟩ rfl rfl rfl rfl ?_
  refine g_sipush (Y := Y_X5_share) (pc' := 7) dX5_share_4 rfl (by decide) ?_
  refine g_aload0 (Y := Y_X5_share) (pc' := 8) dX5_share_7 rfl ?_
  refine g_getR (Y := Y_X5_share) (pc' := 11) dX5_share_8 rfl fl_X5_7 rfl (by first | exact t0 | exact t1 | exact r1 | exact t2 | exact t3 | exact t4 | exact t5 | exact t6 | exact t7 | exact t8 | exact t9 | exact t10 | exact t11 | exact t12 | exact t13 | exact r2 | exact r4 | exact r5 | exact r8 | exact r9 | exact r10 | exact r11 | exact r12 | exact r13 | exact r14 | exact r15 | exact r16) (by omega) (by first | exact t0 | exact t1 | exact r1 | exact t2 | exact t3 | exact t4 | exact t5 | exact t6 | exact t7 | exact t8 | exact t9 | exact t10 | exact t11 | exact t12 | exact t13 | exact r2 | exact r4 | exact r5 | exact r8 | exact r9 | exact r10 | exact r11 | exact r12 | exact r13 | exact r14 | exact r15 | exact r16) ?_
  refine g_iconst (Y := Y_X5_share) (pc' := 12) dX5_share_11 rfl ?_
  refine g_iald (Y := Y_X5_share) (pc' := 13) dX5_share_12 rfl (by first | exact t0 | exact t1 | exact r1 | exact t2 | exact t3 | exact t4 | exact t5 | exact t6 | exact t7 | exact t8 | exact t9 | exact t10 | exact t11 | exact t12 | exact t13 | exact r2 | exact r4 | exact r5 | exact r8 | exact r9 | exact r10 | exact r11 | exact r12 | exact r13 | exact r14 | exact r15 | exact r16) (by omega) (by decide) ⟨by omega, by omega⟩ ?_
  rw [show Int.toNat 3 = 3 from rfl]
  refine g_isub (Y := Y_X5_share) (pc' := 14) dX5_share_13 rfl ?_
  refine g_aload0 (Y := Y_X5_share) (pc' := 15) dX5_share_14 rfl ?_
  refine g_callVv (Y := Y_X5_share) (c := 5) (s_X5_avoidedMany hk0 hz8 hr9) (pc' := 18) dX5_share_15 rfl cv_X5_217 rfl (by first | exact t0 | exact t1 | exact r1 | exact t2 | exact t3 | exact t4 | exact t5 | exact t6 | exact t7 | exact t8 | exact t9 | exact t10 | exact t11 | exact t12 | exact t13 | exact r2 | exact r4 | exact r5 | exact r8 | exact r9 | exact r10 | exact r11 | exact r12 | exact r13 | exact r14 | exact r15 | exact r16) (by show _ < n; omega) ⟨by decide, _, rfl, rfl⟩ rfl rfl rfl rfl ?_
  refine g_isub (Y := Y_X5_share) (pc' := 19) dX5_share_18 rfl ?_
  refine g_istore1 (Y := Y_X5_share) (pc' := 20) dX5_share_19 rfl (Nat.le_of_ble_eq_true rfl) rfl ?_
  refine g_iload1 (Y := Y_X5_share) (pc' := 21) dX5_share_20 rfl ?_
  refine g_i2d (Y := Y_X5_share) (pc' := 22) dX5_share_21 rfl ?_
  refine g_ldc2d (Y := Y_X5_share) (v := (4648277765399773184 : UInt64)) (pc' := 25) dX5_share_22 rfl (q_w 1195 (by decide +kernel) rfl) ?_
  refine g_ddiv (Y := Y_X5_share) (pc' := 26) dX5_share_25 rfl (n64_of ok.1) ?_
  exact g_dret (Y := Y_X5_share) dX5_share_26 rfl (Nat.zero_le _) (Nat.zero_le _) (⟨rfl, rfl⟩)
