/-! ScratchMap: fill, read, undo -/
/-- blocks written one behind another, from b + w on -/
def flL (b : Nat) (v : Int) : Nat → Nat → (Nat → Nat → Int) → Int × (Nat → Nat → Int)
  | 0, w, I => (w, I)
  | m + 1, w, I => if f_cfw I 1 7 (b + w) = -1 then ((w : Int), I) else flL b v m (w + 1) (f_place I 1 ((b + w : Nat) : Int) (f_cfw I 1 7 (b + w)) v)
def x_fill (p q v : Int) : Option String := if (0 ≤ p ∧ p < 480) ∧ q ≤ 480 - p then (if (1 ≤ q ∧ q ≤ 48) ∧ 0 ≤ v ∧ v ≤ 999 then none else some xIAE) else some xIOB
def f_fill (I : Nat → Nat → Int) (R : Nat → Nat → Option Nat) (p q v : Int) : Int × (Nat → Nat → Int) := flL p.toNat v q.toNat 0 (f_save I R)
theorem flL_XV (b : Nat) (v : Int) (hv9 : -1 ≤ v ∧ v ≤ 999) : ∀ (m w : Nat) (I : Nat → Nat → Int), b + w + m ≤ 480 → XV I → XV (flL b v m w I).2
  | 0, _, _, _, h => h
  | m + 1, w, I, hm, h => by
    unfold flL
    split
    · exact h
    · have hc := f_cfw_rg (I := I) (ks := 1) (km := 7) (b := b + w) (by omega)
      exact flL_XV b v hv9 m (w + 1) _ (by omega) (XV_place h ⟨by omega, by omega⟩ (by omega) hv9)
set_option maxHeartbeats 2000000 in
set_option maxRecDepth 100000 in
theorem s_X4_fill_lp {l : Launch} {E : QE} {T : Nat → Nat × Nat} {J : Nat → Nat → Int64} {R : Nat → Nat → Option Nat} {n : Nat} (hk : ScB T R n) {b mq : Nat} {v : Int} (hv9 : 0 ≤ v ∧ v ≤ 999) (hbm : b + mq ≤ 480) {er : Option String} (her : er = none) {KX : String → QW → Prop} : ∀ (m w : Nat) (I : Nat → Nat → Int) (x5 : Option Value), w + m = mq → XV I → GoX l E Y_X4_fill 0 0 61 [some (.ref (E.1 + 0)), some (.int (iz (b : Int))), some (.int (iz (mq : Int))), some (.int (iz v)), some (.int (iz (w : Int))), x5] [] (T, I, J, R, n, 0) (fun r1 w1 => er = none ∧ r1 = some (.int (iz (flL b v m w I).1)) ∧ w1 = (T, (flL b v m w I).2, J, R, n, 0)) KX := by
  have hk0 := hk
  obtain ⟨a0, a1, a2, a3, a4, a5, a6, a7, a8, a9, a10, a11, a12, a13, a14, a15, a16⟩ := hk
  have b8 := a8.1
  have b9 := a9.1
  have b10 := a10.1
  have b11 := a11.1
  have b12 := a12.1
  intro m
  induction m with
  | zero =>
    intro w I x5 hm hv
    obtain ⟨x1, x7, x46, x36, x40, x74, x3, xl, xl2⟩ := id hv
    refine g_iload4 (Y := Y_X4_fill) (pc' := 63) dX4_fill_61 rfl ?_
    refine g_iload2 (Y := Y_X4_fill) (pc' := 64) dX4_fill_63 rfl ?_
    refine g_icmp_ge (Y := Y_X4_fill) (t := 113) (pc' := 67) dX4_fill_64 (by decide) rfl ⟨by omega, by omega⟩ ⟨by omega, by omega⟩ (fun h64 => ?_) (fun h64 => ?_)
    · have e9 : ((mq : Nat) : Int) = (w : Int) := by omega
      rw [e9]
      refine g_iload2 (Y := Y_X4_fill) (pc' := 114) dX4_fill_113 rfl ?_
      exact GoX.of (g_iret (Y := Y_X4_fill) dX4_fill_114 rfl (Nat.zero_le _) (Nat.zero_le _) (⟨her, rfl, rfl⟩))
    · exfalso; omega
  | succ m ih =>
    intro w I x5 hm hv
    obtain ⟨x1, x7, x46, x36, x40, x74, x3, xl, xl2⟩ := id hv
    have hcr := f_cfw_rg (I := I) (ks := 1) (km := 7) (b := b + w) (by omega)
    refine g_iload4 (Y := Y_X4_fill) (pc' := 63) dX4_fill_61 rfl ?_
    refine g_iload2 (Y := Y_X4_fill) (pc' := 64) dX4_fill_63 rfl ?_
    refine g_icmp_ge (Y := Y_X4_fill) (t := 113) (pc' := 67) dX4_fill_64 (by decide) rfl ⟨by omega, by omega⟩ ⟨by omega, by omega⟩ (fun h64 => ?_) (fun h64 => ?_)
    · exfalso; omega
    · refine g_aload0 (Y := Y_X4_fill) (pc' := 68) dX4_fill_67 rfl ?_
      refine g_getR (Y := Y_X4_fill) (pc' := 71) dX4_fill_68 rfl fl_X4_10 rfl (by assumption) (by omega) (by assumption) ?_
      refine g_aload0 (Y := Y_X4_fill) (pc' := 72) dX4_fill_71 rfl ?_
      refine g_getR (Y := Y_X4_fill) (pc' := 75) dX4_fill_72 rfl fl_X4_19 rfl (by assumption) (by omega) (by assumption) ?_
      refine g_iload1 (Y := Y_X4_fill) (pc' := 76) dX4_fill_75 rfl ?_
      refine g_iload4 (Y := Y_X4_fill) (pc' := 78) dX4_fill_76 rfl ?_
      refine g_iadd (Y := Y_X4_fill) (pc' := 79) dX4_fill_78 rfl ?_
      rw [show ((b : Nat) : Int) + (w : Int) = ((b + w : Nat) : Int) from by omega]
      refine g_callSv (Y := Y_X4_fill) (s_X4_cellForWriting a8 a9 (LmV_b x7) (LmV_h x7) (StV_p x1) (StV_o x1) (b + w) (by omega)) (pc' := 82) dX4_fill_79 rfl cv_X4_63 rfl rfl rfl rfl rfl ?_
      refine g_istore5 (Y := Y_X4_fill) (pc' := 84) dX4_fill_82 rfl (Nat.le_of_ble_eq_true rfl) rfl ?_
      refine g_iload5 (Y := Y_X4_fill) (pc' := 86) dX4_fill_84 rfl ?_
      refine g_iconst (Y := Y_X4_fill) (pc' := 87) dX4_fill_86 rfl ?_
      refine g_icmp_ne (Y := Y_X4_fill) (t := 93) (pc' := 90) dX4_fill_87 (by decide) rfl ⟨by omega, by omega⟩ ⟨by omega, by omega⟩ (fun h87 => ?_) (fun h87 => ?_)
      · have e : flL b v (m + 1) w I = flL b v m (w + 1) (f_place I 1 ((b + w : Nat) : Int) (f_cfw I 1 7 (b + w)) v) := if_neg h87
        rw [e]
        refine g_aload0 (Y := Y_X4_fill) (pc' := 94) dX4_fill_93 rfl ?_
        refine g_getR (Y := Y_X4_fill) (pc' := 97) dX4_fill_94 rfl fl_X4_10 rfl (by assumption) (by omega) (by assumption) ?_
        refine g_iload1 (Y := Y_X4_fill) (pc' := 98) dX4_fill_97 rfl ?_
        refine g_iload4 (Y := Y_X4_fill) (pc' := 100) dX4_fill_98 rfl ?_
        refine g_iadd (Y := Y_X4_fill) (pc' := 101) dX4_fill_100 rfl ?_
        rw [show ((b : Nat) : Int) + (w : Int) = ((b + w : Nat) : Int) from by omega]
        refine g_iload5 (Y := Y_X4_fill) (pc' := 103) dX4_fill_101 rfl ?_
        refine g_iload3 (Y := Y_X4_fill) (pc' := 104) dX4_fill_103 rfl ?_
        
        refine g_callVn (Y := Y_X4_fill) (c := 3) (s_X3_place a8 ((b + w : Nat) : Int) _ v ⟨by omega, by omega⟩ ⟨by omega, by omega⟩ (StV_p x1)) (pc' := 107) dX4_fill_104 rfl cv_X4_75 rfl (by assumption) (by show _ < n; omega) ⟨by decide, _, rfl, rfl⟩ rfl rfl rfl rfl ?_
        refine g_iinc4 (Y := Y_X4_fill) (pc' := 110) dX4_fill_107 rfl (Nat.le_of_ble_eq_true rfl) rfl ?_
        refine g_goto (Y := Y_X4_fill) (t := 61) dX4_fill_110 (by decide) ?_
        exact ih (w + 1) _ _ (by omega) (XV_place hv ⟨by omega, by omega⟩ (by omega) ⟨by omega, by omega⟩)
      · have e : flL b v (m + 1) w I = ((w : Int), I) := if_pos h87
        rw [e]
        refine g_iload4 (Y := Y_X4_fill) (pc' := 92) dX4_fill_90 rfl ?_
        exact GoX.of (g_iret (Y := Y_X4_fill) dX4_fill_92 rfl (Nat.zero_le _) (Nat.zero_le _) (⟨her, rfl, rfl⟩))
set_option maxHeartbeats 2000000 in
set_option maxRecDepth 100000 in
theorem s_X4_fill {l : Launch} {E : QE} (hl9 : l.stackTraces = false) {T : Nat → Nat × Nat} {I : Nat → Nat → Int} {J : Nat → Nat → Int64} {R : Nat → Nat → Option Nat} {n : Nat} (hk : ScB T R n) (hv : XV I) (p : Int) (h_p : -2147483648 ≤ p ∧ p < 2147483648) (q : Int) (h_q : -2147483648 ≤ q ∧ q < 2147483648) (v : Int) (h_v : -2147483648 ≤ v ∧ v < 2147483648)  : SpT l E Y_X4_fill [.ref (E.1 + 0), .int (iz p), .int (iz q), .int (iz v)] (T, I, J, R, n, 0) (x_fill p q v) (.int (iz (f_fill I R p q v).1)) (T, (f_fill I R p q v).2, J, f_saveR I R, n, 0) := by
  have hk0 := hk
  obtain ⟨a0, a1, a2, a3, a4, a5, a6, a7, a8, a9, a10, a11, a12, a13, a14, a15, a16⟩ := hk
  have b8 := a8.1
  have b9 := a9.1
  have b10 := a10.1
  have b11 := a11.1
  have b12 := a12.1
  obtain ⟨x1, x7, x46, x36, x40, x74, x3, xl, xl2⟩ := id hv
  have hk9 := ScB_saveR (I := I) hk0
  have hv9 := XV_save hk0 hv
  obtain ⟨c0, c1, c2, c3, c4, c5, c6, c7, c8, c9, c10, c11, c12, c13, c14, c15, c16⟩ := id hk9
  obtain ⟨y1, y7, y46, y36, y40, y74, y3, yl, yl2⟩ := id hv9
  refine SpX.of [some (.ref (E.1 + 0)), some (.int (iz p)), some (.int (iz q)), some (.int (iz v)), none, none] (by decide +kernel) (Nat.le_of_ble_eq_true rfl) (fun _ h => h) ?_
  refine g_iload1 (Y := Y_X4_fill) (pc' := 1) dX4_fill_0 rfl ?_
  refine g_callSv (Y := Y_X4_fill) (s_X4_isBlock p h_p) (pc' := 4) dX4_fill_1 rfl cv_X4_44 rfl rfl rfl rfl rfl ?_
  refine g_if_eq (Y := Y_X4_fill) (t := 16) (pc' := 7) dX4_fill_4 (by decide) rfl ⟨by omega, by omega⟩ (fun h4 => ?_) (fun h4 => ?_)
  · have hb := ifb_f h4
    have hx := fun q9 : (0 ≤ p ∧ p < 480) ∧ q ≤ 480 - p => hb q9.1
    exact g_throw (Y := Y_X4_fill) (cls := xIOB) (text := "no such blocks") rfl (by decide) (q_w 640 (by decide +kernel) rfl) (by decide) (by decide) (q_w 520 (by decide +kernel) rfl) (q_w 10 (by decide +kernel) rfl) dX4_fill_16 dX4_fill_19 dX4_fill_20 dX4_fill_22 dX4_fill_25 hl9 (by decide) rfl ⟨if_neg hx, rfl⟩
  · have hb := ifb_t h4
    refine g_iload2 (Y := Y_X4_fill) (pc' := 8) dX4_fill_7 rfl ?_
    refine g_sipush (Y := Y_X4_fill) (pc' := 11) dX4_fill_8 rfl (by decide) ?_
    refine g_iload1 (Y := Y_X4_fill) (pc' := 12) dX4_fill_11 rfl ?_
    refine g_isub (Y := Y_X4_fill) (pc' := 13) dX4_fill_12 rfl ?_
    refine g_icmp_le (Y := Y_X4_fill) (t := 26) (pc' := 16) dX4_fill_13 (by decide) rfl ⟨by omega, by omega⟩ ⟨by omega, by omega⟩ (fun h13 => ?_) (fun h13 => ?_)
    · have hg : (0 ≤ p ∧ p < 480) ∧ q ≤ 480 - p := by omega
      refine g_iload2 (Y := Y_X4_fill) (pc' := 27) dX4_fill_26 rfl ?_
      refine g_iconst (Y := Y_X4_fill) (pc' := 28) dX4_fill_27 rfl ?_
      refine g_icmp_lt (Y := Y_X4_fill) (t := 44) (pc' := 31) dX4_fill_28 (by decide) rfl ⟨by omega, by omega⟩ ⟨by omega, by omega⟩ (fun h28 => ?_) (fun h28 => ?_)
      · have hx : ¬ ((1 ≤ q ∧ q ≤ 48) ∧ 0 ≤ v ∧ v ≤ 999) := by omega
        exact g_throw (Y := Y_X4_fill) (cls := xIAE) (text := "many is not 1 to 48, or value is not 0 to 999") rfl (by decide) (q_w 640 (by decide +kernel) rfl) (by decide) (by decide) (q_w 591 (by decide +kernel) rfl) (q_w 11 (by decide +kernel) rfl) dX4_fill_44 dX4_fill_47 dX4_fill_48 dX4_fill_50 dX4_fill_53 hl9 (by decide) rfl ⟨(if_pos hg).trans (if_neg hx), rfl⟩
      · refine g_iload2 (Y := Y_X4_fill) (pc' := 32) dX4_fill_31 rfl ?_
        refine g_bipush (Y := Y_X4_fill) (pc' := 34) dX4_fill_32 rfl (by decide) ?_
        refine g_icmp_gt (Y := Y_X4_fill) (t := 44) (pc' := 37) dX4_fill_34 (by decide) rfl ⟨by omega, by omega⟩ ⟨by omega, by omega⟩ (fun h34 => ?_) (fun h34 => ?_)
        · have hx : ¬ ((1 ≤ q ∧ q ≤ 48) ∧ 0 ≤ v ∧ v ≤ 999) := by omega
          exact g_throw (Y := Y_X4_fill) (cls := xIAE) (text := "many is not 1 to 48, or value is not 0 to 999") rfl (by decide) (q_w 640 (by decide +kernel) rfl) (by decide) (by decide) (q_w 591 (by decide +kernel) rfl) (q_w 11 (by decide +kernel) rfl) dX4_fill_44 dX4_fill_47 dX4_fill_48 dX4_fill_50 dX4_fill_53 hl9 (by decide) rfl ⟨(if_pos hg).trans (if_neg hx), rfl⟩
        · refine g_iload3 (Y := Y_X4_fill) (pc' := 38) dX4_fill_37 rfl ?_
          refine g_callSv (Y := Y_X4_fill) (s_X4_isValue v h_v) (pc' := 41) dX4_fill_38 rfl cv_X4_55 rfl rfl rfl rfl rfl ?_
          refine g_if_ne (Y := Y_X4_fill) (t := 54) (pc' := 44) dX4_fill_41 (by decide) rfl ⟨by omega, by omega⟩ (fun h41 => ?_) (fun h41 => ?_)
          · have hu := ifb_t h41
            have hr : x_fill p q v = none := (if_pos hg).trans (if_pos ⟨⟨by omega, by omega⟩, hu⟩)
            obtain ⟨b, rfl⟩ : ∃ b : Nat, p = (b : Int) := ⟨p.toNat, by have q9 := hb; omega⟩
            obtain ⟨mq, rfl⟩ : ∃ mq : Nat, q = (mq : Int) := ⟨q.toNat, by omega⟩
            refine g_aload0 (Y := Y_X4_fill) (pc' := 55) dX4_fill_54 rfl ?_
            refine g_callVn (Y := Y_X4_fill) (c := 4) (s_X4_saveState hk0 hv) (pc' := 58) dX4_fill_55 rfl cv_X4_72 rfl (by assumption) (by show _ < n; omega) ⟨by decide, _, rfl, rfl⟩ rfl rfl rfl rfl ?_
            refine g_iconst (Y := Y_X4_fill) (pc' := 59) dX4_fill_58 rfl ?_
            refine g_istore4 (Y := Y_X4_fill) (pc' := 61) dX4_fill_59 rfl (Nat.le_of_ble_eq_true rfl) rfl ?_
            exact s_X4_fill_lp hk9 hu (by omega) hr mq 0 _ _ (by omega) hv9
          · have hu := ifb_f h41
            have hx : ¬ ((1 ≤ q ∧ q ≤ 48) ∧ 0 ≤ v ∧ v ≤ 999) := fun q9 => hu q9.2
            exact g_throw (Y := Y_X4_fill) (cls := xIAE) (text := "many is not 1 to 48, or value is not 0 to 999") rfl (by decide) (q_w 640 (by decide +kernel) rfl) (by decide) (by decide) (q_w 591 (by decide +kernel) rfl) (q_w 11 (by decide +kernel) rfl) dX4_fill_44 dX4_fill_47 dX4_fill_48 dX4_fill_50 dX4_fill_53 hl9 (by decide) rfl ⟨(if_pos hg).trans (if_neg hx), rfl⟩
    · have hx : ¬ ((0 ≤ p ∧ p < 480) ∧ q ≤ 480 - p) := by omega
      exact g_throw (Y := Y_X4_fill) (cls := xIOB) (text := "no such blocks") rfl (by decide) (q_w 640 (by decide +kernel) rfl) (by decide) (by decide) (q_w 520 (by decide +kernel) rfl) (q_w 10 (by decide +kernel) rfl) dX4_fill_16 dX4_fill_19 dX4_fill_20 dX4_fill_22 dX4_fill_25 hl9 (by decide) rfl ⟨if_neg hx, rfl⟩
/-- the orders are followed, up to the first that is refused -/
def rdL : Nat → Nat → (Nat → Nat → Int) → Int × (Nat → Nat → Int)
  | 0, o, I => (o, I)
  | m + 1, o, I => if (f_follow I o).1 = 0 then ((o : Int), (f_follow I o).2) else rdL m (o + 1) (f_follow I o).2
theorem rdL_XV : ∀ (m o : Nat) (I : Nat → Nat → Int), XV I → XV (rdL m o I).2
  | 0, _, _, h => h
  | m + 1, o, I, h => by
    unfold rdL
    split
    · exact XV_follow h
    · exact rdL_XV m (o + 1) _ (XV_follow h)
theorem rdL_36 : ∀ (m o : Nat) (I : Nat → Nat → Int) (a : Nat), 7 ≤ a → (rdL m o I).2 a = I a
  | 0, _, _, _, _ => rfl
  | m + 1, o, I, a, h => by
    unfold rdL
    split
    · exact follow_ne (by omega)
    · rw [rdL_36 m (o + 1) _ a h, follow_ne (by omega)]
def x_read (I : Nat → Nat → Int) : Option String := if (f_tells I 36).1 = 0 then some xIAE else none
def f_rd (I : Nat → Nat → Int) (R : Nat → Nat → Option Nat) : Int × (Nat → Nat → Int) := rdL (f_save (f_tells I 36).2 R 36 4).toNat 0 (f_save (f_tells I 36).2 R)
def w_read (I : Nat → Nat → Int) (J : Nat → Nat → Int64) (R : Nat → Nat → Option Nat) : (Nat → Nat → Int) × (Nat → Nat → Int64) := f_build (u2 (f_rd I R).2 36 3 0) J 7 1
set_option maxHeartbeats 2000000 in
set_option maxRecDepth 100000 in
theorem s_X4_read_lp {l : Launch} {E : QE} {T : Nat → Nat × Nat} {J : Nat → Nat → Int64} {R : Nat → Nat → Option Nat} {n : Nat} (hk : ScB T R n) {Tg : List Frame → Array Value → State → State → Prop} {I0 : Nat → Nat → Int} : ∀ (m o : Nat) (I : Nat → Nat → Int), o + m = (I0 36 4).toNat → XV I → I 36 = I0 36 → GoT l E Y_X4_read 0 0 51 [some (.ref (E.1 + 0)), some (.int (iz (rdL m o I).1))] [] (T, (rdL m o I).2, J, R, n, 0) Tg → GoT l E Y_X4_read 0 0 26 [some (.ref (E.1 + 0)), some (.int (iz (o : Int)))] [] (T, I, J, R, n, 0) Tg := by
  have hk0 := hk
  obtain ⟨a0, a1, a2, a3, a4, a5, a6, a7, a8, a9, a10, a11, a12, a13, a14, a15, a16⟩ := hk
  have b8 := a8.1
  have b9 := a9.1
  have b10 := a10.1
  have b11 := a11.1
  have b12 := a12.1
  intro m
  induction m with
  | zero =>
    intro o I hm hv h36 hend
    obtain ⟨x1, x7, x46, x36, x40, x74, x3, xl, xl2⟩ := id hv
    have x364 := x36.2.1
    rw [← h36] at hm
    refine g_iload1 (Y := Y_X4_read) (pc' := 27) dX4_read_26 rfl ?_
    refine g_aload0 (Y := Y_X4_read) (pc' := 28) dX4_read_27 rfl ?_
    refine g_getR (Y := Y_X4_read) (pc' := 31) dX4_read_28 rfl fl_X4_34 rfl (by assumption) (by omega) (by assumption) ?_
    refine g_getI (Y := Y_X4_read) (pc' := 34) dX4_read_31 rfl fl_X4_175 rfl (by assumption) (by omega) ?_
    refine g_icmp_ge (Y := Y_X4_read) (t := 51) (pc' := 37) dX4_read_34 (by decide) rfl ⟨by omega, by omega⟩ ⟨by omega, by omega⟩ (fun h34 => ?_) (fun h34 => ?_)
    · exact hend
    · exfalso; omega
  | succ m ih =>
    intro o I hm hv h36 hend
    obtain ⟨x1, x7, x46, x36, x40, x74, x3, xl, xl2⟩ := id hv
    have x364 := x36.2.1
    rw [← h36] at hm
    have hf01 := follow01 (I := I) (o := o)
    refine g_iload1 (Y := Y_X4_read) (pc' := 27) dX4_read_26 rfl ?_
    refine g_aload0 (Y := Y_X4_read) (pc' := 28) dX4_read_27 rfl ?_
    refine g_getR (Y := Y_X4_read) (pc' := 31) dX4_read_28 rfl fl_X4_34 rfl (by assumption) (by omega) (by assumption) ?_
    refine g_getI (Y := Y_X4_read) (pc' := 34) dX4_read_31 rfl fl_X4_175 rfl (by assumption) (by omega) ?_
    refine g_icmp_ge (Y := Y_X4_read) (t := 51) (pc' := 37) dX4_read_34 (by decide) rfl ⟨by omega, by omega⟩ ⟨by omega, by omega⟩ (fun h34 => ?_) (fun h34 => ?_)
    · exfalso; omega
    · refine g_aload0 (Y := Y_X4_read) (pc' := 38) dX4_read_37 rfl ?_
      refine g_iload1 (Y := Y_X4_read) (pc' := 39) dX4_read_38 rfl ?_
      refine g_callVv (Y := Y_X4_read) (c := 4) (s_X4_follow hk0 hv o (by omega)) (pc' := 42) dX4_read_39 rfl cv_X4_178 rfl (by assumption) (by show _ < n; omega) ⟨by decide, _, rfl, rfl⟩ rfl rfl rfl rfl ?_
      refine g_if_eq (Y := Y_X4_read) (t := 51) (pc' := 45) dX4_read_42 (by decide) rfl ⟨by omega, by omega⟩ (fun h42 => ?_) (fun h42 => ?_)
      · have e : rdL (m + 1) o I = ((o : Int), (f_follow I o).2) := if_pos h42
        rw [e] at hend
        exact hend
      · have e : rdL (m + 1) o I = rdL m (o + 1) (f_follow I o).2 := if_neg h42
        rw [e] at hend
        refine g_iinc1 (Y := Y_X4_read) (pc' := 48) dX4_read_45 rfl (Nat.le_of_ble_eq_true rfl) rfl ?_
        refine g_goto (Y := Y_X4_read) (t := 26) dX4_read_48 (by decide) ?_
        exact ih (o + 1) _ (by rw [h36] at hm; omega) (XV_follow hv) (by rw [follow_ne (by omega)]; exact h36) hend
theorem f_tells01 {I : Nat → Nat → Int} {k : Nat} : (f_tells I k).1 = 0 ∨ (f_tells I k).1 = 1 := by
  unfold f_tells f_tells1
  split
  · unfold f_endSpot
    split <;> simp
  · exact Or.inl rfl
set_option maxHeartbeats 2000000 in
set_option maxRecDepth 100000 in
theorem s_X4_read {l : Launch} {E : QE} (hl9 : l.stackTraces = false) {T : Nat → Nat × Nat} {I : Nat → Nat → Int} {J : Nat → Nat → Int64} {R : Nat → Nat → Option Nat} {n : Nat} (hk : ScB T R n) (hv : XV I) : SpX l E Y_X4_read [.ref (E.1 + 0)] (T, I, J, R, n, 0) (fun r1 w1 => x_read I = none ∧ r1 = some (.int (iz (f_rd I R).1)) ∧ w1 = (T, (w_read I J R).1, (w_read I J R).2, f_saveR (f_tells I 36).2 R, n, 0)) (fun X w1 => x_read I = some X ∧ w1 = (T, (f_tells I 36).2, J, R, n, 0)) := by
  have hk0 := hk
  obtain ⟨a0, a1, a2, a3, a4, a5, a6, a7, a8, a9, a10, a11, a12, a13, a14, a15, a16⟩ := hk
  have b8 := a8.1
  have b9 := a9.1
  have b10 := a10.1
  have b11 := a11.1
  have b12 := a12.1
  obtain ⟨x1, x7, x46, x36, x40, x74, x3, xl, xl2⟩ := id hv
  have ht := TxV_tells x36
  have hv1 := XV_tells hv
  have hk9 := ScB_saveR (I := (f_tells I 36).2) hk0
  have hv9 := XV_save hk0 hv1
  obtain ⟨c0, c1, c2, c3, c4, c5, c6, c7, c8, c9, c10, c11, c12, c13, c14, c15, c16⟩ := id hk9
  have hv8 : XV (f_rd I R).2 := rdL_XV _ 0 _ hv9
  have hv7 := XV_empty hv8
  have h01 : (f_tells I 36).1 = 0 ∨ (f_tells I 36).1 = 1 := f_tells01
  refine SpX.of [some (.ref (E.1 + 0)), none] (by decide +kernel) (Nat.le_of_ble_eq_true rfl) (fun _ h => h) ?_
  refine g_aload0 (Y := Y_X4_read) (pc' := 1) dX4_read_0 rfl ?_
  refine g_getR (Y := Y_X4_read) (pc' := 4) dX4_read_1 rfl fl_X4_34 rfl (by assumption) (by omega) (by assumption) ?_
  refine g_callVv (Y := Y_X4_read) (c := 0) (s_X0_tellsSpots a10 x36) (pc' := 7) dX4_read_4 rfl cv_X4_170 rfl (by assumption) (by show _ < n; omega) ⟨by decide, _, rfl, rfl⟩ rfl rfl rfl rfl ?_
  refine g_if_ne (Y := Y_X4_read) (t := 20) (pc' := 10) dX4_read_7 (by decide) rfl ⟨by omega, by omega⟩ (fun h7 => ?_) (fun h7 => ?_)
  · refine g_aload0 (Y := Y_X4_read) (pc' := 21) dX4_read_20 rfl ?_
    refine g_callVn (Y := Y_X4_read) (c := 4) (s_X4_saveState hk0 hv1) (pc' := 24) dX4_read_21 rfl cv_X4_72 rfl (by assumption) (by show _ < n; omega) ⟨by decide, _, rfl, rfl⟩ rfl rfl rfl rfl ?_
    refine g_iconst (Y := Y_X4_read) (pc' := 25) dX4_read_24 rfl ?_
    refine g_istore1 (Y := Y_X4_read) (pc' := 26) dX4_read_25 rfl (Nat.le_of_ble_eq_true rfl) rfl ?_
    refine s_X4_read_lp hk9 (I0 := f_save (f_tells I 36).2 R) (f_save (f_tells I 36).2 R 36 4).toNat 0 _ (by omega) hv9 rfl ?_
    refine g_aload0 (Y := Y_X4_read) (pc' := 52) dX4_read_51 rfl ?_
    refine g_getR (Y := Y_X4_read) (pc' := 55) dX4_read_52 rfl fl_X4_34 rfl (by assumption) (by omega) (by assumption) ?_
    refine g_callVn (Y := Y_X4_read) (c := 0) (s_X0_empty c10 hv8.2.2.2.1) (pc' := 58) dX4_read_55 rfl cv_X4_163 rfl (by assumption) (by show _ < n; omega) ⟨by decide, _, rfl, rfl⟩ rfl rfl rfl rfl ?_
    refine g_aload0 (Y := Y_X4_read) (pc' := 59) dX4_read_58 rfl ?_
    refine g_getR (Y := Y_X4_read) (pc' := 62) dX4_read_59 rfl fl_X4_19 rfl (by assumption) (by omega) (by assumption) ?_
    refine g_aload0 (Y := Y_X4_read) (pc' := 63) dX4_read_62 rfl ?_
    refine g_getR (Y := Y_X4_read) (pc' := 66) dX4_read_63 rfl fl_X4_10 rfl (by assumption) (by omega) (by assumption) ?_
    refine g_callVn (Y := Y_X4_read) (c := 2) (s_X2_build c9 c8 (by omega) hv7.2.1 hv7.1.1 (StV_s hv7.1) hv7.1.2.2.1 hv7.1.2.2.2.1) (pc' := 69) dX4_read_66 rfl cv_X4_109 rfl (by assumption) (by show _ < n; omega) ⟨by decide, _, rfl, rfl⟩ rfl rfl rfl rfl ?_
    refine g_iload1 (Y := Y_X4_read) (pc' := 70) dX4_read_69 rfl ?_
    exact GoX.of (g_iret (Y := Y_X4_read) dX4_read_70 rfl (Nat.zero_le _) (Nat.zero_le _) (⟨if_neg h7, rfl, rfl⟩))
  · exact g_throw (Y := Y_X4_read) (cls := xIAE) (text := "the buffer does not tell spots") rfl (by decide) (q_w 730 (by decide +kernel) rfl) (by decide) (by decide) (q_w 591 (by decide +kernel) rfl) (q_w 11 (by decide +kernel) rfl) dX4_read_10 dX4_read_13 dX4_read_14 dX4_read_16 dX4_read_19 hl9 (by decide) rfl ⟨if_pos h7, rfl⟩
def x_undo (I : Nat → Nat → Int) : Option String := if 1 ≤ I 0 3 then none else some xISE
def w_undo (I : Nat → Nat → Int) (J : Nat → Nat → Int64) (R : Nat → Nat → Option Nat) : (Nat → Nat → Int) × (Nat → Nat → Int64) := f_build (f_copy I (f_sv R (I 0 3 - 1).toNat) 1) J 7 1
set_option maxHeartbeats 2000000 in
set_option maxRecDepth 100000 in
theorem s_X4_undo {l : Launch} {E : QE} (hl9 : l.stackTraces = false) {T : Nat → Nat × Nat} {I : Nat → Nat → Int} {J : Nat → Nat → Int64} {R : Nat → Nat → Option Nat} {n : Nat} (hk : ScB T R n) (hv : XV I)  : SpT l E Y_X4_undo [.ref (E.1 + 0)] (T, I, J, R, n, 0) (x_undo I) (.int (iz (I 0 3 - 1))) (T, u2 (w_undo I J R).1 0 3 (I 0 3 - 1), (w_undo I J R).2, R, n, 0) := by
  have hk0 := hk
  obtain ⟨a0, a1, a2, a3, a4, a5, a6, a7, a8, a9, a10, a11, a12, a13, a14, a15, a16⟩ := hk
  have b8 := a8.1
  have b9 := a9.1
  have b10 := a10.1
  have b11 := a11.1
  have b12 := a12.1
  obtain ⟨x1, x7, x46, x36, x40, x74, x3, xl, xl2⟩ := id hv
  refine SpX.of [some (.ref (E.1 + 0)), none] (by decide +kernel) (Nat.le_of_ble_eq_true rfl) (fun _ h => h) ?_
  refine g_aload0 (Y := Y_X4_undo) (pc' := 1) dX4_undo_0 rfl ?_
  refine g_getI (Y := Y_X4_undo) (pc' := 4) dX4_undo_1 rfl fl_X4_27 rfl (by assumption) (by omega) ?_
  refine g_iconst (Y := Y_X4_undo) (pc' := 5) dX4_undo_4 rfl ?_
  refine g_isub (Y := Y_X4_undo) (pc' := 6) dX4_undo_5 rfl ?_
  refine g_istore1 (Y := Y_X4_undo) (pc' := 7) dX4_undo_6 rfl (Nat.le_of_ble_eq_true rfl) rfl ?_
  refine g_iload1 (Y := Y_X4_undo) (pc' := 8) dX4_undo_7 rfl ?_
  refine g_if_lt (Y := Y_X4_undo) (t := 29) (pc' := 11) dX4_undo_8 (by decide) rfl ⟨by omega, by omega⟩ (fun h8 => ?_) (fun h8 => ?_)
  · exact g_throw (Y := Y_X4_undo) (cls := xISE) (text := "no saved state") rfl (by decide) (q_w 755 (by decide +kernel) rfl) (by decide) (by decide) (q_w 610 (by decide +kernel) rfl) (q_w 12 (by decide +kernel) rfl) dX4_undo_29 dX4_undo_32 dX4_undo_33 dX4_undo_35 dX4_undo_38 hl9 (by decide) rfl ⟨if_neg (by omega), rfl⟩
  · refine g_iload1 (Y := Y_X4_undo) (pc' := 12) dX4_undo_11 rfl ?_
    refine g_aload0 (Y := Y_X4_undo) (pc' := 13) dX4_undo_12 rfl ?_
    refine g_getR (Y := Y_X4_undo) (pc' := 16) dX4_undo_13 rfl fl_X4_23 rfl (by assumption) (by omega) (by assumption) ?_
    refine g_alen (Y := Y_X4_undo) (pc' := 17) dX4_undo_16 rfl (by assumption) (by decide) (by omega) ?_
    refine g_icmp_ge (Y := Y_X4_undo) (t := 29) (pc' := 20) dX4_undo_17 (by decide) rfl ⟨by omega, by omega⟩ ⟨by omega, by omega⟩ (fun h17 => ?_) (fun h17 => ?_)
    · exfalso; omega
    · obtain ⟨rj, i, hi, ej⟩ := f_sv_of hk0 (j := (I 0 3 - 1).toNat) (by omega)
      have bi := a13 i hi
      have hv9 : XV (f_copy I (f_sv R (I 0 3 - 1).toNat) 1) := by rw [ej]; exact XV_back hv hi
      rw [← ej] at bi
      refine g_aload0 (Y := Y_X4_undo) (pc' := 21) dX4_undo_20 rfl ?_
      refine g_getR (Y := Y_X4_undo) (pc' := 24) dX4_undo_21 rfl fl_X4_23 rfl (by assumption) (by omega) (by assumption) ?_
      refine g_iload1 (Y := Y_X4_undo) (pc' := 25) dX4_undo_24 rfl ?_
      refine g_aald (Y := Y_X4_undo) (pc' := 26) dX4_undo_25 rfl (by assumption) (by decide) (by omega) (by decide) ⟨by omega, by omega⟩ (by assumption) ?_
      refine g_ifnonnull (Y := Y_X4_undo) (t := 39) dX4_undo_26 (by decide) ?_
      refine g_aload0 (Y := Y_X4_undo) (pc' := 40) dX4_undo_39 rfl ?_
      refine g_getR (Y := Y_X4_undo) (pc' := 43) dX4_undo_40 rfl fl_X4_10 rfl (by assumption) (by omega) (by assumption) ?_
      refine g_aload0 (Y := Y_X4_undo) (pc' := 44) dX4_undo_43 rfl ?_
      refine g_getR (Y := Y_X4_undo) (pc' := 47) dX4_undo_44 rfl fl_X4_23 rfl (by assumption) (by omega) (by assumption) ?_
      refine g_iload1 (Y := Y_X4_undo) (pc' := 48) dX4_undo_47 rfl ?_
      refine g_aald (Y := Y_X4_undo) (pc' := 49) dX4_undo_48 rfl (by assumption) (by decide) (by omega) (by decide) ⟨by omega, by omega⟩ rj ?_
      refine g_callVn (Y := Y_X4_undo) (c := 3) (s_X3_copyFrom a8 bi) (pc' := 52) dX4_undo_49 rfl cv_X4_183 rfl (by assumption) (by show _ < n; omega) ⟨by decide, _, rfl, rfl⟩ rfl rfl rfl rfl ?_
      refine g_aload0 (Y := Y_X4_undo) (pc' := 53) dX4_undo_52 rfl ?_
      refine g_getR (Y := Y_X4_undo) (pc' := 56) dX4_undo_53 rfl fl_X4_19 rfl (by assumption) (by omega) (by assumption) ?_
      refine g_aload0 (Y := Y_X4_undo) (pc' := 57) dX4_undo_56 rfl ?_
      refine g_getR (Y := Y_X4_undo) (pc' := 60) dX4_undo_57 rfl fl_X4_10 rfl (by assumption) (by omega) (by assumption) ?_
      refine g_callVn (Y := Y_X4_undo) (c := 2) (s_X2_build a9 a8 (by omega) hv9.2.1 hv9.1.1 (StV_s hv9.1) hv9.1.2.2.1 hv9.1.2.2.2.1) (pc' := 63) dX4_undo_60 rfl cv_X4_109 rfl (by assumption) (by show _ < n; omega) ⟨by decide, _, rfl, rfl⟩ rfl rfl rfl rfl ?_
      refine g_aload0 (Y := Y_X4_undo) (pc' := 64) dX4_undo_63 rfl ?_
      refine g_iload1 (Y := Y_X4_undo) (pc' := 65) dX4_undo_64 rfl ?_
      refine g_putI (Y := Y_X4_undo) (pc' := 68) dX4_undo_65 rfl fp_X4_27 rfl (by assumption) (by omega) ?_
      refine g_aload0 (Y := Y_X4_undo) (pc' := 69) dX4_undo_68 rfl ?_
      refine g_getI (Y := Y_X4_undo) (pc' := 72) dX4_undo_69 rfl fl_X4_27 rfl (by assumption) (by omega) ?_
      exact GoX.of (g_iret (Y := Y_X4_undo) dX4_undo_72 rfl (Nat.zero_le _) (Nat.zero_le _) (⟨if_pos (by omega), by rw [u2_at], rfl⟩))
