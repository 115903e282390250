/-! ScratchMap: what looks -/
section
variable {l : Launch} {E : QE} {Y : QY} {kc ks pc pc' : Nat} {L : List (Option Value)} {st : List Value} {w : QW} {Tg : List Frame → Array Value → State → State → Prop}
theorem g_aloadNN {i : Fin 4} (hd : decode Y.2.1 pc = .ok (.aload_n i, 1)) (hp : pc + 1 = pc') (hL : L[(i : Nat)]? = some (some .null)) (h : GoT l E Y kc ks pc' L (.null :: st) w Tg) : GoT l E Y kc ks pc L (st) w Tg := by
  intro p e s m args below meth c H locs ls C hH hS hl
  obtain ⟨hx, hb, hml, hr, ho, hts, hK, hlk, hnm, hbs⟩ := id C
  subst hp
  refine lv_aload_nN hx hb hd rfl (q_l_at hl hL) ?_
  exact h p e s m args below meth c H locs ls C hH hS hl
theorem g_astoreNN {i : Fin 4} (hd : decode Y.2.1 pc = .ok (.astore_n i, 1)) (hp : pc + 1 = pc') (hi : (i : Nat) < Y.2.2.1) (hc : ∀ u, L[(i : Nat) - 1]? = some (some u) → (i : Nat) ≠ 0 → okc (some u) = true) (h : GoT l E Y kc ks pc' (L.set (i : Nat) (some .null)) st w Tg) : GoT l E Y kc ks pc L (.null :: st) w Tg := by
  intro p e s m args below meth c H locs ls C hH hS hl
  obtain ⟨hx, hb, hml, hr, ho, hts, hK, hlk, hnm, hbs⟩ := id C
  subst hp
  refine lv_astore_nN hx hb hd rfl hl hi rfl (fun ls' hl' => ?_)
  exact h p e s m args below meth c H locs ls' C hH hS (q_l_set1 hl' hc)
end
def f_cell (I : Nat → Nat → Int) (c : Int) : Nat → Int
  | 0 => if ¬ f_isSpot I 7 c = 0 then 2 else if ¬ f_isAv I 7 c = 0 then 1 else 0
  | 1 => f_hol I 1 c | 2 => f_hits I 7 c | _ => f_spotAt I 1 c
def f_block (I : Nat → Nat → Int) (b : Nat) : Nat → Int
  | 0 => I (1 + 3) b | 1 => I (1 + 4) b | 2 => if 480 ≤ I (1 + 4) b ∧ I (1 + 4) b < 576 then 1 else 0 | _ => f_cfw I 1 7 b
def fdL (I : Nat → Nat → Int) (v : Int) : Nat → Nat → Int
  | 0, _ => -1
  | m + 1, b => if I (1 + 3) b = v then (b : Int) else fdL I v m (b + 1)
def f_iff (I : Nat → Nat → Int) (J : Nat → Nat → Int64) (c : Int) (w : Nat) : Int := if (f_try I J c).1 = 0 then -1 else f_fc (f_try I J c).2.1 w
def x_cell (p q w : Int) : Option String := if ((0 ≤ p ∧ p < 24) ∧ 0 ≤ q ∧ q < 24) ∧ 0 ≤ w ∧ w < 4 then none else some xIAE
def x_block (p w : Int) : Option String := if 0 ≤ p ∧ p < 480 then (if 0 ≤ w ∧ w < 4 then none else some xIAE) else some xIOB
def x_line (I : Nat → Nat → Int) (p w : Int) : Option String := if 0 ≤ p ∧ p < I 7 6 then (if 0 ≤ w ∧ w < 6 then none else some xIAE) else some xIOB
def x_count (w : Int) : Option String := if 0 ≤ w ∧ w < 10 then none else some xIAE
def x_setting (p : Int) : Option String := if 0 ≤ p ∧ p < 3 then none else some xIOB
def x_find (v : Int) : Option String := if 0 ≤ v ∧ v ≤ 999 then none else some xIAE
theorem f_isSpot01 {I : Nat → Nat → Int} {k : Nat} {c : Int} : f_isSpot I k c = 0 ∨ f_isSpot I k c = 1 := by unfold f_isSpot; split <;> simp
set_option maxHeartbeats 2000000 in
set_option maxRecDepth 100000 in
theorem s_X4_cell {l : Launch} {E : QE} (hl9 : l.stackTraces = false) {T : Nat → Nat × Nat} {I : Nat → Nat → Int} {J : Nat → Nat → Int64} {R : Nat → Nat → Option Nat} {n : Nat} (hk : ScB T R n) (hv : XV I) (p : Int) (h_p : -2147483648 ≤ p ∧ p < 2147483648) (q : Int) (h_q : -2147483648 ≤ q ∧ q < 2147483648) (w : Int) (h_w : -2147483648 ≤ w ∧ w < 2147483648)  : SpT l E Y_X4_cell [.ref (E.1 + 0), .int (iz p), .int (iz q), .int (iz w)] (T, I, J, R, n, 0) (x_cell p q w) (.int (iz (f_cell I (p * 24 + q) w.toNat))) (T, I, J, R, n, 0) := by
  have hk0 := hk
  obtain ⟨a0, a1, a2, a3, a4, a5, a6, a7, a8, a9, a10, a11, a12, a13, a14, a15, a16⟩ := hk
  have b8 := a8.1
  have b9 := a9.1
  have b10 := a10.1
  have b11 := a11.1
  have b12 := a12.1
  obtain ⟨x1, x7, x46, x36, x40, x74, x3, xl, xl2⟩ := id hv
  have hs01 := f_isSpot01 (I := I) (k := 7) (c := p * 24 + q)
  have hav01 := f_av01 (I := I) (k := 7) (c := p * 24 + q)
  refine SpX.of [some (.ref (E.1 + 0)), some (.int (iz p)), some (.int (iz q)), some (.int (iz w)), none] (by decide +kernel) (Nat.le_of_ble_eq_true rfl) (fun _ h => h) ?_
  refine g_iload1 (Y := Y_X4_cell) (pc' := 1) dX4_cell_0 rfl ?_
  refine g_iload2 (Y := Y_X4_cell) (pc' := 2) dX4_cell_1 rfl ?_
  refine g_callSv (Y := Y_X4_cell) (s_X4_inDrive p q h_p h_q) (pc' := 5) dX4_cell_2 rfl cv_X4_91 rfl rfl rfl rfl rfl ?_
  refine g_if_eq (Y := Y_X4_cell) (t := 17) (pc' := 8) dX4_cell_5 (by decide) rfl ⟨by omega, by omega⟩ (fun h5 => ?_) (fun h5 => ?_)
  · have hb := ifb_f h5
    have hx : ¬ (((0 ≤ p ∧ p < 24) ∧ 0 ≤ q ∧ q < 24) ∧ 0 ≤ w ∧ w < 4) := fun q9 => hb q9.1
    exact g_throw (Y := Y_X4_cell) (cls := xIAE) (text := "an argument is out of range") rfl (by decide) (q_w 763 (by decide +kernel) rfl) (by decide) (by decide) (q_w 591 (by decide +kernel) rfl) (q_w 11 (by decide +kernel) rfl) dX4_cell_17 dX4_cell_20 dX4_cell_21 dX4_cell_23 dX4_cell_26 hl9 (by decide) rfl ⟨if_neg hx, rfl⟩
  · have hb := ifb_t h5
    refine g_iload3 (Y := Y_X4_cell) (pc' := 9) dX4_cell_8 rfl ?_
    refine g_if_lt (Y := Y_X4_cell) (t := 17) (pc' := 12) dX4_cell_9 (by decide) rfl ⟨by omega, by omega⟩ (fun h9 => ?_) (fun h9 => ?_)
    · have hx : ¬ (((0 ≤ p ∧ p < 24) ∧ 0 ≤ q ∧ q < 24) ∧ 0 ≤ w ∧ w < 4) := by omega
      exact g_throw (Y := Y_X4_cell) (cls := xIAE) (text := "an argument is out of range") rfl (by decide) (q_w 763 (by decide +kernel) rfl) (by decide) (by decide) (q_w 591 (by decide +kernel) rfl) (q_w 11 (by decide +kernel) rfl) dX4_cell_17 dX4_cell_20 dX4_cell_21 dX4_cell_23 dX4_cell_26 hl9 (by decide) rfl ⟨if_neg hx, rfl⟩
    · refine g_iload3 (Y := Y_X4_cell) (pc' := 13) dX4_cell_12 rfl ?_
      refine g_iconst (Y := Y_X4_cell) (pc' := 14) dX4_cell_13 rfl ?_
      refine g_icmp_lt (Y := Y_X4_cell) (t := 27) (pc' := 17) dX4_cell_14 (by decide) rfl ⟨by omega, by omega⟩ ⟨by omega, by omega⟩ (fun h14 => ?_) (fun h14 => ?_)
      · have hr : x_cell p q w = none := if_pos ⟨hb, by omega⟩
        obtain ⟨w, rfl⟩ : ∃ w9 : Nat, w = (w9 : Int) := ⟨w.toNat, by omega⟩
        refine g_iload1 (Y := Y_X4_cell) (pc' := 28) dX4_cell_27 rfl ?_
        refine g_iload2 (Y := Y_X4_cell) (pc' := 29) dX4_cell_28 rfl ?_
        refine g_callSv (Y := Y_X4_cell) (s_X4_cellNumber p q) (pc' := 32) dX4_cell_29 rfl cv_X4_97 rfl rfl rfl rfl rfl ?_
        refine g_istore4 (Y := Y_X4_cell) (pc' := 34) dX4_cell_32 rfl (Nat.le_of_ble_eq_true rfl) rfl ?_
        refine g_iload3 (Y := Y_X4_cell) (pc' := 35) dX4_cell_34 rfl ?_
        rcases (show w = 0 ∨ w = 1 ∨ w = 2 ∨ w = 3 by omega) with rfl | rfl | rfl | rfl
        · refine g_tswIn (Y := Y_X4_cell) (t := 60) (off := 25) dX4_cell_35 ⟨by decide, by decide⟩ (by decide) (by decide) rfl (by decide) ?_
          refine g_aload0 (Y := Y_X4_cell) (pc' := 61) dX4_cell_60 rfl ?_
          refine g_getR (Y := Y_X4_cell) (pc' := 64) dX4_cell_61 rfl fl_X4_19 rfl (by assumption) (by omega) (by assumption) ?_
          refine g_iload4 (Y := Y_X4_cell) (pc' := 66) dX4_cell_64 rfl ?_
          refine g_callVv (Y := Y_X4_cell) (c := 2) (s_X2_isSpot a9 (p * 24 + q) ⟨by omega, by omega⟩ (LmV_b x7)) (pc' := 69) dX4_cell_66 rfl cv_X4_188 rfl (by assumption) (by show _ < n; omega) ⟨by decide, _, rfl, rfl⟩ rfl rfl rfl rfl ?_
          refine g_if_eq (Y := Y_X4_cell) (t := 76) (pc' := 72) dX4_cell_69 (by decide) rfl ⟨by omega, by omega⟩ (fun h69 => ?_) (fun h69 => ?_)
          · refine g_aload0 (Y := Y_X4_cell) (pc' := 77) dX4_cell_76 rfl ?_
            refine g_getR (Y := Y_X4_cell) (pc' := 80) dX4_cell_77 rfl fl_X4_19 rfl (by assumption) (by omega) (by assumption) ?_
            refine g_iload4 (Y := Y_X4_cell) (pc' := 82) dX4_cell_80 rfl ?_
            refine g_callVv (Y := Y_X4_cell) (c := 2) (s_X2_isAvoided a9 (p * 24 + q) ⟨by omega, by omega⟩ (LmV_b x7) (LmV_h x7)) (pc' := 85) dX4_cell_82 rfl cv_X4_191 rfl (by assumption) (by show _ < n; omega) ⟨by decide, _, rfl, rfl⟩ rfl rfl rfl rfl ?_
            refine g_if_eq (Y := Y_X4_cell) (t := 92) (pc' := 88) dX4_cell_85 (by decide) rfl ⟨by omega, by omega⟩ (fun h85 => ?_) (fun h85 => ?_)
            · have e : f_cell I (p * 24 + q) 0 = 0 := (if_neg (by omega)).trans (if_neg (by omega))
              refine g_iconst (Y := Y_X4_cell) (pc' := 93) dX4_cell_92 rfl ?_
              exact GoX.of (g_iret (Y := Y_X4_cell) dX4_cell_93 rfl (Nat.zero_le _) (Nat.zero_le _) (⟨hr, congrArg (fun q9 => some (Value.int (iz q9))) e.symm, rfl⟩))
            · have e : f_cell I (p * 24 + q) 0 = 1 := (if_neg (by omega)).trans (if_pos h85)
              refine g_iconst (Y := Y_X4_cell) (pc' := 89) dX4_cell_88 rfl ?_
              refine g_goto (Y := Y_X4_cell) (t := 93) dX4_cell_89 (by decide) ?_
              exact GoX.of (g_iret (Y := Y_X4_cell) dX4_cell_93 rfl (Nat.zero_le _) (Nat.zero_le _) (⟨hr, congrArg (fun q9 => some (Value.int (iz q9))) e.symm, rfl⟩))
          · have e : f_cell I (p * 24 + q) 0 = 2 := if_pos h69
            refine g_iconst (Y := Y_X4_cell) (pc' := 73) dX4_cell_72 rfl ?_
            refine g_goto (Y := Y_X4_cell) (t := 93) dX4_cell_73 (by decide) ?_
            exact GoX.of (g_iret (Y := Y_X4_cell) dX4_cell_93 rfl (Nat.zero_le _) (Nat.zero_le _) (⟨hr, congrArg (fun q9 => some (Value.int (iz q9))) e.symm, rfl⟩))
        · refine g_tswIn (Y := Y_X4_cell) (t := 94) (off := 59) dX4_cell_35 ⟨by decide, by decide⟩ (by decide) (by decide) rfl (by decide) ?_
          refine g_aload0 (Y := Y_X4_cell) (pc' := 95) dX4_cell_94 rfl ?_
          refine g_getR (Y := Y_X4_cell) (pc' := 98) dX4_cell_95 rfl fl_X4_10 rfl (by assumption) (by omega) (by assumption) ?_
          refine g_iload4 (Y := Y_X4_cell) (pc' := 100) dX4_cell_98 rfl ?_
          refine g_callVv (Y := Y_X4_cell) (c := 3) (s_X3_holderOf a8 (p * 24 + q) ⟨by omega, by omega⟩) (pc' := 103) dX4_cell_100 rfl cv_X4_194 rfl (by assumption) (by show _ < n; omega) ⟨by decide, _, rfl, rfl⟩ rfl rfl rfl rfl ?_
          exact GoX.of (g_iret (Y := Y_X4_cell) dX4_cell_103 rfl (Nat.zero_le _) (Nat.zero_le _) (⟨hr, rfl, rfl⟩))
        · refine g_tswIn (Y := Y_X4_cell) (t := 104) (off := 69) dX4_cell_35 ⟨by decide, by decide⟩ (by decide) (by decide) rfl (by decide) ?_
          refine g_aload0 (Y := Y_X4_cell) (pc' := 105) dX4_cell_104 rfl ?_
          refine g_getR (Y := Y_X4_cell) (pc' := 108) dX4_cell_105 rfl fl_X4_19 rfl (by assumption) (by omega) (by assumption) ?_
          refine g_iload4 (Y := Y_X4_cell) (pc' := 110) dX4_cell_108 rfl ?_
          refine g_callVv (Y := Y_X4_cell) (c := 2) (s_X2_hitsOf a9 (p * 24 + q) ⟨by omega, by omega⟩) (pc' := 113) dX4_cell_110 rfl cv_X4_197 rfl (by assumption) (by show _ < n; omega) ⟨by decide, _, rfl, rfl⟩ rfl rfl rfl rfl ?_
          exact GoX.of (g_iret (Y := Y_X4_cell) dX4_cell_113 rfl (Nat.zero_le _) (Nat.zero_le _) (⟨hr, rfl, rfl⟩))
        · refine g_tswOut (Y := Y_X4_cell) (t := 114) dX4_cell_35 ⟨by decide, by decide⟩ (by decide) (by decide) ?_
          refine g_aload0 (Y := Y_X4_cell) (pc' := 115) dX4_cell_114 rfl ?_
          refine g_getR (Y := Y_X4_cell) (pc' := 118) dX4_cell_115 rfl fl_X4_10 rfl (by assumption) (by omega) (by assumption) ?_
          refine g_iload4 (Y := Y_X4_cell) (pc' := 120) dX4_cell_118 rfl ?_
          refine g_callVv (Y := Y_X4_cell) (c := 3) (s_X3_spotAt a8 x1.1 (StV_s x1) (p * 24 + q) ⟨by omega, by omega⟩) (pc' := 123) dX4_cell_120 rfl cv_X4_116 rfl (by assumption) (by show _ < n; omega) ⟨by decide, _, rfl, rfl⟩ rfl rfl rfl rfl ?_
          exact GoX.of (g_iret (Y := Y_X4_cell) dX4_cell_123 rfl (Nat.zero_le _) (Nat.zero_le _) (⟨hr, rfl, rfl⟩))
      · have hx : ¬ (((0 ≤ p ∧ p < 24) ∧ 0 ≤ q ∧ q < 24) ∧ 0 ≤ w ∧ w < 4) := by omega
        exact g_throw (Y := Y_X4_cell) (cls := xIAE) (text := "an argument is out of range") rfl (by decide) (q_w 763 (by decide +kernel) rfl) (by decide) (by decide) (q_w 591 (by decide +kernel) rfl) (q_w 11 (by decide +kernel) rfl) dX4_cell_17 dX4_cell_20 dX4_cell_21 dX4_cell_23 dX4_cell_26 hl9 (by decide) rfl ⟨if_neg hx, rfl⟩
set_option maxHeartbeats 2000000 in
set_option maxRecDepth 100000 in
theorem s_X4_block {l : Launch} {E : QE} (hl9 : l.stackTraces = false) {T : Nat → Nat × Nat} {I : Nat → Nat → Int} {J : Nat → Nat → Int64} {R : Nat → Nat → Option Nat} {n : Nat} (hk : ScB T R n) (hv : XV I) (p : Int) (h_p : -2147483648 ≤ p ∧ p < 2147483648) (w : Int) (h_w : -2147483648 ≤ w ∧ w < 2147483648)  : SpT l E Y_X4_block [.ref (E.1 + 0), .int (iz p), .int (iz w)] (T, I, J, R, n, 0) (x_block p w) (.int (iz (f_block I p.toNat w.toNat))) (T, I, J, R, n, 0) := by
  have hk0 := hk
  obtain ⟨a0, a1, a2, a3, a4, a5, a6, a7, a8, a9, a10, a11, a12, a13, a14, a15, a16⟩ := hk
  have b8 := a8.1
  have b9 := a9.1
  have b10 := a10.1
  have b11 := a11.1
  have b12 := a12.1
  obtain ⟨x1, x7, x46, x36, x40, x74, x3, xl, xl2⟩ := id hv
  refine SpX.of [some (.ref (E.1 + 0)), some (.int (iz p)), some (.int (iz w))] (by decide +kernel) (Nat.le_of_ble_eq_true rfl) (fun _ h => h) ?_
  refine g_iload1 (Y := Y_X4_block) (pc' := 1) dX4_block_0 rfl ?_
  refine g_callSv (Y := Y_X4_block) (s_X4_isBlock p h_p) (pc' := 4) dX4_block_1 rfl cv_X4_44 rfl rfl rfl rfl rfl ?_
  refine g_if_ne (Y := Y_X4_block) (t := 17) (pc' := 7) dX4_block_4 (by decide) rfl ⟨by omega, by omega⟩ (fun h4 => ?_) (fun h4 => ?_)
  · have hb := ifb_t h4
    refine g_iload2 (Y := Y_X4_block) (pc' := 18) dX4_block_17 rfl ?_
    refine g_if_lt (Y := Y_X4_block) (t := 26) (pc' := 21) dX4_block_18 (by decide) rfl ⟨by omega, by omega⟩ (fun h18 => ?_) (fun h18 => ?_)
    · have hx : ¬ (0 ≤ w ∧ w < 4) := by omega
      exact g_throw (Y := Y_X4_block) (cls := xIAE) (text := "what is not 0 to 3") rfl (by decide) (q_w 775 (by decide +kernel) rfl) (by decide) (by decide) (q_w 591 (by decide +kernel) rfl) (q_w 11 (by decide +kernel) rfl) dX4_block_26 dX4_block_29 dX4_block_30 dX4_block_32 dX4_block_35 hl9 (by decide) rfl ⟨(if_pos hb).trans (if_neg hx), rfl⟩
    · refine g_iload2 (Y := Y_X4_block) (pc' := 22) dX4_block_21 rfl ?_
      refine g_iconst (Y := Y_X4_block) (pc' := 23) dX4_block_22 rfl ?_
      refine g_icmp_lt (Y := Y_X4_block) (t := 36) (pc' := 26) dX4_block_23 (by decide) rfl ⟨by omega, by omega⟩ ⟨by omega, by omega⟩ (fun h23 => ?_) (fun h23 => ?_)
      · have hr : x_block p w = none := (if_pos hb).trans (if_pos (by omega))
        obtain ⟨b, rfl⟩ : ∃ b : Nat, p = (b : Int) := ⟨p.toNat, by have q9 := hb; omega⟩
        obtain ⟨w, rfl⟩ : ∃ w9 : Nat, w = (w9 : Int) := ⟨w.toNat, by omega⟩
        refine g_iload2 (Y := Y_X4_block) (pc' := 37) dX4_block_36 rfl ?_
        rcases (show w = 0 ∨ w = 1 ∨ w = 2 ∨ w = 3 by omega) with rfl | rfl | rfl | rfl
        · refine g_tswIn (Y := Y_X4_block) (t := 64) (off := 27) dX4_block_37 ⟨by decide, by decide⟩ (by decide) (by decide) rfl (by decide) ?_
          refine g_aload0 (Y := Y_X4_block) (pc' := 65) dX4_block_64 rfl ?_
          refine g_getR (Y := Y_X4_block) (pc' := 68) dX4_block_65 rfl fl_X4_10 rfl (by assumption) (by omega) (by assumption) ?_
          refine g_iload1 (Y := Y_X4_block) (pc' := 69) dX4_block_68 rfl ?_
          refine g_callVv (Y := Y_X4_block) (c := 3) (s_X3_valueOf_in a8 b (by omega)) (pc' := 72) dX4_block_69 rfl cv_X4_83 rfl (by assumption) (by show _ < n; omega) ⟨by decide, _, rfl, rfl⟩ rfl rfl rfl rfl ?_
          exact GoX.of (g_iret (Y := Y_X4_block) dX4_block_72 rfl (Nat.zero_le _) (Nat.zero_le _) (⟨hr, rfl, rfl⟩))
        · refine g_tswIn (Y := Y_X4_block) (t := 73) (off := 36) dX4_block_37 ⟨by decide, by decide⟩ (by decide) (by decide) rfl (by decide) ?_
          refine g_aload0 (Y := Y_X4_block) (pc' := 74) dX4_block_73 rfl ?_
          refine g_getR (Y := Y_X4_block) (pc' := 77) dX4_block_74 rfl fl_X4_10 rfl (by assumption) (by omega) (by assumption) ?_
          refine g_iload1 (Y := Y_X4_block) (pc' := 78) dX4_block_77 rfl ?_
          refine g_callVv (Y := Y_X4_block) (c := 3) (s_X3_placeOf_in a8 b (by omega)) (pc' := 81) dX4_block_78 rfl cv_X4_202 rfl (by assumption) (by show _ < n; omega) ⟨by decide, _, rfl, rfl⟩ rfl rfl rfl rfl ?_
          exact GoX.of (g_iret (Y := Y_X4_block) dX4_block_81 rfl (Nat.zero_le _) (Nat.zero_le _) (⟨hr, rfl, rfl⟩))
        · refine g_tswIn (Y := Y_X4_block) (t := 82) (off := 45) dX4_block_37 ⟨by decide, by decide⟩ (by decide) (by decide) rfl (by decide) ?_
          refine g_aload0 (Y := Y_X4_block) (pc' := 83) dX4_block_82 rfl ?_
          refine g_getR (Y := Y_X4_block) (pc' := 86) dX4_block_83 rfl fl_X4_10 rfl (by assumption) (by omega) (by assumption) ?_
          refine g_iload1 (Y := Y_X4_block) (pc' := 87) dX4_block_86 rfl ?_
          refine g_callVv (Y := Y_X4_block) (c := 3) (s_X3_placeOf_in a8 b (by omega)) (pc' := 90) dX4_block_87 rfl cv_X4_202 rfl (by assumption) (by show _ < n; omega) ⟨by decide, _, rfl, rfl⟩ rfl rfl rfl rfl ?_
          refine g_callSv (Y := Y_X4_block) (s_X4_isSpare _ (StV_p x1 b)) (pc' := 93) dX4_block_90 rfl cv_X4_205 rfl rfl rfl rfl rfl ?_
          refine g_if_eq (Y := Y_X4_block) (t := 100) (pc' := 96) dX4_block_93 (by decide) rfl ⟨by omega, by omega⟩ (fun h93 => ?_) (fun h93 => ?_)
          · have e : f_block I b 2 = 0 := if_neg (ifb_f h93)
            refine g_iconst (Y := Y_X4_block) (pc' := 101) dX4_block_100 rfl ?_
            exact GoX.of (g_iret (Y := Y_X4_block) dX4_block_101 rfl (Nat.zero_le _) (Nat.zero_le _) (⟨hr, congrArg (fun q9 => some (Value.int (iz q9))) e.symm, rfl⟩))
          · have e : f_block I b 2 = 1 := if_pos (ifb_t h93)
            refine g_iconst (Y := Y_X4_block) (pc' := 97) dX4_block_96 rfl ?_
            refine g_goto (Y := Y_X4_block) (t := 101) dX4_block_97 (by decide) ?_
            exact GoX.of (g_iret (Y := Y_X4_block) dX4_block_101 rfl (Nat.zero_le _) (Nat.zero_le _) (⟨hr, congrArg (fun q9 => some (Value.int (iz q9))) e.symm, rfl⟩))
        · refine g_tswOut (Y := Y_X4_block) (t := 102) dX4_block_37 ⟨by decide, by decide⟩ (by decide) (by decide) ?_
          refine g_aload0 (Y := Y_X4_block) (pc' := 103) dX4_block_102 rfl ?_
          refine g_getR (Y := Y_X4_block) (pc' := 106) dX4_block_103 rfl fl_X4_10 rfl (by assumption) (by omega) (by assumption) ?_
          refine g_aload0 (Y := Y_X4_block) (pc' := 107) dX4_block_106 rfl ?_
          refine g_getR (Y := Y_X4_block) (pc' := 110) dX4_block_107 rfl fl_X4_19 rfl (by assumption) (by omega) (by assumption) ?_
          refine g_iload1 (Y := Y_X4_block) (pc' := 111) dX4_block_110 rfl ?_
          refine g_callSv (Y := Y_X4_block) (s_X4_cellForWriting a8 a9 (LmV_b x7) (LmV_h x7) (StV_p x1) (StV_o x1) b (by omega)) (pc' := 114) dX4_block_111 rfl cv_X4_63 rfl rfl rfl rfl rfl ?_
          exact GoX.of (g_iret (Y := Y_X4_block) dX4_block_114 rfl (Nat.zero_le _) (Nat.zero_le _) (⟨hr, rfl, rfl⟩))
      · have hx : ¬ (0 ≤ w ∧ w < 4) := by omega
        exact g_throw (Y := Y_X4_block) (cls := xIAE) (text := "what is not 0 to 3") rfl (by decide) (q_w 775 (by decide +kernel) rfl) (by decide) (by decide) (q_w 591 (by decide +kernel) rfl) (q_w 11 (by decide +kernel) rfl) dX4_block_26 dX4_block_29 dX4_block_30 dX4_block_32 dX4_block_35 hl9 (by decide) rfl ⟨(if_pos hb).trans (if_neg hx), rfl⟩
  · have hb := ifb_f h4
    exact g_throw (Y := Y_X4_block) (cls := xIOB) (text := "no such block") rfl (by decide) (q_w 775 (by decide +kernel) rfl) (by decide) (by decide) (q_w 520 (by decide +kernel) rfl) (q_w 10 (by decide +kernel) rfl) dX4_block_7 dX4_block_10 dX4_block_11 dX4_block_13 dX4_block_16 hl9 (by decide) rfl ⟨if_neg hb, rfl⟩
set_option maxHeartbeats 2000000 in
set_option maxRecDepth 100000 in
theorem s_X4_line {l : Launch} {E : QE} (hl9 : l.stackTraces = false) {T : Nat → Nat × Nat} {I : Nat → Nat → Int} {J : Nat → Nat → Int64} {R : Nat → Nat → Option Nat} {n : Nat} (hk : ScB T R n) (hv : XV I) (p : Int) (h_p : -2147483648 ≤ p ∧ p < 2147483648) (w : Int) (h_w : -2147483648 ≤ w ∧ w < 2147483648) : SpT l E Y_X4_line [.ref (E.1 + 0), .int (iz p), .int (iz w)] (T, I, J, R, n, 0) (x_line I p w) (.int (iz (f_lp I (7 + 6 + p.toNat) w.toNat))) (T, I, J, R, n, 0) := by
  have hk0 := hk
  obtain ⟨a0, a1, a2, a3, a4, a5, a6, a7, a8, a9, a10, a11, a12, a13, a14, a15, a16⟩ := hk
  have b8 := a8.1
  have b9 := a9.1
  have b10 := a10.1
  have b11 := a11.1
  have b12 := a12.1
  obtain ⟨x1, x7, x46, x36, x40, x74, x3, xl, xl2⟩ := id hv
  have x76 := x7.2.2.2.2.2.2
  refine SpX.of [some (.ref (E.1 + 0)), some (.int (iz p)), some (.int (iz w)), none] (by decide +kernel) (Nat.le_of_ble_eq_true rfl) (fun _ h => h) ?_
  by_cases hp : 0 ≤ p ∧ p < I 7 6
  · obtain ⟨i, rfl⟩ : ∃ i : Nat, p = (i : Int) := ⟨p.toNat, by omega⟩
    have hlin := xl i hp.2
    have hln : LnB T n (7 + 6 + i) := ⟨(a9.2.2.2.2.2.2.2.2.2.2.2.1 i (by omega)).2, by omega⟩
    refine g_aload0 (Y := Y_X4_line) (pc' := 1) dX4_line_0 rfl ?_
    refine g_getR (Y := Y_X4_line) (pc' := 4) dX4_line_1 rfl fl_X4_19 rfl (by assumption) (by omega) (by assumption) ?_
    refine g_iload1 (Y := Y_X4_line) (pc' := 5) dX4_line_4 rfl ?_
    refine g_callVv (Y := Y_X4_line) (c := 2) (s_X2_lineAt_in a9 x76 i (by omega)) (pc' := 8) dX4_line_5 rfl cv_X4_208 rfl (by assumption) (by show _ < n; omega) ⟨by decide, _, rfl, rfl⟩ rfl rfl rfl rfl ?_
    refine g_astore3 (Y := Y_X4_line) (pc' := 9) dX4_line_8 rfl (Nat.le_of_ble_eq_true rfl) rfl ?_
    refine g_aload3 (Y := Y_X4_line) (pc' := 10) dX4_line_9 rfl ?_
    refine g_ifnonnull (Y := Y_X4_line) (t := 23) dX4_line_10 (by decide) ?_
    refine g_iload2 (Y := Y_X4_line) (pc' := 24) dX4_line_23 rfl ?_
    refine g_if_lt (Y := Y_X4_line) (t := 33) (pc' := 27) dX4_line_24 (by decide) rfl ⟨by omega, by omega⟩ (fun h24 => ?_) (fun h24 => ?_)
    · have hx : ¬ (0 ≤ w ∧ w < 6) := by omega
      exact g_throw (Y := Y_X4_line) (cls := xIAE) (text := "what is not 0 to 5") rfl (by decide) (q_w 786 (by decide +kernel) rfl) (by decide) (by decide) (q_w 591 (by decide +kernel) rfl) (q_w 11 (by decide +kernel) rfl) dX4_line_33 dX4_line_36 dX4_line_37 dX4_line_39 dX4_line_42 hl9 (by decide) rfl ⟨(if_pos hp).trans (if_neg hx), rfl⟩
    · refine g_iload2 (Y := Y_X4_line) (pc' := 28) dX4_line_27 rfl ?_
      refine g_bipush (Y := Y_X4_line) (pc' := 30) dX4_line_28 rfl (by decide) ?_
      refine g_icmp_lt (Y := Y_X4_line) (t := 43) (pc' := 33) dX4_line_30 (by decide) rfl ⟨by omega, by omega⟩ ⟨by omega, by omega⟩ (fun h30 => ?_) (fun h30 => ?_)
      · obtain ⟨w, rfl⟩ : ∃ w9 : Nat, w = (w9 : Int) := ⟨w.toNat, by omega⟩
        refine g_aload0 (Y := Y_X4_line) (pc' := 44) dX4_line_43 rfl ?_
        refine g_aload3 (Y := Y_X4_line) (pc' := 45) dX4_line_44 rfl ?_
        refine g_iload2 (Y := Y_X4_line) (pc' := 46) dX4_line_45 rfl ?_
        refine g_callVv (Y := Y_X4_line) (c := 4) (s_X4_lineProperty hk0 hv hln hlin.1 hlin.2 w (by omega)) (pc' := 49) dX4_line_46 rfl cv_X4_216 rfl (by assumption) (by show _ < n; omega) ⟨by decide, _, rfl, rfl⟩ rfl rfl rfl rfl ?_
        exact GoX.of (g_iret (Y := Y_X4_line) dX4_line_49 rfl (Nat.zero_le _) (Nat.zero_le _) (⟨(if_pos hp).trans (if_pos (by omega)), rfl, rfl⟩))
      · have hx : ¬ (0 ≤ w ∧ w < 6) := by omega
        exact g_throw (Y := Y_X4_line) (cls := xIAE) (text := "what is not 0 to 5") rfl (by decide) (q_w 786 (by decide +kernel) rfl) (by decide) (by decide) (q_w 591 (by decide +kernel) rfl) (q_w 11 (by decide +kernel) rfl) dX4_line_33 dX4_line_36 dX4_line_37 dX4_line_39 dX4_line_42 hl9 (by decide) rfl ⟨(if_pos hp).trans (if_neg hx), rfl⟩
  · refine g_aload0 (Y := Y_X4_line) (pc' := 1) dX4_line_0 rfl ?_
    refine g_getR (Y := Y_X4_line) (pc' := 4) dX4_line_1 rfl fl_X4_19 rfl (by assumption) (by omega) (by assumption) ?_
    refine g_iload1 (Y := Y_X4_line) (pc' := 5) dX4_line_4 rfl ?_
    refine g_callVv (Y := Y_X4_line) (c := 2) (s_X2_lineAt_out a9 x76 p h_p (by omega)) (pc' := 8) dX4_line_5 rfl cv_X4_208 rfl (by assumption) (by show _ < n; omega) ⟨by decide, _, rfl, rfl⟩ rfl rfl rfl rfl ?_
    refine g_astoreNN (Y := Y_X4_line) (i := 3) (pc' := 9) dX4_line_8 rfl (Nat.le_of_ble_eq_true rfl) (fun u hu _ => by cases hu; rfl) ?_
    refine g_aloadNN (Y := Y_X4_line) (i := 3) (pc' := 10) dX4_line_9 rfl rfl ?_
    refine g_ifnonnullN (Y := Y_X4_line) (pc' := 13) dX4_line_10 rfl ?_
    exact g_throw (Y := Y_X4_line) (cls := xIOB) (text := "no such line") rfl (by decide) (q_w 786 (by decide +kernel) rfl) (by decide) (by decide) (q_w 520 (by decide +kernel) rfl) (q_w 10 (by decide +kernel) rfl) dX4_line_13 dX4_line_16 dX4_line_17 dX4_line_19 dX4_line_22 hl9 (by decide) rfl ⟨if_neg hp, rfl⟩
set_option maxHeartbeats 2000000 in
set_option maxRecDepth 100000 in
theorem s_X4_count {l : Launch} {E : QE} (hl9 : l.stackTraces = false) {T : Nat → Nat × Nat} {I : Nat → Nat → Int} {J : Nat → Nat → Int64} {R : Nat → Nat → Option Nat} {n : Nat} (hk : ScB T R n) (hv : XV I) (w : Int) (h_w : -2147483648 ≤ w ∧ w < 2147483648)  : SpT l E Y_X4_count [.ref (E.1 + 0), .int (iz w)] (T, I, J, R, n, 0) (x_count w) (.int (iz (f_num I w.toNat))) (T, I, J, R, n, 0) := by
  have hk0 := hk
  obtain ⟨a0, a1, a2, a3, a4, a5, a6, a7, a8, a9, a10, a11, a12, a13, a14, a15, a16⟩ := hk
  have b8 := a8.1
  have b9 := a9.1
  have b10 := a10.1
  have b11 := a11.1
  have b12 := a12.1
  obtain ⟨x1, x7, x46, x36, x40, x74, x3, xl, xl2⟩ := id hv
  refine SpX.of [some (.ref (E.1 + 0)), some (.int (iz w))] (by decide +kernel) (Nat.le_of_ble_eq_true rfl) (fun _ h => h) ?_
  refine g_iload1 (Y := Y_X4_count) (pc' := 1) dX4_count_0 rfl ?_
  refine g_if_lt (Y := Y_X4_count) (t := 10) (pc' := 4) dX4_count_1 (by decide) rfl ⟨by omega, by omega⟩ (fun h1 => ?_) (fun h1 => ?_)
  · exact g_throw (Y := Y_X4_count) (cls := xIAE) (text := "what is not 0 to 9") rfl (by decide) (q_w 795 (by decide +kernel) rfl) (by decide) (by decide) (q_w 591 (by decide +kernel) rfl) (q_w 11 (by decide +kernel) rfl) dX4_count_10 dX4_count_13 dX4_count_14 dX4_count_16 dX4_count_19 hl9 (by decide) rfl ⟨if_neg (by omega), rfl⟩
  · refine g_iload1 (Y := Y_X4_count) (pc' := 5) dX4_count_4 rfl ?_
    refine g_bipush (Y := Y_X4_count) (pc' := 7) dX4_count_5 rfl (by decide) ?_
    refine g_icmp_lt (Y := Y_X4_count) (t := 20) (pc' := 10) dX4_count_7 (by decide) rfl ⟨by omega, by omega⟩ ⟨by omega, by omega⟩ (fun h7 => ?_) (fun h7 => ?_)
    · obtain ⟨w, rfl⟩ : ∃ w9 : Nat, w = (w9 : Int) := ⟨w.toNat, by omega⟩
      refine g_aload0 (Y := Y_X4_count) (pc' := 21) dX4_count_20 rfl ?_
      refine g_iload1 (Y := Y_X4_count) (pc' := 22) dX4_count_21 rfl ?_
      refine g_callVv (Y := Y_X4_count) (c := 4) (s_X4_numberOf hk0 hv w (by omega)) (pc' := 25) dX4_count_22 rfl cv_X4_222 rfl (by assumption) (by show _ < n; omega) ⟨by decide, _, rfl, rfl⟩ rfl rfl rfl rfl ?_
      exact GoX.of (g_iret (Y := Y_X4_count) dX4_count_25 rfl (Nat.zero_le _) (Nat.zero_le _) (⟨if_pos (by omega), rfl, rfl⟩))
    · exact g_throw (Y := Y_X4_count) (cls := xIAE) (text := "what is not 0 to 9") rfl (by decide) (q_w 795 (by decide +kernel) rfl) (by decide) (by decide) (q_w 591 (by decide +kernel) rfl) (q_w 11 (by decide +kernel) rfl) dX4_count_10 dX4_count_13 dX4_count_14 dX4_count_16 dX4_count_19 hl9 (by decide) rfl ⟨if_neg (by omega), rfl⟩
set_option maxHeartbeats 2000000 in
set_option maxRecDepth 100000 in
theorem s_X4_setting {l : Launch} {E : QE} (hl9 : l.stackTraces = false) {T : Nat → Nat × Nat} {I : Nat → Nat → Int} {J : Nat → Nat → Int64} {R : Nat → Nat → Option Nat} {n : Nat} (hk : ScB T R n) (hv : XV I) (p : Int) (h_p : -2147483648 ≤ p ∧ p < 2147483648)  : SpT l E Y_X4_setting [.ref (E.1 + 0), .int (iz p)] (T, I, J, R, n, 0) (x_setting p) (.int (iz (I (1 + 2) p.toNat))) (T, I, J, R, n, 0) := by
  have hk0 := hk
  obtain ⟨a0, a1, a2, a3, a4, a5, a6, a7, a8, a9, a10, a11, a12, a13, a14, a15, a16⟩ := hk
  have b8 := a8.1
  have b9 := a9.1
  have b10 := a10.1
  have b11 := a11.1
  have b12 := a12.1
  obtain ⟨x1, x7, x46, x36, x40, x74, x3, xl, xl2⟩ := id hv
  refine SpX.of [some (.ref (E.1 + 0)), some (.int (iz p))] (by decide +kernel) (Nat.le_of_ble_eq_true rfl) (fun _ h => h) ?_
  refine g_iload1 (Y := Y_X4_setting) (pc' := 1) dX4_setting_0 rfl ?_
  refine g_callSv (Y := Y_X4_setting) (s_X4_isSetting p h_p) (pc' := 4) dX4_setting_1 rfl cv_X4_129 rfl rfl rfl rfl rfl ?_
  refine g_if_ne (Y := Y_X4_setting) (t := 17) (pc' := 7) dX4_setting_4 (by decide) rfl ⟨by omega, by omega⟩ (fun h4 => ?_) (fun h4 => ?_)
  · have hb := ifb_t h4
    obtain ⟨b, rfl⟩ : ∃ b : Nat, p = (b : Int) := ⟨p.toNat, by have q9 := hb; omega⟩
    refine g_aload0 (Y := Y_X4_setting) (pc' := 18) dX4_setting_17 rfl ?_
    refine g_getR (Y := Y_X4_setting) (pc' := 21) dX4_setting_18 rfl fl_X4_10 rfl (by assumption) (by omega) (by assumption) ?_
    refine g_iload1 (Y := Y_X4_setting) (pc' := 22) dX4_setting_21 rfl ?_
    refine g_callVv (Y := Y_X4_setting) (c := 3) (s_X3_settingOf_in a8 b (by omega)) (pc' := 25) dX4_setting_22 rfl cv_X4_139 rfl (by assumption) (by show _ < n; omega) ⟨by decide, _, rfl, rfl⟩ rfl rfl rfl rfl ?_
    exact GoX.of (g_iret (Y := Y_X4_setting) dX4_setting_25 rfl (Nat.zero_le _) (Nat.zero_le _) (⟨if_pos hb, rfl, rfl⟩))
  · have hb := ifb_f h4
    exact g_throw (Y := Y_X4_setting) (cls := xIOB) (text := "no such setting") rfl (by decide) (q_w 803 (by decide +kernel) rfl) (by decide) (by decide) (q_w 520 (by decide +kernel) rfl) (q_w 10 (by decide +kernel) rfl) dX4_setting_7 dX4_setting_10 dX4_setting_11 dX4_setting_13 dX4_setting_16 hl9 (by decide) rfl ⟨if_neg hb, rfl⟩
set_option maxHeartbeats 2000000 in
set_option maxRecDepth 100000 in
theorem s_X4_ifFailed {l : Launch} {E : QE} (hl9 : l.stackTraces = false) {T : Nat → Nat × Nat} {I : Nat → Nat → Int} {J : Nat → Nat → Int64} {R : Nat → Nat → Option Nat} {n : Nat} (hk : ScB T R n) (hv : XV I) (p : Int) (h_p : -2147483648 ≤ p ∧ p < 2147483648) (q : Int) (h_q : -2147483648 ≤ q ∧ q < 2147483648) (w : Int) (h_w : -2147483648 ≤ w ∧ w < 2147483648)  : SpT l E Y_X4_ifFailed [.ref (E.1 + 0), .int (iz p), .int (iz q), .int (iz w)] (T, I, J, R, n, 0) (x_cell p q w) (.int (iz (f_iff I J (p * 24 + q) w.toNat))) (T, (f_try I J (p * 24 + q)).2.1, (f_try I J (p * 24 + q)).2.2, R, n, 0) := by
  have hk0 := hk
  obtain ⟨a0, a1, a2, a3, a4, a5, a6, a7, a8, a9, a10, a11, a12, a13, a14, a15, a16⟩ := hk
  have b8 := a8.1
  have b9 := a9.1
  have b10 := a10.1
  have b11 := a11.1
  have b12 := a12.1
  obtain ⟨x1, x7, x46, x36, x40, x74, x3, xl, xl2⟩ := id hv
  have hr01 : (f_try I J (p * 24 + q)).1 = 0 ∨ (f_try I J (p * 24 + q)).1 = 1 := by unfold f_try; split <;> simp
  have hxt := XV_try (J := J) (c := p * 24 + q) hv
  refine SpX.of [some (.ref (E.1 + 0)), some (.int (iz p)), some (.int (iz q)), some (.int (iz w)), none] (by decide +kernel) (Nat.le_of_ble_eq_true rfl) (fun _ h => h) ?_
  refine g_iload1 (Y := Y_X4_ifFailed) (pc' := 1) dX4_ifFailed_0 rfl ?_
  refine g_iload2 (Y := Y_X4_ifFailed) (pc' := 2) dX4_ifFailed_1 rfl ?_
  refine g_callSv (Y := Y_X4_ifFailed) (s_X4_inDrive p q h_p h_q) (pc' := 5) dX4_ifFailed_2 rfl cv_X4_91 rfl rfl rfl rfl rfl ?_
  refine g_if_eq (Y := Y_X4_ifFailed) (t := 17) (pc' := 8) dX4_ifFailed_5 (by decide) rfl ⟨by omega, by omega⟩ (fun h5 => ?_) (fun h5 => ?_)
  · have hb := ifb_f h5
    have hx : ¬ (((0 ≤ p ∧ p < 24) ∧ 0 ≤ q ∧ q < 24) ∧ 0 ≤ w ∧ w < 4) := fun q9 => hb q9.1
    exact g_throw (Y := Y_X4_ifFailed) (cls := xIAE) (text := "an argument is out of range") rfl (by decide) (q_w 810 (by decide +kernel) rfl) (by decide) (by decide) (q_w 591 (by decide +kernel) rfl) (q_w 11 (by decide +kernel) rfl) dX4_ifFailed_17 dX4_ifFailed_20 dX4_ifFailed_21 dX4_ifFailed_23 dX4_ifFailed_26 hl9 (by decide) rfl ⟨if_neg hx, rfl⟩
  · have hb := ifb_t h5
    refine g_iload3 (Y := Y_X4_ifFailed) (pc' := 9) dX4_ifFailed_8 rfl ?_
    refine g_if_lt (Y := Y_X4_ifFailed) (t := 17) (pc' := 12) dX4_ifFailed_9 (by decide) rfl ⟨by omega, by omega⟩ (fun h9 => ?_) (fun h9 => ?_)
    · have hx : ¬ (((0 ≤ p ∧ p < 24) ∧ 0 ≤ q ∧ q < 24) ∧ 0 ≤ w ∧ w < 4) := by omega
      exact g_throw (Y := Y_X4_ifFailed) (cls := xIAE) (text := "an argument is out of range") rfl (by decide) (q_w 810 (by decide +kernel) rfl) (by decide) (by decide) (q_w 591 (by decide +kernel) rfl) (q_w 11 (by decide +kernel) rfl) dX4_ifFailed_17 dX4_ifFailed_20 dX4_ifFailed_21 dX4_ifFailed_23 dX4_ifFailed_26 hl9 (by decide) rfl ⟨if_neg hx, rfl⟩
    · refine g_iload3 (Y := Y_X4_ifFailed) (pc' := 13) dX4_ifFailed_12 rfl ?_
      refine g_iconst (Y := Y_X4_ifFailed) (pc' := 14) dX4_ifFailed_13 rfl ?_
      refine g_icmp_lt (Y := Y_X4_ifFailed) (t := 27) (pc' := 17) dX4_ifFailed_14 (by decide) rfl ⟨by omega, by omega⟩ ⟨by omega, by omega⟩ (fun h14 => ?_) (fun h14 => ?_)
      · have hr : x_cell p q w = none := if_pos ⟨hb, by omega⟩
        obtain ⟨w, rfl⟩ : ∃ w9 : Nat, w = (w9 : Int) := ⟨w.toNat, by omega⟩
        refine g_iload1 (Y := Y_X4_ifFailed) (pc' := 28) dX4_ifFailed_27 rfl ?_
        refine g_iload2 (Y := Y_X4_ifFailed) (pc' := 29) dX4_ifFailed_28 rfl ?_
        refine g_callSv (Y := Y_X4_ifFailed) (s_X4_cellNumber p q) (pc' := 32) dX4_ifFailed_29 rfl cv_X4_97 rfl rfl rfl rfl rfl ?_
        refine g_istore4 (Y := Y_X4_ifFailed) (pc' := 34) dX4_ifFailed_32 rfl (Nat.le_of_ble_eq_true rfl) rfl ?_
        refine g_aload0 (Y := Y_X4_ifFailed) (pc' := 35) dX4_ifFailed_34 rfl ?_
        refine g_iload4 (Y := Y_X4_ifFailed) (pc' := 37) dX4_ifFailed_35 rfl ?_
        refine g_callVv (Y := Y_X4_ifFailed) (c := 4) (s_X4_tryFailing hk0 hv (p * 24 + q) ⟨by omega, by omega⟩) (pc' := 40) dX4_ifFailed_37 rfl cv_X4_225 rfl (by assumption) (by show _ < n; omega) ⟨by decide, _, rfl, rfl⟩ rfl rfl rfl rfl ?_
        refine g_if_eq (Y := Y_X4_ifFailed) (t := 51) (pc' := 43) dX4_ifFailed_40 (by decide) rfl ⟨by omega, by omega⟩ (fun h40 => ?_) (fun h40 => ?_)
        · have e : f_iff I J (p * 24 + q) w = -1 := if_pos h40
          refine g_iconst (Y := Y_X4_ifFailed) (pc' := 52) dX4_ifFailed_51 rfl ?_
          exact GoX.of (g_iret (Y := Y_X4_ifFailed) dX4_ifFailed_52 rfl (Nat.zero_le _) (Nat.zero_le _) (⟨hr, congrArg (fun q9 => some (Value.int (iz q9))) e.symm, rfl⟩))
        · have e : f_iff I J (p * 24 + q) w = f_fc (f_try I J (p * 24 + q)).2.1 w := if_neg h40
          refine g_aload0 (Y := Y_X4_ifFailed) (pc' := 44) dX4_ifFailed_43 rfl ?_
          refine g_iload3 (Y := Y_X4_ifFailed) (pc' := 45) dX4_ifFailed_44 rfl ?_
          refine g_callVv (Y := Y_X4_ifFailed) (c := 4) (s_X4_forecast hk0 hxt w (by omega)) (pc' := 48) dX4_ifFailed_45 rfl cv_X4_228 rfl (by assumption) (by show _ < n; omega) ⟨by decide, _, rfl, rfl⟩ rfl rfl rfl rfl ?_
          refine g_goto (Y := Y_X4_ifFailed) (t := 52) dX4_ifFailed_48 (by decide) ?_
          exact GoX.of (g_iret (Y := Y_X4_ifFailed) dX4_ifFailed_52 rfl (Nat.zero_le _) (Nat.zero_le _) (⟨hr, congrArg (fun q9 => some (Value.int (iz q9))) e.symm, rfl⟩))
      · have hx : ¬ (((0 ≤ p ∧ p < 24) ∧ 0 ≤ q ∧ q < 24) ∧ 0 ≤ w ∧ w < 4) := by omega
        exact g_throw (Y := Y_X4_ifFailed) (cls := xIAE) (text := "an argument is out of range") rfl (by decide) (q_w 810 (by decide +kernel) rfl) (by decide) (by decide) (q_w 591 (by decide +kernel) rfl) (q_w 11 (by decide +kernel) rfl) dX4_ifFailed_17 dX4_ifFailed_20 dX4_ifFailed_21 dX4_ifFailed_23 dX4_ifFailed_26 hl9 (by decide) rfl ⟨if_neg hx, rfl⟩
set_option maxHeartbeats 2000000 in
set_option maxRecDepth 100000 in
theorem s_X4_find_lp {l : Launch} {E : QE} {T : Nat → Nat × Nat} {I : Nat → Nat → Int} {J : Nat → Nat → Int64} {R : Nat → Nat → Option Nat} {n : Nat} (hk : ScB T R n) (hv : XV I) {v : Int} (hb : 0 ≤ v ∧ v ≤ 999) {KX : String → QW → Prop} : ∀ (m b : Nat), b + m = 480 → GoX l E Y_X4_find 0 0 19 [some (.ref (E.1 + 0)), some (.int (iz v)), some (.int (iz (b : Int)))] [] (T, I, J, R, n, 0) (fun r1 w1 => x_find v = none ∧ r1 = some (.int (iz (fdL I v m b))) ∧ w1 = (T, I, J, R, n, 0)) KX := by
  obtain ⟨a0, a1, a2, a3, a4, a5, a6, a7, a8, a9, a10, a11, a12, a13, a14, a15, a16⟩ := hk
  have b8 := a8.1
  have b9 := a9.1
  have b10 := a10.1
  have b11 := a11.1
  have b12 := a12.1
  obtain ⟨x1, x7, x46, x36, x40, x74, x3, xl, xl2⟩ := id hv
  intro m
  induction m with
  | zero =>
    intro b hm
    refine g_iload2 (Y := Y_X4_find) (pc' := 20) dX4_find_19 rfl ?_
    refine g_sipush (Y := Y_X4_find) (pc' := 23) dX4_find_20 rfl (by decide) ?_
    refine g_icmp_ge (Y := Y_X4_find) (t := 46) (pc' := 26) dX4_find_23 (by decide) rfl ⟨by omega, by omega⟩ ⟨by omega, by omega⟩ (fun h23 => ?_) (fun h23 => ?_)
    · refine g_iconst (Y := Y_X4_find) (pc' := 47) dX4_find_46 rfl ?_
      exact GoX.of (g_iret (Y := Y_X4_find) dX4_find_47 rfl (Nat.zero_le _) (Nat.zero_le _) (⟨if_pos hb, rfl, rfl⟩))
    · exfalso; omega
  | succ m ih =>
    intro b hm
    refine g_iload2 (Y := Y_X4_find) (pc' := 20) dX4_find_19 rfl ?_
    refine g_sipush (Y := Y_X4_find) (pc' := 23) dX4_find_20 rfl (by decide) ?_
    refine g_icmp_ge (Y := Y_X4_find) (t := 46) (pc' := 26) dX4_find_23 (by decide) rfl ⟨by omega, by omega⟩ ⟨by omega, by omega⟩ (fun h23 => ?_) (fun h23 => ?_)
    · exfalso; omega
    · refine g_aload0 (Y := Y_X4_find) (pc' := 27) dX4_find_26 rfl ?_
      refine g_getR (Y := Y_X4_find) (pc' := 30) dX4_find_27 rfl fl_X4_10 rfl (by assumption) (by omega) (by assumption) ?_
      refine g_iload2 (Y := Y_X4_find) (pc' := 31) dX4_find_30 rfl ?_
      refine g_callVv (Y := Y_X4_find) (c := 3) (s_X3_valueOf_in a8 b (by omega)) (pc' := 34) dX4_find_31 rfl cv_X4_83 rfl (by assumption) (by show _ < n; omega) ⟨by decide, _, rfl, rfl⟩ rfl rfl rfl rfl ?_
      refine g_iload1 (Y := Y_X4_find) (pc' := 35) dX4_find_34 rfl ?_
      refine g_icmp_ne (Y := Y_X4_find) (t := 40) (pc' := 38) dX4_find_35 (by decide) rfl (StV_v x1 b) ⟨by omega, by omega⟩ (fun h35 => ?_) (fun h35 => ?_)
      · have e : fdL I v (m + 1) b = fdL I v m (b + 1) := if_neg h35
        rw [e]
        refine g_iinc2 (Y := Y_X4_find) (pc' := 43) dX4_find_40 rfl (Nat.le_of_ble_eq_true rfl) rfl ?_
        refine g_goto (Y := Y_X4_find) (t := 19) dX4_find_43 (by decide) ?_
        exact ih (b + 1) (by omega)
      · have e : fdL I v (m + 1) b = (b : Int) := if_pos h35
        rw [e]
        refine g_iload2 (Y := Y_X4_find) (pc' := 39) dX4_find_38 rfl ?_
        exact GoX.of (g_iret (Y := Y_X4_find) dX4_find_39 rfl (Nat.zero_le _) (Nat.zero_le _) (⟨if_pos hb, rfl, rfl⟩))
set_option maxHeartbeats 2000000 in
set_option maxRecDepth 100000 in
theorem s_X4_find {l : Launch} {E : QE} (hl9 : l.stackTraces = false) {T : Nat → Nat × Nat} {I : Nat → Nat → Int} {J : Nat → Nat → Int64} {R : Nat → Nat → Option Nat} {n : Nat} (hk : ScB T R n) (hv : XV I) (v : Int) (h_v : -2147483648 ≤ v ∧ v < 2147483648)  : SpT l E Y_X4_find [.ref (E.1 + 0), .int (iz v)] (T, I, J, R, n, 0) (x_find v) (.int (iz (fdL I v 480 0))) (T, I, J, R, n, 0) := by
  have hk0 := hk
  obtain ⟨a0, a1, a2, a3, a4, a5, a6, a7, a8, a9, a10, a11, a12, a13, a14, a15, a16⟩ := hk
  have b8 := a8.1
  have b9 := a9.1
  have b10 := a10.1
  have b11 := a11.1
  have b12 := a12.1
  obtain ⟨x1, x7, x46, x36, x40, x74, x3, xl, xl2⟩ := id hv
  refine SpX.of [some (.ref (E.1 + 0)), some (.int (iz v)), none] (by decide +kernel) (Nat.le_of_ble_eq_true rfl) (fun _ h => h) ?_
  refine g_iload1 (Y := Y_X4_find) (pc' := 1) dX4_find_0 rfl ?_
  refine g_callSv (Y := Y_X4_find) (s_X4_isValue v h_v) (pc' := 4) dX4_find_1 rfl cv_X4_55 rfl rfl rfl rfl rfl ?_
  refine g_if_ne (Y := Y_X4_find) (t := 17) (pc' := 7) dX4_find_4 (by decide) rfl ⟨by omega, by omega⟩ (fun h4 => ?_) (fun h4 => ?_)
  · have hb := ifb_t h4
    refine g_iconst (Y := Y_X4_find) (pc' := 18) dX4_find_17 rfl ?_
    refine g_istore2 (Y := Y_X4_find) (pc' := 19) dX4_find_18 rfl (Nat.le_of_ble_eq_true rfl) rfl ?_
    exact s_X4_find_lp hk0 hv hb 480 0 rfl
  · have hb := ifb_f h4
    exact g_throw (Y := Y_X4_find) (cls := xIAE) (text := "value is not 0 to 999") rfl (by decide) (q_w 817 (by decide +kernel) rfl) (by decide) (by decide) (q_w 591 (by decide +kernel) rfl) (q_w 11 (by decide +kernel) rfl) dX4_find_7 dX4_find_10 dX4_find_11 dX4_find_13 dX4_find_16 hl9 (by decide) rfl ⟨if_neg hb, rfl⟩
