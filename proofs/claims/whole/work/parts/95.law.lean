/-! the law: its rows, what it links -/
/-! THE LAW: its rows -/
abbrev Y_L_law : QY := (yL_law, cL_law, 9, some .boolean, room_1)
def LwH (E : QE) (b Ln : Nat) (xs : Nat → Int32) (s : State) : Prop := q_KX E s s.heap ∧ va_X b Ln xs s s.heap ∧ b < s.heap.size ∧ s.heap.size ≤ E.1
/-- the law's own end -/
def TgW (E : QE) (b Ln : Nat) (xs : Nat → Int32) : List Frame → Array Value → State → State → Prop := fun below args s t => (args = #[Value.ref b] ∧ LwH E b Ln xs s) → lw_Z below #[Value.ref b] s t
/-- a method that catches, as the law calls it -/
def q_cw (idx : Nat) (Y' : QY) (hh : QH) (m : Nat) : Prop := q_cx Y' m ∧ Cond.methodLink "ScratchMapLaw" idx Y'.1 ∈ q_T ∧ Cond.static Y'.1 ∈ q_T ∧ Cond.initialized Y'.1.cls ∈ q_T ∧ Cond.codeWith Y'.1 Y'.2.1 Y'.2.2.1 Y'.2.2.2.1 hh ∈ q_T
section
variable {l : Launch} {E : QE} {kc ks pc pc' : Nat} {L : List (Option Value)} {st : List Value} {w : QW} {b Ln : Nat} {xs : Nat → Int32}
theorem g_lawno {Y : QY} {Tg : List Frame → Array Value → State → State → Prop} (P : List Frame → Array Value → State → Prop) (h : ∀ below args s, P below args s → False) : True := trivial
theorem g_xld {j : Int} (hd : decode cL_law pc = .ok (.iaload, 1)) (hp : pc + 1 = pc') (hj : 0 ≤ j ∧ j < Ln) (hLn : Ln ≤ 2048)
    (h : GoT l E Y_L_law kc ks pc' L (.int (iz (xs j.toNat).toInt) :: st) w (TgW E b Ln xs)) : GoT l E Y_L_law kc ks pc L (.int (iz j) :: .ref b :: st) w (TgW E b Ln xs) := by
  intro p e s m args below meth c0 H locs ls C hH hS hl T hT9 X
  obtain ⟨hx, hb, hml, hr, ho, hts, hK, hlk, hnm, hbs⟩ := id C
  subst hp
  by_cases hL : args = #[Value.ref b] ∧ LwH E b Ln xs s
  · obtain ⟨-, -, h2, h3, h4⟩ := id hL
    have g : W p l e room_1 s m args below meth c0 H locs kc ks (TgW E b Ln xs below args s) (F0 m pc ls (.int (iz j) :: .ref b :: st)) := by
      refine va_sld hx hb h2 h3 (A := q_A E) (fun q9 => by have q8 : E.1 ≤ b := q9; omega) hS (i := iz j) (vp_in_iz hj (by omega)) hd ?_
      have q := h p e s m args below meth c0 H locs ls C hH hS hl
      rw [show iz (xs j.toNat).toInt = xs j.toNat from Int32.ofInt_toInt _] at q
      rw [iz_cl hj.1 (by omega)]
      exact q
    exact g T hT9 X
  · exact ⟨_, Steps.refl _, fun h9 => absurd h9 hL⟩
theorem g_xlen (hd : decode cL_law pc = .ok (.arraylength, 1)) (hp : pc + 1 = pc') (hLn : Ln ≤ 2048)
    (h : GoT l E Y_L_law kc ks pc' L (.int (iz (Ln : Int)) :: st) w (TgW E b Ln xs)) : GoT l E Y_L_law kc ks pc L (.ref b :: st) w (TgW E b Ln xs) := by
  intro p e s m args below meth c0 H locs ls C hH hS hl T hT9 X
  obtain ⟨hx, hb, hml, hr, ho, hts, hK, hlk, hnm, hbs⟩ := id C
  subst hp
  by_cases hL : args = #[Value.ref b] ∧ LwH E b Ln xs s
  · obtain ⟨-, -, h2, h3, h4⟩ := id hL
    have g : W p l e room_1 s m args below meth c0 H locs kc ks (TgW E b Ln xs below args s) (F0 m pc ls (.ref b :: st)) := by
      refine va_slen hx hb h2 h3 (A := q_A E) (fun q9 => by have q8 : E.1 ≤ b := q9; omega) hS hd ?_
      have q := h p e s m args below meth c0 H locs ls C hH hS hl
      rw [show iz (Ln : Int) = Int32.ofNat Ln from rfl] at q
      exact q
    exact g T hT9 X
  · exact ⟨_, Steps.refl _, fun h9 => absurd h9 hL⟩
theorem g_lawend (hd : decode cL_law pc = .ok (.ireturn, 1)) (hkc : kc ≤ 601024) (hks : ks ≤ 7293034) : GoT l E Y_L_law kc ks pc L [.int (iz 1)] w (TgW E b Ln xs) := by
  intro p e s m args below meth c0 H locs ls C hH hS hl T hT9 X
  obtain ⟨hx, hb, hml, hr, ho, hts, hK, hlk, hnm, hbs⟩ := id C
  by_cases hL : args = #[Value.ref b] ∧ LwH E b Ln xs s
  · obtain ⟨ha, -, h2, h3, h4⟩ := id hL
    subst ha
    have g : W p l e room_1 s m #[Value.ref b] below meth c0 H locs kc ks (lw_Z below #[Value.ref b] s) (F0 m pc ls [.int (iz 1)]) := by
      refine va_forget (fun q hq => Nat.le_trans h4 (hS.2.2 q hq)) ?_
      refine W.widen hkc hks ?_
      refine W.base ?_
      exact lw_ret (Drawn.sameBut.refl s.drawn lw_cs) hx hb hr hlk hd
    obtain ⟨t, a1, b1⟩ := g T hT9 X
    exact ⟨t, a1, fun _ => b1⟩
  · exact ⟨_, Steps.refl _, fun h9 => absurd h9 hL⟩
theorem g_callL {Y' : QY} {hh : QH} {idx m0 : Nat} {vs : List Value} {K' : Option Value → QW → Prop} (hM : SpL l E Y' hh vs w K') (hd : decode cL_law pc = .ok (.invokestatic idx, 3)) (hp : pc + 3 = pc') (hc : q_cw idx Y' hh m0) (hfit : q_fit Y_L_law Y' kc ks = true)
    {stk : List Value} (hstk : stk = vs.reverse ++ st) (hlen : vs.length = m0) (hcat : q_cat st = true)
    (h : ∀ r w1, K' r w1 → GoT l E Y_L_law (kc + Y'.2.2.2.2.cells) (ks + Y'.2.2.2.2.slots) pc' L (r.toList ++ st) w1 (TgW E b Ln xs)) : GoT l E Y_L_law kc ks pc L stk w (TgW E b Ln xs) := by
  intro p e s m args below meth c0 H locs ls C hH hS hl T hT9 X
  obtain ⟨hx, hb, hml, hr, ho, hts, hK, hlk, hnm, hbs⟩ := id C
  by_cases hL : args = #[Value.ref b] ∧ LwH E b Ln xs s
  · obtain ⟨-, hKX, -, -, -⟩ := id hL
    obtain ⟨hcx, h1, h2, h4, h5⟩ := hc
    obtain ⟨hR, hf⟩ := q_fit_of hfit
    subst hp; subst hstk
    have hG : GoodIn q_T (va_wsS "ScratchMapLaw" idx Y'.1 (q_wsH Y' hh)) := by
      intro w0 hw0
      rcases List.mem_append.mp hw0 with hw0 | hw0
      · simp only [List.mem_cons, List.not_mem_nil, or_false] at hw0
        rcases hw0 with rfl | rfl | rfl
        · exact ⟨h1, good_of_word (List.mem_filter.mp h1).2⟩
        · exact ⟨h2, good_of_word (List.mem_filter.mp h2).2⟩
        · exact ⟨h4, good_of_word (List.mem_filter.mp h4).2⟩
      · rcases List.mem_cons.mp hw0 with rfl | hw0
        · exact ⟨h5, good_of_word (List.mem_filter.mp h5).2⟩
        · exact ⟨hw0, good_of_word (List.mem_filter.mp hw0).2⟩
    have hrun := vx_runSW (p := p) (l := l) (e := e) (below := below) (meth := meth) (locs := locs) (cells := kc) (slots := ks) (As := vs) (rest := st) (Ts := q_T) (g := F0 m pc ls (vs.reverse ++ st)) ⟨hx, hb, hml, ho, hts⟩ hM (vx_cwSW m0 hts hG rfl rfl rfl hcx hR) ⟨q_blindX, q_preX C hKX hH hS⟩ rfl hlen hl.1 rfl (lv_room (Nat.le_of_ble_eq_true hcat)) hd hf
    have g : W p l e room_1 s m args below meth c0 H locs kc ks (TgW E b Ln xs below args s) (F0 m pc ls (vs.reverse ++ st)) := q_goes hrun hS (fun r w1 H1 locs1 hk1 hH1 hS1 => h r w1 hk1 p e s m args below meth c0 H1 locs1 ls C hH1 hS1 hl)
    exact g T hT9 X
  · exact ⟨_, Steps.refl _, fun h9 => absurd h9 hL⟩
end
theorem iand31 (X : Int32) : ∃ w : Nat, w < 32 ∧ X &&& iz 31 = iz (w : Int) := by
  refine ⟨(X.toBitVec &&& 31#32).toNat, ?_, ?_⟩
  · rw [BitVec.toNat_and]
    exact Nat.lt_of_le_of_lt Nat.and_le_right (by decide)
  · have h : (X.toBitVec &&& 31#32).toNat < 32 := by
      rw [BitVec.toNat_and]
      exact Nat.lt_of_le_of_lt Nat.and_le_right (by decide)
    apply Int32.toBitVec_inj.mp
    rw [Int32.toBitVec_and]
    show X.toBitVec &&& 31#32 = (Int32.ofInt _).toBitVec
    rw [Int32.toBitVec_ofInt]
    apply BitVec.eq_of_toNat_eq
    rw [BitVec.toNat_ofInt]
    omega
theorem lcmp_eq (a : Int64) : lg_cmp a a = iz 0 := by
  unfold lg_cmp
  simp
  rfl
theorem dcmp_eq0 {g : Int} (h : 0 ≤ g ∧ g < 580) : Op.cmpValue (FP.dcmp (f_shr g) (f_shr g)) .l = iz 0 := by
  have key : ∀ j : Nat, j < 580 → Op.cmpValue (FP.dcmp (f_shr (j : Int)) (f_shr (j : Int))) .l = iz 0 := by decide +kernel
  have q := key g.toNat (by omega)
  rwa [show ((g.toNat : Nat) : Int) = g by omega] at q
theorem cv_W_70 : q_ci "ScratchMapLaw" 70 Y_X4_init 0 := ⟨⟨by decide +kernel, by decide +kernel, by decide +kernel⟩, (q_w 18 (by decide +kernel) rfl), (q_w 19 (by decide +kernel) rfl), (q_w 1 (by decide +kernel) rfl), (q_w 20 (by decide +kernel) rfl), rfl, rfl⟩
theorem cv_W_73 : q_ci "ScratchMapLaw" 73 Y_X5_init 0 := ⟨⟨by decide +kernel, by decide +kernel, by decide +kernel⟩, (q_w 820 (by decide +kernel) rfl), (q_w 821 (by decide +kernel) rfl), (q_w 6 (by decide +kernel) rfl), (q_w 822 (by decide +kernel) rfl), rfl, rfl⟩
theorem cv_W_74 : q_cw 74 Y9_L_write hh_L_write 4 := ⟨⟨by decide +kernel, by decide +kernel, by decide +kernel⟩, (q_w 509 (by decide +kernel) rfl), (q_w 510 (by decide +kernel) rfl), (q_w 0 (by decide +kernel) rfl), (q_w 511 (by decide +kernel) rfl)⟩
theorem cv_W_79 : q_cv "ScratchMapLaw" 79 Y_X5_write 2 := ⟨⟨by decide +kernel, by decide +kernel, by decide +kernel⟩, (q_w 896 (by decide +kernel) rfl), (q_w 897 (by decide +kernel) rfl), (q_w 898 (by decide +kernel) rfl), (q_w 6 (by decide +kernel) rfl), (q_w 899 (by decide +kernel) rfl)⟩
theorem cv_W_80 : q_cv "ScratchMapLaw" 80 Y_X5_thrown 0 := ⟨⟨by decide +kernel, by decide +kernel, by decide +kernel⟩, (q_w 888 (by decide +kernel) rfl), (q_w 889 (by decide +kernel) rfl), (q_w 890 (by decide +kernel) rfl), (q_w 6 (by decide +kernel) rfl), (q_w 891 (by decide +kernel) rfl)⟩
theorem cv_W_83 : q_cw 83 Y9_L_fill hh_L_fill 5 := ⟨⟨by decide +kernel, by decide +kernel, by decide +kernel⟩, (q_w 634 (by decide +kernel) rfl), (q_w 635 (by decide +kernel) rfl), (q_w 0 (by decide +kernel) rfl), (q_w 636 (by decide +kernel) rfl)⟩
theorem cv_W_86 : q_cv "ScratchMapLaw" 86 Y_X5_fill 3 := ⟨⟨by decide +kernel, by decide +kernel, by decide +kernel⟩, (q_w 989 (by decide +kernel) rfl), (q_w 990 (by decide +kernel) rfl), (q_w 991 (by decide +kernel) rfl), (q_w 6 (by decide +kernel) rfl), (q_w 992 (by decide +kernel) rfl)⟩
theorem cv_W_87 : q_cw 87 Y9_L_drop hh_L_drop 3 := ⟨⟨by decide +kernel, by decide +kernel, by decide +kernel⟩, (q_w 643 (by decide +kernel) rfl), (q_w 644 (by decide +kernel) rfl), (q_w 0 (by decide +kernel) rfl), (q_w 645 (by decide +kernel) rfl)⟩
theorem cv_W_90 : q_cv "ScratchMapLaw" 90 Y_X5_drop 1 := ⟨⟨by decide +kernel, by decide +kernel, by decide +kernel⟩, (q_w 993 (by decide +kernel) rfl), (q_w 994 (by decide +kernel) rfl), (q_w 995 (by decide +kernel) rfl), (q_w 6 (by decide +kernel) rfl), (q_w 996 (by decide +kernel) rfl)⟩
theorem cv_W_91 : q_cw 91 Y9_L_fail hh_L_fail 4 := ⟨⟨by decide +kernel, by decide +kernel, by decide +kernel⟩, (q_w 651 (by decide +kernel) rfl), (q_w 652 (by decide +kernel) rfl), (q_w 0 (by decide +kernel) rfl), (q_w 653 (by decide +kernel) rfl)⟩
theorem cv_W_93 : q_cv "ScratchMapLaw" 93 Y_X5_fail 2 := ⟨⟨by decide +kernel, by decide +kernel, by decide +kernel⟩, (q_w 1001 (by decide +kernel) rfl), (q_w 1002 (by decide +kernel) rfl), (q_w 1003 (by decide +kernel) rfl), (q_w 6 (by decide +kernel) rfl), (q_w 1004 (by decide +kernel) rfl)⟩
theorem cv_W_94 : q_cw 94 Y9_L_heal hh_L_heal 4 := ⟨⟨by decide +kernel, by decide +kernel, by decide +kernel⟩, (q_w 662 (by decide +kernel) rfl), (q_w 663 (by decide +kernel) rfl), (q_w 0 (by decide +kernel) rfl), (q_w 664 (by decide +kernel) rfl)⟩
theorem cv_W_96 : q_cv "ScratchMapLaw" 96 Y_X5_heal 2 := ⟨⟨by decide +kernel, by decide +kernel, by decide +kernel⟩, (q_w 1021 (by decide +kernel) rfl), (q_w 1022 (by decide +kernel) rfl), (q_w 1023 (by decide +kernel) rfl), (q_w 6 (by decide +kernel) rfl), (q_w 1024 (by decide +kernel) rfl)⟩
theorem cv_W_97 : q_cw 97 Y9_L_tidy hh_L_tidy 3 := ⟨⟨by decide +kernel, by decide +kernel, by decide +kernel⟩, (q_w 675 (by decide +kernel) rfl), (q_w 676 (by decide +kernel) rfl), (q_w 0 (by decide +kernel) rfl), (q_w 677 (by decide +kernel) rfl)⟩
theorem cv_W_99 : q_cv "ScratchMapLaw" 99 Y_X5_tidy 1 := ⟨⟨by decide +kernel, by decide +kernel, by decide +kernel⟩, (q_w 1029 (by decide +kernel) rfl), (q_w 1030 (by decide +kernel) rfl), (q_w 1031 (by decide +kernel) rfl), (q_w 6 (by decide +kernel) rfl), (q_w 1032 (by decide +kernel) rfl)⟩
theorem cv_W_100 : q_cw 100 Y9_L_set hh_L_set 4 := ⟨⟨by decide +kernel, by decide +kernel, by decide +kernel⟩, (q_w 683 (by decide +kernel) rfl), (q_w 684 (by decide +kernel) rfl), (q_w 0 (by decide +kernel) rfl), (q_w 685 (by decide +kernel) rfl)⟩
theorem cv_W_102 : q_cv "ScratchMapLaw" 102 Y_X5_set 2 := ⟨⟨by decide +kernel, by decide +kernel, by decide +kernel⟩, (q_w 1041 (by decide +kernel) rfl), (q_w 1042 (by decide +kernel) rfl), (q_w 1043 (by decide +kernel) rfl), (q_w 6 (by decide +kernel) rfl), (q_w 1044 (by decide +kernel) rfl)⟩
theorem cv_W_103 : q_cw 103 Y9_L_append hh_L_append 3 := ⟨⟨by decide +kernel, by decide +kernel, by decide +kernel⟩, (q_w 704 (by decide +kernel) rfl), (q_w 705 (by decide +kernel) rfl), (q_w 0 (by decide +kernel) rfl), (q_w 706 (by decide +kernel) rfl)⟩
theorem cv_W_105 : q_cv "ScratchMapLaw" 105 Y_X5_append 1 := ⟨⟨by decide +kernel, by decide +kernel, by decide +kernel⟩, (q_w 1051 (by decide +kernel) rfl), (q_w 1052 (by decide +kernel) rfl), (q_w 1053 (by decide +kernel) rfl), (q_w 6 (by decide +kernel) rfl), (q_w 1054 (by decide +kernel) rfl)⟩
theorem cv_W_106 : q_cv "ScratchMapLaw" 106 Y_X4_clearBuffer 0 := ⟨⟨by decide +kernel, by decide +kernel, by decide +kernel⟩, (q_w 195 (by decide +kernel) rfl), (q_w 196 (by decide +kernel) rfl), (q_w 197 (by decide +kernel) rfl), (q_w 1 (by decide +kernel) rfl), (q_w 198 (by decide +kernel) rfl)⟩
theorem cv_W_109 : q_cv "ScratchMapLaw" 109 Y_X5_clearBuffer 0 := ⟨⟨by decide +kernel, by decide +kernel, by decide +kernel⟩, (q_w 1055 (by decide +kernel) rfl), (q_w 1056 (by decide +kernel) rfl), (q_w 1057 (by decide +kernel) rfl), (q_w 6 (by decide +kernel) rfl), (q_w 1058 (by decide +kernel) rfl)⟩
theorem cv_W_110 : q_cv "ScratchMapLaw" 110 Y_X4_firstError 0 := ⟨⟨by decide +kernel, by decide +kernel, by decide +kernel⟩, (q_w 203 (by decide +kernel) rfl), (q_w 204 (by decide +kernel) rfl), (q_w 205 (by decide +kernel) rfl), (q_w 1 (by decide +kernel) rfl), (q_w 206 (by decide +kernel) rfl)⟩
theorem cv_W_113 : q_cv "ScratchMapLaw" 113 Y_X5_firstError 0 := ⟨⟨by decide +kernel, by decide +kernel, by decide +kernel⟩, (q_w 1059 (by decide +kernel) rfl), (q_w 1060 (by decide +kernel) rfl), (q_w 1061 (by decide +kernel) rfl), (q_w 6 (by decide +kernel) rfl), (q_w 1062 (by decide +kernel) rfl)⟩
theorem cv_W_114 : q_cw 114 Y9_L_read hh_L_read 2 := ⟨⟨by decide +kernel, by decide +kernel, by decide +kernel⟩, (q_w 724 (by decide +kernel) rfl), (q_w 725 (by decide +kernel) rfl), (q_w 0 (by decide +kernel) rfl), (q_w 726 (by decide +kernel) rfl)⟩
theorem cv_W_117 : q_cv "ScratchMapLaw" 117 Y_X5_read 0 := ⟨⟨by decide +kernel, by decide +kernel, by decide +kernel⟩, (q_w 1083 (by decide +kernel) rfl), (q_w 1084 (by decide +kernel) rfl), (q_w 1085 (by decide +kernel) rfl), (q_w 6 (by decide +kernel) rfl), (q_w 1086 (by decide +kernel) rfl)⟩
theorem cv_W_118 : q_cw 118 Y9_L_undo hh_L_undo 2 := ⟨⟨by decide +kernel, by decide +kernel, by decide +kernel⟩, (q_w 749 (by decide +kernel) rfl), (q_w 750 (by decide +kernel) rfl), (q_w 0 (by decide +kernel) rfl), (q_w 751 (by decide +kernel) rfl)⟩
theorem cv_W_120 : q_cv "ScratchMapLaw" 120 Y_X5_undo 0 := ⟨⟨by decide +kernel, by decide +kernel, by decide +kernel⟩, (q_w 892 (by decide +kernel) rfl), (q_w 893 (by decide +kernel) rfl), (q_w 894 (by decide +kernel) rfl), (q_w 6 (by decide +kernel) rfl), (q_w 895 (by decide +kernel) rfl)⟩
theorem cv_W_121 : q_cw 121 Y9_L_cell hh_L_cell 5 := ⟨⟨by decide +kernel, by decide +kernel, by decide +kernel⟩, (q_w 757 (by decide +kernel) rfl), (q_w 758 (by decide +kernel) rfl), (q_w 0 (by decide +kernel) rfl), (q_w 759 (by decide +kernel) rfl)⟩
theorem cv_W_123 : q_cv "ScratchMapLaw" 123 Y_X5_cell 3 := ⟨⟨by decide +kernel, by decide +kernel, by decide +kernel⟩, (q_w 1091 (by decide +kernel) rfl), (q_w 1092 (by decide +kernel) rfl), (q_w 1093 (by decide +kernel) rfl), (q_w 6 (by decide +kernel) rfl), (q_w 1094 (by decide +kernel) rfl)⟩
theorem cv_W_124 : q_cw 124 Y9_L_block hh_L_block 4 := ⟨⟨by decide +kernel, by decide +kernel, by decide +kernel⟩, (q_w 769 (by decide +kernel) rfl), (q_w 770 (by decide +kernel) rfl), (q_w 0 (by decide +kernel) rfl), (q_w 771 (by decide +kernel) rfl)⟩
theorem cv_W_126 : q_cv "ScratchMapLaw" 126 Y_X5_block 2 := ⟨⟨by decide +kernel, by decide +kernel, by decide +kernel⟩, (q_w 1099 (by decide +kernel) rfl), (q_w 1100 (by decide +kernel) rfl), (q_w 1101 (by decide +kernel) rfl), (q_w 6 (by decide +kernel) rfl), (q_w 1102 (by decide +kernel) rfl)⟩
theorem cv_W_127 : q_cw 127 Y9_L_line hh_L_line 4 := ⟨⟨by decide +kernel, by decide +kernel, by decide +kernel⟩, (q_w 780 (by decide +kernel) rfl), (q_w 781 (by decide +kernel) rfl), (q_w 0 (by decide +kernel) rfl), (q_w 782 (by decide +kernel) rfl)⟩
theorem cv_W_129 : q_cv "ScratchMapLaw" 129 Y_X5_line 2 := ⟨⟨by decide +kernel, by decide +kernel, by decide +kernel⟩, (q_w 1107 (by decide +kernel) rfl), (q_w 1108 (by decide +kernel) rfl), (q_w 1109 (by decide +kernel) rfl), (q_w 6 (by decide +kernel) rfl), (q_w 1110 (by decide +kernel) rfl)⟩
theorem cv_W_130 : q_cw 130 Y9_L_count hh_L_count 3 := ⟨⟨by decide +kernel, by decide +kernel, by decide +kernel⟩, (q_w 789 (by decide +kernel) rfl), (q_w 790 (by decide +kernel) rfl), (q_w 0 (by decide +kernel) rfl), (q_w 791 (by decide +kernel) rfl)⟩
theorem cv_W_132 : q_cv "ScratchMapLaw" 132 Y_X5_count 1 := ⟨⟨by decide +kernel, by decide +kernel, by decide +kernel⟩, (q_w 1123 (by decide +kernel) rfl), (q_w 1124 (by decide +kernel) rfl), (q_w 1125 (by decide +kernel) rfl), (q_w 6 (by decide +kernel) rfl), (q_w 1126 (by decide +kernel) rfl)⟩
theorem cv_W_133 : q_cw 133 Y9_L_setting hh_L_setting 3 := ⟨⟨by decide +kernel, by decide +kernel, by decide +kernel⟩, (q_w 797 (by decide +kernel) rfl), (q_w 798 (by decide +kernel) rfl), (q_w 0 (by decide +kernel) rfl), (q_w 799 (by decide +kernel) rfl)⟩
theorem cv_W_135 : q_cv "ScratchMapLaw" 135 Y_X5_setting 1 := ⟨⟨by decide +kernel, by decide +kernel, by decide +kernel⟩, (q_w 1143 (by decide +kernel) rfl), (q_w 1144 (by decide +kernel) rfl), (q_w 1145 (by decide +kernel) rfl), (q_w 6 (by decide +kernel) rfl), (q_w 1146 (by decide +kernel) rfl)⟩
theorem cv_W_136 : q_cw 136 Y9_L_ifFailed hh_L_ifFailed 5 := ⟨⟨by decide +kernel, by decide +kernel, by decide +kernel⟩, (q_w 804 (by decide +kernel) rfl), (q_w 805 (by decide +kernel) rfl), (q_w 0 (by decide +kernel) rfl), (q_w 806 (by decide +kernel) rfl)⟩
theorem cv_W_138 : q_cv "ScratchMapLaw" 138 Y_X5_ifFailed 3 := ⟨⟨by decide +kernel, by decide +kernel, by decide +kernel⟩, (q_w 1147 (by decide +kernel) rfl), (q_w 1148 (by decide +kernel) rfl), (q_w 1149 (by decide +kernel) rfl), (q_w 6 (by decide +kernel) rfl), (q_w 1150 (by decide +kernel) rfl)⟩
theorem cv_W_139 : q_cv "ScratchMapLaw" 139 Y_X4_worst 0 := ⟨⟨by decide +kernel, by decide +kernel, by decide +kernel⟩, (q_w 242 (by decide +kernel) rfl), (q_w 243 (by decide +kernel) rfl), (q_w 244 (by decide +kernel) rfl), (q_w 1 (by decide +kernel) rfl), (q_w 245 (by decide +kernel) rfl)⟩
theorem cv_W_142 : q_cv "ScratchMapLaw" 142 Y_X5_worst 0 := ⟨⟨by decide +kernel, by decide +kernel, by decide +kernel⟩, (q_w 1163 (by decide +kernel) rfl), (q_w 1164 (by decide +kernel) rfl), (q_w 1165 (by decide +kernel) rfl), (q_w 6 (by decide +kernel) rfl), (q_w 1166 (by decide +kernel) rfl)⟩
theorem cv_W_143 : q_cv "ScratchMapLaw" 143 Y_X4_untidy 0 := ⟨⟨by decide +kernel, by decide +kernel, by decide +kernel⟩, (q_w 257 (by decide +kernel) rfl), (q_w 258 (by decide +kernel) rfl), (q_w 259 (by decide +kernel) rfl), (q_w 1 (by decide +kernel) rfl), (q_w 260 (by decide +kernel) rfl)⟩
theorem cv_W_146 : q_cv "ScratchMapLaw" 146 Y_X5_untidy 0 := ⟨⟨by decide +kernel, by decide +kernel, by decide +kernel⟩, (q_w 1171 (by decide +kernel) rfl), (q_w 1172 (by decide +kernel) rfl), (q_w 1173 (by decide +kernel) rfl), (q_w 6 (by decide +kernel) rfl), (q_w 1174 (by decide +kernel) rfl)⟩
theorem cv_W_147 : q_cw 147 Y9_L_find hh_L_find 3 := ⟨⟨by decide +kernel, by decide +kernel, by decide +kernel⟩, (q_w 811 (by decide +kernel) rfl), (q_w 812 (by decide +kernel) rfl), (q_w 0 (by decide +kernel) rfl), (q_w 813 (by decide +kernel) rfl)⟩
theorem cv_W_149 : q_cv "ScratchMapLaw" 149 Y_X5_find 1 := ⟨⟨by decide +kernel, by decide +kernel, by decide +kernel⟩, (q_w 1179 (by decide +kernel) rfl), (q_w 1180 (by decide +kernel) rfl), (q_w 1181 (by decide +kernel) rfl), (q_w 6 (by decide +kernel) rfl), (q_w 1182 (by decide +kernel) rfl)⟩
theorem cv_W_150 : q_cv "ScratchMapLaw" 150 Y_X4_goodShare 0 := ⟨⟨by decide +kernel, by decide +kernel, by decide +kernel⟩, (q_w 301 (by decide +kernel) rfl), (q_w 302 (by decide +kernel) rfl), (q_w 303 (by decide +kernel) rfl), (q_w 1 (by decide +kernel) rfl), (q_w 304 (by decide +kernel) rfl)⟩
theorem cv_W_154 : q_cv "ScratchMapLaw" 154 Y_X5_goodShare 0 := ⟨⟨by decide +kernel, by decide +kernel, by decide +kernel⟩, (q_w 1187 (by decide +kernel) rfl), (q_w 1188 (by decide +kernel) rfl), (q_w 1189 (by decide +kernel) rfl), (q_w 6 (by decide +kernel) rfl), (q_w 1190 (by decide +kernel) rfl)⟩
theorem cv_W_155 : q_cv "ScratchMapLaw" 155 Y_X4_digest 0 := ⟨⟨by decide +kernel, by decide +kernel, by decide +kernel⟩, (q_w 306 (by decide +kernel) rfl), (q_w 307 (by decide +kernel) rfl), (q_w 308 (by decide +kernel) rfl), (q_w 1 (by decide +kernel) rfl), (q_w 309 (by decide +kernel) rfl)⟩
theorem cv_W_159 : q_cv "ScratchMapLaw" 159 Y_X5_digest 0 := ⟨⟨by decide +kernel, by decide +kernel, by decide +kernel⟩, (q_w 1196 (by decide +kernel) rfl), (q_w 1197 (by decide +kernel) rfl), (q_w 1198 (by decide +kernel) rfl), (q_w 6 (by decide +kernel) rfl), (q_w 1199 (by decide +kernel) rfl)⟩
