/-! constructors: the reference -/
set_option maxHeartbeats 2000000 in
set_option maxRecDepth 100000 in
theorem s_X5_init {l : Launch} {E : QE} {T : Nat → Nat × Nat} {I : Nat → Nat → Int} {J : Nat → Nat → Int64} {R : Nat → Nat → Option Nat} (ht : MdT T) (hz0 : Z0 I J R 110) : Sp l E Y_X5_init [.ref (E.1 + 110)] (T, I, J, R, 111, 112) (fun r w => r = none ∧ ∃ (I' : Nat → Nat → Int) (R' : Nat → Nat → Option Nat), w = (T, I', J, R', 124, 125) ∧ MN I I' R R') := by
  obtain ⟨t0, t1, t2, t3, t4, t5, t6, t7, t8, t9, t10, t11, t12, t13⟩ := ht
  have zz := (hz0 111 (by decide)).1
  refine Sp.of [some (.ref (E.1 + 110)), none] (by decide +kernel) (Nat.le_of_ble_eq_true rfl) (fun _ h => h) ?_
  refine g_aload0 (Y := Y_X5_init) (pc' := 1) dX5_init_0 rfl ?_
  refine g_objInit (Y := Y_X5_init) (pc' := 4) dX5_init_1 rfl (q_w 823 (by decide +kernel) rfl) (q_w 22 (by decide +kernel) rfl) (q_w 23 (by decide +kernel) rfl) (by first | exact Nat.le_of_ble_eq_true rfl | (show _ ≤ _; omega)) (by first | exact Nat.le_of_ble_eq_true rfl | (show _ ≤ _; omega)) ?_
  refine g_aload0 (Y := Y_X5_init) (pc' := 5) dX5_init_4 rfl ?_
  refine g_sipush (Y := Y_X5_init) (pc' := 8) dX5_init_5 rfl (by decide) ?_
  refine g_newI (Y := Y_X5_init) (n := 111) (len := 1554) (pc' := 10) dX5_init_8 rfl (q_w 61 (by decide +kernel) rfl) t1 (fun j => (hz0 111 (by omega)).1 j) (by decide) (by first | exact Nat.le_of_ble_eq_true rfl | (show _ ≤ _; omega)) (by first | exact Nat.le_of_ble_eq_true rfl | (show _ ≤ _; omega)) ?_
  refine g_putR (Y := Y_X5_init) (pc' := 13) dX5_init_10 rfl fp_X5_7 rfl (by assumption) (by omega) rfl ⟨rfl, rfl⟩ ?_
  refine g_aload0 (Y := Y_X5_init) (pc' := 14) dX5_init_13 rfl ?_
  refine g_sipush (Y := Y_X5_init) (pc' := 17) dX5_init_14 rfl (by decide) ?_
  refine g_newI (Y := Y_X5_init) (n := 112) (len := 9324) (pc' := 19) dX5_init_17 rfl (q_w 61 (by decide +kernel) rfl) t2 (fun j => (hz0 112 (by omega)).1 j) (by decide) (by first | exact Nat.le_of_ble_eq_true rfl | (show _ ≤ _; omega)) (by first | exact Nat.le_of_ble_eq_true rfl | (show _ ≤ _; omega)) ?_
  refine g_putR (Y := Y_X5_init) (pc' := 22) dX5_init_19 rfl fp_X5_13 rfl (by assumption) (by omega) rfl ⟨rfl, rfl⟩ ?_
  refine g_aload0 (Y := Y_X5_init) (pc' := 23) dX5_init_22 rfl ?_
  refine g_sipush (Y := Y_X5_init) (pc' := 26) dX5_init_23 rfl (by decide) ?_
  refine g_newI (Y := Y_X5_init) (n := 113) (len := 1554) (pc' := 28) dX5_init_26 rfl (q_w 61 (by decide +kernel) rfl) t3 (fun j => (hz0 113 (by omega)).1 j) (by decide) (by first | exact Nat.le_of_ble_eq_true rfl | (show _ ≤ _; omega)) (by first | exact Nat.le_of_ble_eq_true rfl | (show _ ≤ _; omega)) ?_
  refine g_putR (Y := Y_X5_init) (pc' := 31) dX5_init_28 rfl fp_X5_16 rfl (by assumption) (by omega) rfl ⟨rfl, rfl⟩ ?_
  refine g_aload0 (Y := Y_X5_init) (pc' := 32) dX5_init_31 rfl ?_
  refine g_bipush (Y := Y_X5_init) (pc' := 34) dX5_init_32 rfl (by decide) ?_
  refine g_newI (Y := Y_X5_init) (n := 114) (len := 60) (pc' := 36) dX5_init_34 rfl (q_w 61 (by decide +kernel) rfl) t4 (fun j => (hz0 114 (by omega)).1 j) (by decide) (by first | exact Nat.le_of_ble_eq_true rfl | (show _ ≤ _; omega)) (by first | exact Nat.le_of_ble_eq_true rfl | (show _ ≤ _; omega)) ?_
  refine g_putR (Y := Y_X5_init) (pc' := 39) dX5_init_36 rfl fp_X5_19 rfl (by assumption) (by omega) rfl ⟨rfl, rfl⟩ ?_
  refine g_aload0 (Y := Y_X5_init) (pc' := 40) dX5_init_39 rfl ?_
  refine g_bipush (Y := Y_X5_init) (pc' := 42) dX5_init_40 rfl (by decide) ?_
  refine g_newI (Y := Y_X5_init) (n := 115) (len := 66) (pc' := 44) dX5_init_42 rfl (q_w 61 (by decide +kernel) rfl) t5 (fun j => (hz0 115 (by omega)).1 j) (by decide) (by first | exact Nat.le_of_ble_eq_true rfl | (show _ ≤ _; omega)) (by first | exact Nat.le_of_ble_eq_true rfl | (show _ ≤ _; omega)) ?_
  refine g_putR (Y := Y_X5_init) (pc' := 47) dX5_init_44 rfl fp_X5_22 rfl (by assumption) (by omega) rfl ⟨rfl, rfl⟩ ?_
  refine g_aload0 (Y := Y_X5_init) (pc' := 48) dX5_init_47 rfl ?_
  refine g_bipush (Y := Y_X5_init) (pc' := 50) dX5_init_48 rfl (by decide) ?_
  refine g_newI (Y := Y_X5_init) (n := 116) (len := 66) (pc' := 52) dX5_init_50 rfl (q_w 61 (by decide +kernel) rfl) t6 (fun j => (hz0 116 (by omega)).1 j) (by decide) (by first | exact Nat.le_of_ble_eq_true rfl | (show _ ≤ _; omega)) (by first | exact Nat.le_of_ble_eq_true rfl | (show _ ≤ _; omega)) ?_
  refine g_putR (Y := Y_X5_init) (pc' := 55) dX5_init_52 rfl fp_X5_25 rfl (by assumption) (by omega) rfl ⟨rfl, rfl⟩ ?_
  refine g_aload0 (Y := Y_X5_init) (pc' := 56) dX5_init_55 rfl ?_
  refine g_bipush (Y := Y_X5_init) (pc' := 58) dX5_init_56 rfl (by decide) ?_
  refine g_newI (Y := Y_X5_init) (n := 117) (len := 66) (pc' := 60) dX5_init_58 rfl (q_w 61 (by decide +kernel) rfl) t7 (fun j => (hz0 117 (by omega)).1 j) (by decide) (by first | exact Nat.le_of_ble_eq_true rfl | (show _ ≤ _; omega)) (by first | exact Nat.le_of_ble_eq_true rfl | (show _ ≤ _; omega)) ?_
  refine g_putR (Y := Y_X5_init) (pc' := 63) dX5_init_60 rfl fp_X5_28 rfl (by assumption) (by omega) rfl ⟨rfl, rfl⟩ ?_
  refine g_aload0 (Y := Y_X5_init) (pc' := 64) dX5_init_63 rfl ?_
  refine g_bipush (Y := Y_X5_init) (pc' := 66) dX5_init_64 rfl (by decide) ?_
  refine g_newI (Y := Y_X5_init) (n := 118) (len := 66) (pc' := 68) dX5_init_66 rfl (q_w 61 (by decide +kernel) rfl) t8 (fun j => (hz0 118 (by omega)).1 j) (by decide) (by first | exact Nat.le_of_ble_eq_true rfl | (show _ ≤ _; omega)) (by first | exact Nat.le_of_ble_eq_true rfl | (show _ ≤ _; omega)) ?_
  refine g_putR (Y := Y_X5_init) (pc' := 71) dX5_init_68 rfl fp_X5_31 rfl (by assumption) (by omega) rfl ⟨rfl, rfl⟩ ?_
  refine g_aload0 (Y := Y_X5_init) (pc' := 72) dX5_init_71 rfl ?_
  refine g_bipush (Y := Y_X5_init) (pc' := 74) dX5_init_72 rfl (by decide) ?_
  refine g_newI (Y := Y_X5_init) (n := 119) (len := 66) (pc' := 76) dX5_init_74 rfl (q_w 61 (by decide +kernel) rfl) t9 (fun j => (hz0 119 (by omega)).1 j) (by decide) (by first | exact Nat.le_of_ble_eq_true rfl | (show _ ≤ _; omega)) (by first | exact Nat.le_of_ble_eq_true rfl | (show _ ≤ _; omega)) ?_
  refine g_putR (Y := Y_X5_init) (pc' := 79) dX5_init_76 rfl fp_X5_34 rfl (by assumption) (by omega) rfl ⟨rfl, rfl⟩ ?_
  refine g_aload0 (Y := Y_X5_init) (pc' := 80) dX5_init_79 rfl ?_
  refine g_bipush (Y := Y_X5_init) (pc' := 82) dX5_init_80 rfl (by decide) ?_
  refine g_newI (Y := Y_X5_init) (n := 120) (len := 66) (pc' := 84) dX5_init_82 rfl (q_w 61 (by decide +kernel) rfl) t10 (fun j => (hz0 120 (by omega)).1 j) (by decide) (by first | exact Nat.le_of_ble_eq_true rfl | (show _ ≤ _; omega)) (by first | exact Nat.le_of_ble_eq_true rfl | (show _ ≤ _; omega)) ?_
  refine g_putR (Y := Y_X5_init) (pc' := 87) dX5_init_84 rfl fp_X5_37 rfl (by assumption) (by omega) rfl ⟨rfl, rfl⟩ ?_
  refine g_aload0 (Y := Y_X5_init) (pc' := 88) dX5_init_87 rfl ?_
  refine g_sipush (Y := Y_X5_init) (pc' := 91) dX5_init_88 rfl (by decide) ?_
  refine g_newI (Y := Y_X5_init) (n := 121) (len := 576) (pc' := 93) dX5_init_91 rfl (q_w 61 (by decide +kernel) rfl) t11 (fun j => (hz0 121 (by omega)).1 j) (by decide) (by first | exact Nat.le_of_ble_eq_true rfl | (show _ ≤ _; omega)) (by first | exact Nat.le_of_ble_eq_true rfl | (show _ ≤ _; omega)) ?_
  refine g_putR (Y := Y_X5_init) (pc' := 96) dX5_init_93 rfl fp_X5_40 rfl (by assumption) (by omega) rfl ⟨rfl, rfl⟩ ?_
  refine g_aload0 (Y := Y_X5_init) (pc' := 97) dX5_init_96 rfl ?_
  refine g_sipush (Y := Y_X5_init) (pc' := 100) dX5_init_97 rfl (by decide) ?_
  refine g_newZ (Y := Y_X5_init) (n := 122) (len := 576) (pc' := 102) dX5_init_100 rfl (q_w 108 (by decide +kernel) rfl) t12 (fun j => (hz0 122 (by omega)).1 j) (by decide) (by first | exact Nat.le_of_ble_eq_true rfl | (show _ ≤ _; omega)) (by first | exact Nat.le_of_ble_eq_true rfl | (show _ ≤ _; omega)) ?_
  refine g_putR (Y := Y_X5_init) (pc' := 105) dX5_init_102 rfl fp_X5_43 rfl (by assumption) (by omega) rfl ⟨rfl, rfl⟩ ?_
  refine g_aload0 (Y := Y_X5_init) (pc' := 106) dX5_init_105 rfl ?_
  refine g_bipush (Y := Y_X5_init) (pc' := 108) dX5_init_106 rfl (by decide) ?_
  refine g_newI (Y := Y_X5_init) (n := 123) (len := 60) (pc' := 110) dX5_init_108 rfl (q_w 61 (by decide +kernel) rfl) t13 (fun j => (hz0 123 (by omega)).1 j) (by decide) (by first | exact Nat.le_of_ble_eq_true rfl | (show _ ≤ _; omega)) (by first | exact Nat.le_of_ble_eq_true rfl | (show _ ≤ _; omega)) ?_
  refine g_putR (Y := Y_X5_init) (pc' := 113) dX5_init_110 rfl fp_X5_47 rfl (by assumption) (by omega) rfl ⟨rfl, rfl⟩ ?_
  refine g_aload0 (Y := Y_X5_init) (pc' := 114) dX5_init_113 rfl ?_
  refine g_getR (Y := Y_X5_init) (pc' := 117) dX5_init_114 rfl fl_X5_7 rfl (by assumption) (by omega) (show (_ : Option Nat) = some 111 by simp [u2]) ?_
  refine g_iconst (Y := Y_X5_init) (pc' := 118) dX5_init_117 rfl ?_
  refine g_iconst (Y := Y_X5_init) (pc' := 119) dX5_init_118 rfl ?_
  refine g_iast (Y := Y_X5_init) (pc' := 120) dX5_init_119 rfl (by assumption) (by omega) (by decide) ⟨by decide, by decide⟩ ?_
  refine g_aload0 (Y := Y_X5_init) (pc' := 121) dX5_init_120 rfl ?_
  refine g_getR (Y := Y_X5_init) (pc' := 124) dX5_init_121 rfl fl_X5_7 rfl (by assumption) (by omega) (show (_ : Option Nat) = some 111 by simp [u2]) ?_
  refine g_iconst (Y := Y_X5_init) (pc' := 125) dX5_init_124 rfl ?_
  refine g_iconst (Y := Y_X5_init) (pc' := 126) dX5_init_125 rfl ?_
  refine g_iast (Y := Y_X5_init) (pc' := 127) dX5_init_126 rfl (by assumption) (by omega) (by decide) ⟨by decide, by decide⟩ ?_
  refine g_aload0 (Y := Y_X5_init) (pc' := 128) dX5_init_127 rfl ?_
  refine g_getR (Y := Y_X5_init) (pc' := 131) dX5_init_128 rfl fl_X5_7 rfl (by assumption) (by omega) (show (_ : Option Nat) = some 111 by simp [u2]) ?_
  refine g_iconst (Y := Y_X5_init) (pc' := 132) dX5_init_131 rfl ?_
  refine g_iconst (Y := Y_X5_init) (pc' := 133) dX5_init_132 rfl ?_
  refine g_iast (Y := Y_X5_init) (pc' := 134) dX5_init_133 rfl (by assumption) (by omega) (by decide) ⟨by decide, by decide⟩ ?_
  refine g_bipush (Y := Y_X5_init) (pc' := 136) dX5_init_134 rfl (by decide) ?_
  refine g_istore1 (Y := Y_X5_init) (pc' := 137) dX5_init_136 rfl (Nat.le_of_ble_eq_true rfl) rfl ?_
  refine s_X5_init_lp t0 t1 (by simp [u2]) (by decide) ?_ 1548 6 _ rfl rfl
  refine ⟨rfl, _, _, rfl, fun a ha => ?_, fun a ha => ?_, ⟨?_, ?_, ?_, ?_, ?_, ?_, ?_, ?_, ?_, ?_, ?_, ?_, ?_⟩, fun j => ?_⟩
  · rw [f_neg_ne ha, u2_ne ha, u2_ne ha, u2_ne ha]
  · simp only [u2_ne ha]
  all_goals first | (simp [u2]; done) | skip
  rw [f_neg_at, u2k, u2k, u2k, zz]
  unfold zN
  by_cases h0 : j = 0
  · subst h0; rfl
  · by_cases h1 : j = 1
    · subst h1; rfl
    · by_cases h2 : j = 2
      · subst h2; rfl
      · rw [if_neg (show ¬ (j = 0 ∨ j = 1) by omega), if_neg h2, if_neg (show ¬ j = Int.toNat 2 from h2), if_neg (show ¬ j = Int.toNat 1 from h1), if_neg (show ¬ j = Int.toNat 0 from h0)]
