section
/-! the law's cases -/
set_option maxHeartbeats 2000000 in
set_option maxRecDepth 100000 in
theorem lt_cell {l : Launch} {E : QE} {T : Nat → Nat × Nat} {b Ln : Nat} {xs : Nat → Int32} {i : Int} {kc ks : Nat} (hi : 0 ≤ i ∧ i + 4 ≤ (Ln : Int)) (hLn : Ln ≤ 2048) (hkc : kc ≤ 601024) (hks : ks ≤ 7293034) (hn : NXT l E T b Ln xs i kc ks) {c : Int} (hc : 0 ≤ c ∧ c ≤ 3) {I : Nat → Nat → Int} {J : Nat → Nat → Int64} {R : Nat → Nat → Option Nat} {x5 x6 x7 x8 : Option Value} (hr : RLx T c I (fun I9 => y_cell I9 (xs (i + 1).toNat).toInt (xs (i + 2).toNat).toInt (xs (i + 3).toNat).toInt) J R) : GoT l E Y_L_law kc ks 801 [some (.ref b), some (.ref (E.1 + 0)), some (.ref (E.1 + 110)), some (.ref (E.1 + 124)), some (.int (iz i)), x5, x6, x7, x8] [.int (iz c)] (T, I, J, R, 125, 0) (TgW E b Ln xs) := by
  have hmv : MV I := hr.1
  have hmb : MdB T R 125 := hr.2.1
  have h110 : T 110 = (5, 0) := hmb.1
  have h124 : T 124 = (10, 1) := hr.2.2.2.2.2.2.1
  have e0 : (y_cell I (xs (i + 1).toNat).toInt (xs (i + 2).toNat).toInt (xs (i + 3).toNat).toInt).2 110 0 = c := hr.2.2.1
  have e1 : c = 0 → J 124 0 = (iz (y_cell I (xs (i + 1).toNat).toInt (xs (i + 2).toNat).toInt (xs (i + 3).toNat).toInt).1).toInt64 := hr.2.2.2.1
  have hq : QR T (y_cell I (xs (i + 1).toNat).toInt (xs (i + 2).toNat).toInt (xs (i + 3).toNat).toInt).2 R := hr.2.2.2.2
  clear hr
  refine g_istore5 (Y := Y_L_law) (pc' := 803) dL_law_801 rfl (Nat.le_of_ble_eq_true rfl) rfl ?_
  refine g_aload2 (Y := Y_L_law) (pc' := 804) dL_law_803 rfl ?_
  refine g_aload0 (Y := Y_L_law) (pc' := 805) dL_law_804 rfl ?_
  refine g_iload4 (Y := Y_L_law) (pc' := 807) dL_law_805 rfl ?_
  refine g_iconst (Y := Y_L_law) (pc' := 808) dL_law_807 rfl ?_
  refine g_iadd (Y := Y_L_law) (pc' := 809) dL_law_808 rfl ?_
  refine g_xld (pc' := 810) dL_law_809 rfl ⟨by omega, by omega⟩ hLn ?_
  refine g_aload0 (Y := Y_L_law) (pc' := 811) dL_law_810 rfl ?_
  refine g_iload4 (Y := Y_L_law) (pc' := 813) dL_law_811 rfl ?_
  refine g_iconst (Y := Y_L_law) (pc' := 814) dL_law_813 rfl ?_
  refine g_iadd (Y := Y_L_law) (pc' := 815) dL_law_814 rfl ?_
  refine g_xld (pc' := 816) dL_law_815 rfl ⟨by omega, by omega⟩ hLn ?_
  refine g_aload0 (Y := Y_L_law) (pc' := 817) dL_law_816 rfl ?_
  refine g_iload4 (Y := Y_L_law) (pc' := 819) dL_law_817 rfl ?_
  refine g_iconst (Y := Y_L_law) (pc' := 820) dL_law_819 rfl ?_
  refine g_iadd (Y := Y_L_law) (pc' := 821) dL_law_820 rfl ?_
  refine g_xld (pc' := 822) dL_law_821 rfl ⟨by omega, by omega⟩ hLn ?_
  refine g_callVv (Y := Y_L_law) (c := 5) (k := 110) (s_X5_cell hmb hmv (xs (i + 1).toNat).toInt (i32rg _) (xs (i + 2).toNat).toInt (i32rg _) (xs (i + 3).toNat).toInt (i32rg _)) (pc' := 825) dL_law_822 rfl cv_W_123 (q_fit_mk (Nat.le_of_ble_eq_true rfl) (Nat.le_of_ble_eq_true rfl) hkc hks) h110 (by show (110 : Nat) < 125; decide) ⟨by decide, _, rfl, rfl⟩ rfl rfl rfl rfl ?_
  generalize y_cell I (xs (i + 1).toNat).toInt (xs (i + 2).toNat).toInt (xs (i + 3).toNat).toInt = r at e0 e1 hq ⊢
  refine g_istore6 (Y := Y_L_law) (pc' := 827) dL_law_825 rfl (Nat.le_of_ble_eq_true rfl) rfl ?_
  refine g_aload2 (Y := Y_L_law) (pc' := 828) dL_law_827 rfl ?_
  refine g_callVv (Y := Y_L_law) (c := 5) (k := 110) (s_X5_thrown hmb) (pc' := 831) dL_law_828 rfl cv_W_80 (q_fit_mk (Nat.le_of_ble_eq_true rfl) (Nat.le_of_ble_eq_true rfl) hkc hks) h110 (by show (110 : Nat) < 125; decide) ⟨by decide, _, rfl, rfl⟩ rfl rfl rfl rfl ?_
  refine g_iload5 (Y := Y_L_law) (pc' := 833) dL_law_831 rfl ?_
  refine g_icmp_eq (Y := Y_L_law) (t := 838) (pc' := 836) dL_law_833 (by decide) rfl ⟨by omega, by omega⟩ ⟨by omega, by omega⟩ (fun h9 => ?_) (fun h9 => absurd e0 h9)
  refine g_iload5 (Y := Y_L_law) (pc' := 840) dL_law_838 rfl ?_
  refine g_if_ne (Y := Y_L_law) (t := 855) (pc' := 843) dL_law_840 (by decide) rfl ⟨by omega, by omega⟩ (fun h8 => ?_) (fun h8 => ?_)
  · refine g_goto (Y := Y_L_law) (t := 1323) dL_law_855 (by decide) ?_
    exact hn _ _ _ _ _ _ _ _ _ hq (Nat.le_refl _) (Nat.le_refl _)
  · refine g_aload3 (Y := Y_L_law) (pc' := 844) dL_law_843 rfl ?_
    refine g_iconst (Y := Y_L_law) (pc' := 845) dL_law_844 rfl ?_
    refine g_lald (Y := Y_L_law) (pc' := 846) dL_law_845 rfl h124 (by decide) (by decide) ⟨by decide, by decide⟩ ?_
    refine g_iload6 (Y := Y_L_law) (pc' := 848) dL_law_846 rfl ?_
    refine g_i2l (Y := Y_L_law) (pc' := 849) dL_law_848 rfl ?_
    refine g_lcmp (Y := Y_L_law) (v := 0) (pc' := 850) dL_law_849 rfl (by rw [show J 124 (0 : Int).toNat = _ from e1 h8]; exact lcmp_eq _) ?_
    refine g_if_eq (Y := Y_L_law) (t := 855) (pc' := 853) dL_law_850 (by decide) rfl ⟨by decide, by decide⟩ (fun _ => ?_) (fun h7 => absurd rfl h7)
    refine g_goto (Y := Y_L_law) (t := 1323) dL_law_855 (by decide) ?_
    exact hn _ _ _ _ _ _ _ _ _ hq (Nat.le_refl _) (Nat.le_refl _)
set_option maxHeartbeats 2000000 in
set_option maxRecDepth 100000 in
theorem lc_12 {l : Launch} {E : QE} {T : Nat → Nat × Nat} {b Ln : Nat} {xs : Nat → Int32} {i : Int} {kc ks : Nat} (hl9 : l.stackTraces = false) (hi : 0 ≤ i ∧ i + 4 ≤ (Ln : Int)) (hLn : Ln ≤ 2048) (hkc : kc + 1 ≤ 601024) (hks : ks + 6 ≤ 7293034) (hn : NXT l E T b Ln xs i (kc + 1) (ks + 6)) {I : Nat → Nat → Int} {J : Nat → Nat → Int64} {R : Nat → Nat → Option Nat} {x5 x6 x7 x8 : Option Value} (hq : QR T I R) : GoT l E Y_L_law kc ks 778 [some (.ref b), some (.ref (E.1 + 0)), some (.ref (E.1 + 110)), some (.ref (E.1 + 124)), some (.int (iz i)), x5, x6, x7, x8] [] (T, I, J, R, 125, 0) (TgW E b Ln xs) := by
  refine g_aload1 (Y := Y_L_law) (pc' := 779) dL_law_778 rfl ?_
  refine g_aload0 (Y := Y_L_law) (pc' := 780) dL_law_779 rfl ?_
  refine g_iload4 (Y := Y_L_law) (pc' := 782) dL_law_780 rfl ?_
  refine g_iconst (Y := Y_L_law) (pc' := 783) dL_law_782 rfl ?_
  refine g_iadd (Y := Y_L_law) (pc' := 784) dL_law_783 rfl ?_
  refine g_xld (pc' := 785) dL_law_784 rfl ⟨by omega, by omega⟩ hLn ?_
  refine g_aload0 (Y := Y_L_law) (pc' := 786) dL_law_785 rfl ?_
  refine g_iload4 (Y := Y_L_law) (pc' := 788) dL_law_786 rfl ?_
  refine g_iconst (Y := Y_L_law) (pc' := 789) dL_law_788 rfl ?_
  refine g_iadd (Y := Y_L_law) (pc' := 790) dL_law_789 rfl ?_
  refine g_xld (pc' := 791) dL_law_790 rfl ⟨by omega, by omega⟩ hLn ?_
  refine g_aload0 (Y := Y_L_law) (pc' := 792) dL_law_791 rfl ?_
  refine g_iload4 (Y := Y_L_law) (pc' := 794) dL_law_792 rfl ?_
  refine g_iconst (Y := Y_L_law) (pc' := 795) dL_law_794 rfl ?_
  refine g_iadd (Y := Y_L_law) (pc' := 796) dL_law_795 rfl ?_
  refine g_xld (pc' := 797) dL_law_796 rfl ⟨by omega, by omega⟩ hLn ?_
  refine g_aload3 (Y := Y_L_law) (pc' := 798) dL_law_797 rfl ?_
  refine g_callL (s_L_cell hl9 hq.1 hq.2.2.2.1 hq.2.2.1 (xs (i + 1).toNat).toInt (i32rg _) (xs (i + 2).toNat).toInt (i32rg _) (xs (i + 3).toNat).toInt (i32rg _)) (pc' := 801) dL_law_798 rfl cv_W_121 (q_fit_mk (Nat.le_of_ble_eq_true rfl) (Nat.le_of_ble_eq_true rfl) hkc hks) rfl rfl rfl (fun r w1 hr => ?_)
  have hm := ml_cell (J := J) hq (xs (i + 1).toNat).toInt (i32rg _) (xs (i + 2).toNat).toInt (i32rg _) (xs (i + 3).toNat).toInt (i32rg _)
  rcases hr with ⟨hx, rfl, rfl⟩ | ⟨hx, rfl, rfl⟩
  · exact lt_cell (kc := kc + 1) (ks := ks + 6) hi hLn hkc hks hn (by decide) (hm.1 hx)
  · exact lt_cell (kc := kc + 1) (ks := ks + 6) hi hLn hkc hks hn (by decide) (hm.2 hx)
set_option maxHeartbeats 2000000 in
set_option maxRecDepth 100000 in
theorem lt_block {l : Launch} {E : QE} {T : Nat → Nat × Nat} {b Ln : Nat} {xs : Nat → Int32} {i : Int} {kc ks : Nat} (hi : 0 ≤ i ∧ i + 4 ≤ (Ln : Int)) (hLn : Ln ≤ 2048) (hkc : kc ≤ 601024) (hks : ks ≤ 7293034) (hn : NXT l E T b Ln xs i kc ks) {c : Int} (hc : 0 ≤ c ∧ c ≤ 3) {I : Nat → Nat → Int} {J : Nat → Nat → Int64} {R : Nat → Nat → Option Nat} {x5 x6 x7 x8 : Option Value} (hr : RLx T c I (fun I9 => y_block I9 (xs (i + 1).toNat).toInt (xs (i + 2).toNat).toInt) J R) : GoT l E Y_L_law kc ks 875 [some (.ref b), some (.ref (E.1 + 0)), some (.ref (E.1 + 110)), some (.ref (E.1 + 124)), some (.int (iz i)), x5, x6, x7, x8] [.int (iz c)] (T, I, J, R, 125, 0) (TgW E b Ln xs) := by
  have hmv : MV I := hr.1
  have hmb : MdB T R 125 := hr.2.1
  have h110 : T 110 = (5, 0) := hmb.1
  have h124 : T 124 = (10, 1) := hr.2.2.2.2.2.2.1
  have e0 : (y_block I (xs (i + 1).toNat).toInt (xs (i + 2).toNat).toInt).2 110 0 = c := hr.2.2.1
  have e1 : c = 0 → J 124 0 = (iz (y_block I (xs (i + 1).toNat).toInt (xs (i + 2).toNat).toInt).1).toInt64 := hr.2.2.2.1
  have hq : QR T (y_block I (xs (i + 1).toNat).toInt (xs (i + 2).toNat).toInt).2 R := hr.2.2.2.2
  clear hr
  refine g_istore5 (Y := Y_L_law) (pc' := 877) dL_law_875 rfl (Nat.le_of_ble_eq_true rfl) rfl ?_
  refine g_aload2 (Y := Y_L_law) (pc' := 878) dL_law_877 rfl ?_
  refine g_aload0 (Y := Y_L_law) (pc' := 879) dL_law_878 rfl ?_
  refine g_iload4 (Y := Y_L_law) (pc' := 881) dL_law_879 rfl ?_
  refine g_iconst (Y := Y_L_law) (pc' := 882) dL_law_881 rfl ?_
  refine g_iadd (Y := Y_L_law) (pc' := 883) dL_law_882 rfl ?_
  refine g_xld (pc' := 884) dL_law_883 rfl ⟨by omega, by omega⟩ hLn ?_
  refine g_aload0 (Y := Y_L_law) (pc' := 885) dL_law_884 rfl ?_
  refine g_iload4 (Y := Y_L_law) (pc' := 887) dL_law_885 rfl ?_
  refine g_iconst (Y := Y_L_law) (pc' := 888) dL_law_887 rfl ?_
  refine g_iadd (Y := Y_L_law) (pc' := 889) dL_law_888 rfl ?_
  refine g_xld (pc' := 890) dL_law_889 rfl ⟨by omega, by omega⟩ hLn ?_
  refine g_callVv (Y := Y_L_law) (c := 5) (k := 110) (s_X5_block hmb hmv (xs (i + 1).toNat).toInt (i32rg _) (xs (i + 2).toNat).toInt (i32rg _)) (pc' := 893) dL_law_890 rfl cv_W_126 (q_fit_mk (Nat.le_of_ble_eq_true rfl) (Nat.le_of_ble_eq_true rfl) hkc hks) h110 (by show (110 : Nat) < 125; decide) ⟨by decide, _, rfl, rfl⟩ rfl rfl rfl rfl ?_
  generalize y_block I (xs (i + 1).toNat).toInt (xs (i + 2).toNat).toInt = r at e0 e1 hq ⊢
  refine g_istore6 (Y := Y_L_law) (pc' := 895) dL_law_893 rfl (Nat.le_of_ble_eq_true rfl) rfl ?_
  refine g_aload2 (Y := Y_L_law) (pc' := 896) dL_law_895 rfl ?_
  refine g_callVv (Y := Y_L_law) (c := 5) (k := 110) (s_X5_thrown hmb) (pc' := 899) dL_law_896 rfl cv_W_80 (q_fit_mk (Nat.le_of_ble_eq_true rfl) (Nat.le_of_ble_eq_true rfl) hkc hks) h110 (by show (110 : Nat) < 125; decide) ⟨by decide, _, rfl, rfl⟩ rfl rfl rfl rfl ?_
  refine g_iload5 (Y := Y_L_law) (pc' := 901) dL_law_899 rfl ?_
  refine g_icmp_eq (Y := Y_L_law) (t := 906) (pc' := 904) dL_law_901 (by decide) rfl ⟨by omega, by omega⟩ ⟨by omega, by omega⟩ (fun h9 => ?_) (fun h9 => absurd e0 h9)
  refine g_iload5 (Y := Y_L_law) (pc' := 908) dL_law_906 rfl ?_
  refine g_if_ne (Y := Y_L_law) (t := 923) (pc' := 911) dL_law_908 (by decide) rfl ⟨by omega, by omega⟩ (fun h8 => ?_) (fun h8 => ?_)
  · refine g_goto (Y := Y_L_law) (t := 1323) dL_law_923 (by decide) ?_
    exact hn _ _ _ _ _ _ _ _ _ hq (Nat.le_refl _) (Nat.le_refl _)
  · refine g_aload3 (Y := Y_L_law) (pc' := 912) dL_law_911 rfl ?_
    refine g_iconst (Y := Y_L_law) (pc' := 913) dL_law_912 rfl ?_
    refine g_lald (Y := Y_L_law) (pc' := 914) dL_law_913 rfl h124 (by decide) (by decide) ⟨by decide, by decide⟩ ?_
    refine g_iload6 (Y := Y_L_law) (pc' := 916) dL_law_914 rfl ?_
    refine g_i2l (Y := Y_L_law) (pc' := 917) dL_law_916 rfl ?_
    refine g_lcmp (Y := Y_L_law) (v := 0) (pc' := 918) dL_law_917 rfl (by rw [show J 124 (0 : Int).toNat = _ from e1 h8]; exact lcmp_eq _) ?_
    refine g_if_eq (Y := Y_L_law) (t := 923) (pc' := 921) dL_law_918 (by decide) rfl ⟨by decide, by decide⟩ (fun _ => ?_) (fun h7 => absurd rfl h7)
    refine g_goto (Y := Y_L_law) (t := 1323) dL_law_923 (by decide) ?_
    exact hn _ _ _ _ _ _ _ _ _ hq (Nat.le_refl _) (Nat.le_refl _)
set_option maxHeartbeats 2000000 in
set_option maxRecDepth 100000 in
theorem lc_13 {l : Launch} {E : QE} {T : Nat → Nat × Nat} {b Ln : Nat} {xs : Nat → Int32} {i : Int} {kc ks : Nat} (hl9 : l.stackTraces = false) (hi : 0 ≤ i ∧ i + 4 ≤ (Ln : Int)) (hLn : Ln ≤ 2048) (hkc : kc + 1 ≤ 601024) (hks : ks + 6 ≤ 7293034) (hn : NXT l E T b Ln xs i (kc + 1) (ks + 6)) {I : Nat → Nat → Int} {J : Nat → Nat → Int64} {R : Nat → Nat → Option Nat} {x5 x6 x7 x8 : Option Value} (hq : QR T I R) : GoT l E Y_L_law kc ks 858 [some (.ref b), some (.ref (E.1 + 0)), some (.ref (E.1 + 110)), some (.ref (E.1 + 124)), some (.int (iz i)), x5, x6, x7, x8] [] (T, I, J, R, 125, 0) (TgW E b Ln xs) := by
  refine g_aload1 (Y := Y_L_law) (pc' := 859) dL_law_858 rfl ?_
  refine g_aload0 (Y := Y_L_law) (pc' := 860) dL_law_859 rfl ?_
  refine g_iload4 (Y := Y_L_law) (pc' := 862) dL_law_860 rfl ?_
  refine g_iconst (Y := Y_L_law) (pc' := 863) dL_law_862 rfl ?_
  refine g_iadd (Y := Y_L_law) (pc' := 864) dL_law_863 rfl ?_
  refine g_xld (pc' := 865) dL_law_864 rfl ⟨by omega, by omega⟩ hLn ?_
  refine g_aload0 (Y := Y_L_law) (pc' := 866) dL_law_865 rfl ?_
  refine g_iload4 (Y := Y_L_law) (pc' := 868) dL_law_866 rfl ?_
  refine g_iconst (Y := Y_L_law) (pc' := 869) dL_law_868 rfl ?_
  refine g_iadd (Y := Y_L_law) (pc' := 870) dL_law_869 rfl ?_
  refine g_xld (pc' := 871) dL_law_870 rfl ⟨by omega, by omega⟩ hLn ?_
  refine g_aload3 (Y := Y_L_law) (pc' := 872) dL_law_871 rfl ?_
  refine g_callL (s_L_block hl9 hq.1 hq.2.2.2.1 hq.2.2.1 (xs (i + 1).toNat).toInt (i32rg _) (xs (i + 2).toNat).toInt (i32rg _)) (pc' := 875) dL_law_872 rfl cv_W_124 (q_fit_mk (Nat.le_of_ble_eq_true rfl) (Nat.le_of_ble_eq_true rfl) hkc hks) rfl rfl rfl (fun r w1 hr => ?_)
  have hm := ml_block (J := J) hq (xs (i + 1).toNat).toInt (i32rg _) (xs (i + 2).toNat).toInt (i32rg _)
  rcases hr with ⟨hx, rfl, rfl⟩ | ⟨hx, rfl, rfl⟩ | ⟨hx, rfl, rfl⟩
  · exact lt_block (kc := kc + 1) (ks := ks + 6) hi hLn hkc hks hn (by decide) (hm.1 hx)
  · exact lt_block (kc := kc + 1) (ks := ks + 6) hi hLn hkc hks hn (by decide) (hm.2.1 hx)
  · exact lt_block (kc := kc + 1) (ks := ks + 6) hi hLn hkc hks hn (by decide) (hm.2.2 hx)
set_option maxHeartbeats 2000000 in
set_option maxRecDepth 100000 in
theorem lt_line {l : Launch} {E : QE} {T : Nat → Nat × Nat} {b Ln : Nat} {xs : Nat → Int32} {i : Int} {kc ks : Nat} (hi : 0 ≤ i ∧ i + 4 ≤ (Ln : Int)) (hLn : Ln ≤ 2048) (hkc : kc ≤ 601024) (hks : ks ≤ 7293034) (hn : NXT l E T b Ln xs i kc ks) {c : Int} (hc : 0 ≤ c ∧ c ≤ 3) {I : Nat → Nat → Int} {J : Nat → Nat → Int64} {R : Nat → Nat → Option Nat} {x5 x6 x7 x8 : Option Value} (hr : RLx T c I (fun I9 => y_line I9 (xs (i + 1).toNat).toInt (xs (i + 2).toNat).toInt) J R) : GoT l E Y_L_law kc ks 943 [some (.ref b), some (.ref (E.1 + 0)), some (.ref (E.1 + 110)), some (.ref (E.1 + 124)), some (.int (iz i)), x5, x6, x7, x8] [.int (iz c)] (T, I, J, R, 125, 0) (TgW E b Ln xs) := by
  have hmv : MV I := hr.1
  have hmb : MdB T R 125 := hr.2.1
  have h110 : T 110 = (5, 0) := hmb.1
  have h124 : T 124 = (10, 1) := hr.2.2.2.2.2.2.1
  have e0 : (y_line I (xs (i + 1).toNat).toInt (xs (i + 2).toNat).toInt).2 110 0 = c := hr.2.2.1
  have e1 : c = 0 → J 124 0 = (iz (y_line I (xs (i + 1).toNat).toInt (xs (i + 2).toNat).toInt).1).toInt64 := hr.2.2.2.1
  have hq : QR T (y_line I (xs (i + 1).toNat).toInt (xs (i + 2).toNat).toInt).2 R := hr.2.2.2.2
  clear hr
  refine g_istore5 (Y := Y_L_law) (pc' := 945) dL_law_943 rfl (Nat.le_of_ble_eq_true rfl) rfl ?_
  refine g_aload2 (Y := Y_L_law) (pc' := 946) dL_law_945 rfl ?_
  refine g_aload0 (Y := Y_L_law) (pc' := 947) dL_law_946 rfl ?_
  refine g_iload4 (Y := Y_L_law) (pc' := 949) dL_law_947 rfl ?_
  refine g_iconst (Y := Y_L_law) (pc' := 950) dL_law_949 rfl ?_
  refine g_iadd (Y := Y_L_law) (pc' := 951) dL_law_950 rfl ?_
  refine g_xld (pc' := 952) dL_law_951 rfl ⟨by omega, by omega⟩ hLn ?_
  refine g_aload0 (Y := Y_L_law) (pc' := 953) dL_law_952 rfl ?_
  refine g_iload4 (Y := Y_L_law) (pc' := 955) dL_law_953 rfl ?_
  refine g_iconst (Y := Y_L_law) (pc' := 956) dL_law_955 rfl ?_
  refine g_iadd (Y := Y_L_law) (pc' := 957) dL_law_956 rfl ?_
  refine g_xld (pc' := 958) dL_law_957 rfl ⟨by omega, by omega⟩ hLn ?_
  refine g_callVv (Y := Y_L_law) (c := 5) (k := 110) (s_X5_line hmb hmv (xs (i + 1).toNat).toInt (i32rg _) (xs (i + 2).toNat).toInt (i32rg _)) (pc' := 961) dL_law_958 rfl cv_W_129 (q_fit_mk (Nat.le_of_ble_eq_true rfl) (Nat.le_of_ble_eq_true rfl) hkc hks) h110 (by show (110 : Nat) < 125; decide) ⟨by decide, _, rfl, rfl⟩ rfl rfl rfl rfl ?_
  generalize y_line I (xs (i + 1).toNat).toInt (xs (i + 2).toNat).toInt = r at e0 e1 hq ⊢
  refine g_istore6 (Y := Y_L_law) (pc' := 963) dL_law_961 rfl (Nat.le_of_ble_eq_true rfl) rfl ?_
  refine g_aload2 (Y := Y_L_law) (pc' := 964) dL_law_963 rfl ?_
  refine g_callVv (Y := Y_L_law) (c := 5) (k := 110) (s_X5_thrown hmb) (pc' := 967) dL_law_964 rfl cv_W_80 (q_fit_mk (Nat.le_of_ble_eq_true rfl) (Nat.le_of_ble_eq_true rfl) hkc hks) h110 (by show (110 : Nat) < 125; decide) ⟨by decide, _, rfl, rfl⟩ rfl rfl rfl rfl ?_
  refine g_iload5 (Y := Y_L_law) (pc' := 969) dL_law_967 rfl ?_
  refine g_icmp_eq (Y := Y_L_law) (t := 974) (pc' := 972) dL_law_969 (by decide) rfl ⟨by omega, by omega⟩ ⟨by omega, by omega⟩ (fun h9 => ?_) (fun h9 => absurd e0 h9)
  refine g_iload5 (Y := Y_L_law) (pc' := 976) dL_law_974 rfl ?_
  refine g_if_ne (Y := Y_L_law) (t := 991) (pc' := 979) dL_law_976 (by decide) rfl ⟨by omega, by omega⟩ (fun h8 => ?_) (fun h8 => ?_)
  · refine g_goto (Y := Y_L_law) (t := 1323) dL_law_991 (by decide) ?_
    exact hn _ _ _ _ _ _ _ _ _ hq (Nat.le_refl _) (Nat.le_refl _)
  · refine g_aload3 (Y := Y_L_law) (pc' := 980) dL_law_979 rfl ?_
    refine g_iconst (Y := Y_L_law) (pc' := 981) dL_law_980 rfl ?_
    refine g_lald (Y := Y_L_law) (pc' := 982) dL_law_981 rfl h124 (by decide) (by decide) ⟨by decide, by decide⟩ ?_
    refine g_iload6 (Y := Y_L_law) (pc' := 984) dL_law_982 rfl ?_
    refine g_i2l (Y := Y_L_law) (pc' := 985) dL_law_984 rfl ?_
    refine g_lcmp (Y := Y_L_law) (v := 0) (pc' := 986) dL_law_985 rfl (by rw [show J 124 (0 : Int).toNat = _ from e1 h8]; exact lcmp_eq _) ?_
    refine g_if_eq (Y := Y_L_law) (t := 991) (pc' := 989) dL_law_986 (by decide) rfl ⟨by decide, by decide⟩ (fun _ => ?_) (fun h7 => absurd rfl h7)
    refine g_goto (Y := Y_L_law) (t := 1323) dL_law_991 (by decide) ?_
    exact hn _ _ _ _ _ _ _ _ _ hq (Nat.le_refl _) (Nat.le_refl _)
set_option maxHeartbeats 2000000 in
set_option maxRecDepth 100000 in
theorem lc_14 {l : Launch} {E : QE} {T : Nat → Nat × Nat} {b Ln : Nat} {xs : Nat → Int32} {i : Int} {kc ks : Nat} (hl9 : l.stackTraces = false) (hi : 0 ≤ i ∧ i + 4 ≤ (Ln : Int)) (hLn : Ln ≤ 2048) (hkc : kc + 1 ≤ 601024) (hks : ks + 6 ≤ 7293034) (hn : NXT l E T b Ln xs i (kc + 1) (ks + 6)) {I : Nat → Nat → Int} {J : Nat → Nat → Int64} {R : Nat → Nat → Option Nat} {x5 x6 x7 x8 : Option Value} (hq : QR T I R) : GoT l E Y_L_law kc ks 926 [some (.ref b), some (.ref (E.1 + 0)), some (.ref (E.1 + 110)), some (.ref (E.1 + 124)), some (.int (iz i)), x5, x6, x7, x8] [] (T, I, J, R, 125, 0) (TgW E b Ln xs) := by
  refine g_aload1 (Y := Y_L_law) (pc' := 927) dL_law_926 rfl ?_
  refine g_aload0 (Y := Y_L_law) (pc' := 928) dL_law_927 rfl ?_
  refine g_iload4 (Y := Y_L_law) (pc' := 930) dL_law_928 rfl ?_
  refine g_iconst (Y := Y_L_law) (pc' := 931) dL_law_930 rfl ?_
  refine g_iadd (Y := Y_L_law) (pc' := 932) dL_law_931 rfl ?_
  refine g_xld (pc' := 933) dL_law_932 rfl ⟨by omega, by omega⟩ hLn ?_
  refine g_aload0 (Y := Y_L_law) (pc' := 934) dL_law_933 rfl ?_
  refine g_iload4 (Y := Y_L_law) (pc' := 936) dL_law_934 rfl ?_
  refine g_iconst (Y := Y_L_law) (pc' := 937) dL_law_936 rfl ?_
  refine g_iadd (Y := Y_L_law) (pc' := 938) dL_law_937 rfl ?_
  refine g_xld (pc' := 939) dL_law_938 rfl ⟨by omega, by omega⟩ hLn ?_
  refine g_aload3 (Y := Y_L_law) (pc' := 940) dL_law_939 rfl ?_
  refine g_callL (s_L_line hl9 hq.1 hq.2.2.2.1 hq.2.2.1 (xs (i + 1).toNat).toInt (i32rg _) (xs (i + 2).toNat).toInt (i32rg _)) (pc' := 943) dL_law_940 rfl cv_W_127 (q_fit_mk (Nat.le_of_ble_eq_true rfl) (Nat.le_of_ble_eq_true rfl) hkc hks) rfl rfl rfl (fun r w1 hr => ?_)
  have hm := ml_line (J := J) hq (xs (i + 1).toNat).toInt (i32rg _) (xs (i + 2).toNat).toInt (i32rg _)
  rcases hr with ⟨hx, rfl, rfl⟩ | ⟨hx, rfl, rfl⟩ | ⟨hx, rfl, rfl⟩
  · exact lt_line (kc := kc + 1) (ks := ks + 6) hi hLn hkc hks hn (by decide) (hm.1 hx)
  · exact lt_line (kc := kc + 1) (ks := ks + 6) hi hLn hkc hks hn (by decide) (hm.2.1 hx)
  · exact lt_line (kc := kc + 1) (ks := ks + 6) hi hLn hkc hks hn (by decide) (hm.2.2 hx)
end
