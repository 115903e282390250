section
/-! the law's cases -/
set_option maxHeartbeats 2000000 in
set_option maxRecDepth 100000 in
theorem lt_append {l : Launch} {E : QE} {T : Nat → Nat × Nat} {b Ln : Nat} {xs : Nat → Int32} {i : Int} {kc ks : Nat} (hi : 0 ≤ i ∧ i + 4 ≤ (Ln : Int)) (hLn : Ln ≤ 2048) (hkc : kc ≤ 601024) (hks : ks ≤ 7293034) (hn : NXT l E T b Ln xs i kc ks) {c : Int} (hc : 0 ≤ c ∧ c ≤ 3) {I : Nat → Nat → Int} {J : Nat → Nat → Int64} {R : Nat → Nat → Option Nat} {x5 x6 x7 x8 : Option Value} (hr : RLx T c I (fun I9 => y_append I9 (xs (i + 1).toNat).toInt) J R) : GoT l E Y_L_law kc ks 619 [some (.ref b), some (.ref (E.1 + 0)), some (.ref (E.1 + 110)), some (.ref (E.1 + 124)), some (.int (iz i)), x5, x6, x7, x8] [.int (iz c)] (T, I, J, R, 125, 0) (TgW E b Ln xs) := by
  have hmv : MV I := hr.1
  have hmb : MdB T R 125 := hr.2.1
  have h110 : T 110 = (5, 0) := hmb.1
  have h124 : T 124 = (10, 1) := hr.2.2.2.2.2.2.1
  have e0 : (y_append I (xs (i + 1).toNat).toInt).2 110 0 = c := hr.2.2.1
  have e1 : c = 0 → J 124 0 = (iz (y_append I (xs (i + 1).toNat).toInt).1).toInt64 := hr.2.2.2.1
  have hq : QR T (y_append I (xs (i + 1).toNat).toInt).2 R := hr.2.2.2.2
  clear hr
  refine g_istore5 (Y := Y_L_law) (pc' := 621) dL_law_619 rfl (Nat.le_of_ble_eq_true rfl) rfl ?_
  refine g_aload2 (Y := Y_L_law) (pc' := 622) dL_law_621 rfl ?_
  refine g_aload0 (Y := Y_L_law) (pc' := 623) dL_law_622 rfl ?_
  refine g_iload4 (Y := Y_L_law) (pc' := 625) dL_law_623 rfl ?_
  refine g_iconst (Y := Y_L_law) (pc' := 626) dL_law_625 rfl ?_
  refine g_iadd (Y := Y_L_law) (pc' := 627) dL_law_626 rfl ?_
  refine g_xld (pc' := 628) dL_law_627 rfl ⟨by omega, by omega⟩ hLn ?_
  refine g_callVv (Y := Y_L_law) (c := 5) (k := 110) (s_X5_append hmb hmv (xs (i + 1).toNat).toInt (i32rg _)) (pc' := 631) dL_law_628 rfl cv_W_105 (q_fit_mk (Nat.le_of_ble_eq_true rfl) (Nat.le_of_ble_eq_true rfl) hkc hks) h110 (by show (110 : Nat) < 125; decide) ⟨by decide, _, rfl, rfl⟩ rfl rfl rfl rfl ?_
  generalize y_append I (xs (i + 1).toNat).toInt = r at e0 e1 hq ⊢
  refine g_istore6 (Y := Y_L_law) (pc' := 633) dL_law_631 rfl (Nat.le_of_ble_eq_true rfl) rfl ?_
  refine g_aload2 (Y := Y_L_law) (pc' := 634) dL_law_633 rfl ?_
  refine g_callVv (Y := Y_L_law) (c := 5) (k := 110) (s_X5_thrown hmb) (pc' := 637) dL_law_634 rfl cv_W_80 (q_fit_mk (Nat.le_of_ble_eq_true rfl) (Nat.le_of_ble_eq_true rfl) hkc hks) h110 (by show (110 : Nat) < 125; decide) ⟨by decide, _, rfl, rfl⟩ rfl rfl rfl rfl ?_
  refine g_iload5 (Y := Y_L_law) (pc' := 639) dL_law_637 rfl ?_
  refine g_icmp_eq (Y := Y_L_law) (t := 644) (pc' := 642) dL_law_639 (by decide) rfl ⟨by omega, by omega⟩ ⟨by omega, by omega⟩ (fun h9 => ?_) (fun h9 => absurd e0 h9)
  refine g_iload5 (Y := Y_L_law) (pc' := 646) dL_law_644 rfl ?_
  refine g_if_ne (Y := Y_L_law) (t := 661) (pc' := 649) dL_law_646 (by decide) rfl ⟨by omega, by omega⟩ (fun h8 => ?_) (fun h8 => ?_)
  · refine g_goto (Y := Y_L_law) (t := 1323) dL_law_661 (by decide) ?_
    exact hn _ _ _ _ _ _ _ _ _ hq (Nat.le_refl _) (Nat.le_refl _)
  · refine g_aload3 (Y := Y_L_law) (pc' := 650) dL_law_649 rfl ?_
    refine g_iconst (Y := Y_L_law) (pc' := 651) dL_law_650 rfl ?_
    refine g_lald (Y := Y_L_law) (pc' := 652) dL_law_651 rfl h124 (by decide) (by decide) ⟨by decide, by decide⟩ ?_
    refine g_iload6 (Y := Y_L_law) (pc' := 654) dL_law_652 rfl ?_
    refine g_i2l (Y := Y_L_law) (pc' := 655) dL_law_654 rfl ?_
    refine g_lcmp (Y := Y_L_law) (v := 0) (pc' := 656) dL_law_655 rfl (by rw [show J 124 (0 : Int).toNat = _ from e1 h8]; exact lcmp_eq _) ?_
    refine g_if_eq (Y := Y_L_law) (t := 661) (pc' := 659) dL_law_656 (by decide) rfl ⟨by decide, by decide⟩ (fun _ => ?_) (fun h7 => absurd rfl h7)
    refine g_goto (Y := Y_L_law) (t := 1323) dL_law_661 (by decide) ?_
    exact hn _ _ _ _ _ _ _ _ _ hq (Nat.le_refl _) (Nat.le_refl _)
set_option maxHeartbeats 2000000 in
set_option maxRecDepth 100000 in
theorem lc_7 {l : Launch} {E : QE} {T : Nat → Nat × Nat} {b Ln : Nat} {xs : Nat → Int32} {i : Int} {kc ks : Nat} (hl9 : l.stackTraces = false) (hi : 0 ≤ i ∧ i + 4 ≤ (Ln : Int)) (hLn : Ln ≤ 2048) (hkc : kc + 1 ≤ 601024) (hks : ks + 6 ≤ 7293034) (hn : NXT l E T b Ln xs i (kc + 1) (ks + 6)) {I : Nat → Nat → Int} {J : Nat → Nat → Int64} {R : Nat → Nat → Option Nat} {x5 x6 x7 x8 : Option Value} (hq : QR T I R) : GoT l E Y_L_law kc ks 608 [some (.ref b), some (.ref (E.1 + 0)), some (.ref (E.1 + 110)), some (.ref (E.1 + 124)), some (.int (iz i)), x5, x6, x7, x8] [] (T, I, J, R, 125, 0) (TgW E b Ln xs) := by
  refine g_aload1 (Y := Y_L_law) (pc' := 609) dL_law_608 rfl ?_
  refine g_aload0 (Y := Y_L_law) (pc' := 610) dL_law_609 rfl ?_
  refine g_iload4 (Y := Y_L_law) (pc' := 612) dL_law_610 rfl ?_
  refine g_iconst (Y := Y_L_law) (pc' := 613) dL_law_612 rfl ?_
  refine g_iadd (Y := Y_L_law) (pc' := 614) dL_law_613 rfl ?_
  refine g_xld (pc' := 615) dL_law_614 rfl ⟨by omega, by omega⟩ hLn ?_
  refine g_aload3 (Y := Y_L_law) (pc' := 616) dL_law_615 rfl ?_
  refine g_callL (s_L_append hl9 hq.1 hq.2.2.2.1 hq.2.2.1 (xs (i + 1).toNat).toInt (i32rg _)) (pc' := 619) dL_law_616 rfl cv_W_103 (q_fit_mk (Nat.le_of_ble_eq_true rfl) (Nat.le_of_ble_eq_true rfl) hkc hks) rfl rfl rfl (fun r w1 hr => ?_)
  have hm := ml_append (J := J) hq (xs (i + 1).toNat).toInt (i32rg _)
  rcases hr with ⟨hx, rfl, rfl⟩ | ⟨hx, rfl, rfl⟩ | ⟨hx, rfl, rfl⟩
  · exact lt_append (kc := kc + 1) (ks := ks + 6) hi hLn hkc hks hn (by decide) (hm.1 hx)
  · exact lt_append (kc := kc + 1) (ks := ks + 6) hi hLn hkc hks hn (by decide) (hm.2.1 hx)
  · exact lt_append (kc := kc + 1) (ks := ks + 6) hi hLn hkc hks hn (by decide) (hm.2.2 hx)
set_option maxHeartbeats 2000000 in
set_option maxRecDepth 100000 in
theorem lt_read {l : Launch} {E : QE} {T : Nat → Nat × Nat} {b Ln : Nat} {xs : Nat → Int32} {i : Int} {kc ks : Nat} (hi : 0 ≤ i ∧ i + 4 ≤ (Ln : Int)) (hLn : Ln ≤ 2048) (hkc : kc ≤ 601024) (hks : ks ≤ 7293034) (hn : NXT l E T b Ln xs i kc ks) {c : Int} (hc : 0 ≤ c ∧ c ≤ 3) {I : Nat → Nat → Int} {J : Nat → Nat → Int64} {R : Nat → Nat → Option Nat} {x5 x6 x7 x8 : Option Value} (hr : RLx T c I y_read J R) : GoT l E Y_L_law kc ks 695 [some (.ref b), some (.ref (E.1 + 0)), some (.ref (E.1 + 110)), some (.ref (E.1 + 124)), some (.int (iz i)), x5, x6, x7, x8] [.int (iz c)] (T, I, J, R, 125, 0) (TgW E b Ln xs) := by
  have hmv : MV I := hr.1
  have hmb : MdB T R 125 := hr.2.1
  have h110 : T 110 = (5, 0) := hmb.1
  have h124 : T 124 = (10, 1) := hr.2.2.2.2.2.2.1
  have e0 : (y_read I).2 110 0 = c := hr.2.2.1
  have e1 : c = 0 → J 124 0 = (iz (y_read I).1).toInt64 := hr.2.2.2.1
  have hq : QR T (y_read I).2 R := hr.2.2.2.2
  clear hr
  refine g_istore5 (Y := Y_L_law) (pc' := 697) dL_law_695 rfl (Nat.le_of_ble_eq_true rfl) rfl ?_
  refine g_aload2 (Y := Y_L_law) (pc' := 698) dL_law_697 rfl ?_
  refine g_callVv (Y := Y_L_law) (c := 5) (k := 110) (s_X5_read hmb hmv) (pc' := 701) dL_law_698 rfl cv_W_117 (q_fit_mk (Nat.le_of_ble_eq_true rfl) (Nat.le_of_ble_eq_true rfl) hkc hks) h110 (by show (110 : Nat) < 125; decide) ⟨by decide, _, rfl, rfl⟩ rfl rfl rfl rfl ?_
  generalize y_read I = r at e0 e1 hq ⊢
  refine g_istore6 (Y := Y_L_law) (pc' := 703) dL_law_701 rfl (Nat.le_of_ble_eq_true rfl) rfl ?_
  refine g_aload2 (Y := Y_L_law) (pc' := 704) dL_law_703 rfl ?_
  refine g_callVv (Y := Y_L_law) (c := 5) (k := 110) (s_X5_thrown hmb) (pc' := 707) dL_law_704 rfl cv_W_80 (q_fit_mk (Nat.le_of_ble_eq_true rfl) (Nat.le_of_ble_eq_true rfl) hkc hks) h110 (by show (110 : Nat) < 125; decide) ⟨by decide, _, rfl, rfl⟩ rfl rfl rfl rfl ?_
  refine g_iload5 (Y := Y_L_law) (pc' := 709) dL_law_707 rfl ?_
  refine g_icmp_eq (Y := Y_L_law) (t := 714) (pc' := 712) dL_law_709 (by decide) rfl ⟨by omega, by omega⟩ ⟨by omega, by omega⟩ (fun h9 => ?_) (fun h9 => absurd e0 h9)
  refine g_iload5 (Y := Y_L_law) (pc' := 716) dL_law_714 rfl ?_
  refine g_if_ne (Y := Y_L_law) (t := 731) (pc' := 719) dL_law_716 (by decide) rfl ⟨by omega, by omega⟩ (fun h8 => ?_) (fun h8 => ?_)
  · refine g_goto (Y := Y_L_law) (t := 1323) dL_law_731 (by decide) ?_
    exact hn _ _ _ _ _ _ _ _ _ hq (Nat.le_refl _) (Nat.le_refl _)
  · refine g_aload3 (Y := Y_L_law) (pc' := 720) dL_law_719 rfl ?_
    refine g_iconst (Y := Y_L_law) (pc' := 721) dL_law_720 rfl ?_
    refine g_lald (Y := Y_L_law) (pc' := 722) dL_law_721 rfl h124 (by decide) (by decide) ⟨by decide, by decide⟩ ?_
    refine g_iload6 (Y := Y_L_law) (pc' := 724) dL_law_722 rfl ?_
    refine g_i2l (Y := Y_L_law) (pc' := 725) dL_law_724 rfl ?_
    refine g_lcmp (Y := Y_L_law) (v := 0) (pc' := 726) dL_law_725 rfl (by rw [show J 124 (0 : Int).toNat = _ from e1 h8]; exact lcmp_eq _) ?_
    refine g_if_eq (Y := Y_L_law) (t := 731) (pc' := 729) dL_law_726 (by decide) rfl ⟨by decide, by decide⟩ (fun _ => ?_) (fun h7 => absurd rfl h7)
    refine g_goto (Y := Y_L_law) (t := 1323) dL_law_731 (by decide) ?_
    exact hn _ _ _ _ _ _ _ _ _ hq (Nat.le_refl _) (Nat.le_refl _)
set_option maxHeartbeats 2000000 in
set_option maxRecDepth 100000 in
theorem lc_10 {l : Launch} {E : QE} {T : Nat → Nat × Nat} {b Ln : Nat} {xs : Nat → Int32} {i : Int} {kc ks : Nat} (hl9 : l.stackTraces = false) (hi : 0 ≤ i ∧ i + 4 ≤ (Ln : Int)) (hLn : Ln ≤ 2048) (hkc : kc + 1 ≤ 601024) (hks : ks + 6 ≤ 7293034) (hn : NXT l E T b Ln xs i (kc + 1) (ks + 6)) {I : Nat → Nat → Int} {J : Nat → Nat → Int64} {R : Nat → Nat → Option Nat} {x5 x6 x7 x8 : Option Value} (hq : QR T I R) : GoT l E Y_L_law kc ks 690 [some (.ref b), some (.ref (E.1 + 0)), some (.ref (E.1 + 110)), some (.ref (E.1 + 124)), some (.int (iz i)), x5, x6, x7, x8] [] (T, I, J, R, 125, 0) (TgW E b Ln xs) := by
  refine g_aload1 (Y := Y_L_law) (pc' := 691) dL_law_690 rfl ?_
  refine g_aload3 (Y := Y_L_law) (pc' := 692) dL_law_691 rfl ?_
  refine g_callL (s_L_read hl9 hq.1 hq.2.2.2.1 hq.2.2.1) (pc' := 695) dL_law_692 rfl cv_W_114 (q_fit_mk (Nat.le_of_ble_eq_true rfl) (Nat.le_of_ble_eq_true rfl) hkc hks) rfl rfl rfl (fun r w1 hr => ?_)
  have hm := ml_read (J := J) hq
  rcases hr with ⟨hx, rfl, rfl⟩ | ⟨hx, rfl, rfl⟩
  · exact lt_read (kc := kc + 1) (ks := ks + 6) hi hLn hkc hks hn (by decide) (hm.1 hx)
  · exact lt_read (kc := kc + 1) (ks := ks + 6) hi hLn hkc hks hn (by decide) (hm.2 hx)
set_option maxHeartbeats 2000000 in
set_option maxRecDepth 100000 in
theorem lt_undo {l : Launch} {E : QE} {T : Nat → Nat × Nat} {b Ln : Nat} {xs : Nat → Int32} {i : Int} {kc ks : Nat} (hi : 0 ≤ i ∧ i + 4 ≤ (Ln : Int)) (hLn : Ln ≤ 2048) (hkc : kc ≤ 601024) (hks : ks ≤ 7293034) (hn : NXT l E T b Ln xs i kc ks) {c : Int} (hc : 0 ≤ c ∧ c ≤ 3) {I : Nat → Nat → Int} {J : Nat → Nat → Int64} {R : Nat → Nat → Option Nat} {x5 x6 x7 x8 : Option Value} (hr : RLx T c I y_undo J R) : GoT l E Y_L_law kc ks 739 [some (.ref b), some (.ref (E.1 + 0)), some (.ref (E.1 + 110)), some (.ref (E.1 + 124)), some (.int (iz i)), x5, x6, x7, x8] [.int (iz c)] (T, I, J, R, 125, 0) (TgW E b Ln xs) := by
  have hmv : MV I := hr.1
  have hmb : MdB T R 125 := hr.2.1
  have h110 : T 110 = (5, 0) := hmb.1
  have h124 : T 124 = (10, 1) := hr.2.2.2.2.2.2.1
  have e0 : (y_undo I).2 110 0 = c := hr.2.2.1
  have e1 : c = 0 → J 124 0 = (iz (y_undo I).1).toInt64 := hr.2.2.2.1
  have hq : QR T (y_undo I).2 R := hr.2.2.2.2
  clear hr
  refine g_istore5 (Y := Y_L_law) (pc' := 741) dL_law_739 rfl (Nat.le_of_ble_eq_true rfl) rfl ?_
  refine g_aload2 (Y := Y_L_law) (pc' := 742) dL_law_741 rfl ?_
  refine g_callVv (Y := Y_L_law) (c := 5) (k := 110) (s_X5_undo hmb hmv) (pc' := 745) dL_law_742 rfl cv_W_120 (q_fit_mk (Nat.le_of_ble_eq_true rfl) (Nat.le_of_ble_eq_true rfl) hkc hks) h110 (by show (110 : Nat) < 125; decide) ⟨by decide, _, rfl, rfl⟩ rfl rfl rfl rfl ?_
  generalize y_undo I = r at e0 e1 hq ⊢
  refine g_istore6 (Y := Y_L_law) (pc' := 747) dL_law_745 rfl (Nat.le_of_ble_eq_true rfl) rfl ?_
  refine g_aload2 (Y := Y_L_law) (pc' := 748) dL_law_747 rfl ?_
  refine g_callVv (Y := Y_L_law) (c := 5) (k := 110) (s_X5_thrown hmb) (pc' := 751) dL_law_748 rfl cv_W_80 (q_fit_mk (Nat.le_of_ble_eq_true rfl) (Nat.le_of_ble_eq_true rfl) hkc hks) h110 (by show (110 : Nat) < 125; decide) ⟨by decide, _, rfl, rfl⟩ rfl rfl rfl rfl ?_
  refine g_iload5 (Y := Y_L_law) (pc' := 753) dL_law_751 rfl ?_
  refine g_icmp_eq (Y := Y_L_law) (t := 758) (pc' := 756) dL_law_753 (by decide) rfl ⟨by omega, by omega⟩ ⟨by omega, by omega⟩ (fun h9 => ?_) (fun h9 => absurd e0 h9)
  refine g_iload5 (Y := Y_L_law) (pc' := 760) dL_law_758 rfl ?_
  refine g_if_ne (Y := Y_L_law) (t := 775) (pc' := 763) dL_law_760 (by decide) rfl ⟨by omega, by omega⟩ (fun h8 => ?_) (fun h8 => ?_)
  · refine g_goto (Y := Y_L_law) (t := 1323) dL_law_775 (by decide) ?_
    exact hn _ _ _ _ _ _ _ _ _ hq (Nat.le_refl _) (Nat.le_refl _)
  · refine g_aload3 (Y := Y_L_law) (pc' := 764) dL_law_763 rfl ?_
    refine g_iconst (Y := Y_L_law) (pc' := 765) dL_law_764 rfl ?_
    refine g_lald (Y := Y_L_law) (pc' := 766) dL_law_765 rfl h124 (by decide) (by decide) ⟨by decide, by decide⟩ ?_
    refine g_iload6 (Y := Y_L_law) (pc' := 768) dL_law_766 rfl ?_
    refine g_i2l (Y := Y_L_law) (pc' := 769) dL_law_768 rfl ?_
    refine g_lcmp (Y := Y_L_law) (v := 0) (pc' := 770) dL_law_769 rfl (by rw [show J 124 (0 : Int).toNat = _ from e1 h8]; exact lcmp_eq _) ?_
    refine g_if_eq (Y := Y_L_law) (t := 775) (pc' := 773) dL_law_770 (by decide) rfl ⟨by decide, by decide⟩ (fun _ => ?_) (fun h7 => absurd rfl h7)
    refine g_goto (Y := Y_L_law) (t := 1323) dL_law_775 (by decide) ?_
    exact hn _ _ _ _ _ _ _ _ _ hq (Nat.le_refl _) (Nat.le_refl _)
set_option maxHeartbeats 2000000 in
set_option maxRecDepth 100000 in
theorem lc_11 {l : Launch} {E : QE} {T : Nat → Nat × Nat} {b Ln : Nat} {xs : Nat → Int32} {i : Int} {kc ks : Nat} (hl9 : l.stackTraces = false) (hi : 0 ≤ i ∧ i + 4 ≤ (Ln : Int)) (hLn : Ln ≤ 2048) (hkc : kc + 1 ≤ 601024) (hks : ks + 6 ≤ 7293034) (hn : NXT l E T b Ln xs i (kc + 1) (ks + 6)) {I : Nat → Nat → Int} {J : Nat → Nat → Int64} {R : Nat → Nat → Option Nat} {x5 x6 x7 x8 : Option Value} (hq : QR T I R) : GoT l E Y_L_law kc ks 734 [some (.ref b), some (.ref (E.1 + 0)), some (.ref (E.1 + 110)), some (.ref (E.1 + 124)), some (.int (iz i)), x5, x6, x7, x8] [] (T, I, J, R, 125, 0) (TgW E b Ln xs) := by
  refine g_aload1 (Y := Y_L_law) (pc' := 735) dL_law_734 rfl ?_
  refine g_aload3 (Y := Y_L_law) (pc' := 736) dL_law_735 rfl ?_
  refine g_callL (s_L_undo hl9 hq.1 hq.2.2.2.1 hq.2.2.1) (pc' := 739) dL_law_736 rfl cv_W_118 (q_fit_mk (Nat.le_of_ble_eq_true rfl) (Nat.le_of_ble_eq_true rfl) hkc hks) rfl rfl rfl (fun r w1 hr => ?_)
  have hm := ml_undo (J := J) hq
  rcases hr with ⟨hx, rfl, rfl⟩ | ⟨hx, rfl, rfl⟩
  · exact lt_undo (kc := kc + 1) (ks := ks + 6) hi hLn hkc hks hn (by decide) (hm.1 hx)
  · exact lt_undo (kc := kc + 1) (ks := ks + 6) hi hLn hkc hks hn (by decide) (hm.2 hx)
end
