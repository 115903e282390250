/-! looks answer alike -/
theorem tcI_0 {M : Nat → Nat → Int} {w : Nat} : m_tcI M w 110 0 = M 110 0 := by
  match w with
  | 0 => exact lay_110 (by decide)
  | 1 => rfl
  | 2 => exact lay_110 (by decide)
  | w + 3 => rfl
theorem tbI_0 {M : Nat → Nat → Int} {w : Nat} : m_tbI M w 110 0 = M 110 0 := by
  match w with
  | 0 => rfl
  | 1 => rfl
  | 2 => rfl
  | w + 3 => exact lay_110 (by decide)
theorem thr_e {I : Nat → Nat → Int} {t : Int} {j : Nat} : m_thr I t 111 j = I 111 j := by rw [thr_111 (by decide)]
set_option maxRecDepth 100000 in
theorem cell_eq {I M : Nat → Nat → Int} (hR : MRel I 7 (m_lay M)) (hS : SRel I 1 (M 111)) (hz : ZV M) {c : Nat} (hc : c < 576) (w : Nat) : f_cell I c w = m_tc M c w := by
  match w with
  | 0 =>
    show (if ¬ f_isSpot I 7 c = 0 then 2 else if ¬ f_isAv I 7 c = 0 then 1 else 0) = (if m_lay M 122 c = 0 then (if 0 < m_lay M 121 c then 1 else 0) else 2)
    rw [avN_eq hR hc]
    unfold f_isSpot m_isAv
    rw [Int.toNat_natCast, hR.2.2.2.1 c hc]
    by_cases h1 : m_lay M 122 c = 0
    · rw [if_neg (c := (0 ≤ (c : Int) ∧ (c : Int) < 576) ∧ ¬ m_lay M 122 c = 0) (fun q => q.2 h1), if_neg (fun q => q rfl), if_pos h1]
      by_cases h2 : 0 < m_lay M 121 c
      · rw [if_pos (c := 0 < m_lay M 121 c ∧ m_lay M 122 c = 0) ⟨h2, h1⟩, if_pos (c := 0 < m_lay M 121 c) h2, if_pos (by decide)]
      · rw [if_neg (c := 0 < m_lay M 121 c ∧ m_lay M 122 c = 0) (fun q => h2 q.1), if_neg (fun q => q rfl), if_neg h2]
    · rw [if_pos (c := (0 ≤ (c : Int) ∧ (c : Int) < 576) ∧ ¬ m_lay M 122 c = 0) ⟨by omega, h1⟩, if_pos (by decide), if_neg h1]
  | 1 =>
    show f_hol I 1 c = M 111 (978 + c)
    unfold f_hol
    rw [if_pos (by omega), Int.toNat_natCast]
    exact hS.2.2.2.2.2.2.2 c hc
  | 2 =>
    show f_hits I 7 c = m_lay M 121 c
    unfold f_hits
    rw [if_pos (by omega), Int.toNat_natCast]
    exact hR.2.2.1 c hc
  | w + 3 =>
    show f_spotAt I 1 c = m_spotAt M c
    exact spotAt_eq hS hz _
theorem block_eq {I M : Nat → Nat → Int} (hR : MRel I 7 (m_lay M)) (hS : SRel I 1 (M 111)) (hz : ZV M) {b : Nat} (hb : b < 480) (w : Nat) : f_block I b w = m_tb M b w := by
  have hp := (ZV_P hz).1 b hb
  match w with
  | 0 => exact hS.2.2.2.2.2.1 b hb
  | 1 => exact hS.2.2.2.2.2.2.1 b hb
  | 2 =>
    show (if 480 ≤ I (1 + 4) b ∧ I (1 + 4) b < 576 then 1 else 0) = (if 480 ≤ M 111 (498 + b) then 1 else 0)
    rw [hS.2.2.2.2.2.2.1 b hb]
    by_cases h : 480 ≤ M 111 (498 + b)
    · rw [if_pos h, if_pos ⟨h, hp.2⟩]
    · rw [if_neg h, if_neg (fun q => h q.1)]
  | w + 3 =>
    show f_cfw I 1 7 b = m_goal (m_lay M) b
    have e : m_lay M 111 = M 111 := lay_ne (by decide)
    exact cfw_eq (by rw [e]; exact hS) hR (ZV_lay hz) hb
theorem num_eq {I M : Nat → Nat → Int} (hR : MRel I 7 (m_lay M)) (hS : SRel I 1 (M 111)) (hz : ZV M) (hW : WF (M 111)) (h03 : I 0 3 = M 110 3) (w : Nat) : f_num I w = m_ctd (m_ctI M w) w := by
  have e : m_lay M 111 = M 111 := lay_ne (by decide)
  have hS' : SRel I 1 (m_lay M 111) := by rw [e]; exact hS
  have hW' : WF (m_lay M 111) := by rw [e]; exact hW
  match w with
  | 0 => rw [ctI_f (by decide)]; exact hS.1
  | 1 => rw [ctI_t (by decide)]; exact hR.1
  | 2 => rw [ctI_t (by decide)]; exact hR.2.1
  | 3 => rw [ctI_t (by decide)]; exact bwv_eq hS' hW'
  | 4 => rw [ctI_t (by decide)]; exact bis_eq hS' (ZV_lay hz) hW'
  | 5 => rw [ctI_t (by decide)]; exact bad_eq hS' hR (ZV_lay hz) hW'
  | 6 => rw [ctI_t (by decide)]; exact fsp_eq hS' hR
  | 7 => rw [ctI_f (by decide)]; exact hS.2.1
  | 8 => rw [ctI_f (by decide)]; exact hS.2.2.1
  | w + 9 => rw [ctI_f (by omega)]; exact h03
theorem ctI_0 {M : Nat → Nat → Int} {w : Int} : m_ctI M w 110 0 = M 110 0 := by
  unfold m_ctI
  split
  · exact lay_110 (by decide)
  · rfl
theorem fd_eq {I M : Nat → Nat → Int} {v : Int} (hS : SRel I 1 (M 111)) : ∀ (m b : Nat), b + m ≤ 480 → fdL I v m b = m_bwL M v m b
  | 0, _, _ => rfl
  | m + 1, b, hb => by
    unfold fdL m_bwL
    rw [hS.2.2.2.2.2.1 b (by omega), fd_eq hS m (b + 1) (by omega)]
theorem ws_eq {I M : Nat → Nat → Int} (hR : MRel I 7 M) : ∀ (m c : Nat) (b : Int), c + m ≤ 576 → (b = -1 ∨ 0 ≤ b ∧ b < 576) → wsL I m c b = m_wcL M m c b
  | 0, _, _, _, _ => rfl
  | m + 1, c, b, hc, hb => by
    unfold wsL m_wcL
    have e1 : f_hits I 7 (c : Int) = M 121 c := by
      unfold f_hits
      rw [if_pos (by omega), Int.toNat_natCast]
      exact hR.2.2.1 c (by omega)
    rw [avN_eq hR (by omega), e1]
    rcases hb with hb | hb
    · subst hb
      have i1 : (¬ m_isAv M c = 0 ∧ ((-1 : Int) = -1 ∨ f_hits I 7 (-1) < M 121 c)) ↔ (¬ m_isAv M c = 0 ∧ ((-1 : Int) = -1 ∨ M 121 (-1 : Int).toNat < M 121 c)) := by simp
      by_cases h : ¬ m_isAv M c = 0 ∧ ((-1 : Int) = -1 ∨ M 121 (-1 : Int).toNat < M 121 c)
      · rw [if_pos h, if_pos (i1.mpr h)]
        exact ws_eq hR m (c + 1) c (by omega) (by omega)
      · rw [if_neg h, if_neg (fun q => h (i1.mp q))]
        exact ws_eq hR m (c + 1) (-1) (by omega) (Or.inl rfl)
    · have e2 : f_hits I 7 b = M 121 b.toNat := by
        unfold f_hits
        rw [if_pos hb]
        exact hR.2.2.1 b.toNat (by omega)
      rw [e2]
      split
      · exact ws_eq hR m (c + 1) c (by omega) (by omega)
      · exact ws_eq hR m (c + 1) b (by omega) (Or.inr hb)
theorem ws_rg {I : Nat → Nat → Int} : ∀ (m c : Nat) (b : Int), c + m ≤ 576 → (-1 ≤ b ∧ b < 576) → -1 ≤ wsL I m c b ∧ wsL I m c b < 576
  | 0, _, _, _, h => h
  | m + 1, c, b, hc, hb => by
    unfold wsL
    split
    · exact ws_rg m (c + 1) c (by omega) (by omega)
    · exact ws_rg m (c + 1) b (by omega) hb
theorem QR_thr {T : Nat → Nat × Nat} {I : Nat → Nat → Int} {R : Nat → Nat → Option Nat} (h : QR T I R) (t : Int) : MRel I 7 (m_lay (m_thr I t)) ∧ SRel I 1 (m_thr I t 111) ∧ WF (m_thr I t 111) ∧ ZV (m_thr I t) ∧ HB (m_thr I t) := by
  have hb : HB (m_thr I t) := thr_HB h.2.2.2.2.1.2.1
  obtain ⟨a1, a2, a3, a4⟩ := QR_map h hb (fun j _ => thr_e)
  have e : m_thr I t 111 = I 111 := thr_111 (by decide)
  exact ⟨a1, by rw [e]; exact h.2.2.2.2.2.1, by rw [e]; exact h.2.2.2.2.2.2.1, thr_ZV h.2.2.2.2.1.1, hb⟩
theorem ml_cell {T : Nat → Nat × Nat} {I : Nat → Nat → Int} {J : Nat → Nat → Int64} {R : Nat → Nat → Option Nat} (h : QR T I R) (p : Int) (h_p : -2147483648 ≤ p ∧ p < 2147483648) (q : Int) (h_q : -2147483648 ≤ q ∧ q < 2147483648) (w : Int) (h_w : -2147483648 ≤ w ∧ w < 2147483648) : (x_cell p q w = none → RLx T 0 (I) (fun I9 => y_cell I9 p q w) (u2 (J) 124 0 (iz (f_cell I (p * 24 + q) w.toNat)).toInt64) (R)) ∧ (x_cell p q w = some xIAE → RLx T 1 (I) (fun I9 => y_cell I9 p q w) J R) := by
  obtain ⟨a1, a2, a3, a4, a5⟩ := QR_thr h 0
  unfold x_cell
  by_cases hc : ((0 ≤ p ∧ p < 24) ∧ 0 ≤ q ∧ q < 24) ∧ 0 ≤ w ∧ w < 4
  · rw [if_pos hc]
    refine ⟨fun _ => ?_, fun q => (by first | exact absurd q x12 | exact absurd q x21 | exact absurd q x13 | exact absurd q x31 | exact absurd q x23 | exact absurd q x32 | cases q)⟩
    have ey : y_cell I p q w = (m_tc (m_thr I 0) (24 * p + q).toNat w.toNat, m_tcI (m_thr I 0) w.toNat) := by
      unfold y_cell
      exact if_pos (by omega)
    refine RLx_look (y := fun I9 => y_cell I9 p q w) h ?_ ?_ ?_
    · try dsimp only
      rw [ey]
      try dsimp only
      rw [← cell_eq a1 a2 a4 (by omega), show (((24 * p + q).toNat : Nat) : Int) = p * 24 + q by omega]
    · try dsimp only
      rw [ey]
      try dsimp only
      rw [tcI_0, thr_0]
    · try dsimp only
      rw [ey]
      exact MK_thr.tr MK_tcI
  · rw [if_neg hc]
    refine ⟨fun q => (by first | exact absurd q x12 | exact absurd q x21 | exact absurd q x13 | exact absurd q x31 | exact absurd q x23 | exact absurd q x32 | cases q), fun _ => ?_⟩
    refine RLx_thr h (by decide) ?_
    unfold y_cell
    exact if_neg (by omega)
theorem ml_block {T : Nat → Nat × Nat} {I : Nat → Nat → Int} {J : Nat → Nat → Int64} {R : Nat → Nat → Option Nat} (h : QR T I R) (p : Int) (h_p : -2147483648 ≤ p ∧ p < 2147483648) (w : Int) (h_w : -2147483648 ≤ w ∧ w < 2147483648) : (x_block p w = none → RLx T 0 (I) (fun I9 => y_block I9 p w) (u2 (J) 124 0 (iz (f_block I p.toNat w.toNat)).toInt64) (R)) ∧ (x_block p w = some xIOB → RLx T 1 (I) (fun I9 => y_block I9 p w) J R) ∧ (x_block p w = some xIAE → RLx T 2 (I) (fun I9 => y_block I9 p w) J R) := by
  obtain ⟨a1, a2, a3, a4, a5⟩ := QR_thr h 0
  unfold x_block
  by_cases hp : 0 ≤ p ∧ p < 480
  · rw [if_pos hp]
    by_cases hw : 0 ≤ w ∧ w < 4
    · rw [if_pos hw]
      refine ⟨fun _ => ?_, fun q => (by first | exact absurd q x12 | exact absurd q x21 | exact absurd q x13 | exact absurd q x31 | exact absurd q x23 | exact absurd q x32 | cases q), fun q => (by first | exact absurd q x12 | exact absurd q x21 | exact absurd q x13 | exact absurd q x31 | exact absurd q x23 | exact absurd q x32 | cases q)⟩
      have ey : y_block I p w = (m_tb (m_thr I 0) p.toNat w.toNat, m_tbI (m_thr I 0) w.toNat) := by
        unfold y_block
        rw [if_pos (by omega), if_pos (by omega)]
      refine RLx_look (y := fun I9 => y_block I9 p w) h ?_ ?_ ?_
      · try dsimp only
        rw [ey]
        exact block_eq a1 a2 a4 (by omega) _
      · try dsimp only
        rw [ey]
        try dsimp only
        rw [tbI_0, thr_0]
      · try dsimp only
        rw [ey]
        exact MK_thr.tr MK_tbI
    · rw [if_neg hw]
      refine ⟨fun q => (by first | exact absurd q x12 | exact absurd q x21 | exact absurd q x13 | exact absurd q x31 | exact absurd q x23 | exact absurd q x32 | cases q), fun q => (by first | exact absurd q x12 | exact absurd q x21 | exact absurd q x13 | exact absurd q x31 | exact absurd q x23 | exact absurd q x32 | cases q), fun _ => ?_⟩
      refine RLx_thr h (by decide) ?_
      unfold y_block
      rw [if_pos (by omega), if_neg (by omega)]
  · rw [if_neg hp]
    refine ⟨fun q => (by first | exact absurd q x12 | exact absurd q x21 | exact absurd q x13 | exact absurd q x31 | exact absurd q x23 | exact absurd q x32 | cases q), fun _ => ?_, fun q => (by first | exact absurd q x12 | exact absurd q x21 | exact absurd q x13 | exact absurd q x31 | exact absurd q x23 | exact absurd q x32 | cases q)⟩
    refine RLx_thr h (by decide) ?_
    unfold y_block
    rw [if_neg (by omega)]
theorem ml_count {T : Nat → Nat × Nat} {I : Nat → Nat → Int} {J : Nat → Nat → Int64} {R : Nat → Nat → Option Nat} (h : QR T I R) (w : Int) (h_w : -2147483648 ≤ w ∧ w < 2147483648) : (x_count w = none → RLx T 0 (I) (fun I9 => y_count I9 w) (u2 (J) 124 0 (iz (f_num I w.toNat)).toInt64) (R)) ∧ (x_count w = some xIAE → RLx T 1 (I) (fun I9 => y_count I9 w) J R) := by
  obtain ⟨a1, a2, a3, a4, a5⟩ := QR_thr h 0
  unfold x_count
  by_cases hw : 0 ≤ w ∧ w < 10
  · rw [if_pos hw]
    refine ⟨fun _ => ?_, fun q => (by first | exact absurd q x12 | exact absurd q x21 | exact absurd q x13 | exact absurd q x31 | exact absurd q x23 | exact absurd q x32 | cases q)⟩
    have ey : y_count I w = (m_ctd (m_ctI (m_thr I 0) w) w.toNat, m_ctI (m_thr I 0) w) := by
      unfold y_count
      rw [if_pos (by omega)]
    refine RLx_look (y := fun I9 => y_count I9 w) h ?_ ?_ ?_
    · try dsimp only
      rw [ey]
      have e := num_eq a1 a2 a4 a3 (by rw [thr_110 (by decide)]; exact h.2.2.2.2.2.2.2.2.1) w.toNat
      rw [show ((w.toNat : Nat) : Int) = w by omega] at e
      exact e
    · try dsimp only
      rw [ey]
      try dsimp only
      rw [ctI_0, thr_0]
    · try dsimp only
      rw [ey]
      exact MK_thr.tr MK_ctI
  · rw [if_neg hw]
    refine ⟨fun q => (by first | exact absurd q x12 | exact absurd q x21 | exact absurd q x13 | exact absurd q x31 | exact absurd q x23 | exact absurd q x32 | cases q), fun _ => ?_⟩
    refine RLx_thr h (by decide) ?_
    unfold y_count
    exact if_neg (by omega)
theorem ml_setting {T : Nat → Nat × Nat} {I : Nat → Nat → Int} {J : Nat → Nat → Int64} {R : Nat → Nat → Option Nat} (h : QR T I R) (p : Int) (h_p : -2147483648 ≤ p ∧ p < 2147483648) : (x_setting p = none → RLx T 0 (I) (fun I9 => y_setting I9 p) (u2 (J) 124 0 (iz (I (1 + 2) p.toNat)).toInt64) (R)) ∧ (x_setting p = some xIOB → RLx T 1 (I) (fun I9 => y_setting I9 p) J R) := by
  unfold x_setting
  by_cases hp : 0 ≤ p ∧ p < 3
  · rw [if_pos hp]
    refine ⟨fun _ => ?_, fun q => (by first | exact absurd q x12 | exact absurd q x21 | exact absurd q x13 | exact absurd q x31 | exact absurd q x23 | exact absurd q x32 | cases q)⟩
    have ey : y_setting I p = (I 111 p.toNat, m_thr I 0) := by
      unfold y_setting
      rw [if_pos (by omega)]
    refine RLx_look (y := fun I9 => y_setting I9 p) h ?_ ?_ ?_
    · try dsimp only
      rw [ey]
      exact h.2.2.2.2.2.1.2.2.2.2.1 p.toNat (by omega)
    · try dsimp only
      rw [ey]
      try dsimp only
      exact thr_0
    · try dsimp only
      rw [ey]
      exact MK_thr
  · rw [if_neg hp]
    refine ⟨fun q => (by first | exact absurd q x12 | exact absurd q x21 | exact absurd q x13 | exact absurd q x31 | exact absurd q x23 | exact absurd q x32 | cases q), fun _ => ?_⟩
    refine RLx_thr h (by decide) ?_
    unfold y_setting
    exact if_neg (by omega)
theorem ml_find {T : Nat → Nat × Nat} {I : Nat → Nat → Int} {J : Nat → Nat → Int64} {R : Nat → Nat → Option Nat} (h : QR T I R) (v : Int) (h_v : -2147483648 ≤ v ∧ v < 2147483648) : (x_find v = none → RLx T 0 (I) (fun I9 => y_find I9 v) (u2 (J) 124 0 (iz (fdL I v 480 0)).toInt64) (R)) ∧ (x_find v = some xIAE → RLx T 1 (I) (fun I9 => y_find I9 v) J R) := by
  obtain ⟨a1, a2, a3, a4, a5⟩ := QR_thr h 0
  unfold x_find
  by_cases hp : 0 ≤ v ∧ v ≤ 999
  · rw [if_pos hp]
    refine ⟨fun _ => ?_, fun q => (by first | exact absurd q x12 | exact absurd q x21 | exact absurd q x13 | exact absurd q x31 | exact absurd q x23 | exact absurd q x32 | cases q)⟩
    have ey : y_find I v = (m_bwL (m_thr I 0) v 480 0, m_thr I 0) := by
      unfold y_find
      rw [if_pos hp]
    refine RLx_look (y := fun I9 => y_find I9 v) h ?_ ?_ ?_
    · try dsimp only
      rw [ey]
      exact fd_eq a2 480 0 (by decide)
    · try dsimp only
      rw [ey]
      try dsimp only
      exact thr_0
    · try dsimp only
      rw [ey]
      exact MK_thr
  · rw [if_neg hp]
    refine ⟨fun q => (by first | exact absurd q x12 | exact absurd q x21 | exact absurd q x13 | exact absurd q x31 | exact absurd q x23 | exact absurd q x32 | cases q), fun _ => ?_⟩
    refine RLx_thr h (by decide) ?_
    unfold y_find
    exact if_neg hp
theorem ml_line {T : Nat → Nat × Nat} {I : Nat → Nat → Int} {J : Nat → Nat → Int64} {R : Nat → Nat → Option Nat} (h : QR T I R) (p : Int) (h_p : -2147483648 ≤ p ∧ p < 2147483648) (w : Int) (h_w : -2147483648 ≤ w ∧ w < 2147483648) : (x_line I p w = none → RLx T 0 (I) (fun I9 => y_line I9 p w) (u2 (J) 124 0 (iz (f_lp I (7 + 6 + p.toNat) w.toNat)).toInt64) (R)) ∧ (x_line I p w = some xIOB → RLx T 1 (I) (fun I9 => y_line I9 p w) J R) ∧ (x_line I p w = some xIAE → RLx T 2 (I) (fun I9 => y_line I9 p w) J R) := by
  have hb : HB I := h.2.2.2.2.1.2.1
  obtain ⟨a1, a2, a3, a4⟩ := QR_map h hb (fun _ _ => rfl)
  have a6 : I 7 6 = m_lay I 110 7 := a1.1
  have hx6 := h.2.2.2.1.2.1.2.2.2.2.2.2
  have k : ∀ t, MK I (m_thr (m_lay I) t) := fun t => MK_lay.tr MK_thr
  unfold x_line
  by_cases hp : 0 ≤ p ∧ p < I 7 6
  · rw [if_pos hp]
    by_cases hw : 0 ≤ w ∧ w < 6
    · rw [if_pos hw]
      refine ⟨fun _ => ?_, fun q => (by first | exact absurd q x12 | exact absurd q x21 | exact absurd q x13 | exact absurd q x31 | exact absurd q x23 | exact absurd q x32 | cases q), fun q => (by first | exact absurd q x12 | exact absurd q x21 | exact absurd q x13 | exact absurd q x31 | exact absurd q x23 | exact absurd q x32 | cases q)⟩
      have ey : y_line I p w = (m_tl (m_thr (m_lay I) 0) p.toNat w.toNat, m_thr (m_lay I) 0) := by
        unfold y_line y_line2
        rw [if_pos (by omega), if_pos (by omega)]
      refine RLx_look (y := fun I9 => y_line I9 p w) h ?_ ?_ ?_
      · try dsimp only
        rw [ey]
        have r : MRel I 7 (m_thr (m_lay I) 0) := MRel_of (fun _ _ _ => rfl) hx6.2 (fun a h1 h2 => thr_111 (by omega)) (thr_110 (by decide)) a1
        have e : m_thr (m_lay I) 0 111 = m_lay I 111 := thr_111 (by decide)
        exact line_eq (r.2.2.2.2 p.toNat (by rw [thr_110 (by decide)]; omega)) (by rw [e]; exact a2) r w.toNat
      · try dsimp only
        rw [ey]
        try dsimp only
        exact thr_0
      · try dsimp only
        rw [ey]
        exact k 0
    · rw [if_neg hw]
      refine ⟨fun q => (by first | exact absurd q x12 | exact absurd q x21 | exact absurd q x13 | exact absurd q x31 | exact absurd q x23 | exact absurd q x32 | cases q), fun q => (by first | exact absurd q x12 | exact absurd q x21 | exact absurd q x13 | exact absurd q x31 | exact absurd q x23 | exact absurd q x32 | cases q), fun _ => ?_⟩
      have ey : y_line I p w = (0, m_thr (m_lay I) 2) := by
        unfold y_line y_line2
        rw [if_pos (by omega), if_neg (by omega)]
      refine RLx_thr9 (y := fun I9 => y_line I9 p w) h (by decide) ?_ ?_
      · try dsimp only
        rw [ey]
        try dsimp only
        exact thr_0
      · try dsimp only
        rw [ey]
        exact k 2
  · rw [if_neg hp]
    refine ⟨fun q => (by first | exact absurd q x12 | exact absurd q x21 | exact absurd q x13 | exact absurd q x31 | exact absurd q x23 | exact absurd q x32 | cases q), fun _ => ?_, fun q => (by first | exact absurd q x12 | exact absurd q x21 | exact absurd q x13 | exact absurd q x31 | exact absurd q x23 | exact absurd q x32 | cases q)⟩
    have ey : y_line I p w = (0, m_thr (m_lay I) 1) := by
      unfold y_line y_line2
      rw [if_neg (by omega)]
    refine RLx_thr9 (y := fun I9 => y_line I9 p w) h (by decide) ?_ ?_
    · try dsimp only
      rw [ey]
      try dsimp only
      exact thr_0
    · try dsimp only
      rw [ey]
      exact k 1
theorem ml_worst {T : Nat → Nat × Nat} {I : Nat → Nat → Int} {J : Nat → Nat → Int64} {R : Nat → Nat → Option Nat} (h : QR T I R) : ∃ I1 : Nat → Nat → Int, I1 = I ∧ MV I1 ∧ f_worst I = m_wc (m_thr I1 0) ∧ (-2147483648 ≤ f_worst I ∧ f_worst I < 2147483648) ∧ QR T (m_lay (m_thr I1 0)) R := by
  obtain ⟨a1, a2, a3, a4, a5⟩ := QR_thr h 0
  refine ⟨I, rfl, h.2.2.2.2.1, ws_eq a1 576 0 (-1) (by decide) (Or.inl rfl), ?_, QR_MK h (MK_thr.tr MK_lay)⟩
  have := ws_rg (I := I) 576 0 (-1) (by decide) (by decide)
  unfold f_worst
  omega
theorem good_eq9 {I M : Nat → Nat → Int} (hR : MRel I 7 M) (hS : SRel I 1 (M 111)) : 576 - I 1 5 - I 7 7 = m_good M := by
  unfold m_good
  rw [hS.1, hR.2.1]
theorem avM_rg (M : Nat → Nat → Int) : 0 ≤ m_avM M ∧ m_avM M ≤ 576 := by
  unfold m_avM
  have := cntL_rg2 (fun c => decide (¬ m_isAv M c = 0)) 576 0 0
  omega
theorem ml_goodShare {T : Nat → Nat × Nat} {I : Nat → Nat → Int} {J : Nat → Nat → Int64} {R : Nat → Nat → Option Nat} (h : QR T I R) : (0 ≤ I 7 7 ∧ I 7 7 ≤ 580) ∧ 576 - I 1 5 - I 7 7 = m_good (m_lay (m_thr I 0)) ∧ QR T (m_lay (m_thr I 0)) R := by
  obtain ⟨a1, a2, a3, a4, a5⟩ := QR_thr h 0
  have e : m_lay (m_thr I 0) 111 = m_thr I 0 111 := lay_ne (by decide)
  refine ⟨?_, good_eq9 a1 (by rw [e]; exact a2), QR_MK h (MK_thr.tr MK_lay)⟩
  rw [a1.2.1]
  have := avM_rg (m_lay (m_thr I 0))
  omega
