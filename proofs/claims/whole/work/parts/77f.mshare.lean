/-! the reference: the share, its bits; what looking leaves alone -/
/-- what looking leaves alone of the reference's numbers -/
def MK (I0 I : Nat → Nat → Int) : Prop := (∀ j, j < 1554 → I 111 j = I0 111 j) ∧ (∀ a, (a < 110 ∨ a = 112 ∨ a = 114 ∨ 123 < a) → I a = I0 a) ∧ (I 110 3 = I0 110 3 ∧ I 110 6 = I0 110 6) ∧ (ZV I0 → HB I0 → HB I)
theorem MK.rf {I : Nat → Nat → Int} : MK I I := ⟨fun _ _ => rfl, fun _ _ => rfl, ⟨rfl, rfl⟩, fun _ h => h⟩
theorem MK.zv {I0 I : Nat → Nat → Int} (h : MK I0 I) (g : ZV I0) : ZV I := ZV_eq g h.1
theorem MK.tr {I0 I1 I2 : Nat → Nat → Int} (h : MK I0 I1) (g : MK I1 I2) : MK I0 I2 := ⟨fun j hj => (g.1 j hj).trans (h.1 j hj), fun a ha => (g.2.1 a ha).trans (h.2.1 a ha), ⟨g.2.2.1.1.trans h.2.2.1.1, g.2.2.1.2.trans h.2.2.1.2⟩, fun hz hb => g.2.2.2 (h.zv hz) (h.2.2.2 hz hb)⟩
theorem MK_thr {I : Nat → Nat → Int} {t : Int} : MK I (m_thr I t) := ⟨fun j _ => by rw [thr_111 (by decide)], fun a ha => thr_111 (by omega), ⟨thr_110 (by decide), thr_110 (by decide)⟩, fun _ h => thr_HB h⟩
theorem MK_lay {I : Nat → Nat → Int} : MK I (m_lay I) := ⟨fun j _ => by rw [lay_ne (by decide)], fun a ha => lay_ne (by omega), ⟨lay_110 (by decide), lay_110 (by decide)⟩, fun hz hb => lay_HB hz hb⟩
theorem MK_ctI {I : Nat → Nat → Int} {w : Int} : MK I (m_ctI I w) := by
  unfold m_ctI
  split
  · exact MK_lay
  · exact MK.rf
theorem MK_tcI {I : Nat → Nat → Int} {w : Nat} : MK I (m_tcI I w) := by
  unfold m_tcI
  split
  · exact MK_lay
  · exact MK.rf
  · exact MK_lay
  · exact MK.rf
theorem MK_tbI {I : Nat → Nat → Int} {w : Nat} : MK I (m_tbI I w) := by
  unfold m_tbI
  split
  · exact MK.rf
  · exact MK.rf
  · exact MK.rf
  · exact MK_lay
theorem MK_rb {I : Nat → Nat → Int} : MK I (m_rb I) := by
  have r := RK_rb (I := I)
  exact ⟨fun j _ => by rw [r.1 111 (by decide) (by decide)], fun a ha => r.1 a (by omega) (by omega), ⟨r.2 3 (by decide) (by decide) (by decide), r.2 6 (by decide) (by decide) (by decide)⟩, fun _ hb => HB_ne hb (r.1 _ (by decide) (by decide)) (r.1 _ (by decide) (by decide))⟩
theorem MK_wf {I : Nat → Nat → Int} {c w : Nat} (hz9 : ZV I) (hc : c < 576) : MK I (m_wf I c w).2 := by
  by_cases h : m_can I c = 0
  · have e : (m_wf I c w).2 = I := by unfold m_wf; rw [if_pos h]
    rw [e]
    exact MK.rf
  · have e : (m_wf I c w).2 = m_bb 1554 0 (m_wfI I c) := by unfold m_wf; rw [if_neg h]
    rw [e]
    have hq := m_can_of h
    have ep : m_pa 1554 0 I 111 = I 111 := pa_ne _ _ _ _ (by decide)
    have hz2 : ZV (m_failIt (m_pa 1554 0 I) c) := failIt_ZV (pa_ZV hz9) hc (by rw [ep]; exact hq.1) (by rw [spotAt_ne ep]; exact hq.2)
    have e3 : m_wfI I c 113 = m_pa 1554 0 I 113 := by
      unfold m_wfI
      rw [lay_ne (by decide), failIt_ne (by decide)]
    refine ⟨fun j hj => ?_, fun a ha => ?_, ⟨?_, ?_⟩, fun _ hb => ?_⟩
    · rw [bb_111, if_pos (by omega), e3, pa_113, if_pos (by omega)]
    · rw [bb_ne _ _ _ _ (by omega)]
      unfold m_wfI
      rw [lay_ne (by omega), failIt_ne (by omega), pa_ne _ _ _ _ (by omega)]
    · rw [bb_ne _ _ _ _ (by decide)]
      unfold m_wfI
      rw [lay_110 (by decide), failIt_ne (by decide), pa_ne _ _ _ _ (by decide)]
    · rw [bb_ne _ _ _ _ (by decide)]
      unfold m_wfI
      rw [lay_110 (by decide), failIt_ne (by decide), pa_ne _ _ _ _ (by decide)]
    · exact HB_ne (lay_HB hz2 (HB_ne (pa_HB hb) (failIt_ne (by decide)) (failIt_ne (by decide)))) (bb_ne _ _ _ _ (by decide)) (bb_ne _ _ _ _ (by decide))
theorem MK_wm {I : Nat → Nat → Int} (hz9 : ZV I) : MK I (m_wm I).2 := by
  have hz1 := pa_ZV hz9
  have e3 : (m_tidyUp (m_pa 1554 0 I) 480).2 113 = m_pa 1554 0 I 113 := tidyUp_ne (by decide)
  have e : (m_wm I).2 = m_bb 1554 0 (m_tidyUp (m_pa 1554 0 I) 480).2 := by unfold m_wm; dsimp only
  rw [e]
  have e110 : ∀ j, j ≠ 7 → (m_tidyUp (m_pa 1554 0 I) 480).2 110 j = I 110 j := fun j hj => by
    unfold m_tidyUp
    rw [mtdL_ne _ _ _ _ _ _ (by decide), lay_110 hj, pa_ne _ _ _ _ (by decide)]
  refine ⟨fun j hj => ?_, fun a ha => ?_, ⟨?_, ?_⟩, fun _ hb => ?_⟩
  · rw [bb_111, if_pos (by omega), e3, pa_113, if_pos (by omega)]
  · rw [bb_ne _ _ _ _ (by omega), tidyUp_ne (by omega), pa_ne _ _ _ _ (by omega)]
  · rw [bb_ne _ _ _ _ (by decide), e110 _ (by decide)]
  · rw [bb_ne _ _ _ _ (by decide), e110 _ (by decide)]
  · refine HB_ne (lay_HB hz1 (pa_HB hb)) ?_ ?_
    · rw [bb_ne _ _ _ _ (by decide)]
      unfold m_tidyUp
      rw [mtdL_ne _ _ _ _ _ _ (by decide)]
    · rw [bb_ne _ _ _ _ (by decide)]
      unfold m_tidyUp
      rw [mtdL_ne _ _ _ _ _ _ (by decide)]
