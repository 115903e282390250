/-! methods that answer or throw: what a throw needs of the start, the row of a throw, such a method as a whole -/
abbrev xIOB : String := "java/lang/IndexOutOfBoundsException"
abbrev xIAE : String := "java/lang/IllegalArgumentException"
abbrev xISE : String := "java/lang/IllegalStateException"
abbrev xUP : List String := ["java/lang/RuntimeException", "java/lang/Exception"]
def q_XN : List String := [xIOB, xIAE, xISE]
def q_XI : List (String × Nat × Nat) := [(xIOB, 48, 52), (xIAE, 58, 62), (xISE, 67, 71)]
def q_XS : List (Nat × String) := [(50, "no such block"), (60, "value is not 0 to 999"), (69, "the block cannot be written"), (79, "no such blocks"), (81, "many is not 1 to 48, or value is not 0 to 999"), (95, "no such cell"), (104, "a spot already, or there are 12"), (119, "no spot"), (124, "moves is not 1 to 99"), (132, "no such setting"), (137, "value is out of range"), (149, "code is not 33 to 126"), (155, "the buffer has 60 characters"), (173, "the buffer does not tell spots"), (181, "no saved state"), (186, "an argument is out of range"), (200, "what is not 0 to 3"), (212, "no such line"), (214, "what is not 0 to 5"), (220, "what is not 0 to 9")]
def q_KX (E : QE) (U : State) (H : Heap) : Prop := (∀ w ∈ lw_tbl, w.onTables = true → w.faceAtom = true → w.before #[] U = true) ∧ (∀ X ∈ q_XN, ∀ Z ∈ q_XN, X ≠ Z → va_Nc X Z U) ∧ (∀ q ∈ q_XS, ∃ a, vk_R RX4 q.1 q.2 a U) ∧ vx_Zq Bundle.tN "UNASSIGNED_STACK" Bundle.steD (q_A E) U H ∧ vx_Zq Bundle.tN "SUPPRESSED_SENTINEL" Bundle.listD (q_A E) U H
theorem q_KX.to {E : QE} {s U : State} {H H1 : Heap} (h : q_KX E s H) (hW : s.WarmedH U.vm) (hk : ∀ a : Nat, a < H.size → ¬ q_A E a → H1[a]? = H[a]?) : q_KX E U H1 := by
  obtain ⟨h1, h2, h3, h4, h5⟩ := h
  have ha := hW.alike
  refine ⟨fun w hw g1 g2 => ?_, fun X hX Z hZ hne => (h2 X hX Z hZ hne).moved ha, fun q hq => ?_, (h4.moved ha).kept hk, (h5.moved ha).kept hk⟩
  · exact va_tabs g1 (rfl : (s.setVm U.vm).vm = U.vm) (Cond.faceAtom_setVm (args := #[]) ha w g2 (h1 w hw g1 g2))
  · obtain ⟨a, hR⟩ := h3 q hq
    exact ⟨a, hR.warm hW⟩
def q_XC (E : QE) (KX : String → QW → Prop) : String → State → State → Prop := fun X st t => (∃ w : QW, KX X w ∧ q_H E w t.heap) ∧ va_F (q_A E) st t
def TgX (E : QE) (Y : QY) (K : Option Value → QW → Prop) (KX : String → QW → Prop) : List Frame → Array Value → State → State → Prop := fun below args s t => q_KX E s s.heap → vx_MQ below (q_Qc E K) (q_XC E KX) args s Y.2.2.2.2.cells Y.2.2.2.2.slots (q_A E) t
abbrev GoX (l : Launch) (E : QE) (Y : QY) (kc ks pc : Nat) (L : List (Option Value)) (st : List Value) (w : QW) (K : Option Value → QW → Prop) (KX : String → QW → Prop) : Prop := GoT l E Y kc ks pc L st w (TgX E Y K KX)
def q_PcX (E : QE) (w : QW) (vs : List Value) : Array Value → State → Prop := va_Pc vs (fun U => q_H E w U.heap ∧ q_K E U U.heap ∧ q_KX E U U.heap)
def SpX (l : Launch) (E : QE) (Y : QY) (vs : List Value) (w : QW) (K : Option Value → QW → Prop) (KX : String → QW → Prop) : Prop := vx_Met l Y.1 (q_wsY Y) Y.2.2.2.2 (q_PcX E w vs) (q_Qc E K) (q_XC E KX) Y.2.2.2.2.cells Y.2.2.2.2.slots (q_A E)
/-- r: what it throws, if it throws; the world is then as it was -/
def SpT (l : Launch) (E : QE) (Y : QY) (vs : List Value) (w : QW) (r : Option String) (v : Value) (w' : QW) : Prop := SpX l E Y vs w (fun r1 w1 => r = none ∧ r1 = some v ∧ w1 = w') (fun X w1 => r = some X ∧ w1 = w)
section
variable {l : Launch} {E : QE} {Y : QY} {kc ks pc : Nat} {L : List (Option Value)} {st : List Value} {w : QW} {K : Option Value → QW → Prop} {KX : String → QW → Prop}
theorem GoX.of (h : Go l E Y kc ks pc L st w K) : GoX l E Y kc ks pc L st w K KX := by
  intro p e s m args below meth c H locs ls C hH hS hl T hT X
  obtain ⟨t, a1, o, b1, b2, b3, b4⟩ := h p e s m args below meth c H locs ls C hH hS hl T hT X
  exact ⟨t, a1, fun _ => ⟨o, b1, b2, Or.inl ⟨b3, b4⟩⟩⟩
theorem SpX.of {vs : List Value} (L : List (Option Value)) (hy : plainName Y.1.cls = true) (hle : (lg_sl vs).length ≤ Y.2.2.1) (hL : ∀ q ∈ q_l 0 L, q ∈ lv_args 0 vs) (h : GoX l E Y 0 0 0 L [] w K KX) : SpX l E Y vs w K KX := by
  refine vx_ofW (cc := Y.2.1) (maxL := Y.2.2.1) (ret := Y.2.2.2.1) hy rfl ?_
  intro p e s m args below meth c s₁ B hml _ hv
  obtain ⟨rfl, hH, hK, hX⟩ := hv
  rw [lg_entry_eq]
  have hl := lv_entry vs (n := Y.2.2.1) hle
  intro T hT X
  obtain ⟨t, a1, b1⟩ := h p e s m _ below meth c s.heap [] _ ⟨B.exec, B.bytes, hml, B.returns, findClass_of_methodNamed B.named, fun w hw => atoms_spec (ws := q_wsY Y) B.pre w (List.mem_cons_of_mem _ hw), hK, B.notSynchronized, Or.inr ⟨B.named, (name_of_methodNamed B.named B.method).1⟩, hH.2.2.1⟩ hH va_S.rf ⟨hl.1, hl.2.1, fun q hq => hl.2.2 q (hL q hq)⟩ T hT X
  exact ⟨t, a1, b1 hX⟩
theorem at_xs : q_XI.all (fun q => (vx_atS RX4 q.2.2 q.1 xUP).all (fun w => vx_ot w && (decide (w ∈ lw_tbl) && (goodWord w || (w.onTables && w.faceAtom))))) = true := by decide +kernel
theorem at_x {q : String × Nat × Nat} (hq : q ∈ q_XI) {w : Cond} (hw : w ∈ vx_atS RX4 q.2.2 q.1 xUP) : vx_ot w = true ∧ ((w ∈ lw_tbl ∧ w.onTables = true ∧ w.faceAtom = true) ∨ w ∈ q_T) := by
  have h := List.all_eq_true.mp (List.all_eq_true.mp at_xs q hq) w hw
  rw [Bool.and_eq_true, Bool.and_eq_true, Bool.or_eq_true, Bool.and_eq_true, decide_eq_true_eq] at h
  exact ⟨h.1, h.2.2.elim (fun g => Or.inr (q_T_in h.2.1 g)) (fun g => Or.inl ⟨h.2.1, g⟩)⟩
theorem g_throw {cls text : String} {is ik ic : Nat} (hY : Y.1.cls = RX4) (hn : Y.1.name ≠ "law") (hcode : Cond.code Y.1 Y.2.1 Y.2.2.1 Y.2.2.2.1 ∈ q_T) (hq : (cls, ik, ic) ∈ q_XI) (hs : (is, text) ∈ q_XS)
    (hk : Cond.classLink RX4 ik cls ∈ q_T) (hini : Cond.initialized cls ∈ q_T)
    (d0 : decode Y.2.1 pc = .ok (.new ik, 3)) (d3 : decode Y.2.1 (pc + 3) = .ok (.dup, 1)) (d4 : decode Y.2.1 (pc + 4) = .ok (.ldc is, 2)) (d6 : decode Y.2.1 (pc + 6) = .ok (.invokespecial ic, 3)) (d9 : decode Y.2.1 (pc + 9) = .ok (.athrow, 1))
    (hl9 : l.stackTraces = false) (hR : 5 < Y.2.2.2.2.frames ∧ 82 ≤ Y.2.2.2.2.locals ∧ kc + 1 ≤ Y.2.2.2.2.cells ∧ ks + 6 ≤ Y.2.2.2.2.slots) (hz : w.2.2.2.2.2 = 0) (h : KX cls w) : GoX l E Y kc ks pc L [] w K KX := by
  intro p e s m args below meth c H locs ls C hH hS hl T hT X
  obtain ⟨hx, hb, hml, hr, ho, hts, hK, hlk, hnm, hbs⟩ := id C
  have hnamed := (hnm.resolve_left hn).1
  have htab : ∀ x ∈ c.exceptionTable.toList, False := by
    obtain ⟨meth9, c9, h1, h2, -, -, -, -, h7, -⟩ := Cond.code_spec hnamed (hts _ hcode)
    cases Option.some.inj (h1.symm.trans X.method)
    cases Option.some.inj (h2.symm.trans X.code)
    intro x hx
    rw [Array.isEmpty_iff.mp h7] at hx
    cases hx
  by_cases hKX : q_KX E s s.heap
  · obtain ⟨k1, k2, k3, k4, k5⟩ := id hKX
    obtain ⟨sa, hsa⟩ := k3 _ hs
    rw [hY] at ho
    have hcx : cls ∈ q_XN := by
      simp only [q_XI, q_XN, List.mem_cons, List.not_mem_nil, or_false, Prod.mk.injEq] at hq ⊢
      rcases hq with h | h | h
      · exact Or.inl h.1
      · exact Or.inr (Or.inl h.1)
      · exact Or.inr (Or.inr h.1)
    have hfit : Bundle.fit cls = true := by
      simp only [q_XN, List.mem_cons, List.not_mem_nil, or_false] at hcx
      rcases hcx with rfl | rfl | rfl <;> decide +kernel
    have g : W p l e Y.2.2.2.2 s m args below meth c H locs kc ks (vx_MQ below (q_Qc E K) (q_XC E KX) args s Y.2.2.2.2.cells Y.2.2.2.2.slots (q_A E)) (F0 m pc ls []) := by
      refine vx_throwS (A := q_A E) (names := xUP) (sa := sa) hx hb hl9 ho hfit (by decide +kernel) (hts _ hk) (hts _ hini) hsa (fun w hw => ?_) (fun w hw => ?_) k4 k5 hS (hl.1.trans hml.symm) d0 d3 d4 d6 d9 (fun x hx => (htab x hx).elim) hR.1 hR.2.1 hR.2.2.1 hR.2.2.2 hlk (fun t ht h1 h2 => ?_) hS.2.2 hR.2.2.1 hR.2.2.2
      · rcases (at_x hq hw).2 with h | h
        · exact va_tabs h.2.1 rfl (k1 w h.1 h.2.1 h.2.2)
        · exact hts w h
      · rcases List.mem_cons.mp hw with rfl | hw
        · rfl
        · rcases List.mem_cons.mp hw with rfl | hw
          · rfl
          · exact (at_x hq hw).1
      · refine ⟨⟨w, h, ?_, hH.2.1, Nat.le_trans hH.2.2.1 h1, fun hz9 => absurd hz hz9⟩, Nat.le_trans hS.1 h1, fun q h3 h4 => by rw [h2 q (Nat.lt_of_lt_of_le h3 hS.1)]; exact hS.2.1 q h3 h4⟩
        exact hH.1.kept (fun k q hk => h2 q.1 (vx_lt hH.1 hk))
    obtain ⟨t, a1, b1⟩ := g T hT X
    exact ⟨t, a1, fun _ => b1⟩
  · exact ⟨_, Steps.refl _, fun h => absurd h hKX⟩
end
