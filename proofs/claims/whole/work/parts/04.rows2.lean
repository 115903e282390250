/-! ROWS 2: an instruction, a row (printed by wip/whole/gen/mk04.py) -/
theorem q_l_of : ∀ (L : List (Option Value)) (i j : Nat) (v : Value), (j, v) ∈ q_l i L → i ≤ j ∧ L[j - i]? = some (some v)
  | [], _, _, _, h => by cases h
  | none :: r, i, j, v, h => by
    obtain ⟨h1, h2⟩ := q_l_of r (i + 1) j v h
    refine ⟨by omega, ?_⟩
    rw [show j - i = (j - (i + 1)) + 1 by omega, List.getElem?_cons_succ]
    exact h2
  | some u :: r, i, j, v, h => by
    rcases List.mem_cons.mp h with h | h
    · cases h
      exact ⟨Nat.le_refl _, by rw [Nat.sub_self]; rfl⟩
    · obtain ⟨h1, h2⟩ := q_l_of r (i + 1) j v h
      refine ⟨by omega, ?_⟩
      rw [show j - i = (j - (i + 1)) + 1 by omega, List.getElem?_cons_succ]
      exact h2
theorem q_l_in : ∀ (L : List (Option Value)) (i j : Nat) (v : Value), L[j]? = some (some v) → (i + j, v) ∈ q_l i L
  | [], _, _, _, h => by simp at h
  | none :: r, i, 0, v, h => by simp at h
  | some u :: r, i, 0, v, h => by
    simp at h
    subst h
    exact List.mem_cons_self
  | none :: r, i, j + 1, v, h => by
    rw [List.getElem?_cons_succ] at h
    have := q_l_in r (i + 1) j v h
    rw [show i + (j + 1) = (i + 1) + j by omega]
    exact this
  | some u :: r, i, j + 1, v, h => by
    rw [List.getElem?_cons_succ] at h
    have := q_l_in r (i + 1) j v h
    rw [show i + (j + 1) = (i + 1) + j by omega]
    exact List.mem_cons_of_mem _ this
theorem q_l_at {ls : Array Slot} {nL : Nat} {L : List (Option Value)} {i : Nat} {v : Value} (h : lv_has ls nL (q_l 0 L)) (hL : L[i]? = some (some v)) : ls[i]? = some (.val v) := by
  have := q_l_in L 0 i v hL
  rw [Nat.zero_add] at this
  exact h.2.2 _ this
def okc : Option Value → Bool
  | some (.long _) => false
  | some (.double _) => false
  | _ => true
theorem okc_of {v : Value} (h : okc (some v) = true) : ¬ v.category = 2 := by
  cases v <;> first | (simp [okc] at h; done) | (simp [Value.category])
theorem q_l_set1 {ls : Array Slot} {nL i : Nat} {L : List (Option Value)} {v : Value} (h : lv_has ls nL ((i, v) :: (q_l 0 L).filter (fun q => !(q.1 == i) && !(q.1 + 1 == i && q.2.category == 2)))) (hc : ∀ u, L[i - 1]? = some (some u) → i ≠ 0 → okc (some u) = true) : lv_has ls nL (q_l 0 (L.set i (some v))) := by
  refine ⟨h.1, h.2.1, fun q hq => ?_⟩
  obtain ⟨j, u⟩ := q
  obtain ⟨-, hu⟩ := q_l_of _ _ _ _ hq
  rw [Nat.sub_zero, List.getElem?_set] at hu
  by_cases hj : i = j
  · subst hj
    rw [if_pos rfl] at hu
    split at hu
    · simp at hu; subst hu; exact h.2.2 _ List.mem_cons_self
    · cases hu
  · rw [if_neg hj] at hu
    refine h.2.2 _ (List.mem_cons_of_mem _ (List.mem_filter.mpr ⟨?_, ?_⟩))
    · have := q_l_in L 0 j u hu
      rwa [Nat.zero_add] at this
    · simp only [Bool.and_eq_true, Bool.not_eq_true', beq_eq_false_iff_ne, Bool.and_eq_false_iff]
      refine ⟨fun e => hj e.symm, ?_⟩
      by_cases h1 : j + 1 = i
      · refine Or.inr ?_
        have := okc_of (hc u (by rw [show i - 1 = j by omega]; exact hu) (by omega))
        exact this
      · exact Or.inl h1
theorem q_l_set2 {ls : Array Slot} {nL i : Nat} {L : List (Option Value)} {v : Value} (h : lv_has ls nL ((i, v) :: (q_l 0 L).filter (fun q => !(q.1 == i) && (!(q.1 == i + 1) && !(q.1 + 1 == i && q.2.category == 2))))) (hc : ∀ u, L[i - 1]? = some (some u) → i ≠ 0 → okc (some u) = true) : lv_has ls nL (q_l 0 ((L.set i (some v)).set (i + 1) none)) := by
  refine ⟨h.1, h.2.1, fun q hq => ?_⟩
  obtain ⟨j, u⟩ := q
  obtain ⟨-, hu⟩ := q_l_of _ _ _ _ hq
  rw [Nat.sub_zero, List.getElem?_set] at hu
  by_cases hj1 : i + 1 = j
  · rw [if_pos hj1] at hu
    split at hu <;> cases hu
  rw [if_neg hj1, List.getElem?_set] at hu
  by_cases hj : i = j
  · subst hj
    rw [if_pos rfl] at hu
    split at hu
    · simp at hu; subst hu; exact h.2.2 _ List.mem_cons_self
    · cases hu
  · rw [if_neg hj] at hu
    refine h.2.2 _ (List.mem_cons_of_mem _ (List.mem_filter.mpr ⟨?_, ?_⟩))
    · have := q_l_in L 0 j u hu
      rwa [Nat.zero_add] at this
    · simp only [Bool.and_eq_true, Bool.not_eq_true', beq_eq_false_iff_ne, Bool.and_eq_false_iff]
      refine ⟨fun e => hj e.symm, fun e => hj1 e.symm, ?_⟩
      by_cases h1 : j + 1 = i
      · refine Or.inr ?_
        have := okc_of (hc u (by rw [show i - 1 = j by omega]; exact hu) (by omega))
        exact this
      · exact Or.inl h1
section Rows2
variable {l : Launch} {E : QE} {Y : QY} {kc ks pc pc' : Nat} {L : List (Option Value)} {st : List Value} {w : QW} {K : Option Value → QW → Prop} {Tg : List Frame → Array Value → State → State → Prop}
theorem g_iconst {k : Int} (hd : decode Y.2.1 pc = .ok (.iconst k, 1)) (hp : pc + 1 = pc') (h : GoT l E Y kc ks pc' L (.int (iz k) :: st) w Tg) : GoT l E Y kc ks pc L (st) w Tg := by
  intro p e s m args below meth c H locs ls C hH hS hl
  obtain ⟨hx, hb, hml, hr, ho, hts, hK, hlk, hnm, hbs⟩ := id C
  subst hp
  refine lv_iconst hx hb hd rfl ?_
  exact h p e s m args below meth c H locs ls C hH hS hl
theorem g_bipush {k : Int} (hd : decode Y.2.1 pc = .ok (.bipush k, 2)) (hp : pc + 2 = pc') (hv : (Int8.ofInt k).toInt32 = iz k) (h : GoT l E Y kc ks pc' L (.int (iz k) :: st) w Tg) : GoT l E Y kc ks pc L (st) w Tg := by
  intro p e s m args below meth c H locs ls C hH hS hl
  obtain ⟨hx, hb, hml, hr, ho, hts, hK, hlk, hnm, hbs⟩ := id C
  subst hp
  refine lv_bipush hx hb hd hv ?_
  exact h p e s m args below meth c H locs ls C hH hS hl
theorem g_sipush {k : Int} (hd : decode Y.2.1 pc = .ok (.sipush k, 3)) (hp : pc + 3 = pc') (hv : (Int16.ofInt k).toInt32 = iz k) (h : GoT l E Y kc ks pc' L (.int (iz k) :: st) w Tg) : GoT l E Y kc ks pc L (st) w Tg := by
  intro p e s m args below meth c H locs ls C hH hS hl
  obtain ⟨hx, hb, hml, hr, ho, hts, hK, hlk, hnm, hbs⟩ := id C
  subst hp
  refine lv_sipush hx hb hd hv ?_
  exact h p e s m args below meth c H locs ls C hH hS hl
theorem g_lconst {k : Fin 2} {v : Int64} (hd : decode Y.2.1 pc = .ok (.lconst k, 1)) (hp : pc + 1 = pc') (hv : Int64.ofNat (k : Nat) = v) (h : GoT l E Y kc ks pc' L (.long v :: st) w Tg) : GoT l E Y kc ks pc L (st) w Tg := by
  intro p e s m args below meth c H locs ls C hH hS hl
  obtain ⟨hx, hb, hml, hr, ho, hts, hK, hlk, hnm, hbs⟩ := id C
  subst hp
  refine lv_lconst hx hb hd hv ?_
  exact h p e s m args below meth c H locs ls C hH hS hl
theorem g_dconst0 (hd : decode Y.2.1 pc = .ok (.dconst 0, 1)) (hp : pc + 1 = pc') (h : GoT l E Y kc ks pc' L (.double FP.dconst0 :: st) w Tg) : GoT l E Y kc ks pc L (st) w Tg := by
  intro p e s m args below meth c H locs ls C hH hS hl
  obtain ⟨hx, hb, hml, hr, ho, hts, hK, hlk, hnm, hbs⟩ := id C
  subst hp
  refine lv_dconst0 hx hb hd ?_
  exact h p e s m args below meth c H locs ls C hH hS hl
theorem g_dconst1 (hd : decode Y.2.1 pc = .ok (.dconst 1, 1)) (hp : pc + 1 = pc') (h : GoT l E Y kc ks pc' L (.double FP.dconst1 :: st) w Tg) : GoT l E Y kc ks pc L (st) w Tg := by
  intro p e s m args below meth c H locs ls C hH hS hl
  obtain ⟨hx, hb, hml, hr, ho, hts, hK, hlk, hnm, hbs⟩ := id C
  subst hp
  refine lv_dconst1 hx hb hd ?_
  exact h p e s m args below meth c H locs ls C hH hS hl
theorem g_null (hd : decode Y.2.1 pc = .ok (.aconst_null, 1)) (hp : pc + 1 = pc') (h : GoT l E Y kc ks pc' L (.null :: st) w Tg) : GoT l E Y kc ks pc L (st) w Tg := by
  intro p e s m args below meth c H locs ls C hH hS hl
  obtain ⟨hx, hb, hml, hr, ho, hts, hK, hlk, hnm, hbs⟩ := id C
  subst hp
  refine lv_null hx hb hd ?_
  exact h p e s m args below meth c H locs ls C hH hS hl
theorem g_ldc {i : Nat} {k : Int} (hd : decode Y.2.1 pc = .ok (.ldc i, 2)) (hp : pc + 2 = pc') (hw : Cond.constant Y.1.cls i (iz k) ∈ q_T) (h : GoT l E Y kc ks pc' L (.int (iz k) :: st) w Tg) : GoT l E Y kc ks pc L (st) w Tg := by
  intro p e s m args below meth c H locs ls C hH hS hl
  obtain ⟨hx, hb, hml, hr, ho, hts, hK, hlk, hnm, hbs⟩ := id C
  subst hp
  refine lv_ldc hx hb ho (hts _ hw) hd ?_
  exact h p e s m args below meth c H locs ls C hH hS hl
theorem g_ldc2l {i : Nat} {v : Int64} (hd : decode Y.2.1 pc = .ok (.ldc2_w i, 3)) (hp : pc + 3 = pc') (hw : Cond.constantLong Y.1.cls i v ∈ q_T) (h : GoT l E Y kc ks pc' L (.long v :: st) w Tg) : GoT l E Y kc ks pc L (st) w Tg := by
  intro p e s m args below meth c H locs ls C hH hS hl
  obtain ⟨hx, hb, hml, hr, ho, hts, hK, hlk, hnm, hbs⟩ := id C
  subst hp
  refine lv_ldc2 hx hb ho (hts _ hw) hd ?_
  exact h p e s m args below meth c H locs ls C hH hS hl
theorem g_ldc2d {i : Nat} {v : UInt64} (hd : decode Y.2.1 pc = .ok (.ldc2_w i, 3)) (hp : pc + 3 = pc') (hw : Cond.constantDouble Y.1.cls i v ∈ q_T) (h : GoT l E Y kc ks pc' L (.double v :: st) w Tg) : GoT l E Y kc ks pc L (st) w Tg := by
  intro p e s m args below meth c H locs ls C hH hS hl
  obtain ⟨hx, hb, hml, hr, ho, hts, hK, hlk, hnm, hbs⟩ := id C
  subst hp
  refine lv_ldc2d hx hb ho (hts _ hw) hd ?_
  exact h p e s m args below meth c H locs ls C hH hS hl
theorem g_iloadN {a : Int} {i : Fin 4} (hd : decode Y.2.1 pc = .ok (.iload_n i, 1)) (hp : pc + 1 = pc') (hL : L[(i : Nat)]? = some (some (.int (iz a)))) (h : GoT l E Y kc ks pc' L (.int (iz a) :: st) w Tg) : GoT l E Y kc ks pc L (st) w Tg := by
  intro p e s m args below meth c H locs ls C hH hS hl
  obtain ⟨hx, hb, hml, hr, ho, hts, hK, hlk, hnm, hbs⟩ := id C
  subst hp
  refine lv_iload_n hx hb hd rfl (q_l_at hl hL) ?_
  exact h p e s m args below meth c H locs ls C hH hS hl
theorem g_iloadX {a : Int} {i : Nat} (hd : decode Y.2.1 pc = .ok (.iload i, 2)) (hp : pc + 2 = pc') (hL : L[i]? = some (some (.int (iz a)))) (h : GoT l E Y kc ks pc' L (.int (iz a) :: st) w Tg) : GoT l E Y kc ks pc L (st) w Tg := by
  intro p e s m args below meth c H locs ls C hH hS hl
  obtain ⟨hx, hb, hml, hr, ho, hts, hK, hlk, hnm, hbs⟩ := id C
  subst hp
  refine lv_iload hx hb hd (q_l_at hl hL) ?_
  exact h p e s m args below meth c H locs ls C hH hS hl
theorem g_aloadN {a : Nat} {i : Fin 4} (hd : decode Y.2.1 pc = .ok (.aload_n i, 1)) (hp : pc + 1 = pc') (hL : L[(i : Nat)]? = some (some (.ref a))) (h : GoT l E Y kc ks pc' L (.ref a :: st) w Tg) : GoT l E Y kc ks pc L (st) w Tg := by
  intro p e s m args below meth c H locs ls C hH hS hl
  obtain ⟨hx, hb, hml, hr, ho, hts, hK, hlk, hnm, hbs⟩ := id C
  subst hp
  refine lv_aload_n hx hb hd rfl (q_l_at hl hL) ?_
  exact h p e s m args below meth c H locs ls C hH hS hl
theorem g_aloadX {a : Nat} {i : Nat} (hd : decode Y.2.1 pc = .ok (.aload i, 2)) (hp : pc + 2 = pc') (hL : L[i]? = some (some (.ref a))) (h : GoT l E Y kc ks pc' L (.ref a :: st) w Tg) : GoT l E Y kc ks pc L (st) w Tg := by
  intro p e s m args below meth c H locs ls C hH hS hl
  obtain ⟨hx, hb, hml, hr, ho, hts, hK, hlk, hnm, hbs⟩ := id C
  subst hp
  refine lv_aload hx hb hd (q_l_at hl hL) ?_
  exact h p e s m args below meth c H locs ls C hH hS hl
theorem g_lloadN {a : Int64} {i : Fin 4} (hd : decode Y.2.1 pc = .ok (.lload_n i, 1)) (hp : pc + 1 = pc') (hL : L[(i : Nat)]? = some (some (.long a))) (h : GoT l E Y kc ks pc' L (.long a :: st) w Tg) : GoT l E Y kc ks pc L (st) w Tg := by
  intro p e s m args below meth c H locs ls C hH hS hl
  obtain ⟨hx, hb, hml, hr, ho, hts, hK, hlk, hnm, hbs⟩ := id C
  subst hp
  refine lv_lload_n hx hb hd rfl (q_l_at hl hL) ?_
  exact h p e s m args below meth c H locs ls C hH hS hl
theorem g_lloadX {a : Int64} {i : Nat} (hd : decode Y.2.1 pc = .ok (.lload i, 2)) (hp : pc + 2 = pc') (hL : L[i]? = some (some (.long a))) (h : GoT l E Y kc ks pc' L (.long a :: st) w Tg) : GoT l E Y kc ks pc L (st) w Tg := by
  intro p e s m args below meth c H locs ls C hH hS hl
  obtain ⟨hx, hb, hml, hr, ho, hts, hK, hlk, hnm, hbs⟩ := id C
  subst hp
  refine lv_lload hx hb hd (q_l_at hl hL) ?_
  exact h p e s m args below meth c H locs ls C hH hS hl
theorem g_dloadN {a : UInt64} {i : Fin 4} (hd : decode Y.2.1 pc = .ok (.dload_n i, 1)) (hp : pc + 1 = pc') (hL : L[(i : Nat)]? = some (some (.double a))) (h : GoT l E Y kc ks pc' L (.double a :: st) w Tg) : GoT l E Y kc ks pc L (st) w Tg := by
  intro p e s m args below meth c H locs ls C hH hS hl
  obtain ⟨hx, hb, hml, hr, ho, hts, hK, hlk, hnm, hbs⟩ := id C
  subst hp
  refine lv_dload_n hx hb hd rfl (q_l_at hl hL) ?_
  exact h p e s m args below meth c H locs ls C hH hS hl
theorem g_dloadX {a : UInt64} {i : Nat} (hd : decode Y.2.1 pc = .ok (.dload i, 2)) (hp : pc + 2 = pc') (hL : L[i]? = some (some (.double a))) (h : GoT l E Y kc ks pc' L (.double a :: st) w Tg) : GoT l E Y kc ks pc L (st) w Tg := by
  intro p e s m args below meth c H locs ls C hH hS hl
  obtain ⟨hx, hb, hml, hr, ho, hts, hK, hlk, hnm, hbs⟩ := id C
  subst hp
  refine lv_dload hx hb hd (q_l_at hl hL) ?_
  exact h p e s m args below meth c H locs ls C hH hS hl
theorem g_iload0 {a : Int} {rl : List (Option Value)} (hd : decode Y.2.1 pc = .ok (.iload_n 0, 1)) (hp : pc + 1 = pc') (h : GoT l E Y kc ks pc' (some (.int (iz a)) :: rl) (.int (iz a) :: st) w Tg) : GoT l E Y kc ks pc (some (.int (iz a)) :: rl) st w Tg := g_iloadN (i := 0) hd hp rfl h
theorem g_iload1 {a : Int} {x0 : Option Value} {rl : List (Option Value)} (hd : decode Y.2.1 pc = .ok (.iload_n 1, 1)) (hp : pc + 1 = pc') (h : GoT l E Y kc ks pc' (x0 :: some (.int (iz a)) :: rl) (.int (iz a) :: st) w Tg) : GoT l E Y kc ks pc (x0 :: some (.int (iz a)) :: rl) st w Tg := g_iloadN (i := 1) hd hp rfl h
theorem g_iload2 {a : Int} {x0 x1 : Option Value} {rl : List (Option Value)} (hd : decode Y.2.1 pc = .ok (.iload_n 2, 1)) (hp : pc + 1 = pc') (h : GoT l E Y kc ks pc' (x0 :: x1 :: some (.int (iz a)) :: rl) (.int (iz a) :: st) w Tg) : GoT l E Y kc ks pc (x0 :: x1 :: some (.int (iz a)) :: rl) st w Tg := g_iloadN (i := 2) hd hp rfl h
theorem g_iload3 {a : Int} {x0 x1 x2 : Option Value} {rl : List (Option Value)} (hd : decode Y.2.1 pc = .ok (.iload_n 3, 1)) (hp : pc + 1 = pc') (h : GoT l E Y kc ks pc' (x0 :: x1 :: x2 :: some (.int (iz a)) :: rl) (.int (iz a) :: st) w Tg) : GoT l E Y kc ks pc (x0 :: x1 :: x2 :: some (.int (iz a)) :: rl) st w Tg := g_iloadN (i := 3) hd hp rfl h
theorem g_iload4 {a : Int} {x0 x1 x2 x3 : Option Value} {rl : List (Option Value)} (hd : decode Y.2.1 pc = .ok (.iload 4, 2)) (hp : pc + 2 = pc') (h : GoT l E Y kc ks pc' (x0 :: x1 :: x2 :: x3 :: some (.int (iz a)) :: rl) (.int (iz a) :: st) w Tg) : GoT l E Y kc ks pc (x0 :: x1 :: x2 :: x3 :: some (.int (iz a)) :: rl) st w Tg := g_iloadX (i := 4) hd hp rfl h
theorem g_iload5 {a : Int} {x0 x1 x2 x3 x4 : Option Value} {rl : List (Option Value)} (hd : decode Y.2.1 pc = .ok (.iload 5, 2)) (hp : pc + 2 = pc') (h : GoT l E Y kc ks pc' (x0 :: x1 :: x2 :: x3 :: x4 :: some (.int (iz a)) :: rl) (.int (iz a) :: st) w Tg) : GoT l E Y kc ks pc (x0 :: x1 :: x2 :: x3 :: x4 :: some (.int (iz a)) :: rl) st w Tg := g_iloadX (i := 5) hd hp rfl h
theorem g_iload6 {a : Int} {x0 x1 x2 x3 x4 x5 : Option Value} {rl : List (Option Value)} (hd : decode Y.2.1 pc = .ok (.iload 6, 2)) (hp : pc + 2 = pc') (h : GoT l E Y kc ks pc' (x0 :: x1 :: x2 :: x3 :: x4 :: x5 :: some (.int (iz a)) :: rl) (.int (iz a) :: st) w Tg) : GoT l E Y kc ks pc (x0 :: x1 :: x2 :: x3 :: x4 :: x5 :: some (.int (iz a)) :: rl) st w Tg := g_iloadX (i := 6) hd hp rfl h
theorem g_iload7 {a : Int} {x0 x1 x2 x3 x4 x5 x6 : Option Value} {rl : List (Option Value)} (hd : decode Y.2.1 pc = .ok (.iload 7, 2)) (hp : pc + 2 = pc') (h : GoT l E Y kc ks pc' (x0 :: x1 :: x2 :: x3 :: x4 :: x5 :: x6 :: some (.int (iz a)) :: rl) (.int (iz a) :: st) w Tg) : GoT l E Y kc ks pc (x0 :: x1 :: x2 :: x3 :: x4 :: x5 :: x6 :: some (.int (iz a)) :: rl) st w Tg := g_iloadX (i := 7) hd hp rfl h
theorem g_iload8 {a : Int} {x0 x1 x2 x3 x4 x5 x6 x7 : Option Value} {rl : List (Option Value)} (hd : decode Y.2.1 pc = .ok (.iload 8, 2)) (hp : pc + 2 = pc') (h : GoT l E Y kc ks pc' (x0 :: x1 :: x2 :: x3 :: x4 :: x5 :: x6 :: x7 :: some (.int (iz a)) :: rl) (.int (iz a) :: st) w Tg) : GoT l E Y kc ks pc (x0 :: x1 :: x2 :: x3 :: x4 :: x5 :: x6 :: x7 :: some (.int (iz a)) :: rl) st w Tg := g_iloadX (i := 8) hd hp rfl h
theorem g_iload9 {a : Int} {x0 x1 x2 x3 x4 x5 x6 x7 x8 : Option Value} {rl : List (Option Value)} (hd : decode Y.2.1 pc = .ok (.iload 9, 2)) (hp : pc + 2 = pc') (h : GoT l E Y kc ks pc' (x0 :: x1 :: x2 :: x3 :: x4 :: x5 :: x6 :: x7 :: x8 :: some (.int (iz a)) :: rl) (.int (iz a) :: st) w Tg) : GoT l E Y kc ks pc (x0 :: x1 :: x2 :: x3 :: x4 :: x5 :: x6 :: x7 :: x8 :: some (.int (iz a)) :: rl) st w Tg := g_iloadX (i := 9) hd hp rfl h
theorem g_iload10 {a : Int} {x0 x1 x2 x3 x4 x5 x6 x7 x8 x9 : Option Value} {rl : List (Option Value)} (hd : decode Y.2.1 pc = .ok (.iload 10, 2)) (hp : pc + 2 = pc') (h : GoT l E Y kc ks pc' (x0 :: x1 :: x2 :: x3 :: x4 :: x5 :: x6 :: x7 :: x8 :: x9 :: some (.int (iz a)) :: rl) (.int (iz a) :: st) w Tg) : GoT l E Y kc ks pc (x0 :: x1 :: x2 :: x3 :: x4 :: x5 :: x6 :: x7 :: x8 :: x9 :: some (.int (iz a)) :: rl) st w Tg := g_iloadX (i := 10) hd hp rfl h
theorem g_iload11 {a : Int} {x0 x1 x2 x3 x4 x5 x6 x7 x8 x9 x10 : Option Value} {rl : List (Option Value)} (hd : decode Y.2.1 pc = .ok (.iload 11, 2)) (hp : pc + 2 = pc') (h : GoT l E Y kc ks pc' (x0 :: x1 :: x2 :: x3 :: x4 :: x5 :: x6 :: x7 :: x8 :: x9 :: x10 :: some (.int (iz a)) :: rl) (.int (iz a) :: st) w Tg) : GoT l E Y kc ks pc (x0 :: x1 :: x2 :: x3 :: x4 :: x5 :: x6 :: x7 :: x8 :: x9 :: x10 :: some (.int (iz a)) :: rl) st w Tg := g_iloadX (i := 11) hd hp rfl h
theorem g_iload12 {a : Int} {x0 x1 x2 x3 x4 x5 x6 x7 x8 x9 x10 x11 : Option Value} {rl : List (Option Value)} (hd : decode Y.2.1 pc = .ok (.iload 12, 2)) (hp : pc + 2 = pc') (h : GoT l E Y kc ks pc' (x0 :: x1 :: x2 :: x3 :: x4 :: x5 :: x6 :: x7 :: x8 :: x9 :: x10 :: x11 :: some (.int (iz a)) :: rl) (.int (iz a) :: st) w Tg) : GoT l E Y kc ks pc (x0 :: x1 :: x2 :: x3 :: x4 :: x5 :: x6 :: x7 :: x8 :: x9 :: x10 :: x11 :: some (.int (iz a)) :: rl) st w Tg := g_iloadX (i := 12) hd hp rfl h
theorem g_iload13 {a : Int} {x0 x1 x2 x3 x4 x5 x6 x7 x8 x9 x10 x11 x12 : Option Value} {rl : List (Option Value)} (hd : decode Y.2.1 pc = .ok (.iload 13, 2)) (hp : pc + 2 = pc') (h : GoT l E Y kc ks pc' (x0 :: x1 :: x2 :: x3 :: x4 :: x5 :: x6 :: x7 :: x8 :: x9 :: x10 :: x11 :: x12 :: some (.int (iz a)) :: rl) (.int (iz a) :: st) w Tg) : GoT l E Y kc ks pc (x0 :: x1 :: x2 :: x3 :: x4 :: x5 :: x6 :: x7 :: x8 :: x9 :: x10 :: x11 :: x12 :: some (.int (iz a)) :: rl) st w Tg := g_iloadX (i := 13) hd hp rfl h
theorem g_aload0 {a : Nat} {rl : List (Option Value)} (hd : decode Y.2.1 pc = .ok (.aload_n 0, 1)) (hp : pc + 1 = pc') (h : GoT l E Y kc ks pc' (some (.ref a) :: rl) (.ref a :: st) w Tg) : GoT l E Y kc ks pc (some (.ref a) :: rl) st w Tg := g_aloadN (i := 0) hd hp rfl h
theorem g_aload1 {a : Nat} {x0 : Option Value} {rl : List (Option Value)} (hd : decode Y.2.1 pc = .ok (.aload_n 1, 1)) (hp : pc + 1 = pc') (h : GoT l E Y kc ks pc' (x0 :: some (.ref a) :: rl) (.ref a :: st) w Tg) : GoT l E Y kc ks pc (x0 :: some (.ref a) :: rl) st w Tg := g_aloadN (i := 1) hd hp rfl h
theorem g_aload2 {a : Nat} {x0 x1 : Option Value} {rl : List (Option Value)} (hd : decode Y.2.1 pc = .ok (.aload_n 2, 1)) (hp : pc + 1 = pc') (h : GoT l E Y kc ks pc' (x0 :: x1 :: some (.ref a) :: rl) (.ref a :: st) w Tg) : GoT l E Y kc ks pc (x0 :: x1 :: some (.ref a) :: rl) st w Tg := g_aloadN (i := 2) hd hp rfl h
theorem g_aload3 {a : Nat} {x0 x1 x2 : Option Value} {rl : List (Option Value)} (hd : decode Y.2.1 pc = .ok (.aload_n 3, 1)) (hp : pc + 1 = pc') (h : GoT l E Y kc ks pc' (x0 :: x1 :: x2 :: some (.ref a) :: rl) (.ref a :: st) w Tg) : GoT l E Y kc ks pc (x0 :: x1 :: x2 :: some (.ref a) :: rl) st w Tg := g_aloadN (i := 3) hd hp rfl h
theorem g_aload4 {a : Nat} {x0 x1 x2 x3 : Option Value} {rl : List (Option Value)} (hd : decode Y.2.1 pc = .ok (.aload 4, 2)) (hp : pc + 2 = pc') (h : GoT l E Y kc ks pc' (x0 :: x1 :: x2 :: x3 :: some (.ref a) :: rl) (.ref a :: st) w Tg) : GoT l E Y kc ks pc (x0 :: x1 :: x2 :: x3 :: some (.ref a) :: rl) st w Tg := g_aloadX (i := 4) hd hp rfl h
theorem g_aload5 {a : Nat} {x0 x1 x2 x3 x4 : Option Value} {rl : List (Option Value)} (hd : decode Y.2.1 pc = .ok (.aload 5, 2)) (hp : pc + 2 = pc') (h : GoT l E Y kc ks pc' (x0 :: x1 :: x2 :: x3 :: x4 :: some (.ref a) :: rl) (.ref a :: st) w Tg) : GoT l E Y kc ks pc (x0 :: x1 :: x2 :: x3 :: x4 :: some (.ref a) :: rl) st w Tg := g_aloadX (i := 5) hd hp rfl h
theorem g_aload6 {a : Nat} {x0 x1 x2 x3 x4 x5 : Option Value} {rl : List (Option Value)} (hd : decode Y.2.1 pc = .ok (.aload 6, 2)) (hp : pc + 2 = pc') (h : GoT l E Y kc ks pc' (x0 :: x1 :: x2 :: x3 :: x4 :: x5 :: some (.ref a) :: rl) (.ref a :: st) w Tg) : GoT l E Y kc ks pc (x0 :: x1 :: x2 :: x3 :: x4 :: x5 :: some (.ref a) :: rl) st w Tg := g_aloadX (i := 6) hd hp rfl h
theorem g_aload7 {a : Nat} {x0 x1 x2 x3 x4 x5 x6 : Option Value} {rl : List (Option Value)} (hd : decode Y.2.1 pc = .ok (.aload 7, 2)) (hp : pc + 2 = pc') (h : GoT l E Y kc ks pc' (x0 :: x1 :: x2 :: x3 :: x4 :: x5 :: x6 :: some (.ref a) :: rl) (.ref a :: st) w Tg) : GoT l E Y kc ks pc (x0 :: x1 :: x2 :: x3 :: x4 :: x5 :: x6 :: some (.ref a) :: rl) st w Tg := g_aloadX (i := 7) hd hp rfl h
theorem g_aload8 {a : Nat} {x0 x1 x2 x3 x4 x5 x6 x7 : Option Value} {rl : List (Option Value)} (hd : decode Y.2.1 pc = .ok (.aload 8, 2)) (hp : pc + 2 = pc') (h : GoT l E Y kc ks pc' (x0 :: x1 :: x2 :: x3 :: x4 :: x5 :: x6 :: x7 :: some (.ref a) :: rl) (.ref a :: st) w Tg) : GoT l E Y kc ks pc (x0 :: x1 :: x2 :: x3 :: x4 :: x5 :: x6 :: x7 :: some (.ref a) :: rl) st w Tg := g_aloadX (i := 8) hd hp rfl h
theorem g_aload9 {a : Nat} {x0 x1 x2 x3 x4 x5 x6 x7 x8 : Option Value} {rl : List (Option Value)} (hd : decode Y.2.1 pc = .ok (.aload 9, 2)) (hp : pc + 2 = pc') (h : GoT l E Y kc ks pc' (x0 :: x1 :: x2 :: x3 :: x4 :: x5 :: x6 :: x7 :: x8 :: some (.ref a) :: rl) (.ref a :: st) w Tg) : GoT l E Y kc ks pc (x0 :: x1 :: x2 :: x3 :: x4 :: x5 :: x6 :: x7 :: x8 :: some (.ref a) :: rl) st w Tg := g_aloadX (i := 9) hd hp rfl h
theorem g_aload10 {a : Nat} {x0 x1 x2 x3 x4 x5 x6 x7 x8 x9 : Option Value} {rl : List (Option Value)} (hd : decode Y.2.1 pc = .ok (.aload 10, 2)) (hp : pc + 2 = pc') (h : GoT l E Y kc ks pc' (x0 :: x1 :: x2 :: x3 :: x4 :: x5 :: x6 :: x7 :: x8 :: x9 :: some (.ref a) :: rl) (.ref a :: st) w Tg) : GoT l E Y kc ks pc (x0 :: x1 :: x2 :: x3 :: x4 :: x5 :: x6 :: x7 :: x8 :: x9 :: some (.ref a) :: rl) st w Tg := g_aloadX (i := 10) hd hp rfl h
theorem g_aload11 {a : Nat} {x0 x1 x2 x3 x4 x5 x6 x7 x8 x9 x10 : Option Value} {rl : List (Option Value)} (hd : decode Y.2.1 pc = .ok (.aload 11, 2)) (hp : pc + 2 = pc') (h : GoT l E Y kc ks pc' (x0 :: x1 :: x2 :: x3 :: x4 :: x5 :: x6 :: x7 :: x8 :: x9 :: x10 :: some (.ref a) :: rl) (.ref a :: st) w Tg) : GoT l E Y kc ks pc (x0 :: x1 :: x2 :: x3 :: x4 :: x5 :: x6 :: x7 :: x8 :: x9 :: x10 :: some (.ref a) :: rl) st w Tg := g_aloadX (i := 11) hd hp rfl h
theorem g_aload12 {a : Nat} {x0 x1 x2 x3 x4 x5 x6 x7 x8 x9 x10 x11 : Option Value} {rl : List (Option Value)} (hd : decode Y.2.1 pc = .ok (.aload 12, 2)) (hp : pc + 2 = pc') (h : GoT l E Y kc ks pc' (x0 :: x1 :: x2 :: x3 :: x4 :: x5 :: x6 :: x7 :: x8 :: x9 :: x10 :: x11 :: some (.ref a) :: rl) (.ref a :: st) w Tg) : GoT l E Y kc ks pc (x0 :: x1 :: x2 :: x3 :: x4 :: x5 :: x6 :: x7 :: x8 :: x9 :: x10 :: x11 :: some (.ref a) :: rl) st w Tg := g_aloadX (i := 12) hd hp rfl h
theorem g_aload13 {a : Nat} {x0 x1 x2 x3 x4 x5 x6 x7 x8 x9 x10 x11 x12 : Option Value} {rl : List (Option Value)} (hd : decode Y.2.1 pc = .ok (.aload 13, 2)) (hp : pc + 2 = pc') (h : GoT l E Y kc ks pc' (x0 :: x1 :: x2 :: x3 :: x4 :: x5 :: x6 :: x7 :: x8 :: x9 :: x10 :: x11 :: x12 :: some (.ref a) :: rl) (.ref a :: st) w Tg) : GoT l E Y kc ks pc (x0 :: x1 :: x2 :: x3 :: x4 :: x5 :: x6 :: x7 :: x8 :: x9 :: x10 :: x11 :: x12 :: some (.ref a) :: rl) st w Tg := g_aloadX (i := 13) hd hp rfl h
theorem g_lload0 {a : Int64} {rl : List (Option Value)} (hd : decode Y.2.1 pc = .ok (.lload_n 0, 1)) (hp : pc + 1 = pc') (h : GoT l E Y kc ks pc' (some (.long a) :: rl) (.long a :: st) w Tg) : GoT l E Y kc ks pc (some (.long a) :: rl) st w Tg := g_lloadN (i := 0) hd hp rfl h
theorem g_lload1 {a : Int64} {x0 : Option Value} {rl : List (Option Value)} (hd : decode Y.2.1 pc = .ok (.lload_n 1, 1)) (hp : pc + 1 = pc') (h : GoT l E Y kc ks pc' (x0 :: some (.long a) :: rl) (.long a :: st) w Tg) : GoT l E Y kc ks pc (x0 :: some (.long a) :: rl) st w Tg := g_lloadN (i := 1) hd hp rfl h
theorem g_lload2 {a : Int64} {x0 x1 : Option Value} {rl : List (Option Value)} (hd : decode Y.2.1 pc = .ok (.lload_n 2, 1)) (hp : pc + 1 = pc') (h : GoT l E Y kc ks pc' (x0 :: x1 :: some (.long a) :: rl) (.long a :: st) w Tg) : GoT l E Y kc ks pc (x0 :: x1 :: some (.long a) :: rl) st w Tg := g_lloadN (i := 2) hd hp rfl h
theorem g_lload3 {a : Int64} {x0 x1 x2 : Option Value} {rl : List (Option Value)} (hd : decode Y.2.1 pc = .ok (.lload_n 3, 1)) (hp : pc + 1 = pc') (h : GoT l E Y kc ks pc' (x0 :: x1 :: x2 :: some (.long a) :: rl) (.long a :: st) w Tg) : GoT l E Y kc ks pc (x0 :: x1 :: x2 :: some (.long a) :: rl) st w Tg := g_lloadN (i := 3) hd hp rfl h
theorem g_lload4 {a : Int64} {x0 x1 x2 x3 : Option Value} {rl : List (Option Value)} (hd : decode Y.2.1 pc = .ok (.lload 4, 2)) (hp : pc + 2 = pc') (h : GoT l E Y kc ks pc' (x0 :: x1 :: x2 :: x3 :: some (.long a) :: rl) (.long a :: st) w Tg) : GoT l E Y kc ks pc (x0 :: x1 :: x2 :: x3 :: some (.long a) :: rl) st w Tg := g_lloadX (i := 4) hd hp rfl h
theorem g_lload5 {a : Int64} {x0 x1 x2 x3 x4 : Option Value} {rl : List (Option Value)} (hd : decode Y.2.1 pc = .ok (.lload 5, 2)) (hp : pc + 2 = pc') (h : GoT l E Y kc ks pc' (x0 :: x1 :: x2 :: x3 :: x4 :: some (.long a) :: rl) (.long a :: st) w Tg) : GoT l E Y kc ks pc (x0 :: x1 :: x2 :: x3 :: x4 :: some (.long a) :: rl) st w Tg := g_lloadX (i := 5) hd hp rfl h
theorem g_lload6 {a : Int64} {x0 x1 x2 x3 x4 x5 : Option Value} {rl : List (Option Value)} (hd : decode Y.2.1 pc = .ok (.lload 6, 2)) (hp : pc + 2 = pc') (h : GoT l E Y kc ks pc' (x0 :: x1 :: x2 :: x3 :: x4 :: x5 :: some (.long a) :: rl) (.long a :: st) w Tg) : GoT l E Y kc ks pc (x0 :: x1 :: x2 :: x3 :: x4 :: x5 :: some (.long a) :: rl) st w Tg := g_lloadX (i := 6) hd hp rfl h
theorem g_lload7 {a : Int64} {x0 x1 x2 x3 x4 x5 x6 : Option Value} {rl : List (Option Value)} (hd : decode Y.2.1 pc = .ok (.lload 7, 2)) (hp : pc + 2 = pc') (h : GoT l E Y kc ks pc' (x0 :: x1 :: x2 :: x3 :: x4 :: x5 :: x6 :: some (.long a) :: rl) (.long a :: st) w Tg) : GoT l E Y kc ks pc (x0 :: x1 :: x2 :: x3 :: x4 :: x5 :: x6 :: some (.long a) :: rl) st w Tg := g_lloadX (i := 7) hd hp rfl h
theorem g_lload8 {a : Int64} {x0 x1 x2 x3 x4 x5 x6 x7 : Option Value} {rl : List (Option Value)} (hd : decode Y.2.1 pc = .ok (.lload 8, 2)) (hp : pc + 2 = pc') (h : GoT l E Y kc ks pc' (x0 :: x1 :: x2 :: x3 :: x4 :: x5 :: x6 :: x7 :: some (.long a) :: rl) (.long a :: st) w Tg) : GoT l E Y kc ks pc (x0 :: x1 :: x2 :: x3 :: x4 :: x5 :: x6 :: x7 :: some (.long a) :: rl) st w Tg := g_lloadX (i := 8) hd hp rfl h
theorem g_lload9 {a : Int64} {x0 x1 x2 x3 x4 x5 x6 x7 x8 : Option Value} {rl : List (Option Value)} (hd : decode Y.2.1 pc = .ok (.lload 9, 2)) (hp : pc + 2 = pc') (h : GoT l E Y kc ks pc' (x0 :: x1 :: x2 :: x3 :: x4 :: x5 :: x6 :: x7 :: x8 :: some (.long a) :: rl) (.long a :: st) w Tg) : GoT l E Y kc ks pc (x0 :: x1 :: x2 :: x3 :: x4 :: x5 :: x6 :: x7 :: x8 :: some (.long a) :: rl) st w Tg := g_lloadX (i := 9) hd hp rfl h
theorem g_lload10 {a : Int64} {x0 x1 x2 x3 x4 x5 x6 x7 x8 x9 : Option Value} {rl : List (Option Value)} (hd : decode Y.2.1 pc = .ok (.lload 10, 2)) (hp : pc + 2 = pc') (h : GoT l E Y kc ks pc' (x0 :: x1 :: x2 :: x3 :: x4 :: x5 :: x6 :: x7 :: x8 :: x9 :: some (.long a) :: rl) (.long a :: st) w Tg) : GoT l E Y kc ks pc (x0 :: x1 :: x2 :: x3 :: x4 :: x5 :: x6 :: x7 :: x8 :: x9 :: some (.long a) :: rl) st w Tg := g_lloadX (i := 10) hd hp rfl h
theorem g_lload11 {a : Int64} {x0 x1 x2 x3 x4 x5 x6 x7 x8 x9 x10 : Option Value} {rl : List (Option Value)} (hd : decode Y.2.1 pc = .ok (.lload 11, 2)) (hp : pc + 2 = pc') (h : GoT l E Y kc ks pc' (x0 :: x1 :: x2 :: x3 :: x4 :: x5 :: x6 :: x7 :: x8 :: x9 :: x10 :: some (.long a) :: rl) (.long a :: st) w Tg) : GoT l E Y kc ks pc (x0 :: x1 :: x2 :: x3 :: x4 :: x5 :: x6 :: x7 :: x8 :: x9 :: x10 :: some (.long a) :: rl) st w Tg := g_lloadX (i := 11) hd hp rfl h
theorem g_lload12 {a : Int64} {x0 x1 x2 x3 x4 x5 x6 x7 x8 x9 x10 x11 : Option Value} {rl : List (Option Value)} (hd : decode Y.2.1 pc = .ok (.lload 12, 2)) (hp : pc + 2 = pc') (h : GoT l E Y kc ks pc' (x0 :: x1 :: x2 :: x3 :: x4 :: x5 :: x6 :: x7 :: x8 :: x9 :: x10 :: x11 :: some (.long a) :: rl) (.long a :: st) w Tg) : GoT l E Y kc ks pc (x0 :: x1 :: x2 :: x3 :: x4 :: x5 :: x6 :: x7 :: x8 :: x9 :: x10 :: x11 :: some (.long a) :: rl) st w Tg := g_lloadX (i := 12) hd hp rfl h
theorem g_lload13 {a : Int64} {x0 x1 x2 x3 x4 x5 x6 x7 x8 x9 x10 x11 x12 : Option Value} {rl : List (Option Value)} (hd : decode Y.2.1 pc = .ok (.lload 13, 2)) (hp : pc + 2 = pc') (h : GoT l E Y kc ks pc' (x0 :: x1 :: x2 :: x3 :: x4 :: x5 :: x6 :: x7 :: x8 :: x9 :: x10 :: x11 :: x12 :: some (.long a) :: rl) (.long a :: st) w Tg) : GoT l E Y kc ks pc (x0 :: x1 :: x2 :: x3 :: x4 :: x5 :: x6 :: x7 :: x8 :: x9 :: x10 :: x11 :: x12 :: some (.long a) :: rl) st w Tg := g_lloadX (i := 13) hd hp rfl h
theorem g_dload0 {a : UInt64} {rl : List (Option Value)} (hd : decode Y.2.1 pc = .ok (.dload_n 0, 1)) (hp : pc + 1 = pc') (h : GoT l E Y kc ks pc' (some (.double a) :: rl) (.double a :: st) w Tg) : GoT l E Y kc ks pc (some (.double a) :: rl) st w Tg := g_dloadN (i := 0) hd hp rfl h
theorem g_dload1 {a : UInt64} {x0 : Option Value} {rl : List (Option Value)} (hd : decode Y.2.1 pc = .ok (.dload_n 1, 1)) (hp : pc + 1 = pc') (h : GoT l E Y kc ks pc' (x0 :: some (.double a) :: rl) (.double a :: st) w Tg) : GoT l E Y kc ks pc (x0 :: some (.double a) :: rl) st w Tg := g_dloadN (i := 1) hd hp rfl h
theorem g_dload2 {a : UInt64} {x0 x1 : Option Value} {rl : List (Option Value)} (hd : decode Y.2.1 pc = .ok (.dload_n 2, 1)) (hp : pc + 1 = pc') (h : GoT l E Y kc ks pc' (x0 :: x1 :: some (.double a) :: rl) (.double a :: st) w Tg) : GoT l E Y kc ks pc (x0 :: x1 :: some (.double a) :: rl) st w Tg := g_dloadN (i := 2) hd hp rfl h
theorem g_dload3 {a : UInt64} {x0 x1 x2 : Option Value} {rl : List (Option Value)} (hd : decode Y.2.1 pc = .ok (.dload_n 3, 1)) (hp : pc + 1 = pc') (h : GoT l E Y kc ks pc' (x0 :: x1 :: x2 :: some (.double a) :: rl) (.double a :: st) w Tg) : GoT l E Y kc ks pc (x0 :: x1 :: x2 :: some (.double a) :: rl) st w Tg := g_dloadN (i := 3) hd hp rfl h
theorem g_dload4 {a : UInt64} {x0 x1 x2 x3 : Option Value} {rl : List (Option Value)} (hd : decode Y.2.1 pc = .ok (.dload 4, 2)) (hp : pc + 2 = pc') (h : GoT l E Y kc ks pc' (x0 :: x1 :: x2 :: x3 :: some (.double a) :: rl) (.double a :: st) w Tg) : GoT l E Y kc ks pc (x0 :: x1 :: x2 :: x3 :: some (.double a) :: rl) st w Tg := g_dloadX (i := 4) hd hp rfl h
theorem g_dload5 {a : UInt64} {x0 x1 x2 x3 x4 : Option Value} {rl : List (Option Value)} (hd : decode Y.2.1 pc = .ok (.dload 5, 2)) (hp : pc + 2 = pc') (h : GoT l E Y kc ks pc' (x0 :: x1 :: x2 :: x3 :: x4 :: some (.double a) :: rl) (.double a :: st) w Tg) : GoT l E Y kc ks pc (x0 :: x1 :: x2 :: x3 :: x4 :: some (.double a) :: rl) st w Tg := g_dloadX (i := 5) hd hp rfl h
theorem g_dload6 {a : UInt64} {x0 x1 x2 x3 x4 x5 : Option Value} {rl : List (Option Value)} (hd : decode Y.2.1 pc = .ok (.dload 6, 2)) (hp : pc + 2 = pc') (h : GoT l E Y kc ks pc' (x0 :: x1 :: x2 :: x3 :: x4 :: x5 :: some (.double a) :: rl) (.double a :: st) w Tg) : GoT l E Y kc ks pc (x0 :: x1 :: x2 :: x3 :: x4 :: x5 :: some (.double a) :: rl) st w Tg := g_dloadX (i := 6) hd hp rfl h
theorem g_dload7 {a : UInt64} {x0 x1 x2 x3 x4 x5 x6 : Option Value} {rl : List (Option Value)} (hd : decode Y.2.1 pc = .ok (.dload 7, 2)) (hp : pc + 2 = pc') (h : GoT l E Y kc ks pc' (x0 :: x1 :: x2 :: x3 :: x4 :: x5 :: x6 :: some (.double a) :: rl) (.double a :: st) w Tg) : GoT l E Y kc ks pc (x0 :: x1 :: x2 :: x3 :: x4 :: x5 :: x6 :: some (.double a) :: rl) st w Tg := g_dloadX (i := 7) hd hp rfl h
theorem g_dload8 {a : UInt64} {x0 x1 x2 x3 x4 x5 x6 x7 : Option Value} {rl : List (Option Value)} (hd : decode Y.2.1 pc = .ok (.dload 8, 2)) (hp : pc + 2 = pc') (h : GoT l E Y kc ks pc' (x0 :: x1 :: x2 :: x3 :: x4 :: x5 :: x6 :: x7 :: some (.double a) :: rl) (.double a :: st) w Tg) : GoT l E Y kc ks pc (x0 :: x1 :: x2 :: x3 :: x4 :: x5 :: x6 :: x7 :: some (.double a) :: rl) st w Tg := g_dloadX (i := 8) hd hp rfl h
theorem g_dload9 {a : UInt64} {x0 x1 x2 x3 x4 x5 x6 x7 x8 : Option Value} {rl : List (Option Value)} (hd : decode Y.2.1 pc = .ok (.dload 9, 2)) (hp : pc + 2 = pc') (h : GoT l E Y kc ks pc' (x0 :: x1 :: x2 :: x3 :: x4 :: x5 :: x6 :: x7 :: x8 :: some (.double a) :: rl) (.double a :: st) w Tg) : GoT l E Y kc ks pc (x0 :: x1 :: x2 :: x3 :: x4 :: x5 :: x6 :: x7 :: x8 :: some (.double a) :: rl) st w Tg := g_dloadX (i := 9) hd hp rfl h
theorem g_dload10 {a : UInt64} {x0 x1 x2 x3 x4 x5 x6 x7 x8 x9 : Option Value} {rl : List (Option Value)} (hd : decode Y.2.1 pc = .ok (.dload 10, 2)) (hp : pc + 2 = pc') (h : GoT l E Y kc ks pc' (x0 :: x1 :: x2 :: x3 :: x4 :: x5 :: x6 :: x7 :: x8 :: x9 :: some (.double a) :: rl) (.double a :: st) w Tg) : GoT l E Y kc ks pc (x0 :: x1 :: x2 :: x3 :: x4 :: x5 :: x6 :: x7 :: x8 :: x9 :: some (.double a) :: rl) st w Tg := g_dloadX (i := 10) hd hp rfl h
theorem g_dload11 {a : UInt64} {x0 x1 x2 x3 x4 x5 x6 x7 x8 x9 x10 : Option Value} {rl : List (Option Value)} (hd : decode Y.2.1 pc = .ok (.dload 11, 2)) (hp : pc + 2 = pc') (h : GoT l E Y kc ks pc' (x0 :: x1 :: x2 :: x3 :: x4 :: x5 :: x6 :: x7 :: x8 :: x9 :: x10 :: some (.double a) :: rl) (.double a :: st) w Tg) : GoT l E Y kc ks pc (x0 :: x1 :: x2 :: x3 :: x4 :: x5 :: x6 :: x7 :: x8 :: x9 :: x10 :: some (.double a) :: rl) st w Tg := g_dloadX (i := 11) hd hp rfl h
theorem g_dload12 {a : UInt64} {x0 x1 x2 x3 x4 x5 x6 x7 x8 x9 x10 x11 : Option Value} {rl : List (Option Value)} (hd : decode Y.2.1 pc = .ok (.dload 12, 2)) (hp : pc + 2 = pc') (h : GoT l E Y kc ks pc' (x0 :: x1 :: x2 :: x3 :: x4 :: x5 :: x6 :: x7 :: x8 :: x9 :: x10 :: x11 :: some (.double a) :: rl) (.double a :: st) w Tg) : GoT l E Y kc ks pc (x0 :: x1 :: x2 :: x3 :: x4 :: x5 :: x6 :: x7 :: x8 :: x9 :: x10 :: x11 :: some (.double a) :: rl) st w Tg := g_dloadX (i := 12) hd hp rfl h
theorem g_dload13 {a : UInt64} {x0 x1 x2 x3 x4 x5 x6 x7 x8 x9 x10 x11 x12 : Option Value} {rl : List (Option Value)} (hd : decode Y.2.1 pc = .ok (.dload 13, 2)) (hp : pc + 2 = pc') (h : GoT l E Y kc ks pc' (x0 :: x1 :: x2 :: x3 :: x4 :: x5 :: x6 :: x7 :: x8 :: x9 :: x10 :: x11 :: x12 :: some (.double a) :: rl) (.double a :: st) w Tg) : GoT l E Y kc ks pc (x0 :: x1 :: x2 :: x3 :: x4 :: x5 :: x6 :: x7 :: x8 :: x9 :: x10 :: x11 :: x12 :: some (.double a) :: rl) st w Tg := g_dloadX (i := 13) hd hp rfl h
theorem g_istoreN {a : Int} {i : Fin 4} (hd : decode Y.2.1 pc = .ok (.istore_n i, 1)) (hp : pc + 1 = pc') (hi : (i : Nat) < Y.2.2.1) (hc : ∀ u, L[(i : Nat) - 1]? = some (some u) → (i : Nat) ≠ 0 → okc (some u) = true) (h : GoT l E Y kc ks pc' (L.set (i : Nat) (some (.int (iz a)))) st w Tg) : GoT l E Y kc ks pc L (.int (iz a) :: st) w Tg := by
  intro p e s m args below meth c H locs ls C hH hS hl
  obtain ⟨hx, hb, hml, hr, ho, hts, hK, hlk, hnm, hbs⟩ := id C
  subst hp
  refine lv_istore_n hx hb hd rfl hl hi rfl (fun ls' hl' => ?_)
  exact h p e s m args below meth c H locs ls' C hH hS (q_l_set1 hl' hc)
theorem g_istoreX {a : Int} {i : Nat} (hd : decode Y.2.1 pc = .ok (.istore i, 2)) (hp : pc + 2 = pc') (hi : i < Y.2.2.1) (hc : ∀ u, L[i - 1]? = some (some u) → i ≠ 0 → okc (some u) = true) (h : GoT l E Y kc ks pc' (L.set i (some (.int (iz a)))) st w Tg) : GoT l E Y kc ks pc L (.int (iz a) :: st) w Tg := by
  intro p e s m args below meth c H locs ls C hH hS hl
  obtain ⟨hx, hb, hml, hr, ho, hts, hK, hlk, hnm, hbs⟩ := id C
  subst hp
  refine lv_istore hx hb hd hl hi rfl (fun ls' hl' => ?_)
  exact h p e s m args below meth c H locs ls' C hH hS (q_l_set1 hl' hc)
theorem g_astoreN {a : Nat} {i : Fin 4} (hd : decode Y.2.1 pc = .ok (.astore_n i, 1)) (hp : pc + 1 = pc') (hi : (i : Nat) < Y.2.2.1) (hc : ∀ u, L[(i : Nat) - 1]? = some (some u) → (i : Nat) ≠ 0 → okc (some u) = true) (h : GoT l E Y kc ks pc' (L.set (i : Nat) (some (.ref a))) st w Tg) : GoT l E Y kc ks pc L (.ref a :: st) w Tg := by
  intro p e s m args below meth c H locs ls C hH hS hl
  obtain ⟨hx, hb, hml, hr, ho, hts, hK, hlk, hnm, hbs⟩ := id C
  subst hp
  refine lv_astore_n hx hb hd rfl hl hi rfl (fun ls' hl' => ?_)
  exact h p e s m args below meth c H locs ls' C hH hS (q_l_set1 hl' hc)
theorem g_astoreX {a : Nat} {i : Nat} (hd : decode Y.2.1 pc = .ok (.astore i, 2)) (hp : pc + 2 = pc') (hi : i < Y.2.2.1) (hc : ∀ u, L[i - 1]? = some (some u) → i ≠ 0 → okc (some u) = true) (h : GoT l E Y kc ks pc' (L.set i (some (.ref a))) st w Tg) : GoT l E Y kc ks pc L (.ref a :: st) w Tg := by
  intro p e s m args below meth c H locs ls C hH hS hl
  obtain ⟨hx, hb, hml, hr, ho, hts, hK, hlk, hnm, hbs⟩ := id C
  subst hp
  refine lv_astore hx hb hd hl hi rfl (fun ls' hl' => ?_)
  exact h p e s m args below meth c H locs ls' C hH hS (q_l_set1 hl' hc)
theorem g_lstoreN {a : Int64} {i : Fin 4} (hd : decode Y.2.1 pc = .ok (.lstore_n i, 1)) (hp : pc + 1 = pc') (hi : (i : Nat) + 1 < Y.2.2.1) (hc : ∀ u, L[(i : Nat) - 1]? = some (some u) → (i : Nat) ≠ 0 → okc (some u) = true) (h : GoT l E Y kc ks pc' ((L.set (i : Nat) (some (.long a))).set ((i : Nat) + 1) none) st w Tg) : GoT l E Y kc ks pc L (.long a :: st) w Tg := by
  intro p e s m args below meth c H locs ls C hH hS hl
  obtain ⟨hx, hb, hml, hr, ho, hts, hK, hlk, hnm, hbs⟩ := id C
  subst hp
  refine lv_lstore_n hx hb hd rfl hl hi rfl (fun ls' hl' => ?_)
  exact h p e s m args below meth c H locs ls' C hH hS (q_l_set2 hl' hc)
theorem g_lstoreX {a : Int64} {i : Nat} (hd : decode Y.2.1 pc = .ok (.lstore i, 2)) (hp : pc + 2 = pc') (hi : i + 1 < Y.2.2.1) (hc : ∀ u, L[i - 1]? = some (some u) → i ≠ 0 → okc (some u) = true) (h : GoT l E Y kc ks pc' ((L.set i (some (.long a))).set (i + 1) none) st w Tg) : GoT l E Y kc ks pc L (.long a :: st) w Tg := by
  intro p e s m args below meth c H locs ls C hH hS hl
  obtain ⟨hx, hb, hml, hr, ho, hts, hK, hlk, hnm, hbs⟩ := id C
  subst hp
  refine lv_lstore hx hb hd hl hi rfl (fun ls' hl' => ?_)
  exact h p e s m args below meth c H locs ls' C hH hS (q_l_set2 hl' hc)
theorem g_dstoreN {a : UInt64} {i : Fin 4} (hd : decode Y.2.1 pc = .ok (.dstore_n i, 1)) (hp : pc + 1 = pc') (hi : (i : Nat) + 1 < Y.2.2.1) (hc : ∀ u, L[(i : Nat) - 1]? = some (some u) → (i : Nat) ≠ 0 → okc (some u) = true) (h : GoT l E Y kc ks pc' ((L.set (i : Nat) (some (.double a))).set ((i : Nat) + 1) none) st w Tg) : GoT l E Y kc ks pc L (.double a :: st) w Tg := by
  intro p e s m args below meth c H locs ls C hH hS hl
  obtain ⟨hx, hb, hml, hr, ho, hts, hK, hlk, hnm, hbs⟩ := id C
  subst hp
  refine lv_dstore_n hx hb hd rfl hl hi rfl (fun ls' hl' => ?_)
  exact h p e s m args below meth c H locs ls' C hH hS (q_l_set2 hl' hc)
theorem g_dstoreX {a : UInt64} {i : Nat} (hd : decode Y.2.1 pc = .ok (.dstore i, 2)) (hp : pc + 2 = pc') (hi : i + 1 < Y.2.2.1) (hc : ∀ u, L[i - 1]? = some (some u) → i ≠ 0 → okc (some u) = true) (h : GoT l E Y kc ks pc' ((L.set i (some (.double a))).set (i + 1) none) st w Tg) : GoT l E Y kc ks pc L (.double a :: st) w Tg := by
  intro p e s m args below meth c H locs ls C hH hS hl
  obtain ⟨hx, hb, hml, hr, ho, hts, hK, hlk, hnm, hbs⟩ := id C
  subst hp
  refine lv_dstore hx hb hd hl hi rfl (fun ls' hl' => ?_)
  exact h p e s m args below meth c H locs ls' C hH hS (q_l_set2 hl' hc)
theorem g_istore0 {a : Int} {y : Option Value} {rl : List (Option Value)} (hd : decode Y.2.1 pc = .ok (.istore_n 0, 1)) (hp : pc + 1 = pc') (hi : 0 < Y.2.2.1) (h : GoT l E Y kc ks pc' (some (.int (iz a)) :: rl) st w Tg) : GoT l E Y kc ks pc (y :: rl) (.int (iz a) :: st) w Tg := by
  refine g_istoreN (i := 0) hd hp hi (fun u _ h0 => absurd rfl h0) h
theorem g_istore1 {a : Int} {x0 : Option Value} {y : Option Value} {rl : List (Option Value)} (hd : decode Y.2.1 pc = .ok (.istore_n 1, 1)) (hp : pc + 1 = pc') (hi : 1 < Y.2.2.1) (hc : okc x0 = true) (h : GoT l E Y kc ks pc' (x0 :: some (.int (iz a)) :: rl) st w Tg) : GoT l E Y kc ks pc (x0 :: y :: rl) (.int (iz a) :: st) w Tg := by
  refine g_istoreN (i := 1) hd hp hi (fun u hu _ => ?_) h
  have e : x0 = some u := Option.some.inj (show some x0 = some (some u) from hu)
  rw [← e]; exact hc
theorem g_istore2 {a : Int} {x0 x1 : Option Value} {y : Option Value} {rl : List (Option Value)} (hd : decode Y.2.1 pc = .ok (.istore_n 2, 1)) (hp : pc + 1 = pc') (hi : 2 < Y.2.2.1) (hc : okc x1 = true) (h : GoT l E Y kc ks pc' (x0 :: x1 :: some (.int (iz a)) :: rl) st w Tg) : GoT l E Y kc ks pc (x0 :: x1 :: y :: rl) (.int (iz a) :: st) w Tg := by
  refine g_istoreN (i := 2) hd hp hi (fun u hu _ => ?_) h
  have e : x1 = some u := Option.some.inj (show some x1 = some (some u) from hu)
  rw [← e]; exact hc
theorem g_istore3 {a : Int} {x0 x1 x2 : Option Value} {y : Option Value} {rl : List (Option Value)} (hd : decode Y.2.1 pc = .ok (.istore_n 3, 1)) (hp : pc + 1 = pc') (hi : 3 < Y.2.2.1) (hc : okc x2 = true) (h : GoT l E Y kc ks pc' (x0 :: x1 :: x2 :: some (.int (iz a)) :: rl) st w Tg) : GoT l E Y kc ks pc (x0 :: x1 :: x2 :: y :: rl) (.int (iz a) :: st) w Tg := by
  refine g_istoreN (i := 3) hd hp hi (fun u hu _ => ?_) h
  have e : x2 = some u := Option.some.inj (show some x2 = some (some u) from hu)
  rw [← e]; exact hc
theorem g_istore4 {a : Int} {x0 x1 x2 x3 : Option Value} {y : Option Value} {rl : List (Option Value)} (hd : decode Y.2.1 pc = .ok (.istore 4, 2)) (hp : pc + 2 = pc') (hi : 4 < Y.2.2.1) (hc : okc x3 = true) (h : GoT l E Y kc ks pc' (x0 :: x1 :: x2 :: x3 :: some (.int (iz a)) :: rl) st w Tg) : GoT l E Y kc ks pc (x0 :: x1 :: x2 :: x3 :: y :: rl) (.int (iz a) :: st) w Tg := by
  refine g_istoreX (i := 4) hd hp hi (fun u hu _ => ?_) h
  have e : x3 = some u := Option.some.inj (show some x3 = some (some u) from hu)
  rw [← e]; exact hc
theorem g_istore5 {a : Int} {x0 x1 x2 x3 x4 : Option Value} {y : Option Value} {rl : List (Option Value)} (hd : decode Y.2.1 pc = .ok (.istore 5, 2)) (hp : pc + 2 = pc') (hi : 5 < Y.2.2.1) (hc : okc x4 = true) (h : GoT l E Y kc ks pc' (x0 :: x1 :: x2 :: x3 :: x4 :: some (.int (iz a)) :: rl) st w Tg) : GoT l E Y kc ks pc (x0 :: x1 :: x2 :: x3 :: x4 :: y :: rl) (.int (iz a) :: st) w Tg := by
  refine g_istoreX (i := 5) hd hp hi (fun u hu _ => ?_) h
  have e : x4 = some u := Option.some.inj (show some x4 = some (some u) from hu)
  rw [← e]; exact hc
theorem g_istore6 {a : Int} {x0 x1 x2 x3 x4 x5 : Option Value} {y : Option Value} {rl : List (Option Value)} (hd : decode Y.2.1 pc = .ok (.istore 6, 2)) (hp : pc + 2 = pc') (hi : 6 < Y.2.2.1) (hc : okc x5 = true) (h : GoT l E Y kc ks pc' (x0 :: x1 :: x2 :: x3 :: x4 :: x5 :: some (.int (iz a)) :: rl) st w Tg) : GoT l E Y kc ks pc (x0 :: x1 :: x2 :: x3 :: x4 :: x5 :: y :: rl) (.int (iz a) :: st) w Tg := by
  refine g_istoreX (i := 6) hd hp hi (fun u hu _ => ?_) h
  have e : x5 = some u := Option.some.inj (show some x5 = some (some u) from hu)
  rw [← e]; exact hc
theorem g_istore7 {a : Int} {x0 x1 x2 x3 x4 x5 x6 : Option Value} {y : Option Value} {rl : List (Option Value)} (hd : decode Y.2.1 pc = .ok (.istore 7, 2)) (hp : pc + 2 = pc') (hi : 7 < Y.2.2.1) (hc : okc x6 = true) (h : GoT l E Y kc ks pc' (x0 :: x1 :: x2 :: x3 :: x4 :: x5 :: x6 :: some (.int (iz a)) :: rl) st w Tg) : GoT l E Y kc ks pc (x0 :: x1 :: x2 :: x3 :: x4 :: x5 :: x6 :: y :: rl) (.int (iz a) :: st) w Tg := by
  refine g_istoreX (i := 7) hd hp hi (fun u hu _ => ?_) h
  have e : x6 = some u := Option.some.inj (show some x6 = some (some u) from hu)
  rw [← e]; exact hc
theorem g_istore8 {a : Int} {x0 x1 x2 x3 x4 x5 x6 x7 : Option Value} {y : Option Value} {rl : List (Option Value)} (hd : decode Y.2.1 pc = .ok (.istore 8, 2)) (hp : pc + 2 = pc') (hi : 8 < Y.2.2.1) (hc : okc x7 = true) (h : GoT l E Y kc ks pc' (x0 :: x1 :: x2 :: x3 :: x4 :: x5 :: x6 :: x7 :: some (.int (iz a)) :: rl) st w Tg) : GoT l E Y kc ks pc (x0 :: x1 :: x2 :: x3 :: x4 :: x5 :: x6 :: x7 :: y :: rl) (.int (iz a) :: st) w Tg := by
  refine g_istoreX (i := 8) hd hp hi (fun u hu _ => ?_) h
  have e : x7 = some u := Option.some.inj (show some x7 = some (some u) from hu)
  rw [← e]; exact hc
theorem g_istore9 {a : Int} {x0 x1 x2 x3 x4 x5 x6 x7 x8 : Option Value} {y : Option Value} {rl : List (Option Value)} (hd : decode Y.2.1 pc = .ok (.istore 9, 2)) (hp : pc + 2 = pc') (hi : 9 < Y.2.2.1) (hc : okc x8 = true) (h : GoT l E Y kc ks pc' (x0 :: x1 :: x2 :: x3 :: x4 :: x5 :: x6 :: x7 :: x8 :: some (.int (iz a)) :: rl) st w Tg) : GoT l E Y kc ks pc (x0 :: x1 :: x2 :: x3 :: x4 :: x5 :: x6 :: x7 :: x8 :: y :: rl) (.int (iz a) :: st) w Tg := by
  refine g_istoreX (i := 9) hd hp hi (fun u hu _ => ?_) h
  have e : x8 = some u := Option.some.inj (show some x8 = some (some u) from hu)
  rw [← e]; exact hc
theorem g_istore10 {a : Int} {x0 x1 x2 x3 x4 x5 x6 x7 x8 x9 : Option Value} {y : Option Value} {rl : List (Option Value)} (hd : decode Y.2.1 pc = .ok (.istore 10, 2)) (hp : pc + 2 = pc') (hi : 10 < Y.2.2.1) (hc : okc x9 = true) (h : GoT l E Y kc ks pc' (x0 :: x1 :: x2 :: x3 :: x4 :: x5 :: x6 :: x7 :: x8 :: x9 :: some (.int (iz a)) :: rl) st w Tg) : GoT l E Y kc ks pc (x0 :: x1 :: x2 :: x3 :: x4 :: x5 :: x6 :: x7 :: x8 :: x9 :: y :: rl) (.int (iz a) :: st) w Tg := by
  refine g_istoreX (i := 10) hd hp hi (fun u hu _ => ?_) h
  have e : x9 = some u := Option.some.inj (show some x9 = some (some u) from hu)
  rw [← e]; exact hc
theorem g_istore11 {a : Int} {x0 x1 x2 x3 x4 x5 x6 x7 x8 x9 x10 : Option Value} {y : Option Value} {rl : List (Option Value)} (hd : decode Y.2.1 pc = .ok (.istore 11, 2)) (hp : pc + 2 = pc') (hi : 11 < Y.2.2.1) (hc : okc x10 = true) (h : GoT l E Y kc ks pc' (x0 :: x1 :: x2 :: x3 :: x4 :: x5 :: x6 :: x7 :: x8 :: x9 :: x10 :: some (.int (iz a)) :: rl) st w Tg) : GoT l E Y kc ks pc (x0 :: x1 :: x2 :: x3 :: x4 :: x5 :: x6 :: x7 :: x8 :: x9 :: x10 :: y :: rl) (.int (iz a) :: st) w Tg := by
  refine g_istoreX (i := 11) hd hp hi (fun u hu _ => ?_) h
  have e : x10 = some u := Option.some.inj (show some x10 = some (some u) from hu)
  rw [← e]; exact hc
theorem g_istore12 {a : Int} {x0 x1 x2 x3 x4 x5 x6 x7 x8 x9 x10 x11 : Option Value} {y : Option Value} {rl : List (Option Value)} (hd : decode Y.2.1 pc = .ok (.istore 12, 2)) (hp : pc + 2 = pc') (hi : 12 < Y.2.2.1) (hc : okc x11 = true) (h : GoT l E Y kc ks pc' (x0 :: x1 :: x2 :: x3 :: x4 :: x5 :: x6 :: x7 :: x8 :: x9 :: x10 :: x11 :: some (.int (iz a)) :: rl) st w Tg) : GoT l E Y kc ks pc (x0 :: x1 :: x2 :: x3 :: x4 :: x5 :: x6 :: x7 :: x8 :: x9 :: x10 :: x11 :: y :: rl) (.int (iz a) :: st) w Tg := by
  refine g_istoreX (i := 12) hd hp hi (fun u hu _ => ?_) h
  have e : x11 = some u := Option.some.inj (show some x11 = some (some u) from hu)
  rw [← e]; exact hc
theorem g_istore13 {a : Int} {x0 x1 x2 x3 x4 x5 x6 x7 x8 x9 x10 x11 x12 : Option Value} {y : Option Value} {rl : List (Option Value)} (hd : decode Y.2.1 pc = .ok (.istore 13, 2)) (hp : pc + 2 = pc') (hi : 13 < Y.2.2.1) (hc : okc x12 = true) (h : GoT l E Y kc ks pc' (x0 :: x1 :: x2 :: x3 :: x4 :: x5 :: x6 :: x7 :: x8 :: x9 :: x10 :: x11 :: x12 :: some (.int (iz a)) :: rl) st w Tg) : GoT l E Y kc ks pc (x0 :: x1 :: x2 :: x3 :: x4 :: x5 :: x6 :: x7 :: x8 :: x9 :: x10 :: x11 :: x12 :: y :: rl) (.int (iz a) :: st) w Tg := by
  refine g_istoreX (i := 13) hd hp hi (fun u hu _ => ?_) h
  have e : x12 = some u := Option.some.inj (show some x12 = some (some u) from hu)
  rw [← e]; exact hc
theorem g_astore0 {a : Nat} {y : Option Value} {rl : List (Option Value)} (hd : decode Y.2.1 pc = .ok (.astore_n 0, 1)) (hp : pc + 1 = pc') (hi : 0 < Y.2.2.1) (h : GoT l E Y kc ks pc' (some (.ref a) :: rl) st w Tg) : GoT l E Y kc ks pc (y :: rl) (.ref a :: st) w Tg := by
  refine g_astoreN (i := 0) hd hp hi (fun u _ h0 => absurd rfl h0) h
theorem g_astore1 {a : Nat} {x0 : Option Value} {y : Option Value} {rl : List (Option Value)} (hd : decode Y.2.1 pc = .ok (.astore_n 1, 1)) (hp : pc + 1 = pc') (hi : 1 < Y.2.2.1) (hc : okc x0 = true) (h : GoT l E Y kc ks pc' (x0 :: some (.ref a) :: rl) st w Tg) : GoT l E Y kc ks pc (x0 :: y :: rl) (.ref a :: st) w Tg := by
  refine g_astoreN (i := 1) hd hp hi (fun u hu _ => ?_) h
  have e : x0 = some u := Option.some.inj (show some x0 = some (some u) from hu)
  rw [← e]; exact hc
theorem g_astore2 {a : Nat} {x0 x1 : Option Value} {y : Option Value} {rl : List (Option Value)} (hd : decode Y.2.1 pc = .ok (.astore_n 2, 1)) (hp : pc + 1 = pc') (hi : 2 < Y.2.2.1) (hc : okc x1 = true) (h : GoT l E Y kc ks pc' (x0 :: x1 :: some (.ref a) :: rl) st w Tg) : GoT l E Y kc ks pc (x0 :: x1 :: y :: rl) (.ref a :: st) w Tg := by
  refine g_astoreN (i := 2) hd hp hi (fun u hu _ => ?_) h
  have e : x1 = some u := Option.some.inj (show some x1 = some (some u) from hu)
  rw [← e]; exact hc
theorem g_astore3 {a : Nat} {x0 x1 x2 : Option Value} {y : Option Value} {rl : List (Option Value)} (hd : decode Y.2.1 pc = .ok (.astore_n 3, 1)) (hp : pc + 1 = pc') (hi : 3 < Y.2.2.1) (hc : okc x2 = true) (h : GoT l E Y kc ks pc' (x0 :: x1 :: x2 :: some (.ref a) :: rl) st w Tg) : GoT l E Y kc ks pc (x0 :: x1 :: x2 :: y :: rl) (.ref a :: st) w Tg := by
  refine g_astoreN (i := 3) hd hp hi (fun u hu _ => ?_) h
  have e : x2 = some u := Option.some.inj (show some x2 = some (some u) from hu)
  rw [← e]; exact hc
theorem g_astore4 {a : Nat} {x0 x1 x2 x3 : Option Value} {y : Option Value} {rl : List (Option Value)} (hd : decode Y.2.1 pc = .ok (.astore 4, 2)) (hp : pc + 2 = pc') (hi : 4 < Y.2.2.1) (hc : okc x3 = true) (h : GoT l E Y kc ks pc' (x0 :: x1 :: x2 :: x3 :: some (.ref a) :: rl) st w Tg) : GoT l E Y kc ks pc (x0 :: x1 :: x2 :: x3 :: y :: rl) (.ref a :: st) w Tg := by
  refine g_astoreX (i := 4) hd hp hi (fun u hu _ => ?_) h
  have e : x3 = some u := Option.some.inj (show some x3 = some (some u) from hu)
  rw [← e]; exact hc
theorem g_astore5 {a : Nat} {x0 x1 x2 x3 x4 : Option Value} {y : Option Value} {rl : List (Option Value)} (hd : decode Y.2.1 pc = .ok (.astore 5, 2)) (hp : pc + 2 = pc') (hi : 5 < Y.2.2.1) (hc : okc x4 = true) (h : GoT l E Y kc ks pc' (x0 :: x1 :: x2 :: x3 :: x4 :: some (.ref a) :: rl) st w Tg) : GoT l E Y kc ks pc (x0 :: x1 :: x2 :: x3 :: x4 :: y :: rl) (.ref a :: st) w Tg := by
  refine g_astoreX (i := 5) hd hp hi (fun u hu _ => ?_) h
  have e : x4 = some u := Option.some.inj (show some x4 = some (some u) from hu)
  rw [← e]; exact hc
theorem g_astore6 {a : Nat} {x0 x1 x2 x3 x4 x5 : Option Value} {y : Option Value} {rl : List (Option Value)} (hd : decode Y.2.1 pc = .ok (.astore 6, 2)) (hp : pc + 2 = pc') (hi : 6 < Y.2.2.1) (hc : okc x5 = true) (h : GoT l E Y kc ks pc' (x0 :: x1 :: x2 :: x3 :: x4 :: x5 :: some (.ref a) :: rl) st w Tg) : GoT l E Y kc ks pc (x0 :: x1 :: x2 :: x3 :: x4 :: x5 :: y :: rl) (.ref a :: st) w Tg := by
  refine g_astoreX (i := 6) hd hp hi (fun u hu _ => ?_) h
  have e : x5 = some u := Option.some.inj (show some x5 = some (some u) from hu)
  rw [← e]; exact hc
theorem g_astore7 {a : Nat} {x0 x1 x2 x3 x4 x5 x6 : Option Value} {y : Option Value} {rl : List (Option Value)} (hd : decode Y.2.1 pc = .ok (.astore 7, 2)) (hp : pc + 2 = pc') (hi : 7 < Y.2.2.1) (hc : okc x6 = true) (h : GoT l E Y kc ks pc' (x0 :: x1 :: x2 :: x3 :: x4 :: x5 :: x6 :: some (.ref a) :: rl) st w Tg) : GoT l E Y kc ks pc (x0 :: x1 :: x2 :: x3 :: x4 :: x5 :: x6 :: y :: rl) (.ref a :: st) w Tg := by
  refine g_astoreX (i := 7) hd hp hi (fun u hu _ => ?_) h
  have e : x6 = some u := Option.some.inj (show some x6 = some (some u) from hu)
  rw [← e]; exact hc
theorem g_astore8 {a : Nat} {x0 x1 x2 x3 x4 x5 x6 x7 : Option Value} {y : Option Value} {rl : List (Option Value)} (hd : decode Y.2.1 pc = .ok (.astore 8, 2)) (hp : pc + 2 = pc') (hi : 8 < Y.2.2.1) (hc : okc x7 = true) (h : GoT l E Y kc ks pc' (x0 :: x1 :: x2 :: x3 :: x4 :: x5 :: x6 :: x7 :: some (.ref a) :: rl) st w Tg) : GoT l E Y kc ks pc (x0 :: x1 :: x2 :: x3 :: x4 :: x5 :: x6 :: x7 :: y :: rl) (.ref a :: st) w Tg := by
  refine g_astoreX (i := 8) hd hp hi (fun u hu _ => ?_) h
  have e : x7 = some u := Option.some.inj (show some x7 = some (some u) from hu)
  rw [← e]; exact hc
theorem g_astore9 {a : Nat} {x0 x1 x2 x3 x4 x5 x6 x7 x8 : Option Value} {y : Option Value} {rl : List (Option Value)} (hd : decode Y.2.1 pc = .ok (.astore 9, 2)) (hp : pc + 2 = pc') (hi : 9 < Y.2.2.1) (hc : okc x8 = true) (h : GoT l E Y kc ks pc' (x0 :: x1 :: x2 :: x3 :: x4 :: x5 :: x6 :: x7 :: x8 :: some (.ref a) :: rl) st w Tg) : GoT l E Y kc ks pc (x0 :: x1 :: x2 :: x3 :: x4 :: x5 :: x6 :: x7 :: x8 :: y :: rl) (.ref a :: st) w Tg := by
  refine g_astoreX (i := 9) hd hp hi (fun u hu _ => ?_) h
  have e : x8 = some u := Option.some.inj (show some x8 = some (some u) from hu)
  rw [← e]; exact hc
theorem g_astore10 {a : Nat} {x0 x1 x2 x3 x4 x5 x6 x7 x8 x9 : Option Value} {y : Option Value} {rl : List (Option Value)} (hd : decode Y.2.1 pc = .ok (.astore 10, 2)) (hp : pc + 2 = pc') (hi : 10 < Y.2.2.1) (hc : okc x9 = true) (h : GoT l E Y kc ks pc' (x0 :: x1 :: x2 :: x3 :: x4 :: x5 :: x6 :: x7 :: x8 :: x9 :: some (.ref a) :: rl) st w Tg) : GoT l E Y kc ks pc (x0 :: x1 :: x2 :: x3 :: x4 :: x5 :: x6 :: x7 :: x8 :: x9 :: y :: rl) (.ref a :: st) w Tg := by
  refine g_astoreX (i := 10) hd hp hi (fun u hu _ => ?_) h
  have e : x9 = some u := Option.some.inj (show some x9 = some (some u) from hu)
  rw [← e]; exact hc
theorem g_astore11 {a : Nat} {x0 x1 x2 x3 x4 x5 x6 x7 x8 x9 x10 : Option Value} {y : Option Value} {rl : List (Option Value)} (hd : decode Y.2.1 pc = .ok (.astore 11, 2)) (hp : pc + 2 = pc') (hi : 11 < Y.2.2.1) (hc : okc x10 = true) (h : GoT l E Y kc ks pc' (x0 :: x1 :: x2 :: x3 :: x4 :: x5 :: x6 :: x7 :: x8 :: x9 :: x10 :: some (.ref a) :: rl) st w Tg) : GoT l E Y kc ks pc (x0 :: x1 :: x2 :: x3 :: x4 :: x5 :: x6 :: x7 :: x8 :: x9 :: x10 :: y :: rl) (.ref a :: st) w Tg := by
  refine g_astoreX (i := 11) hd hp hi (fun u hu _ => ?_) h
  have e : x10 = some u := Option.some.inj (show some x10 = some (some u) from hu)
  rw [← e]; exact hc
theorem g_astore12 {a : Nat} {x0 x1 x2 x3 x4 x5 x6 x7 x8 x9 x10 x11 : Option Value} {y : Option Value} {rl : List (Option Value)} (hd : decode Y.2.1 pc = .ok (.astore 12, 2)) (hp : pc + 2 = pc') (hi : 12 < Y.2.2.1) (hc : okc x11 = true) (h : GoT l E Y kc ks pc' (x0 :: x1 :: x2 :: x3 :: x4 :: x5 :: x6 :: x7 :: x8 :: x9 :: x10 :: x11 :: some (.ref a) :: rl) st w Tg) : GoT l E Y kc ks pc (x0 :: x1 :: x2 :: x3 :: x4 :: x5 :: x6 :: x7 :: x8 :: x9 :: x10 :: x11 :: y :: rl) (.ref a :: st) w Tg := by
  refine g_astoreX (i := 12) hd hp hi (fun u hu _ => ?_) h
  have e : x11 = some u := Option.some.inj (show some x11 = some (some u) from hu)
  rw [← e]; exact hc
theorem g_astore13 {a : Nat} {x0 x1 x2 x3 x4 x5 x6 x7 x8 x9 x10 x11 x12 : Option Value} {y : Option Value} {rl : List (Option Value)} (hd : decode Y.2.1 pc = .ok (.astore 13, 2)) (hp : pc + 2 = pc') (hi : 13 < Y.2.2.1) (hc : okc x12 = true) (h : GoT l E Y kc ks pc' (x0 :: x1 :: x2 :: x3 :: x4 :: x5 :: x6 :: x7 :: x8 :: x9 :: x10 :: x11 :: x12 :: some (.ref a) :: rl) st w Tg) : GoT l E Y kc ks pc (x0 :: x1 :: x2 :: x3 :: x4 :: x5 :: x6 :: x7 :: x8 :: x9 :: x10 :: x11 :: x12 :: y :: rl) (.ref a :: st) w Tg := by
  refine g_astoreX (i := 13) hd hp hi (fun u hu _ => ?_) h
  have e : x12 = some u := Option.some.inj (show some x12 = some (some u) from hu)
  rw [← e]; exact hc
theorem g_lstore0 {a : Int64} {y0 y1 : Option Value} {rl : List (Option Value)} (hd : decode Y.2.1 pc = .ok (.lstore_n 0, 1)) (hp : pc + 1 = pc') (hi : 0 + 1 < Y.2.2.1) (h : GoT l E Y kc ks pc' (some (.long a) :: none :: rl) st w Tg) : GoT l E Y kc ks pc (y0 :: y1 :: rl) (.long a :: st) w Tg := by
  refine g_lstoreN (i := 0) hd hp hi (fun u _ h0 => absurd rfl h0) h
theorem g_lstore1 {a : Int64} {x0 : Option Value} {y0 y1 : Option Value} {rl : List (Option Value)} (hd : decode Y.2.1 pc = .ok (.lstore_n 1, 1)) (hp : pc + 1 = pc') (hi : 1 + 1 < Y.2.2.1) (hc : okc x0 = true) (h : GoT l E Y kc ks pc' (x0 :: some (.long a) :: none :: rl) st w Tg) : GoT l E Y kc ks pc (x0 :: y0 :: y1 :: rl) (.long a :: st) w Tg := by
  refine g_lstoreN (i := 1) hd hp hi (fun u hu _ => ?_) h
  have e : x0 = some u := Option.some.inj (show some x0 = some (some u) from hu)
  rw [← e]; exact hc
theorem g_lstore2 {a : Int64} {x0 x1 : Option Value} {y0 y1 : Option Value} {rl : List (Option Value)} (hd : decode Y.2.1 pc = .ok (.lstore_n 2, 1)) (hp : pc + 1 = pc') (hi : 2 + 1 < Y.2.2.1) (hc : okc x1 = true) (h : GoT l E Y kc ks pc' (x0 :: x1 :: some (.long a) :: none :: rl) st w Tg) : GoT l E Y kc ks pc (x0 :: x1 :: y0 :: y1 :: rl) (.long a :: st) w Tg := by
  refine g_lstoreN (i := 2) hd hp hi (fun u hu _ => ?_) h
  have e : x1 = some u := Option.some.inj (show some x1 = some (some u) from hu)
  rw [← e]; exact hc
theorem g_lstore3 {a : Int64} {x0 x1 x2 : Option Value} {y0 y1 : Option Value} {rl : List (Option Value)} (hd : decode Y.2.1 pc = .ok (.lstore_n 3, 1)) (hp : pc + 1 = pc') (hi : 3 + 1 < Y.2.2.1) (hc : okc x2 = true) (h : GoT l E Y kc ks pc' (x0 :: x1 :: x2 :: some (.long a) :: none :: rl) st w Tg) : GoT l E Y kc ks pc (x0 :: x1 :: x2 :: y0 :: y1 :: rl) (.long a :: st) w Tg := by
  refine g_lstoreN (i := 3) hd hp hi (fun u hu _ => ?_) h
  have e : x2 = some u := Option.some.inj (show some x2 = some (some u) from hu)
  rw [← e]; exact hc
theorem g_lstore4 {a : Int64} {x0 x1 x2 x3 : Option Value} {y0 y1 : Option Value} {rl : List (Option Value)} (hd : decode Y.2.1 pc = .ok (.lstore 4, 2)) (hp : pc + 2 = pc') (hi : 4 + 1 < Y.2.2.1) (hc : okc x3 = true) (h : GoT l E Y kc ks pc' (x0 :: x1 :: x2 :: x3 :: some (.long a) :: none :: rl) st w Tg) : GoT l E Y kc ks pc (x0 :: x1 :: x2 :: x3 :: y0 :: y1 :: rl) (.long a :: st) w Tg := by
  refine g_lstoreX (i := 4) hd hp hi (fun u hu _ => ?_) h
  have e : x3 = some u := Option.some.inj (show some x3 = some (some u) from hu)
  rw [← e]; exact hc
theorem g_lstore5 {a : Int64} {x0 x1 x2 x3 x4 : Option Value} {y0 y1 : Option Value} {rl : List (Option Value)} (hd : decode Y.2.1 pc = .ok (.lstore 5, 2)) (hp : pc + 2 = pc') (hi : 5 + 1 < Y.2.2.1) (hc : okc x4 = true) (h : GoT l E Y kc ks pc' (x0 :: x1 :: x2 :: x3 :: x4 :: some (.long a) :: none :: rl) st w Tg) : GoT l E Y kc ks pc (x0 :: x1 :: x2 :: x3 :: x4 :: y0 :: y1 :: rl) (.long a :: st) w Tg := by
  refine g_lstoreX (i := 5) hd hp hi (fun u hu _ => ?_) h
  have e : x4 = some u := Option.some.inj (show some x4 = some (some u) from hu)
  rw [← e]; exact hc
theorem g_lstore6 {a : Int64} {x0 x1 x2 x3 x4 x5 : Option Value} {y0 y1 : Option Value} {rl : List (Option Value)} (hd : decode Y.2.1 pc = .ok (.lstore 6, 2)) (hp : pc + 2 = pc') (hi : 6 + 1 < Y.2.2.1) (hc : okc x5 = true) (h : GoT l E Y kc ks pc' (x0 :: x1 :: x2 :: x3 :: x4 :: x5 :: some (.long a) :: none :: rl) st w Tg) : GoT l E Y kc ks pc (x0 :: x1 :: x2 :: x3 :: x4 :: x5 :: y0 :: y1 :: rl) (.long a :: st) w Tg := by
  refine g_lstoreX (i := 6) hd hp hi (fun u hu _ => ?_) h
  have e : x5 = some u := Option.some.inj (show some x5 = some (some u) from hu)
  rw [← e]; exact hc
theorem g_lstore7 {a : Int64} {x0 x1 x2 x3 x4 x5 x6 : Option Value} {y0 y1 : Option Value} {rl : List (Option Value)} (hd : decode Y.2.1 pc = .ok (.lstore 7, 2)) (hp : pc + 2 = pc') (hi : 7 + 1 < Y.2.2.1) (hc : okc x6 = true) (h : GoT l E Y kc ks pc' (x0 :: x1 :: x2 :: x3 :: x4 :: x5 :: x6 :: some (.long a) :: none :: rl) st w Tg) : GoT l E Y kc ks pc (x0 :: x1 :: x2 :: x3 :: x4 :: x5 :: x6 :: y0 :: y1 :: rl) (.long a :: st) w Tg := by
  refine g_lstoreX (i := 7) hd hp hi (fun u hu _ => ?_) h
  have e : x6 = some u := Option.some.inj (show some x6 = some (some u) from hu)
  rw [← e]; exact hc
theorem g_lstore8 {a : Int64} {x0 x1 x2 x3 x4 x5 x6 x7 : Option Value} {y0 y1 : Option Value} {rl : List (Option Value)} (hd : decode Y.2.1 pc = .ok (.lstore 8, 2)) (hp : pc + 2 = pc') (hi : 8 + 1 < Y.2.2.1) (hc : okc x7 = true) (h : GoT l E Y kc ks pc' (x0 :: x1 :: x2 :: x3 :: x4 :: x5 :: x6 :: x7 :: some (.long a) :: none :: rl) st w Tg) : GoT l E Y kc ks pc (x0 :: x1 :: x2 :: x3 :: x4 :: x5 :: x6 :: x7 :: y0 :: y1 :: rl) (.long a :: st) w Tg := by
  refine g_lstoreX (i := 8) hd hp hi (fun u hu _ => ?_) h
  have e : x7 = some u := Option.some.inj (show some x7 = some (some u) from hu)
  rw [← e]; exact hc
theorem g_lstore9 {a : Int64} {x0 x1 x2 x3 x4 x5 x6 x7 x8 : Option Value} {y0 y1 : Option Value} {rl : List (Option Value)} (hd : decode Y.2.1 pc = .ok (.lstore 9, 2)) (hp : pc + 2 = pc') (hi : 9 + 1 < Y.2.2.1) (hc : okc x8 = true) (h : GoT l E Y kc ks pc' (x0 :: x1 :: x2 :: x3 :: x4 :: x5 :: x6 :: x7 :: x8 :: some (.long a) :: none :: rl) st w Tg) : GoT l E Y kc ks pc (x0 :: x1 :: x2 :: x3 :: x4 :: x5 :: x6 :: x7 :: x8 :: y0 :: y1 :: rl) (.long a :: st) w Tg := by
  refine g_lstoreX (i := 9) hd hp hi (fun u hu _ => ?_) h
  have e : x8 = some u := Option.some.inj (show some x8 = some (some u) from hu)
  rw [← e]; exact hc
theorem g_lstore10 {a : Int64} {x0 x1 x2 x3 x4 x5 x6 x7 x8 x9 : Option Value} {y0 y1 : Option Value} {rl : List (Option Value)} (hd : decode Y.2.1 pc = .ok (.lstore 10, 2)) (hp : pc + 2 = pc') (hi : 10 + 1 < Y.2.2.1) (hc : okc x9 = true) (h : GoT l E Y kc ks pc' (x0 :: x1 :: x2 :: x3 :: x4 :: x5 :: x6 :: x7 :: x8 :: x9 :: some (.long a) :: none :: rl) st w Tg) : GoT l E Y kc ks pc (x0 :: x1 :: x2 :: x3 :: x4 :: x5 :: x6 :: x7 :: x8 :: x9 :: y0 :: y1 :: rl) (.long a :: st) w Tg := by
  refine g_lstoreX (i := 10) hd hp hi (fun u hu _ => ?_) h
  have e : x9 = some u := Option.some.inj (show some x9 = some (some u) from hu)
  rw [← e]; exact hc
theorem g_lstore11 {a : Int64} {x0 x1 x2 x3 x4 x5 x6 x7 x8 x9 x10 : Option Value} {y0 y1 : Option Value} {rl : List (Option Value)} (hd : decode Y.2.1 pc = .ok (.lstore 11, 2)) (hp : pc + 2 = pc') (hi : 11 + 1 < Y.2.2.1) (hc : okc x10 = true) (h : GoT l E Y kc ks pc' (x0 :: x1 :: x2 :: x3 :: x4 :: x5 :: x6 :: x7 :: x8 :: x9 :: x10 :: some (.long a) :: none :: rl) st w Tg) : GoT l E Y kc ks pc (x0 :: x1 :: x2 :: x3 :: x4 :: x5 :: x6 :: x7 :: x8 :: x9 :: x10 :: y0 :: y1 :: rl) (.long a :: st) w Tg := by
  refine g_lstoreX (i := 11) hd hp hi (fun u hu _ => ?_) h
  have e : x10 = some u := Option.some.inj (show some x10 = some (some u) from hu)
  rw [← e]; exact hc
theorem g_lstore12 {a : Int64} {x0 x1 x2 x3 x4 x5 x6 x7 x8 x9 x10 x11 : Option Value} {y0 y1 : Option Value} {rl : List (Option Value)} (hd : decode Y.2.1 pc = .ok (.lstore 12, 2)) (hp : pc + 2 = pc') (hi : 12 + 1 < Y.2.2.1) (hc : okc x11 = true) (h : GoT l E Y kc ks pc' (x0 :: x1 :: x2 :: x3 :: x4 :: x5 :: x6 :: x7 :: x8 :: x9 :: x10 :: x11 :: some (.long a) :: none :: rl) st w Tg) : GoT l E Y kc ks pc (x0 :: x1 :: x2 :: x3 :: x4 :: x5 :: x6 :: x7 :: x8 :: x9 :: x10 :: x11 :: y0 :: y1 :: rl) (.long a :: st) w Tg := by
  refine g_lstoreX (i := 12) hd hp hi (fun u hu _ => ?_) h
  have e : x11 = some u := Option.some.inj (show some x11 = some (some u) from hu)
  rw [← e]; exact hc
theorem g_lstore13 {a : Int64} {x0 x1 x2 x3 x4 x5 x6 x7 x8 x9 x10 x11 x12 : Option Value} {y0 y1 : Option Value} {rl : List (Option Value)} (hd : decode Y.2.1 pc = .ok (.lstore 13, 2)) (hp : pc + 2 = pc') (hi : 13 + 1 < Y.2.2.1) (hc : okc x12 = true) (h : GoT l E Y kc ks pc' (x0 :: x1 :: x2 :: x3 :: x4 :: x5 :: x6 :: x7 :: x8 :: x9 :: x10 :: x11 :: x12 :: some (.long a) :: none :: rl) st w Tg) : GoT l E Y kc ks pc (x0 :: x1 :: x2 :: x3 :: x4 :: x5 :: x6 :: x7 :: x8 :: x9 :: x10 :: x11 :: x12 :: y0 :: y1 :: rl) (.long a :: st) w Tg := by
  refine g_lstoreX (i := 13) hd hp hi (fun u hu _ => ?_) h
  have e : x12 = some u := Option.some.inj (show some x12 = some (some u) from hu)
  rw [← e]; exact hc
theorem g_dstore0 {a : UInt64} {y0 y1 : Option Value} {rl : List (Option Value)} (hd : decode Y.2.1 pc = .ok (.dstore_n 0, 1)) (hp : pc + 1 = pc') (hi : 0 + 1 < Y.2.2.1) (h : GoT l E Y kc ks pc' (some (.double a) :: none :: rl) st w Tg) : GoT l E Y kc ks pc (y0 :: y1 :: rl) (.double a :: st) w Tg := by
  refine g_dstoreN (i := 0) hd hp hi (fun u _ h0 => absurd rfl h0) h
theorem g_dstore1 {a : UInt64} {x0 : Option Value} {y0 y1 : Option Value} {rl : List (Option Value)} (hd : decode Y.2.1 pc = .ok (.dstore_n 1, 1)) (hp : pc + 1 = pc') (hi : 1 + 1 < Y.2.2.1) (hc : okc x0 = true) (h : GoT l E Y kc ks pc' (x0 :: some (.double a) :: none :: rl) st w Tg) : GoT l E Y kc ks pc (x0 :: y0 :: y1 :: rl) (.double a :: st) w Tg := by
  refine g_dstoreN (i := 1) hd hp hi (fun u hu _ => ?_) h
  have e : x0 = some u := Option.some.inj (show some x0 = some (some u) from hu)
  rw [← e]; exact hc
theorem g_dstore2 {a : UInt64} {x0 x1 : Option Value} {y0 y1 : Option Value} {rl : List (Option Value)} (hd : decode Y.2.1 pc = .ok (.dstore_n 2, 1)) (hp : pc + 1 = pc') (hi : 2 + 1 < Y.2.2.1) (hc : okc x1 = true) (h : GoT l E Y kc ks pc' (x0 :: x1 :: some (.double a) :: none :: rl) st w Tg) : GoT l E Y kc ks pc (x0 :: x1 :: y0 :: y1 :: rl) (.double a :: st) w Tg := by
  refine g_dstoreN (i := 2) hd hp hi (fun u hu _ => ?_) h
  have e : x1 = some u := Option.some.inj (show some x1 = some (some u) from hu)
  rw [← e]; exact hc
theorem g_dstore3 {a : UInt64} {x0 x1 x2 : Option Value} {y0 y1 : Option Value} {rl : List (Option Value)} (hd : decode Y.2.1 pc = .ok (.dstore_n 3, 1)) (hp : pc + 1 = pc') (hi : 3 + 1 < Y.2.2.1) (hc : okc x2 = true) (h : GoT l E Y kc ks pc' (x0 :: x1 :: x2 :: some (.double a) :: none :: rl) st w Tg) : GoT l E Y kc ks pc (x0 :: x1 :: x2 :: y0 :: y1 :: rl) (.double a :: st) w Tg := by
  refine g_dstoreN (i := 3) hd hp hi (fun u hu _ => ?_) h
  have e : x2 = some u := Option.some.inj (show some x2 = some (some u) from hu)
  rw [← e]; exact hc
theorem g_dstore4 {a : UInt64} {x0 x1 x2 x3 : Option Value} {y0 y1 : Option Value} {rl : List (Option Value)} (hd : decode Y.2.1 pc = .ok (.dstore 4, 2)) (hp : pc + 2 = pc') (hi : 4 + 1 < Y.2.2.1) (hc : okc x3 = true) (h : GoT l E Y kc ks pc' (x0 :: x1 :: x2 :: x3 :: some (.double a) :: none :: rl) st w Tg) : GoT l E Y kc ks pc (x0 :: x1 :: x2 :: x3 :: y0 :: y1 :: rl) (.double a :: st) w Tg := by
  refine g_dstoreX (i := 4) hd hp hi (fun u hu _ => ?_) h
  have e : x3 = some u := Option.some.inj (show some x3 = some (some u) from hu)
  rw [← e]; exact hc
theorem g_dstore5 {a : UInt64} {x0 x1 x2 x3 x4 : Option Value} {y0 y1 : Option Value} {rl : List (Option Value)} (hd : decode Y.2.1 pc = .ok (.dstore 5, 2)) (hp : pc + 2 = pc') (hi : 5 + 1 < Y.2.2.1) (hc : okc x4 = true) (h : GoT l E Y kc ks pc' (x0 :: x1 :: x2 :: x3 :: x4 :: some (.double a) :: none :: rl) st w Tg) : GoT l E Y kc ks pc (x0 :: x1 :: x2 :: x3 :: x4 :: y0 :: y1 :: rl) (.double a :: st) w Tg := by
  refine g_dstoreX (i := 5) hd hp hi (fun u hu _ => ?_) h
  have e : x4 = some u := Option.some.inj (show some x4 = some (some u) from hu)
  rw [← e]; exact hc
theorem g_dstore6 {a : UInt64} {x0 x1 x2 x3 x4 x5 : Option Value} {y0 y1 : Option Value} {rl : List (Option Value)} (hd : decode Y.2.1 pc = .ok (.dstore 6, 2)) (hp : pc + 2 = pc') (hi : 6 + 1 < Y.2.2.1) (hc : okc x5 = true) (h : GoT l E Y kc ks pc' (x0 :: x1 :: x2 :: x3 :: x4 :: x5 :: some (.double a) :: none :: rl) st w Tg) : GoT l E Y kc ks pc (x0 :: x1 :: x2 :: x3 :: x4 :: x5 :: y0 :: y1 :: rl) (.double a :: st) w Tg := by
  refine g_dstoreX (i := 6) hd hp hi (fun u hu _ => ?_) h
  have e : x5 = some u := Option.some.inj (show some x5 = some (some u) from hu)
  rw [← e]; exact hc
theorem g_dstore7 {a : UInt64} {x0 x1 x2 x3 x4 x5 x6 : Option Value} {y0 y1 : Option Value} {rl : List (Option Value)} (hd : decode Y.2.1 pc = .ok (.dstore 7, 2)) (hp : pc + 2 = pc') (hi : 7 + 1 < Y.2.2.1) (hc : okc x6 = true) (h : GoT l E Y kc ks pc' (x0 :: x1 :: x2 :: x3 :: x4 :: x5 :: x6 :: some (.double a) :: none :: rl) st w Tg) : GoT l E Y kc ks pc (x0 :: x1 :: x2 :: x3 :: x4 :: x5 :: x6 :: y0 :: y1 :: rl) (.double a :: st) w Tg := by
  refine g_dstoreX (i := 7) hd hp hi (fun u hu _ => ?_) h
  have e : x6 = some u := Option.some.inj (show some x6 = some (some u) from hu)
  rw [← e]; exact hc
theorem g_dstore8 {a : UInt64} {x0 x1 x2 x3 x4 x5 x6 x7 : Option Value} {y0 y1 : Option Value} {rl : List (Option Value)} (hd : decode Y.2.1 pc = .ok (.dstore 8, 2)) (hp : pc + 2 = pc') (hi : 8 + 1 < Y.2.2.1) (hc : okc x7 = true) (h : GoT l E Y kc ks pc' (x0 :: x1 :: x2 :: x3 :: x4 :: x5 :: x6 :: x7 :: some (.double a) :: none :: rl) st w Tg) : GoT l E Y kc ks pc (x0 :: x1 :: x2 :: x3 :: x4 :: x5 :: x6 :: x7 :: y0 :: y1 :: rl) (.double a :: st) w Tg := by
  refine g_dstoreX (i := 8) hd hp hi (fun u hu _ => ?_) h
  have e : x7 = some u := Option.some.inj (show some x7 = some (some u) from hu)
  rw [← e]; exact hc
theorem g_dstore9 {a : UInt64} {x0 x1 x2 x3 x4 x5 x6 x7 x8 : Option Value} {y0 y1 : Option Value} {rl : List (Option Value)} (hd : decode Y.2.1 pc = .ok (.dstore 9, 2)) (hp : pc + 2 = pc') (hi : 9 + 1 < Y.2.2.1) (hc : okc x8 = true) (h : GoT l E Y kc ks pc' (x0 :: x1 :: x2 :: x3 :: x4 :: x5 :: x6 :: x7 :: x8 :: some (.double a) :: none :: rl) st w Tg) : GoT l E Y kc ks pc (x0 :: x1 :: x2 :: x3 :: x4 :: x5 :: x6 :: x7 :: x8 :: y0 :: y1 :: rl) (.double a :: st) w Tg := by
  refine g_dstoreX (i := 9) hd hp hi (fun u hu _ => ?_) h
  have e : x8 = some u := Option.some.inj (show some x8 = some (some u) from hu)
  rw [← e]; exact hc
theorem g_dstore10 {a : UInt64} {x0 x1 x2 x3 x4 x5 x6 x7 x8 x9 : Option Value} {y0 y1 : Option Value} {rl : List (Option Value)} (hd : decode Y.2.1 pc = .ok (.dstore 10, 2)) (hp : pc + 2 = pc') (hi : 10 + 1 < Y.2.2.1) (hc : okc x9 = true) (h : GoT l E Y kc ks pc' (x0 :: x1 :: x2 :: x3 :: x4 :: x5 :: x6 :: x7 :: x8 :: x9 :: some (.double a) :: none :: rl) st w Tg) : GoT l E Y kc ks pc (x0 :: x1 :: x2 :: x3 :: x4 :: x5 :: x6 :: x7 :: x8 :: x9 :: y0 :: y1 :: rl) (.double a :: st) w Tg := by
  refine g_dstoreX (i := 10) hd hp hi (fun u hu _ => ?_) h
  have e : x9 = some u := Option.some.inj (show some x9 = some (some u) from hu)
  rw [← e]; exact hc
theorem g_dstore11 {a : UInt64} {x0 x1 x2 x3 x4 x5 x6 x7 x8 x9 x10 : Option Value} {y0 y1 : Option Value} {rl : List (Option Value)} (hd : decode Y.2.1 pc = .ok (.dstore 11, 2)) (hp : pc + 2 = pc') (hi : 11 + 1 < Y.2.2.1) (hc : okc x10 = true) (h : GoT l E Y kc ks pc' (x0 :: x1 :: x2 :: x3 :: x4 :: x5 :: x6 :: x7 :: x8 :: x9 :: x10 :: some (.double a) :: none :: rl) st w Tg) : GoT l E Y kc ks pc (x0 :: x1 :: x2 :: x3 :: x4 :: x5 :: x6 :: x7 :: x8 :: x9 :: x10 :: y0 :: y1 :: rl) (.double a :: st) w Tg := by
  refine g_dstoreX (i := 11) hd hp hi (fun u hu _ => ?_) h
  have e : x10 = some u := Option.some.inj (show some x10 = some (some u) from hu)
  rw [← e]; exact hc
theorem g_dstore12 {a : UInt64} {x0 x1 x2 x3 x4 x5 x6 x7 x8 x9 x10 x11 : Option Value} {y0 y1 : Option Value} {rl : List (Option Value)} (hd : decode Y.2.1 pc = .ok (.dstore 12, 2)) (hp : pc + 2 = pc') (hi : 12 + 1 < Y.2.2.1) (hc : okc x11 = true) (h : GoT l E Y kc ks pc' (x0 :: x1 :: x2 :: x3 :: x4 :: x5 :: x6 :: x7 :: x8 :: x9 :: x10 :: x11 :: some (.double a) :: none :: rl) st w Tg) : GoT l E Y kc ks pc (x0 :: x1 :: x2 :: x3 :: x4 :: x5 :: x6 :: x7 :: x8 :: x9 :: x10 :: x11 :: y0 :: y1 :: rl) (.double a :: st) w Tg := by
  refine g_dstoreX (i := 12) hd hp hi (fun u hu _ => ?_) h
  have e : x11 = some u := Option.some.inj (show some x11 = some (some u) from hu)
  rw [← e]; exact hc
theorem g_dstore13 {a : UInt64} {x0 x1 x2 x3 x4 x5 x6 x7 x8 x9 x10 x11 x12 : Option Value} {y0 y1 : Option Value} {rl : List (Option Value)} (hd : decode Y.2.1 pc = .ok (.dstore 13, 2)) (hp : pc + 2 = pc') (hi : 13 + 1 < Y.2.2.1) (hc : okc x12 = true) (h : GoT l E Y kc ks pc' (x0 :: x1 :: x2 :: x3 :: x4 :: x5 :: x6 :: x7 :: x8 :: x9 :: x10 :: x11 :: x12 :: some (.double a) :: none :: rl) st w Tg) : GoT l E Y kc ks pc (x0 :: x1 :: x2 :: x3 :: x4 :: x5 :: x6 :: x7 :: x8 :: x9 :: x10 :: x11 :: x12 :: y0 :: y1 :: rl) (.double a :: st) w Tg := by
  refine g_dstoreX (i := 13) hd hp hi (fun u hu _ => ?_) h
  have e : x12 = some u := Option.some.inj (show some x12 = some (some u) from hu)
  rw [← e]; exact hc
theorem g_iincX {a k : Int} {i : Nat} (hd : decode Y.2.1 pc = .ok (.iinc i k, 3)) (hp : pc + 3 = pc') (hi : i < Y.2.2.1) (hL : L[i]? = some (some (.int (iz a)))) (hc : ∀ u, L[i - 1]? = some (some u) → i ≠ 0 → okc (some u) = true) (h : GoT l E Y kc ks pc' (L.set i (some (.int (iz (a + k))))) st w Tg) : GoT l E Y kc ks pc L st w Tg := by
  intro p e s m args below meth c H locs ls C hH hS hl
  obtain ⟨hx, hb, hml, hr, ho, hts, hK, hlk, hnm, hbs⟩ := id C
  subst hp
  have hm := q_l_in L 0 i _ hL
  rw [Nat.zero_add] at hm
  obtain ⟨q, hq⟩ := List.getElem?_of_mem hm
  refine lv_iinc (v := iz (a + k)) hx hb hd hl hq (iz_add a k) hi rfl (fun ls' hl' => ?_)
  exact h p e s m args below meth c H locs ls' C hH hS (q_l_set1 hl' hc)
theorem g_iinc0 {a k : Int} {rl : List (Option Value)} (hd : decode Y.2.1 pc = .ok (.iinc 0 k, 3)) (hp : pc + 3 = pc') (hi : 0 < Y.2.2.1) (h : GoT l E Y kc ks pc' (some (.int (iz (a + k))) :: rl) st w Tg) : GoT l E Y kc ks pc (some (.int (iz a)) :: rl) st w Tg := by
  refine g_iincX (i := 0) hd hp hi rfl (fun u _ h0 => absurd rfl h0) h
theorem g_iinc1 {a k : Int} {x0 : Option Value} {rl : List (Option Value)} (hd : decode Y.2.1 pc = .ok (.iinc 1 k, 3)) (hp : pc + 3 = pc') (hi : 1 < Y.2.2.1) (hc : okc x0 = true) (h : GoT l E Y kc ks pc' (x0 :: some (.int (iz (a + k))) :: rl) st w Tg) : GoT l E Y kc ks pc (x0 :: some (.int (iz a)) :: rl) st w Tg := by
  refine g_iincX (i := 1) hd hp hi rfl (fun u hu _ => ?_) h
  have e : x0 = some u := Option.some.inj (show some x0 = some (some u) from hu)
  rw [← e]; exact hc
theorem g_iinc2 {a k : Int} {x0 x1 : Option Value} {rl : List (Option Value)} (hd : decode Y.2.1 pc = .ok (.iinc 2 k, 3)) (hp : pc + 3 = pc') (hi : 2 < Y.2.2.1) (hc : okc x1 = true) (h : GoT l E Y kc ks pc' (x0 :: x1 :: some (.int (iz (a + k))) :: rl) st w Tg) : GoT l E Y kc ks pc (x0 :: x1 :: some (.int (iz a)) :: rl) st w Tg := by
  refine g_iincX (i := 2) hd hp hi rfl (fun u hu _ => ?_) h
  have e : x1 = some u := Option.some.inj (show some x1 = some (some u) from hu)
  rw [← e]; exact hc
theorem g_iinc3 {a k : Int} {x0 x1 x2 : Option Value} {rl : List (Option Value)} (hd : decode Y.2.1 pc = .ok (.iinc 3 k, 3)) (hp : pc + 3 = pc') (hi : 3 < Y.2.2.1) (hc : okc x2 = true) (h : GoT l E Y kc ks pc' (x0 :: x1 :: x2 :: some (.int (iz (a + k))) :: rl) st w Tg) : GoT l E Y kc ks pc (x0 :: x1 :: x2 :: some (.int (iz a)) :: rl) st w Tg := by
  refine g_iincX (i := 3) hd hp hi rfl (fun u hu _ => ?_) h
  have e : x2 = some u := Option.some.inj (show some x2 = some (some u) from hu)
  rw [← e]; exact hc
theorem g_iinc4 {a k : Int} {x0 x1 x2 x3 : Option Value} {rl : List (Option Value)} (hd : decode Y.2.1 pc = .ok (.iinc 4 k, 3)) (hp : pc + 3 = pc') (hi : 4 < Y.2.2.1) (hc : okc x3 = true) (h : GoT l E Y kc ks pc' (x0 :: x1 :: x2 :: x3 :: some (.int (iz (a + k))) :: rl) st w Tg) : GoT l E Y kc ks pc (x0 :: x1 :: x2 :: x3 :: some (.int (iz a)) :: rl) st w Tg := by
  refine g_iincX (i := 4) hd hp hi rfl (fun u hu _ => ?_) h
  have e : x3 = some u := Option.some.inj (show some x3 = some (some u) from hu)
  rw [← e]; exact hc
theorem g_iinc5 {a k : Int} {x0 x1 x2 x3 x4 : Option Value} {rl : List (Option Value)} (hd : decode Y.2.1 pc = .ok (.iinc 5 k, 3)) (hp : pc + 3 = pc') (hi : 5 < Y.2.2.1) (hc : okc x4 = true) (h : GoT l E Y kc ks pc' (x0 :: x1 :: x2 :: x3 :: x4 :: some (.int (iz (a + k))) :: rl) st w Tg) : GoT l E Y kc ks pc (x0 :: x1 :: x2 :: x3 :: x4 :: some (.int (iz a)) :: rl) st w Tg := by
  refine g_iincX (i := 5) hd hp hi rfl (fun u hu _ => ?_) h
  have e : x4 = some u := Option.some.inj (show some x4 = some (some u) from hu)
  rw [← e]; exact hc
theorem g_iinc6 {a k : Int} {x0 x1 x2 x3 x4 x5 : Option Value} {rl : List (Option Value)} (hd : decode Y.2.1 pc = .ok (.iinc 6 k, 3)) (hp : pc + 3 = pc') (hi : 6 < Y.2.2.1) (hc : okc x5 = true) (h : GoT l E Y kc ks pc' (x0 :: x1 :: x2 :: x3 :: x4 :: x5 :: some (.int (iz (a + k))) :: rl) st w Tg) : GoT l E Y kc ks pc (x0 :: x1 :: x2 :: x3 :: x4 :: x5 :: some (.int (iz a)) :: rl) st w Tg := by
  refine g_iincX (i := 6) hd hp hi rfl (fun u hu _ => ?_) h
  have e : x5 = some u := Option.some.inj (show some x5 = some (some u) from hu)
  rw [← e]; exact hc
theorem g_iinc7 {a k : Int} {x0 x1 x2 x3 x4 x5 x6 : Option Value} {rl : List (Option Value)} (hd : decode Y.2.1 pc = .ok (.iinc 7 k, 3)) (hp : pc + 3 = pc') (hi : 7 < Y.2.2.1) (hc : okc x6 = true) (h : GoT l E Y kc ks pc' (x0 :: x1 :: x2 :: x3 :: x4 :: x5 :: x6 :: some (.int (iz (a + k))) :: rl) st w Tg) : GoT l E Y kc ks pc (x0 :: x1 :: x2 :: x3 :: x4 :: x5 :: x6 :: some (.int (iz a)) :: rl) st w Tg := by
  refine g_iincX (i := 7) hd hp hi rfl (fun u hu _ => ?_) h
  have e : x6 = some u := Option.some.inj (show some x6 = some (some u) from hu)
  rw [← e]; exact hc
theorem g_iinc8 {a k : Int} {x0 x1 x2 x3 x4 x5 x6 x7 : Option Value} {rl : List (Option Value)} (hd : decode Y.2.1 pc = .ok (.iinc 8 k, 3)) (hp : pc + 3 = pc') (hi : 8 < Y.2.2.1) (hc : okc x7 = true) (h : GoT l E Y kc ks pc' (x0 :: x1 :: x2 :: x3 :: x4 :: x5 :: x6 :: x7 :: some (.int (iz (a + k))) :: rl) st w Tg) : GoT l E Y kc ks pc (x0 :: x1 :: x2 :: x3 :: x4 :: x5 :: x6 :: x7 :: some (.int (iz a)) :: rl) st w Tg := by
  refine g_iincX (i := 8) hd hp hi rfl (fun u hu _ => ?_) h
  have e : x7 = some u := Option.some.inj (show some x7 = some (some u) from hu)
  rw [← e]; exact hc
theorem g_iinc9 {a k : Int} {x0 x1 x2 x3 x4 x5 x6 x7 x8 : Option Value} {rl : List (Option Value)} (hd : decode Y.2.1 pc = .ok (.iinc 9 k, 3)) (hp : pc + 3 = pc') (hi : 9 < Y.2.2.1) (hc : okc x8 = true) (h : GoT l E Y kc ks pc' (x0 :: x1 :: x2 :: x3 :: x4 :: x5 :: x6 :: x7 :: x8 :: some (.int (iz (a + k))) :: rl) st w Tg) : GoT l E Y kc ks pc (x0 :: x1 :: x2 :: x3 :: x4 :: x5 :: x6 :: x7 :: x8 :: some (.int (iz a)) :: rl) st w Tg := by
  refine g_iincX (i := 9) hd hp hi rfl (fun u hu _ => ?_) h
  have e : x8 = some u := Option.some.inj (show some x8 = some (some u) from hu)
  rw [← e]; exact hc
theorem g_iinc10 {a k : Int} {x0 x1 x2 x3 x4 x5 x6 x7 x8 x9 : Option Value} {rl : List (Option Value)} (hd : decode Y.2.1 pc = .ok (.iinc 10 k, 3)) (hp : pc + 3 = pc') (hi : 10 < Y.2.2.1) (hc : okc x9 = true) (h : GoT l E Y kc ks pc' (x0 :: x1 :: x2 :: x3 :: x4 :: x5 :: x6 :: x7 :: x8 :: x9 :: some (.int (iz (a + k))) :: rl) st w Tg) : GoT l E Y kc ks pc (x0 :: x1 :: x2 :: x3 :: x4 :: x5 :: x6 :: x7 :: x8 :: x9 :: some (.int (iz a)) :: rl) st w Tg := by
  refine g_iincX (i := 10) hd hp hi rfl (fun u hu _ => ?_) h
  have e : x9 = some u := Option.some.inj (show some x9 = some (some u) from hu)
  rw [← e]; exact hc
theorem g_iinc11 {a k : Int} {x0 x1 x2 x3 x4 x5 x6 x7 x8 x9 x10 : Option Value} {rl : List (Option Value)} (hd : decode Y.2.1 pc = .ok (.iinc 11 k, 3)) (hp : pc + 3 = pc') (hi : 11 < Y.2.2.1) (hc : okc x10 = true) (h : GoT l E Y kc ks pc' (x0 :: x1 :: x2 :: x3 :: x4 :: x5 :: x6 :: x7 :: x8 :: x9 :: x10 :: some (.int (iz (a + k))) :: rl) st w Tg) : GoT l E Y kc ks pc (x0 :: x1 :: x2 :: x3 :: x4 :: x5 :: x6 :: x7 :: x8 :: x9 :: x10 :: some (.int (iz a)) :: rl) st w Tg := by
  refine g_iincX (i := 11) hd hp hi rfl (fun u hu _ => ?_) h
  have e : x10 = some u := Option.some.inj (show some x10 = some (some u) from hu)
  rw [← e]; exact hc
theorem g_iinc12 {a k : Int} {x0 x1 x2 x3 x4 x5 x6 x7 x8 x9 x10 x11 : Option Value} {rl : List (Option Value)} (hd : decode Y.2.1 pc = .ok (.iinc 12 k, 3)) (hp : pc + 3 = pc') (hi : 12 < Y.2.2.1) (hc : okc x11 = true) (h : GoT l E Y kc ks pc' (x0 :: x1 :: x2 :: x3 :: x4 :: x5 :: x6 :: x7 :: x8 :: x9 :: x10 :: x11 :: some (.int (iz (a + k))) :: rl) st w Tg) : GoT l E Y kc ks pc (x0 :: x1 :: x2 :: x3 :: x4 :: x5 :: x6 :: x7 :: x8 :: x9 :: x10 :: x11 :: some (.int (iz a)) :: rl) st w Tg := by
  refine g_iincX (i := 12) hd hp hi rfl (fun u hu _ => ?_) h
  have e : x11 = some u := Option.some.inj (show some x11 = some (some u) from hu)
  rw [← e]; exact hc
theorem g_iinc13 {a k : Int} {x0 x1 x2 x3 x4 x5 x6 x7 x8 x9 x10 x11 x12 : Option Value} {rl : List (Option Value)} (hd : decode Y.2.1 pc = .ok (.iinc 13 k, 3)) (hp : pc + 3 = pc') (hi : 13 < Y.2.2.1) (hc : okc x12 = true) (h : GoT l E Y kc ks pc' (x0 :: x1 :: x2 :: x3 :: x4 :: x5 :: x6 :: x7 :: x8 :: x9 :: x10 :: x11 :: x12 :: some (.int (iz (a + k))) :: rl) st w Tg) : GoT l E Y kc ks pc (x0 :: x1 :: x2 :: x3 :: x4 :: x5 :: x6 :: x7 :: x8 :: x9 :: x10 :: x11 :: x12 :: some (.int (iz a)) :: rl) st w Tg := by
  refine g_iincX (i := 13) hd hp hi rfl (fun u hu _ => ?_) h
  have e : x12 = some u := Option.some.inj (show some x12 = some (some u) from hu)
  rw [← e]; exact hc
theorem g_iadd {a b : Int} (hd : decode Y.2.1 pc = .ok (.iadd, 1)) (hp : pc + 1 = pc') (h : GoT l E Y kc ks pc' L (.int (iz (a + b)) :: st) w Tg) : GoT l E Y kc ks pc L (.int (iz b) :: .int (iz a) :: st) w Tg := by
  intro p e s m args below meth c H locs ls C hH hS hl
  obtain ⟨hx, hb, hml, hr, ho, hts, hK, hlk, hnm, hbs⟩ := id C
  subst hp
  refine lv_iadd hx hb hd ?_
  rw [iz_add]
  exact h p e s m args below meth c H locs ls C hH hS hl
theorem g_isub {a b : Int} (hd : decode Y.2.1 pc = .ok (.isub, 1)) (hp : pc + 1 = pc') (h : GoT l E Y kc ks pc' L (.int (iz (a - b)) :: st) w Tg) : GoT l E Y kc ks pc L (.int (iz b) :: .int (iz a) :: st) w Tg := by
  intro p e s m args below meth c H locs ls C hH hS hl
  obtain ⟨hx, hb, hml, hr, ho, hts, hK, hlk, hnm, hbs⟩ := id C
  subst hp
  refine lv_isub hx hb hd ?_
  rw [iz_sub]
  exact h p e s m args below meth c H locs ls C hH hS hl
theorem g_imul {a b : Int} (hd : decode Y.2.1 pc = .ok (.imul, 1)) (hp : pc + 1 = pc') (h : GoT l E Y kc ks pc' L (.int (iz (a * b)) :: st) w Tg) : GoT l E Y kc ks pc L (.int (iz b) :: .int (iz a) :: st) w Tg := by
  intro p e s m args below meth c H locs ls C hH hS hl
  obtain ⟨hx, hb, hml, hr, ho, hts, hK, hlk, hnm, hbs⟩ := id C
  subst hp
  refine lv_imul hx hb hd ?_
  rw [iz_mul]
  exact h p e s m args below meth c H locs ls C hH hS hl
theorem g_ineg {a : Int} (hd : decode Y.2.1 pc = .ok (.ineg, 1)) (hp : pc + 1 = pc') (h : GoT l E Y kc ks pc' L (.int (iz (-a)) :: st) w Tg) : GoT l E Y kc ks pc L (.int (iz a) :: st) w Tg := by
  intro p e s m args below meth c H locs ls C hH hS hl
  obtain ⟨hx, hb, hml, hr, ho, hts, hK, hlk, hnm, hbs⟩ := id C
  subst hp
  refine lv_ineg hx hb hd ?_
  rw [iz_neg]
  exact h p e s m args below meth c H locs ls C hH hS hl
theorem g_idiv {a b : Int} (hd : decode Y.2.1 pc = .ok (.idiv, 1)) (hp : pc + 1 = pc') (ha1 : R32 a) (hb1 : R32 b) (h0 : b ≠ 0) (h : GoT l E Y kc ks pc' L (.int (iz (a.tdiv b)) :: st) w Tg) : GoT l E Y kc ks pc L (.int (iz b) :: .int (iz a) :: st) w Tg := by
  intro p e s m args below meth c H locs ls C hH hS hl
  obtain ⟨hx, hb, hml, hr, ho, hts, hK, hlk, hnm, hbs⟩ := id C
  subst hp
  refine lv_idiv hx hb hd (fun q => h0 ((iz_eq0 hb1).mp q)) ?_
  rw [iz_div ha1 hb1]
  exact h p e s m args below meth c H locs ls C hH hS hl
theorem g_irem {a b : Int} (hd : decode Y.2.1 pc = .ok (.irem, 1)) (hp : pc + 1 = pc') (ha1 : R32 a) (hb1 : R32 b) (h0 : b ≠ 0) (h : GoT l E Y kc ks pc' L (.int (iz (a - a.tdiv b * b)) :: st) w Tg) : GoT l E Y kc ks pc L (.int (iz b) :: .int (iz a) :: st) w Tg := by
  intro p e s m args below meth c H locs ls C hH hS hl
  obtain ⟨hx, hb, hml, hr, ho, hts, hK, hlk, hnm, hbs⟩ := id C
  subst hp
  refine lv_irem hx hb hd (fun q => h0 ((iz_eq0 hb1).mp q)) ?_
  rw [iz_div ha1 hb1, iz_mul, iz_sub]
  exact h p e s m args below meth c H locs ls C hH hS hl
theorem g_iand {a b v : Int} (hd : decode Y.2.1 pc = .ok (.iand, 1)) (hp : pc + 1 = pc') (hv : iz a &&& iz b = iz v) (h : GoT l E Y kc ks pc' L (.int (iz v) :: st) w Tg) : GoT l E Y kc ks pc L (.int (iz b) :: .int (iz a) :: st) w Tg := by
  intro p e s m args below meth c H locs ls C hH hS hl
  obtain ⟨hx, hb, hml, hr, ho, hts, hK, hlk, hnm, hbs⟩ := id C
  subst hp
  refine lv_iand hx hb hd ?_
  rw [hv]
  exact h p e s m args below meth c H locs ls C hH hS hl
theorem g_ior {a b v : Int} (hd : decode Y.2.1 pc = .ok (.ior, 1)) (hp : pc + 1 = pc') (hv : iz a ||| iz b = iz v) (h : GoT l E Y kc ks pc' L (.int (iz v) :: st) w Tg) : GoT l E Y kc ks pc L (.int (iz b) :: .int (iz a) :: st) w Tg := by
  intro p e s m args below meth c H locs ls C hH hS hl
  obtain ⟨hx, hb, hml, hr, ho, hts, hK, hlk, hnm, hbs⟩ := id C
  subst hp
  refine lv_ior hx hb hd ?_
  rw [hv]
  exact h p e s m args below meth c H locs ls C hH hS hl
theorem g_ishl {a b v : Int} (hd : decode Y.2.1 pc = .ok (.ishl, 1)) (hp : pc + 1 = pc') (hv : iz a <<< (iz b &&& 31) = iz v) (h : GoT l E Y kc ks pc' L (.int (iz v) :: st) w Tg) : GoT l E Y kc ks pc L (.int (iz b) :: .int (iz a) :: st) w Tg := by
  intro p e s m args below meth c H locs ls C hH hS hl
  obtain ⟨hx, hb, hml, hr, ho, hts, hK, hlk, hnm, hbs⟩ := id C
  subst hp
  refine lv_ishl hx hb hd ?_
  rw [hv]
  exact h p e s m args below meth c H locs ls C hH hS hl
theorem g_ishr {a b v : Int} (hd : decode Y.2.1 pc = .ok (.ishr, 1)) (hp : pc + 1 = pc') (hv : iz a >>> (iz b &&& 31) = iz v) (h : GoT l E Y kc ks pc' L (.int (iz v) :: st) w Tg) : GoT l E Y kc ks pc L (.int (iz b) :: .int (iz a) :: st) w Tg := by
  intro p e s m args below meth c H locs ls C hH hS hl
  obtain ⟨hx, hb, hml, hr, ho, hts, hK, hlk, hnm, hbs⟩ := id C
  subst hp
  refine lv_ishr hx hb hd ?_
  rw [hv]
  exact h p e s m args below meth c H locs ls C hH hS hl
theorem g_iushr {a b v : Int} (hd : decode Y.2.1 pc = .ok (.iushr, 1)) (hp : pc + 1 = pc') (hv : ((iz a).toUInt32 >>> ((iz b).toUInt32 &&& Int32.toUInt32 31)).toInt32 = iz v) (h : GoT l E Y kc ks pc' L (.int (iz v) :: st) w Tg) : GoT l E Y kc ks pc L (.int (iz b) :: .int (iz a) :: st) w Tg := by
  intro p e s m args below meth c H locs ls C hH hS hl
  obtain ⟨hx, hb, hml, hr, ho, hts, hK, hlk, hnm, hbs⟩ := id C
  subst hp
  refine lv_iushr hx hb hd hv ?_
  exact h p e s m args below meth c H locs ls C hH hS hl
theorem g_ladd {a b : Int64} (hd : decode Y.2.1 pc = .ok (.ladd, 1)) (hp : pc + 1 = pc') (h : GoT l E Y kc ks pc' L (.long (a + b) :: st) w Tg) : GoT l E Y kc ks pc L (.long b :: .long a :: st) w Tg := by
  intro p e s m args below meth c H locs ls C hH hS hl
  obtain ⟨hx, hb, hml, hr, ho, hts, hK, hlk, hnm, hbs⟩ := id C
  subst hp
  refine lv_ladd hx hb hd ?_
  exact h p e s m args below meth c H locs ls C hH hS hl
theorem g_lsub {a b : Int64} (hd : decode Y.2.1 pc = .ok (.lsub, 1)) (hp : pc + 1 = pc') (h : GoT l E Y kc ks pc' L (.long (a - b) :: st) w Tg) : GoT l E Y kc ks pc L (.long b :: .long a :: st) w Tg := by
  intro p e s m args below meth c H locs ls C hH hS hl
  obtain ⟨hx, hb, hml, hr, ho, hts, hK, hlk, hnm, hbs⟩ := id C
  subst hp
  refine lv_lsub hx hb hd ?_
  exact h p e s m args below meth c H locs ls C hH hS hl
theorem g_lmul {a b : Int64} (hd : decode Y.2.1 pc = .ok (.lmul, 1)) (hp : pc + 1 = pc') (h : GoT l E Y kc ks pc' L (.long (a * b) :: st) w Tg) : GoT l E Y kc ks pc L (.long b :: .long a :: st) w Tg := by
  intro p e s m args below meth c H locs ls C hH hS hl
  obtain ⟨hx, hb, hml, hr, ho, hts, hK, hlk, hnm, hbs⟩ := id C
  subst hp
  refine lv_lmul hx hb hd ?_
  exact h p e s m args below meth c H locs ls C hH hS hl
theorem g_land {a b : Int64} (hd : decode Y.2.1 pc = .ok (.land, 1)) (hp : pc + 1 = pc') (h : GoT l E Y kc ks pc' L (.long (a &&& b) :: st) w Tg) : GoT l E Y kc ks pc L (.long b :: .long a :: st) w Tg := by
  intro p e s m args below meth c H locs ls C hH hS hl
  obtain ⟨hx, hb, hml, hr, ho, hts, hK, hlk, hnm, hbs⟩ := id C
  subst hp
  refine lv_land hx hb hd ?_
  exact h p e s m args below meth c H locs ls C hH hS hl
theorem g_lor {a b : Int64} (hd : decode Y.2.1 pc = .ok (.lor, 1)) (hp : pc + 1 = pc') (h : GoT l E Y kc ks pc' L (.long (a ||| b) :: st) w Tg) : GoT l E Y kc ks pc L (.long b :: .long a :: st) w Tg := by
  intro p e s m args below meth c H locs ls C hH hS hl
  obtain ⟨hx, hb, hml, hr, ho, hts, hK, hlk, hnm, hbs⟩ := id C
  subst hp
  refine lv_lor hx hb hd ?_
  exact h p e s m args below meth c H locs ls C hH hS hl
theorem g_lshl {a v : Int64} {b : Int} (hd : decode Y.2.1 pc = .ok (.lshl, 1)) (hp : pc + 1 = pc') (hv : a <<< ((iz b).toInt64 &&& 63) = v) (h : GoT l E Y kc ks pc' L (.long v :: st) w Tg) : GoT l E Y kc ks pc L (.int (iz b) :: .long a :: st) w Tg := by
  intro p e s m args below meth c H locs ls C hH hS hl
  obtain ⟨hx, hb, hml, hr, ho, hts, hK, hlk, hnm, hbs⟩ := id C
  subst hp
  refine lv_lshl hx hb hd hv ?_
  exact h p e s m args below meth c H locs ls C hH hS hl
theorem g_lshr {a v : Int64} {b : Int} (hd : decode Y.2.1 pc = .ok (.lshr, 1)) (hp : pc + 1 = pc') (hv : a >>> ((iz b).toInt64 &&& 63) = v) (h : GoT l E Y kc ks pc' L (.long v :: st) w Tg) : GoT l E Y kc ks pc L (.int (iz b) :: .long a :: st) w Tg := by
  intro p e s m args below meth c H locs ls C hH hS hl
  obtain ⟨hx, hb, hml, hr, ho, hts, hK, hlk, hnm, hbs⟩ := id C
  subst hp
  refine lv_lshr hx hb hd hv ?_
  exact h p e s m args below meth c H locs ls C hH hS hl
theorem g_i2l {a : Int} (hd : decode Y.2.1 pc = .ok (.i2l, 1)) (hp : pc + 1 = pc') (h : GoT l E Y kc ks pc' L (.long (iz a).toInt64 :: st) w Tg) : GoT l E Y kc ks pc L (.int (iz a) :: st) w Tg := by
  intro p e s m args below meth c H locs ls C hH hS hl
  obtain ⟨hx, hb, hml, hr, ho, hts, hK, hlk, hnm, hbs⟩ := id C
  subst hp
  refine lv_i2l hx hb hd rfl ?_
  exact h p e s m args below meth c H locs ls C hH hS hl
theorem g_lcmp {a b : Int64} {v : Int} (hd : decode Y.2.1 pc = .ok (.lcmp, 1)) (hp : pc + 1 = pc') (hv : lg_cmp a b = iz v) (h : GoT l E Y kc ks pc' L (.int (iz v) :: st) w Tg) : GoT l E Y kc ks pc L (.long b :: .long a :: st) w Tg := by
  intro p e s m args below meth c H locs ls C hH hS hl
  obtain ⟨hx, hb, hml, hr, ho, hts, hK, hlk, hnm, hbs⟩ := id C
  subst hp
  refine W.lcmp hx hb hd ?_
  rw [hv]
  exact h p e s m args below meth c H locs ls C hH hS hl
theorem g_dcmp {a b : UInt64} {op : CmpOp} {v : Int} (hd : decode Y.2.1 pc = .ok (.dcmp op, 1)) (hp : pc + 1 = pc') (hv : Op.cmpValue (FP.dcmp a b) op = iz v) (h : GoT l E Y kc ks pc' L (.int (iz v) :: st) w Tg) : GoT l E Y kc ks pc L (.double b :: .double a :: st) w Tg := by
  intro p e s m args below meth c H locs ls C hH hS hl
  obtain ⟨hx, hb, hml, hr, ho, hts, hK, hlk, hnm, hbs⟩ := id C
  subst hp
  refine lv_dcmp hx hb hd ?_
  rw [hv]
  exact h p e s m args below meth c H locs ls C hH hS hl
theorem g_ddiv {a b : UInt64} (hd : decode Y.2.1 pc = .ok (.ddiv, 1)) (hp : pc + 1 = pc') (hne : vf_n64 (FP.ddiv a b)) (h : GoT l E Y kc ks pc' L (.double (FP.ddiv a b) :: st) w Tg) : GoT l E Y kc ks pc L (.double b :: .double a :: st) w Tg := by
  intro p e s m args below meth c H locs ls C hH hS hl
  obtain ⟨hx, hb, hml, hr, ho, hts, hK, hlk, hnm, hbs⟩ := id C
  subst hp
  refine lv_ddiv hx hb hd hne ?_
  exact h p e s m args below meth c H locs ls C hH hS hl
theorem g_dmul {a b : UInt64} (hd : decode Y.2.1 pc = .ok (.dmul, 1)) (hp : pc + 1 = pc') (hne : vf_n64 (FP.dmul a b)) (h : GoT l E Y kc ks pc' L (.double (FP.dmul a b) :: st) w Tg) : GoT l E Y kc ks pc L (.double b :: .double a :: st) w Tg := by
  intro p e s m args below meth c H locs ls C hH hS hl
  obtain ⟨hx, hb, hml, hr, ho, hts, hK, hlk, hnm, hbs⟩ := id C
  subst hp
  refine lv_dmul hx hb hd hne ?_
  exact h p e s m args below meth c H locs ls C hH hS hl
theorem g_dsub {a b : UInt64} (hd : decode Y.2.1 pc = .ok (.dsub, 1)) (hp : pc + 1 = pc') (hne : vf_n64 (FP.dsub a b)) (h : GoT l E Y kc ks pc' L (.double (FP.dsub a b) :: st) w Tg) : GoT l E Y kc ks pc L (.double b :: .double a :: st) w Tg := by
  intro p e s m args below meth c H locs ls C hH hS hl
  obtain ⟨hx, hb, hml, hr, ho, hts, hK, hlk, hnm, hbs⟩ := id C
  subst hp
  refine lv_dsub hx hb hd hne ?_
  exact h p e s m args below meth c H locs ls C hH hS hl
theorem g_i2d {a : Int} (hd : decode Y.2.1 pc = .ok (.i2d, 1)) (hp : pc + 1 = pc') (h : GoT l E Y kc ks pc' L (.double (FP.i2d (iz a)) :: st) w Tg) : GoT l E Y kc ks pc L (.int (iz a) :: st) w Tg := by
  intro p e s m args below meth c H locs ls C hH hS hl
  obtain ⟨hx, hb, hml, hr, ho, hts, hK, hlk, hnm, hbs⟩ := id C
  subst hp
  refine lv_i2d hx hb hd ?_
  exact h p e s m args below meth c H locs ls C hH hS hl
theorem g_d2l {a : UInt64} (hd : decode Y.2.1 pc = .ok (.d2l, 1)) (hp : pc + 1 = pc') (h : GoT l E Y kc ks pc' L (.long (FP.d2l a) :: st) w Tg) : GoT l E Y kc ks pc L (.double a :: st) w Tg := by
  intro p e s m args below meth c H locs ls C hH hS hl
  obtain ⟨hx, hb, hml, hr, ho, hts, hK, hlk, hnm, hbs⟩ := id C
  subst hp
  refine lv_d2l hx hb hd ?_
  exact h p e s m args below meth c H locs ls C hH hS hl
theorem g_dup {v : Value} (hd : decode Y.2.1 pc = .ok (.dup, 1)) (hp : pc + 1 = pc') (hc : v.category = 1) (h : GoT l E Y kc ks pc' L (v :: v :: st) w Tg) : GoT l E Y kc ks pc L (v :: st) w Tg := by
  intro p e s m args below meth c H locs ls C hH hS hl
  obtain ⟨hx, hb, hml, hr, ho, hts, hK, hlk, hnm, hbs⟩ := id C
  subst hp
  refine lv_dup hx hb hd hc ?_
  exact h p e s m args below meth c H locs ls C hH hS hl
theorem g_dup2 {u v : Value} (hd : decode Y.2.1 pc = .ok (.dup2, 1)) (hp : pc + 1 = pc') (hc : v.category = 1) (hc2 : u.category = 1) (h : GoT l E Y kc ks pc' L (v :: u :: v :: u :: st) w Tg) : GoT l E Y kc ks pc L (v :: u :: st) w Tg := by
  intro p e s m args below meth c H locs ls C hH hS hl
  obtain ⟨hx, hb, hml, hr, ho, hts, hK, hlk, hnm, hbs⟩ := id C
  subst hp
  refine lv_dup2_11 hx hb hd hc hc2 ?_
  exact h p e s m args below meth c H locs ls C hH hS hl
theorem g_pop {v : Value} (hd : decode Y.2.1 pc = .ok (.pop, 1)) (hp : pc + 1 = pc') (hc : v.category = 1) (h : GoT l E Y kc ks pc' L (st) w Tg) : GoT l E Y kc ks pc L (v :: st) w Tg := by
  intro p e s m args below meth c H locs ls C hH hS hl
  obtain ⟨hx, hb, hml, hr, ho, hts, hK, hlk, hnm, hbs⟩ := id C
  subst hp
  refine lv_pop hx hb hd hc ?_
  exact h p e s m args below meth c H locs ls C hH hS hl
theorem g_icmp_eq {a b off : Int} {t : Nat} (hd : decode Y.2.1 pc = .ok (.if_icmp .eq off, 3)) (ht : (pc : Int) + off = (t : Int)) (hp : pc + 3 = pc') (ha1 : R32 a) (hb1 : R32 b) (h1 : a = b → GoT l E Y kc ks t L st w Tg) (h2 : ¬ a = b → GoT l E Y kc ks pc' L st w Tg) : GoT l E Y kc ks pc L (.int (iz b) :: .int (iz a) :: st) w Tg := by
  intro p e s m args below meth c H locs ls C hH hS hl
  obtain ⟨hx, hb, hml, hr, ho, hts, hK, hlk, hnm, hbs⟩ := id C
  subst hp
  have ht1 := fun q => h1 q p e s m args below meth c H locs ls C hH hS hl
  have hf1 := fun q => h2 q p e s m args below meth c H locs ls C hH hS hl
  exact lv_icmp_eq hx hb hd ht (fun q => ht1 ((iz_eq ha1 hb1).mp q)) (fun q => hf1 (fun q2 => q ((iz_eq ha1 hb1).mpr q2)))
theorem g_icmp_ne {a b off : Int} {t : Nat} (hd : decode Y.2.1 pc = .ok (.if_icmp .ne off, 3)) (ht : (pc : Int) + off = (t : Int)) (hp : pc + 3 = pc') (ha1 : R32 a) (hb1 : R32 b) (h1 : ¬ a = b → GoT l E Y kc ks t L st w Tg) (h2 : a = b → GoT l E Y kc ks pc' L st w Tg) : GoT l E Y kc ks pc L (.int (iz b) :: .int (iz a) :: st) w Tg := by
  intro p e s m args below meth c H locs ls C hH hS hl
  obtain ⟨hx, hb, hml, hr, ho, hts, hK, hlk, hnm, hbs⟩ := id C
  subst hp
  have ht1 := fun q => h1 q p e s m args below meth c H locs ls C hH hS hl
  have hf1 := fun q => h2 q p e s m args below meth c H locs ls C hH hS hl
  exact lv_icmp_ne hx hb hd ht (fun q => ht1 (fun q2 => q ((iz_eq ha1 hb1).mpr q2))) (fun q => hf1 ((iz_eq ha1 hb1).mp q))
theorem g_icmp_lt {a b off : Int} {t : Nat} (hd : decode Y.2.1 pc = .ok (.if_icmp .lt off, 3)) (ht : (pc : Int) + off = (t : Int)) (hp : pc + 3 = pc') (ha1 : R32 a) (hb1 : R32 b) (h1 : a < b → GoT l E Y kc ks t L st w Tg) (h2 : ¬ a < b → GoT l E Y kc ks pc' L st w Tg) : GoT l E Y kc ks pc L (.int (iz b) :: .int (iz a) :: st) w Tg := by
  intro p e s m args below meth c H locs ls C hH hS hl
  obtain ⟨hx, hb, hml, hr, ho, hts, hK, hlk, hnm, hbs⟩ := id C
  subst hp
  have ht1 := fun q => h1 q p e s m args below meth c H locs ls C hH hS hl
  have hf1 := fun q => h2 q p e s m args below meth c H locs ls C hH hS hl
  exact lv_icmp_lt hx hb hd ht (fun q => ht1 ((iz_lt ha1 hb1).mp q)) (fun q => hf1 (fun q2 => q ((iz_lt ha1 hb1).mpr q2)))
theorem g_icmp_ge {a b off : Int} {t : Nat} (hd : decode Y.2.1 pc = .ok (.if_icmp .ge off, 3)) (ht : (pc : Int) + off = (t : Int)) (hp : pc + 3 = pc') (ha1 : R32 a) (hb1 : R32 b) (h1 : b ≤ a → GoT l E Y kc ks t L st w Tg) (h2 : ¬ b ≤ a → GoT l E Y kc ks pc' L st w Tg) : GoT l E Y kc ks pc L (.int (iz b) :: .int (iz a) :: st) w Tg := by
  intro p e s m args below meth c H locs ls C hH hS hl
  obtain ⟨hx, hb, hml, hr, ho, hts, hK, hlk, hnm, hbs⟩ := id C
  subst hp
  have ht1 := fun q => h1 q p e s m args below meth c H locs ls C hH hS hl
  have hf1 := fun q => h2 q p e s m args below meth c H locs ls C hH hS hl
  exact lv_icmp_ge hx hb hd ht (fun q => ht1 ((iz_le hb1 ha1).mp q)) (fun q => hf1 (fun q2 => q ((iz_le hb1 ha1).mpr q2)))
theorem g_icmp_gt {a b off : Int} {t : Nat} (hd : decode Y.2.1 pc = .ok (.if_icmp .gt off, 3)) (ht : (pc : Int) + off = (t : Int)) (hp : pc + 3 = pc') (ha1 : R32 a) (hb1 : R32 b) (h1 : b < a → GoT l E Y kc ks t L st w Tg) (h2 : ¬ b < a → GoT l E Y kc ks pc' L st w Tg) : GoT l E Y kc ks pc L (.int (iz b) :: .int (iz a) :: st) w Tg := by
  intro p e s m args below meth c H locs ls C hH hS hl
  obtain ⟨hx, hb, hml, hr, ho, hts, hK, hlk, hnm, hbs⟩ := id C
  subst hp
  have ht1 := fun q => h1 q p e s m args below meth c H locs ls C hH hS hl
  have hf1 := fun q => h2 q p e s m args below meth c H locs ls C hH hS hl
  exact lv_icmp_gt hx hb hd ht (fun q => ht1 ((iz_lt hb1 ha1).mp q)) (fun q => hf1 (fun q2 => q ((iz_lt hb1 ha1).mpr q2)))
theorem g_icmp_le {a b off : Int} {t : Nat} (hd : decode Y.2.1 pc = .ok (.if_icmp .le off, 3)) (ht : (pc : Int) + off = (t : Int)) (hp : pc + 3 = pc') (ha1 : R32 a) (hb1 : R32 b) (h1 : a ≤ b → GoT l E Y kc ks t L st w Tg) (h2 : ¬ a ≤ b → GoT l E Y kc ks pc' L st w Tg) : GoT l E Y kc ks pc L (.int (iz b) :: .int (iz a) :: st) w Tg := by
  intro p e s m args below meth c H locs ls C hH hS hl
  obtain ⟨hx, hb, hml, hr, ho, hts, hK, hlk, hnm, hbs⟩ := id C
  subst hp
  have ht1 := fun q => h1 q p e s m args below meth c H locs ls C hH hS hl
  have hf1 := fun q => h2 q p e s m args below meth c H locs ls C hH hS hl
  exact lv_icmp_le hx hb hd ht (fun q => ht1 ((iz_le ha1 hb1).mp q)) (fun q => hf1 (fun q2 => q ((iz_le ha1 hb1).mpr q2)))
theorem g_if_eq {a off : Int} {t : Nat} (hd : decode Y.2.1 pc = .ok (.ifCond .eq off, 3)) (ht : (pc : Int) + off = (t : Int)) (hp : pc + 3 = pc') (ha1 : R32 a) (h1 : a = 0 → GoT l E Y kc ks t L st w Tg) (h2 : ¬ a = 0 → GoT l E Y kc ks pc' L st w Tg) : GoT l E Y kc ks pc L (.int (iz a) :: st) w Tg := by
  intro p e s m args below meth c H locs ls C hH hS hl
  obtain ⟨hx, hb, hml, hr, ho, hts, hK, hlk, hnm, hbs⟩ := id C
  subst hp
  have ht1 := fun q => h1 q p e s m args below meth c H locs ls C hH hS hl
  have hf1 := fun q => h2 q p e s m args below meth c H locs ls C hH hS hl
  exact lv_if_eq hx hb hd ht (fun q => ht1 ((iz_eq0 ha1).mp q)) (fun q => hf1 (fun q2 => q ((iz_eq0 ha1).mpr q2)))
theorem g_if_ne {a off : Int} {t : Nat} (hd : decode Y.2.1 pc = .ok (.ifCond .ne off, 3)) (ht : (pc : Int) + off = (t : Int)) (hp : pc + 3 = pc') (ha1 : R32 a) (h1 : ¬ a = 0 → GoT l E Y kc ks t L st w Tg) (h2 : a = 0 → GoT l E Y kc ks pc' L st w Tg) : GoT l E Y kc ks pc L (.int (iz a) :: st) w Tg := by
  intro p e s m args below meth c H locs ls C hH hS hl
  obtain ⟨hx, hb, hml, hr, ho, hts, hK, hlk, hnm, hbs⟩ := id C
  subst hp
  have ht1 := fun q => h1 q p e s m args below meth c H locs ls C hH hS hl
  have hf1 := fun q => h2 q p e s m args below meth c H locs ls C hH hS hl
  exact lv_if_ne hx hb hd ht (fun q => ht1 (fun q2 => q ((iz_eq0 ha1).mpr q2))) (fun q => hf1 ((iz_eq0 ha1).mp q))
theorem g_if_lt {a off : Int} {t : Nat} (hd : decode Y.2.1 pc = .ok (.ifCond .lt off, 3)) (ht : (pc : Int) + off = (t : Int)) (hp : pc + 3 = pc') (ha1 : R32 a) (h1 : a < 0 → GoT l E Y kc ks t L st w Tg) (h2 : ¬ a < 0 → GoT l E Y kc ks pc' L st w Tg) : GoT l E Y kc ks pc L (.int (iz a) :: st) w Tg := by
  intro p e s m args below meth c H locs ls C hH hS hl
  obtain ⟨hx, hb, hml, hr, ho, hts, hK, hlk, hnm, hbs⟩ := id C
  subst hp
  have ht1 := fun q => h1 q p e s m args below meth c H locs ls C hH hS hl
  have hf1 := fun q => h2 q p e s m args below meth c H locs ls C hH hS hl
  exact lv_if_lt hx hb hd ht (fun q => ht1 ((iz_lt0 ha1).mp q)) (fun q => hf1 (fun q2 => q ((iz_lt0 ha1).mpr q2)))
theorem g_if_ge {a off : Int} {t : Nat} (hd : decode Y.2.1 pc = .ok (.ifCond .ge off, 3)) (ht : (pc : Int) + off = (t : Int)) (hp : pc + 3 = pc') (ha1 : R32 a) (h1 : 0 ≤ a → GoT l E Y kc ks t L st w Tg) (h2 : ¬ 0 ≤ a → GoT l E Y kc ks pc' L st w Tg) : GoT l E Y kc ks pc L (.int (iz a) :: st) w Tg := by
  intro p e s m args below meth c H locs ls C hH hS hl
  obtain ⟨hx, hb, hml, hr, ho, hts, hK, hlk, hnm, hbs⟩ := id C
  subst hp
  have ht1 := fun q => h1 q p e s m args below meth c H locs ls C hH hS hl
  have hf1 := fun q => h2 q p e s m args below meth c H locs ls C hH hS hl
  exact lv_if_ge hx hb hd ht (fun q => ht1 ((iz_ge0 ha1).mp q)) (fun q => hf1 (fun q2 => q ((iz_ge0 ha1).mpr q2)))
theorem g_if_gt {a off : Int} {t : Nat} (hd : decode Y.2.1 pc = .ok (.ifCond .gt off, 3)) (ht : (pc : Int) + off = (t : Int)) (hp : pc + 3 = pc') (ha1 : R32 a) (h1 : 0 < a → GoT l E Y kc ks t L st w Tg) (h2 : ¬ 0 < a → GoT l E Y kc ks pc' L st w Tg) : GoT l E Y kc ks pc L (.int (iz a) :: st) w Tg := by
  intro p e s m args below meth c H locs ls C hH hS hl
  obtain ⟨hx, hb, hml, hr, ho, hts, hK, hlk, hnm, hbs⟩ := id C
  subst hp
  have ht1 := fun q => h1 q p e s m args below meth c H locs ls C hH hS hl
  have hf1 := fun q => h2 q p e s m args below meth c H locs ls C hH hS hl
  exact lv_if_gt hx hb hd ht (fun q => ht1 ((iz_gt0 ha1).mp q)) (fun q => hf1 (fun q2 => q ((iz_gt0 ha1).mpr q2)))
theorem g_if_le {a off : Int} {t : Nat} (hd : decode Y.2.1 pc = .ok (.ifCond .le off, 3)) (ht : (pc : Int) + off = (t : Int)) (hp : pc + 3 = pc') (ha1 : R32 a) (h1 : a ≤ 0 → GoT l E Y kc ks t L st w Tg) (h2 : ¬ a ≤ 0 → GoT l E Y kc ks pc' L st w Tg) : GoT l E Y kc ks pc L (.int (iz a) :: st) w Tg := by
  intro p e s m args below meth c H locs ls C hH hS hl
  obtain ⟨hx, hb, hml, hr, ho, hts, hK, hlk, hnm, hbs⟩ := id C
  subst hp
  have ht1 := fun q => h1 q p e s m args below meth c H locs ls C hH hS hl
  have hf1 := fun q => h2 q p e s m args below meth c H locs ls C hH hS hl
  exact lv_if_le hx hb hd ht (fun q => ht1 ((iz_le0 ha1).mp q)) (fun q => hf1 (fun q2 => q ((iz_le0 ha1).mpr q2)))
theorem g_goto {off : Int} {t : Nat} (hd : decode Y.2.1 pc = .ok (.goto off, 3)) (ht : (pc : Int) + off = (t : Int)) (h : GoT l E Y kc ks t L st w Tg) : GoT l E Y kc ks pc L st w Tg := by
  intro p e s m args below meth c H locs ls C hH hS hl
  obtain ⟨hx, hb, hml, hr, ho, hts, hK, hlk, hnm, hbs⟩ := id C
  exact lv_goto hx hb hd ht (h p e s m args below meth c H locs ls C hH hS hl)
theorem g_tswIn {a dflt lo hi off : Int} {offs : Array Int} {len t : Nat} (hd : decode Y.2.1 pc = .ok (.tableswitch dflt lo hi offs, len)) (ha1 : R32 a) (h1 : lo ≤ a) (h2 : a ≤ hi) (ho1 : offs[(a - lo).toNat]? = some off) (ht : (pc : Int) + off = (t : Int)) (h : GoT l E Y kc ks t L st w Tg) : GoT l E Y kc ks pc L (.int (iz a) :: st) w Tg := by
  intro p e s m args below meth c H locs ls C hH hS hl
  obtain ⟨hx, hb, hml, hr, ho, hts, hK, hlk, hnm, hbs⟩ := id C
  have e9 := iz_toInt ha1
  exact lv_tableIn hx hb hd (by rw [e9]; omega) (by rw [e9]; omega) (by rw [e9]; exact ho1) ht (h p e s m args below meth c H locs ls C hH hS hl)
theorem g_tswOut {a dflt lo hi : Int} {offs : Array Int} {len t : Nat} (hd : decode Y.2.1 pc = .ok (.tableswitch dflt lo hi offs, len)) (ha1 : R32 a) (h1 : a < lo ∨ hi < a) (ht : (pc : Int) + dflt = (t : Int)) (h : GoT l E Y kc ks t L st w Tg) : GoT l E Y kc ks pc L (.int (iz a) :: st) w Tg := by
  intro p e s m args below meth c H locs ls C hH hS hl
  obtain ⟨hx, hb, hml, hr, ho, hts, hK, hlk, hnm, hbs⟩ := id C
  have e9 := iz_toInt ha1
  exact lv_tableOut hx hb hd (by rw [e9]; exact h1) ht (h p e s m args below meth c H locs ls C hH hS hl)
theorem g_lsw {a dflt off : Int} {ps : Array (Int × Int)} {len t : Nat} (hd : decode Y.2.1 pc = .ok (.lookupswitch dflt ps, len)) (ha1 : R32 a) (hs : (ps.toList.zip (ps.toList.drop 1)).all (fun (a, next) => a.1 < next.1) = true) (ho1 : Op.lookupswitch.offset ps.toList dflt a = off) (ht : (pc : Int) + off = (t : Int)) (h : GoT l E Y kc ks t L st w Tg) : GoT l E Y kc ks pc L (.int (iz a) :: st) w Tg := by
  intro p e s m args below meth c H locs ls C hH hS hl
  obtain ⟨hx, hb, hml, hr, ho, hts, hK, hlk, hnm, hbs⟩ := id C
  have e9 := iz_toInt ha1
  exact lv_lookup hx hb hd hs (by rw [e9]; exact ho1) ht (h p e s m args below meth c H locs ls C hH hS hl)
theorem g_ifnull {a : Nat} {off : Int} (hd : decode Y.2.1 pc = .ok (.ifnull off, 3)) (hp : pc + 3 = pc') (h : GoT l E Y kc ks pc' L st w Tg) : GoT l E Y kc ks pc L (.ref a :: st) w Tg := by
  intro p e s m args below meth c H locs ls C hH hS hl
  obtain ⟨hx, hb, hml, hr, ho, hts, hK, hlk, hnm, hbs⟩ := id C
  subst hp
  exact lv_ifnull hx hb hd (h p e s m args below meth c H locs ls C hH hS hl)
theorem g_ifnonnull {a : Nat} {off : Int} {t : Nat} (hd : decode Y.2.1 pc = .ok (.ifnonnull off, 3)) (ht : (pc : Int) + off = (t : Int)) (h : GoT l E Y kc ks t L st w Tg) : GoT l E Y kc ks pc L (.ref a :: st) w Tg := by
  intro p e s m args below meth c H locs ls C hH hS hl
  obtain ⟨hx, hb, hml, hr, ho, hts, hK, hlk, hnm, hbs⟩ := id C
  exact lv_ifnonnull hx hb hd ht (h p e s m args below meth c H locs ls C hH hS hl)
theorem g_ifnullN {off : Int} {t : Nat} (hd : decode Y.2.1 pc = .ok (.ifnull off, 3)) (ht : (pc : Int) + off = (t : Int)) (h : GoT l E Y kc ks t L st w Tg) : GoT l E Y kc ks pc L (.null :: st) w Tg := by
  intro p e s m args below meth c H locs ls C hH hS hl
  obtain ⟨hx, hb, hml, hr, ho, hts, hK, hlk, hnm, hbs⟩ := id C
  exact lv_ifnullN hx hb hd ht (h p e s m args below meth c H locs ls C hH hS hl)
theorem g_ifnonnullN {off : Int} (hd : decode Y.2.1 pc = .ok (.ifnonnull off, 3)) (hp : pc + 3 = pc') (h : GoT l E Y kc ks pc' L st w Tg) : GoT l E Y kc ks pc L (.null :: st) w Tg := by
  intro p e s m args below meth c H locs ls C hH hS hl
  obtain ⟨hx, hb, hml, hr, ho, hts, hK, hlk, hnm, hbs⟩ := id C
  subst hp
  exact lv_ifnonnullN hx hb hd (h p e s m args below meth c H locs ls C hH hS hl)
theorem g_iret {a : Int} (hd : decode Y.2.1 pc = .ok (.ireturn, 1)) (hrt : Y.2.2.2.1 = some .int) (hkc : kc ≤ Y.2.2.2.2.cells) (hks : ks ≤ Y.2.2.2.2.slots) (h : K (some (.int (iz a))) w) : Go l E Y kc ks pc L [.int (iz a)] w K := by
  intro p e s m args below meth c H locs ls C hH hS hl
  obtain ⟨hx, hb, hml, hr, ho, hts, hK, hlk, hnm, hbs⟩ := id C
  refine W.widen (k := Y.2.2.2.2.cells) (n := Y.2.2.2.2.slots) hkc hks ?_
  exact W.iret hx hb (hr.trans hrt) (fun t ht hW => ⟨⟨_, w, rfl, h, by rw [ht]; exact hH⟩, hS.F ht⟩) hS.2.2 hd hlk
theorem g_zret {a : Int} (hd : decode Y.2.1 pc = .ok (.ireturn, 1)) (hrt : Y.2.2.2.1 = some .boolean) (ha : a = 0 ∨ a = 1) (hkc : kc ≤ Y.2.2.2.2.cells) (hks : ks ≤ Y.2.2.2.2.slots) (h : K (some (.int (iz a))) w) : Go l E Y kc ks pc L [.int (iz a)] w K := by
  intro p e s m args below meth c H locs ls C hH hS hl
  obtain ⟨hx, hb, hml, hr, ho, hts, hK, hlk, hnm, hbs⟩ := id C
  refine W.widen (k := Y.2.2.2.2.cells) (n := Y.2.2.2.2.slots) hkc hks ?_
  exact W.zret hx hb (hr.trans hrt) (by rcases ha with rfl | rfl <;> rfl) (fun t ht hW => ⟨⟨_, w, rfl, h, by rw [ht]; exact hH⟩, hS.F ht⟩) hS.2.2 hd hlk
theorem g_lret {a : Int64} (hd : decode Y.2.1 pc = .ok (.lreturn, 1)) (hrt : Y.2.2.2.1 = some .long) (hkc : kc ≤ Y.2.2.2.2.cells) (hks : ks ≤ Y.2.2.2.2.slots) (h : K (some (.long a)) w) : Go l E Y kc ks pc L [.long a] w K := by
  intro p e s m args below meth c H locs ls C hH hS hl
  obtain ⟨hx, hb, hml, hr, ho, hts, hK, hlk, hnm, hbs⟩ := id C
  refine W.widen (k := Y.2.2.2.2.cells) (n := Y.2.2.2.2.slots) hkc hks ?_
  exact W.lret hx hb (hr.trans hrt) (fun t ht hW => ⟨⟨_, w, rfl, h, by rw [ht]; exact hH⟩, hS.F ht⟩) hS.2.2 hd hlk
theorem g_dret {a : UInt64} (hd : decode Y.2.1 pc = .ok (.dreturn, 1)) (hrt : Y.2.2.2.1 = some .double) (hkc : kc ≤ Y.2.2.2.2.cells) (hks : ks ≤ Y.2.2.2.2.slots) (h : K (some (.double a)) w) : Go l E Y kc ks pc L [.double a] w K := by
  intro p e s m args below meth c H locs ls C hH hS hl
  obtain ⟨hx, hb, hml, hr, ho, hts, hK, hlk, hnm, hbs⟩ := id C
  refine W.widen (k := Y.2.2.2.2.cells) (n := Y.2.2.2.2.slots) hkc hks ?_
  exact W.dret hx hb (hr.trans hrt) (fun t ht hW => ⟨⟨_, w, rfl, h, by rw [ht]; exact hH⟩, hS.F ht⟩) hS.2.2 hd hlk
theorem g_vret (hd : decode Y.2.1 pc = .ok (.return_, 1)) (hrt : Y.2.2.2.1 = none) (hkc : kc ≤ Y.2.2.2.2.cells) (hks : ks ≤ Y.2.2.2.2.slots) (h : K none w) : Go l E Y kc ks pc L [] w K := by
  intro p e s m args below meth c H locs ls C hH hS hl
  obtain ⟨hx, hb, hml, hr, ho, hts, hK, hlk, hnm, hbs⟩ := id C
  refine W.widen (k := Y.2.2.2.2.cells) (n := Y.2.2.2.2.slots) hkc hks ?_
  exact W.vret hx hb (hr.trans hrt) (fun t ht hW => ⟨⟨_, w, rfl, h, by rw [ht]; exact hH⟩, hS.F ht⟩) hS.2.2 hd hlk
theorem g_aret {v : Value} {C : String} (hd : decode Y.2.1 pc = .ok (.areturn, 1)) (hrt : Y.2.2.2.1 = some (.object C)) (hv : v = .null ∨ ∃ a, v = .ref a) (hkc : kc ≤ Y.2.2.2.2.cells) (hks : ks ≤ Y.2.2.2.2.slots) (h : K (some v) w) : Go l E Y kc ks pc L [v] w K := by
  intro p e s m args below meth c H locs ls C hH hS hl
  obtain ⟨hx, hb, hml, hr, ho, hts, hK, hlk, hnm, hbs⟩ := id C
  refine W.widen (k := Y.2.2.2.2.cells) (n := Y.2.2.2.2.slots) hkc hks ?_
  exact W.aret hx hb (hr.trans hrt) (Or.inl ⟨_, rfl⟩) hv (fun t ht hW => ⟨⟨_, w, rfl, h, by rw [ht]; exact hH⟩, hS.F ht⟩) hS.2.2 hd hlk
end Rows2
