/-! ROWS 5: calls of methods of which all is known; arraycopy, Math -/
theorem vi {a b : Int} (h : a = b) : some (Value.int (iz a)) = some (Value.int (iz b)) := by rw [h]
def q_z0 (Y : QY) : Bool := Nat.beq Y.2.2.2.2.cells 0 && Nat.beq Y.2.2.2.2.slots 0
theorem q_z0_of {Y : QY} (h : q_z0 Y = true) : Y.2.2.2.2.cells = 0 ∧ Y.2.2.2.2.slots = 0 := by
  simp only [q_z0, Bool.and_eq_true, Nat.beq_eq] at h
  exact h
section Calls5
variable {l : Launch} {E : QE} {Y : QY} {kc ks pc pc' : Nat} {L : List (Option Value)} {st : List Value} {T : Nat → Nat × Nat} {I : Nat → Nat → Int} {J : Nat → Nat → Int64} {R : Nat → Nat → Option Nat} {n z : Nat} {w w' : QW} {K : Option Value → QW → Prop} {Tg : List Frame → Array Value → State → State → Prop}
theorem g_callVv {Y' : QY} {idx m0 k c len : Nat} {vs : List Value} {v : Value} (hM : SpV l E Y' (.ref (E.1 + k) :: vs) w v w') (hd : decode Y.2.1 pc = .ok (.invokevirtual idx, 3)) (hp : pc + 3 = pc') (hc : q_cv Y.1.cls idx Y' m0) (hfit : q_fit Y Y' kc ks = true)
    (hT : w.1 k = (c, len)) (hk : k < w.2.2.2.2.1) (hcl : c < 6 ∧ ∃ q, vwCl[c]? = some q ∧ q.1 = Y'.1.cls) {stk : List Value} (hstk : stk = vs.reverse ++ .ref (E.1 + k) :: st) (hlen : vs.length = m0) (hcat : q_cat st = true) (hz : q_z0 Y' = true)
    (h : GoT l E Y kc ks pc' L (v :: st) w' Tg) : GoT l E Y kc ks pc L stk w Tg := by
  refine g_callV hM hd hp hc hfit hT hk hcl hstk hlen hcat ?_
  rintro r w1 ⟨rfl, rfl⟩
  rw [(q_z0_of hz).1, (q_z0_of hz).2]
  exact h
theorem g_callVn {Y' : QY} {idx m0 k c len : Nat} {vs : List Value} (hM : SpN l E Y' (.ref (E.1 + k) :: vs) w w') (hd : decode Y.2.1 pc = .ok (.invokevirtual idx, 3)) (hp : pc + 3 = pc') (hc : q_cv Y.1.cls idx Y' m0) (hfit : q_fit Y Y' kc ks = true)
    (hT : w.1 k = (c, len)) (hk : k < w.2.2.2.2.1) (hcl : c < 6 ∧ ∃ q, vwCl[c]? = some q ∧ q.1 = Y'.1.cls) {stk : List Value} (hstk : stk = vs.reverse ++ .ref (E.1 + k) :: st) (hlen : vs.length = m0) (hcat : q_cat st = true) (hz : q_z0 Y' = true)
    (h : GoT l E Y kc ks pc' L st w' Tg) : GoT l E Y kc ks pc L stk w Tg := by
  refine g_callV hM hd hp hc hfit hT hk hcl hstk hlen hcat ?_
  rintro r w1 ⟨rfl, rfl⟩
  rw [(q_z0_of hz).1, (q_z0_of hz).2]
  exact h
theorem g_callSv {Y' : QY} {idx m0 : Nat} {vs : List Value} {v : Value} (hM : SpV l E Y' vs w v w') (hd : decode Y.2.1 pc = .ok (.invokestatic idx, 3)) (hp : pc + 3 = pc') (hc : q_cs Y.1.cls idx Y' m0) (hfit : q_fit Y Y' kc ks = true)
    {stk : List Value} (hstk : stk = vs.reverse ++ st) (hlen : vs.length = m0) (hcat : q_cat st = true) (hz : q_z0 Y' = true)
    (h : GoT l E Y kc ks pc' L (v :: st) w' Tg) : GoT l E Y kc ks pc L stk w Tg := by
  refine g_callS hM hd hp hc hfit hstk hlen hcat ?_
  rintro r w1 ⟨rfl, rfl⟩
  rw [(q_z0_of hz).1, (q_z0_of hz).2]
  exact h
theorem g_callSn {Y' : QY} {idx m0 : Nat} {vs : List Value} (hM : SpN l E Y' vs w w') (hd : decode Y.2.1 pc = .ok (.invokestatic idx, 3)) (hp : pc + 3 = pc') (hc : q_cs Y.1.cls idx Y' m0) (hfit : q_fit Y Y' kc ks = true)
    {stk : List Value} (hstk : stk = vs.reverse ++ st) (hlen : vs.length = m0) (hcat : q_cat st = true) (hz : q_z0 Y' = true)
    (h : GoT l E Y kc ks pc' L st w' Tg) : GoT l E Y kc ks pc L stk w Tg := by
  refine g_callS hM hd hp hc hfit hstk hlen hcat ?_
  rintro r w1 ⟨rfl, rfl⟩
  rw [(q_z0_of hz).1, (q_z0_of hz).2]
  exact h
theorem g_callSNv {Y' : QY} {idx m0 : Nat} {vs : List Value} {v : Value} (hM : SpV l E Y' vs w v w') (hd : decode Y.2.1 pc = .ok (.invokestatic idx, 3)) (hp : pc + 3 = pc') (hc : q_csN Y.1.cls idx Y' m0) (hfit : q_fit Y Y' kc ks = true)
    {stk : List Value} (hstk : stk = vs.reverse ++ st) (hlen : vs.length = m0) (hcat : q_cat st = true) (hz : q_z0 Y' = true)
    (h : GoT l E Y kc ks pc' L (v :: st) w' Tg) : GoT l E Y kc ks pc L stk w Tg := by
  refine g_callSN hM hd hp hc hfit hstk hlen hcat ?_
  rintro r w1 ⟨rfl, rfl⟩
  rw [(q_z0_of hz).1, (q_z0_of hz).2]
  exact h
def q_cm (own : String) (idx : Nat) (y : MethodName) (b : ByteArray) (m : Nat) : Prop := Cond.methodLink own idx y ∈ q_T ∧ Cond.static y ∈ q_T ∧ Cond.initialized "java/lang/Math" ∈ q_T ∧ Cond.code y b m (some .int) ∈ q_T
theorem g_mmax {idx : Nat} {a b v : Int} (hd : decode Y.2.1 pc = .ok (.invokestatic idx, 3)) (hp : pc + 3 = pc') (hc : q_cm Y.1.cls idx Lib.Math.max.name Lib.Math.max.code 2) (hf : 1 ≤ Y.2.2.2.2.frames) (hlo : (st.map fun v => v.category).sum + 13 ≤ Y.2.2.2.2.locals) (hkc : kc ≤ Y.2.2.2.2.cells) (hks : ks ≤ Y.2.2.2.2.slots)
    (ha1 : R32 a) (hb1 : R32 b) (hv : v = if a < b then b else a) (h : GoT l E Y kc ks pc' L (.int (iz v) :: st) w Tg) : GoT l E Y kc ks pc L (.int (iz b) :: .int (iz a) :: st) w Tg := by
  intro p e s m args below meth c0 H locs ls C hH hS hl
  obtain ⟨hx, hb, hml, hr, ho, hts, hK, hlk, hnm, hbs⟩ := id C
  obtain ⟨c1, c2, c3, c4⟩ := hc
  subst hp
  refine va_mmax hx hb (hml.trans hl.1.symm) ho (hts _ c1) (hts _ c2) (hts _ c3) (hts _ c4) hf hlo hkc hks hd ?_
  have e1 : (if iz a < iz b then iz b else iz a) = iz v := by
    rw [hv]
    by_cases q : a < b
    · rw [if_pos q, if_pos ((iz_lt ha1 hb1).mpr q)]
    · rw [if_neg q, if_neg (fun q2 => q ((iz_lt ha1 hb1).mp q2))]
  rw [e1]
  exact h p e s m args below meth c0 H locs ls C hH hS hl
theorem g_mmin {idx : Nat} {a b v : Int} (hd : decode Y.2.1 pc = .ok (.invokestatic idx, 3)) (hp : pc + 3 = pc') (hc : q_cm Y.1.cls idx Lib.Math.min.name Lib.Math.min.code 2) (hf : 1 ≤ Y.2.2.2.2.frames) (hlo : (st.map fun v => v.category).sum + 13 ≤ Y.2.2.2.2.locals) (hkc : kc ≤ Y.2.2.2.2.cells) (hks : ks ≤ Y.2.2.2.2.slots)
    (ha1 : R32 a) (hb1 : R32 b) (hv : v = if b < a then b else a) (h : GoT l E Y kc ks pc' L (.int (iz v) :: st) w Tg) : GoT l E Y kc ks pc L (.int (iz b) :: .int (iz a) :: st) w Tg := by
  intro p e s m args below meth c0 H locs ls C hH hS hl
  obtain ⟨hx, hb, hml, hr, ho, hts, hK, hlk, hnm, hbs⟩ := id C
  obtain ⟨c1, c2, c3, c4⟩ := hc
  subst hp
  refine va_mmin hx hb (hml.trans hl.1.symm) ho (hts _ c1) (hts _ c2) (hts _ c3) (hts _ c4) hf hlo hkc hks hd ?_
  have e1 : (if iz b < iz a then iz b else iz a) = iz v := by
    rw [hv]
    by_cases q : b < a
    · rw [if_pos q, if_pos ((iz_lt hb1 ha1).mpr q)]
    · rw [if_neg q, if_neg (fun q2 => q ((iz_lt hb1 ha1).mp q2))]
  rw [e1]
  exact h p e s m args below meth c0 H locs ls C hH hS hl
theorem g_mabs {idx : Nat} {a v : Int} (hd : decode Y.2.1 pc = .ok (.invokestatic idx, 3)) (hp : pc + 3 = pc') (hc : q_cm Y.1.cls idx Lib.Math.abs.name Lib.Math.abs.code 1) (hf : 1 ≤ Y.2.2.2.2.frames) (hlo : (st.map fun v => v.category).sum + 13 ≤ Y.2.2.2.2.locals) (hkc : kc ≤ Y.2.2.2.2.cells) (hks : ks ≤ Y.2.2.2.2.slots)
    (ha1 : R32 a) (hv : v = if 0 ≤ a then a else 0 - a) (h : GoT l E Y kc ks pc' L (.int (iz v) :: st) w Tg) : GoT l E Y kc ks pc L (.int (iz a) :: st) w Tg := by
  intro p e s m args below meth c0 H locs ls C hH hS hl
  obtain ⟨hx, hb, hml, hr, ho, hts, hK, hlk, hnm, hbs⟩ := id C
  obtain ⟨c1, c2, c3, c4⟩ := hc
  subst hp
  refine va_mabs hx hb (hml.trans hl.1.symm) ho (hts _ c1) (hts _ c2) (hts _ c3) (hts _ c4) hf hlo hkc hks hd ?_
  have e1 : (if 0 ≤ iz a then iz a else 0 - iz a) = iz v := by
    rw [hv]
    by_cases q : 0 ≤ a
    · rw [if_pos q, if_pos ((iz_ge0 ha1).mpr q)]
    · rw [if_neg q, if_neg (fun q2 => q ((iz_ge0 ha1).mp q2)), iz_0, iz_sub]
  rw [e1]
  exact h p e s m args below meth c0 H locs ls C hH hS hl
def q_cy (own : String) (idx : Nat) : Prop := Cond.methodLink own idx arraycopyName ∈ q_T ∧ Cond.native arraycopyName ∈ q_T ∧ Cond.static arraycopyName ∈ q_T ∧ Cond.initialized "java/lang/System" ∈ q_T
/-- whole rows are copied from 0 on (the heap's end isn't kept in mind here: z = 0) -/
theorem g_copy {idx k k2 len len2 : Nat} {m : Int} (hd : decode Y.2.1 pc = .ok (.invokestatic idx, 3)) (hp : pc + 3 = pc') (hc : q_cy Y.1.cls idx) (hf : 1 ≤ Y.2.2.2.2.frames) (hlo : (st.map fun v => v.category).sum + 18 ≤ Y.2.2.2.2.locals)
    (hT : T k = (6, len)) (hT2 : T k2 = (6, len2)) (hk : k < n) (hk2 : k2 < n) (hl9 : len < 2147483648) (hm : 0 ≤ m ∧ m ≤ len ∧ m ≤ len2)
    (h : GoT l E Y kc ks pc' L st (T, fun a => if a = k2 then (fun j : Nat => if (j : Int) < m then I k j else I k2 j) else I a, J, R, n, 0) Tg) : GoT l E Y kc ks pc L (.int (iz m) :: .int (iz 0) :: .ref (E.1 + k2) :: .int (iz 0) :: .ref (E.1 + k) :: st) (T, I, J, R, n, 0) Tg := by
  intro p e s m0 args below meth c0 H locs ls C hH hS hl
  obtain ⟨hx, hb, hml, hr, ho, hts, hK, hlk, hnm, hbs⟩ := id C
  obtain ⟨c1, c2, c3, c4⟩ := hc
  obtain ⟨q, hq⟩ := q_place (E := E) (w := (T, I, J, R, n, 0)) hk
  obtain ⟨q2, hq2⟩ := q_place (E := E) (w := (T, I, J, R, n, 0)) hk2
  have hq0 := hq2
  rw [q_c_int hT (Or.inl rfl)] at hq
  rw [q_c_int hT2 (Or.inl rfl)] at hq2
  subst hp
  have e0 := q_upd (w' := (T, fun a => if a = k2 then (fun j : Nat => if (j : Int) < m then I k j else I k2 j) else I a, J, R, n, 0)) hH.2.1 hk2 hq0 rfl rfl (fun a ha => q_c_row rfl (if_neg ha) rfl rfl)
  rw [q_c_int (w := (T, fun a => if a = k2 then (fun j : Nat => if (j : Int) < m then I k j else I k2 j) else I a, J, R, n, 0)) hT2 (Or.inl rfl)] at e0
  have z0 : (iz 0).toNatClampNeg = 0 := by decide
  have zm : (iz m).toNatClampNeg = m.toNat := iz_cl hm.1 (by omega)
  refine va_copyi hx hb (hml.trans hl.1.symm) ho (hts _ c1) (hts _ c2) (hts _ c3) (hts _ c4) hK.1 hH.1 hH.2.1 hS q q2 0 0 hq hq2 rfl rfl rfl (by decide) (by decide) (by rw [iz_lt0 ⟨by omega, by omega⟩]; omega) (by rw [z0, zm]; omega) (by rw [z0, zm]; omega) (fun _ _ => rfl) hf (by
    have : nativeFrameWords "java/lang/System" "arraycopy" 5 + 11 = 18 := by decide
    rw [this]; exact hlo) hd (fun H1 locs1 hP1 hD1 hS1 => ?_)
  have ef : (va_cpy (fun j => iz (I k j)) (fun j => iz (I k2 j)) (iz 0).toNatClampNeg (iz 0).toNatClampNeg (iz m).toNatClampNeg) = (fun j => iz ((fun a => if a = k2 then (fun j : Nat => if (j : Int) < m then I k j else I k2 j) else I a) k2 j)) := by
    rw [z0, zm]
    funext j
    unfold va_cpy
    simp only [if_pos, Nat.zero_le, true_and, Nat.zero_add, Nat.sub_zero]
    by_cases hj : (j : Int) < m
    · rw [if_pos hj, if_pos (by omega)]
    · rw [if_neg hj, if_neg (by omega)]
  dsimp only at hP1 hD1 e0 ef
  rw [ef, e0] at hP1 hD1
  exact h p e s m0 args below meth c0 H1 _ ls C ⟨hP1, hD1, Nat.le_trans hbs hS1.1, fun q => absurd rfl q⟩ hS1 hl
end Calls5
