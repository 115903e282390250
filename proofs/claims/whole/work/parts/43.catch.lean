/-! a method that catches: the row of a call that may throw, with the handlers of the method's table; such a method as a whole -/
abbrev QH : Type := List (Nat × Nat × Nat × Nat)
def q_wsH (Y : QY) (hh : QH) : List Cond := .codeWith Y.1 Y.2.1 Y.2.2.1 Y.2.2.2.1 hh :: q_T
def TgK (E : QE) (Tg : List Frame → Array Value → State → State → Prop) : List Frame → Array Value → State → State → Prop := fun below args s t => q_KX E s s.heap → Tg below args s t
abbrev GoL (l : Launch) (E : QE) (Y : QY) (kc ks pc : Nat) (L : List (Option Value)) (st : List Value) (w : QW) (K : Option Value → QW → Prop) : Prop := GoT l E Y kc ks pc L st w (TgK E (fun below args s => MQ below (q_Qc E K) args s Y.2.2.2.2.cells Y.2.2.2.2.slots (q_A E)))
def SpL (l : Launch) (E : QE) (Y : QY) (hh : QH) (vs : List Value) (w : QW) (K : Option Value → QW → Prop) : Prop := Met l Y.1 (q_wsH Y hh) Y.2.2.2.2 (q_PcX E w vs) (q_Qc E K) Y.2.2.2.2.cells Y.2.2.2.2.slots (q_A E)
def q_ctn : Nat → String | 13 => xIOB | 15 => xIAE | _ => xISE
def q_han (hh : QH) (X : String) : Option Nat := (hh.find? (fun z => q_ctn z.2.2.2 == X)).map (fun z => z.2.2.1)
def q_hok (hh : QH) (pc : Nat) : Bool := hh.all (fun z => covers ⟨z.1, z.2.1, z.2.2.1, z.2.2.2⟩ pc && (z.2.2.2 == 13 || z.2.2.2 == 15 || z.2.2.2 == 17))
theorem q_ctl {ct : Nat} (h : ct = 13 ∨ ct = 15 ∨ ct = 17) : Cond.classLink "ScratchMapLaw" ct (q_ctn ct) ∈ q_T ∧ q_ctn ct ∈ q_XN := by
  rcases h with rfl | rfl | rfl
  · exact ⟨q_w 512 (by decide +kernel) rfl, by decide⟩
  · exact ⟨q_w 513 (by decide +kernel) rfl, by decide⟩
  · exact ⟨q_w 514 (by decide +kernel) rfl, by decide⟩
section
variable {l : Launch} {E : QE} {Y : QY} {kc ks pc pc' : Nat} {L : List (Option Value)} {st : List Value} {w : QW} {K : Option Value → QW → Prop} {Tg : List Frame → Array Value → State → State → Prop}
theorem GoL.of (h : Go l E Y kc ks pc L st w K) : GoL l E Y kc ks pc L st w K := by
  intro p e s m args below meth c H locs ls C hH hS hl T hT X
  obtain ⟨t, a1, b1⟩ := h p e s m args below meth c H locs ls C hH hS hl T hT X
  exact ⟨t, a1, fun _ => b1⟩
theorem SpL.of {hh : QH} {vs : List Value} (L : List (Option Value)) (hy : plainName Y.1.cls = true) (hle : (lg_sl vs).length ≤ Y.2.2.1) (hL : ∀ q ∈ q_l 0 L, q ∈ lv_args 0 vs) (h : GoL l E Y 0 0 0 L [] w K) : SpL l E Y hh vs w K := by
  unfold SpL Met
  refine MetFree.of_bodyS (code := Y.2.1) (maxLocals := Y.2.2.1) (ret := Y.2.2.2.1) hy ?_ ?_
  · intro args s m h hn
    obtain ⟨m9, meth, c, hn9, h1, h2, h3, h4, -, h5, h6, -⟩ := Cond.codeWith_spec (atoms_spec (ws := q_wsH Y hh) h _ List.mem_cons_self)
    cases hn.symm.trans hn9
    exact ⟨meth, c, h1, h2, h3, h4, h5, h6⟩
  · intro p e s m args below meth c s₁ B hml hv _
    have hh0 : s₁.heap = s.heap := by rw [B.state]; rfl
    obtain ⟨rfl, hH, hK, hX⟩ := hv
    have hl := lv_entry vs (n := Y.2.2.1) hle
    have X₀ := Stand.of_body B
    have q := h p e s m _ below meth c s.heap [] _ ⟨B.exec, B.bytes, hml, B.returns, findClass_of_methodNamed B.named, fun w hw => atoms_spec (ws := q_wsH Y hh) B.pre w (List.mem_cons_of_mem _ hw), hK, B.notSynchronized, Or.inr ⟨B.named, (name_of_methodNamed B.named B.method).1⟩, hH.2.2.1⟩ hH va_S.rf ⟨hl.1, hl.2.1, fun q hq => hl.2.2 q (hL q hq)⟩
    rw [← lg_entry_eq] at q
    obtain ⟨t, a1, b1⟩ := q s₁ hh0 X₀
    obtain ⟨o, b1, b2, b3⟩ := b1 hX
    exact ⟨t, o, a1, b1, b2, ⟨b3.1, b3.2⟩⟩
theorem q_blindX {vs : List Value} : FrameBlind (q_PcX E w vs) := fun a U g mk h => by
  obtain ⟨h1, h2, h3, h4⟩ := h
  exact ⟨h1, h2, h3.to (U := U.calling g mk a) (State.WarmedH.refl U) (fun _ _ _ => rfl), h4.to (U := U.calling g mk a) (State.WarmedH.refl U) (fun _ _ _ => rfl)⟩
theorem q_preX {vs : List Value} {p : Program} {s : State} {m : MethodId} {args : Array Value} {meth : Method} {c : Code} {H : Heap} {locs : List Loc} (C : q_At E Y p s m args meth c) (hX : q_KX E s s.heap) (hH : q_H E w H) (hS : va_S (q_A E) s.heap H locs) : ∀ U : State, U.heap = H → s.WarmedH U.vm → q_PcX E w vs vs.toArray U := by
  intro U hU hW
  obtain ⟨hx, hb, hml, hr, ho, hts, hK, hlk, hnm, hbs⟩ := id C
  refine ⟨rfl, by rw [hU]; exact hH, ?_, ?_⟩
  · rw [hU]
    exact hK.to hW (fun a h1 h2 => hS.2.1 a h1 h2)
  · rw [hU]
    exact hX.to hW (fun a h1 h2 => hS.2.1 a h1 h2)
theorem g_callX {hh : QH} {Y' : QY} {idx m0 k c len : Nat} {vs : List Value} {K' : Option Value → QW → Prop} {KX' : String → QW → Prop} (hM : SpX l E Y' (.ref (E.1 + k) :: vs) w K' KX') (hd : decode Y.2.1 pc = .ok (.invokevirtual idx, 3)) (hp : pc + 3 = pc') (hc : q_cv Y.1.cls idx Y' m0) (hfit : q_fit Y Y' kc ks = true)
    (hT : w.1 k = (c, len)) (hk : k < w.2.2.2.2.1) (hcl : c < 6 ∧ ∃ q, vwCl[c]? = some q ∧ q.1 = Y'.1.cls) {stk : List Value} (hstk : stk = vs.reverse ++ .ref (E.1 + k) :: st) (hlen : vs.length = m0) (hcat : q_cat st = true)
    (hY : Y.1.cls = "ScratchMapLaw") (hn : Y.1.name ≠ "law") (hcw : Cond.codeWith Y.1 Y.2.1 Y.2.2.1 Y.2.2.2.1 hh ∈ q_T) (hok : q_hok hh pc = true)
    (h : ∀ r w1, K' r w1 → GoT l E Y (kc + Y'.2.2.2.2.cells) (ks + Y'.2.2.2.2.slots) pc' L (r.toList ++ st) w1 (TgK E Tg))
    (hx : ∀ X w1, KX' X w1 → ∃ t, q_han hh X = some t ∧ ∀ q : Nat, GoT l E Y (kc + Y'.2.2.2.2.cells) (ks + Y'.2.2.2.2.slots) t L [.ref q] w1 (TgK E Tg)) : GoT l E Y kc ks pc L stk w (TgK E Tg) := by
  intro p e s m args below meth c0 H locs ls C hH hS hl T hT9 X
  obtain ⟨hx9, hb, hml, hr, ho, hts, hK, hlk, hnm, hbs⟩ := id C
  by_cases hKX : q_KX E s s.heap
  · obtain ⟨hcx, h1, h2, h3, h4, h5⟩ := hc
    obtain ⟨hR, hf⟩ := q_fit_of hfit
    obtain ⟨q, hq⟩ := q_place (E := E) (w := w) hk
    obtain ⟨hc6, cl, hcl, hcn⟩ := hcl
    rw [q_c_obj hT hc6] at hq
    subst hp; subst hstk
    have hG : GoodIn q_T (wsV Y.1.cls idx Y'.1.cls Y'.1 (q_wsY Y')) := by
      intro w0 hw0
      rcases List.mem_append.mp hw0 with hw0 | hw0
      · simp only [List.mem_cons, List.not_mem_nil, or_false] at hw0
        rcases hw0 with rfl | rfl | rfl | rfl
        · exact ⟨h1, good_of_word (List.mem_filter.mp h1).2⟩
        · exact ⟨h2, good_of_word (List.mem_filter.mp h2).2⟩
        · exact ⟨h3, good_of_word (List.mem_filter.mp h3).2⟩
        · exact ⟨h4, good_of_word (List.mem_filter.mp h4).2⟩
      · exact q_good h5 w0 hw0
    have hrun := vx_runV (p := p) (l := l) (e := e) (below := below) (meth := meth) (locs := locs) (cells := kc) (slots := ks) (As := vs) (rest := st) (Ts := q_T) (g := F0 m pc ls (vs.reverse ++ .ref (E.1 + k) :: st)) ⟨hx9, hb, hml, ho, hts⟩ hM (cwV m0 hts hG rfl rfl rfl ⟨rfl, hcx⟩ hR) ⟨q_blindX, by rw [← hcn]; exact va_recv hK.1 hH.1 hcl hq, q_preX C hKX hH hS⟩ rfl hlen hl.1 rfl (lv_room (Nat.le_of_ble_eq_true hcat)) hd hf
    rcases hrun T hT9 X with ⟨v, st₀, t, T', L1, h0, X', hL, e1, e2, ⟨⟨r, w1, hv, hp, hb9⟩, hz, hk9⟩, stp⟩ | ⟨q, st₀, t, T', L1, E9, ce, h0, X', hL, e1, e2, ⟨⟨w1, hX1, hH1⟩, hz, hk9⟩, hce, hcv, hcl9, stp⟩
    · cases hv
      rw [h0] at hz hk9
      obtain ⟨t2, a1, b1⟩ := h v w1 hp p e s m args below meth c0 T'.heap (locs ++ L1) ls C (by rw [e1]; exact hb9)
        ⟨Nat.le_trans hS.1 (by rw [e1]; exact hz), fun q h1 h2 => by rw [e1, hk9 q (Nat.lt_of_lt_of_le h1 hS.1) h2]; exact hS.2.1 q h1 h2, fun q hq => by
          rcases List.mem_append.mp hq with h | h
          · exact hS.2.2 q h
          · exact hL q h⟩ hl T' rfl X'
      exact ⟨t2, stp t2 a1, b1⟩
    · rw [h0] at hz hk9
      obtain ⟨th, hth, hgo⟩ := hx E9 w1 hX1
      unfold q_han at hth
      cases hfd : hh.find? (fun z => q_ctn z.2.2.2 == E9) with
      | none => rw [hfd] at hth; cases hth
      | some z =>
        rw [hfd] at hth
        cases hth
        obtain ⟨hz1, pre, suf, hsp, hpr⟩ := List.find?_eq_some_iff_append.mp hfd
        have hz2 : q_ctn z.2.2.2 = E9 := by simpa using hz1
        have hall := List.all_eq_true.mp hok
        have okz : ∀ z9 ∈ hh, covers ⟨z9.1, z9.2.1, z9.2.2.1, z9.2.2.2⟩ pc = true ∧ (z9.2.2.2 = 13 ∨ z9.2.2.2 = 15 ∨ z9.2.2.2 = 17) := fun z9 hz9 => by
          have q9 := hall z9 hz9
          simpa [or_assoc] using q9
        have zin : z ∈ hh := by rw [hsp]; exact List.mem_append_right _ List.mem_cons_self
        obtain ⟨cz, ctz⟩ := okz z zin
        have htab : c0.exceptionTable.toList = tableOf hh := by
          obtain ⟨m9, meth9, c9, hn9, g1, g2, -, -, g6, -⟩ := Cond.codeWith_spec (hts _ hcw)
          cases Option.some.inj (hn9.symm.trans (hnm.resolve_left hn).1)
          cases Option.some.inj (g1.symm.trans X.method)
          cases Option.some.inj (g2.symm.trans X.code)
          rw [← g6, table_eq]
        obtain ⟨k1, k2, k3, k4, k5⟩ := id hKX
        have hE9 : E9 ∈ q_XN := by rw [← hz2]; exact (q_ctl ctz).2
        have hcast : (Cond.castable E9 E9).before args s = true := by
          refine va_tabs rfl rfl (k1 _ ?_ rfl rfl)
          simp only [q_XN, List.mem_cons, List.not_mem_nil, or_false] at hE9
          rcases hE9 with e9 | e9 | e9 <;> subst e9
          · exact List.mem_append_right _ (List.mem_of_getElem? (i := 522) (by decide +kernel))
          · exact List.mem_append_right _ (List.mem_of_getElem? (i := 593) (by decide +kernel))
          · exact List.mem_append_right _ (List.mem_of_getElem? (i := 612) (by decide +kernel))
        have hlk9 := (q_ctl ctz).1
        rw [hz2] at hlk9
        have hcat9 := vx_catch (p := p) (l := l) (e := e) (R := Y.2.2.2.2) (args := args) (below := below) (meth := meth) (H := T'.heap) (locs := locs ++ L1) (cells := kc + Y'.2.2.2.2.cells) (slots := ks + Y'.2.2.2.2.slots) (Q := TgK E Tg below args s) (pc := pc) (ls := ls) (rest := st) (own := "ScratchMapLaw") (name := E9) (E := E9) (ce := ce) (q := q) (by rw [hY] at ho; exact ho) (tableOf pre) ⟨z.1, z.2.1, z.2.2.1, z.2.2.2⟩ (tableOf suf) (by rw [htab, hsp]; unfold tableOf; rw [List.map_append, List.map_cons])
          (fun x hx => by
            unfold tableOf at hx
            obtain ⟨z9, hz9, rfl⟩ := List.mem_map.mp hx
            have z9in : z9 ∈ hh := by rw [hsp]; exact List.mem_append_left _ hz9
            obtain ⟨-, ct9⟩ := okz z9 z9in
            have hne : ¬ q_ctn z9.2.2.2 = E9 := by simpa using hpr z9 hz9
            exact Or.inr ⟨by show z9.2.2.2 ≠ 0; omega, q_ctn z9.2.2.2, hts _ (q_ctl ct9).1, k2 E9 hE9 _ (q_ctl ct9).2 (fun e9 => hne e9.symm)⟩)
          cz (by show z.2.2.2 ≠ 0; omega) (hts _ hlk9) hcast (by rw [e1]; exact hce) hcv hcl9
          (hgo q p e s m args below meth c0 T'.heap (locs ++ L1) ls C (by rw [e1]; exact hH1)
            ⟨Nat.le_trans hS.1 (by rw [e1]; exact hz), fun q h1 h2 => by rw [e1, hk9 q (Nat.lt_of_lt_of_le h1 hS.1) h2]; exact hS.2.1 q h1 h2, fun q hq => by
              rcases List.mem_append.mp hq with h | h
              · exact hS.2.2 q h
              · exact hL q h⟩ hl)
        obtain ⟨t2, a1, b1⟩ := hcat9 T' rfl X'
        exact ⟨t2, stp.trans a1, b1⟩
  · exact ⟨_, Steps.refl _, fun h => absurd h hKX⟩
end
