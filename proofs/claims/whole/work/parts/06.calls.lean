/-! ROWS 4: a method as a whole; calls -/
def SpV (l : Launch) (E : QE) (Y : QY) (vs : List Value) (w : QW) (v : Value) (w' : QW) : Prop := Sp l E Y vs w (fun r1 w1 => r1 = some v ∧ w1 = w')
def SpN (l : Launch) (E : QE) (Y : QY) (vs : List Value) (w : QW) (w' : QW) : Prop := Sp l E Y vs w (fun r1 w1 => r1 = none ∧ w1 = w')
def q_cx (Y' : QY) (m : Nat) : Prop := Y'.1.cls ≠ "java/lang/invoke/MethodHandle" ∧ Y'.1.cls ≠ "java/lang/invoke/VarHandle" ∧ (parseMethodDescriptor Y'.1.desc).map (fun d => d.parameters.length) = some m
def q_cv (own : String) (idx : Nat) (Y' : QY) (m : Nat) : Prop := q_cx Y' m ∧ Cond.methodLink own idx Y'.1 ∈ q_T ∧ Cond.instanceMethod Y'.1 ∈ q_T ∧ Cond.selects Y'.1.cls Y'.1 Y'.1 ∈ q_T ∧ Cond.initialized Y'.1.cls ∈ q_T ∧ Cond.code Y'.1 Y'.2.1 Y'.2.2.1 Y'.2.2.2.1 ∈ q_T
def q_cs (own : String) (idx : Nat) (Y' : QY) (m : Nat) : Prop := q_cx Y' m ∧ Cond.methodLink own idx Y'.1 ∈ q_T ∧ Cond.static Y'.1 ∈ q_T ∧ Cond.initialized Y'.1.cls ∈ q_T ∧ Cond.code Y'.1 Y'.2.1 Y'.2.2.1 Y'.2.2.2.1 ∈ q_T
def q_csN (own : String) (idx : Nat) (Y' : QY) (m : Nat) : Prop := q_cx Y' m ∧ Cond.methodLinkNest own idx Y'.1 "ScratchMap" ∈ q_N ∧ Cond.static Y'.1 ∈ q_T ∧ Cond.initialized Y'.1.cls ∈ q_T ∧ Cond.code Y'.1 Y'.2.1 Y'.2.2.1 Y'.2.2.2.1 ∈ q_T
def q_ci (own : String) (idx : Nat) (Y' : QY) (m : Nat) : Prop := q_cx Y' m ∧ Cond.methodLink own idx Y'.1 ∈ q_T ∧ Cond.instanceMethod Y'.1 ∈ q_T ∧ Cond.initialized Y'.1.cls ∈ q_T ∧ Cond.code Y'.1 Y'.2.1 Y'.2.2.1 Y'.2.2.2.1 ∈ q_T ∧ Y'.1.name = "<init>" ∧ Y'.2.2.2.1 = none
def q_ciN (own : String) (idx : Nat) (Y' : QY) (m : Nat) : Prop := q_cx Y' m ∧ Cond.methodLinkNest own idx Y'.1 "ScratchMap" ∈ q_N ∧ Cond.instanceMethod Y'.1 ∈ q_T ∧ Cond.initialized Y'.1.cls ∈ q_T ∧ Cond.code Y'.1 Y'.2.1 Y'.2.2.1 Y'.2.2.2.1 ∈ q_T ∧ Y'.1.name = "<init>" ∧ Y'.2.2.2.1 = none
def q_fit (Y Y' : QY) (kc ks : Nat) : Bool := Nat.ble (Y'.2.2.2.2.frames + 1) Y.2.2.2.2.frames && Nat.ble (8 + (Y'.2.2.1 + 11) + Y'.2.2.2.2.locals) Y.2.2.2.2.locals && Nat.ble (kc + Y'.2.2.2.2.cells) Y.2.2.2.2.cells && Nat.ble (ks + Y'.2.2.2.2.slots) Y.2.2.2.2.slots
theorem q_fit_of {Y Y' : QY} {kc ks : Nat} (h : q_fit Y Y' kc ks = true) : (Y'.2.2.2.2.frames + 1 ≤ Y.2.2.2.2.frames ∧ 8 + (Y'.2.2.1 + 11) + Y'.2.2.2.2.locals ≤ Y.2.2.2.2.locals) ∧ kc + Y'.2.2.2.2.cells ≤ Y.2.2.2.2.cells ∧ ks + Y'.2.2.2.2.slots ≤ Y.2.2.2.2.slots := by
  simp only [q_fit, Bool.and_eq_true, Nat.ble_eq] at h
  exact ⟨⟨h.1.1.1, h.1.1.2⟩, h.1.2, h.2⟩
def q_cat (st : List Value) : Bool := Nat.ble (st.map fun v => v.category).sum 8
section Calls4
variable {l : Launch} {E : QE} {Y : QY} {kc ks pc pc' : Nat} {L : List (Option Value)} {st : List Value} {w : QW} {K : Option Value → QW → Prop} {Tg : List Frame → Array Value → State → State → Prop}
theorem Sp.of {vs : List Value} (L : List (Option Value)) (hy : plainName Y.1.cls = true) (hle : (lg_sl vs).length ≤ Y.2.2.1) (hL : ∀ q ∈ q_l 0 L, q ∈ lv_args 0 vs) (h : Go l E Y 0 0 0 L [] w K) : Sp l E Y vs w K := by
  refine Met.ofW (cc := Y.2.1) (maxL := Y.2.2.1) (ret := Y.2.2.2.1) hy rfl ?_
  intro p e s m args below meth c s₁ B hml hv
  obtain ⟨rfl, hH, hK⟩ := hv
  rw [lg_entry_eq]
  have hl := lv_entry vs (n := Y.2.2.1) hle
  exact h p e s m _ below meth c s.heap [] _ ⟨B.exec, B.bytes, hml, B.returns, findClass_of_methodNamed B.named, fun w hw => atoms_spec (ws := q_wsY Y) B.pre w (List.mem_cons_of_mem _ hw), hK, B.notSynchronized, Or.inr ⟨B.named, (name_of_methodNamed B.named B.method).1⟩, hH.2.2.1⟩ hH va_S.rf ⟨hl.1, hl.2.1, fun q hq => hl.2.2 q (hL q hq)⟩
theorem q_blind {vs : List Value} : FrameBlind (q_Pc E w vs) := fun a U g mk h => by
  obtain ⟨h1, h2, h3⟩ := h
  exact ⟨h1, h2, h3.to (U := U.calling g mk a) (State.WarmedH.refl U) (fun _ _ _ => rfl)⟩
theorem q_pre {vs : List Value} {p : Program} {s : State} {m : MethodId} {args : Array Value} {meth : Method} {c : Code} {H : Heap} {locs : List Loc} (C : q_At E Y p s m args meth c) (hH : q_H E w H) (hS : va_S (q_A E) s.heap H locs) : ∀ U : State, U.heap = H → s.WarmedH U.vm → q_Pc E w vs vs.toArray U := by
  intro U hU hW
  obtain ⟨hx, hb, hml, hr, ho, hts, hK, hlk, hnm, hbs⟩ := id C
  refine ⟨rfl, by rw [hU]; exact hH, ?_⟩
  rw [hU]
  exact hK.to hW (fun a h1 h2 => hS.2.1 a h1 h2)
theorem q_goes {p : Program} {e : Env} {s : State} {m : MethodId} {args : Array Value} {below : List Frame} {meth : Method} {c : Code} {H : Heap} {locs : List Loc} {R : Room} {Q : State → Prop} {mc ms : Nat} {ls : Array Slot} {st0 rest : List Value} {K' : Option Value → QW → Prop} {a : Array Value}
    (hr : va_Run p l e R s m args below meth c H locs kc ks mc ms (F0 m pc ls st0) rest (q_Qc E K' a) (q_A E)) (hS : va_S (q_A E) s.heap H locs)
    (kk : ∀ (r : Option Value) (w1 : QW) (H1 : Heap) (locs1 : List Loc), K' r w1 → q_H E w1 H1 → va_S (q_A E) s.heap H1 locs1 → W p l e R s m args below meth c H1 locs1 (kc + mc) (ks + ms) Q (F0 m (pc + 3) ls (r.toList ++ rest))) : W p l e R s m args below meth c H locs kc ks Q (F0 m pc ls st0) := by
  intro T hT X
  obtain ⟨v, st₀, t, T', L1, h0, X', hL, e1, e2, ⟨⟨r, w1, hv, hp, hb⟩, hz, hk⟩, st⟩ := hr T hT X
  cases hv
  rw [h0] at hz hk
  obtain ⟨t2, a1, b1⟩ := kk v w1 T'.heap (locs ++ L1) hp (by rw [e1]; exact hb)
    ⟨Nat.le_trans hS.1 (by rw [e1]; exact hz), fun q h1 h2 => by rw [e1, hk q (Nat.lt_of_lt_of_le h1 hS.1) h2]; exact hS.2.1 q h1 h2, fun q hq => by
      rcases List.mem_append.mp hq with h | h
      · exact hS.2.2 q h
      · exact hL q h⟩ T' rfl X'
  exact ⟨t2, st t2 a1, b1⟩
theorem g_callV {Y' : QY} {idx m0 k c len : Nat} {vs : List Value} {K' : Option Value → QW → Prop} (hM : Sp l E Y' (.ref (E.1 + k) :: vs) w K') (hd : decode Y.2.1 pc = .ok (.invokevirtual idx, 3)) (hp : pc + 3 = pc') (hc : q_cv Y.1.cls idx Y' m0) (hfit : q_fit Y Y' kc ks = true)
    (hT : w.1 k = (c, len)) (hk : k < w.2.2.2.2.1) (hcl : c < 6 ∧ ∃ q, vwCl[c]? = some q ∧ q.1 = Y'.1.cls) {stk : List Value} (hstk : stk = vs.reverse ++ .ref (E.1 + k) :: st) (hlen : vs.length = m0) (hcat : q_cat st = true)
    (h : ∀ r w1, K' r w1 → GoT l E Y (kc + Y'.2.2.2.2.cells) (ks + Y'.2.2.2.2.slots) pc' L (r.toList ++ st) w1 Tg) : GoT l E Y kc ks pc L stk w Tg := by
  intro p e s m args below meth c0 H locs ls C hH hS hl
  obtain ⟨hx, hb, hml, hr, ho, hts, hK, hlk, hnm, hbs⟩ := id C
  obtain ⟨hcx, h1, h2, h3, h4, h5⟩ := hc
  obtain ⟨hR, hf⟩ := q_fit_of hfit
  obtain ⟨q, hq⟩ := q_place (E := E) (w := w) hk
  obtain ⟨hc6, cl, hcl, hcn⟩ := hcl
  rw [q_c_obj hT hc6] at hq
  subst hp; subst hstk
  have hG : GoodIn q_T (wsV Y.1.cls idx Y'.1.cls Y'.1 (q_wsY Y')) := by
    intro w0 hw0
    rcases List.mem_append.mp hw0 with hw0 | hw0
    · simp only [List.mem_cons, List.not_mem_nil, or_false] at hw0
      rcases hw0 with rfl | rfl | rfl | rfl
      · exact ⟨h1, good_of_word (List.mem_filter.mp h1).2⟩
      · exact ⟨h2, good_of_word (List.mem_filter.mp h2).2⟩
      · exact ⟨h3, good_of_word (List.mem_filter.mp h3).2⟩
      · exact ⟨h4, good_of_word (List.mem_filter.mp h4).2⟩
    · exact q_good h5 w0 hw0
  have hrun := va_runV (p := p) (l := l) (e := e) (below := below) (meth := meth) (locs := locs) (cells := kc) (slots := ks) (As := vs) (rest := st) (Ts := q_T) (g := F0 m pc ls (vs.reverse ++ .ref (E.1 + k) :: st)) ⟨hx, hb, hml, ho, hts⟩ hM (cwV m0 hts hG rfl rfl rfl ⟨rfl, hcx⟩ hR) ⟨q_blind, by rw [← hcn]; exact va_recv hK.1 hH.1 hcl hq, q_pre C hH hS⟩ rfl hlen hl.1 rfl (lv_room (Nat.le_of_ble_eq_true hcat)) hd hf
  exact q_goes hrun hS (fun r w1 H1 locs1 hk1 hH1 hS1 => h r w1 hk1 p e s m args below meth c0 H1 locs1 ls C hH1 hS1 hl)
theorem g_callS {Y' : QY} {idx m0 : Nat} {vs : List Value} {K' : Option Value → QW → Prop} (hM : Sp l E Y' vs w K') (hd : decode Y.2.1 pc = .ok (.invokestatic idx, 3)) (hp : pc + 3 = pc') (hc : q_cs Y.1.cls idx Y' m0) (hfit : q_fit Y Y' kc ks = true)
    {stk : List Value} (hstk : stk = vs.reverse ++ st) (hlen : vs.length = m0) (hcat : q_cat st = true)
    (h : ∀ r w1, K' r w1 → GoT l E Y (kc + Y'.2.2.2.2.cells) (ks + Y'.2.2.2.2.slots) pc' L (r.toList ++ st) w1 Tg) : GoT l E Y kc ks pc L stk w Tg := by
  intro p e s m args below meth c0 H locs ls C hH hS hl
  obtain ⟨hx, hb, hml, hr, ho, hts, hK, hlk, hnm, hbs⟩ := id C
  obtain ⟨hcx, h1, h2, h4, h5⟩ := hc
  obtain ⟨hR, hf⟩ := q_fit_of hfit
  subst hp; subst hstk
  have hG : GoodIn q_T (va_wsS Y.1.cls idx Y'.1 (q_wsY Y')) := by
    intro w0 hw0
    rcases List.mem_append.mp hw0 with hw0 | hw0
    · simp only [List.mem_cons, List.not_mem_nil, or_false] at hw0
      rcases hw0 with rfl | rfl | rfl
      · exact ⟨h1, good_of_word (List.mem_filter.mp h1).2⟩
      · exact ⟨h2, good_of_word (List.mem_filter.mp h2).2⟩
      · exact ⟨h4, good_of_word (List.mem_filter.mp h4).2⟩
    · exact q_good h5 w0 hw0
  have hrun := va_runS (p := p) (l := l) (e := e) (below := below) (meth := meth) (locs := locs) (cells := kc) (slots := ks) (As := vs) (rest := st) (Ts := q_T) (g := F0 m pc ls (vs.reverse ++ st)) ⟨hx, hb, hml, ho, hts⟩ hM (va_cwS m0 hts hG rfl rfl rfl hcx hR) ⟨q_blind, q_pre C hH hS⟩ rfl hlen hl.1 rfl (lv_room (Nat.le_of_ble_eq_true hcat)) hd hf
  exact q_goes hrun hS (fun r w1 H1 locs1 hk1 hH1 hS1 => h r w1 hk1 p e s m args below meth c0 H1 locs1 ls C hH1 hS1 hl)
theorem g_callSN {Y' : QY} {idx m0 : Nat} {vs : List Value} {K' : Option Value → QW → Prop} (hM : Sp l E Y' vs w K') (hd : decode Y.2.1 pc = .ok (.invokestatic idx, 3)) (hp : pc + 3 = pc') (hc : q_csN Y.1.cls idx Y' m0) (hfit : q_fit Y Y' kc ks = true)
    {stk : List Value} (hstk : stk = vs.reverse ++ st) (hlen : vs.length = m0) (hcat : q_cat st = true)
    (h : ∀ r w1, K' r w1 → GoT l E Y (kc + Y'.2.2.2.2.cells) (ks + Y'.2.2.2.2.slots) pc' L (r.toList ++ st) w1 Tg) : GoT l E Y kc ks pc L stk w Tg := by
  intro p e s m args below meth c0 H locs ls C hH hS hl
  obtain ⟨hx, hb, hml, hr, ho, hts, hK, hlk, hnm, hbs⟩ := id C
  obtain ⟨hcx, h1, h2, h4, h5⟩ := hc
  obtain ⟨hR, hf⟩ := q_fit_of hfit
  subst hp; subst hstk
  have hrun := va_runSN (p := p) (l := l) (e := e) (below := below) (meth := meth) (locs := locs) (cells := kc) (slots := ks) (As := vs) (rest := st) (Ts := q_T) (g := F0 m pc ls (vs.reverse ++ st)) ⟨hx, hb, hml, ho, hts⟩ hM ⟨va_cnB m0 hts (q_good h5) rfl rfl rfl (hK.2.1 _ h1) (hts _ h4) hcx hR, hts _ h2, trivial⟩ ⟨q_blind, q_pre C hH hS⟩ rfl hlen hl.1 rfl (lv_room (Nat.le_of_ble_eq_true hcat)) hd hf
  exact q_goes hrun hS (fun r w1 H1 locs1 hk1 hH1 hS1 => h r w1 hk1 p e s m args below meth c0 H1 locs1 ls C hH1 hS1 hl)
theorem g_callI {Y' : QY} {idx m0 b : Nat} {vs : List Value} {K' : Option Value → QW → Prop} (hM : Sp l E Y' (.ref b :: vs) w K') (hd : decode Y.2.1 pc = .ok (.invokespecial idx, 3)) (hp : pc + 3 = pc') (hc : q_ci Y.1.cls idx Y' m0) (hfit : q_fit Y Y' kc ks = true)
    {stk : List Value} (hstk : stk = vs.reverse ++ .ref b :: st) (hlen : vs.length = m0) (hcat : q_cat st = true)
    (h : ∀ r w1, K' r w1 → GoT l E Y (kc + Y'.2.2.2.2.cells) (ks + Y'.2.2.2.2.slots) pc' L (r.toList ++ st) w1 Tg) : GoT l E Y kc ks pc L stk w Tg := by
  intro p e s m args below meth c0 H locs ls C hH hS hl
  obtain ⟨hx, hb, hml, hr, ho, hts, hK, hlk, hnm, hbs⟩ := id C
  obtain ⟨hcx, h1, h2, h4, h5, h6, h7⟩ := hc
  obtain ⟨hR, hf⟩ := q_fit_of hfit
  subst hp; subst hstk
  have hrun := va_runI (p := p) (l := l) (e := e) (below := below) (meth := meth) (locs := locs) (cells := kc) (slots := ks) (As := vs) (rest := st) (Ts := q_T) (g := F0 m pc ls (vs.reverse ++ .ref b :: st)) ⟨hx, hb, hml, ho, hts⟩ hM (cwI m0 hts (q_good h5) (by unfold q_wsY; rw [h7]) rfl rfl (hts _ h4) (hts _ h1) (hts _ h2) h6 hcx hR) ⟨q_blind, q_pre C hH hS⟩ rfl hlen hl.1 rfl (lv_room (Nat.le_of_ble_eq_true hcat)) hd hf
  exact q_goes hrun hS (fun r w1 H1 locs1 hk1 hH1 hS1 => h r w1 hk1 p e s m args below meth c0 H1 locs1 ls C hH1 hS1 hl)
theorem g_callIN {Y' : QY} {idx m0 b : Nat} {vs : List Value} {K' : Option Value → QW → Prop} (hM : Sp l E Y' (.ref b :: vs) w K') (hd : decode Y.2.1 pc = .ok (.invokespecial idx, 3)) (hp : pc + 3 = pc') (hc : q_ciN Y.1.cls idx Y' m0) (hfit : q_fit Y Y' kc ks = true)
    {stk : List Value} (hstk : stk = vs.reverse ++ .ref b :: st) (hlen : vs.length = m0) (hcat : q_cat st = true)
    (h : ∀ r w1, K' r w1 → GoT l E Y (kc + Y'.2.2.2.2.cells) (ks + Y'.2.2.2.2.slots) pc' L (r.toList ++ st) w1 Tg) : GoT l E Y kc ks pc L stk w Tg := by
  intro p e s m args below meth c0 H locs ls C hH hS hl
  obtain ⟨hx, hb, hml, hr, ho, hts, hK, hlk, hnm, hbs⟩ := id C
  obtain ⟨hcx, h1, h2, h4, h5, h6, h7⟩ := hc
  obtain ⟨hR, hf⟩ := q_fit_of hfit
  subst hp; subst hstk
  have hrun := va_runIN (p := p) (l := l) (e := e) (below := below) (meth := meth) (locs := locs) (cells := kc) (slots := ks) (As := vs) (rest := st) (Ts := q_T) (g := F0 m pc ls (vs.reverse ++ .ref b :: st)) ⟨hx, hb, hml, ho, hts⟩ hM ⟨va_cnB m0 hts (q_good h5) (by unfold q_wsY; rw [h7]) rfl rfl (hK.2.1 _ h1) (hts _ h4) hcx hR, h6, hts _ h2⟩ ⟨q_blind, q_pre C hH hS⟩ rfl hlen hl.1 rfl (lv_room (Nat.le_of_ble_eq_true hcat)) hd hf
  exact q_goes hrun hS (fun r w1 H1 locs1 hk1 hH1 hS1 => h r w1 hk1 p e s m args below meth c0 H1 locs1 ls C hH1 hS1 hl)
end Calls4
