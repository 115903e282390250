/-! objects and arrays are made -/
/-! rows that make objects and arrays: the tables T are those of the whole run from the start; what isn't made yet is 0 -/
def q_dv (t : Nat) : Value := match t with | 0 => .int 0 | 1 => .long 0 | _ => .null
def q_nw (own : String) (idx c : Nat) : Prop := ∃ (C : String) (TX : u_T) (N : Nat) (tys : Nat → FieldType), c < 6 ∧ vwCl[c]? = some (C, TX, N) ∧ q_ns c = N ∧ (∀ w ∈ u_ws C TX N, w ∈ q_T) ∧ (∀ k, k < N → parseFieldDescriptor (TX k).2.2.1 = some (tys k)) ∧ (∀ j, j < N → defaultValue (tys j) = q_dv (q_ft c j)) ∧ Cond.classLink own idx C ∈ q_T ∧ Cond.instantiable C N ∈ q_T ∧ Cond.initialized C ∈ q_T
theorem q_H_push {E : QE} {T : Nat → Nat × Nat} {I : Nat → Nat → Int} {J : Nat → Nat → Int64} {R : Nat → Nat → Option Nat} {n : Nat} {H H1 : Heap} (hH : q_H E (T, I, J, R, n, n + 1) H) (hz : H1.size = H.size + 1) (ho : ∀ q : Nat, q < H.size → H1[q]? = H[q]?) (hn : va_at E.2.1 vwCl (E.1 + n, q_c E (T, I, J, R, n, n + 1) n) H1) : q_H E (T, I, J, R, n + 1, n + 2) H1 := by
  obtain ⟨h1, h2, h3, h4⟩ := hH
  have e : E.1 + n = H.size := by have := h4 (Nat.succ_ne_zero n); have : H.size + 1 = E.1 + (n + 1) := this; omega
  have ew : q_ws E (T, I, J, R, n + 1, n + 2) = q_ws E (T, I, J, R, n, n + 1) ++ [(E.1 + n, q_c E (T, I, J, R, n, n + 1) n)] := by
    unfold q_ws va_pl q_L
    show [] ++ List.map _ (List.map _ (List.range (n + 1))) = ([] ++ List.map _ (List.map _ (List.range n))) ++ _
    rw [List.range_succ, List.map_append, List.map_append, List.nil_append, List.nil_append]
    congr 1
    show [(E.1 + n, q_F E (T, I, J, R, n + 1, n + 2) (E.1 + n))] = _
    rw [q_Fk]
    rfl
  refine ⟨?_, ?_, by show E.1 ≤ H1.size; omega, fun _ => by show H1.size + 1 = E.1 + (n + 2); omega⟩
  · rw [ew]
    refine (h1.kept (fun k x hx => ho x.1 ((h1 k x hx).lt))).app (fun k x hx => ?_)
    have hz : k < 1 := (List.getElem?_eq_some_iff.mp hx).1
    rw [show k = 0 by omega] at hx
    cases hx
    exact hn
  · rw [ew]
    exact h2.push h1 e (Nat.le_add_right _ _)
section
variable {l : Launch} {E : QE} {Y : QY} {kc ks pc pc' : Nat} {L : List (Option Value)} {st : List Value} {T : Nat → Nat × Nat} {I : Nat → Nat → Int} {J : Nat → Nat → Int64} {R : Nat → Nat → Option Nat} {n z : Nat} {Tg : List Frame → Array Value → State → State → Prop}
theorem va_S_push {A : Nat → Prop} {H0 H H1 : Heap} {locs : List Loc} (hS : va_S A H0 H locs) (hz : H1.size = H.size + 1) (ho : ∀ q : Nat, q < H.size → H1[q]? = H[q]?) : va_S A H0 H1 locs := ⟨Nat.le_trans hS.1 (by omega), fun x h1 h2 => (ho x (Nat.lt_of_lt_of_le h1 hS.1)).trans (hS.2.1 x h1 h2), hS.2.2⟩
theorem g_zfree (h : GoT l E Y kc ks pc L st (T, I, J, R, n, 0) Tg) : GoT l E Y kc ks pc L st (T, I, J, R, n, z) Tg := by
  intro p e s m args below meth c0 H locs ls C hH hS hl
  exact h p e s m args below meth c0 H locs ls C ⟨hH.1, hH.2.1, hH.2.2.1, fun q => absurd rfl q⟩ hS hl
theorem g_new {idx c : Nat} (hd : decode Y.2.1 pc = .ok (.new idx, 3)) (hp : pc + 3 = pc') (hw : q_nw Y.1.cls idx c) (hT : T n = (c, 0)) (hI : ∀ j, I n j = 0) (hJ : ∀ j, J n j = 0) (hR : ∀ j, R n j = none) (hcells : kc + 1 ≤ Y.2.2.2.2.cells) (hslots : ks + q_ns c ≤ Y.2.2.2.2.slots)
    (h : GoT l E Y (kc + 1) (ks + q_ns c) pc' L (.ref (E.1 + n) :: st) (T, I, J, R, n + 1, n + 2) Tg) : GoT l E Y kc ks pc L st (T, I, J, R, n, n + 1) Tg := by
  intro p e s m args below meth c0 H locs ls C hH hS hl
  obtain ⟨hx, hb, hml, hr, ho, hts, hK, hlk, hnm, hbs⟩ := id C
  obtain ⟨Cn, TX, N, tys, hc6, hcl, hN, hin, hty, hdv, w1, w2, w3⟩ := hw
  subst hp
  have eH : H.size = E.1 + n := by have q9 : H.size + 1 = E.1 + (n + 1) := hH.2.2.2 (Nat.succ_ne_zero n); omega
  have hKn := hK.1.1 c _ hcl
  refine W.newcK hx hb ho (hts _ w1) (hts _ w2) (hts _ w3) rfl hd hcells (by rw [← hN]; exact hslots) hKn.2.1 eH fun H1 kC hkC e1 z1 o1 => ?_
  rw [← hN]
  refine h p e s m args below meth c0 H1 locs ls C (q_H_push hH (by omega) (fun q hq => o1 q (by omega)) ?_) (va_S_push hS (by omega) (fun q hq => o1 q (by omega))) hl
  rw [q_c_obj (len := 0) hT hc6]
  refine ⟨_, hcl, (u_born tys hts hin hKn hkC e1 hty).to (fun j hj => ?_)⟩
  rw [hdv j hj]
  show _ = (q_fs E (T, I, J, R, n, n + 1) n c).getD j .null
  rw [List.getD_eq_getElem?_getD, q_fs_at (by rw [hN]; exact hj)]
  show _ = q_f E (T, I, J, R, n, n + 1) n j (q_ft c j)
  match q_ft c j with
  | 0 => show Value.int 0 = Value.int (iz (I n j)); rw [hI]; rfl
  | 1 => show Value.long 0 = Value.long (J n j); rw [hJ]
  | _ + 2 => show Value.null = va_rf ((R n j).map _); rw [hR]; rfl
theorem g_newI {len : Nat} (hd : decode Y.2.1 pc = .ok (.newarray .int, 2)) (hp : pc + 2 = pc') (hw : Cond.arrayClass .int ∈ q_T) (hT : T n = (6, len)) (hI : ∀ j, I n j = 0) (hlen : len < 100000) (hcells : kc + 1 ≤ Y.2.2.2.2.cells) (hslots : ks + len ≤ Y.2.2.2.2.slots)
    (h : GoT l E Y (kc + 1) (ks + len) pc' L (.ref (E.1 + n) :: st) (T, I, J, R, n + 1, n + 2) Tg) : GoT l E Y kc ks pc L (.int (iz (len : Int)) :: st) (T, I, J, R, n, n + 1) Tg := by
  intro p e s m args below meth c0 H locs ls C hH hS hl
  obtain ⟨hx, hb, hml, hr, ho, hts, hK, hlk, hnm, hbs⟩ := id C
  subst hp
  have e : H.size = E.1 + n := by have q9 : H.size + 1 = E.1 + (n + 1) := hH.2.2.2 (Nat.succ_ne_zero n); omega
  refine va_newaK (N := len) hx hb (atype := .int) (hts _ hw) rfl hd rfl (by rw [iz_lt0 ⟨by omega, by omega⟩]; omega) (by rw [iz_cl (by omega) (by omega)]; omega) (by show len * 4 ≤ 536870912; omega) hcells hslots e fun H1 cA e1 z1 o1 hAr hNm => ?_
  refine h p _ s m args below meth c0 H1 locs ls C (q_H_push hH (by omega) (fun q hq => o1 q (by omega)) ?_) (va_S_push hS (by omega) (fun q hq => o1 q (by omega))) hl
  have hcA : cA = E.2.2.1 6 := by
    have h9 : va_RA s (E.2.2.1 6) .int := (hK.1.2 0 (E.2.2.1 6, .int) rfl).2
    exact Option.some.inj ((show s.vm.findClass ("[" ++ FieldType.int.toString) = some cA from hNm).symm.trans h9)
  rw [q_c_int hT (Or.inl rfl)]
  show H1[E.1 + n]? = some (vp_cell (E.2.2.1 6) (len, .inl (fun j => iz (I n j))))
  rw [e1, hcA, vp_cell_i]
  simp only [hI]
  rfl
theorem g_newZ {len : Nat} (hd : decode Y.2.1 pc = .ok (.newarray .boolean, 2)) (hp : pc + 2 = pc') (hw : Cond.arrayClass .boolean ∈ q_T) (hT : T n = (7, len)) (hI : ∀ j, I n j = 0) (hlen : len < 100000) (hcells : kc + 1 ≤ Y.2.2.2.2.cells) (hslots : ks + len ≤ Y.2.2.2.2.slots)
    (h : GoT l E Y (kc + 1) (ks + len) pc' L (.ref (E.1 + n) :: st) (T, I, J, R, n + 1, n + 2) Tg) : GoT l E Y kc ks pc L (.int (iz (len : Int)) :: st) (T, I, J, R, n, n + 1) Tg := by
  intro p e s m args below meth c0 H locs ls C hH hS hl
  obtain ⟨hx, hb, hml, hr, ho, hts, hK, hlk, hnm, hbs⟩ := id C
  subst hp
  have e : H.size = E.1 + n := by have q9 : H.size + 1 = E.1 + (n + 1) := hH.2.2.2 (Nat.succ_ne_zero n); omega
  refine va_newaK (N := len) hx hb (atype := .boolean) (hts _ hw) rfl hd rfl (by rw [iz_lt0 ⟨by omega, by omega⟩]; omega) (by rw [iz_cl (by omega) (by omega)]; omega) (by show len * 1 ≤ 536870912; omega) hcells hslots e fun H1 cA e1 z1 o1 hAr hNm => ?_
  refine h p _ s m args below meth c0 H1 locs ls C (q_H_push hH (by omega) (fun q hq => o1 q (by omega)) ?_) (va_S_push hS (by omega) (fun q hq => o1 q (by omega))) hl
  have hcA : cA = E.2.2.1 7 := by
    have h9 : va_RA s (E.2.2.1 7) .boolean := (hK.1.2 1 (E.2.2.1 7, .boolean) rfl).2
    exact Option.some.inj ((show s.vm.findClass ("[" ++ FieldType.boolean.toString) = some cA from hNm).symm.trans h9)
  rw [q_c_int hT (Or.inr rfl)]
  show H1[E.1 + n]? = some (vp_cell (E.2.2.1 7) (len, .inl (fun j => iz (I n j))))
  rw [e1, hcA, vp_cell_i]
  simp only [hI]
  rfl
theorem g_newL {len : Nat} (hd : decode Y.2.1 pc = .ok (.newarray .long, 2)) (hp : pc + 2 = pc') (hw : Cond.arrayClass .long ∈ q_T) (hT : T n = (10, len)) (hJ : ∀ j, J n j = 0) (hlen : len < 100000) (hcells : kc + 1 ≤ Y.2.2.2.2.cells) (hslots : ks + len ≤ Y.2.2.2.2.slots)
    (h : GoT l E Y (kc + 1) (ks + len) pc' L (.ref (E.1 + n) :: st) (T, I, J, R, n + 1, n + 2) Tg) : GoT l E Y kc ks pc L (.int (iz (len : Int)) :: st) (T, I, J, R, n, n + 1) Tg := by
  intro p e s m args below meth c0 H locs ls C hH hS hl
  obtain ⟨hx, hb, hml, hr, ho, hts, hK, hlk, hnm, hbs⟩ := id C
  subst hp
  have e : H.size = E.1 + n := by have q9 : H.size + 1 = E.1 + (n + 1) := hH.2.2.2 (Nat.succ_ne_zero n); omega
  refine va_newaK (N := len) hx hb (atype := .long) (hts _ hw) rfl hd rfl (by rw [iz_lt0 ⟨by omega, by omega⟩]; omega) (by rw [iz_cl (by omega) (by omega)]; omega) (by show len * 8 ≤ 536870912; omega) hcells hslots e fun H1 cA e1 z1 o1 hAr hNm => ?_
  refine h p _ s m args below meth c0 H1 locs ls C (q_H_push hH (by omega) (fun q hq => o1 q (by omega)) ?_) (va_S_push hS (by omega) (fun q hq => o1 q (by omega))) hl
  have hcA : cA = E.2.2.1 10 := by
    have h9 : va_RA s (E.2.2.1 10) .long := (hK.1.2 4 (E.2.2.1 10, .long) rfl).2
    exact Option.some.inj ((show s.vm.findClass ("[" ++ FieldType.long.toString) = some cA from hNm).symm.trans h9)
  rw [q_c_long hT]
  show H1[E.1 + n]? = some (vp_cell (E.2.2.1 10) (len, .inr (.inl (J n))))
  rw [e1, hcA, vp_cell_l]
  simp only [hJ]
  rfl
theorem g_newQ {kd ti idx len : Nat} {C0 : String} (hd : decode Y.2.1 pc = .ok (.anewarray idx, 3)) (hp : pc + 3 = pc') (hk : kd = 8 ∧ C0 = RX1 ∨ kd = 9 ∧ C0 = RX3) (hw : Cond.classLink Y.1.cls idx C0 ∈ q_T) (hT : T n = (kd, len)) (hR : ∀ j, R n j = none) (hlen : len < 100000) (hcells : kc + 1 ≤ Y.2.2.2.2.cells) (hslots : ks + len ≤ Y.2.2.2.2.slots)
    (h : GoT l E Y (kc + 1) (ks + len) pc' L (.ref (E.1 + n) :: st) (T, I, J, R, n + 1, n + 2) Tg) : GoT l E Y kc ks pc L (.int (iz (len : Int)) :: st) (T, I, J, R, n, n + 1) Tg := by
  intro p e s m args below meth c0 H locs ls C hH hS hl
  obtain ⟨hx, hb, hml, hr, ho, hts, hK, hlk, hnm, hbs⟩ := id C
  subst hp
  have e : H.size = E.1 + n := by have q9 : H.size + 1 = E.1 + (n + 1) := hH.2.2.2 (Nat.succ_ne_zero n); omega
  have hAO : va_AO C0 s := by
    rcases hk with ⟨-, rfl⟩ | ⟨-, rfl⟩
    · exact hK.2.2.2.1
    · exact hK.2.2.2.2
  have eN : (iz (len : Int)).toNatClampNeg = len := by rw [iz_cl (by omega) (by omega)]; omega
  refine W.anew hx hb ho (hts _ hw) (va_AO.use hAO) rfl hd rfl (by rw [iz_lt0 ⟨by omega, by omega⟩]; omega) (by rw [eN]; omega) hcells (by rw [eN]; exact hslots) fun cA kA comp f1 f2 f3 f4 => ?_
  rw [eN]
  generalize hH1 : H.push ({ cls := cA, slots := Array.replicate len .null, vm := .none } : Cell) = H1
  have z1 : H1.size = H.size + 1 := by rw [← hH1, Array.size_push]
  have e1 : H1[H.size]? = some (arrV cA len (fun _ => .null)) := by rw [← hH1, Array.getElem?_push_size, ← arrV_new]
  have o1 : ∀ q : Nat, q < H.size → H1[q]? = H[q]? := fun q hq => by rw [← hH1, Array.getElem?_push, if_neg (Nat.ne_of_lt hq)]
  rw [e] at e1 ⊢
  refine h p _ s m args below meth c0 H1 locs ls C (q_H_push hH z1 o1 ?_) (va_S_push hS z1 o1) hl
  have hcA : cA = E.2.2.1 kd := by
    rcases hk with ⟨rfl, rfl⟩ | ⟨rfl, rfl⟩
    · obtain ⟨_, _, -, -, -, h9⟩ : va_RA s (E.2.2.1 8) (.object RX1) := (hK.1.2 2 (E.2.2.1 8, .object RX1) rfl).2
      exact Option.some.inj (f1.symm.trans h9)
    · obtain ⟨_, _, -, -, -, h9⟩ : va_RA s (E.2.2.1 9) (.object RX3) := (hK.1.2 3 (E.2.2.1 9, .object RX3) rfl).2
      exact Option.some.inj (f1.symm.trans h9)
  have hk2 : kd = 8 ∨ kd = 9 := by rcases hk with h | h; exact Or.inl h.1; exact Or.inr h.1
  rw [q_c_ref hT hk2]
  show H1[E.1 + n]? = some (vp_cell (E.2.2.1 kd) (len, .inr (.inr (.inr (.inr (fun j => (R n j).map (E.1 + ·)))))))
  rw [e1, hcA, vp_cell_q]
  simp only [hR]
  rfl
theorem g_objInit {idx a : Nat} (hd : decode Y.2.1 pc = .ok (.invokespecial idx, 3)) (hp : pc + 3 = pc') (h1 : Cond.methodLink Y.1.cls idx Lib.objectInit ∈ q_T) (h2 : Cond.instanceMethod Lib.objectInit ∈ q_T) (h3 : Cond.code Lib.objectInit ⟨#[0xb1]⟩ 1 none ∈ q_T) (hfr : 1 ≤ Y.2.2.2.2.frames) (hlo : 2 * 2 + 12 ≤ Y.2.2.2.2.locals)
    (h : GoT l E Y kc ks pc' L [] (T, I, J, R, n, z) Tg) : GoT l E Y kc ks pc L [.ref a] (T, I, J, R, n, z) Tg := by
  intro p e s m args below meth c0 H locs ls C hH hS hl
  obtain ⟨hx, hb, hml, hr, ho, hts, hK, hlk, hnm, hbs⟩ := id C
  subst hp
  refine W.objInit hx hb ho (hts _ h1) (hts _ h2) (hts _ h3) rfl (by rw [hml]; exact hl.1) rfl hd hfr (Nat.le_trans (Nat.le_of_ble_eq_true rfl) hlo) ?_
  exact h p e s m args below meth c0 H locs ls C hH hS hl
end
theorem q_fit_mk {Y Y' : QY} {kc ks : Nat} (h1 : Y'.2.2.2.2.frames + 1 ≤ Y.2.2.2.2.frames) (h2 : 8 + (Y'.2.2.1 + 11) + Y'.2.2.2.2.locals ≤ Y.2.2.2.2.locals) (h3 : kc + Y'.2.2.2.2.cells ≤ Y.2.2.2.2.cells) (h4 : ks + Y'.2.2.2.2.slots ≤ Y.2.2.2.2.slots) : q_fit Y Y' kc ks = true := by
  simp only [q_fit, Bool.and_eq_true, Nat.ble_eq]
  exact ⟨⟨⟨h1, h2⟩, h3⟩, h4⟩
theorem nw_X2_9 : q_nw RX2 9 1 := ⟨RX1, TX1, 9, tyX1, by decide, rfl, rfl, fun w hw => q_T_in (iX1 w hw).1 (iX1 w hw).2, tyX1_ok, by decide +kernel, (q_w 68 (by decide +kernel) rfl), (q_w 70 (by decide +kernel) rfl), (q_w 4 (by decide +kernel) rfl)⟩
theorem nw_X4_16 : q_nw RX4 16 2 := ⟨RX2, TX2, 8, tyX2, by decide, rfl, rfl, fun w hw => q_T_in (iX2 w hw).1 (iX2 w hw).2, tyX2_ok, by decide +kernel, (q_w 62 (by decide +kernel) rfl), (q_w 63 (by decide +kernel) rfl), (q_w 3 (by decide +kernel) rfl)⟩
theorem nw_X4_31 : q_nw RX4 31 0 := ⟨RX0, TX0, 9, tyX0, by decide, rfl, rfl, fun w hw => q_T_in (iX0 w hw).1 (iX0 w hw).2, tyX0_ok, by decide +kernel, (q_w 137 (by decide +kernel) rfl), (q_w 138 (by decide +kernel) rfl), (q_w 5 (by decide +kernel) rfl)⟩
theorem nw_X4_7 : q_nw RX4 7 3 := ⟨RX3, TX3, 8, tyX3, by decide, rfl, rfl, fun w hw => q_T_in (iX3 w hw).1 (iX3 w hw).2, tyX3_ok, by decide +kernel, (q_w 24 (by decide +kernel) rfl), (q_w 25 (by decide +kernel) rfl), (q_w 2 (by decide +kernel) rfl)⟩
theorem nw_L_71 : q_nw RL 71 5 := ⟨RX5, TX5, 21, tyX5, by decide, rfl, rfl, fun w hw => q_T_in (iX5 w hw).1 (iX5 w hw).2, tyX5_ok, by decide +kernel, (q_w 818 (by decide +kernel) rfl), (q_w 819 (by decide +kernel) rfl), (q_w 6 (by decide +kernel) rfl)⟩
theorem nw_L_8 : q_nw RL 8 4 := ⟨RX4, TX4, 7, tyX4, by decide, rfl, rfl, fun w hw => q_T_in (iX4 w hw).1 (iX4 w hw).2, tyX4_ok, by decide +kernel, (q_w 16 (by decide +kernel) rfl), (q_w 17 (by decide +kernel) rfl), (q_w 1 (by decide +kernel) rfl)⟩
