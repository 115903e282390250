/-! ROWS 3: arrays, statics, calls -/
section Rows3
variable {l : Launch} {E : QE} {Y : QY} {kc ks pc pc' : Nat} {L : List (Option Value)} {st : List Value} {T : Nat → Nat × Nat} {I : Nat → Nat → Int} {J : Nat → Nat → Int64} {R : Nat → Nat → Option Nat} {n z : Nat} {w : QW} {K : Option Value → QW → Prop} {Tg : List Frame → Array Value → State → State → Prop}
theorem g_iald {k len : Nat} {i : Int} (hd : decode Y.2.1 pc = .ok (.iaload, 1)) (hp : pc + 1 = pc') (hT : T k = (6, len)) (hk : k < n) (hl9 : len < 2147483648) (hi : 0 ≤ i ∧ i < len)
    (h : GoT l E Y kc ks pc' L (.int (iz (I k i.toNat)) :: st) (T, I, J, R, n, z) Tg) : GoT l E Y kc ks pc L (.int (iz i) :: .ref (E.1 + k) :: st) (T, I, J, R, n, z) Tg := by
  intro p e s m args below meth c H locs ls C hH hS hl
  obtain ⟨hx, hb, hml, hr, ho, hts, hK, hlk, hnm, hbs⟩ := id C
  obtain ⟨q, hq⟩ := q_place (E := E) (w := (T, I, J, R, n, z)) hk
  rw [q_c_int hT (Or.inl rfl)] at hq
  subst hp
  refine va_iald hx hb hK.1 hH.1 q 0 hq rfl (vp_in_iz hi hl9) hd ?_
  rw [iz_cl hi.1 (by omega)]
  exact h p e s m args below meth c H locs ls C hH hS hl
theorem g_zald {k len : Nat} {i : Int} (hd : decode Y.2.1 pc = .ok (.baload, 1)) (hp : pc + 1 = pc') (hT : T k = (7, len)) (hk : k < n) (hl9 : len < 2147483648) (hi : 0 ≤ i ∧ i < len)
    (h : GoT l E Y kc ks pc' L (.int (iz (I k i.toNat)) :: st) (T, I, J, R, n, z) Tg) : GoT l E Y kc ks pc L (.int (iz i) :: .ref (E.1 + k) :: st) (T, I, J, R, n, z) Tg := by
  intro p e s m args below meth c H locs ls C hH hS hl
  obtain ⟨hx, hb, hml, hr, ho, hts, hK, hlk, hnm, hbs⟩ := id C
  obtain ⟨q, hq⟩ := q_place (E := E) (w := (T, I, J, R, n, z)) hk
  rw [q_c_int hT (Or.inr rfl)] at hq
  subst hp
  refine va_zald hx hb hK.1 hH.1 q 1 hq rfl (vp_in_iz hi hl9) hd ?_
  rw [iz_cl hi.1 (by omega)]
  exact h p e s m args below meth c H locs ls C hH hS hl
theorem g_lald {k len : Nat} {i : Int} (hd : decode Y.2.1 pc = .ok (.laload, 1)) (hp : pc + 1 = pc') (hT : T k = (10, len)) (hk : k < n) (hl9 : len < 2147483648) (hi : 0 ≤ i ∧ i < len)
    (h : GoT l E Y kc ks pc' L (.long (J k i.toNat) :: st) (T, I, J, R, n, z) Tg) : GoT l E Y kc ks pc L (.int (iz i) :: .ref (E.1 + k) :: st) (T, I, J, R, n, z) Tg := by
  intro p e s m args below meth c H locs ls C hH hS hl
  obtain ⟨hx, hb, hml, hr, ho, hts, hK, hlk, hnm, hbs⟩ := id C
  obtain ⟨q, hq⟩ := q_place (E := E) (w := (T, I, J, R, n, z)) hk
  rw [q_c_long hT] at hq
  subst hp
  refine va_lald hx hb hK.1 hH.1 q 4 hq rfl (vp_in_iz hi hl9) hd ?_
  rw [iz_cl hi.1 (by omega)]
  exact h p e s m args below meth c H locs ls C hH hS hl
theorem g_aald {k kd len a : Nat} {i : Int} (hd : decode Y.2.1 pc = .ok (.aaload, 1)) (hp : pc + 1 = pc') (hT : T k = (kd, len)) (hkd : kd = 8 ∨ kd = 9) (hk : k < n) (hl9 : len < 2147483648) (hi : 0 ≤ i ∧ i < len) (hR : R k i.toNat = some a)
    (h : GoT l E Y kc ks pc' L (.ref (E.1 + a) :: st) (T, I, J, R, n, z) Tg) : GoT l E Y kc ks pc L (.int (iz i) :: .ref (E.1 + k) :: st) (T, I, J, R, n, z) Tg := by
  intro p e s m args below meth c H locs ls C hH hS hl
  obtain ⟨hx, hb, hml, hr, ho, hts, hK, hlk, hnm, hbs⟩ := id C
  obtain ⟨q, hq⟩ := q_place (E := E) (w := (T, I, J, R, n, z)) hk
  rw [q_c_ref hT hkd] at hq
  subst hp
  have key : va_rf (((fun j => (R k j).map (E.1 + ·)) : Nat → Option Nat) (iz i).toNatClampNeg) = .ref (E.1 + a) := by
    rw [iz_cl hi.1 (by omega)]
    show va_rf ((R k i.toNat).map (E.1 + ·)) = _
    rw [hR]; rfl
  rcases hkd with rfl | rfl
  · refine va_aldq hx hb hK.1 hH.1 q 2 hq rfl (vp_in_iz hi hl9) hd ?_
    rw [key]
    exact h p e s m args below meth c H locs ls C hH hS hl
  · refine va_aldq hx hb hK.1 hH.1 q 3 hq rfl (vp_in_iz hi hl9) hd ?_
    rw [key]
    exact h p e s m args below meth c H locs ls C hH hS hl
theorem g_iast {k len : Nat} {i x : Int} (hd : decode Y.2.1 pc = .ok (.iastore, 1)) (hp : pc + 1 = pc') (hT : T k = (6, len)) (hk : k < n) (hl9 : len < 2147483648) (hi : 0 ≤ i ∧ i < len)
    (h : GoT l E Y kc ks pc' L st (T, u2 I k i.toNat x, J, R, n, z) Tg) : GoT l E Y kc ks pc L (.int (iz x) :: .int (iz i) :: .ref (E.1 + k) :: st) (T, I, J, R, n, z) Tg := by
  intro p e s m args below meth c H locs ls C hH hS hl
  obtain ⟨hx, hb, hml, hr, ho, hts, hK, hlk, hnm, hbs⟩ := id C
  obtain ⟨q, hq⟩ := q_place (E := E) (w := (T, I, J, R, n, z)) hk
  have hq0 := hq
  rw [q_c_int hT (Or.inl rfl)] at hq
  subst hp
  have e0 := q_upd (w' := (T, u2 I k i.toNat x, J, R, n, z)) hH.2.1 hk hq0 rfl rfl (fun a ha => q_c_row rfl (u2_ne ha) rfl rfl)
  rw [q_c_int (w := (T, u2 I k i.toNat x, J, R, n, z)) hT (Or.inl rfl)] at e0
  refine W.iast hx hb (hH.1 q _ hq) ((hK.1.2 0 _ rfl).1 len (fun j => .int (iz (I k j)))) (fun q => by cases q) (by show ¬ (_ ∨ (arrV _ _ _).slots.size ≤ _); rw [arrV_size]; exact vp_in_iz hi hl9) rfl rfl hd fun H1 e1 z1 oq => ?_
  have hP1 := hH.1.set hH.2.1 hq (e := .inl (E.2.2.1 6, len, .inl (fun j => iz (u2 I k i.toNat x k j)))) (by
    show H1[E.1 + k]? = some (vp_cell _ _)
    rw [e1]
    dsimp only
    rw [vp_cell_i, vp_cell_i, arrV_store, iz_cl hi.1 (by omega)]
    congr 2
    funext j
    rw [u2_eq]
    by_cases hj9 : j = i.toNat <;> simp [updV, hj9]) oq
  have hD1 := hH.2.1.set (e := .inl (E.2.2.1 6, len, .inl (fun j => iz (u2 I k i.toNat x k j)))) hq
  have hA := hH.2.1.2 q _ hq
  rw [e0] at hP1 hD1
  exact h p e s m args below meth c H1 _ ls C ⟨hP1, hD1, by rw [z1]; exact hH.2.2⟩ (hS.put z1 oq hA) hl
theorem g_zast {k len : Nat} {i x : Int} (hd : decode Y.2.1 pc = .ok (.bastore, 1)) (hp : pc + 1 = pc') (hT : T k = (7, len)) (hk : k < n) (hl9 : len < 2147483648) (hi : 0 ≤ i ∧ i < len) (hx9 : x = 0 ∨ x = 1)
    (h : GoT l E Y kc ks pc' L st (T, u2 I k i.toNat x, J, R, n, z) Tg) : GoT l E Y kc ks pc L (.int (iz x) :: .int (iz i) :: .ref (E.1 + k) :: st) (T, I, J, R, n, z) Tg := by
  intro p e s m args below meth c H locs ls C hH hS hl
  obtain ⟨hx, hb, hml, hr, ho, hts, hK, hlk, hnm, hbs⟩ := id C
  obtain ⟨q, hq⟩ := q_place (E := E) (w := (T, I, J, R, n, z)) hk
  have hq0 := hq
  rw [q_c_int hT (Or.inr rfl)] at hq
  subst hp
  have e0 := q_upd (w' := (T, u2 I k i.toNat x, J, R, n, z)) hH.2.1 hk hq0 rfl rfl (fun a ha => q_c_row rfl (u2_ne ha) rfl rfl)
  rw [q_c_int (w := (T, u2 I k i.toNat x, J, R, n, z)) hT (Or.inr rfl)] at e0
  have hnr : narrow .boolean (.int (iz x)) = .int (iz x) := by rcases hx9 with rfl | rfl <;> rfl
  refine W.zast hx hb (hH.1 q _ hq) ((hK.1.2 1 _ rfl).1 len (fun j => .int (iz (I k j)))) (fun q => by cases q) (by show ¬ (_ ∨ (arrV _ _ _).slots.size ≤ _); rw [arrV_size]; exact vp_in_iz hi hl9) rfl rfl hd fun H1 e1 z1 oq => ?_
  have hP1 := hH.1.set hH.2.1 hq (e := .inl (E.2.2.1 7, len, .inl (fun j => iz (u2 I k i.toNat x k j)))) (by
    show H1[E.1 + k]? = some (vp_cell _ _)
    rw [e1, hnr]
    dsimp only
    rw [vp_cell_i, vp_cell_i, arrV_store, iz_cl hi.1 (by omega)]
    congr 2
    funext j
    rw [u2_eq]
    by_cases hj9 : j = i.toNat <;> simp [updV, hj9]) oq
  have hD1 := hH.2.1.set (e := .inl (E.2.2.1 7, len, .inl (fun j => iz (u2 I k i.toNat x k j)))) hq
  have hA := hH.2.1.2 q _ hq
  rw [e0] at hP1 hD1
  exact h p e s m args below meth c H1 _ ls C ⟨hP1, hD1, by rw [z1]; exact hH.2.2⟩ (hS.put z1 oq hA) hl
theorem g_last {k len : Nat} {i : Int} {x : Int64} (hd : decode Y.2.1 pc = .ok (.lastore, 1)) (hp : pc + 1 = pc') (hT : T k = (10, len)) (hk : k < n) (hl9 : len < 2147483648) (hi : 0 ≤ i ∧ i < len)
    (h : GoT l E Y kc ks pc' L st (T, I, u2 J k i.toNat x, R, n, z) Tg) : GoT l E Y kc ks pc L (.long x :: .int (iz i) :: .ref (E.1 + k) :: st) (T, I, J, R, n, z) Tg := by
  intro p e s m args below meth c H locs ls C hH hS hl
  obtain ⟨hx, hb, hml, hr, ho, hts, hK, hlk, hnm, hbs⟩ := id C
  obtain ⟨q, hq⟩ := q_place (E := E) (w := (T, I, J, R, n, z)) hk
  have hq0 := hq
  rw [q_c_long hT] at hq
  subst hp
  have e0 := q_upd (w' := (T, I, u2 J k i.toNat x, R, n, z)) hH.2.1 hk hq0 rfl rfl (fun a ha => q_c_row rfl rfl (u2_ne ha) rfl)
  rw [q_c_long (w := (T, I, u2 J k i.toNat x, R, n, z)) hT] at e0
  refine W.last hx hb (hH.1 q _ hq) ((hK.1.2 4 _ rfl).1 len (fun j => .long (J k j))) (fun q => by cases q) (by show ¬ (_ ∨ (arrV _ _ _).slots.size ≤ _); rw [arrV_size]; exact vp_in_iz hi hl9) rfl rfl hd fun H1 e1 z1 oq => ?_
  have hP1 := hH.1.set hH.2.1 hq (e := .inl (E.2.2.1 10, len, .inr (.inl (u2 J k i.toNat x k)))) (by
    show H1[E.1 + k]? = some (vp_cell _ _)
    rw [e1]
    dsimp only
    rw [vp_cell_l, vp_cell_l, arrV_store, iz_cl hi.1 (by omega)]
    congr 2
    funext j
    rw [u2_eq]
    by_cases hj9 : j = i.toNat <;> simp [updV, hj9]) oq
  have hD1 := hH.2.1.set (e := .inl (E.2.2.1 10, len, .inr (.inl (u2 J k i.toNat x k)))) hq
  have hA := hH.2.1.2 q _ hq
  rw [e0] at hP1 hD1
  exact h p e s m args below meth c H1 _ ls C ⟨hP1, hD1, by rw [z1]; exact hH.2.2⟩ (hS.put z1 oq hA) hl
theorem g_aast {k kd ci len a la : Nat} {i : Int} (hd : decode Y.2.1 pc = .ok (.aastore, 1)) (hp : pc + 1 = pc') (hT : T k = (kd, len)) (hkd : kd = 8 ∧ ci = 1 ∨ kd = 9 ∧ ci = 3) (hk : k < n) (hl9 : len < 2147483648) (hi : 0 ≤ i ∧ i < len) (hTa : T a = (ci, la)) (ha : a < n)
    (h : GoT l E Y kc ks pc' L st (T, I, J, u2 R k i.toNat (some a), n, z) Tg) : GoT l E Y kc ks pc L (.ref (E.1 + a) :: .int (iz i) :: .ref (E.1 + k) :: st) (T, I, J, R, n, z) Tg := by
  intro p e s m args below meth c H locs ls C hH hS hl
  obtain ⟨hx, hb, hml, hr, ho, hts, hK, hlk, hnm, hbs⟩ := id C
  obtain ⟨q, hq⟩ := q_place (E := E) (w := (T, I, J, R, n, z)) hk
  obtain ⟨qa, hqa⟩ := q_place (E := E) (w := (T, I, J, R, n, z)) ha
  have hq0 := hq
  have hkd' : kd = 8 ∨ kd = 9 := by rcases hkd with h | h; exact Or.inl h.1; exact Or.inr h.1
  rw [q_c_ref hT hkd'] at hq
  rw [q_c_obj hTa (by rcases hkd with h | h <;> omega)] at hqa
  subst hp
  have e0 := q_upd (w' := (T, I, J, u2 R k i.toNat (some a), n, z)) hH.2.1 hk hq0 rfl rfl (fun a ha => q_c_row rfl rfl rfl (u2_ne ha))
  rw [q_c_ref (w := (T, I, J, u2 R k i.toNat (some a), n, z)) hT hkd'] at e0
  have hlt : (iz i).toNatClampNeg < len := by rw [iz_cl hi.1 (by omega)]; omega
  have h0 : ¬ iz i < 0 := by rw [iz_lt0 ⟨by omega, by omega⟩]; omega
  obtain ⟨r', hr', cellV, g1, g2, g3, -⟩ := hH.1 qa _ hqa
  have fin : ∀ (t0 : Nat) (rC : vw_C) (ht : (q_tys E)[t0]? = some (E.2.2.1 kd, .object rC.1)) (hc : vwCl[ci]? = some rC), W p l e Y.2.2.2.2 s m args below meth c H locs kc ks (Tg below args s) (F0 m pc ls (.ref (E.1 + a) :: .int (iz i) :: .ref (E.1 + k) :: st)) := by
    intro t0 rC ht hc
    have hcls := (hK.1.1 ci rC hc).2
    obtain ⟨kA, comp, k1, k2, k3, -⟩ := (hK.1.2 t0 _ ht).2
    have hcomp : comp = E.2.1.1 ci := Option.some.inj (k3.symm.trans hcls.1)
    subst hcomp
    obtain ⟨kC, hkC, -⟩ := hcls.2
    refine W.aast hx hb (hH.1 q _ hq) (fun q h => by cases h) (fun h => by cases h) k1 k2 rfl hkC ⟨h0, by show _ < (arrV _ _ _).slots.size; rw [arrV_size]; exact hlt⟩ g1 (fun q h => by rw [g3] at h; cases h) (by rw [g2]; exact hkC) (by rw [g2]; exact va_assign hcls) rfl rfl hd fun H1 e1 z1 oq => ?_
    have hP1 := hH.1.set hH.2.1 hq (e := .inl (E.2.2.1 kd, len, .inr (.inr (.inr (.inr (fun j => (u2 R k i.toNat (some a) k j).map (E.1 + ·))))))) (by
      show H1[E.1 + k]? = some (vp_cell _ _)
      rw [e1]
      dsimp only
      rw [vp_cell_q, vp_cell_q, arrV_store, iz_cl hi.1 (by omega)]
      congr 2
      funext j
      rw [u2_eq]
      by_cases hj9 : j = i.toNat <;> simp [updV, hj9, va_rf]) oq
    have hD1 := hH.2.1.set (e := .inl (E.2.2.1 kd, len, .inr (.inr (.inr (.inr (fun j => (u2 R k i.toNat (some a) k j).map (E.1 + ·))))))) hq
    have hA := hH.2.1.2 q _ hq
    rw [e0] at hP1 hD1
    exact h p e s m args below meth c H1 _ ls C ⟨hP1, hD1, by rw [z1]; exact hH.2.2⟩ (hS.put z1 oq hA) hl
  rcases hkd with ⟨rfl, rfl⟩ | ⟨rfl, rfl⟩
  · exact fin 2 (RX1, TX1, 9) rfl rfl
  · exact fin 3 (RX3, TX3, 8) rfl rfl
theorem g_alen {k kd len : Nat} (hd : decode Y.2.1 pc = .ok (.arraylength, 1)) (hp : pc + 1 = pc') (hT : T k = (kd, len)) (hkd : 6 ≤ kd ∧ kd ≤ 10) (hk : k < n)
    (h : GoT l E Y kc ks pc' L (.int (iz len) :: st) (T, I, J, R, n, z) Tg) : GoT l E Y kc ks pc L (.ref (E.1 + k) :: st) (T, I, J, R, n, z) Tg := by
  intro p e s m args below meth c H locs ls C hH hS hl
  obtain ⟨hx, hb, hml, hr, ho, hts, hK, hlk, hnm, hbs⟩ := id C
  obtain ⟨q, hq⟩ := q_place (E := E) (w := (T, I, J, R, n, z)) hk
  subst hp
  have hv : Int32.ofNat len = iz len := Int32.ofInt_eq_ofNat.symm
  have kk := h p e s m args below meth c H locs ls C hH hS hl
  rcases (show kd = 6 ∨ kd = 7 ∨ kd = 8 ∨ kd = 9 ∨ kd = 10 by omega) with rfl | rfl | rfl | rfl | rfl
  · rw [q_c_int hT (Or.inl rfl)] at hq; exact va_alen hx hb hK.1 hH.1 q 0 hq rfl hv hd kk
  · rw [q_c_int hT (Or.inr rfl)] at hq; exact va_alen hx hb hK.1 hH.1 q 1 hq rfl hv hd kk
  · rw [q_c_ref hT (Or.inl rfl)] at hq; exact va_alen hx hb hK.1 hH.1 q 2 hq rfl hv hd kk
  · rw [q_c_ref hT (Or.inr rfl)] at hq; exact va_alen hx hb hK.1 hH.1 q 3 hq rfl hv hd kk
  · rw [q_c_long hT] at hq; exact va_alen hx hb hK.1 hH.1 q 4 hq rfl hv hd kk
/-! the class's own tables -/
theorem g_gets {idx i : Nat} (hd : decode Y.2.1 pc = .ok (.getstatic idx, 3)) (hp : pc + 3 = pc') (hi : i < 4) (hw : Cond.fieldLink Y.1.cls idx RX4 (q_sn i) "[I" ∈ q_T)
    (h : GoT l E Y kc ks pc' L (.ref (E.2.2.2 i) :: st) w Tg) : GoT l E Y kc ks pc L st w Tg := by
  intro p e s m args below meth c H locs ls C hH hS hl
  obtain ⟨hx, hb, hml, hr, ho, hts, hK, hlk, hnm, hbs⟩ := id C
  subst hp
  exact va_gets hx hb (hK.2.2.1 i hi).1 hS ho (hts _ hw) (fun _ h9 => h9) hd (h p e s m args below meth c H locs ls C hH hS hl)
theorem g_getsN {idx i : Nat} (hd : decode Y.2.1 pc = .ok (.getstatic idx, 3)) (hp : pc + 3 = pc') (hi : i < 4) (hw : Cond.fieldLinkNest Y.1.cls idx RX4 (q_sn i) "[I" "ScratchMap" ∈ q_N)
    (h : GoT l E Y kc ks pc' L (.ref (E.2.2.2 i) :: st) w Tg) : GoT l E Y kc ks pc L st w Tg := by
  intro p e s m args below meth c H locs ls C hH hS hl
  obtain ⟨hx, hb, hml, hr, ho, hts, hK, hlk, hnm, hbs⟩ := id C
  subst hp
  exact va_getsN hx hb (hK.2.2.1 i hi).1 hS ho (va_Nw.use rfl (hK.2.1 _ hw)) (fun _ h9 => h9) hd (h p e s m args below meth c H locs ls C hH hS hl)
theorem g_sald {i : Nat} {j : Int} (hd : decode Y.2.1 pc = .ok (.iaload, 1)) (hp : pc + 1 = pc') (hi : i < 4) (hj : 0 ≤ j ∧ j < 3)
    (h : GoT l E Y kc ks pc' L (.int (iz (q_sv i j.toNat)) :: st) w Tg) : GoT l E Y kc ks pc L (.int (iz j) :: .ref (E.2.2.2 i) :: st) w Tg := by
  intro p e s m args below meth c H locs ls C hH hS hl
  obtain ⟨hx, hb, hml, hr, ho, hts, hK, hlk, hnm, hbs⟩ := id C
  subst hp
  refine va_ti hx hb (hK.2.2.1 i hi).2 hS (vp_in_iz hj (by decide)) (v := .int (iz (q_sv i j.toNat))) ?_ hd (h p e s m args below meth c H locs ls C hH hS hl)
  rw [iz_cl hj.1 (by omega)]
theorem g_slen {i : Nat} (hd : decode Y.2.1 pc = .ok (.arraylength, 1)) (hp : pc + 1 = pc') (hi : i < 4)
    (h : GoT l E Y kc ks pc' L (.int (iz 3) :: st) w Tg) : GoT l E Y kc ks pc L (.ref (E.2.2.2 i) :: st) w Tg := by
  intro p e s m args below meth c H locs ls C hH hS hl
  obtain ⟨hx, hb, hml, hr, ho, hts, hK, hlk, hnm, hbs⟩ := id C
  subst hp
  exact va_tlen hx hb (hK.2.2.1 i hi).2 hS (v := iz 3) (by decide) hd (h p e s m args below meth c H locs ls C hH hS hl)
end Rows3
