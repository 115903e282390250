/-! ROWS: numbers -/
abbrev R32 (a : Int) : Prop := -2147483648 ≤ a ∧ a < 2147483648
theorem iz_toInt {a : Int} (h : R32 a) : (iz a).toInt = a := Int32.toInt_ofInt_of_le (by have := h.1; omega) (by have := h.2; omega)
theorem iz_of (x : Int32) : ∃ a : Int, R32 a ∧ x = iz a := ⟨x.toInt, ⟨by have := x.le_toInt; omega, by have := x.toInt_lt; omega⟩, (Int32.ofInt_toInt x).symm⟩
theorem iz_add (a b : Int) : iz a + iz b = iz (a + b) := (Int32.ofInt_add a b).symm
theorem iz_sub (a b : Int) : iz a - iz b = iz (a - b) := (Int32.ofInt_sub a b).symm
theorem iz_mul (a b : Int) : iz a * iz b = iz (a * b) := (Int32.ofInt_mul a b).symm
theorem iz_neg (a : Int) : -iz a = iz (-a) := (Int32.ofInt_neg a).symm
theorem iz_lt {a b : Int} (ha : R32 a) (hb : R32 b) : iz a < iz b ↔ a < b := by rw [Int32.lt_iff_toInt_lt, iz_toInt ha, iz_toInt hb]
theorem iz_le {a b : Int} (ha : R32 a) (hb : R32 b) : iz a ≤ iz b ↔ a ≤ b := by rw [Int32.le_iff_toInt_le, iz_toInt ha, iz_toInt hb]
theorem iz_eq {a b : Int} (ha : R32 a) (hb : R32 b) : iz a = iz b ↔ a = b := by rw [← Int32.toInt_inj, iz_toInt ha, iz_toInt hb]
theorem iz_0 : (0 : Int32) = iz 0 := by decide
theorem iz_eq0 {a : Int} (ha : R32 a) : iz a = 0 ↔ a = 0 := by rw [iz_0]; exact iz_eq ha (by decide)
theorem iz_lt0 {a : Int} (ha : R32 a) : iz a < 0 ↔ a < 0 := by rw [iz_0]; exact iz_lt ha (by decide)
theorem iz_le0 {a : Int} (ha : R32 a) : iz a ≤ 0 ↔ a ≤ 0 := by rw [iz_0]; exact iz_le ha (by decide)
theorem iz_ge0 {a : Int} (ha : R32 a) : 0 ≤ iz a ↔ 0 ≤ a := by rw [iz_0]; exact iz_le (by decide) ha
theorem iz_gt0 {a : Int} (ha : R32 a) : 0 < iz a ↔ 0 < a := by rw [iz_0]; exact iz_lt (by decide) ha
theorem iz_cl {a : Int} (h : 0 ≤ a) (h2 : a < 2147483648) : (iz a).toNatClampNeg = a.toNat := by
  show (iz a).toInt.toNat = _
  rw [iz_toInt ⟨by omega, h2⟩]
theorem iz_div {a b : Int} (ha : R32 a) (hb : R32 b) : iz a / iz b = iz (a.tdiv b) := by
  refine (Int32.ofInt_tdiv ?_ ?_ ?_ ?_).symm
  · exact ha.1
  · exact Int.le_of_lt_add_one ha.2
  · exact hb.1
  · exact Int.le_of_lt_add_one hb.2
theorem vp_in_iz {i : Int} {n : Nat} (h : 0 ≤ i ∧ i < n) (hn : n < 2147483648) : vp_in (iz i) n := by
  rw [vp_in_iff, iz_toInt ⟨by omega, by omega⟩]
  exact h
def u2 {α : Type} (f : Nat → Nat → α) (k j : Nat) (x : α) : Nat → Nat → α := fun a => if a = k then (fun b => if b = j then x else f a b) else f a
theorem u2_ne {α : Type} {f : Nat → Nat → α} {k j a : Nat} {x : α} (h : a ≠ k) : u2 f k j x a = f a := if_neg h
theorem u2_eq {α : Type} {f : Nat → Nat → α} {k j : Nat} {x : α} : u2 f k j x k = fun b => if b = j then x else f k b := if_pos rfl
theorem u2_at {α : Type} {f : Nat → Nat → α} {k j : Nat} {x : α} : u2 f k j x k j = x := by rw [u2_eq]; exact if_pos rfl
theorem u2_nj {α : Type} {f : Nat → Nat → α} {k j a b : Nat} {x : α} (h : b ≠ j) : u2 f k j x a b = f a b := by
  by_cases ha : a = k
  · subst ha; rw [u2_eq]; exact if_neg h
  · rw [u2_ne ha]
/-! the world's cells as the kit's lists -/
theorem q_in {E : QE} {n k : Nat} (h : k < n) : E.1 + k ∈ q_L E n := List.mem_map.mpr ⟨k, List.mem_range.mpr h, rfl⟩
theorem q_Fk {E : QE} {w : QW} {k : Nat} : q_F E w (E.1 + k) = q_c E w k := by unfold q_F; rw [Nat.add_sub_cancel_left]
theorem q_place {E : QE} {w : QW} {k : Nat} (h : k < w.2.2.2.2.1) : ∃ q : Nat, (q_ws E w)[q]? = some (E.1 + k, q_c E w k) := by
  obtain ⟨q, hq⟩ := va_pl_get (X := []) (f := q_F E w) (q_in (E := E) h)
  rw [q_Fk] at hq
  exact ⟨q, hq⟩
theorem q_upd {E : QE} {w w' : QW} {k q : Nat} {e : va_E} (hD : va_D (q_A E) (q_ws E w)) (h : k < w.2.2.2.2.1) (hq : (q_ws E w)[q]? = some (E.1 + k, q_c E w k)) (hn : w'.2.2.2.2.1 = w.2.2.2.2.1)
    (he : q_c E w' k = e) (ho : ∀ j : Nat, j ≠ k → q_c E w' j = q_c E w j) : (q_ws E w).set q (E.1 + k, e) = q_ws E w' := by
  unfold q_ws at hD hq ⊢
  rw [va_pl_set hD (q_in h) (by rw [q_Fk]; exact hq), hn]
  congr 1
  unfold va_pl
  refine List.map_congr_left (fun a ha => ?_)
  obtain ⟨j, -, rfl⟩ := List.mem_map.mp ha
  rw [q_Fk]
  by_cases hj : j = k
  · subst hj
    rw [va_up_self, he]
  · rw [va_up_ne _ _ (by omega), q_Fk, ho j hj]
theorem q_c_row {E : QE} {w w' : QW} {k : Nat} (h1 : w.1 k = w'.1 k) (h2 : w.2.1 k = w'.2.1 k) (h3 : w.2.2.1 k = w'.2.2.1 k) (h4 : w.2.2.2.1 k = w'.2.2.2.1 k) : q_c E w k = q_c E w' k := by
  have hf : ∀ j t, q_f E w k j t = q_f E w' k j t := by
    intro j t
    match t with
    | 0 => show Value.int _ = Value.int _; rw [h2]
    | 1 => show Value.long _ = Value.long _; rw [h3]
    | _ + 2 => show va_rf _ = va_rf _; rw [h4]
  unfold q_c q_fs
  rw [h1, h2, h3, h4]
  simp only [hf]
theorem q_c_obj {E : QE} {w : QW} {k c len : Nat} (hT : w.1 k = (c, len)) (hc : c < 6) : q_c E w k = .inr (c, q_fs E w k c) := by unfold q_c; rw [hT]; exact if_pos hc
theorem q_c_int {E : QE} {w : QW} {k c len : Nat} (hT : w.1 k = (c, len)) (hc : c = 6 ∨ c = 7) : q_c E w k = .inl (E.2.2.1 c, len, .inl (fun j => iz (w.2.1 k j))) := by
  unfold q_c; rw [hT]; rcases hc with rfl | rfl <;> rfl
theorem q_c_ref {E : QE} {w : QW} {k c len : Nat} (hT : w.1 k = (c, len)) (hc : c = 8 ∨ c = 9) : q_c E w k = .inl (E.2.2.1 c, len, .inr (.inr (.inr (.inr (fun j => (w.2.2.2.1 k j).map (E.1 + ·)))))) := by
  unfold q_c; rw [hT]; rcases hc with rfl | rfl <;> rfl
theorem q_c_long {E : QE} {w : QW} {k len : Nat} (hT : w.1 k = (10, len)) : q_c E w k = .inl (E.2.2.1 10, len, .inr (.inl (w.2.2.1 k))) := by
  unfold q_c; rw [hT]; rfl
theorem q_fs_at {E : QE} {w : QW} {k c j : Nat} (h : j < q_ns c) : (q_fs E w k c)[j]? = some (q_f E w k j (q_ft c j)) := by
  unfold q_fs; rw [List.getElem?_map, List.getElem?_range h]; rfl
theorem q_fs_len {E : QE} {w : QW} {k c : Nat} : (q_fs E w k c).length = q_ns c := by unfold q_fs; simp
theorem q_fs_set {E : QE} {w w' : QW} {k c j : Nat} {v : Value} (hv : q_f E w' k j (q_ft c j) = v) (ho : ∀ i, i ≠ j → q_f E w' k i (q_ft c i) = q_f E w k i (q_ft c i)) : q_fs E w' k c = (q_fs E w k c).set j v := by
  apply List.ext_getElem?
  intro i
  rw [List.getElem?_set]
  by_cases hi : i < q_ns c
  · rw [q_fs_at hi, q_fs_len]
    by_cases e : j = i
    · subst e; rw [if_pos rfl, if_pos hi, hv]
    · rw [if_neg e, q_fs_at hi, ho i (fun q => e q.symm)]
  · have h0 : ∀ w0 : QW, (q_fs E w0 k c)[i]? = none := fun w0 => by rw [List.getElem?_eq_none_iff, q_fs_len]; omega
    rw [h0, h0, q_fs_len]
    by_cases e : j = i
    · subst e; rw [if_pos rfl, if_neg hi]
    · rw [if_neg e]
/-! what an instruction on a field links: class c, slot j -/
def q_fl (own : String) (idx c j : Nat) : Prop := ∃ (C : String) (TX : u_T) (N : Nat) (ref : String), c < 6 ∧ vwCl[c]? = some (C, TX, N) ∧ q_ns c = N ∧ (∀ w ∈ u_ws C TX N, w ∈ q_T) ∧ j < N ∧ Cond.fieldLink own idx ref (TX j).2.1 (TX j).2.2.1 ∈ q_T ∧ (TX j).1 = ref
def q_fp (own : String) (idx c j : Nat) (fin : Bool) (ty : FieldType) : Prop := ∃ (C : String) (TX : u_T) (N : Nat) (ref : String) (tys : Nat → FieldType), c < 6 ∧ vwCl[c]? = some (C, TX, N) ∧ q_ns c = N ∧ (∀ w ∈ u_ws C TX N, w ∈ q_T) ∧ j < N ∧ Cond.fieldLink own idx ref (TX j).2.1 (TX j).2.2.1 ∈ q_T ∧ (TX j).1 = ref ∧
  (∀ k, k < N → parseFieldDescriptor (TX k).2.2.1 = some (tys k)) ∧ (∀ a, a < N → ∀ b, b < N → a ≠ b → (TX a).2.1 ≠ (TX b).2.1) ∧ (TX j).2.2.2 = fin ∧ tys j = ty ∧ (fin = true → ref = own)
section Rows
variable {l : Launch} {E : QE} {Y : QY} {kc ks pc pc' : Nat} {L : List (Option Value)} {st : List Value} {T : Nat → Nat × Nat} {I : Nat → Nat → Int} {J : Nat → Nat → Int64} {R : Nat → Nat → Option Nat} {n z : Nat} {w : QW} {K : Option Value → QW → Prop} {Tg : List Frame → Array Value → State → State → Prop}
theorem g_fld {idx c j k len : Nat} (hd : decode Y.2.1 pc = .ok (.getfield idx, 3)) (hp : pc + 3 = pc') (hf : q_fl Y.1.cls idx c j) (hT : T k = (c, len)) (hk : k < n)
    (h : GoT l E Y kc ks pc' L (q_f E (T, I, J, R, n, z) k j (q_ft c j) :: st) (T, I, J, R, n, z) Tg) : GoT l E Y kc ks pc L (.ref (E.1 + k) :: st) (T, I, J, R, n, z) Tg := by
  intro p e s m args below meth c0 H locs ls C hH hS hl
  obtain ⟨hx, hb, hml, hr, ho, hts, hK, hlk, hnm, hbs⟩ := id C
  obtain ⟨Cn, TX, N, ref, hc6, hcl, hN, hin, hj, hlink, href⟩ := hf
  obtain ⟨q, hq⟩ := q_place (E := E) (w := (T, I, J, R, n, z)) hk
  rw [q_c_obj hT hc6] at hq
  subst hp; subst href
  refine va_get (D := E.2.1) (ci := c) (C := Cn) (T := TX) (N := N) hx hb hts hin ho hK.1 hH.1 q hq hcl j hj (hts _ hlink) (fun _ h9 => h9) (q_fs_at (by rw [hN]; exact hj)) hd ?_
  exact h p e s m args below meth c0 H locs ls C hH hS hl
theorem g_put {idx c j k len : Nat} {fin : Bool} {ty : FieldType} {v : Value} {w' : QW} (hd : decode Y.2.1 pc = .ok (.putfield idx, 3)) (hp : pc + 3 = pc') (hf : q_fp Y.1.cls idx c j fin ty) (hT : w.1 k = (c, len)) (hk : k < w.2.2.2.2.1) (hfi : fin = true → Y.1.name = "<init>")
    (hn : narrow ty v = v) (hfit : fits ty v = true) (hw1 : w'.1 = w.1) (hw2 : w'.2.2.2.2 = w.2.2.2.2) (hv : q_f E w' k j (q_ft c j) = v) (ho1 : ∀ i, i ≠ j → q_f E w' k i (q_ft c i) = q_f E w k i (q_ft c i)) (ho2 : ∀ a, a ≠ k → q_c E w' a = q_c E w a)
    (h : GoT l E Y kc ks pc' L st w' Tg) : GoT l E Y kc ks pc L (v :: .ref (E.1 + k) :: st) w Tg := by
  intro p e s m args below meth c0 H locs ls C hH hS hl
  obtain ⟨hx, hb, hml, hr, ho, hts, hK, hlk, hnm, hbs⟩ := id C
  obtain ⟨Cn, TX, N, ref, tys, hc6, hcl, hN, hin, hj, hlink, href, hty, hnmm, hfin, htj, hown⟩ := hf
  obtain ⟨q, hq⟩ := q_place (E := E) (w := w) hk
  have hq0 := hq
  rw [q_c_obj hT hc6] at hq
  subst hp; subst href; subst htj
  have hap := va_apart (own := Y.1.cls) hts hin tys hty hnmm hK.1 hcl
  obtain ⟨r, h1, cell, q1, q2, q3, q4⟩ := hH.1 q _ hq
  have hr' : r = (Cn, TX, N) := Option.some.inj (h1.symm.trans hcl)
  subst hr'
  obtain ⟨hSl, hfc, kC, hkC, hkind⟩ := hK.1.1 c _ hcl
  obtain ⟨cf, kf, fi, f, hi, hsl⟩ := hSl j hj
  have hst := (u_facts hfc hkC (u_lays hts hin hj) hi).1
  have e0 := q_upd (w' := w') hH.2.1 hk hq0 (by rw [hw2]) (e := .inr (c, (q_fs E w k c).set j v)) (by rw [q_c_obj (len := len) (by rw [hw1]; exact hT) hc6, q_fs_set hv ho1]) ho2
  have key : ∀ H' : Heap, H'[E.1 + k]? = some (cell.setSlot f.slot v) → H'.size = H.size → (∀ q, q ≠ E.1 + k → H'[q]? = H[q]?) → W p l e Y.2.2.2.2 s m args below meth c0 H' (locs ++ [⟨E.1 + k, f.slot⟩]) kc ks (Tg below args s) (F0 m (pc + 3) ls st) := by
    intro H' e1 e2 e3
    rw [hsl] at e1 ⊢
    have hP1 := hH.1.set hH.2.1 hq (e := .inr (c, (q_fs E w k c).set j v)) ⟨_, hcl, t_OB.to (V := updV (vp_V (q_fs E w k c)) j v) ⟨_, e1, q2, q3, t_set q4 hap hj v⟩ (fun i _ => vp_updV_set (by rw [q_fs_len, hN]; exact hj) v i)⟩ e3
    have hD1 := hH.2.1.set (e := .inr (c, (q_fs E w k c).set j v)) hq
    rw [e0] at hP1 hD1
    exact h p e s m args below meth c0 H' _ ls C ⟨hP1, hD1, by rw [hw2, e2]; exact hH.2.2⟩ (hS.put e2 e3 (hH.2.1.2 q _ hq)) hl
  cases fin with
  | false =>
    have hlay := hts _ (hin _ (u_in_lay hj))
    unfold u_lay at hlay
    rw [if_neg (by rw [hfin]; decide)] at hlay
    have h6 := u_store hfc hkC hkind hlay hi (hty j hj) hn hfit
    exact W.putK hx hb (f := f) ⟨ho, hts _ hlink, ⟨_, _, _, hi⟩, hst⟩ (by rw [q2]; exact h6) q1 q3 (by rw [hsl]; exact k2_hasslot (q4 j hj)) rfl rfl hd key
  | true =>
    have hlay := hts _ (hin _ (u_in_lay hj))
    unfold u_lay at hlay
    rw [if_pos hfin] at hlay
    have hcf : m.cls = cf := by
      obtain ⟨_, _, c', _, _, _, -, -, hf', -, -, -, hown2, -⟩ := Cond.laysFinal_spec hlay
      have e1 : c' = cf := by have := hi.symm.trans hf'; simp at this; exact this.1.symm
      rw [hown rfl] at hown2
      rw [← e1]; exact Option.some.inj (ho.symm.trans hown2)
    have h6 := u_fits hfc hkC hkind (Or.inr hlay) hi (hty j hj) hn hfit
    exact W.putFinK hx hb ho (hts _ hlink) hi hst hcf ((hnm.resolve_left (by rw [hfi rfl]; decide)).2.trans (hfi rfl)) (by rw [q2]; exact h6) q1 q3 (by rw [hsl]; exact k2_hasslot (q4 j hj)) rfl rfl hd key
theorem q_f_I {I' : Nat → Nat → Int} {k j t : Nat} (h : t ≠ 0 ∨ I' k j = I k j) : q_f E (T, I', J, R, n, z) k j t = q_f E (T, I, J, R, n, z) k j t := by
  match t, h with
  | 0, h => show Value.int (iz (I' k j)) = Value.int (iz (I k j)); rcases h with h | h; exact absurd rfl h; rw [h]
  | 1, _ => rfl
  | _ + 2, _ => rfl
theorem q_f_J {J' : Nat → Nat → Int64} {k j t : Nat} (h : t ≠ 1 ∨ J' k j = J k j) : q_f E (T, I, J', R, n, z) k j t = q_f E (T, I, J, R, n, z) k j t := by
  match t, h with
  | 0, _ => rfl
  | 1, h => show Value.long (J' k j) = Value.long (J k j); rcases h with h | h; exact absurd rfl h; rw [h]
  | _ + 2, _ => rfl
theorem q_f_R {R' : Nat → Nat → Option Nat} {k j t : Nat} (h : t < 2 ∨ R' k j = R k j) : q_f E (T, I, J, R', n, z) k j t = q_f E (T, I, J, R, n, z) k j t := by
  match t, h with
  | 0, _ => rfl
  | 1, _ => rfl
  | t + 2, h => show va_rf _ = va_rf _; rcases h with h | h; omega; show va_rf ((R' k j).map (E.1 + ·)) = va_rf ((R k j).map (E.1 + ·)); rw [h]
/-- an int field is read -/
theorem g_getI {idx c j k len : Nat} (hd : decode Y.2.1 pc = .ok (.getfield idx, 3)) (hp : pc + 3 = pc') (hf : q_fl Y.1.cls idx c j) (ht : q_ft c j = 0) (hT : T k = (c, len)) (hk : k < n)
    (h : GoT l E Y kc ks pc' L (.int (iz (I k j)) :: st) (T, I, J, R, n, z) Tg) : GoT l E Y kc ks pc L (.ref (E.1 + k) :: st) (T, I, J, R, n, z) Tg := by
  refine g_fld hd hp hf hT hk ?_
  rw [ht]
  exact h
theorem g_getJ {idx c j k len : Nat} (hd : decode Y.2.1 pc = .ok (.getfield idx, 3)) (hp : pc + 3 = pc') (hf : q_fl Y.1.cls idx c j) (ht : q_ft c j = 1) (hT : T k = (c, len)) (hk : k < n)
    (h : GoT l E Y kc ks pc' L (.long (J k j) :: st) (T, I, J, R, n, z) Tg) : GoT l E Y kc ks pc L (.ref (E.1 + k) :: st) (T, I, J, R, n, z) Tg := by
  refine g_fld hd hp hf hT hk ?_
  rw [ht]
  exact h
theorem g_getR {idx c j k len a : Nat} (hd : decode Y.2.1 pc = .ok (.getfield idx, 3)) (hp : pc + 3 = pc') (hf : q_fl Y.1.cls idx c j) (ht : q_ft c j = 2) (hT : T k = (c, len)) (hk : k < n) (hR : R k j = some a)
    (h : GoT l E Y kc ks pc' L (.ref (E.1 + a) :: st) (T, I, J, R, n, z) Tg) : GoT l E Y kc ks pc L (.ref (E.1 + k) :: st) (T, I, J, R, n, z) Tg := by
  refine g_fld hd hp hf hT hk ?_
  rw [ht]
  show GoT l E Y kc ks pc' L (va_rf ((R k j).map (E.1 + ·)) :: st) _ Tg
  rw [hR]
  exact h
theorem g_putI {idx c j k len : Nat} {x : Int} (hd : decode Y.2.1 pc = .ok (.putfield idx, 3)) (hp : pc + 3 = pc') (hf : q_fp Y.1.cls idx c j false .int) (ht : q_ft c j = 0) (hT : T k = (c, len)) (hk : k < n)
    (h : GoT l E Y kc ks pc' L st (T, u2 I k j x, J, R, n, z) Tg) : GoT l E Y kc ks pc L (.int (iz x) :: .ref (E.1 + k) :: st) (T, I, J, R, n, z) Tg := by
  refine g_put (w' := (T, u2 I k j x, J, R, n, z)) hd hp hf hT hk (fun h => by cases h) rfl rfl rfl rfl (by rw [ht]; show Value.int (iz (u2 I k j x k j)) = _; rw [u2_at]) (fun i hi => q_f_I (Or.inr (u2_nj hi))) (fun a ha => q_c_row rfl (u2_ne ha) rfl rfl) h
theorem g_putZ {idx c j k len : Nat} {x : Int} (hd : decode Y.2.1 pc = .ok (.putfield idx, 3)) (hp : pc + 3 = pc') (hf : q_fp Y.1.cls idx c j false .boolean) (ht : q_ft c j = 0) (hT : T k = (c, len)) (hk : k < n) (hx : x = 0 ∨ x = 1)
    (h : GoT l E Y kc ks pc' L st (T, u2 I k j x, J, R, n, z) Tg) : GoT l E Y kc ks pc L (.int (iz x) :: .ref (E.1 + k) :: st) (T, I, J, R, n, z) Tg := by
  refine g_put (w' := (T, u2 I k j x, J, R, n, z)) hd hp hf hT hk (fun h => by cases h) (by rcases hx with rfl | rfl <;> rfl) (by rcases hx with rfl | rfl <;> rfl) rfl rfl (by rw [ht]; show Value.int (iz (u2 I k j x k j)) = _; rw [u2_at]) (fun i hi => q_f_I (Or.inr (u2_nj hi))) (fun a ha => q_c_row rfl (u2_ne ha) rfl rfl) h
theorem g_putJ {idx c j k len : Nat} {x : Int64} (hd : decode Y.2.1 pc = .ok (.putfield idx, 3)) (hp : pc + 3 = pc') (hf : q_fp Y.1.cls idx c j false .long) (ht : q_ft c j = 1) (hT : T k = (c, len)) (hk : k < n)
    (h : GoT l E Y kc ks pc' L st (T, I, u2 J k j x, R, n, z) Tg) : GoT l E Y kc ks pc L (.long x :: .ref (E.1 + k) :: st) (T, I, J, R, n, z) Tg := by
  refine g_put (w' := (T, I, u2 J k j x, R, n, z)) hd hp hf hT hk (fun h => by cases h) rfl rfl rfl rfl (by rw [ht]; show Value.long (u2 J k j x k j) = _; rw [u2_at]) (fun i hi => q_f_J (Or.inr (u2_nj hi))) (fun a ha => q_c_row rfl rfl (u2_ne ha) rfl) h
theorem g_putR {idx c j k len a : Nat} {ty : FieldType} (hd : decode Y.2.1 pc = .ok (.putfield idx, 3)) (hp : pc + 3 = pc') (hf : q_fp Y.1.cls idx c j true ty) (ht : q_ft c j = 2) (hT : T k = (c, len)) (hk : k < n) (hi : Y.1.name = "<init>") (hty : narrow ty (.ref (E.1 + a)) = .ref (E.1 + a) ∧ fits ty (.ref (E.1 + a)) = true)
    (h : GoT l E Y kc ks pc' L st (T, I, J, u2 R k j (some a), n, z) Tg) : GoT l E Y kc ks pc L (.ref (E.1 + a) :: .ref (E.1 + k) :: st) (T, I, J, R, n, z) Tg := by
  refine g_put (w' := (T, I, J, u2 R k j (some a), n, z)) hd hp hf hT hk (fun _ => hi) hty.1 hty.2 rfl rfl (by rw [ht]; show va_rf ((u2 R k j (some a) k j).map (E.1 + ·)) = _; rw [u2_at]; rfl) (fun i hi => q_f_R (Or.inr (u2_nj hi))) (fun a ha => q_c_row rfl rfl rfl (u2_ne ha)) h
end Rows
