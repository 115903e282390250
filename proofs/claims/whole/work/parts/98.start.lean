/-! the law, from its entry -/
section
set_option maxRecDepth 100000 in
theorem qT_X : XT qT := by
  refine ⟨by decide +kernel, ?_, ?_, by decide +kernel, ?_, ?_, ?_, ?_⟩
  · exact ⟨by decide +kernel, by decide +kernel, by decide +kernel, by decide +kernel, by decide +kernel, by decide +kernel⟩
  · exact ⟨by decide +kernel, by decide +kernel, by decide +kernel, by decide +kernel, by decide +kernel, by decide +kernel, by decide +kernel⟩
  · exact ⟨by decide +kernel, by decide +kernel, by decide +kernel, by decide +kernel⟩
  · exact ⟨by decide +kernel, by decide +kernel, by decide +kernel, by decide +kernel, by decide +kernel, by decide +kernel⟩
  · exact ⟨by decide +kernel, by decide +kernel, by decide +kernel, by decide +kernel, by decide +kernel, by decide +kernel, by decide +kernel⟩
  · have h : ∀ i, i < 6 → qT (74 + 6 * i) = (3, 0) ∧ qT (74 + 6 * i + 1) = (6, 12) ∧ qT (74 + 6 * i + 2) = (6, 3) ∧ qT (74 + 6 * i + 3) = (6, 480) ∧ qT (74 + 6 * i + 4) = (6, 480) ∧ qT (74 + 6 * i + 5) = (6, 576) := by decide +kernel
    exact h
set_option maxRecDepth 100000 in
theorem qT_M : MdT qT := ⟨by decide +kernel, by decide +kernel, by decide +kernel, by decide +kernel, by decide +kernel, by decide +kernel, by decide +kernel, by decide +kernel, by decide +kernel, by decide +kernel, by decide +kernel, by decide +kernel, by decide +kernel, by decide +kernel⟩
theorem qT_O : qT 124 = (10, 1) := by decide +kernel
set_option maxHeartbeats 4000000 in
set_option maxRecDepth 100000 in
theorem law_init {l : Launch} {E : QE} {b Ln : Nat} {xs : Nat → Int32} (hl9 : l.stackTraces = false) (hLn : Ln ≤ 2048) : GoT l E Y_L_law 0 0 0 [some (.ref b), none, none, none, none, none, none, none, none] [] (qT, fun _ _ => 0, fun _ _ => 0, fun _ _ => none, 0, 1) (TgW E b Ln xs) := by
  have hZ0 : Z0 (fun _ _ => 0) (fun _ _ => 0) (fun _ _ => none) 0 := fun a _ => ⟨fun _ => rfl, fun _ => rfl, fun _ => rfl⟩
  refine g_new (Y := Y_L_law) (c := 4) (pc' := 3) dL_law_0 rfl nw_L_8 (by decide +kernel) (fun _ => rfl) (fun _ => rfl) (fun _ => rfl) (Nat.le_of_ble_eq_true rfl) (Nat.le_of_ble_eq_true rfl) ?_
  refine g_dup (Y := Y_L_law) (pc' := 4) dL_law_3 rfl rfl ?_
  refine g_callI (Y := Y_L_law) (s_X4_init qT_X hZ0) (pc' := 7) dL_law_4 rfl cv_W_70 rfl rfl rfl rfl ?_
  rintro r w ⟨rfl, I1, R1, rfl, hX, hZ1⟩
  refine g_astore1 (Y := Y_L_law) (pc' := 8) dL_law_7 rfl (Nat.le_of_ble_eq_true rfl) rfl ?_
  refine g_new (Y := Y_L_law) (c := 5) (pc' := 11) dL_law_8 rfl nw_L_71 (by decide +kernel) (hZ1 110 (Nat.le_refl _)).1 (hZ1 110 (Nat.le_refl _)).2.1 (hZ1 110 (Nat.le_refl _)).2.2 (Nat.le_of_ble_eq_true rfl) (Nat.le_of_ble_eq_true rfl) ?_
  refine g_dup (Y := Y_L_law) (pc' := 12) dL_law_11 rfl rfl ?_
  refine g_callI (Y := Y_L_law) (s_X5_init qT_M hZ1) (pc' := 15) dL_law_12 rfl cv_W_73 rfl rfl rfl rfl ?_
  rintro r w ⟨rfl, I2, R2, rfl, hM⟩
  refine g_astore2 (Y := Y_L_law) (pc' := 16) dL_law_15 rfl (Nat.le_of_ble_eq_true rfl) rfl ?_
  refine g_iconst (Y := Y_L_law) (pc' := 17) dL_law_16 rfl ?_
  refine g_newL (Y := Y_L_law) (len := 1) (pc' := 19) dL_law_17 rfl (q_w 1221 (by decide +kernel) rfl) qT_O (fun _ => rfl) (by decide) (Nat.le_of_ble_eq_true rfl) (Nat.le_of_ble_eq_true rfl) ?_
  refine g_astore3 (Y := Y_L_law) (pc' := 20) dL_law_19 rfl (Nat.le_of_ble_eq_true rfl) rfl ?_
  refine g_iconst (Y := Y_L_law) (pc' := 21) dL_law_20 rfl ?_
  refine g_istore4 (Y := Y_L_law) (pc' := 23) dL_law_21 rfl (Nat.le_of_ble_eq_true rfl) rfl ?_
  refine g_zfree ?_
  exact law_loop hl9 hLn 512 0 _ _ (Int.le_refl _) (by decide) (by omega) (Nat.le_of_ble_eq_true rfl) (Nat.le_of_ble_eq_true rfl) (QR_start qT_X qT_M qT_O hX hZ1 hM)
end
section
variable {s : State} {A : Array Value}
theorem st_stat {n : String} {v0 v1 v2 : Int} {B : Nat → Prop} (harr : (Cond.arrayOf (.static RX4 n "[I") .int).before A s = true) (hlen : (Cond.eq (.length (.static RX4 n "[I")) (.int (Int32.ofNat 3))).before A s = true)
    (h0 : (Cond.eq (.elem (.static RX4 n "[I") (.int (Int32.ofNat 0))) (.int (iz v0))).before A s = true) (h1 : (Cond.eq (.elem (.static RX4 n "[I") (.int (Int32.ofNat 1))) (.int (iz v1))).before A s = true) (h2 : (Cond.eq (.elem (.static RX4 n "[I") (.int (Int32.ofNat 2))) (.int (iz v2))).before A s = true)
    (hl : (Cond.laysStatic RX4 n "[I").before A s = true) (hi : (Cond.initialized RX4).before A s = true) (hA : ∀ a : Nat, a < s.heap.size → ¬ B a) (f : Nat → Int) (f0 : f 0 = v0) (f1 : f 1 = v1) (f2 : f 2 = v2) :
    ∃ t : Nat, va_Z RX4 n "[I" (.ref t) B s s.heap ∧ va_T .int t 3 (fun j => .int (iz (f j))) B s s.heap := by
  obtain ⟨t, h3, h4⟩ := va_Tof (N := 3) (f := fun j => .int (iz (f j))) (by decide) harr (va_eqt hlen) (fun j hj => by
    match j, hj with
    | 0, _ => rw [f0]; exact va_eqt h0
    | 1, _ => rw [f1]; exact va_eqt h1
    | 2, _ => rw [f2]; exact va_eqt h2
    | j + 3, hj => omega) hA
  exact ⟨t, va_Zref hl hi h3 hA, h4⟩
theorem st_arr {ty : FieldType} (h : (Cond.arrayClass ty).before A s = true) : ∃ c : ClassId, ArrOfT s c ty ∧ s.vm.findClass ("[" ++ ty.toString) = some c := by
  obtain ⟨c, k, comp, h1, h2, h3⟩ := Cond.arrayClass_spec (show (Cond.arrayClass ty).holds A s none s [] = true from h)
  exact ⟨c, fun n z => ⟨(fun k h => by cases h), k, h2, comp, h3⟩, h1⟩
theorem st_over {C : String} (h : (Cond.arrayOver (.object C)).before A s = true) : ∃ c : ClassId, ArrOfT s c (.object C) ∧ va_RA s c (.object C) := by
  obtain ⟨comp, c, k, h1, h2, h3, h4, h5⟩ := Cond.arrayOver_spec (show (Cond.arrayOver (.object C)).holds A s none s [] = true from h)
  exact ⟨c, fun n z => ⟨(fun k h => by cases h), k, h3, comp, h4⟩, k, comp, h3, h4, h1, h5⟩
theorem st_N : ∀ w ∈ q_N, w ∈ lw_tbl ∧ w.onTables = true := by decide +kernel
theorem st_XS : ∀ q ∈ q_XS, Cond.stringRef RX4 q.1 q.2 ∈ lw_tbl := by decide +kernel
theorem st_w {w : Cond} (hts : ∀ w ∈ lw_tbl, w.before A s = true) (i : Nat) (h : tables_1[i]? = some w) : w.before A s = true := hts w (List.mem_append_right _ (List.mem_of_getElem? h))
theorem st_f {w : Cond} (hgv : (Jvm.Cond.and given_1 narrow_1).before A s = true) (i : Nat) (h : (flatC (Jvm.Cond.and given_1 narrow_1))[i]? = some w) : w.before A s = true := flat_of_before _ hgv w (List.mem_of_getElem? h)
set_option maxHeartbeats 4000000 in
set_option maxRecDepth 100000 in
theorem st_K (hts : ∀ w ∈ lw_tbl, w.before A s = true) (hgv : (Jvm.Cond.and given_1 narrow_1).before A s = true) : ∃ E : QE, E.1 = s.heap.size ∧ q_K E s s.heap := by
  obtain ⟨c0, i0, k0⟩ := u_known (C := RX0) (T := TX0) (N := 9) (n := 9) hts (fun w hw => (iX0 w hw).1) (st_w hts 138 (by decide +kernel))
  obtain ⟨c1, i1, k1⟩ := u_known (C := RX1) (T := TX1) (N := 9) (n := 9) hts (fun w hw => (iX1 w hw).1) (st_w hts 70 (by decide +kernel))
  obtain ⟨c2, i2, k2⟩ := u_known (C := RX2) (T := TX2) (N := 8) (n := 8) hts (fun w hw => (iX2 w hw).1) (st_w hts 63 (by decide +kernel))
  obtain ⟨c3, i3, k3⟩ := u_known (C := RX3) (T := TX3) (N := 8) (n := 8) hts (fun w hw => (iX3 w hw).1) (st_w hts 25 (by decide +kernel))
  obtain ⟨c4, i4, k4⟩ := u_known (C := RX4) (T := TX4) (N := 7) (n := 7) hts (fun w hw => (iX4 w hw).1) (st_w hts 17 (by decide +kernel))
  obtain ⟨c5, i5, k5⟩ := u_known (C := RX5) (T := TX5) (N := 21) (n := 21) hts (fun w hw => (iX5 w hw).1) (st_w hts 819 (by decide +kernel))
  obtain ⟨a6, b6, d6⟩ := st_arr (ty := .int) (st_w hts 61 (by decide +kernel))
  obtain ⟨a7, b7, d7⟩ := st_arr (ty := .boolean) (st_w hts 108 (by decide +kernel))
  obtain ⟨a8, b8, d8⟩ := st_over (C := RX1) (st_w hts 69 (by decide +kernel))
  obtain ⟨a9, b9, d9⟩ := st_over (C := RX3) (st_w hts 136 (by decide +kernel))
  obtain ⟨a10, b10, d10⟩ := st_arr (ty := .long) (st_w hts 1221 (by decide +kernel))
  have hA : ∀ a : Nat, a < s.heap.size → ¬ s.heap.size ≤ a := fun a h => Nat.not_le.mpr h
  have hi := st_w (w := .initialized RX4) hts 1 (by decide +kernel)
  obtain ⟨t0, z0, y0⟩ := st_stat (n := "LOWEST_SETTING") (v0 := 3) (v1 := 1) (v2 := 0) (B := fun a => s.heap.size ≤ a) (st_f hgv 19 (by decide +kernel)) (st_f hgv 20 (by decide +kernel)) (st_f hgv 21 (by decide +kernel)) (st_f hgv 22 (by decide +kernel)) (st_f hgv 23 (by decide +kernel)) (st_w hts 696 (by decide +kernel)) hi hA (q_sv 0) rfl rfl rfl
  obtain ⟨t1, z1, y1⟩ := st_stat (n := "HIGHEST_SETTING") (v0 := 6) (v1 := 8) (v2 := 6) (B := fun a => s.heap.size ≤ a) (st_f hgv 25 (by decide +kernel)) (st_f hgv 26 (by decide +kernel)) (st_f hgv 27 (by decide +kernel)) (st_f hgv 28 (by decide +kernel)) (st_f hgv 29 (by decide +kernel)) (st_w hts 698 (by decide +kernel)) hi hA (q_sv 1) rfl rfl rfl
  obtain ⟨t2, z2, y2⟩ := st_stat (n := "FIRST_SETTING") (v0 := 3) (v1 := 3) (v2 := 2) (B := fun a => s.heap.size ≤ a) (st_f hgv 5 (by decide +kernel)) (st_f hgv 6 (by decide +kernel)) (st_f hgv 7 (by decide +kernel)) (st_f hgv 8 (by decide +kernel)) (st_f hgv 9 (by decide +kernel)) (st_w hts 31 (by decide +kernel)) hi hA (q_sv 2) rfl rfl rfl
  obtain ⟨t3, z3, y3⟩ := st_stat (n := "CELLS_IN_DIGEST") (v0 := 51) (v1 := 250) (v2 := 509) (B := fun a => s.heap.size ≤ a) (st_f hgv 11 (by decide +kernel)) (st_f hgv 12 (by decide +kernel)) (st_f hgv 13 (by decide +kernel)) (st_f hgv 14 (by decide +kernel)) (st_f hgv 15 (by decide +kernel)) (st_w hts 392 (by decide +kernel)) hi hA (q_sv 3) rfl rfl rfl
  refine ⟨(s.heap.size, (fun k => if k = 0 then c0 else if k = 1 then c1 else if k = 2 then c2 else if k = 3 then c3 else if k = 4 then c4 else c5, fun k => if k = 0 then i0 else if k = 1 then i1 else if k = 2 then i2 else if k = 3 then i3 else if k = 4 then i4 else i5), fun k => if k = 6 then a6 else if k = 7 then a7 else if k = 8 then a8 else if k = 9 then a9 else a10, fun k => if k = 0 then t0 else if k = 1 then t1 else if k = 2 then t2 else t3), rfl, ⟨?_, ?_⟩, ?_, ?_, ?_, ?_⟩
  · intro k q hq
    match k, hq with
    | 0, hq => cases hq; exact k0
    | 1, hq => cases hq; exact k1
    | 2, hq => cases hq; exact k2
    | 3, hq => cases hq; exact k3
    | 4, hq => cases hq; exact k4
    | 5, hq => cases hq; exact k5
    | k + 6, hq => cases hq
  · intro k q hq
    match k, hq with
    | 0, hq => cases hq; exact ⟨b6, d6⟩
    | 1, hq => cases hq; exact ⟨b7, d7⟩
    | 2, hq => cases hq; exact ⟨b8, d8⟩
    | 3, hq => cases hq; exact ⟨b9, d9⟩
    | 4, hq => cases hq; exact ⟨b10, d10⟩
    | k + 5, hq => cases hq
  · exact fun w hw => va_Nw.of (st_N w hw).2 (hts w (st_N w hw).1)
  · intro i hi
    match i, hi with
    | 0, _ => exact ⟨z0, y0⟩
    | 1, _ => exact ⟨z1, y1⟩
    | 2, _ => exact ⟨z2, y2⟩
    | 3, _ => exact ⟨z3, y3⟩
    | i + 4, hi => omega
  · exact va_AO.of (st_w hts 69 (by decide +kernel))
  · exact va_AO.of (st_w hts 136 (by decide +kernel))
set_option maxHeartbeats 4000000 in
set_option maxRecDepth 100000 in
theorem st_KX {E : QE} (hE : E.1 = s.heap.size) (hts : ∀ w ∈ lw_tbl, w.before A s = true) (hgv : (Jvm.Cond.and given_1 narrow_1).before A s = true) : q_KX E s s.heap := by
  have hA : ∀ a : Nat, a < s.heap.size → ¬ q_A E a := fun a h q => by
    have q8 : E.1 ≤ a := q
    omega
  have hin := st_w (w := .initialized Bundle.tN) hts 7 (by decide +kernel)
  refine ⟨fun w hw h1 _ => va_tabs h1 rfl (hts w hw), ?_, ?_, vx_Zqof (st_w hts 547 (by decide +kernel)) hin (st_f hgv 16 (by decide +kernel)) hA, vx_Zqof (st_w hts 549 (by decide +kernel)) hin (st_f hgv 17 (by decide +kernel)) hA⟩
  · intro X hX Z hZ hne
    simp only [q_XN, List.mem_cons, List.not_mem_nil, or_false] at hX hZ
    rcases hX with rfl | rfl | rfl <;> rcases hZ with rfl | rfl | rfl
    · exact absurd rfl hne
    · exact va_Nc.of (st_f hgv 44 (by decide +kernel))
    · exact va_Nc.of (st_f hgv 52 (by decide +kernel))
    · exact va_Nc.of (st_f hgv 36 (by decide +kernel))
    · exact absurd rfl hne
    · exact va_Nc.of (st_f hgv 53 (by decide +kernel))
    · exact va_Nc.of (st_f hgv 37 (by decide +kernel))
    · exact va_Nc.of (st_f hgv 45 (by decide +kernel))
    · exact absurd rfl hne
  · intro q hq
    obtain ⟨cC, kC, hfc, -⟩ := Cond.instantiable_spec (st_w (w := .instantiable RX4 7) hts 17 (by decide +kernel))
    have h := hts _ (st_XS q hq)
    obtain ⟨k, cf, i, a, -, -, -, -, -, he⟩ := Cond.stringRef_spec hfc (show (Cond.stringRef RX4 q.1 q.2).holds A s none s [] = true from h)
    exact ⟨a, vk_R.of h he⟩
end
set_option maxHeartbeats 4000000 in
set_option maxRecDepth 100000 in
/-- from the entry, for every script of at most 2048 ints, the law comes to its end with true -/
theorem whole_start {p : Program} {e : Env} {s : State} {m : MethodId} {below : List Frame} {meth : Method} {c : Code} (l : Launch) (hflags : l.flags = flags0) {b L : Nat} {xs : Nat → Int32} (hL : L ≤ 2048) (C0 : lw_At p s m meth c b L xs) : W p l e room_1 s m #[Value.ref b] below meth c s.heap [] 0 0 (lw_Z below #[Value.ref b] s) (entryFrame m ([Value.ref b] : List Value).toArray 9) := by
  obtain ⟨hx, hb, hr, hml, hown, hts, hX, hbl, hlocks, hgv⟩ := id C0
  have hl9 : l.stackTraces = false := by unfold Launch.stackTraces; rw [hflags]; decide
  obtain ⟨E, hE, hK⟩ := st_K hts hgv
  have hKX := st_KX hE hts hgv
  have hl := lv_entry ([.ref b]) (n := 9) (Nat.le_of_ble_eq_true rfl)
  rw [lg_entry_eq]
  generalize (lg_sl ([.ref b]) ++ List.replicate (9 - (lg_sl ([.ref b])).length) Slot.unset).toArray = ls at hl ⊢
  have hl : lv_has ls 9 [(0, .ref b)] := hl
  have hC : q_At E Y_L_law p s m #[Value.ref b] meth c := ⟨hx, hb, hml, hr, hown, fun w hw => hts w (List.mem_filter.mp hw).1, hK, hlocks, Or.inl rfl, by rw [hE]; exact Nat.le_refl _⟩
  have hH : q_H E (qT, fun _ _ => 0, fun _ _ => 0, fun _ _ => none, 0, 1) s.heap := ⟨fun k q h => by simp [q_ws, q_L, va_pl] at h, ⟨fun i j p q h => by simp [q_ws, q_L, va_pl] at h, fun k q h => by simp [q_ws, q_L, va_pl] at h⟩, by rw [hE]; exact Nat.le_refl _, fun _ => by rw [hE]⟩
  have g := law_init (E := E) (b := b) (xs := xs) hl9 hL p e s m #[Value.ref b] below meth c s.heap [] ls hC hH va_S.rf hl
  intro T hT X
  obtain ⟨t, a1, b1⟩ := g T hT X
  exact ⟨t, a1, b1 ⟨rfl, hKX, hX, hbl, by rw [hE]; exact Nat.le_refl _⟩⟩
