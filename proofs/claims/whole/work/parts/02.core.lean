/-! CORE. The Java world as numbered cells: T k = (kind, length) of cell k (kinds 0..5 objects as in vwCl, 6 int[], 7 boolean[], 8 Line[], 9 State[], 10 long[]); I k j its ints (fields, elements), J its longs, R its references (by cell number); n cells in all; z = 0, or the heap ends behind them, at n + 1 = z (while they are made).
GoT: from this place of the method Y the machine comes to the target Tg; Go: it returns with K. Sp: the method as a whole. -/
def iz (z : Int) : Int32 := Int32.ofInt z
abbrev QE : Type := Nat × va_G × (Nat → ClassId) × (Nat → Nat)
abbrev QW : Type := (Nat → Nat × Nat) × (Nat → Nat → Int) × (Nat → Nat → Int64) × (Nat → Nat → Option Nat) × Nat × Nat
def q_ft : Nat → Nat → Nat
  | 0, 0 => 2 | 0, 1 => 2 | 0, 2 => 2
  | 1, 8 => 1
  | 2, 0 => 2 | 2, 1 => 2 | 2, 2 => 2 | 2, 3 => 2 | 2, 4 => 2
  | 3, 0 => 2 | 3, 1 => 2 | 3, 2 => 2 | 3, 3 => 2 | 3, 4 => 2
  | 4, 0 => 2 | 4, 1 => 2 | 4, 2 => 2 | 4, 4 => 2 | 4, 5 => 2 | 4, 6 => 2
  | 5, 1 => 2 | 5, 2 => 2 | 5, 4 => 2 | 5, 5 => 2 | 5, 8 => 2 | 5, 9 => 2 | 5, 10 => 2 | 5, 11 => 2 | 5, 12 => 2 | 5, 13 => 2 | 5, 14 => 2 | 5, 15 => 2 | 5, 16 => 2
  | 5, 20 => 1
  | _, _ => 0
def q_ns : Nat → Nat
  | 0 => 9 | 1 => 9 | 2 => 8 | 3 => 8 | 4 => 7 | 5 => 21 | _ => 0
def q_f (E : QE) (w : QW) (k j : Nat) (t : Nat) : Value := match t with
  | 0 => .int (iz (w.2.1 k j))
  | 1 => .long (w.2.2.1 k j)
  | _ => va_rf ((w.2.2.2.1 k j).map (E.1 + ·))
def q_fs (E : QE) (w : QW) (k c : Nat) : List Value := (List.range (q_ns c)).map (fun j => q_f E w k j (q_ft c j))
def q_c (E : QE) (w : QW) (k : Nat) : va_E :=
  if (w.1 k).1 < 6 then .inr ((w.1 k).1, q_fs E w k (w.1 k).1)
  else if (w.1 k).1 < 8 then .inl (E.2.2.1 (w.1 k).1, (w.1 k).2, .inl (fun j => iz (w.2.1 k j)))
  else if (w.1 k).1 < 10 then .inl (E.2.2.1 (w.1 k).1, (w.1 k).2, .inr (.inr (.inr (.inr (fun j => (w.2.2.2.1 k j).map (E.1 + ·))))))
  else .inl (E.2.2.1 (w.1 k).1, (w.1 k).2, .inr (.inl (w.2.2.1 k)))
def q_F (E : QE) (w : QW) (a : Nat) : va_E := q_c E w (a - E.1)
def q_L (E : QE) (n : Nat) : List Nat := (List.range n).map (E.1 + ·)
def q_ws (E : QE) (w : QW) : va_W := [] ++ va_pl (q_L E w.2.2.2.2.1) (q_F E w)
def q_A (E : QE) : Nat → Prop := fun q => E.1 ≤ q
def q_H (E : QE) (w : QW) (H : Heap) : Prop := va_P E.2.1 vwCl (q_ws E w) H ∧ va_D (q_A E) (q_ws E w) ∧ E.1 ≤ H.size ∧ (w.2.2.2.2.2 ≠ 0 → H.size + 1 = E.1 + w.2.2.2.2.2)
def q_sn : Nat → String
  | 0 => "LOWEST_SETTING" | 1 => "HIGHEST_SETTING" | 2 => "FIRST_SETTING" | _ => "CELLS_IN_DIGEST"
def q_sv : Nat → Nat → Int
  | 0, 0 => 3 | 0, 1 => 1 | 0, _ => 0
  | 1, 0 => 6 | 1, 1 => 8 | 1, _ => 6
  | 2, 0 => 3 | 2, 1 => 3 | 2, _ => 2
  | _, 0 => 51 | _, 1 => 250 | _, _ => 509
def q_tys (E : QE) : List (ClassId × FieldType) := [(E.2.2.1 6, .int), (E.2.2.1 7, .boolean), (E.2.2.1 8, .object RX1), (E.2.2.1 9, .object RX3), (E.2.2.1 10, .long)]
def q_N : List Cond := [.fieldLinkNest RX3 37 "ScratchMap" "FIRST_SETTING" "[I" "ScratchMap", .methodLinkNest RX2 41 yX1_init "ScratchMap", .methodLinkNest RX4 33 yX0_init "ScratchMap", .methodLinkNest RX0 61 yX4_cellNumber "ScratchMap", .methodLinkNest RX2 65 yX4_isCell "ScratchMap", .methodLinkNest RX3 46 yX4_isBlock "ScratchMap", .methodLinkNest RX3 50 yX4_isCell "ScratchMap", .methodLinkNest RX3 53 yX4_isSetting "ScratchMap", .methodLinkNest RX1 65 yX4_inDrive "ScratchMap"]
def q_K (E : QE) (U : State) (H : Heap) : Prop := va_K E.2.1 vwCl (q_tys E) U ∧ (∀ w ∈ q_N, va_Nw w U) ∧ (∀ i, i < 4 → va_Z RX4 (q_sn i) "[I" (.ref (E.2.2.2 i)) (q_A E) U H ∧ va_T .int (E.2.2.2 i) 3 (fun j => .int (iz (q_sv i j))) (q_A E) U H) ∧ va_AO RX1 U ∧ va_AO RX3 U
abbrev QY : Type := MethodName × ByteArray × Nat × Option FieldType × Room
def q_T : List Cond := lw_tbl.filter goodWord
def q_wsY (Y : QY) : List Cond := .code Y.1 Y.2.1 Y.2.2.1 Y.2.2.2.1 :: q_T
def q_Pc (E : QE) (w : QW) (vs : List Value) : Array Value → State → Prop := va_Pc vs (fun U => q_H E w U.heap ∧ q_K E U U.heap)
def q_Qc (E : QE) (K : Option Value → QW → Prop) : Array Value → State → Outcome → State → Prop := fun _ st o t => (∃ (r : Option Value) (w : QW), o = .returned r ∧ K r w ∧ q_H E w t.heap) ∧ va_F (q_A E) st t
def Sp (l : Launch) (E : QE) (Y : QY) (vs : List Value) (w : QW) (K : Option Value → QW → Prop) : Prop := Met l Y.1 (q_wsY Y) Y.2.2.2.2 (q_Pc E w vs) (q_Qc E K) Y.2.2.2.2.cells Y.2.2.2.2.slots (q_A E)
def q_At (E : QE) (Y : QY) (p : Program) (s : State) (m : MethodId) (args : Array Value) (meth : Method) (c : Code) : Prop :=
  p.tables.exec = Jvm.exec ∧ c.code = Y.2.1 ∧ c.maxLocals = Y.2.2.1 ∧ meth.sig.returnType = Y.2.2.2.1 ∧ s.vm.findClass Y.1.cls = some m.cls ∧ (∀ w ∈ q_T, w.before args s = true) ∧ q_K E s s.heap ∧ meth.locks = false ∧ (Y.1.name = "law" ∨ s.methodNamed? Y.1 = some m ∧ meth.name = Y.1.name) ∧ E.1 ≤ s.heap.size
def q_l : Nat → List (Option Value) → List (Nat × Value)
  | _, [] => []
  | i, none :: r => q_l (i + 1) r
  | i, some v :: r => (i, v) :: q_l (i + 1) r
def GoT (l : Launch) (E : QE) (Y : QY) (kc ks pc : Nat) (L : List (Option Value)) (st : List Value) (w : QW) (Tg : List Frame → Array Value → State → State → Prop) : Prop :=
  ∀ (p : Program) (e : Env) (s : State) (m : MethodId) (args : Array Value) (below : List Frame) (meth : Method) (c : Code) (H : Heap) (locs : List Loc) (ls : Array Slot),
    q_At E Y p s m args meth c → q_H E w H → va_S (q_A E) s.heap H locs → lv_has ls Y.2.2.1 (q_l 0 L) →
    W p l e Y.2.2.2.2 s m args below meth c H locs kc ks (Tg below args s) (F0 m pc ls st)
abbrev Go (l : Launch) (E : QE) (Y : QY) (kc ks pc : Nat) (L : List (Option Value)) (st : List Value) (w : QW) (K : Option Value → QW → Prop) : Prop :=
  GoT l E Y kc ks pc L st w (fun below args s => MQ below (q_Qc E K) args s Y.2.2.2.2.cells Y.2.2.2.2.slots (q_A E))
theorem q_T_in {w : Cond} (h : w ∈ lw_tbl) (hg : goodWord w = true) : w ∈ q_T := List.mem_filter.mpr ⟨h, hg⟩
theorem q_w {w : Cond} (i : Nat) (h : tables_1[i]? = some w) (hg : goodWord w = true) : w ∈ q_T := q_T_in (List.mem_append_right _ (List.mem_of_getElem? h)) hg
theorem q_ws_s {w : Cond} (i : Nat) (h : (k2_sels lw_privs)[i]? = some w) (hg : goodWord w = true) : w ∈ q_T := q_T_in (List.mem_append_left _ (List.mem_of_getElem? h)) hg
theorem q_good {Y : QY} (hc : Cond.code Y.1 Y.2.1 Y.2.2.1 Y.2.2.2.1 ∈ q_T) : GoodIn q_T (q_wsY Y) := by
  intro w hw
  rcases List.mem_cons.mp hw with rfl | hw
  · exact ⟨hc, good_of_word (List.mem_filter.mp hc).2⟩
  · exact ⟨hw, good_of_word (List.mem_filter.mp hw).2⟩
theorem q_K.to {E : QE} {s U : State} {H H1 : Heap} (h : q_K E s H) (hW : s.WarmedH U.vm) (hk : ∀ a : Nat, a < H.size → ¬ q_A E a → H1[a]? = H[a]?) : q_K E U H1 := by
  obtain ⟨h1, h2, h3, h4, h5⟩ := h
  have ha := hW.alike
  refine ⟨va_K.moved ha h1, fun w hw => ?_, fun i hi => ⟨((h3 i hi).1.moved ha).kept hk, ((h3 i hi).2.moved ha).kept hk⟩, h4.moved ha, h5.moved ha⟩
  have h := h2 w hw
  simp only [q_N, List.mem_cons, List.not_mem_nil, or_false] at hw
  rcases hw with rfl | rfl | rfl | rfl | rfl | rfl | rfl | rfl | rfl
  · exact va_Nw.warmF hW h
  all_goals exact va_Nw.warmM hW h
