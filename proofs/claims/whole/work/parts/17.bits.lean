/-! how many bits are set -/
section
variable {l : Launch} {E : QE} {Y : QY} {kc ks pc pc' : Nat} {L : List (Option Value)} {st : List Value} {w : QW} {K : Option Value → QW → Prop} {Tg : List Frame → Array Value → State → State → Prop}
theorem g_ldcw {i : Nat} {k : Int} (hd : decode Y.2.1 pc = .ok (.ldc_w i, 3)) (hp : pc + 3 = pc') (hw : Cond.constant Y.1.cls i (iz k) ∈ q_T) (h : GoT l E Y kc ks pc' L (.int (iz k) :: st) w Tg) : GoT l E Y kc ks pc L (st) w Tg := by
  intro p e s m args below meth c H locs ls C hH hS hl
  obtain ⟨hx, hb, hml, hr, ho, hts, hK, hlk, hnm, hbs⟩ := id C
  subst hp
  refine lv_ldcw hx hb ho (hts _ hw) hd ?_
  exact h p e s m args below meth c H locs ls C hH hS hl
end
def bu (a s : Int) : Int := (((iz a).toUInt32 >>> ((iz s).toUInt32 &&& Int32.toUInt32 31)).toInt32).toInt
def ba (a b : Int) : Int := (iz a &&& iz b).toInt
def bc1 (m : Int) : Int := m - ba (bu m 1) 1431655765
def bc2 (x : Int) : Int := ba x 858993459 + ba (bu x 2) 858993459
def bc3 (x : Int) : Int := ba (x + bu x 4) 252645135
def bc4 (x : Int) : Int := x + bu x 8
def bc5 (x : Int) : Int := x + bu x 16
def bcf (m : Int) : Int := ba (bc5 (bc4 (bc3 (bc2 (bc1 m))))) 63
/-- how many of the bits 0 to 11 are set -/
def pcn (m : Int) : Int := (((List.range 12).filter (fun j => m.toNat.testBit j)).length : Nat)
theorem bcf_ok {m : Int} (h : 0 ≤ m ∧ m < 4096) : iz (bcf m) = iz (pcn m) := by
  have key : ∀ a : Fin 64, ∀ b : Fin 64, iz (bcf ((a.val * 64 + b.val : Nat) : Int)) = iz (pcn ((a.val * 64 + b.val : Nat) : Int)) := by decide +kernel
  have h1 := key ⟨m.toNat / 64, by omega⟩ ⟨m.toNat % 64, by omega⟩
  dsimp only at h1
  rw [show ((m.toNat / 64 * 64 + m.toNat % 64 : Nat) : Int) = m by omega] at h1
  exact h1
theorem bu_z (a s : Int) : ((iz a).toUInt32 >>> ((iz s).toUInt32 &&& Int32.toUInt32 31)).toInt32 = iz (bu a s) := (Int32.ofInt_toInt _).symm
theorem ba_z (a b : Int) : iz a &&& iz b = iz (ba a b) := (Int32.ofInt_toInt _).symm
set_option maxHeartbeats 2000000 in
set_option maxRecDepth 100000 in
theorem s_J6_bitCount_0f7a4 {l : Launch} {E : QE} {w : QW} (m : Int) (hm : 0 ≤ m ∧ m < 4096) : SpV l E Y_J6_bitCount_0f7a4 [.int (iz m)] w (.int (iz (pcn m))) w := by
  rw [← bcf_ok hm]
  refine Sp.of [some (.int (iz m))] (by decide +kernel) (Nat.le_of_ble_eq_true rfl) (fun _ h => h) ?_
  refine g_iload0 (Y := Y_J6_bitCount_0f7a4) (pc' := 1) dJ6_bitCount_0f7a4_0 rfl ?_
  refine g_iload0 (Y := Y_J6_bitCount_0f7a4) (pc' := 2) dJ6_bitCount_0f7a4_1 rfl ?_
  refine g_iconst (Y := Y_J6_bitCount_0f7a4) (pc' := 3) dJ6_bitCount_0f7a4_2 rfl ?_
  refine g_iushr (Y := Y_J6_bitCount_0f7a4) (pc' := 4) dJ6_bitCount_0f7a4_3 rfl (bu_z _ _) ?_
  refine g_ldcw (Y := Y_J6_bitCount_0f7a4) (k := 1431655765) (pc' := 7) dJ6_bitCount_0f7a4_4 rfl (q_w 360 (by decide +kernel) rfl) ?_
  refine g_iand (Y := Y_J6_bitCount_0f7a4) (pc' := 8) dJ6_bitCount_0f7a4_7 rfl (ba_z _ _) ?_
  refine g_isub (Y := Y_J6_bitCount_0f7a4) (pc' := 9) dJ6_bitCount_0f7a4_8 rfl ?_
  refine g_istore0 (Y := Y_J6_bitCount_0f7a4) (pc' := 10) dJ6_bitCount_0f7a4_9 rfl (Nat.le_of_ble_eq_true rfl) ?_
  refine g_iload0 (Y := Y_J6_bitCount_0f7a4) (pc' := 11) dJ6_bitCount_0f7a4_10 rfl ?_
  refine g_ldcw (Y := Y_J6_bitCount_0f7a4) (k := 858993459) (pc' := 14) dJ6_bitCount_0f7a4_11 rfl (q_w 361 (by decide +kernel) rfl) ?_
  refine g_iand (Y := Y_J6_bitCount_0f7a4) (pc' := 15) dJ6_bitCount_0f7a4_14 rfl (ba_z _ _) ?_
  refine g_iload0 (Y := Y_J6_bitCount_0f7a4) (pc' := 16) dJ6_bitCount_0f7a4_15 rfl ?_
  refine g_iconst (Y := Y_J6_bitCount_0f7a4) (pc' := 17) dJ6_bitCount_0f7a4_16 rfl ?_
  refine g_iushr (Y := Y_J6_bitCount_0f7a4) (pc' := 18) dJ6_bitCount_0f7a4_17 rfl (bu_z _ _) ?_
  refine g_ldcw (Y := Y_J6_bitCount_0f7a4) (k := 858993459) (pc' := 21) dJ6_bitCount_0f7a4_18 rfl (q_w 361 (by decide +kernel) rfl) ?_
  refine g_iand (Y := Y_J6_bitCount_0f7a4) (pc' := 22) dJ6_bitCount_0f7a4_21 rfl (ba_z _ _) ?_
  refine g_iadd (Y := Y_J6_bitCount_0f7a4) (pc' := 23) dJ6_bitCount_0f7a4_22 rfl ?_
  refine g_istore0 (Y := Y_J6_bitCount_0f7a4) (pc' := 24) dJ6_bitCount_0f7a4_23 rfl (Nat.le_of_ble_eq_true rfl) ?_
  refine g_iload0 (Y := Y_J6_bitCount_0f7a4) (pc' := 25) dJ6_bitCount_0f7a4_24 rfl ?_
  refine g_iload0 (Y := Y_J6_bitCount_0f7a4) (pc' := 26) dJ6_bitCount_0f7a4_25 rfl ?_
  refine g_iconst (Y := Y_J6_bitCount_0f7a4) (pc' := 27) dJ6_bitCount_0f7a4_26 rfl ?_
  refine g_iushr (Y := Y_J6_bitCount_0f7a4) (pc' := 28) dJ6_bitCount_0f7a4_27 rfl (bu_z _ _) ?_
  refine g_iadd (Y := Y_J6_bitCount_0f7a4) (pc' := 29) dJ6_bitCount_0f7a4_28 rfl ?_
  refine g_ldcw (Y := Y_J6_bitCount_0f7a4) (k := 252645135) (pc' := 32) dJ6_bitCount_0f7a4_29 rfl (q_w 362 (by decide +kernel) rfl) ?_
  refine g_iand (Y := Y_J6_bitCount_0f7a4) (pc' := 33) dJ6_bitCount_0f7a4_32 rfl (ba_z _ _) ?_
  refine g_istore0 (Y := Y_J6_bitCount_0f7a4) (pc' := 34) dJ6_bitCount_0f7a4_33 rfl (Nat.le_of_ble_eq_true rfl) ?_
  refine g_iload0 (Y := Y_J6_bitCount_0f7a4) (pc' := 35) dJ6_bitCount_0f7a4_34 rfl ?_
  refine g_iload0 (Y := Y_J6_bitCount_0f7a4) (pc' := 36) dJ6_bitCount_0f7a4_35 rfl ?_
  refine g_bipush (Y := Y_J6_bitCount_0f7a4) (pc' := 38) dJ6_bitCount_0f7a4_36 rfl (by decide) ?_
  refine g_iushr (Y := Y_J6_bitCount_0f7a4) (pc' := 39) dJ6_bitCount_0f7a4_38 rfl (bu_z _ _) ?_
  refine g_iadd (Y := Y_J6_bitCount_0f7a4) (pc' := 40) dJ6_bitCount_0f7a4_39 rfl ?_
  refine g_istore0 (Y := Y_J6_bitCount_0f7a4) (pc' := 41) dJ6_bitCount_0f7a4_40 rfl (Nat.le_of_ble_eq_true rfl) ?_
  refine g_iload0 (Y := Y_J6_bitCount_0f7a4) (pc' := 42) dJ6_bitCount_0f7a4_41 rfl ?_
  refine g_iload0 (Y := Y_J6_bitCount_0f7a4) (pc' := 43) dJ6_bitCount_0f7a4_42 rfl ?_
  refine g_bipush (Y := Y_J6_bitCount_0f7a4) (pc' := 45) dJ6_bitCount_0f7a4_43 rfl (by decide) ?_
  refine g_iushr (Y := Y_J6_bitCount_0f7a4) (pc' := 46) dJ6_bitCount_0f7a4_45 rfl (bu_z _ _) ?_
  refine g_iadd (Y := Y_J6_bitCount_0f7a4) (pc' := 47) dJ6_bitCount_0f7a4_46 rfl ?_
  refine g_istore0 (Y := Y_J6_bitCount_0f7a4) (pc' := 48) dJ6_bitCount_0f7a4_47 rfl (Nat.le_of_ble_eq_true rfl) ?_
  refine g_iload0 (Y := Y_J6_bitCount_0f7a4) (pc' := 49) dJ6_bitCount_0f7a4_48 rfl ?_
  refine g_bipush (Y := Y_J6_bitCount_0f7a4) (pc' := 51) dJ6_bitCount_0f7a4_49 rfl (by decide) ?_
  refine g_iand (Y := Y_J6_bitCount_0f7a4) (pc' := 52) dJ6_bitCount_0f7a4_51 rfl (ba_z _ _) ?_
  exact g_iret (Y := Y_J6_bitCount_0f7a4) dJ6_bitCount_0f7a4_52 rfl (Nat.zero_le _) (Nat.zero_le _) (⟨rfl, rfl⟩)
