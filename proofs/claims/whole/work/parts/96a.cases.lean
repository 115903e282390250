section
/-! the law's cases -/
def NXT (l : Launch) (E : QE) (T : Nat → Nat × Nat) (b Ln : Nat) (xs : Nat → Int32) (i : Int) (kc ks : Nat) : Prop := ∀ (I : Nat → Nat → Int) (J : Nat → Nat → Int64) (R : Nat → Nat → Option Nat) (kc' ks' : Nat) (x5 x6 x7 x8 : Option Value), QR T I R → kc' ≤ kc → ks' ≤ ks → GoT l E Y_L_law kc' ks' 1323 [some (.ref b), some (.ref (E.1 + 0)), some (.ref (E.1 + 110)), some (.ref (E.1 + 124)), some (.int (iz i)), x5, x6, x7, x8] [] (T, I, J, R, 125, 0) (TgW E b Ln xs)
theorem i32rg (x : Int32) : -2147483648 ≤ x.toInt ∧ x.toInt < 2147483648 := ⟨by have := x.le_toInt; omega, by have := x.toInt_lt; omega⟩
set_option maxHeartbeats 2000000 in
set_option maxRecDepth 100000 in
theorem lt_write {l : Launch} {E : QE} {T : Nat → Nat × Nat} {b Ln : Nat} {xs : Nat → Int32} {i : Int} {kc ks : Nat} (hi : 0 ≤ i ∧ i + 4 ≤ (Ln : Int)) (hLn : Ln ≤ 2048) (hkc : kc ≤ 601024) (hks : ks ≤ 7293034) (hn : NXT l E T b Ln xs i kc ks) {c : Int} (hc : 0 ≤ c ∧ c ≤ 3) {I : Nat → Nat → Int} {J : Nat → Nat → Int64} {R : Nat → Nat → Option Nat} {x5 x6 x7 x8 : Option Value} (hr : RLx T c I (fun I9 => y_write I9 (xs (i + 1).toNat).toInt (xs (i + 2).toNat).toInt) J R) : GoT l E Y_L_law kc ks 161 [some (.ref b), some (.ref (E.1 + 0)), some (.ref (E.1 + 110)), some (.ref (E.1 + 124)), some (.int (iz i)), x5, x6, x7, x8] [.int (iz c)] (T, I, J, R, 125, 0) (TgW E b Ln xs) := by
  have hmv : MV I := hr.1
  have hmb : MdB T R 125 := hr.2.1
  have h110 : T 110 = (5, 0) := hmb.1
  have h124 : T 124 = (10, 1) := hr.2.2.2.2.2.2.1
  have e0 : (y_write I (xs (i + 1).toNat).toInt (xs (i + 2).toNat).toInt).2 110 0 = c := hr.2.2.1
  have e1 : c = 0 → J 124 0 = (iz (y_write I (xs (i + 1).toNat).toInt (xs (i + 2).toNat).toInt).1).toInt64 := hr.2.2.2.1
  have hq : QR T (y_write I (xs (i + 1).toNat).toInt (xs (i + 2).toNat).toInt).2 R := hr.2.2.2.2
  clear hr
  refine g_istore5 (Y := Y_L_law) (pc' := 163) dL_law_161 rfl (Nat.le_of_ble_eq_true rfl) rfl ?_
  refine g_aload2 (Y := Y_L_law) (pc' := 164) dL_law_163 rfl ?_
  refine g_aload0 (Y := Y_L_law) (pc' := 165) dL_law_164 rfl ?_
  refine g_iload4 (Y := Y_L_law) (pc' := 167) dL_law_165 rfl ?_
  refine g_iconst (Y := Y_L_law) (pc' := 168) dL_law_167 rfl ?_
  refine g_iadd (Y := Y_L_law) (pc' := 169) dL_law_168 rfl ?_
  refine g_xld (pc' := 170) dL_law_169 rfl ⟨by omega, by omega⟩ hLn ?_
  refine g_aload0 (Y := Y_L_law) (pc' := 171) dL_law_170 rfl ?_
  refine g_iload4 (Y := Y_L_law) (pc' := 173) dL_law_171 rfl ?_
  refine g_iconst (Y := Y_L_law) (pc' := 174) dL_law_173 rfl ?_
  refine g_iadd (Y := Y_L_law) (pc' := 175) dL_law_174 rfl ?_
  refine g_xld (pc' := 176) dL_law_175 rfl ⟨by omega, by omega⟩ hLn ?_
  refine g_callVv (Y := Y_L_law) (c := 5) (k := 110) (s_X5_write hmb hmv (xs (i + 1).toNat).toInt (i32rg _) (xs (i + 2).toNat).toInt (i32rg _)) (pc' := 179) dL_law_176 rfl cv_W_79 (q_fit_mk (Nat.le_of_ble_eq_true rfl) (Nat.le_of_ble_eq_true rfl) hkc hks) h110 (by show (110 : Nat) < 125; decide) ⟨by decide, _, rfl, rfl⟩ rfl rfl rfl rfl ?_
  generalize y_write I (xs (i + 1).toNat).toInt (xs (i + 2).toNat).toInt = r at e0 e1 hq ⊢
  refine g_istore6 (Y := Y_L_law) (pc' := 181) dL_law_179 rfl (Nat.le_of_ble_eq_true rfl) rfl ?_
  refine g_aload2 (Y := Y_L_law) (pc' := 182) dL_law_181 rfl ?_
  refine g_callVv (Y := Y_L_law) (c := 5) (k := 110) (s_X5_thrown hmb) (pc' := 185) dL_law_182 rfl cv_W_80 (q_fit_mk (Nat.le_of_ble_eq_true rfl) (Nat.le_of_ble_eq_true rfl) hkc hks) h110 (by show (110 : Nat) < 125; decide) ⟨by decide, _, rfl, rfl⟩ rfl rfl rfl rfl ?_
  refine g_iload5 (Y := Y_L_law) (pc' := 187) dL_law_185 rfl ?_
  refine g_icmp_eq (Y := Y_L_law) (t := 192) (pc' := 190) dL_law_187 (by decide) rfl ⟨by omega, by omega⟩ ⟨by omega, by omega⟩ (fun h9 => ?_) (fun h9 => absurd e0 h9)
  refine g_iload5 (Y := Y_L_law) (pc' := 194) dL_law_192 rfl ?_
  refine g_if_ne (Y := Y_L_law) (t := 209) (pc' := 197) dL_law_194 (by decide) rfl ⟨by omega, by omega⟩ (fun h8 => ?_) (fun h8 => ?_)
  · refine g_goto (Y := Y_L_law) (t := 1323) dL_law_209 (by decide) ?_
    exact hn _ _ _ _ _ _ _ _ _ hq (Nat.le_refl _) (Nat.le_refl _)
  · refine g_aload3 (Y := Y_L_law) (pc' := 198) dL_law_197 rfl ?_
    refine g_iconst (Y := Y_L_law) (pc' := 199) dL_law_198 rfl ?_
    refine g_lald (Y := Y_L_law) (pc' := 200) dL_law_199 rfl h124 (by decide) (by decide) ⟨by decide, by decide⟩ ?_
    refine g_iload6 (Y := Y_L_law) (pc' := 202) dL_law_200 rfl ?_
    refine g_i2l (Y := Y_L_law) (pc' := 203) dL_law_202 rfl ?_
    refine g_lcmp (Y := Y_L_law) (v := 0) (pc' := 204) dL_law_203 rfl (by rw [show J 124 (0 : Int).toNat = _ from e1 h8]; exact lcmp_eq _) ?_
    refine g_if_eq (Y := Y_L_law) (t := 209) (pc' := 207) dL_law_204 (by decide) rfl ⟨by decide, by decide⟩ (fun _ => ?_) (fun h7 => absurd rfl h7)
    refine g_goto (Y := Y_L_law) (t := 1323) dL_law_209 (by decide) ?_
    exact hn _ _ _ _ _ _ _ _ _ hq (Nat.le_refl _) (Nat.le_refl _)
set_option maxHeartbeats 2000000 in
set_option maxRecDepth 100000 in
theorem lc_0 {l : Launch} {E : QE} {T : Nat → Nat × Nat} {b Ln : Nat} {xs : Nat → Int32} {i : Int} {kc ks : Nat} (hl9 : l.stackTraces = false) (hi : 0 ≤ i ∧ i + 4 ≤ (Ln : Int)) (hLn : Ln ≤ 2048) (hkc : kc + 1 ≤ 601024) (hks : ks + 6 ≤ 7293034) (hn : NXT l E T b Ln xs i (kc + 1) (ks + 6)) {I : Nat → Nat → Int} {J : Nat → Nat → Int64} {R : Nat → Nat → Option Nat} {x5 x6 x7 x8 : Option Value} (hq : QR T I R) : GoT l E Y_L_law kc ks 144 [some (.ref b), some (.ref (E.1 + 0)), some (.ref (E.1 + 110)), some (.ref (E.1 + 124)), some (.int (iz i)), x5, x6, x7, x8] [] (T, I, J, R, 125, 0) (TgW E b Ln xs) := by
  refine g_aload1 (Y := Y_L_law) (pc' := 145) dL_law_144 rfl ?_
  refine g_aload0 (Y := Y_L_law) (pc' := 146) dL_law_145 rfl ?_
  refine g_iload4 (Y := Y_L_law) (pc' := 148) dL_law_146 rfl ?_
  refine g_iconst (Y := Y_L_law) (pc' := 149) dL_law_148 rfl ?_
  refine g_iadd (Y := Y_L_law) (pc' := 150) dL_law_149 rfl ?_
  refine g_xld (pc' := 151) dL_law_150 rfl ⟨by omega, by omega⟩ hLn ?_
  refine g_aload0 (Y := Y_L_law) (pc' := 152) dL_law_151 rfl ?_
  refine g_iload4 (Y := Y_L_law) (pc' := 154) dL_law_152 rfl ?_
  refine g_iconst (Y := Y_L_law) (pc' := 155) dL_law_154 rfl ?_
  refine g_iadd (Y := Y_L_law) (pc' := 156) dL_law_155 rfl ?_
  refine g_xld (pc' := 157) dL_law_156 rfl ⟨by omega, by omega⟩ hLn ?_
  refine g_aload3 (Y := Y_L_law) (pc' := 158) dL_law_157 rfl ?_
  refine g_callL (s_L_write hl9 hq.1 hq.2.2.2.1 hq.2.2.1 (xs (i + 1).toNat).toInt (i32rg _) (xs (i + 2).toNat).toInt (i32rg _)) (pc' := 161) dL_law_158 rfl cv_W_74 (q_fit_mk (Nat.le_of_ble_eq_true rfl) (Nat.le_of_ble_eq_true rfl) hkc hks) rfl rfl rfl (fun r w1 hr => ?_)
  have hm := ml_write (J := J) hq (xs (i + 1).toNat).toInt (i32rg _) (xs (i + 2).toNat).toInt (i32rg _)
  rcases hr with ⟨hx, rfl, rfl⟩ | ⟨hx, rfl, rfl⟩ | ⟨hx, rfl, rfl⟩ | ⟨hx, rfl, rfl⟩
  · exact lt_write (kc := kc + 1) (ks := ks + 6) hi hLn hkc hks hn (by decide) (hm.1 hx)
  · exact lt_write (kc := kc + 1) (ks := ks + 6) hi hLn hkc hks hn (by decide) (hm.2.1 hx)
  · exact lt_write (kc := kc + 1) (ks := ks + 6) hi hLn hkc hks hn (by decide) (hm.2.2.1 hx)
  · exact lt_write (kc := kc + 1) (ks := ks + 6) hi hLn hkc hks hn (by decide) (hm.2.2.2 hx)
end
