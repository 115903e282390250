section
/-! the law's cases -/
set_option maxHeartbeats 2000000 in
set_option maxRecDepth 100000 in
theorem lt_fill {l : Launch} {E : QE} {T : Nat → Nat × Nat} {b Ln : Nat} {xs : Nat → Int32} {i : Int} {kc ks : Nat} (hi : 0 ≤ i ∧ i + 4 ≤ (Ln : Int)) (hLn : Ln ≤ 2048) (hkc : kc ≤ 601024) (hks : ks ≤ 7293034) (hn : NXT l E T b Ln xs i kc ks) {c : Int} (hc : 0 ≤ c ∧ c ≤ 3) {I : Nat → Nat → Int} {J : Nat → Nat → Int64} {R : Nat → Nat → Option Nat} {x5 x6 x7 x8 : Option Value} (hr : RLx T c I (fun I9 => y_fill I9 (xs (i + 1).toNat).toInt (xs (i + 2).toNat).toInt (xs (i + 3).toNat).toInt) J R) : GoT l E Y_L_law kc ks 235 [some (.ref b), some (.ref (E.1 + 0)), some (.ref (E.1 + 110)), some (.ref (E.1 + 124)), some (.int (iz i)), x5, x6, x7, x8] [.int (iz c)] (T, I, J, R, 125, 0) (TgW E b Ln xs) := by
  have hmv : MV I := hr.1
  have hmb : MdB T R 125 := hr.2.1
  have h110 : T 110 = (5, 0) := hmb.1
  have h124 : T 124 = (10, 1) := hr.2.2.2.2.2.2.1
  have e0 : (y_fill I (xs (i + 1).toNat).toInt (xs (i + 2).toNat).toInt (xs (i + 3).toNat).toInt).2 110 0 = c := hr.2.2.1
  have e1 : c = 0 → J 124 0 = (iz (y_fill I (xs (i + 1).toNat).toInt (xs (i + 2).toNat).toInt (xs (i + 3).toNat).toInt).1).toInt64 := hr.2.2.2.1
  have hq : QR T (y_fill I (xs (i + 1).toNat).toInt (xs (i + 2).toNat).toInt (xs (i + 3).toNat).toInt).2 R := hr.2.2.2.2
  clear hr
  refine g_istore5 (Y := Y_L_law) (pc' := 237) dL_law_235 rfl (Nat.le_of_ble_eq_true rfl) rfl ?_
  refine g_aload2 (Y := Y_L_law) (pc' := 238) dL_law_237 rfl ?_
  refine g_aload0 (Y := Y_L_law) (pc' := 239) dL_law_238 rfl ?_
  refine g_iload4 (Y := Y_L_law) (pc' := 241) dL_law_239 rfl ?_
  refine g_iconst (Y := Y_L_law) (pc' := 242) dL_law_241 rfl ?_
  refine g_iadd (Y := Y_L_law) (pc' := 243) dL_law_242 rfl ?_
  refine g_xld (pc' := 244) dL_law_243 rfl ⟨by omega, by omega⟩ hLn ?_
  refine g_aload0 (Y := Y_L_law) (pc' := 245) dL_law_244 rfl ?_
  refine g_iload4 (Y := Y_L_law) (pc' := 247) dL_law_245 rfl ?_
  refine g_iconst (Y := Y_L_law) (pc' := 248) dL_law_247 rfl ?_
  refine g_iadd (Y := Y_L_law) (pc' := 249) dL_law_248 rfl ?_
  refine g_xld (pc' := 250) dL_law_249 rfl ⟨by omega, by omega⟩ hLn ?_
  refine g_aload0 (Y := Y_L_law) (pc' := 251) dL_law_250 rfl ?_
  refine g_iload4 (Y := Y_L_law) (pc' := 253) dL_law_251 rfl ?_
  refine g_iconst (Y := Y_L_law) (pc' := 254) dL_law_253 rfl ?_
  refine g_iadd (Y := Y_L_law) (pc' := 255) dL_law_254 rfl ?_
  refine g_xld (pc' := 256) dL_law_255 rfl ⟨by omega, by omega⟩ hLn ?_
  refine g_callVv (Y := Y_L_law) (c := 5) (k := 110) (s_X5_fill hmb hmv (xs (i + 1).toNat).toInt (i32rg _) (xs (i + 2).toNat).toInt (i32rg _) (xs (i + 3).toNat).toInt (i32rg _)) (pc' := 259) dL_law_256 rfl cv_W_86 (q_fit_mk (Nat.le_of_ble_eq_true rfl) (Nat.le_of_ble_eq_true rfl) hkc hks) h110 (by show (110 : Nat) < 125; decide) ⟨by decide, _, rfl, rfl⟩ rfl rfl rfl rfl ?_
  generalize y_fill I (xs (i + 1).toNat).toInt (xs (i + 2).toNat).toInt (xs (i + 3).toNat).toInt = r at e0 e1 hq ⊢
  refine g_istore6 (Y := Y_L_law) (pc' := 261) dL_law_259 rfl (Nat.le_of_ble_eq_true rfl) rfl ?_
  refine g_aload2 (Y := Y_L_law) (pc' := 262) dL_law_261 rfl ?_
  refine g_callVv (Y := Y_L_law) (c := 5) (k := 110) (s_X5_thrown hmb) (pc' := 265) dL_law_262 rfl cv_W_80 (q_fit_mk (Nat.le_of_ble_eq_true rfl) (Nat.le_of_ble_eq_true rfl) hkc hks) h110 (by show (110 : Nat) < 125; decide) ⟨by decide, _, rfl, rfl⟩ rfl rfl rfl rfl ?_
  refine g_iload5 (Y := Y_L_law) (pc' := 267) dL_law_265 rfl ?_
  refine g_icmp_eq (Y := Y_L_law) (t := 272) (pc' := 270) dL_law_267 (by decide) rfl ⟨by omega, by omega⟩ ⟨by omega, by omega⟩ (fun h9 => ?_) (fun h9 => absurd e0 h9)
  refine g_iload5 (Y := Y_L_law) (pc' := 274) dL_law_272 rfl ?_
  refine g_if_ne (Y := Y_L_law) (t := 289) (pc' := 277) dL_law_274 (by decide) rfl ⟨by omega, by omega⟩ (fun h8 => ?_) (fun h8 => ?_)
  · refine g_goto (Y := Y_L_law) (t := 1323) dL_law_289 (by decide) ?_
    exact hn _ _ _ _ _ _ _ _ _ hq (Nat.le_refl _) (Nat.le_refl _)
  · refine g_aload3 (Y := Y_L_law) (pc' := 278) dL_law_277 rfl ?_
    refine g_iconst (Y := Y_L_law) (pc' := 279) dL_law_278 rfl ?_
    refine g_lald (Y := Y_L_law) (pc' := 280) dL_law_279 rfl h124 (by decide) (by decide) ⟨by decide, by decide⟩ ?_
    refine g_iload6 (Y := Y_L_law) (pc' := 282) dL_law_280 rfl ?_
    refine g_i2l (Y := Y_L_law) (pc' := 283) dL_law_282 rfl ?_
    refine g_lcmp (Y := Y_L_law) (v := 0) (pc' := 284) dL_law_283 rfl (by rw [show J 124 (0 : Int).toNat = _ from e1 h8]; exact lcmp_eq _) ?_
    refine g_if_eq (Y := Y_L_law) (t := 289) (pc' := 287) dL_law_284 (by decide) rfl ⟨by decide, by decide⟩ (fun _ => ?_) (fun h7 => absurd rfl h7)
    refine g_goto (Y := Y_L_law) (t := 1323) dL_law_289 (by decide) ?_
    exact hn _ _ _ _ _ _ _ _ _ hq (Nat.le_refl _) (Nat.le_refl _)
set_option maxHeartbeats 2000000 in
set_option maxRecDepth 100000 in
theorem lc_1 {l : Launch} {E : QE} {T : Nat → Nat × Nat} {b Ln : Nat} {xs : Nat → Int32} {i : Int} {kc ks : Nat} (hl9 : l.stackTraces = false) (hi : 0 ≤ i ∧ i + 4 ≤ (Ln : Int)) (hLn : Ln ≤ 2048) (hkc : kc + 1 ≤ 601024) (hks : ks + 6 ≤ 7293034) (hn : NXT l E T b Ln xs i (kc + 1) (ks + 6)) {I : Nat → Nat → Int} {J : Nat → Nat → Int64} {R : Nat → Nat → Option Nat} {x5 x6 x7 x8 : Option Value} (hq : QR T I R) : GoT l E Y_L_law kc ks 212 [some (.ref b), some (.ref (E.1 + 0)), some (.ref (E.1 + 110)), some (.ref (E.1 + 124)), some (.int (iz i)), x5, x6, x7, x8] [] (T, I, J, R, 125, 0) (TgW E b Ln xs) := by
  refine g_aload1 (Y := Y_L_law) (pc' := 213) dL_law_212 rfl ?_
  refine g_aload0 (Y := Y_L_law) (pc' := 214) dL_law_213 rfl ?_
  refine g_iload4 (Y := Y_L_law) (pc' := 216) dL_law_214 rfl ?_
  refine g_iconst (Y := Y_L_law) (pc' := 217) dL_law_216 rfl ?_
  refine g_iadd (Y := Y_L_law) (pc' := 218) dL_law_217 rfl ?_
  refine g_xld (pc' := 219) dL_law_218 rfl ⟨by omega, by omega⟩ hLn ?_
  refine g_aload0 (Y := Y_L_law) (pc' := 220) dL_law_219 rfl ?_
  refine g_iload4 (Y := Y_L_law) (pc' := 222) dL_law_220 rfl ?_
  refine g_iconst (Y := Y_L_law) (pc' := 223) dL_law_222 rfl ?_
  refine g_iadd (Y := Y_L_law) (pc' := 224) dL_law_223 rfl ?_
  refine g_xld (pc' := 225) dL_law_224 rfl ⟨by omega, by omega⟩ hLn ?_
  refine g_aload0 (Y := Y_L_law) (pc' := 226) dL_law_225 rfl ?_
  refine g_iload4 (Y := Y_L_law) (pc' := 228) dL_law_226 rfl ?_
  refine g_iconst (Y := Y_L_law) (pc' := 229) dL_law_228 rfl ?_
  refine g_iadd (Y := Y_L_law) (pc' := 230) dL_law_229 rfl ?_
  refine g_xld (pc' := 231) dL_law_230 rfl ⟨by omega, by omega⟩ hLn ?_
  refine g_aload3 (Y := Y_L_law) (pc' := 232) dL_law_231 rfl ?_
  refine g_callL (s_L_fill hl9 hq.1 hq.2.2.2.1 hq.2.2.1 (xs (i + 1).toNat).toInt (i32rg _) (xs (i + 2).toNat).toInt (i32rg _) (xs (i + 3).toNat).toInt (i32rg _)) (pc' := 235) dL_law_232 rfl cv_W_83 (q_fit_mk (Nat.le_of_ble_eq_true rfl) (Nat.le_of_ble_eq_true rfl) hkc hks) rfl rfl rfl (fun r w1 hr => ?_)
  have hm := ml_fill (J := J) hq (xs (i + 1).toNat).toInt (i32rg _) (xs (i + 2).toNat).toInt (i32rg _) (xs (i + 3).toNat).toInt (i32rg _)
  rcases hr with ⟨hx, rfl, rfl⟩ | ⟨hx, rfl, rfl⟩ | ⟨hx, rfl, rfl⟩
  · exact lt_fill (kc := kc + 1) (ks := ks + 6) hi hLn hkc hks hn (by decide) (hm.1 hx)
  · exact lt_fill (kc := kc + 1) (ks := ks + 6) hi hLn hkc hks hn (by decide) (hm.2.1 hx)
  · exact lt_fill (kc := kc + 1) (ks := ks + 6) hi hLn hkc hks hn (by decide) (hm.2.2 hx)
set_option maxHeartbeats 2000000 in
set_option maxRecDepth 100000 in
theorem lt_drop {l : Launch} {E : QE} {T : Nat → Nat × Nat} {b Ln : Nat} {xs : Nat → Int32} {i : Int} {kc ks : Nat} (hi : 0 ≤ i ∧ i + 4 ≤ (Ln : Int)) (hLn : Ln ≤ 2048) (hkc : kc ≤ 601024) (hks : ks ≤ 7293034) (hn : NXT l E T b Ln xs i kc ks) {c : Int} (hc : 0 ≤ c ∧ c ≤ 3) {I : Nat → Nat → Int} {J : Nat → Nat → Int64} {R : Nat → Nat → Option Nat} {x5 x6 x7 x8 : Option Value} (hr : RLx T c I (fun I9 => y_drop I9 (xs (i + 1).toNat).toInt) J R) : GoT l E Y_L_law kc ks 303 [some (.ref b), some (.ref (E.1 + 0)), some (.ref (E.1 + 110)), some (.ref (E.1 + 124)), some (.int (iz i)), x5, x6, x7, x8] [.int (iz c)] (T, I, J, R, 125, 0) (TgW E b Ln xs) := by
  have hmv : MV I := hr.1
  have hmb : MdB T R 125 := hr.2.1
  have h110 : T 110 = (5, 0) := hmb.1
  have h124 : T 124 = (10, 1) := hr.2.2.2.2.2.2.1
  have e0 : (y_drop I (xs (i + 1).toNat).toInt).2 110 0 = c := hr.2.2.1
  have e1 : c = 0 → J 124 0 = (iz (y_drop I (xs (i + 1).toNat).toInt).1).toInt64 := hr.2.2.2.1
  have hq : QR T (y_drop I (xs (i + 1).toNat).toInt).2 R := hr.2.2.2.2
  clear hr
  refine g_istore5 (Y := Y_L_law) (pc' := 305) dL_law_303 rfl (Nat.le_of_ble_eq_true rfl) rfl ?_
  refine g_aload2 (Y := Y_L_law) (pc' := 306) dL_law_305 rfl ?_
  refine g_aload0 (Y := Y_L_law) (pc' := 307) dL_law_306 rfl ?_
  refine g_iload4 (Y := Y_L_law) (pc' := 309) dL_law_307 rfl ?_
  refine g_iconst (Y := Y_L_law) (pc' := 310) dL_law_309 rfl ?_
  refine g_iadd (Y := Y_L_law) (pc' := 311) dL_law_310 rfl ?_
  refine g_xld (pc' := 312) dL_law_311 rfl ⟨by omega, by omega⟩ hLn ?_
  refine g_callVv (Y := Y_L_law) (c := 5) (k := 110) (s_X5_drop hmb hmv (xs (i + 1).toNat).toInt (i32rg _)) (pc' := 315) dL_law_312 rfl cv_W_90 (q_fit_mk (Nat.le_of_ble_eq_true rfl) (Nat.le_of_ble_eq_true rfl) hkc hks) h110 (by show (110 : Nat) < 125; decide) ⟨by decide, _, rfl, rfl⟩ rfl rfl rfl rfl ?_
  generalize y_drop I (xs (i + 1).toNat).toInt = r at e0 e1 hq ⊢
  refine g_istore6 (Y := Y_L_law) (pc' := 317) dL_law_315 rfl (Nat.le_of_ble_eq_true rfl) rfl ?_
  refine g_aload2 (Y := Y_L_law) (pc' := 318) dL_law_317 rfl ?_
  refine g_callVv (Y := Y_L_law) (c := 5) (k := 110) (s_X5_thrown hmb) (pc' := 321) dL_law_318 rfl cv_W_80 (q_fit_mk (Nat.le_of_ble_eq_true rfl) (Nat.le_of_ble_eq_true rfl) hkc hks) h110 (by show (110 : Nat) < 125; decide) ⟨by decide, _, rfl, rfl⟩ rfl rfl rfl rfl ?_
  refine g_iload5 (Y := Y_L_law) (pc' := 323) dL_law_321 rfl ?_
  refine g_icmp_eq (Y := Y_L_law) (t := 328) (pc' := 326) dL_law_323 (by decide) rfl ⟨by omega, by omega⟩ ⟨by omega, by omega⟩ (fun h9 => ?_) (fun h9 => absurd e0 h9)
  refine g_iload5 (Y := Y_L_law) (pc' := 330) dL_law_328 rfl ?_
  refine g_if_ne (Y := Y_L_law) (t := 345) (pc' := 333) dL_law_330 (by decide) rfl ⟨by omega, by omega⟩ (fun h8 => ?_) (fun h8 => ?_)
  · refine g_goto (Y := Y_L_law) (t := 1323) dL_law_345 (by decide) ?_
    exact hn _ _ _ _ _ _ _ _ _ hq (Nat.le_refl _) (Nat.le_refl _)
  · refine g_aload3 (Y := Y_L_law) (pc' := 334) dL_law_333 rfl ?_
    refine g_iconst (Y := Y_L_law) (pc' := 335) dL_law_334 rfl ?_
    refine g_lald (Y := Y_L_law) (pc' := 336) dL_law_335 rfl h124 (by decide) (by decide) ⟨by decide, by decide⟩ ?_
    refine g_iload6 (Y := Y_L_law) (pc' := 338) dL_law_336 rfl ?_
    refine g_i2l (Y := Y_L_law) (pc' := 339) dL_law_338 rfl ?_
    refine g_lcmp (Y := Y_L_law) (v := 0) (pc' := 340) dL_law_339 rfl (by rw [show J 124 (0 : Int).toNat = _ from e1 h8]; exact lcmp_eq _) ?_
    refine g_if_eq (Y := Y_L_law) (t := 345) (pc' := 343) dL_law_340 (by decide) rfl ⟨by decide, by decide⟩ (fun _ => ?_) (fun h7 => absurd rfl h7)
    refine g_goto (Y := Y_L_law) (t := 1323) dL_law_345 (by decide) ?_
    exact hn _ _ _ _ _ _ _ _ _ hq (Nat.le_refl _) (Nat.le_refl _)
set_option maxHeartbeats 2000000 in
set_option maxRecDepth 100000 in
theorem lc_2 {l : Launch} {E : QE} {T : Nat → Nat × Nat} {b Ln : Nat} {xs : Nat → Int32} {i : Int} {kc ks : Nat} (hl9 : l.stackTraces = false) (hi : 0 ≤ i ∧ i + 4 ≤ (Ln : Int)) (hLn : Ln ≤ 2048) (hkc : kc + 1 ≤ 601024) (hks : ks + 6 ≤ 7293034) (hn : NXT l E T b Ln xs i (kc + 1) (ks + 6)) {I : Nat → Nat → Int} {J : Nat → Nat → Int64} {R : Nat → Nat → Option Nat} {x5 x6 x7 x8 : Option Value} (hq : QR T I R) : GoT l E Y_L_law kc ks 292 [some (.ref b), some (.ref (E.1 + 0)), some (.ref (E.1 + 110)), some (.ref (E.1 + 124)), some (.int (iz i)), x5, x6, x7, x8] [] (T, I, J, R, 125, 0) (TgW E b Ln xs) := by
  refine g_aload1 (Y := Y_L_law) (pc' := 293) dL_law_292 rfl ?_
  refine g_aload0 (Y := Y_L_law) (pc' := 294) dL_law_293 rfl ?_
  refine g_iload4 (Y := Y_L_law) (pc' := 296) dL_law_294 rfl ?_
  refine g_iconst (Y := Y_L_law) (pc' := 297) dL_law_296 rfl ?_
  refine g_iadd (Y := Y_L_law) (pc' := 298) dL_law_297 rfl ?_
  refine g_xld (pc' := 299) dL_law_298 rfl ⟨by omega, by omega⟩ hLn ?_
  refine g_aload3 (Y := Y_L_law) (pc' := 300) dL_law_299 rfl ?_
  refine g_callL (s_L_drop hl9 hq.1 hq.2.2.2.1 hq.2.2.1 (xs (i + 1).toNat).toInt (i32rg _)) (pc' := 303) dL_law_300 rfl cv_W_87 (q_fit_mk (Nat.le_of_ble_eq_true rfl) (Nat.le_of_ble_eq_true rfl) hkc hks) rfl rfl rfl (fun r w1 hr => ?_)
  have hm := ml_drop (J := J) hq (xs (i + 1).toNat).toInt (i32rg _)
  rcases hr with ⟨hx, rfl, rfl⟩ | ⟨hx, rfl, rfl⟩
  · exact lt_drop (kc := kc + 1) (ks := ks + 6) hi hLn hkc hks hn (by decide) (hm.1 hx)
  · exact lt_drop (kc := kc + 1) (ks := ks + 6) hi hLn hkc hks hn (by decide) (hm.2 hx)
set_option maxHeartbeats 2000000 in
set_option maxRecDepth 100000 in
theorem lt_fail {l : Launch} {E : QE} {T : Nat → Nat × Nat} {b Ln : Nat} {xs : Nat → Int32} {i : Int} {kc ks : Nat} (hi : 0 ≤ i ∧ i + 4 ≤ (Ln : Int)) (hLn : Ln ≤ 2048) (hkc : kc ≤ 601024) (hks : ks ≤ 7293034) (hn : NXT l E T b Ln xs i kc ks) {c : Int} (hc : 0 ≤ c ∧ c ≤ 3) {I : Nat → Nat → Int} {J : Nat → Nat → Int64} {R : Nat → Nat → Option Nat} {x5 x6 x7 x8 : Option Value} (hr : RLx T c I (fun I9 => y_fail I9 (xs (i + 1).toNat).toInt (xs (i + 2).toNat).toInt) J R) : GoT l E Y_L_law kc ks 365 [some (.ref b), some (.ref (E.1 + 0)), some (.ref (E.1 + 110)), some (.ref (E.1 + 124)), some (.int (iz i)), x5, x6, x7, x8] [.int (iz c)] (T, I, J, R, 125, 0) (TgW E b Ln xs) := by
  have hmv : MV I := hr.1
  have hmb : MdB T R 125 := hr.2.1
  have h110 : T 110 = (5, 0) := hmb.1
  have h124 : T 124 = (10, 1) := hr.2.2.2.2.2.2.1
  have e0 : (y_fail I (xs (i + 1).toNat).toInt (xs (i + 2).toNat).toInt).2 110 0 = c := hr.2.2.1
  have e1 : c = 0 → J 124 0 = (iz (y_fail I (xs (i + 1).toNat).toInt (xs (i + 2).toNat).toInt).1).toInt64 := hr.2.2.2.1
  have hq : QR T (y_fail I (xs (i + 1).toNat).toInt (xs (i + 2).toNat).toInt).2 R := hr.2.2.2.2
  clear hr
  refine g_istore5 (Y := Y_L_law) (pc' := 367) dL_law_365 rfl (Nat.le_of_ble_eq_true rfl) rfl ?_
  refine g_aload2 (Y := Y_L_law) (pc' := 368) dL_law_367 rfl ?_
  refine g_aload0 (Y := Y_L_law) (pc' := 369) dL_law_368 rfl ?_
  refine g_iload4 (Y := Y_L_law) (pc' := 371) dL_law_369 rfl ?_
  refine g_iconst (Y := Y_L_law) (pc' := 372) dL_law_371 rfl ?_
  refine g_iadd (Y := Y_L_law) (pc' := 373) dL_law_372 rfl ?_
  refine g_xld (pc' := 374) dL_law_373 rfl ⟨by omega, by omega⟩ hLn ?_
  refine g_aload0 (Y := Y_L_law) (pc' := 375) dL_law_374 rfl ?_
  refine g_iload4 (Y := Y_L_law) (pc' := 377) dL_law_375 rfl ?_
  refine g_iconst (Y := Y_L_law) (pc' := 378) dL_law_377 rfl ?_
  refine g_iadd (Y := Y_L_law) (pc' := 379) dL_law_378 rfl ?_
  refine g_xld (pc' := 380) dL_law_379 rfl ⟨by omega, by omega⟩ hLn ?_
  refine g_callVv (Y := Y_L_law) (c := 5) (k := 110) (s_X5_fail hmb hmv (xs (i + 1).toNat).toInt (i32rg _) (xs (i + 2).toNat).toInt (i32rg _)) (pc' := 383) dL_law_380 rfl cv_W_93 (q_fit_mk (Nat.le_of_ble_eq_true rfl) (Nat.le_of_ble_eq_true rfl) hkc hks) h110 (by show (110 : Nat) < 125; decide) ⟨by decide, _, rfl, rfl⟩ rfl rfl rfl rfl ?_
  generalize y_fail I (xs (i + 1).toNat).toInt (xs (i + 2).toNat).toInt = r at e0 e1 hq ⊢
  refine g_istore6 (Y := Y_L_law) (pc' := 385) dL_law_383 rfl (Nat.le_of_ble_eq_true rfl) rfl ?_
  refine g_aload2 (Y := Y_L_law) (pc' := 386) dL_law_385 rfl ?_
  refine g_callVv (Y := Y_L_law) (c := 5) (k := 110) (s_X5_thrown hmb) (pc' := 389) dL_law_386 rfl cv_W_80 (q_fit_mk (Nat.le_of_ble_eq_true rfl) (Nat.le_of_ble_eq_true rfl) hkc hks) h110 (by show (110 : Nat) < 125; decide) ⟨by decide, _, rfl, rfl⟩ rfl rfl rfl rfl ?_
  refine g_iload5 (Y := Y_L_law) (pc' := 391) dL_law_389 rfl ?_
  refine g_icmp_eq (Y := Y_L_law) (t := 396) (pc' := 394) dL_law_391 (by decide) rfl ⟨by omega, by omega⟩ ⟨by omega, by omega⟩ (fun h9 => ?_) (fun h9 => absurd e0 h9)
  refine g_iload5 (Y := Y_L_law) (pc' := 398) dL_law_396 rfl ?_
  refine g_if_ne (Y := Y_L_law) (t := 413) (pc' := 401) dL_law_398 (by decide) rfl ⟨by omega, by omega⟩ (fun h8 => ?_) (fun h8 => ?_)
  · refine g_goto (Y := Y_L_law) (t := 1323) dL_law_413 (by decide) ?_
    exact hn _ _ _ _ _ _ _ _ _ hq (Nat.le_refl _) (Nat.le_refl _)
  · refine g_aload3 (Y := Y_L_law) (pc' := 402) dL_law_401 rfl ?_
    refine g_iconst (Y := Y_L_law) (pc' := 403) dL_law_402 rfl ?_
    refine g_lald (Y := Y_L_law) (pc' := 404) dL_law_403 rfl h124 (by decide) (by decide) ⟨by decide, by decide⟩ ?_
    refine g_iload6 (Y := Y_L_law) (pc' := 406) dL_law_404 rfl ?_
    refine g_i2l (Y := Y_L_law) (pc' := 407) dL_law_406 rfl ?_
    refine g_lcmp (Y := Y_L_law) (v := 0) (pc' := 408) dL_law_407 rfl (by rw [show J 124 (0 : Int).toNat = _ from e1 h8]; exact lcmp_eq _) ?_
    refine g_if_eq (Y := Y_L_law) (t := 413) (pc' := 411) dL_law_408 (by decide) rfl ⟨by decide, by decide⟩ (fun _ => ?_) (fun h7 => absurd rfl h7)
    refine g_goto (Y := Y_L_law) (t := 1323) dL_law_413 (by decide) ?_
    exact hn _ _ _ _ _ _ _ _ _ hq (Nat.le_refl _) (Nat.le_refl _)
set_option maxHeartbeats 2000000 in
set_option maxRecDepth 100000 in
theorem lc_3 {l : Launch} {E : QE} {T : Nat → Nat × Nat} {b Ln : Nat} {xs : Nat → Int32} {i : Int} {kc ks : Nat} (hl9 : l.stackTraces = false) (hi : 0 ≤ i ∧ i + 4 ≤ (Ln : Int)) (hLn : Ln ≤ 2048) (hkc : kc + 1 ≤ 601024) (hks : ks + 6 ≤ 7293034) (hn : NXT l E T b Ln xs i (kc + 1) (ks + 6)) {I : Nat → Nat → Int} {J : Nat → Nat → Int64} {R : Nat → Nat → Option Nat} {x5 x6 x7 x8 : Option Value} (hq : QR T I R) : GoT l E Y_L_law kc ks 348 [some (.ref b), some (.ref (E.1 + 0)), some (.ref (E.1 + 110)), some (.ref (E.1 + 124)), some (.int (iz i)), x5, x6, x7, x8] [] (T, I, J, R, 125, 0) (TgW E b Ln xs) := by
  refine g_aload1 (Y := Y_L_law) (pc' := 349) dL_law_348 rfl ?_
  refine g_aload0 (Y := Y_L_law) (pc' := 350) dL_law_349 rfl ?_
  refine g_iload4 (Y := Y_L_law) (pc' := 352) dL_law_350 rfl ?_
  refine g_iconst (Y := Y_L_law) (pc' := 353) dL_law_352 rfl ?_
  refine g_iadd (Y := Y_L_law) (pc' := 354) dL_law_353 rfl ?_
  refine g_xld (pc' := 355) dL_law_354 rfl ⟨by omega, by omega⟩ hLn ?_
  refine g_aload0 (Y := Y_L_law) (pc' := 356) dL_law_355 rfl ?_
  refine g_iload4 (Y := Y_L_law) (pc' := 358) dL_law_356 rfl ?_
  refine g_iconst (Y := Y_L_law) (pc' := 359) dL_law_358 rfl ?_
  refine g_iadd (Y := Y_L_law) (pc' := 360) dL_law_359 rfl ?_
  refine g_xld (pc' := 361) dL_law_360 rfl ⟨by omega, by omega⟩ hLn ?_
  refine g_aload3 (Y := Y_L_law) (pc' := 362) dL_law_361 rfl ?_
  refine g_callL (s_L_fail hl9 hq.1 hq.2.2.2.1 hq.2.2.1 (xs (i + 1).toNat).toInt (i32rg _) (xs (i + 2).toNat).toInt (i32rg _)) (pc' := 365) dL_law_362 rfl cv_W_91 (q_fit_mk (Nat.le_of_ble_eq_true rfl) (Nat.le_of_ble_eq_true rfl) hkc hks) rfl rfl rfl (fun r w1 hr => ?_)
  have hm := ml_fail (J := J) hq (xs (i + 1).toNat).toInt (i32rg _) (xs (i + 2).toNat).toInt (i32rg _)
  rcases hr with ⟨hx, rfl, rfl⟩ | ⟨hx, rfl, rfl⟩ | ⟨hx, rfl, rfl⟩
  · exact lt_fail (kc := kc + 1) (ks := ks + 6) hi hLn hkc hks hn (by decide) (hm.1 hx)
  · exact lt_fail (kc := kc + 1) (ks := ks + 6) hi hLn hkc hks hn (by decide) (hm.2.1 hx)
  · exact lt_fail (kc := kc + 1) (ks := ks + 6) hi hLn hkc hks hn (by decide) (hm.2.2 hx)
end
