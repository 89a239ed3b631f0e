theorem arm_set {κ : KT} {nm : String} {Q : State → Prop} {ρ : Nat → Nat} {L i : Nat} {xs : Nat → Int32} {h : Mm} {τ τk : Nat → List Int32} (K : KOK κ "FoxRoundsLaw" nm code 4 room_1 ret) (S : SX κ ρ L xs) (hL : L ≤ 384) (hi : i + 6 ≤ L) (H : LI h τ τk) (kk : ∀ h' τ' τk', LI h' τ' τk' → V κ Q 4 (132, ρ, GL, 132, 2915) h' 1540 [(3, .int (nI i)), (2, .ref 118), (1, .ref 0), (0, .ref 1040)] []) : V κ Q 4 (132, ρ, GL, 132, 2915) h 220 [(3, .int (nI i)), (2, .ref 118), (1, .ref 0), (0, .ref 1040)] [] := by
  refine v_aload_n K dL_law_220 rfl ?_
  refine v_aload_n K dL_law_221 rfl ?_
  refine v_iload_n K dL_law_222 rfl ?_
  refine v_iconstN K 1 rfl dL_law_223 ?_
  refine v_iaddN K dL_law_224 ?_
  refine v_scr K S (k := i + 1) (by omega) hL dL_law_225 ?_
  refine v_aload_n K dL_law_226 rfl ?_
  refine v_iload_n K dL_law_227 rfl ?_
  refine v_iconstN K 2 rfl dL_law_228 ?_
  refine v_iaddN K dL_law_229 ?_
  refine v_scr K S (k := i + 2) (by omega) hL dL_law_230 ?_
  refine v_callVc (As := [.int (xs (i + 1)), .int (xs (i + 2))]) K (c_X9_set h h h τ τk (xs (i + 1)) (xs (i + 2)) H.1 H.2) lL_13 ck_X9 rfl sh_0 (by decide) rfl ⟨by decide, by decide⟩ ⟨by decide, by decide⟩ (by decide) dL_law_231 (fun r1 h2 p1 => ?_) rfl
  obtain ⟨rfl, hC⟩ := p1
  refine v_some ?_
  refine v_aload_n K dL_law_234 rfl ?_
  refine v_aload_n K dL_law_235 rfl ?_
  refine v_iload_n K dL_law_236 rfl ?_
  refine v_iconstN K 1 rfl dL_law_237 ?_
  refine v_iaddN K dL_law_238 ?_
  refine v_scr K S (k := i + 1) (by omega) hL dL_law_239 ?_
  refine v_aload_n K dL_law_240 rfl ?_
  refine v_iload_n K dL_law_241 rfl ?_
  refine v_iconstN K 2 rfl dL_law_242 ?_
  refine v_iaddN K dL_law_243 ?_
  refine v_scr K S (k := i + 2) (by omega) hL dL_law_244 ?_
  refine v_callVc (As := [.int (xs (i + 1)), .int (xs (i + 2))]) K (c_X10_set h2 (pt h2 h) τ τk (xs (i + 1)) (xs (i + 2)) hC.rr H.2.pt) lL_17 ck_X10 rfl sh_118 (by decide) rfl ⟨by decide, by decide⟩ ⟨by decide, by decide⟩ (Nat.le_of_ble_eq_true rfl) dL_law_245 (fun r2 h3 p2 => ?_) rfl
  obtain ⟨rfl, hR⟩ := p2
  refine v_some ?_
  have e := (pY_set (cM := h2) (s := h) (xs (i + 1)) (xs (i + 2)))
  have hR2 : RR h3 (pt h2 (Y_set h  (xs (i + 1)) (xs (i + 2))).2) := by have q := hR; rw [e] at q; exact q
  exact v_icmp_eq (tgt := 1540) K dL_law_248 rfl (fun _ => kk h3 τ τk (LI.step hC hR2 (I_set H.2 (xs (i + 1)) (xs (i + 2))))) (fun c => absurd (congrArg Prod.fst e).symm c)

theorem arm_way {κ : KT} {nm : String} {Q : State → Prop} {ρ : Nat → Nat} {L i : Nat} {xs : Nat → Int32} {h : Mm} {τ τk : Nat → List Int32} (K : KOK κ "FoxRoundsLaw" nm code 4 room_1 ret) (S : SX κ ρ L xs) (hL : L ≤ 384) (hi : i + 6 ≤ L) (H : LI h τ τk) (kk : ∀ h' τ' τk', LI h' τ' τk' → V κ Q 4 (132, ρ, GL, 132, 2915) h' 1540 [(3, .int (nI i)), (2, .ref 118), (1, .ref 0), (0, .ref 1040)] []) : V κ Q 4 (132, ρ, GL, 132, 2915) h 253 [(3, .int (nI i)), (2, .ref 118), (1, .ref 0), (0, .ref 1040)] [] := by
  refine v_aload_n K dL_law_253 rfl ?_
  refine v_aload_n K dL_law_254 rfl ?_
  refine v_iload_n K dL_law_255 rfl ?_
  refine v_iconstN K 1 rfl dL_law_256 ?_
  refine v_iaddN K dL_law_257 ?_
  refine v_scr K S (k := i + 1) (by omega) hL dL_law_258 ?_
  refine v_aload_n K dL_law_259 rfl ?_
  refine v_iload_n K dL_law_260 rfl ?_
  refine v_iconstN K 2 rfl dL_law_261 ?_
  refine v_iaddN K dL_law_262 ?_
  refine v_scr K S (k := i + 2) (by omega) hL dL_law_263 ?_
  refine v_aload_n K dL_law_264 rfl ?_
  refine v_iload_n K dL_law_265 rfl ?_
  refine v_iconstN K 3 rfl dL_law_266 ?_
  refine v_iaddN K dL_law_267 ?_
  refine v_scr K S (k := i + 3) (by omega) hL dL_law_268 ?_
  refine v_callVc (As := [.int (xs (i + 1)), .int (xs (i + 2)), .int (xs (i + 3))]) K (c_X9_way h h h τ τk (xs (i + 1)) (xs (i + 2)) (xs (i + 3)) H.1 H.2) lL_18 ck_X9 rfl sh_0 (by decide) rfl ⟨by decide, by decide⟩ ⟨by decide, by decide⟩ (by decide) dL_law_269 (fun r1 h2 p1 => ?_) rfl
  obtain ⟨rfl, hC⟩ := p1
  refine v_some ?_
  refine v_aload_n K dL_law_272 rfl ?_
  refine v_aload_n K dL_law_273 rfl ?_
  refine v_iload_n K dL_law_274 rfl ?_
  refine v_iconstN K 1 rfl dL_law_275 ?_
  refine v_iaddN K dL_law_276 ?_
  refine v_scr K S (k := i + 1) (by omega) hL dL_law_277 ?_
  refine v_aload_n K dL_law_278 rfl ?_
  refine v_iload_n K dL_law_279 rfl ?_
  refine v_iconstN K 2 rfl dL_law_280 ?_
  refine v_iaddN K dL_law_281 ?_
  refine v_scr K S (k := i + 2) (by omega) hL dL_law_282 ?_
  refine v_aload_n K dL_law_283 rfl ?_
  refine v_iload_n K dL_law_284 rfl ?_
  refine v_iconstN K 3 rfl dL_law_285 ?_
  refine v_iaddN K dL_law_286 ?_
  refine v_scr K S (k := i + 3) (by omega) hL dL_law_287 ?_
  refine v_callVc (As := [.int (xs (i + 1)), .int (xs (i + 2)), .int (xs (i + 3))]) K (c_X10_way h2 (pt h2 h) τ τk (xs (i + 1)) (xs (i + 2)) (xs (i + 3)) hC.rr H.2.pt) lL_22 ck_X10 rfl sh_118 (by decide) rfl ⟨by decide, by decide⟩ ⟨by decide, by decide⟩ (Nat.le_of_ble_eq_true rfl) dL_law_288 (fun r2 h3 p2 => ?_) rfl
  obtain ⟨rfl, hR⟩ := p2
  refine v_some ?_
  have e := (pY_way (cM := h2) (s := h) (xs (i + 1)) (xs (i + 2)) (xs (i + 3)))
  have hR2 : RR h3 (pt h2 (Y_way h  (xs (i + 1)) (xs (i + 2)) (xs (i + 3))).2) := by have q := hR; rw [e] at q; exact q
  exact v_icmp_eq (tgt := 1540) K dL_law_291 rfl (fun _ => kk h3 τ τk (LI.step hC hR2 (I_way H.2 (xs (i + 1)) (xs (i + 2)) (xs (i + 3))))) (fun c => absurd (congrArg Prod.fst e).symm c)

theorem arm_ofWay {κ : KT} {nm : String} {Q : State → Prop} {ρ : Nat → Nat} {L i : Nat} {xs : Nat → Int32} {h : Mm} {τ τk : Nat → List Int32} (K : KOK κ "FoxRoundsLaw" nm code 4 room_1 ret) (S : SX κ ρ L xs) (hL : L ≤ 384) (hi : i + 6 ≤ L) (H : LI h τ τk) (kk : ∀ h' τ' τk', LI h' τ' τk' → V κ Q 4 (132, ρ, GL, 132, 2915) h' 1540 [(3, .int (nI i)), (2, .ref 118), (1, .ref 0), (0, .ref 1040)] []) : V κ Q 4 (132, ρ, GL, 132, 2915) h 296 [(3, .int (nI i)), (2, .ref 118), (1, .ref 0), (0, .ref 1040)] [] := by
  refine v_aload_n K dL_law_296 rfl ?_
  refine v_aload_n K dL_law_297 rfl ?_
  refine v_iload_n K dL_law_298 rfl ?_
  refine v_iconstN K 1 rfl dL_law_299 ?_
  refine v_iaddN K dL_law_300 ?_
  refine v_scr K S (k := i + 1) (by omega) hL dL_law_301 ?_
  refine v_aload_n K dL_law_302 rfl ?_
  refine v_iload_n K dL_law_303 rfl ?_
  refine v_iconstN K 2 rfl dL_law_304 ?_
  refine v_iaddN K dL_law_305 ?_
  refine v_scr K S (k := i + 2) (by omega) hL dL_law_306 ?_
  refine v_callVc (As := [.int (xs (i + 1)), .int (xs (i + 2))]) K (c_X9_ofWay h h h τ τk (xs (i + 1)) (xs (i + 2)) H.1 H.2) lL_23 ck_X9 rfl sh_0 (by decide) rfl ⟨by decide, by decide⟩ ⟨by decide, by decide⟩ (by decide) dL_law_307 (fun r1 h2 p1 => ?_) rfl
  obtain ⟨rfl, hC⟩ := p1
  refine v_some ?_
  refine v_aload_n K dL_law_310 rfl ?_
  refine v_aload_n K dL_law_311 rfl ?_
  refine v_iload_n K dL_law_312 rfl ?_
  refine v_iconstN K 1 rfl dL_law_313 ?_
  refine v_iaddN K dL_law_314 ?_
  refine v_scr K S (k := i + 1) (by omega) hL dL_law_315 ?_
  refine v_aload_n K dL_law_316 rfl ?_
  refine v_iload_n K dL_law_317 rfl ?_
  refine v_iconstN K 2 rfl dL_law_318 ?_
  refine v_iaddN K dL_law_319 ?_
  refine v_scr K S (k := i + 2) (by omega) hL dL_law_320 ?_
  refine v_callVc (As := [.int (xs (i + 1)), .int (xs (i + 2))]) K (c_X10_ofWay h2 (pt h2 h) τ τk (xs (i + 1)) (xs (i + 2)) hC.rr H.2.pt) lL_26 ck_X10 rfl sh_118 (by decide) rfl ⟨by decide, by decide⟩ ⟨by decide, by decide⟩ (Nat.le_of_ble_eq_true rfl) dL_law_321 (fun r2 h3 p2 => ?_) rfl
  obtain ⟨rfl, hR⟩ := p2
  refine v_some ?_
  have e := (pY_ofWay (cM := h2) (s := h) (xs (i + 1)) (xs (i + 2)))
  have hR2 : RR h3 (pt h2 (Y_ofWay h  (xs (i + 1)) (xs (i + 2))).2) := by have q := hR; rw [e] at q; exact q
  exact v_icmp_eq (tgt := 1540) K dL_law_324 rfl (fun _ => kk h3 τ τk (LI.step hC hR2 (I_ofWay H.2 (xs (i + 1)) (xs (i + 2))))) (fun c => absurd (congrArg Prod.fst e).symm c)

theorem arm_wear {κ : KT} {nm : String} {Q : State → Prop} {ρ : Nat → Nat} {L i : Nat} {xs : Nat → Int32} {h : Mm} {τ τk : Nat → List Int32} (K : KOK κ "FoxRoundsLaw" nm code 4 room_1 ret) (S : SX κ ρ L xs) (hL : L ≤ 384) (hi : i + 6 ≤ L) (H : LI h τ τk) (kk : ∀ h' τ' τk', LI h' τ' τk' → V κ Q 4 (132, ρ, GL, 132, 2915) h' 1540 [(3, .int (nI i)), (2, .ref 118), (1, .ref 0), (0, .ref 1040)] []) : V κ Q 4 (132, ρ, GL, 132, 2915) h 329 [(3, .int (nI i)), (2, .ref 118), (1, .ref 0), (0, .ref 1040)] [] := by
  refine v_aload_n K dL_law_329 rfl ?_
  refine v_aload_n K dL_law_330 rfl ?_
  refine v_iload_n K dL_law_331 rfl ?_
  refine v_iconstN K 1 rfl dL_law_332 ?_
  refine v_iaddN K dL_law_333 ?_
  refine v_scr K S (k := i + 1) (by omega) hL dL_law_334 ?_
  refine v_aload_n K dL_law_335 rfl ?_
  refine v_iload_n K dL_law_336 rfl ?_
  refine v_iconstN K 2 rfl dL_law_337 ?_
  refine v_iaddN K dL_law_338 ?_
  refine v_scr K S (k := i + 2) (by omega) hL dL_law_339 ?_
  refine v_aload_n K dL_law_340 rfl ?_
  refine v_iload_n K dL_law_341 rfl ?_
  refine v_iconstN K 3 rfl dL_law_342 ?_
  refine v_iaddN K dL_law_343 ?_
  refine v_scr K S (k := i + 3) (by omega) hL dL_law_344 ?_
  refine v_callVc (As := [.int (xs (i + 1)), .int (xs (i + 2)), .int (xs (i + 3))]) K (c_X9_wear h h h τ τk (xs (i + 1)) (xs (i + 2)) (xs (i + 3)) H.1 H.2) lL_27 ck_X9 rfl sh_0 (by decide) rfl ⟨by decide, by decide⟩ ⟨by decide, by decide⟩ (by decide) dL_law_345 (fun r1 h2 p1 => ?_) rfl
  obtain ⟨rfl, hC⟩ := p1
  refine v_some ?_
  refine v_aload_n K dL_law_348 rfl ?_
  refine v_aload_n K dL_law_349 rfl ?_
  refine v_iload_n K dL_law_350 rfl ?_
  refine v_iconstN K 1 rfl dL_law_351 ?_
  refine v_iaddN K dL_law_352 ?_
  refine v_scr K S (k := i + 1) (by omega) hL dL_law_353 ?_
  refine v_aload_n K dL_law_354 rfl ?_
  refine v_iload_n K dL_law_355 rfl ?_
  refine v_iconstN K 2 rfl dL_law_356 ?_
  refine v_iaddN K dL_law_357 ?_
  refine v_scr K S (k := i + 2) (by omega) hL dL_law_358 ?_
  refine v_aload_n K dL_law_359 rfl ?_
  refine v_iload_n K dL_law_360 rfl ?_
  refine v_iconstN K 3 rfl dL_law_361 ?_
  refine v_iaddN K dL_law_362 ?_
  refine v_scr K S (k := i + 3) (by omega) hL dL_law_363 ?_
  refine v_callVc (As := [.int (xs (i + 1)), .int (xs (i + 2)), .int (xs (i + 3))]) K (c_X10_wear h2 (pt h2 h) τ τk (xs (i + 1)) (xs (i + 2)) (xs (i + 3)) hC.rr H.2.pt) lL_30 ck_X10 rfl sh_118 (by decide) rfl ⟨by decide, by decide⟩ ⟨by decide, by decide⟩ (Nat.le_of_ble_eq_true rfl) dL_law_364 (fun r2 h3 p2 => ?_) rfl
  obtain ⟨rfl, hR⟩ := p2
  refine v_some ?_
  have e := (pY_wear (cM := h2) (s := h) (xs (i + 1)) (xs (i + 2)) (xs (i + 3)))
  have hR2 : RR h3 (pt h2 (Y_wear h  (xs (i + 1)) (xs (i + 2)) (xs (i + 3))).2) := by have q := hR; rw [e] at q; exact q
  exact v_icmp_eq (tgt := 1540) K dL_law_367 rfl (fun _ => kk h3 τ τk (LI.step hC hR2 (I_wear H.2 (xs (i + 1)) (xs (i + 2)) (xs (i + 3))))) (fun c => absurd (congrArg Prod.fst e).symm c)

theorem arm_as {κ : KT} {nm : String} {Q : State → Prop} {ρ : Nat → Nat} {L i : Nat} {xs : Nat → Int32} {h : Mm} {τ τk : Nat → List Int32} (K : KOK κ "FoxRoundsLaw" nm code 4 room_1 ret) (S : SX κ ρ L xs) (hL : L ≤ 384) (hi : i + 6 ≤ L) (H : LI h τ τk) (kk : ∀ h' τ' τk', LI h' τ' τk' → V κ Q 4 (132, ρ, GL, 132, 2915) h' 1540 [(3, .int (nI i)), (2, .ref 118), (1, .ref 0), (0, .ref 1040)] []) : V κ Q 4 (132, ρ, GL, 132, 2915) h 372 [(3, .int (nI i)), (2, .ref 118), (1, .ref 0), (0, .ref 1040)] [] := by
  refine v_aload_n K dL_law_372 rfl ?_
  refine v_aload_n K dL_law_373 rfl ?_
  refine v_iload_n K dL_law_374 rfl ?_
  refine v_iconstN K 1 rfl dL_law_375 ?_
  refine v_iaddN K dL_law_376 ?_
  refine v_scr K S (k := i + 1) (by omega) hL dL_law_377 ?_
  refine v_aload_n K dL_law_378 rfl ?_
  refine v_iload_n K dL_law_379 rfl ?_
  refine v_iconstN K 2 rfl dL_law_380 ?_
  refine v_iaddN K dL_law_381 ?_
  refine v_scr K S (k := i + 2) (by omega) hL dL_law_382 ?_
  refine v_callVc (As := [.int (xs (i + 1)), .int (xs (i + 2))]) K (c_X9_as h h h τ τk (xs (i + 1)) (xs (i + 2)) H.1 H.2) lL_31 ck_X9 rfl sh_0 (by decide) rfl ⟨by decide, by decide⟩ ⟨by decide, by decide⟩ (by decide) dL_law_383 (fun r1 h2 p1 => ?_) rfl
  obtain ⟨rfl, hC⟩ := p1
  refine v_some ?_
  refine v_aload_n K dL_law_386 rfl ?_
  refine v_aload_n K dL_law_387 rfl ?_
  refine v_iload_n K dL_law_388 rfl ?_
  refine v_iconstN K 1 rfl dL_law_389 ?_
  refine v_iaddN K dL_law_390 ?_
  refine v_scr K S (k := i + 1) (by omega) hL dL_law_391 ?_
  refine v_aload_n K dL_law_392 rfl ?_
  refine v_iload_n K dL_law_393 rfl ?_
  refine v_iconstN K 2 rfl dL_law_394 ?_
  refine v_iaddN K dL_law_395 ?_
  refine v_scr K S (k := i + 2) (by omega) hL dL_law_396 ?_
  refine v_callVc (As := [.int (xs (i + 1)), .int (xs (i + 2))]) K (c_X10_as h2 (pt h2 h) τ τk (xs (i + 1)) (xs (i + 2)) hC.rr H.2.pt) lL_34 ck_X10 rfl sh_118 (by decide) rfl ⟨by decide, by decide⟩ ⟨by decide, by decide⟩ (Nat.le_of_ble_eq_true rfl) dL_law_397 (fun r2 h3 p2 => ?_) rfl
  obtain ⟨rfl, hR⟩ := p2
  refine v_some ?_
  have e := (pY_as (cM := h2) (s := h) (xs (i + 1)) (xs (i + 2)))
  have hR2 : RR h3 (pt h2 (Y_as h  (xs (i + 1)) (xs (i + 2))).2) := by have q := hR; rw [e] at q; exact q
  exact v_icmp_eq (tgt := 1540) K dL_law_400 rfl (fun _ => kk h3 τ τk (LI.step hC hR2 (I_as H.2 (xs (i + 1)) (xs (i + 2))))) (fun c => absurd (congrArg Prod.fst e).symm c)

theorem arm_ways {κ : KT} {nm : String} {Q : State → Prop} {ρ : Nat → Nat} {L i : Nat} {xs : Nat → Int32} {h : Mm} {τ τk : Nat → List Int32} (K : KOK κ "FoxRoundsLaw" nm code 4 room_1 ret) (S : SX κ ρ L xs) (hL : L ≤ 384) (hi : i + 6 ≤ L) (H : LI h τ τk) (kk : ∀ h' τ' τk', LI h' τ' τk' → V κ Q 4 (132, ρ, GL, 132, 2915) h' 1540 [(3, .int (nI i)), (2, .ref 118), (1, .ref 0), (0, .ref 1040)] []) : V κ Q 4 (132, ρ, GL, 132, 2915) h 405 [(3, .int (nI i)), (2, .ref 118), (1, .ref 0), (0, .ref 1040)] [] := by
  refine v_aload_n K dL_law_405 rfl ?_
  refine v_aload_n K dL_law_406 rfl ?_
  refine v_iload_n K dL_law_407 rfl ?_
  refine v_iconstN K 1 rfl dL_law_408 ?_
  refine v_iaddN K dL_law_409 ?_
  refine v_scr K S (k := i + 1) (by omega) hL dL_law_410 ?_
  refine v_callVc (As := [.int (xs (i + 1))]) K (c_X9_ways h h h τ τk (xs (i + 1)) H.1 H.2) lL_35 ck_X9 rfl sh_0 (by decide) rfl ⟨by decide, by decide⟩ ⟨by decide, by decide⟩ (by decide) dL_law_411 (fun r1 h2 p1 => ?_) rfl
  obtain ⟨rfl, hC⟩ := p1
  refine v_some ?_
  refine v_aload_n K dL_law_414 rfl ?_
  refine v_aload_n K dL_law_415 rfl ?_
  refine v_iload_n K dL_law_416 rfl ?_
  refine v_iconstN K 1 rfl dL_law_417 ?_
  refine v_iaddN K dL_law_418 ?_
  refine v_scr K S (k := i + 1) (by omega) hL dL_law_419 ?_
  refine v_callVc (As := [.int (xs (i + 1))]) K (c_X10_ways h2 (pt h2 h) τ τk (xs (i + 1)) hC.rr H.2.pt) lL_39 ck_X10 rfl sh_118 (by decide) rfl ⟨by decide, by decide⟩ ⟨by decide, by decide⟩ (Nat.le_of_ble_eq_true rfl) dL_law_420 (fun r2 h3 p2 => ?_) rfl
  obtain ⟨rfl, hR⟩ := p2
  refine v_some ?_
  have e := (pY_ways (cM := h2) (s := h) (xs (i + 1)))
  have hR2 : RR h3 (pt h2 (Y_ways h  (xs (i + 1))).2) := by have q := hR; rw [e] at q; exact q
  exact v_icmp_eq (tgt := 1540) K dL_law_423 rfl (fun _ => kk h3 τ τk (LI.step hC hR2 (I_ways H.2 (xs (i + 1))))) (fun c => absurd (congrArg Prod.fst e).symm c)

theorem arm_mend {κ : KT} {nm : String} {Q : State → Prop} {ρ : Nat → Nat} {L i : Nat} {xs : Nat → Int32} {h : Mm} {τ τk : Nat → List Int32} (K : KOK κ "FoxRoundsLaw" nm code 4 room_1 ret) (S : SX κ ρ L xs) (hL : L ≤ 384) (hi : i + 6 ≤ L) (H : LI h τ τk) (kk : ∀ h' τ' τk', LI h' τ' τk' → V κ Q 4 (132, ρ, GL, 132, 2915) h' 1540 [(3, .int (nI i)), (2, .ref 118), (1, .ref 0), (0, .ref 1040)] []) : V κ Q 4 (132, ρ, GL, 132, 2915) h 428 [(3, .int (nI i)), (2, .ref 118), (1, .ref 0), (0, .ref 1040)] [] := by
  refine v_aload_n K dL_law_428 rfl ?_
  refine v_aload_n K dL_law_429 rfl ?_
  refine v_iload_n K dL_law_430 rfl ?_
  refine v_iconstN K 1 rfl dL_law_431 ?_
  refine v_iaddN K dL_law_432 ?_
  refine v_scr K S (k := i + 1) (by omega) hL dL_law_433 ?_
  refine v_callVc (As := [.int (xs (i + 1))]) K (c_X9_mend h h h τ τk (xs (i + 1)) H.1 H.2) lL_40 ck_X9 rfl sh_0 (by decide) rfl ⟨by decide, by decide⟩ ⟨by decide, by decide⟩ (by decide) dL_law_434 (fun r1 h2 p1 => ?_) rfl
  obtain ⟨rfl, hC⟩ := p1
  refine v_some ?_
  refine v_aload_n K dL_law_437 rfl ?_
  refine v_aload_n K dL_law_438 rfl ?_
  refine v_iload_n K dL_law_439 rfl ?_
  refine v_iconstN K 1 rfl dL_law_440 ?_
  refine v_iaddN K dL_law_441 ?_
  refine v_scr K S (k := i + 1) (by omega) hL dL_law_442 ?_
  refine v_callVc (As := [.int (xs (i + 1))]) K (c_X10_mend h2 (pt h2 h) τ τk (xs (i + 1)) hC.rr H.2.pt) lL_43 ck_X10 rfl sh_118 (by decide) rfl ⟨by decide, by decide⟩ ⟨by decide, by decide⟩ (Nat.le_of_ble_eq_true rfl) dL_law_443 (fun r2 h3 p2 => ?_) rfl
  obtain ⟨rfl, hR⟩ := p2
  refine v_some ?_
  have e := (pY_mend (cM := h2) (s := h) (xs (i + 1)))
  have hR2 : RR h3 (pt h2 (Y_mend h  (xs (i + 1))).2) := by have q := hR; rw [e] at q; exact q
  exact v_icmp_eq (tgt := 1540) K dL_law_446 rfl (fun _ => kk h3 τ τk (LI.step hC hR2 (I_mend H.2 (xs (i + 1))))) (fun c => absurd (congrArg Prod.fst e).symm c)

theorem arm_thing {κ : KT} {nm : String} {Q : State → Prop} {ρ : Nat → Nat} {L i : Nat} {xs : Nat → Int32} {h : Mm} {τ τk : Nat → List Int32} (K : KOK κ "FoxRoundsLaw" nm code 4 room_1 ret) (S : SX κ ρ L xs) (hL : L ≤ 384) (hi : i + 6 ≤ L) (H : LI h τ τk) (kk : ∀ h' τ' τk', LI h' τ' τk' → V κ Q 4 (132, ρ, GL, 132, 2915) h' 1540 [(3, .int (nI i)), (2, .ref 118), (1, .ref 0), (0, .ref 1040)] []) : V κ Q 4 (132, ρ, GL, 132, 2915) h 451 [(3, .int (nI i)), (2, .ref 118), (1, .ref 0), (0, .ref 1040)] [] := by
  refine v_aload_n K dL_law_451 rfl ?_
  refine v_aload_n K dL_law_452 rfl ?_
  refine v_iload_n K dL_law_453 rfl ?_
  refine v_iconstN K 1 rfl dL_law_454 ?_
  refine v_iaddN K dL_law_455 ?_
  refine v_scr K S (k := i + 1) (by omega) hL dL_law_456 ?_
  refine v_aload_n K dL_law_457 rfl ?_
  refine v_iload_n K dL_law_458 rfl ?_
  refine v_iconstN K 2 rfl dL_law_459 ?_
  refine v_iaddN K dL_law_460 ?_
  refine v_scr K S (k := i + 2) (by omega) hL dL_law_461 ?_
  refine v_callVc (As := [.int (xs (i + 1)), .int (xs (i + 2))]) K (c_X9_thing h h h τ τk (xs (i + 1)) (xs (i + 2)) H.1 H.2) lL_44 ck_X9 rfl sh_0 (by decide) rfl ⟨by decide, by decide⟩ ⟨by decide, by decide⟩ (by decide) dL_law_462 (fun r1 h2 p1 => ?_) rfl
  obtain ⟨rfl, hC⟩ := p1
  refine v_some ?_
  refine v_aload_n K dL_law_465 rfl ?_
  refine v_aload_n K dL_law_466 rfl ?_
  refine v_iload_n K dL_law_467 rfl ?_
  refine v_iconstN K 1 rfl dL_law_468 ?_
  refine v_iaddN K dL_law_469 ?_
  refine v_scr K S (k := i + 1) (by omega) hL dL_law_470 ?_
  refine v_aload_n K dL_law_471 rfl ?_
  refine v_iload_n K dL_law_472 rfl ?_
  refine v_iconstN K 2 rfl dL_law_473 ?_
  refine v_iaddN K dL_law_474 ?_
  refine v_scr K S (k := i + 2) (by omega) hL dL_law_475 ?_
  refine v_callVc (As := [.int (xs (i + 1)), .int (xs (i + 2))]) K (c_X10_thing h2 (pt h2 h) τ τk (xs (i + 1)) (xs (i + 2)) hC.rr H.2.pt) lL_47 ck_X10 rfl sh_118 (by decide) rfl ⟨by decide, by decide⟩ ⟨by decide, by decide⟩ (Nat.le_of_ble_eq_true rfl) dL_law_476 (fun r2 h3 p2 => ?_) rfl
  obtain ⟨rfl, hR⟩ := p2
  refine v_some ?_
  have e := (pY_thing (cM := h2) (s := h) (xs (i + 1)) (xs (i + 2)))
  have hR2 : RR h3 (pt h2 (Y_thing h  (xs (i + 1)) (xs (i + 2))).2) := by have q := hR; rw [e] at q; exact q
  exact v_icmp_eq (tgt := 1540) K dL_law_479 rfl (fun _ => kk h3 τ τk (LI.step hC hR2 (I_thing H.2 (xs (i + 1)) (xs (i + 2))))) (fun c => absurd (congrArg Prod.fst e).symm c)

theorem arm_ofThing {κ : KT} {nm : String} {Q : State → Prop} {ρ : Nat → Nat} {L i : Nat} {xs : Nat → Int32} {h : Mm} {τ τk : Nat → List Int32} (K : KOK κ "FoxRoundsLaw" nm code 4 room_1 ret) (S : SX κ ρ L xs) (hL : L ≤ 384) (hi : i + 6 ≤ L) (H : LI h τ τk) (kk : ∀ h' τ' τk', LI h' τ' τk' → V κ Q 4 (132, ρ, GL, 132, 2915) h' 1540 [(3, .int (nI i)), (2, .ref 118), (1, .ref 0), (0, .ref 1040)] []) : V κ Q 4 (132, ρ, GL, 132, 2915) h 484 [(3, .int (nI i)), (2, .ref 118), (1, .ref 0), (0, .ref 1040)] [] := by
  refine v_aload_n K dL_law_484 rfl ?_
  refine v_aload_n K dL_law_485 rfl ?_
  refine v_iload_n K dL_law_486 rfl ?_
  refine v_iconstN K 1 rfl dL_law_487 ?_
  refine v_iaddN K dL_law_488 ?_
  refine v_scr K S (k := i + 1) (by omega) hL dL_law_489 ?_
  refine v_aload_n K dL_law_490 rfl ?_
  refine v_iload_n K dL_law_491 rfl ?_
  refine v_iconstN K 2 rfl dL_law_492 ?_
  refine v_iaddN K dL_law_493 ?_
  refine v_scr K S (k := i + 2) (by omega) hL dL_law_494 ?_
  refine v_callVc (As := [.int (xs (i + 1)), .int (xs (i + 2))]) K (c_X9_ofThing h h h τ τk (xs (i + 1)) (xs (i + 2)) H.1 H.2) lL_48 ck_X9 rfl sh_0 (by decide) rfl ⟨by decide, by decide⟩ ⟨by decide, by decide⟩ (by decide) dL_law_495 (fun r1 h2 p1 => ?_) rfl
  obtain ⟨rfl, hC⟩ := p1
  refine v_some ?_
  refine v_aload_n K dL_law_498 rfl ?_
  refine v_aload_n K dL_law_499 rfl ?_
  refine v_iload_n K dL_law_500 rfl ?_
  refine v_iconstN K 1 rfl dL_law_501 ?_
  refine v_iaddN K dL_law_502 ?_
  refine v_scr K S (k := i + 1) (by omega) hL dL_law_503 ?_
  refine v_aload_n K dL_law_504 rfl ?_
  refine v_iload_n K dL_law_505 rfl ?_
  refine v_iconstN K 2 rfl dL_law_506 ?_
  refine v_iaddN K dL_law_507 ?_
  refine v_scr K S (k := i + 2) (by omega) hL dL_law_508 ?_
  refine v_callVc (As := [.int (xs (i + 1)), .int (xs (i + 2))]) K (c_X10_ofThing h2 (pt h2 h) τ τk (xs (i + 1)) (xs (i + 2)) hC.rr H.2.pt) lL_51 ck_X10 rfl sh_118 (by decide) rfl ⟨by decide, by decide⟩ ⟨by decide, by decide⟩ (Nat.le_of_ble_eq_true rfl) dL_law_509 (fun r2 h3 p2 => ?_) rfl
  obtain ⟨rfl, hR⟩ := p2
  refine v_some ?_
  have e := (pY_ofThing (cM := h2) (s := h) (xs (i + 1)) (xs (i + 2)))
  have hR2 : RR h3 (pt h2 (Y_ofThing h  (xs (i + 1)) (xs (i + 2))).2) := by have q := hR; rw [e] at q; exact q
  exact v_icmp_eq (tgt := 1540) K dL_law_512 rfl (fun _ => kk h3 τ τk (LI.step hC hR2 (I_ofThing H.2 (xs (i + 1)) (xs (i + 2))))) (fun c => absurd (congrArg Prod.fst e).symm c)

theorem arm_hang {κ : KT} {nm : String} {Q : State → Prop} {ρ : Nat → Nat} {L i : Nat} {xs : Nat → Int32} {h : Mm} {τ τk : Nat → List Int32} (K : KOK κ "FoxRoundsLaw" nm code 4 room_1 ret) (S : SX κ ρ L xs) (hL : L ≤ 384) (hi : i + 6 ≤ L) (H : LI h τ τk) (kk : ∀ h' τ' τk', LI h' τ' τk' → V κ Q 4 (132, ρ, GL, 132, 2915) h' 1540 [(3, .int (nI i)), (2, .ref 118), (1, .ref 0), (0, .ref 1040)] []) : V κ Q 4 (132, ρ, GL, 132, 2915) h 517 [(3, .int (nI i)), (2, .ref 118), (1, .ref 0), (0, .ref 1040)] [] := by
  refine v_aload_n K dL_law_517 rfl ?_
  refine v_aload_n K dL_law_518 rfl ?_
  refine v_iload_n K dL_law_519 rfl ?_
  refine v_iconstN K 1 rfl dL_law_520 ?_
  refine v_iaddN K dL_law_521 ?_
  refine v_scr K S (k := i + 1) (by omega) hL dL_law_522 ?_
  refine v_aload_n K dL_law_523 rfl ?_
  refine v_iload_n K dL_law_524 rfl ?_
  refine v_iconstN K 2 rfl dL_law_525 ?_
  refine v_iaddN K dL_law_526 ?_
  refine v_scr K S (k := i + 2) (by omega) hL dL_law_527 ?_
  refine v_callVc (As := [.int (xs (i + 1)), .int (xs (i + 2))]) K (c_X9_hang h h h τ τk (xs (i + 1)) (xs (i + 2)) H.1 H.2) lL_52 ck_X9 rfl sh_0 (by decide) rfl ⟨by decide, by decide⟩ ⟨by decide, by decide⟩ (by decide) dL_law_528 (fun r1 h2 p1 => ?_) rfl
  obtain ⟨rfl, hC⟩ := p1
  refine v_some ?_
  refine v_aload_n K dL_law_531 rfl ?_
  refine v_aload_n K dL_law_532 rfl ?_
  refine v_iload_n K dL_law_533 rfl ?_
  refine v_iconstN K 1 rfl dL_law_534 ?_
  refine v_iaddN K dL_law_535 ?_
  refine v_scr K S (k := i + 1) (by omega) hL dL_law_536 ?_
  refine v_aload_n K dL_law_537 rfl ?_
  refine v_iload_n K dL_law_538 rfl ?_
  refine v_iconstN K 2 rfl dL_law_539 ?_
  refine v_iaddN K dL_law_540 ?_
  refine v_scr K S (k := i + 2) (by omega) hL dL_law_541 ?_
  refine v_callVc (As := [.int (xs (i + 1)), .int (xs (i + 2))]) K (c_X10_hang h2 (pt h2 h) τ τk (xs (i + 1)) (xs (i + 2)) hC.rr H.2.pt) lL_55 ck_X10 rfl sh_118 (by decide) rfl ⟨by decide, by decide⟩ ⟨by decide, by decide⟩ (Nat.le_of_ble_eq_true rfl) dL_law_542 (fun r2 h3 p2 => ?_) rfl
  obtain ⟨rfl, hR⟩ := p2
  refine v_some ?_
  have e := (pY_hang (cM := h2) (s := h) (xs (i + 1)) (xs (i + 2)))
  have hR2 : RR h3 (pt h2 (Y_hang h  (xs (i + 1)) (xs (i + 2))).2) := by have q := hR; rw [e] at q; exact q
  exact v_icmp_eq (tgt := 1540) K dL_law_545 rfl (fun _ => kk h3 τ τk (LI.step hC hR2 (I_hang H.2 (xs (i + 1)) (xs (i + 2))))) (fun c => absurd (congrArg Prod.fst e).symm c)

theorem arm_bitten {κ : KT} {nm : String} {Q : State → Prop} {ρ : Nat → Nat} {L i : Nat} {xs : Nat → Int32} {h : Mm} {τ τk : Nat → List Int32} (K : KOK κ "FoxRoundsLaw" nm code 4 room_1 ret) (S : SX κ ρ L xs) (hL : L ≤ 384) (hi : i + 6 ≤ L) (H : LI h τ τk) (kk : ∀ h' τ' τk', LI h' τ' τk' → V κ Q 4 (132, ρ, GL, 132, 2915) h' 1540 [(3, .int (nI i)), (2, .ref 118), (1, .ref 0), (0, .ref 1040)] []) : V κ Q 4 (132, ρ, GL, 132, 2915) h 550 [(3, .int (nI i)), (2, .ref 118), (1, .ref 0), (0, .ref 1040)] [] := by
  refine v_aload_n K dL_law_550 rfl ?_
  refine v_callVc (As := []) K (c_X9_bitten h h h τ τk H.1 H.2) lL_56 ck_X9 rfl sh_0 (by decide) rfl ⟨by decide, by decide⟩ ⟨by decide, by decide⟩ (by decide) dL_law_551 (fun r1 h2 p1 => ?_) rfl
  obtain ⟨rfl, hC⟩ := p1
  refine v_some ?_
  refine v_aload_n K dL_law_554 rfl ?_
  refine v_callVc (As := []) K (c_X10_bitten h2 (pt h2 h) τ τk hC.rr H.2.pt) lL_60 ck_X10 rfl sh_118 (by decide) rfl ⟨by decide, by decide⟩ ⟨by decide, by decide⟩ (Nat.le_of_ble_eq_true rfl) dL_law_555 (fun r2 h3 p2 => ?_) rfl
  obtain ⟨rfl, hR⟩ := p2
  refine v_some ?_
  have e := (pY_bitten (cM := h2) (s := h))
  have hR2 : RR h3 (pt h2 (Y_bitten h ).2) := by have q := hR; rw [e] at q; exact q
  exact v_icmp_eq (tgt := 1540) K dL_law_558 rfl (fun _ => kk h3 τ τk (LI.step hC hR2 (I_bitten H.2))) (fun c => absurd (congrArg Prod.fst e).symm c)

theorem arm_bold {κ : KT} {nm : String} {Q : State → Prop} {ρ : Nat → Nat} {L i : Nat} {xs : Nat → Int32} {h : Mm} {τ τk : Nat → List Int32} (K : KOK κ "FoxRoundsLaw" nm code 4 room_1 ret) (S : SX κ ρ L xs) (hL : L ≤ 384) (hi : i + 6 ≤ L) (H : LI h τ τk) (kk : ∀ h' τ' τk', LI h' τ' τk' → V κ Q 4 (132, ρ, GL, 132, 2915) h' 1540 [(3, .int (nI i)), (2, .ref 118), (1, .ref 0), (0, .ref 1040)] []) : V κ Q 4 (132, ρ, GL, 132, 2915) h 563 [(3, .int (nI i)), (2, .ref 118), (1, .ref 0), (0, .ref 1040)] [] := by
  refine v_aload_n K dL_law_563 rfl ?_
  refine v_callVc (As := []) K (c_X9_bold h h h τ τk H.1 H.2) lL_61 ck_X9 rfl sh_0 (by decide) rfl ⟨by decide, by decide⟩ ⟨by decide, by decide⟩ (by decide) dL_law_564 (fun r1 h2 p1 => ?_) rfl
  obtain ⟨rfl, hC⟩ := p1
  refine v_some ?_
  refine v_aload_n K dL_law_567 rfl ?_
  refine v_callVc (As := []) K (c_X10_bold h2 (pt h2 h) τ τk hC.rr H.2.pt) lL_64 ck_X10 rfl sh_118 (by decide) rfl ⟨by decide, by decide⟩ ⟨by decide, by decide⟩ (Nat.le_of_ble_eq_true rfl) dL_law_568 (fun r2 h3 p2 => ?_) rfl
  obtain ⟨rfl, hR⟩ := p2
  refine v_some ?_
  have e := (pY_bold (cM := h2) (s := h))
  have hR2 : RR h3 (pt h2 (Y_bold h ).2) := by have q := hR; rw [e] at q; exact q
  exact v_icmp_eq (tgt := 1540) K dL_law_571 rfl (fun _ => kk h3 τ τk (LI.step hC hR2 (I_bold H.2))) (fun c => absurd (congrArg Prod.fst e).symm c)

theorem arm_feed {κ : KT} {nm : String} {Q : State → Prop} {ρ : Nat → Nat} {L i : Nat} {xs : Nat → Int32} {h : Mm} {τ τk : Nat → List Int32} (K : KOK κ "FoxRoundsLaw" nm code 4 room_1 ret) (S : SX κ ρ L xs) (hL : L ≤ 384) (hi : i + 6 ≤ L) (H : LI h τ τk) (kk : ∀ h' τ' τk', LI h' τ' τk' → V κ Q 4 (132, ρ, GL, 132, 2915) h' 1540 [(3, .int (nI i)), (2, .ref 118), (1, .ref 0), (0, .ref 1040)] []) : V κ Q 4 (132, ρ, GL, 132, 2915) h 576 [(3, .int (nI i)), (2, .ref 118), (1, .ref 0), (0, .ref 1040)] [] := by
  refine v_aload_n K dL_law_576 rfl ?_
  refine v_aload_n K dL_law_577 rfl ?_
  refine v_iload_n K dL_law_578 rfl ?_
  refine v_iconstN K 1 rfl dL_law_579 ?_
  refine v_iaddN K dL_law_580 ?_
  refine v_scr K S (k := i + 1) (by omega) hL dL_law_581 ?_
  refine v_i2l K dL_law_582 rfl ?_
  refine v_bipushN K 32 rfl dL_law_583 ?_
  refine v_lshl K dL_law_585 rfl ?_
  refine v_aload_n K dL_law_586 rfl ?_
  refine v_iload_n K dL_law_587 rfl ?_
  refine v_iconstN K 2 rfl dL_law_588 ?_
  refine v_iaddN K dL_law_589 ?_
  refine v_scr K S (k := i + 2) (by omega) hL dL_law_590 ?_
  refine v_i2l K dL_law_591 rfl ?_
  refine v_ldc2 K kL_65 dL_law_592 ?_
  refine v_land K dL_law_595 ?_
  refine v_lor K dL_law_596 ?_
  refine v_aload_n K dL_law_597 rfl ?_
  refine v_iload_n K dL_law_598 rfl ?_
  refine v_iconstN K 3 rfl dL_law_599 ?_
  refine v_iaddN K dL_law_600 ?_
  refine v_scr K S (k := i + 3) (by omega) hL dL_law_601 ?_
  refine v_callVc (As := [.long ((((xs (i + 1)).toInt64 <<< ((nI 32).toInt64 &&& 63)) ||| ((xs (i + 2)).toInt64 &&& (4294967295)))), .int (xs (i + 3))]) K (c_X9_feed h h h τ τk ((((xs (i + 1)).toInt64 <<< ((nI 32).toInt64 &&& 63)) ||| ((xs (i + 2)).toInt64 &&& (4294967295)))) (xs (i + 3)) H.1 H.2) lL_67 ck_X9 rfl sh_0 (by decide) rfl ⟨by decide, by decide⟩ ⟨by decide, by decide⟩ (by decide) dL_law_602 (fun r1 h2 p1 => ?_) rfl
  obtain ⟨rfl, hC⟩ := p1
  refine v_some ?_
  refine v_aload_n K dL_law_605 rfl ?_
  refine v_aload_n K dL_law_606 rfl ?_
  refine v_iload_n K dL_law_607 rfl ?_
  refine v_iconstN K 1 rfl dL_law_608 ?_
  refine v_iaddN K dL_law_609 ?_
  refine v_scr K S (k := i + 1) (by omega) hL dL_law_610 ?_
  refine v_i2l K dL_law_611 rfl ?_
  refine v_bipushN K 32 rfl dL_law_612 ?_
  refine v_lshl K dL_law_614 rfl ?_
  refine v_aload_n K dL_law_615 rfl ?_
  refine v_iload_n K dL_law_616 rfl ?_
  refine v_iconstN K 2 rfl dL_law_617 ?_
  refine v_iaddN K dL_law_618 ?_
  refine v_scr K S (k := i + 2) (by omega) hL dL_law_619 ?_
  refine v_i2l K dL_law_620 rfl ?_
  refine v_ldc2 K kL_65 dL_law_621 ?_
  refine v_land K dL_law_624 ?_
  refine v_lor K dL_law_625 ?_
  refine v_aload_n K dL_law_626 rfl ?_
  refine v_iload_n K dL_law_627 rfl ?_
  refine v_iconstN K 3 rfl dL_law_628 ?_
  refine v_iaddN K dL_law_629 ?_
  refine v_scr K S (k := i + 3) (by omega) hL dL_law_630 ?_
  refine v_callVc (As := [.long ((((xs (i + 1)).toInt64 <<< ((nI 32).toInt64 &&& 63)) ||| ((xs (i + 2)).toInt64 &&& (4294967295)))), .int (xs (i + 3))]) K (c_X10_feed h2 (pt h2 h) τ τk ((((xs (i + 1)).toInt64 <<< ((nI 32).toInt64 &&& 63)) ||| ((xs (i + 2)).toInt64 &&& (4294967295)))) (xs (i + 3)) hC.rr H.2.pt) lL_71 ck_X10 rfl sh_118 (by decide) rfl ⟨by decide, by decide⟩ ⟨by decide, by decide⟩ (Nat.le_of_ble_eq_true rfl) dL_law_631 (fun r2 h3 p2 => ?_) rfl
  obtain ⟨rfl, hR⟩ := p2
  refine v_some ?_
  have e := (pY_feed (cM := h2) (s := h) ((((xs (i + 1)).toInt64 <<< ((nI 32).toInt64 &&& 63)) ||| ((xs (i + 2)).toInt64 &&& (4294967295)))) (xs (i + 3)))
  have hR2 : RR h3 (pt h2 (Y_feed h  ((((xs (i + 1)).toInt64 <<< ((nI 32).toInt64 &&& 63)) ||| ((xs (i + 2)).toInt64 &&& (4294967295)))) (xs (i + 3))).2) := by have q := hR; rw [e] at q; exact q
  exact v_icmp_eq (tgt := 1540) K dL_law_634 rfl (fun _ => kk h3 τ τk (LI.step hC hR2 (I_feed H.2 ((((xs (i + 1)).toInt64 <<< ((nI 32).toInt64 &&& 63)) ||| ((xs (i + 2)).toInt64 &&& (4294967295)))) (xs (i + 3))))) (fun c => absurd (congrArg Prod.fst e).symm c)

theorem arm_text {κ : KT} {nm : String} {Q : State → Prop} {ρ : Nat → Nat} {L i : Nat} {xs : Nat → Int32} {h : Mm} {τ τk : Nat → List Int32} (K : KOK κ "FoxRoundsLaw" nm code 4 room_1 ret) (S : SX κ ρ L xs) (hL : L ≤ 384) (hi : i + 6 ≤ L) (H : LI h τ τk) (kk : ∀ h' τ' τk', LI h' τ' τk' → V κ Q 4 (132, ρ, GL, 132, 2915) h' 1540 [(3, .int (nI i)), (2, .ref 118), (1, .ref 0), (0, .ref 1040)] []) : V κ Q 4 (132, ρ, GL, 132, 2915) h 639 [(3, .int (nI i)), (2, .ref 118), (1, .ref 0), (0, .ref 1040)] [] := by
  refine v_aload_n K dL_law_639 rfl ?_
  refine v_aload_n K dL_law_640 rfl ?_
  refine v_iload_n K dL_law_641 rfl ?_
  refine v_iconstN K 1 rfl dL_law_642 ?_
  refine v_iaddN K dL_law_643 ?_
  refine v_scr K S (k := i + 1) (by omega) hL dL_law_644 ?_
  refine v_callVc (As := [.int (xs (i + 1))]) K (c_X9_text h h h τ τk (xs (i + 1)) H.1 H.2) lL_72 ck_X9 rfl sh_0 (by decide) rfl ⟨by decide, by decide⟩ ⟨by decide, by decide⟩ (by decide) dL_law_645 (fun r1 h2 p1 => ?_) rfl
  obtain ⟨rfl, hC⟩ := p1
  refine v_some ?_
  refine v_aload_n K dL_law_648 rfl ?_
  refine v_aload_n K dL_law_649 rfl ?_
  refine v_iload_n K dL_law_650 rfl ?_
  refine v_iconstN K 1 rfl dL_law_651 ?_
  refine v_iaddN K dL_law_652 ?_
  refine v_scr K S (k := i + 1) (by omega) hL dL_law_653 ?_
  refine v_callVc (As := [.int (xs (i + 1))]) K (c_X10_text h2 (pt h2 h) τ τk (xs (i + 1)) hC.rr H.2.pt) lL_75 ck_X10 rfl sh_118 (by decide) rfl ⟨by decide, by decide⟩ ⟨by decide, by decide⟩ (Nat.le_of_ble_eq_true rfl) dL_law_654 (fun r2 h3 p2 => ?_) rfl
  obtain ⟨rfl, hR⟩ := p2
  refine v_some ?_
  have e := (pY_text (cM := h2) (s := h) (xs (i + 1)))
  have hR2 : RR h3 (pt h2 (Y_text h  (xs (i + 1))).2) := by have q := hR; rw [e] at q; exact q
  exact v_icmp_eq (tgt := 1540) K dL_law_657 rfl (fun _ => kk h3 (tauT h τ (xs (i + 1))) τk (LI.step hC hR2 (I_text H.2 (xs (i + 1))))) (fun c => absurd (congrArg Prod.fst e).symm c)

theorem arm_law {κ : KT} {nm : String} {Q : State → Prop} {ρ : Nat → Nat} {L i : Nat} {xs : Nat → Int32} {h : Mm} {τ τk : Nat → List Int32} (K : KOK κ "FoxRoundsLaw" nm code 4 room_1 ret) (S : SX κ ρ L xs) (hL : L ≤ 384) (hi : i + 6 ≤ L) (H : LI h τ τk) (kk : ∀ h' τ' τk', LI h' τ' τk' → V κ Q 4 (132, ρ, GL, 132, 2915) h' 1540 [(3, .int (nI i)), (2, .ref 118), (1, .ref 0), (0, .ref 1040)] []) : V κ Q 4 (132, ρ, GL, 132, 2915) h 662 [(3, .int (nI i)), (2, .ref 118), (1, .ref 0), (0, .ref 1040)] [] := by
  refine v_aload_n K dL_law_662 rfl ?_
  refine v_aload_n K dL_law_663 rfl ?_
  refine v_iload_n K dL_law_664 rfl ?_
  refine v_iconstN K 1 rfl dL_law_665 ?_
  refine v_iaddN K dL_law_666 ?_
  refine v_scr K S (k := i + 1) (by omega) hL dL_law_667 ?_
  refine v_aload_n K dL_law_668 rfl ?_
  refine v_iload_n K dL_law_669 rfl ?_
  refine v_iconstN K 2 rfl dL_law_670 ?_
  refine v_iaddN K dL_law_671 ?_
  refine v_scr K S (k := i + 2) (by omega) hL dL_law_672 ?_
  refine v_aload_n K dL_law_673 rfl ?_
  refine v_iload_n K dL_law_674 rfl ?_
  refine v_iconstN K 3 rfl dL_law_675 ?_
  refine v_iaddN K dL_law_676 ?_
  refine v_scr K S (k := i + 3) (by omega) hL dL_law_677 ?_
  refine v_aload_n K dL_law_678 rfl ?_
  refine v_iload_n K dL_law_679 rfl ?_
  refine v_iconstN K 4 rfl dL_law_680 ?_
  refine v_iaddN K dL_law_681 ?_
  refine v_scr K S (k := i + 4) (by omega) hL dL_law_682 ?_
  refine v_callVc (As := [.int (xs (i + 1)), .int (xs (i + 2)), .int (xs (i + 3)), .int (xs (i + 4))]) K (c_X9_law h h h τ τk (xs (i + 1)) (xs (i + 2)) (xs (i + 3)) (xs (i + 4)) H.1 H.2) lL_76 ck_X9 rfl sh_0 (by decide) rfl ⟨by decide, by decide⟩ ⟨by decide, by decide⟩ (by decide) dL_law_683 (fun r1 h2 p1 => ?_) rfl
  obtain ⟨rfl, hC⟩ := p1
  refine v_some ?_
  refine v_aload_n K dL_law_686 rfl ?_
  refine v_aload_n K dL_law_687 rfl ?_
  refine v_iload_n K dL_law_688 rfl ?_
  refine v_iconstN K 1 rfl dL_law_689 ?_
  refine v_iaddN K dL_law_690 ?_
  refine v_scr K S (k := i + 1) (by omega) hL dL_law_691 ?_
  refine v_aload_n K dL_law_692 rfl ?_
  refine v_iload_n K dL_law_693 rfl ?_
  refine v_iconstN K 2 rfl dL_law_694 ?_
  refine v_iaddN K dL_law_695 ?_
  refine v_scr K S (k := i + 2) (by omega) hL dL_law_696 ?_
  refine v_aload_n K dL_law_697 rfl ?_
  refine v_iload_n K dL_law_698 rfl ?_
  refine v_iconstN K 3 rfl dL_law_699 ?_
  refine v_iaddN K dL_law_700 ?_
  refine v_scr K S (k := i + 3) (by omega) hL dL_law_701 ?_
  refine v_aload_n K dL_law_702 rfl ?_
  refine v_iload_n K dL_law_703 rfl ?_
  refine v_iconstN K 4 rfl dL_law_704 ?_
  refine v_iaddN K dL_law_705 ?_
  refine v_scr K S (k := i + 4) (by omega) hL dL_law_706 ?_
  refine v_callVc (As := [.int (xs (i + 1)), .int (xs (i + 2)), .int (xs (i + 3)), .int (xs (i + 4))]) K (c_X10_law h2 (pt h2 h) τ τk (xs (i + 1)) (xs (i + 2)) (xs (i + 3)) (xs (i + 4)) hC.rr H.2.pt) lL_80 ck_X10 rfl sh_118 (by decide) rfl ⟨by decide, by decide⟩ ⟨by decide, by decide⟩ (Nat.le_of_ble_eq_true rfl) dL_law_707 (fun r2 h3 p2 => ?_) rfl
  obtain ⟨rfl, hR⟩ := p2
  refine v_some ?_
  have e := (pY_law (cM := h2) (s := h) τ (xs (i + 1)) (xs (i + 2)) (xs (i + 3)) (xs (i + 4)))
  have hR2 : RR h3 (pt h2 (Y_law h τ (xs (i + 1)) (xs (i + 2)) (xs (i + 3)) (xs (i + 4))).2) := by have q := hR; rw [e] at q; exact q
  exact v_icmp_eq (tgt := 1540) K dL_law_710 rfl (fun _ => kk h3 τ τk (LI.step hC hR2 (I_law H.2 (xs (i + 1)) (xs (i + 2)) (xs (i + 3)) (xs (i + 4))))) (fun c => absurd (congrArg Prod.fst e).symm c)

theorem arm_nights {κ : KT} {nm : String} {Q : State → Prop} {ρ : Nat → Nat} {L i : Nat} {xs : Nat → Int32} {h : Mm} {τ τk : Nat → List Int32} (K : KOK κ "FoxRoundsLaw" nm code 4 room_1 ret) (S : SX κ ρ L xs) (hL : L ≤ 384) (hi : i + 6 ≤ L) (H : LI h τ τk) (kk : ∀ h' τ' τk', LI h' τ' τk' → V κ Q 4 (132, ρ, GL, 132, 2915) h' 1540 [(3, .int (nI i)), (2, .ref 118), (1, .ref 0), (0, .ref 1040)] []) : V κ Q 4 (132, ρ, GL, 132, 2915) h 715 [(3, .int (nI i)), (2, .ref 118), (1, .ref 0), (0, .ref 1040)] [] := by
  refine v_aload_n K dL_law_715 rfl ?_
  refine v_aload_n K dL_law_716 rfl ?_
  refine v_iload_n K dL_law_717 rfl ?_
  refine v_iconstN K 1 rfl dL_law_718 ?_
  refine v_iaddN K dL_law_719 ?_
  refine v_scr K S (k := i + 1) (by omega) hL dL_law_720 ?_
  refine v_callVc (As := [.int (xs (i + 1))]) K (c_X9_nights h h h τ τk (xs (i + 1)) H.1 H.2) lL_81 ck_X9 rfl sh_0 (by decide) rfl ⟨by decide, by decide⟩ ⟨by decide, by decide⟩ (by decide) dL_law_721 (fun r1 h2 p1 => ?_) rfl
  obtain ⟨rfl, hC⟩ := p1
  refine v_some ?_
  refine v_aload_n K dL_law_724 rfl ?_
  refine v_aload_n K dL_law_725 rfl ?_
  refine v_iload_n K dL_law_726 rfl ?_
  refine v_iconstN K 1 rfl dL_law_727 ?_
  refine v_iaddN K dL_law_728 ?_
  refine v_scr K S (k := i + 1) (by omega) hL dL_law_729 ?_
  refine v_callVc (As := [.int (xs (i + 1))]) K (c_X10_nights h2 (pt h2 h) τ τk (xs (i + 1)) hC.rr H.2.pt) lL_84 ck_X10 rfl sh_118 (by decide) rfl ⟨by decide, by decide⟩ ⟨by decide, by decide⟩ (Nat.le_of_ble_eq_true rfl) dL_law_730 (fun r2 h3 p2 => ?_) rfl
  obtain ⟨rfl, hR⟩ := p2
  refine v_some ?_
  have e := (pY_nights (cM := h2) (s := h) τ (xs (i + 1)))
  have hR2 : RR h3 (pt h2 (Y_nights h τ (xs (i + 1))).2) := by have q := hR; rw [e] at q; exact q
  exact v_icmp_eq (tgt := 1540) K dL_law_733 rfl (fun _ => kk h3 τ τk (LI.step hC hR2 (I_nights H.2 (xs (i + 1))))) (fun c => absurd (congrArg Prod.fst e).symm c)

theorem arm_careless {κ : KT} {nm : String} {Q : State → Prop} {ρ : Nat → Nat} {L i : Nat} {xs : Nat → Int32} {h : Mm} {τ τk : Nat → List Int32} (K : KOK κ "FoxRoundsLaw" nm code 4 room_1 ret) (S : SX κ ρ L xs) (hL : L ≤ 384) (hi : i + 6 ≤ L) (H : LI h τ τk) (kk : ∀ h' τ' τk', LI h' τ' τk' → V κ Q 4 (132, ρ, GL, 132, 2915) h' 1540 [(3, .int (nI i)), (2, .ref 118), (1, .ref 0), (0, .ref 1040)] []) : V κ Q 4 (132, ρ, GL, 132, 2915) h 738 [(3, .int (nI i)), (2, .ref 118), (1, .ref 0), (0, .ref 1040)] [] := by
  refine v_aload_n K dL_law_738 rfl ?_
  refine v_aload_n K dL_law_739 rfl ?_
  refine v_iload_n K dL_law_740 rfl ?_
  refine v_iconstN K 1 rfl dL_law_741 ?_
  refine v_iaddN K dL_law_742 ?_
  refine v_scr K S (k := i + 1) (by omega) hL dL_law_743 ?_
  refine v_aload_n K dL_law_744 rfl ?_
  refine v_iload_n K dL_law_745 rfl ?_
  refine v_iconstN K 2 rfl dL_law_746 ?_
  refine v_iaddN K dL_law_747 ?_
  refine v_scr K S (k := i + 2) (by omega) hL dL_law_748 ?_
  refine v_callVc (As := [.int (xs (i + 1)), .int (xs (i + 2))]) K (c_X9_careless h h h τ τk (xs (i + 1)) (xs (i + 2)) H.1 H.2) lL_85 ck_X9 rfl sh_0 (by decide) rfl ⟨by decide, by decide⟩ ⟨by decide, by decide⟩ (by decide) dL_law_749 (fun r1 h2 p1 => ?_) rfl
  obtain ⟨rfl, hC⟩ := p1
  refine v_some ?_
  refine v_aload_n K dL_law_752 rfl ?_
  refine v_aload_n K dL_law_753 rfl ?_
  refine v_iload_n K dL_law_754 rfl ?_
  refine v_iconstN K 1 rfl dL_law_755 ?_
  refine v_iaddN K dL_law_756 ?_
  refine v_scr K S (k := i + 1) (by omega) hL dL_law_757 ?_
  refine v_aload_n K dL_law_758 rfl ?_
  refine v_iload_n K dL_law_759 rfl ?_
  refine v_iconstN K 2 rfl dL_law_760 ?_
  refine v_iaddN K dL_law_761 ?_
  refine v_scr K S (k := i + 2) (by omega) hL dL_law_762 ?_
  refine v_callVc (As := [.int (xs (i + 1)), .int (xs (i + 2))]) K (c_X10_careless h2 (pt h2 h) τ τk (xs (i + 1)) (xs (i + 2)) hC.rr H.2.pt) lL_88 ck_X10 rfl sh_118 (by decide) rfl ⟨by decide, by decide⟩ ⟨by decide, by decide⟩ (Nat.le_of_ble_eq_true rfl) dL_law_763 (fun r2 h3 p2 => ?_) rfl
  obtain ⟨rfl, hR⟩ := p2
  refine v_some ?_
  have e := (pY_careless (cM := h2) (s := h) τ (xs (i + 1)) (xs (i + 2)))
  have hR2 : RR h3 (pt h2 (Y_careless h τ (xs (i + 1)) (xs (i + 2))).2) := by have q := hR; rw [e] at q; exact q
  exact v_icmp_eq (tgt := 1540) K dL_law_766 rfl (fun _ => kk h3 τ τk (LI.step hC hR2 (I_careless H.2 (xs (i + 1)) (xs (i + 2))))) (fun c => absurd (congrArg Prod.fst e).symm c)

theorem arm_then {κ : KT} {nm : String} {Q : State → Prop} {ρ : Nat → Nat} {L i : Nat} {xs : Nat → Int32} {h : Mm} {τ τk : Nat → List Int32} (K : KOK κ "FoxRoundsLaw" nm code 4 room_1 ret) (S : SX κ ρ L xs) (hL : L ≤ 384) (hi : i + 6 ≤ L) (H : LI h τ τk) (kk : ∀ h' τ' τk', LI h' τ' τk' → V κ Q 4 (132, ρ, GL, 132, 2915) h' 1540 [(3, .int (nI i)), (2, .ref 118), (1, .ref 0), (0, .ref 1040)] []) : V κ Q 4 (132, ρ, GL, 132, 2915) h 771 [(3, .int (nI i)), (2, .ref 118), (1, .ref 0), (0, .ref 1040)] [] := by
  refine v_aload_n K dL_law_771 rfl ?_
  refine v_aload_n K dL_law_772 rfl ?_
  refine v_iload_n K dL_law_773 rfl ?_
  refine v_iconstN K 1 rfl dL_law_774 ?_
  refine v_iaddN K dL_law_775 ?_
  refine v_scr K S (k := i + 1) (by omega) hL dL_law_776 ?_
  refine v_aload_n K dL_law_777 rfl ?_
  refine v_iload_n K dL_law_778 rfl ?_
  refine v_iconstN K 2 rfl dL_law_779 ?_
  refine v_iaddN K dL_law_780 ?_
  refine v_scr K S (k := i + 2) (by omega) hL dL_law_781 ?_
  refine v_callVc (As := [.int (xs (i + 1)), .int (xs (i + 2))]) K (c_X9_then h h h τ τk (xs (i + 1)) (xs (i + 2)) H.1 H.2) lL_89 ck_X9 rfl sh_0 (by decide) rfl ⟨by decide, by decide⟩ ⟨by decide, by decide⟩ (by decide) dL_law_782 (fun r1 h2 p1 => ?_) rfl
  obtain ⟨rfl, hC⟩ := p1
  refine v_some ?_
  refine v_aload_n K dL_law_785 rfl ?_
  refine v_aload_n K dL_law_786 rfl ?_
  refine v_iload_n K dL_law_787 rfl ?_
  refine v_iconstN K 1 rfl dL_law_788 ?_
  refine v_iaddN K dL_law_789 ?_
  refine v_scr K S (k := i + 1) (by omega) hL dL_law_790 ?_
  refine v_aload_n K dL_law_791 rfl ?_
  refine v_iload_n K dL_law_792 rfl ?_
  refine v_iconstN K 2 rfl dL_law_793 ?_
  refine v_iaddN K dL_law_794 ?_
  refine v_scr K S (k := i + 2) (by omega) hL dL_law_795 ?_
  refine v_callVc (As := [.int (xs (i + 1)), .int (xs (i + 2))]) K (c_X10_then h2 (pt h2 h) τ τk (xs (i + 1)) (xs (i + 2)) hC.rr H.2.pt) lL_92 ck_X10 rfl sh_118 (by decide) rfl ⟨by decide, by decide⟩ ⟨by decide, by decide⟩ (Nat.le_of_ble_eq_true rfl) dL_law_796 (fun r2 h3 p2 => ?_) rfl
  obtain ⟨rfl, hR⟩ := p2
  refine v_some ?_
  have e := (pY_then (cM := h2) (s := h) τ (xs (i + 1)) (xs (i + 2)))
  have hR2 : RR h3 (pt h2 (Y_then h τ (xs (i + 1)) (xs (i + 2))).2) := by have q := hR; rw [e] at q; exact q
  exact v_icmp_eq (tgt := 1540) K dL_law_799 rfl (fun _ => kk h3 τ τk (LI.step hC hR2 (I_then H.2 (xs (i + 1)) (xs (i + 2))))) (fun c => absurd (congrArg Prod.fst e).symm c)

theorem arm_thenWay {κ : KT} {nm : String} {Q : State → Prop} {ρ : Nat → Nat} {L i : Nat} {xs : Nat → Int32} {h : Mm} {τ τk : Nat → List Int32} (K : KOK κ "FoxRoundsLaw" nm code 4 room_1 ret) (S : SX κ ρ L xs) (hL : L ≤ 384) (hi : i + 6 ≤ L) (H : LI h τ τk) (kk : ∀ h' τ' τk', LI h' τ' τk' → V κ Q 4 (132, ρ, GL, 132, 2915) h' 1540 [(3, .int (nI i)), (2, .ref 118), (1, .ref 0), (0, .ref 1040)] []) : V κ Q 4 (132, ρ, GL, 132, 2915) h 804 [(3, .int (nI i)), (2, .ref 118), (1, .ref 0), (0, .ref 1040)] [] := by
  refine v_aload_n K dL_law_804 rfl ?_
  refine v_aload_n K dL_law_805 rfl ?_
  refine v_iload_n K dL_law_806 rfl ?_
  refine v_iconstN K 1 rfl dL_law_807 ?_
  refine v_iaddN K dL_law_808 ?_
  refine v_scr K S (k := i + 1) (by omega) hL dL_law_809 ?_
  refine v_aload_n K dL_law_810 rfl ?_
  refine v_iload_n K dL_law_811 rfl ?_
  refine v_iconstN K 2 rfl dL_law_812 ?_
  refine v_iaddN K dL_law_813 ?_
  refine v_scr K S (k := i + 2) (by omega) hL dL_law_814 ?_
  refine v_aload_n K dL_law_815 rfl ?_
  refine v_iload_n K dL_law_816 rfl ?_
  refine v_iconstN K 3 rfl dL_law_817 ?_
  refine v_iaddN K dL_law_818 ?_
  refine v_scr K S (k := i + 3) (by omega) hL dL_law_819 ?_
  refine v_callVc (As := [.int (xs (i + 1)), .int (xs (i + 2)), .int (xs (i + 3))]) K (c_X9_thenWay h h h τ τk (xs (i + 1)) (xs (i + 2)) (xs (i + 3)) H.1 H.2) lL_93 ck_X9 rfl sh_0 (by decide) rfl ⟨by decide, by decide⟩ ⟨by decide, by decide⟩ (by decide) dL_law_820 (fun r1 h2 p1 => ?_) rfl
  obtain ⟨rfl, hC⟩ := p1
  refine v_some ?_
  refine v_aload_n K dL_law_823 rfl ?_
  refine v_aload_n K dL_law_824 rfl ?_
  refine v_iload_n K dL_law_825 rfl ?_
  refine v_iconstN K 1 rfl dL_law_826 ?_
  refine v_iaddN K dL_law_827 ?_
  refine v_scr K S (k := i + 1) (by omega) hL dL_law_828 ?_
  refine v_aload_n K dL_law_829 rfl ?_
  refine v_iload_n K dL_law_830 rfl ?_
  refine v_iconstN K 2 rfl dL_law_831 ?_
  refine v_iaddN K dL_law_832 ?_
  refine v_scr K S (k := i + 2) (by omega) hL dL_law_833 ?_
  refine v_aload_n K dL_law_834 rfl ?_
  refine v_iload_n K dL_law_835 rfl ?_
  refine v_iconstN K 3 rfl dL_law_836 ?_
  refine v_iaddN K dL_law_837 ?_
  refine v_scr K S (k := i + 3) (by omega) hL dL_law_838 ?_
  refine v_callVc (As := [.int (xs (i + 1)), .int (xs (i + 2)), .int (xs (i + 3))]) K (c_X10_thenWay h2 (pt h2 h) τ τk (xs (i + 1)) (xs (i + 2)) (xs (i + 3)) hC.rr H.2.pt) lL_96 ck_X10 rfl sh_118 (by decide) rfl ⟨by decide, by decide⟩ ⟨by decide, by decide⟩ (Nat.le_of_ble_eq_true rfl) dL_law_839 (fun r2 h3 p2 => ?_) rfl
  obtain ⟨rfl, hR⟩ := p2
  refine v_some ?_
  have e := (pY_thenWay (cM := h2) (s := h) τ (xs (i + 1)) (xs (i + 2)) (xs (i + 3)))
  have hR2 : RR h3 (pt h2 (Y_thenWay h τ (xs (i + 1)) (xs (i + 2)) (xs (i + 3))).2) := by have q := hR; rw [e] at q; exact q
  exact v_icmp_eq (tgt := 1540) K dL_law_842 rfl (fun _ => kk h3 τ τk (LI.step hC hR2 (I_thenWay H.2 (xs (i + 1)) (xs (i + 2)) (xs (i + 3))))) (fun c => absurd (congrArg Prod.fst e).symm c)

theorem arm_loss {κ : KT} {nm : String} {Q : State → Prop} {ρ : Nat → Nat} {L i : Nat} {xs : Nat → Int32} {h : Mm} {τ τk : Nat → List Int32} (K : KOK κ "FoxRoundsLaw" nm code 4 room_1 ret) (S : SX κ ρ L xs) (hL : L ≤ 384) (hi : i + 6 ≤ L) (H : LI h τ τk) (kk : ∀ h' τ' τk', LI h' τ' τk' → V κ Q 4 (132, ρ, GL, 132, 2915) h' 1540 [(3, .int (nI i)), (2, .ref 118), (1, .ref 0), (0, .ref 1040)] []) : V κ Q 4 (132, ρ, GL, 132, 2915) h 847 [(3, .int (nI i)), (2, .ref 118), (1, .ref 0), (0, .ref 1040)] [] := by
  refine v_aload_n K dL_law_847 rfl ?_
  refine v_aload_n K dL_law_848 rfl ?_
  refine v_iload_n K dL_law_849 rfl ?_
  refine v_iconstN K 1 rfl dL_law_850 ?_
  refine v_iaddN K dL_law_851 ?_
  refine v_scr K S (k := i + 1) (by omega) hL dL_law_852 ?_
  refine v_callVc (As := [.int (xs (i + 1))]) K (c_X9_loss h h h τ τk (xs (i + 1)) H.1 H.2) lL_97 ck_X9 rfl sh_0 (by decide) rfl ⟨by decide, by decide⟩ ⟨by decide, by decide⟩ (by decide) dL_law_853 (fun r1 h2 p1 => ?_) rfl
  obtain ⟨rfl, hC⟩ := p1
  refine v_some ?_
  refine v_aload_n K dL_law_856 rfl ?_
  refine v_aload_n K dL_law_857 rfl ?_
  refine v_iload_n K dL_law_858 rfl ?_
  refine v_iconstN K 1 rfl dL_law_859 ?_
  refine v_iaddN K dL_law_860 ?_
  refine v_scr K S (k := i + 1) (by omega) hL dL_law_861 ?_
  refine v_callVc (As := [.int (xs (i + 1))]) K (c_X10_loss h2 (pt h2 h) τ τk (xs (i + 1)) hC.rr H.2.pt) lL_100 ck_X10 rfl sh_118 (by decide) rfl ⟨by decide, by decide⟩ ⟨by decide, by decide⟩ (Nat.le_of_ble_eq_true rfl) dL_law_862 (fun r2 h3 p2 => ?_) rfl
  obtain ⟨rfl, hR⟩ := p2
  refine v_some ?_
  have e := (pY_loss (cM := h2) (s := h) τ (xs (i + 1)))
  have hR2 : RR h3 (pt h2 (Y_loss h τ (xs (i + 1))).2) := by have q := hR; rw [e] at q; exact q
  exact v_icmp_eq (tgt := 1540) K dL_law_865 rfl (fun _ => kk h3 τ τk (LI.step hC hR2 (I_loss H.2 (xs (i + 1))))) (fun c => absurd (congrArg Prod.fst e).symm c)

theorem arm_by {κ : KT} {nm : String} {Q : State → Prop} {ρ : Nat → Nat} {L i : Nat} {xs : Nat → Int32} {h : Mm} {τ τk : Nat → List Int32} (K : KOK κ "FoxRoundsLaw" nm code 4 room_1 ret) (S : SX κ ρ L xs) (hL : L ≤ 384) (hi : i + 6 ≤ L) (H : LI h τ τk) (kk : ∀ h' τ' τk', LI h' τ' τk' → V κ Q 4 (132, ρ, GL, 132, 2915) h' 1540 [(3, .int (nI i)), (2, .ref 118), (1, .ref 0), (0, .ref 1040)] []) : V κ Q 4 (132, ρ, GL, 132, 2915) h 870 [(3, .int (nI i)), (2, .ref 118), (1, .ref 0), (0, .ref 1040)] [] := by
  refine v_aload_n K dL_law_870 rfl ?_
  refine v_callVc (As := []) K (c_X9_by h h h τ τk H.1 H.2) lL_101 ck_X9 rfl sh_0 (by decide) rfl ⟨by decide, by decide⟩ ⟨by decide, by decide⟩ (by decide) dL_law_871 (fun r1 h2 p1 => ?_) rfl
  obtain ⟨rfl, hC⟩ := p1
  refine v_some ?_
  refine v_aload_n K dL_law_874 rfl ?_
  refine v_callVc (As := []) K (c_X10_by h2 (pt h2 h) τ τk hC.rr H.2.pt) lL_104 ck_X10 rfl sh_118 (by decide) rfl ⟨by decide, by decide⟩ ⟨by decide, by decide⟩ (Nat.le_of_ble_eq_true rfl) dL_law_875 (fun r2 h3 p2 => ?_) rfl
  obtain ⟨rfl, hR⟩ := p2
  refine v_some ?_
  have e := (pY_by (cM := h2) (s := h) τ)
  have hR2 : RR h3 (pt h2 (Y_by h τ).2) := by have q := hR; rw [e] at q; exact q
  exact v_icmp_eq (tgt := 1540) K dL_law_878 rfl (fun _ => kk h3 τ τk (LI.step hC hR2 (I_by H.2))) (fun c => absurd (congrArg Prod.fst e).symm c)

theorem arm_mends {κ : KT} {nm : String} {Q : State → Prop} {ρ : Nat → Nat} {L i : Nat} {xs : Nat → Int32} {h : Mm} {τ τk : Nat → List Int32} (K : KOK κ "FoxRoundsLaw" nm code 4 room_1 ret) (S : SX κ ρ L xs) (hL : L ≤ 384) (hi : i + 6 ≤ L) (H : LI h τ τk) (kk : ∀ h' τ' τk', LI h' τ' τk' → V κ Q 4 (132, ρ, GL, 132, 2915) h' 1540 [(3, .int (nI i)), (2, .ref 118), (1, .ref 0), (0, .ref 1040)] []) : V κ Q 4 (132, ρ, GL, 132, 2915) h 883 [(3, .int (nI i)), (2, .ref 118), (1, .ref 0), (0, .ref 1040)] [] := by
  refine v_aload_n K dL_law_883 rfl ?_
  refine v_aload_n K dL_law_884 rfl ?_
  refine v_iload_n K dL_law_885 rfl ?_
  refine v_iconstN K 1 rfl dL_law_886 ?_
  refine v_iaddN K dL_law_887 ?_
  refine v_scr K S (k := i + 1) (by omega) hL dL_law_888 ?_
  refine v_aload_n K dL_law_889 rfl ?_
  refine v_iload_n K dL_law_890 rfl ?_
  refine v_iconstN K 2 rfl dL_law_891 ?_
  refine v_iaddN K dL_law_892 ?_
  refine v_scr K S (k := i + 2) (by omega) hL dL_law_893 ?_
  refine v_aload_n K dL_law_894 rfl ?_
  refine v_iload_n K dL_law_895 rfl ?_
  refine v_iconstN K 3 rfl dL_law_896 ?_
  refine v_iaddN K dL_law_897 ?_
  refine v_scr K S (k := i + 3) (by omega) hL dL_law_898 ?_
  refine v_callVc (As := [.int (xs (i + 1)), .int (xs (i + 2)), .int (xs (i + 3))]) K (c_X9_mends h h h τ τk (xs (i + 1)) (xs (i + 2)) (xs (i + 3)) H.1 H.2) lL_105 ck_X9 rfl sh_0 (by decide) rfl ⟨by decide, by decide⟩ ⟨by decide, by decide⟩ (by decide) dL_law_899 (fun r1 h2 p1 => ?_) rfl
  obtain ⟨rfl, hC⟩ := p1
  refine v_some ?_
  refine v_aload_n K dL_law_902 rfl ?_
  refine v_aload_n K dL_law_903 rfl ?_
  refine v_iload_n K dL_law_904 rfl ?_
  refine v_iconstN K 1 rfl dL_law_905 ?_
  refine v_iaddN K dL_law_906 ?_
  refine v_scr K S (k := i + 1) (by omega) hL dL_law_907 ?_
  refine v_aload_n K dL_law_908 rfl ?_
  refine v_iload_n K dL_law_909 rfl ?_
  refine v_iconstN K 2 rfl dL_law_910 ?_
  refine v_iaddN K dL_law_911 ?_
  refine v_scr K S (k := i + 2) (by omega) hL dL_law_912 ?_
  refine v_aload_n K dL_law_913 rfl ?_
  refine v_iload_n K dL_law_914 rfl ?_
  refine v_iconstN K 3 rfl dL_law_915 ?_
  refine v_iaddN K dL_law_916 ?_
  refine v_scr K S (k := i + 3) (by omega) hL dL_law_917 ?_
  refine v_callVc (As := [.int (xs (i + 1)), .int (xs (i + 2)), .int (xs (i + 3))]) K (c_X10_mends_ h2 (pt h2 h) τ τk (xs (i + 1)) (xs (i + 2)) (xs (i + 3)) hC.rr H.2.pt) lL_108 ck_X10 rfl sh_118 (by decide) rfl ⟨by decide, by decide⟩ ⟨by decide, by decide⟩ (Nat.le_of_ble_eq_true rfl) dL_law_918 (fun r2 h3 p2 => ?_) rfl
  obtain ⟨rfl, hR⟩ := p2
  refine v_some ?_
  have e := (pY_mends (cM := h2) (s := h) τ (xs (i + 1)) (xs (i + 2)) (xs (i + 3)))
  have hR2 : RR h3 (pt h2 (Y_mends h τ (xs (i + 1)) (xs (i + 2)) (xs (i + 3))).2) := by have q := hR; rw [e] at q; exact q
  exact v_icmp_eq (tgt := 1540) K dL_law_921 rfl (fun _ => kk h3 τ τk (LI.step hC hR2 (I_mends H.2 (xs (i + 1)) (xs (i + 2)) (xs (i + 3))))) (fun c => absurd (congrArg Prod.fst e).symm c)

theorem arm_hangs {κ : KT} {nm : String} {Q : State → Prop} {ρ : Nat → Nat} {L i : Nat} {xs : Nat → Int32} {h : Mm} {τ τk : Nat → List Int32} (K : KOK κ "FoxRoundsLaw" nm code 4 room_1 ret) (S : SX κ ρ L xs) (hL : L ≤ 384) (hi : i + 6 ≤ L) (H : LI h τ τk) (kk : ∀ h' τ' τk', LI h' τ' τk' → V κ Q 4 (132, ρ, GL, 132, 2915) h' 1540 [(3, .int (nI i)), (2, .ref 118), (1, .ref 0), (0, .ref 1040)] []) : V κ Q 4 (132, ρ, GL, 132, 2915) h 926 [(3, .int (nI i)), (2, .ref 118), (1, .ref 0), (0, .ref 1040)] [] := by
  refine v_aload_n K dL_law_926 rfl ?_
  refine v_aload_n K dL_law_927 rfl ?_
  refine v_iload_n K dL_law_928 rfl ?_
  refine v_iconstN K 1 rfl dL_law_929 ?_
  refine v_iaddN K dL_law_930 ?_
  refine v_scr K S (k := i + 1) (by omega) hL dL_law_931 ?_
  refine v_aload_n K dL_law_932 rfl ?_
  refine v_iload_n K dL_law_933 rfl ?_
  refine v_iconstN K 2 rfl dL_law_934 ?_
  refine v_iaddN K dL_law_935 ?_
  refine v_scr K S (k := i + 2) (by omega) hL dL_law_936 ?_
  refine v_callVc (As := [.int (xs (i + 1)), .int (xs (i + 2))]) K (c_X9_hangs h h h τ τk (xs (i + 1)) (xs (i + 2)) H.1 H.2) lL_109 ck_X9 rfl sh_0 (by decide) rfl ⟨by decide, by decide⟩ ⟨by decide, by decide⟩ (by decide) dL_law_937 (fun r1 h2 p1 => ?_) rfl
  obtain ⟨rfl, hC⟩ := p1
  refine v_some ?_
  refine v_aload_n K dL_law_940 rfl ?_
  refine v_aload_n K dL_law_941 rfl ?_
  refine v_iload_n K dL_law_942 rfl ?_
  refine v_iconstN K 1 rfl dL_law_943 ?_
  refine v_iaddN K dL_law_944 ?_
  refine v_scr K S (k := i + 1) (by omega) hL dL_law_945 ?_
  refine v_aload_n K dL_law_946 rfl ?_
  refine v_iload_n K dL_law_947 rfl ?_
  refine v_iconstN K 2 rfl dL_law_948 ?_
  refine v_iaddN K dL_law_949 ?_
  refine v_scr K S (k := i + 2) (by omega) hL dL_law_950 ?_
  refine v_callVc (As := [.int (xs (i + 1)), .int (xs (i + 2))]) K (c_X10_hangs h2 (pt h2 h) τ τk (xs (i + 1)) (xs (i + 2)) hC.rr H.2.pt) lL_112 ck_X10 rfl sh_118 (by decide) rfl ⟨by decide, by decide⟩ ⟨by decide, by decide⟩ (Nat.le_of_ble_eq_true rfl) dL_law_951 (fun r2 h3 p2 => ?_) rfl
  obtain ⟨rfl, hR⟩ := p2
  refine v_some ?_
  have e := (pY_hangs (cM := h2) (s := h) τ (xs (i + 1)) (xs (i + 2)))
  have hR2 : RR h3 (pt h2 (Y_hangs h τ (xs (i + 1)) (xs (i + 2))).2) := by have q := hR; rw [e] at q; exact q
  exact v_icmp_eq (tgt := 1540) K dL_law_954 rfl (fun _ => kk h3 τ τk (LI.step hC hR2 (I_hangs H.2 (xs (i + 1)) (xs (i + 2))))) (fun c => absurd (congrArg Prod.fst e).symm c)

theorem arm_dusk {κ : KT} {nm : String} {Q : State → Prop} {ρ : Nat → Nat} {L i : Nat} {xs : Nat → Int32} {h : Mm} {τ τk : Nat → List Int32} (K : KOK κ "FoxRoundsLaw" nm code 4 room_1 ret) (S : SX κ ρ L xs) (hL : L ≤ 384) (hi : i + 6 ≤ L) (H : LI h τ τk) (kk : ∀ h' τ' τk', LI h' τ' τk' → V κ Q 4 (132, ρ, GL, 132, 2915) h' 1540 [(3, .int (nI i)), (2, .ref 118), (1, .ref 0), (0, .ref 1040)] []) : V κ Q 4 (132, ρ, GL, 132, 2915) h 959 [(3, .int (nI i)), (2, .ref 118), (1, .ref 0), (0, .ref 1040)] [] := by
  refine v_aload_n K dL_law_959 rfl ?_
  refine v_aload_n K dL_law_960 rfl ?_
  refine v_iload_n K dL_law_961 rfl ?_
  refine v_iconstN K 1 rfl dL_law_962 ?_
  refine v_iaddN K dL_law_963 ?_
  refine v_scr K S (k := i + 1) (by omega) hL dL_law_964 ?_
  refine v_aload_n K dL_law_965 rfl ?_
  refine v_iload_n K dL_law_966 rfl ?_
  refine v_iconstN K 2 rfl dL_law_967 ?_
  refine v_iaddN K dL_law_968 ?_
  refine v_scr K S (k := i + 2) (by omega) hL dL_law_969 ?_
  refine v_callVc (As := [.int (xs (i + 1)), .int (xs (i + 2))]) K (c_X9_dusk h h h τ τk (xs (i + 1)) (xs (i + 2)) H.1 H.2) lL_113 ck_X9 rfl sh_0 (by decide) rfl ⟨by decide, by decide⟩ ⟨by decide, by decide⟩ (by decide) dL_law_970 (fun r1 h2 p1 => ?_) rfl
  obtain ⟨rfl, hC⟩ := p1
  refine v_some ?_
  refine v_aload_n K dL_law_973 rfl ?_
  refine v_aload_n K dL_law_974 rfl ?_
  refine v_iload_n K dL_law_975 rfl ?_
  refine v_iconstN K 1 rfl dL_law_976 ?_
  refine v_iaddN K dL_law_977 ?_
  refine v_scr K S (k := i + 1) (by omega) hL dL_law_978 ?_
  refine v_aload_n K dL_law_979 rfl ?_
  refine v_iload_n K dL_law_980 rfl ?_
  refine v_iconstN K 2 rfl dL_law_981 ?_
  refine v_iaddN K dL_law_982 ?_
  refine v_scr K S (k := i + 2) (by omega) hL dL_law_983 ?_
  refine v_callVc (As := [.int (xs (i + 1)), .int (xs (i + 2))]) K (c_X10_dusk h2 (pt h2 h) τ τk (xs (i + 1)) (xs (i + 2)) hC.rr H.2.pt) lL_116 ck_X10 rfl sh_118 (by decide) rfl ⟨by decide, by decide⟩ ⟨by decide, by decide⟩ (Nat.le_of_ble_eq_true rfl) dL_law_984 (fun r2 h3 p2 => ?_) rfl
  obtain ⟨rfl, hR⟩ := p2
  refine v_some ?_
  have e := (pY_dusk (cM := h2) (s := h) (xs (i + 1)) (xs (i + 2)))
  have hR2 : RR h3 (pt h2 (Y_dusk h  (xs (i + 1)) (xs (i + 2))).2) := by have q := hR; rw [e] at q; exact q
  exact v_icmp_eq (tgt := 1540) K dL_law_987 rfl (fun _ => kk h3 τ τk (LI.step hC hR2 (I_dusk H.2 (xs (i + 1)) (xs (i + 2))))) (fun c => absurd (congrArg Prod.fst e).symm c)

theorem arm_harm {κ : KT} {nm : String} {Q : State → Prop} {ρ : Nat → Nat} {L i : Nat} {xs : Nat → Int32} {h : Mm} {τ τk : Nat → List Int32} (K : KOK κ "FoxRoundsLaw" nm code 4 room_1 ret) (S : SX κ ρ L xs) (hL : L ≤ 384) (hi : i + 6 ≤ L) (H : LI h τ τk) (kk : ∀ h' τ' τk', LI h' τ' τk' → V κ Q 4 (132, ρ, GL, 132, 2915) h' 1540 [(3, .int (nI i)), (2, .ref 118), (1, .ref 0), (0, .ref 1040)] []) : V κ Q 4 (132, ρ, GL, 132, 2915) h 992 [(3, .int (nI i)), (2, .ref 118), (1, .ref 0), (0, .ref 1040)] [] := by
  refine v_aload_n K dL_law_992 rfl ?_
  refine v_aload_n K dL_law_993 rfl ?_
  refine v_iload_n K dL_law_994 rfl ?_
  refine v_iconstN K 1 rfl dL_law_995 ?_
  refine v_iaddN K dL_law_996 ?_
  refine v_scr K S (k := i + 1) (by omega) hL dL_law_997 ?_
  refine v_callVc (As := [.int (xs (i + 1))]) K (c_X9_harm h h h τ τk (xs (i + 1)) H.1 H.2) lL_117 ck_X9 rfl sh_0 (by decide) rfl ⟨by decide, by decide⟩ ⟨by decide, by decide⟩ (by decide) dL_law_998 (fun r1 h2 p1 => ?_) rfl
  obtain ⟨rfl, hC⟩ := p1
  refine v_some ?_
  refine v_aload_n K dL_law_1001 rfl ?_
  refine v_aload_n K dL_law_1002 rfl ?_
  refine v_iload_n K dL_law_1003 rfl ?_
  refine v_iconstN K 1 rfl dL_law_1004 ?_
  refine v_iaddN K dL_law_1005 ?_
  refine v_scr K S (k := i + 1) (by omega) hL dL_law_1006 ?_
  refine v_callVc (As := [.int (xs (i + 1))]) K (c_X10_harm h2 (pt h2 h) τ τk (xs (i + 1)) hC.rr H.2.pt) lL_120 ck_X10 rfl sh_118 (by decide) rfl ⟨by decide, by decide⟩ ⟨by decide, by decide⟩ (Nat.le_of_ble_eq_true rfl) dL_law_1007 (fun r2 h3 p2 => ?_) rfl
  obtain ⟨rfl, hR⟩ := p2
  refine v_some ?_
  have e := (pY_harm (cM := h2) (s := h) (xs (i + 1)))
  have hR2 : RR h3 (pt h2 (Y_harm h  (xs (i + 1))).2) := by have q := hR; rw [e] at q; exact q
  exact v_icmp_eq (tgt := 1540) K dL_law_1010 rfl (fun _ => kk h3 τ τk (LI.step hC hR2 (I_harm H.2 (xs (i + 1))))) (fun c => absurd (congrArg Prod.fst e).symm c)

theorem arm_clock {κ : KT} {nm : String} {Q : State → Prop} {ρ : Nat → Nat} {L i : Nat} {xs : Nat → Int32} {h : Mm} {τ τk : Nat → List Int32} (K : KOK κ "FoxRoundsLaw" nm code 4 room_1 ret) (S : SX κ ρ L xs) (hL : L ≤ 384) (hi : i + 6 ≤ L) (H : LI h τ τk) (kk : ∀ h' τ' τk', LI h' τ' τk' → V κ Q 4 (132, ρ, GL, 132, 2915) h' 1540 [(3, .int (nI i)), (2, .ref 118), (1, .ref 0), (0, .ref 1040)] []) : V κ Q 4 (132, ρ, GL, 132, 2915) h 1015 [(3, .int (nI i)), (2, .ref 118), (1, .ref 0), (0, .ref 1040)] [] := by
  refine v_aload_n K dL_law_1015 rfl ?_
  refine v_callVc (As := []) K (c_X9_clock h h h τ τk H.1 H.2) lL_121 ck_X9 rfl sh_0 (by decide) rfl ⟨by decide, by decide⟩ ⟨by decide, by decide⟩ (by decide) dL_law_1016 (fun r1 h2 p1 => ?_) rfl
  obtain ⟨rfl, hC⟩ := p1
  refine v_some ?_
  refine v_aload_n K dL_law_1019 rfl ?_
  refine v_callVc (As := []) K (c_X10_clock h2 (pt h2 h) τ τk hC.rr H.2.pt) lL_124 ck_X10 rfl sh_118 (by decide) rfl ⟨by decide, by decide⟩ ⟨by decide, by decide⟩ (Nat.le_of_ble_eq_true rfl) dL_law_1020 (fun r2 h3 p2 => ?_) rfl
  obtain ⟨rfl, hR⟩ := p2
  refine v_some ?_
  have e := (pY_clock (cM := h2) (s := h))
  have hR2 : RR h3 (pt h2 (Y_clock h ).2) := by have q := hR; rw [e] at q; exact q
  exact v_icmp_eq (tgt := 1540) K dL_law_1023 rfl (fun _ => kk h3 τ τk (LI.step hC hR2 (I_clock H.2))) (fun c => absurd (congrArg Prod.fst e).symm c)

theorem arm_odds {κ : KT} {nm : String} {Q : State → Prop} {ρ : Nat → Nat} {L i : Nat} {xs : Nat → Int32} {h : Mm} {τ τk : Nat → List Int32} (K : KOK κ "FoxRoundsLaw" nm code 4 room_1 ret) (S : SX κ ρ L xs) (hL : L ≤ 384) (hi : i + 6 ≤ L) (H : LI h τ τk) (kk : ∀ h' τ' τk', LI h' τ' τk' → V κ Q 4 (132, ρ, GL, 132, 2915) h' 1540 [(3, .int (nI i)), (2, .ref 118), (1, .ref 0), (0, .ref 1040)] []) : V κ Q 4 (132, ρ, GL, 132, 2915) h 1028 [(3, .int (nI i)), (2, .ref 118), (1, .ref 0), (0, .ref 1040)] [] := by
  refine v_aload_n K dL_law_1028 rfl ?_
  refine v_aload_n K dL_law_1029 rfl ?_
  refine v_iload_n K dL_law_1030 rfl ?_
  refine v_iconstN K 1 rfl dL_law_1031 ?_
  refine v_iaddN K dL_law_1032 ?_
  refine v_scr K S (k := i + 1) (by omega) hL dL_law_1033 ?_
  refine v_aload_n K dL_law_1034 rfl ?_
  refine v_iload_n K dL_law_1035 rfl ?_
  refine v_iconstN K 2 rfl dL_law_1036 ?_
  refine v_iaddN K dL_law_1037 ?_
  refine v_scr K S (k := i + 2) (by omega) hL dL_law_1038 ?_
  refine v_aload_n K dL_law_1039 rfl ?_
  refine v_iload_n K dL_law_1040 rfl ?_
  refine v_iconstN K 3 rfl dL_law_1041 ?_
  refine v_iaddN K dL_law_1042 ?_
  refine v_scr K S (k := i + 3) (by omega) hL dL_law_1043 ?_
  refine v_callVc (As := [.int (xs (i + 1)), .int (xs (i + 2)), .int (xs (i + 3))]) K (c_X9_odds h h h τ τk (xs (i + 1)) (xs (i + 2)) (xs (i + 3)) H.1 H.2) lL_125 ck_X9 rfl sh_0 (by decide) rfl ⟨by decide, by decide⟩ ⟨by decide, by decide⟩ (by decide) dL_law_1044 (fun r1 h2 p1 => ?_) rfl
  obtain ⟨rfl, hC⟩ := p1
  refine v_some ?_
  refine v_aload_n K dL_law_1047 rfl ?_
  refine v_aload_n K dL_law_1048 rfl ?_
  refine v_iload_n K dL_law_1049 rfl ?_
  refine v_iconstN K 1 rfl dL_law_1050 ?_
  refine v_iaddN K dL_law_1051 ?_
  refine v_scr K S (k := i + 1) (by omega) hL dL_law_1052 ?_
  refine v_aload_n K dL_law_1053 rfl ?_
  refine v_iload_n K dL_law_1054 rfl ?_
  refine v_iconstN K 2 rfl dL_law_1055 ?_
  refine v_iaddN K dL_law_1056 ?_
  refine v_scr K S (k := i + 2) (by omega) hL dL_law_1057 ?_
  refine v_aload_n K dL_law_1058 rfl ?_
  refine v_iload_n K dL_law_1059 rfl ?_
  refine v_iconstN K 3 rfl dL_law_1060 ?_
  refine v_iaddN K dL_law_1061 ?_
  refine v_scr K S (k := i + 3) (by omega) hL dL_law_1062 ?_
  refine v_callVc (As := [.int (xs (i + 1)), .int (xs (i + 2)), .int (xs (i + 3))]) K (c_X10_odds h2 (pt h2 h) τ τk (xs (i + 1)) (xs (i + 2)) (xs (i + 3)) hC.rr H.2.pt) lL_129 ck_X10 rfl sh_118 (by decide) rfl ⟨by decide, by decide⟩ ⟨by decide, by decide⟩ (Nat.le_of_ble_eq_true rfl) dL_law_1063 (fun r2 h3 p2 => ?_) rfl
  obtain ⟨rfl, hR⟩ := p2
  refine v_some ?_
  have e := (pY_odds (cM := h2) (s := h) (xs (i + 1)) (xs (i + 2)) (xs (i + 3)))
  have hR2 : RR h3 (pt h2 (Y_odds h  (xs (i + 1)) (xs (i + 2)) (xs (i + 3))).2) := by have q := hR; rw [e] at q; exact q
  refine v_lcmp K dL_law_1066 ?_
  exact v_if_eq (tgt := 1540) K dL_law_1067 rfl (fun _ => kk h3 τ τk (LI.step hC hR2 (I_odds H.2 (xs (i + 1)) (xs (i + 2)) (xs (i + 3))))) (fun c => absurd (by rw [e]; exact lg_self) c)

theorem arm_yard {κ : KT} {nm : String} {Q : State → Prop} {ρ : Nat → Nat} {L i : Nat} {xs : Nat → Int32} {h : Mm} {τ τk : Nat → List Int32} (K : KOK κ "FoxRoundsLaw" nm code 4 room_1 ret) (S : SX κ ρ L xs) (hL : L ≤ 384) (hi : i + 6 ≤ L) (H : LI h τ τk) (kk : ∀ h' τ' τk', LI h' τ' τk' → V κ Q 4 (132, ρ, GL, 132, 2915) h' 1540 [(3, .int (nI i)), (2, .ref 118), (1, .ref 0), (0, .ref 1040)] []) : V κ Q 4 (132, ρ, GL, 132, 2915) h 1072 [(3, .int (nI i)), (2, .ref 118), (1, .ref 0), (0, .ref 1040)] [] := by
  refine v_aload_n K dL_law_1072 rfl ?_
  refine v_aload_n K dL_law_1073 rfl ?_
  refine v_iload_n K dL_law_1074 rfl ?_
  refine v_iconstN K 1 rfl dL_law_1075 ?_
  refine v_iaddN K dL_law_1076 ?_
  refine v_scr K S (k := i + 1) (by omega) hL dL_law_1077 ?_
  refine v_aload_n K dL_law_1078 rfl ?_
  refine v_iload_n K dL_law_1079 rfl ?_
  refine v_iconstN K 2 rfl dL_law_1080 ?_
  refine v_iaddN K dL_law_1081 ?_
  refine v_scr K S (k := i + 2) (by omega) hL dL_law_1082 ?_
  refine v_aload_n K dL_law_1083 rfl ?_
  refine v_iload_n K dL_law_1084 rfl ?_
  refine v_iconstN K 3 rfl dL_law_1085 ?_
  refine v_iaddN K dL_law_1086 ?_
  refine v_scr K S (k := i + 3) (by omega) hL dL_law_1087 ?_
  refine v_aload_n K dL_law_1088 rfl ?_
  refine v_iload_n K dL_law_1089 rfl ?_
  refine v_iconstN K 4 rfl dL_law_1090 ?_
  refine v_iaddN K dL_law_1091 ?_
  refine v_scr K S (k := i + 4) (by omega) hL dL_law_1092 ?_
  refine v_callVc (As := [.int (xs (i + 1)), .int (xs (i + 2)), .int (xs (i + 3)), .int (xs (i + 4))]) K (c_X9_yard h h h τ τk (xs (i + 1)) (xs (i + 2)) (xs (i + 3)) (xs (i + 4)) H.1 H.2) lL_130 ck_X9 rfl sh_0 (by decide) rfl ⟨by decide, by decide⟩ ⟨by decide, by decide⟩ (by decide) dL_law_1093 (fun r1 h2 p1 => ?_) rfl
  obtain ⟨rfl, hC⟩ := p1
  refine v_some ?_
  refine v_aload_n K dL_law_1096 rfl ?_
  refine v_aload_n K dL_law_1097 rfl ?_
  refine v_iload_n K dL_law_1098 rfl ?_
  refine v_iconstN K 1 rfl dL_law_1099 ?_
  refine v_iaddN K dL_law_1100 ?_
  refine v_scr K S (k := i + 1) (by omega) hL dL_law_1101 ?_
  refine v_aload_n K dL_law_1102 rfl ?_
  refine v_iload_n K dL_law_1103 rfl ?_
  refine v_iconstN K 2 rfl dL_law_1104 ?_
  refine v_iaddN K dL_law_1105 ?_
  refine v_scr K S (k := i + 2) (by omega) hL dL_law_1106 ?_
  refine v_aload_n K dL_law_1107 rfl ?_
  refine v_iload_n K dL_law_1108 rfl ?_
  refine v_iconstN K 3 rfl dL_law_1109 ?_
  refine v_iaddN K dL_law_1110 ?_
  refine v_scr K S (k := i + 3) (by omega) hL dL_law_1111 ?_
  refine v_aload_n K dL_law_1112 rfl ?_
  refine v_iload_n K dL_law_1113 rfl ?_
  refine v_iconstN K 4 rfl dL_law_1114 ?_
  refine v_iaddN K dL_law_1115 ?_
  refine v_scr K S (k := i + 4) (by omega) hL dL_law_1116 ?_
  refine v_callVc (As := [.int (xs (i + 1)), .int (xs (i + 2)), .int (xs (i + 3)), .int (xs (i + 4))]) K (c_X10_yard h2 (pt h2 h) τ τk (xs (i + 1)) (xs (i + 2)) (xs (i + 3)) (xs (i + 4)) hC.rr H.2.pt) lL_133 ck_X10 rfl sh_118 (by decide) rfl ⟨by decide, by decide⟩ ⟨by decide, by decide⟩ (Nat.le_of_ble_eq_true rfl) dL_law_1117 (fun r2 h3 p2 => ?_) rfl
  obtain ⟨rfl, hR⟩ := p2
  refine v_some ?_
  have e := (pY_yard (cM := h2) (s := h) (xs (i + 1)) (xs (i + 2)) (xs (i + 3)) (xs (i + 4)))
  have hR2 : RR h3 (pt h2 (Y_yard h  (xs (i + 1)) (xs (i + 2)) (xs (i + 3)) (xs (i + 4))).2) := by have q := hR; rw [e] at q; exact q
  exact v_icmp_eq (tgt := 1540) K dL_law_1120 rfl (fun _ => kk h3 τ τk (LI.step hC hR2 (I_yard H.2 (xs (i + 1)) (xs (i + 2)) (xs (i + 3)) (xs (i + 4))))) (fun c => absurd (congrArg Prod.fst e).symm c)

theorem arm_village {κ : KT} {nm : String} {Q : State → Prop} {ρ : Nat → Nat} {L i : Nat} {xs : Nat → Int32} {h : Mm} {τ τk : Nat → List Int32} (K : KOK κ "FoxRoundsLaw" nm code 4 room_1 ret) (S : SX κ ρ L xs) (hL : L ≤ 384) (hi : i + 6 ≤ L) (H : LI h τ τk) (kk : ∀ h' τ' τk', LI h' τ' τk' → V κ Q 4 (132, ρ, GL, 132, 2915) h' 1540 [(3, .int (nI i)), (2, .ref 118), (1, .ref 0), (0, .ref 1040)] []) : V κ Q 4 (132, ρ, GL, 132, 2915) h 1125 [(3, .int (nI i)), (2, .ref 118), (1, .ref 0), (0, .ref 1040)] [] := by
  refine v_aload_n K dL_law_1125 rfl ?_
  refine v_aload_n K dL_law_1126 rfl ?_
  refine v_iload_n K dL_law_1127 rfl ?_
  refine v_iconstN K 1 rfl dL_law_1128 ?_
  refine v_iaddN K dL_law_1129 ?_
  refine v_scr K S (k := i + 1) (by omega) hL dL_law_1130 ?_
  refine v_callVc (As := [.int (xs (i + 1))]) K (c_X9_village h h h τ τk (xs (i + 1)) H.1 H.2) lL_134 ck_X9 rfl sh_0 (by decide) rfl ⟨by decide, by decide⟩ ⟨by decide, by decide⟩ (by decide) dL_law_1131 (fun r1 h2 p1 => ?_) rfl
  obtain ⟨rfl, hC⟩ := p1
  refine v_some ?_
  refine v_aload_n K dL_law_1134 rfl ?_
  refine v_aload_n K dL_law_1135 rfl ?_
  refine v_iload_n K dL_law_1136 rfl ?_
  refine v_iconstN K 1 rfl dL_law_1137 ?_
  refine v_iaddN K dL_law_1138 ?_
  refine v_scr K S (k := i + 1) (by omega) hL dL_law_1139 ?_
  refine v_callVc (As := [.int (xs (i + 1))]) K (c_X10_village h2 (pt h2 h) τ τk (xs (i + 1)) hC.rr H.2.pt) lL_137 ck_X10 rfl sh_118 (by decide) rfl ⟨by decide, by decide⟩ ⟨by decide, by decide⟩ (Nat.le_of_ble_eq_true rfl) dL_law_1140 (fun r2 h3 p2 => ?_) rfl
  obtain ⟨rfl, hR⟩ := p2
  refine v_some ?_
  have e := (pY_village (cM := h2) (s := h) (xs (i + 1)))
  have hR2 : RR h3 (pt h2 (Y_village h  (xs (i + 1))).2) := by have q := hR; rw [e] at q; exact q
  exact v_icmp_eq (tgt := 1540) K dL_law_1143 rfl (fun _ => kk h3 τ τk (LI.step hC hR2 (I_village H.2 (xs (i + 1))))) (fun c => absurd (congrArg Prod.fst e).symm c)

theorem arm_off {κ : KT} {nm : String} {Q : State → Prop} {ρ : Nat → Nat} {L i : Nat} {xs : Nat → Int32} {h : Mm} {τ τk : Nat → List Int32} (K : KOK κ "FoxRoundsLaw" nm code 4 room_1 ret) (S : SX κ ρ L xs) (hL : L ≤ 384) (hi : i + 6 ≤ L) (H : LI h τ τk) (kk : ∀ h' τ' τk', LI h' τ' τk' → V κ Q 4 (132, ρ, GL, 132, 2915) h' 1540 [(3, .int (nI i)), (2, .ref 118), (1, .ref 0), (0, .ref 1040)] []) : V κ Q 4 (132, ρ, GL, 132, 2915) h 1148 [(3, .int (nI i)), (2, .ref 118), (1, .ref 0), (0, .ref 1040)] [] := by
  refine v_aload_n K dL_law_1148 rfl ?_
  refine v_aload_n K dL_law_1149 rfl ?_
  refine v_iload_n K dL_law_1150 rfl ?_
  refine v_iconstN K 1 rfl dL_law_1151 ?_
  refine v_iaddN K dL_law_1152 ?_
  refine v_scr K S (k := i + 1) (by omega) hL dL_law_1153 ?_
  refine v_callVc (As := [.int (xs (i + 1))]) K (c_X9_off h h h τ τk (xs (i + 1)) H.1 H.2) lL_138 ck_X9 rfl sh_0 (by decide) rfl ⟨by decide, by decide⟩ ⟨by decide, by decide⟩ (by decide) dL_law_1154 (fun r1 h2 p1 => ?_) rfl
  obtain ⟨rfl, hC⟩ := p1
  refine v_some ?_
  refine v_aload_n K dL_law_1157 rfl ?_
  refine v_aload_n K dL_law_1158 rfl ?_
  refine v_iload_n K dL_law_1159 rfl ?_
  refine v_iconstN K 1 rfl dL_law_1160 ?_
  refine v_iaddN K dL_law_1161 ?_
  refine v_scr K S (k := i + 1) (by omega) hL dL_law_1162 ?_
  refine v_callVc (As := [.int (xs (i + 1))]) K (c_X10_off h2 (pt h2 h) τ τk (xs (i + 1)) hC.rr H.2.pt) lL_141 ck_X10 rfl sh_118 (by decide) rfl ⟨by decide, by decide⟩ ⟨by decide, by decide⟩ (Nat.le_of_ble_eq_true rfl) dL_law_1163 (fun r2 h3 p2 => ?_) rfl
  obtain ⟨rfl, hR⟩ := p2
  refine v_some ?_
  have e := (pY_off (cM := h2) (s := h) τ (xs (i + 1)))
  have hR2 : RR h3 (pt h2 (Y_off h τ (xs (i + 1))).2) := by have q := hR; rw [e] at q; exact q
  exact v_icmp_eq (tgt := 1540) K dL_law_1166 rfl (fun _ => kk h3 τ τk (LI.step hC hR2 (I_off H.2 (xs (i + 1))))) (fun c => absurd (congrArg Prod.fst e).symm c)

theorem arm_hungry {κ : KT} {nm : String} {Q : State → Prop} {ρ : Nat → Nat} {L i : Nat} {xs : Nat → Int32} {h : Mm} {τ τk : Nat → List Int32} (K : KOK κ "FoxRoundsLaw" nm code 4 room_1 ret) (S : SX κ ρ L xs) (hL : L ≤ 384) (hi : i + 6 ≤ L) (H : LI h τ τk) (kk : ∀ h' τ' τk', LI h' τ' τk' → V κ Q 4 (132, ρ, GL, 132, 2915) h' 1540 [(3, .int (nI i)), (2, .ref 118), (1, .ref 0), (0, .ref 1040)] []) : V κ Q 4 (132, ρ, GL, 132, 2915) h 1171 [(3, .int (nI i)), (2, .ref 118), (1, .ref 0), (0, .ref 1040)] [] := by
  refine v_aload_n K dL_law_1171 rfl ?_
  refine v_aload_n K dL_law_1172 rfl ?_
  refine v_iload_n K dL_law_1173 rfl ?_
  refine v_iconstN K 1 rfl dL_law_1174 ?_
  refine v_iaddN K dL_law_1175 ?_
  refine v_scr K S (k := i + 1) (by omega) hL dL_law_1176 ?_
  refine v_callVc (As := [.int (xs (i + 1))]) K (c_X9_hungry h h h τ τk (xs (i + 1)) H.1 H.2) lL_142 ck_X9 rfl sh_0 (by decide) rfl ⟨by decide, by decide⟩ ⟨by decide, by decide⟩ (by decide) dL_law_1177 (fun r1 h2 p1 => ?_) rfl
  obtain ⟨rfl, hC⟩ := p1
  refine v_some ?_
  refine v_aload_n K dL_law_1180 rfl ?_
  refine v_aload_n K dL_law_1181 rfl ?_
  refine v_iload_n K dL_law_1182 rfl ?_
  refine v_iconstN K 1 rfl dL_law_1183 ?_
  refine v_iaddN K dL_law_1184 ?_
  refine v_scr K S (k := i + 1) (by omega) hL dL_law_1185 ?_
  refine v_callVc (As := [.int (xs (i + 1))]) K (c_X10_hungry h2 (pt h2 h) τ τk (xs (i + 1)) hC.rr H.2.pt) lL_145 ck_X10 rfl sh_118 (by decide) rfl ⟨by decide, by decide⟩ ⟨by decide, by decide⟩ (Nat.le_of_ble_eq_true rfl) dL_law_1186 (fun r2 h3 p2 => ?_) rfl
  obtain ⟨rfl, hR⟩ := p2
  refine v_some ?_
  have e := (pY_hungry (cM := h2) (s := h) τ (xs (i + 1)))
  have hR2 : RR h3 (pt h2 (Y_hungry h τ (xs (i + 1))).2) := by have q := hR; rw [e] at q; exact q
  exact v_icmp_eq (tgt := 1540) K dL_law_1189 rfl (fun _ => kk h3 τ τk (LI.step hC hR2 (I_hungry H.2 (xs (i + 1))))) (fun c => absurd (congrArg Prod.fst e).symm c)

theorem arm_seed {κ : KT} {nm : String} {Q : State → Prop} {ρ : Nat → Nat} {L i : Nat} {xs : Nat → Int32} {h : Mm} {τ τk : Nat → List Int32} (K : KOK κ "FoxRoundsLaw" nm code 4 room_1 ret) (S : SX κ ρ L xs) (hL : L ≤ 384) (hi : i + 6 ≤ L) (H : LI h τ τk) (kk : ∀ h' τ' τk', LI h' τ' τk' → V κ Q 4 (132, ρ, GL, 132, 2915) h' 1540 [(3, .int (nI i)), (2, .ref 118), (1, .ref 0), (0, .ref 1040)] []) : V κ Q 4 (132, ρ, GL, 132, 2915) h 1194 [(3, .int (nI i)), (2, .ref 118), (1, .ref 0), (0, .ref 1040)] [] := by
  refine v_aload_n K dL_law_1194 rfl ?_
  refine v_aload_n K dL_law_1195 rfl ?_
  refine v_iload_n K dL_law_1196 rfl ?_
  refine v_iconstN K 1 rfl dL_law_1197 ?_
  refine v_iaddN K dL_law_1198 ?_
  refine v_scr K S (k := i + 1) (by omega) hL dL_law_1199 ?_
  refine v_callVc (As := [.int (xs (i + 1))]) K (c_X9_seed h h h τ τk (xs (i + 1)) H.1 H.2) lL_146 ck_X9 rfl sh_0 (by decide) rfl ⟨by decide, by decide⟩ ⟨by decide, by decide⟩ (by decide) dL_law_1200 (fun r1 h2 p1 => ?_) rfl
  obtain ⟨rfl, hC⟩ := p1
  refine v_some ?_
  refine v_aload_n K dL_law_1203 rfl ?_
  refine v_aload_n K dL_law_1204 rfl ?_
  refine v_iload_n K dL_law_1205 rfl ?_
  refine v_iconstN K 1 rfl dL_law_1206 ?_
  refine v_iaddN K dL_law_1207 ?_
  refine v_scr K S (k := i + 1) (by omega) hL dL_law_1208 ?_
  refine v_callVc (As := [.int (xs (i + 1))]) K (c_X10_seed h2 (pt h2 h) τ τk (xs (i + 1)) hC.rr H.2.pt) lL_149 ck_X10 rfl sh_118 (by decide) rfl ⟨by decide, by decide⟩ ⟨by decide, by decide⟩ (Nat.le_of_ble_eq_true rfl) dL_law_1209 (fun r2 h3 p2 => ?_) rfl
  obtain ⟨rfl, hR⟩ := p2
  refine v_some ?_
  have e := (pY_seed (cM := h2) (s := h) (xs (i + 1)))
  have hR2 : RR h3 (pt h2 (Y_seed h  (xs (i + 1))).2) := by have q := hR; rw [e] at q; exact q
  exact v_icmp_eq (tgt := 1540) K dL_law_1212 rfl (fun _ => kk h3 τ τk (LI.step hC hR2 (I_seed H.2 (xs (i + 1))))) (fun c => absurd (congrArg Prod.fst e).symm c)

theorem arm_voice {κ : KT} {nm : String} {Q : State → Prop} {ρ : Nat → Nat} {L i : Nat} {xs : Nat → Int32} {h : Mm} {τ τk : Nat → List Int32} (K : KOK κ "FoxRoundsLaw" nm code 4 room_1 ret) (S : SX κ ρ L xs) (hL : L ≤ 384) (hi : i + 6 ≤ L) (H : LI h τ τk) (kk : ∀ h' τ' τk', LI h' τ' τk' → V κ Q 4 (132, ρ, GL, 132, 2915) h' 1540 [(3, .int (nI i)), (2, .ref 118), (1, .ref 0), (0, .ref 1040)] []) : V κ Q 4 (132, ρ, GL, 132, 2915) h 1217 [(3, .int (nI i)), (2, .ref 118), (1, .ref 0), (0, .ref 1040)] [] := by
  refine v_aload_n K dL_law_1217 rfl ?_
  refine v_aload_n K dL_law_1218 rfl ?_
  refine v_iload_n K dL_law_1219 rfl ?_
  refine v_iconstN K 1 rfl dL_law_1220 ?_
  refine v_iaddN K dL_law_1221 ?_
  refine v_scr K S (k := i + 1) (by omega) hL dL_law_1222 ?_
  refine v_aload_n K dL_law_1223 rfl ?_
  refine v_iload_n K dL_law_1224 rfl ?_
  refine v_iconstN K 2 rfl dL_law_1225 ?_
  refine v_iaddN K dL_law_1226 ?_
  refine v_scr K S (k := i + 2) (by omega) hL dL_law_1227 ?_
  refine v_aload_n K dL_law_1228 rfl ?_
  refine v_iload_n K dL_law_1229 rfl ?_
  refine v_iconstN K 3 rfl dL_law_1230 ?_
  refine v_iaddN K dL_law_1231 ?_
  refine v_scr K S (k := i + 3) (by omega) hL dL_law_1232 ?_
  refine v_callVc (As := [.int (xs (i + 1)), .int (xs (i + 2)), .int (xs (i + 3))]) K (c_X9_voice h h h τ τk (xs (i + 1)) (xs (i + 2)) (xs (i + 3)) H.1 H.2) lL_150 ck_X9 rfl sh_0 (by decide) rfl ⟨by decide, by decide⟩ ⟨by decide, by decide⟩ (by decide) dL_law_1233 (fun r1 h2 p1 => ?_) rfl
  obtain ⟨rfl, hC⟩ := p1
  refine v_some ?_
  refine v_aload_n K dL_law_1236 rfl ?_
  refine v_aload_n K dL_law_1237 rfl ?_
  refine v_iload_n K dL_law_1238 rfl ?_
  refine v_iconstN K 1 rfl dL_law_1239 ?_
  refine v_iaddN K dL_law_1240 ?_
  refine v_scr K S (k := i + 1) (by omega) hL dL_law_1241 ?_
  refine v_aload_n K dL_law_1242 rfl ?_
  refine v_iload_n K dL_law_1243 rfl ?_
  refine v_iconstN K 2 rfl dL_law_1244 ?_
  refine v_iaddN K dL_law_1245 ?_
  refine v_scr K S (k := i + 2) (by omega) hL dL_law_1246 ?_
  refine v_aload_n K dL_law_1247 rfl ?_
  refine v_iload_n K dL_law_1248 rfl ?_
  refine v_iconstN K 3 rfl dL_law_1249 ?_
  refine v_iaddN K dL_law_1250 ?_
  refine v_scr K S (k := i + 3) (by omega) hL dL_law_1251 ?_
  refine v_callVc (As := [.int (xs (i + 1)), .int (xs (i + 2)), .int (xs (i + 3))]) K (c_X10_voice h2 (pt h2 h) τ τk (xs (i + 1)) (xs (i + 2)) (xs (i + 3)) hC.rr H.2.pt) lL_153 ck_X10 rfl sh_118 (by decide) rfl ⟨by decide, by decide⟩ ⟨by decide, by decide⟩ (Nat.le_of_ble_eq_true rfl) dL_law_1252 (fun r2 h3 p2 => ?_) rfl
  obtain ⟨rfl, hR⟩ := p2
  refine v_some ?_
  have e := (pY_voice (cM := h2) (s := h) (xs (i + 1)) (xs (i + 2)) (xs (i + 3)))
  have hR2 : RR h3 (pt h2 (Y_voice h  (xs (i + 1)) (xs (i + 2)) (xs (i + 3))).2) := by have q := hR; rw [e] at q; exact q
  exact v_icmp_eq (tgt := 1540) K dL_law_1255 rfl (fun _ => kk h3 τ τk (LI.step hC hR2 (I_voice H.2 (xs (i + 1)) (xs (i + 2)) (xs (i + 3))))) (fun c => absurd (congrArg Prod.fst e).symm c)

theorem arm_trace {κ : KT} {nm : String} {Q : State → Prop} {ρ : Nat → Nat} {L i : Nat} {xs : Nat → Int32} {h : Mm} {τ τk : Nat → List Int32} (K : KOK κ "FoxRoundsLaw" nm code 4 room_1 ret) (S : SX κ ρ L xs) (hL : L ≤ 384) (hi : i + 6 ≤ L) (H : LI h τ τk) (kk : ∀ h' τ' τk', LI h' τ' τk' → V κ Q 4 (132, ρ, GL, 132, 2915) h' 1540 [(3, .int (nI i)), (2, .ref 118), (1, .ref 0), (0, .ref 1040)] []) : V κ Q 4 (132, ρ, GL, 132, 2915) h 1260 [(3, .int (nI i)), (2, .ref 118), (1, .ref 0), (0, .ref 1040)] [] := by
  refine v_aload_n K dL_law_1260 rfl ?_
  refine v_aload_n K dL_law_1261 rfl ?_
  refine v_iload_n K dL_law_1262 rfl ?_
  refine v_iconstN K 1 rfl dL_law_1263 ?_
  refine v_iaddN K dL_law_1264 ?_
  refine v_scr K S (k := i + 1) (by omega) hL dL_law_1265 ?_
  refine v_callVc (As := [.int (xs (i + 1))]) K (c_X9_trace h h h τ τk (xs (i + 1)) H.1 H.2) lL_154 ck_X9 rfl sh_0 (by decide) rfl ⟨by decide, by decide⟩ ⟨by decide, by decide⟩ (by decide) dL_law_1266 (fun r1 h2 p1 => ?_) rfl
  obtain ⟨rfl, hC⟩ := p1
  refine v_some ?_
  refine v_aload_n K dL_law_1269 rfl ?_
  refine v_aload_n K dL_law_1270 rfl ?_
  refine v_iload_n K dL_law_1271 rfl ?_
  refine v_iconstN K 1 rfl dL_law_1272 ?_
  refine v_iaddN K dL_law_1273 ?_
  refine v_scr K S (k := i + 1) (by omega) hL dL_law_1274 ?_
  refine v_callVc (As := [.int (xs (i + 1))]) K (c_X10_trace h2 (pt h2 h) τ τk (xs (i + 1)) hC.rr H.2.pt) lL_157 ck_X10 rfl sh_118 (by decide) rfl ⟨by decide, by decide⟩ ⟨by decide, by decide⟩ (Nat.le_of_ble_eq_true rfl) dL_law_1275 (fun r2 h3 p2 => ?_) rfl
  obtain ⟨rfl, hR⟩ := p2
  refine v_some ?_
  have e := (pY_trace (cM := h2) (s := h) (xs (i + 1)))
  have hR2 : RR h3 (pt h2 (Y_trace h  (xs (i + 1))).2) := by have q := hR; rw [e] at q; exact q
  exact v_icmp_eq (tgt := 1540) K dL_law_1278 rfl (fun _ => kk h3 τ τk (LI.step hC hR2 (I_trace H.2 (xs (i + 1))))) (fun c => absurd (congrArg Prod.fst e).symm c)

theorem arm_sheet {κ : KT} {nm : String} {Q : State → Prop} {ρ : Nat → Nat} {L i : Nat} {xs : Nat → Int32} {h : Mm} {τ τk : Nat → List Int32} (K : KOK κ "FoxRoundsLaw" nm code 4 room_1 ret) (S : SX κ ρ L xs) (hL : L ≤ 384) (hi : i + 6 ≤ L) (H : LI h τ τk) (kk : ∀ h' τ' τk', LI h' τ' τk' → V κ Q 4 (132, ρ, GL, 132, 2915) h' 1540 [(3, .int (nI i)), (2, .ref 118), (1, .ref 0), (0, .ref 1040)] []) : V κ Q 4 (132, ρ, GL, 132, 2915) h 1283 [(3, .int (nI i)), (2, .ref 118), (1, .ref 0), (0, .ref 1040)] [] := by
  refine v_aload_n K dL_law_1283 rfl ?_
  refine v_aload_n K dL_law_1284 rfl ?_
  refine v_iload_n K dL_law_1285 rfl ?_
  refine v_iconstN K 1 rfl dL_law_1286 ?_
  refine v_iaddN K dL_law_1287 ?_
  refine v_scr K S (k := i + 1) (by omega) hL dL_law_1288 ?_
  refine v_aload_n K dL_law_1289 rfl ?_
  refine v_iload_n K dL_law_1290 rfl ?_
  refine v_iconstN K 2 rfl dL_law_1291 ?_
  refine v_iaddN K dL_law_1292 ?_
  refine v_scr K S (k := i + 2) (by omega) hL dL_law_1293 ?_
  refine v_aload_n K dL_law_1294 rfl ?_
  refine v_iload_n K dL_law_1295 rfl ?_
  refine v_iconstN K 3 rfl dL_law_1296 ?_
  refine v_iaddN K dL_law_1297 ?_
  refine v_scr K S (k := i + 3) (by omega) hL dL_law_1298 ?_
  refine v_callVc (As := [.int (xs (i + 1)), .int (xs (i + 2)), .int (xs (i + 3))]) K (c_X9_sheet h h h τ τk (xs (i + 1)) (xs (i + 2)) (xs (i + 3)) H.1 H.2) lL_158 ck_X9 rfl sh_0 (by decide) rfl ⟨by decide, by decide⟩ ⟨by decide, by decide⟩ (by decide) dL_law_1299 (fun r1 h2 p1 => ?_) rfl
  obtain ⟨rfl, hC⟩ := p1
  refine v_some ?_
  refine v_aload_n K dL_law_1302 rfl ?_
  refine v_aload_n K dL_law_1303 rfl ?_
  refine v_iload_n K dL_law_1304 rfl ?_
  refine v_iconstN K 1 rfl dL_law_1305 ?_
  refine v_iaddN K dL_law_1306 ?_
  refine v_scr K S (k := i + 1) (by omega) hL dL_law_1307 ?_
  refine v_aload_n K dL_law_1308 rfl ?_
  refine v_iload_n K dL_law_1309 rfl ?_
  refine v_iconstN K 2 rfl dL_law_1310 ?_
  refine v_iaddN K dL_law_1311 ?_
  refine v_scr K S (k := i + 2) (by omega) hL dL_law_1312 ?_
  refine v_aload_n K dL_law_1313 rfl ?_
  refine v_iload_n K dL_law_1314 rfl ?_
  refine v_iconstN K 3 rfl dL_law_1315 ?_
  refine v_iaddN K dL_law_1316 ?_
  refine v_scr K S (k := i + 3) (by omega) hL dL_law_1317 ?_
  refine v_callVc (As := [.int (xs (i + 1)), .int (xs (i + 2)), .int (xs (i + 3))]) K (c_X10_sheet h2 (pt h2 h) τ τk (xs (i + 1)) (xs (i + 2)) (xs (i + 3)) hC.rr H.2.pt) lL_161 ck_X10 rfl sh_118 (by decide) rfl ⟨by decide, by decide⟩ ⟨by decide, by decide⟩ (Nat.le_of_ble_eq_true rfl) dL_law_1318 (fun r2 h3 p2 => ?_) rfl
  obtain ⟨rfl, hR⟩ := p2
  refine v_some ?_
  have e := (pY_sheet (cM := h2) (s := h) (xs (i + 1)) (xs (i + 2)) (xs (i + 3)))
  have hR2 : RR h3 (pt h2 (Y_sheet h  (xs (i + 1)) (xs (i + 2)) (xs (i + 3))).2) := by have q := hR; rw [e] at q; exact q
  exact v_icmp_eq (tgt := 1540) K dL_law_1321 rfl (fun _ => kk h3 τ τk (LI.step hC hR2 (I_sheet H.2 (xs (i + 1)) (xs (i + 2)) (xs (i + 3))))) (fun c => absurd (congrArg Prod.fst e).symm c)

theorem arm_put {κ : KT} {nm : String} {Q : State → Prop} {ρ : Nat → Nat} {L i : Nat} {xs : Nat → Int32} {h : Mm} {τ τk : Nat → List Int32} (K : KOK κ "FoxRoundsLaw" nm code 4 room_1 ret) (S : SX κ ρ L xs) (hL : L ≤ 384) (hi : i + 6 ≤ L) (H : LI h τ τk) (kk : ∀ h' τ' τk', LI h' τ' τk' → V κ Q 4 (132, ρ, GL, 132, 2915) h' 1540 [(3, .int (nI i)), (2, .ref 118), (1, .ref 0), (0, .ref 1040)] []) : V κ Q 4 (132, ρ, GL, 132, 2915) h 1326 [(3, .int (nI i)), (2, .ref 118), (1, .ref 0), (0, .ref 1040)] [] := by
  refine v_aload_n K dL_law_1326 rfl ?_
  refine v_aload_n K dL_law_1327 rfl ?_
  refine v_iload_n K dL_law_1328 rfl ?_
  refine v_iconstN K 1 rfl dL_law_1329 ?_
  refine v_iaddN K dL_law_1330 ?_
  refine v_scr K S (k := i + 1) (by omega) hL dL_law_1331 ?_
  refine v_aload_n K dL_law_1332 rfl ?_
  refine v_iload_n K dL_law_1333 rfl ?_
  refine v_iconstN K 2 rfl dL_law_1334 ?_
  refine v_iaddN K dL_law_1335 ?_
  refine v_scr K S (k := i + 2) (by omega) hL dL_law_1336 ?_
  refine v_aload_n K dL_law_1337 rfl ?_
  refine v_iload_n K dL_law_1338 rfl ?_
  refine v_iconstN K 3 rfl dL_law_1339 ?_
  refine v_iaddN K dL_law_1340 ?_
  refine v_scr K S (k := i + 3) (by omega) hL dL_law_1341 ?_
  refine v_callVc (As := [.int (xs (i + 1)), .int (xs (i + 2)), .int (xs (i + 3))]) K (c_X9_put h h h τ τk (xs (i + 1)) (xs (i + 2)) (xs (i + 3)) H.1 H.2) lL_162 ck_X9 rfl sh_0 (by decide) rfl ⟨by decide, by decide⟩ ⟨by decide, by decide⟩ (by decide) dL_law_1342 (fun r1 h2 p1 => ?_) rfl
  obtain ⟨rfl, hC⟩ := p1
  refine v_some ?_
  refine v_aload_n K dL_law_1345 rfl ?_
  refine v_aload_n K dL_law_1346 rfl ?_
  refine v_iload_n K dL_law_1347 rfl ?_
  refine v_iconstN K 1 rfl dL_law_1348 ?_
  refine v_iaddN K dL_law_1349 ?_
  refine v_scr K S (k := i + 1) (by omega) hL dL_law_1350 ?_
  refine v_aload_n K dL_law_1351 rfl ?_
  refine v_iload_n K dL_law_1352 rfl ?_
  refine v_iconstN K 2 rfl dL_law_1353 ?_
  refine v_iaddN K dL_law_1354 ?_
  refine v_scr K S (k := i + 2) (by omega) hL dL_law_1355 ?_
  refine v_aload_n K dL_law_1356 rfl ?_
  refine v_iload_n K dL_law_1357 rfl ?_
  refine v_iconstN K 3 rfl dL_law_1358 ?_
  refine v_iaddN K dL_law_1359 ?_
  refine v_scr K S (k := i + 3) (by omega) hL dL_law_1360 ?_
  refine v_callVc (As := [.int (xs (i + 1)), .int (xs (i + 2)), .int (xs (i + 3))]) K (c_X10_put h2 (pt h2 h) τ τk (xs (i + 1)) (xs (i + 2)) (xs (i + 3)) hC.rr H.2.pt) lL_165 ck_X10 rfl sh_118 (by decide) rfl ⟨by decide, by decide⟩ ⟨by decide, by decide⟩ (Nat.le_of_ble_eq_true rfl) dL_law_1361 (fun r2 h3 p2 => ?_) rfl
  obtain ⟨rfl, hR⟩ := p2
  refine v_some ?_
  have e := (pY_put (cM := h2) (s := h) (xs (i + 1)) (xs (i + 2)) (xs (i + 3)))
  have hR2 : RR h3 (pt h2 (Y_put h  (xs (i + 1)) (xs (i + 2)) (xs (i + 3))).2) := by have q := hR; rw [e] at q; exact q
  exact v_icmp_eq (tgt := 1540) K dL_law_1364 rfl (fun _ => kk h3 τ τk (LI.step hC hR2 (I_put H.2 (xs (i + 1)) (xs (i + 2)) (xs (i + 3))))) (fun c => absurd (congrArg Prod.fst e).symm c)

theorem arm_move {κ : KT} {nm : String} {Q : State → Prop} {ρ : Nat → Nat} {L i : Nat} {xs : Nat → Int32} {h : Mm} {τ τk : Nat → List Int32} (K : KOK κ "FoxRoundsLaw" nm code 4 room_1 ret) (S : SX κ ρ L xs) (hL : L ≤ 384) (hi : i + 6 ≤ L) (H : LI h τ τk) (kk : ∀ h' τ' τk', LI h' τ' τk' → V κ Q 4 (132, ρ, GL, 132, 2915) h' 1540 [(3, .int (nI i)), (2, .ref 118), (1, .ref 0), (0, .ref 1040)] []) : V κ Q 4 (132, ρ, GL, 132, 2915) h 1369 [(3, .int (nI i)), (2, .ref 118), (1, .ref 0), (0, .ref 1040)] [] := by
  refine v_aload_n K dL_law_1369 rfl ?_
  refine v_aload_n K dL_law_1370 rfl ?_
  refine v_iload_n K dL_law_1371 rfl ?_
  refine v_iconstN K 1 rfl dL_law_1372 ?_
  refine v_iaddN K dL_law_1373 ?_
  refine v_scr K S (k := i + 1) (by omega) hL dL_law_1374 ?_
  refine v_aload_n K dL_law_1375 rfl ?_
  refine v_iload_n K dL_law_1376 rfl ?_
  refine v_iconstN K 2 rfl dL_law_1377 ?_
  refine v_iaddN K dL_law_1378 ?_
  refine v_scr K S (k := i + 2) (by omega) hL dL_law_1379 ?_
  refine v_aload_n K dL_law_1380 rfl ?_
  refine v_iload_n K dL_law_1381 rfl ?_
  refine v_iconstN K 3 rfl dL_law_1382 ?_
  refine v_iaddN K dL_law_1383 ?_
  refine v_scr K S (k := i + 3) (by omega) hL dL_law_1384 ?_
  refine v_aload_n K dL_law_1385 rfl ?_
  refine v_iload_n K dL_law_1386 rfl ?_
  refine v_iconstN K 4 rfl dL_law_1387 ?_
  refine v_iaddN K dL_law_1388 ?_
  refine v_scr K S (k := i + 4) (by omega) hL dL_law_1389 ?_
  refine v_aload_n K dL_law_1390 rfl ?_
  refine v_iload_n K dL_law_1391 rfl ?_
  refine v_iconstN K 5 rfl dL_law_1392 ?_
  refine v_iaddN K dL_law_1393 ?_
  refine v_scr K S (k := i + 5) (by omega) hL dL_law_1394 ?_
  refine v_callVc (As := [.int (xs (i + 1)), .int (xs (i + 2)), .int (xs (i + 3)), .int (xs (i + 4)), .int (xs (i + 5))]) K (c_X9_move h h h τ τk (xs (i + 1)) (xs (i + 2)) (xs (i + 3)) (xs (i + 4)) (xs (i + 5)) H.1 H.2) lL_166 ck_X9 rfl sh_0 (by decide) rfl ⟨by decide, by decide⟩ ⟨by decide, by decide⟩ (by decide) dL_law_1395 (fun r1 h2 p1 => ?_) rfl
  obtain ⟨rfl, hC⟩ := p1
  refine v_some ?_
  refine v_aload_n K dL_law_1398 rfl ?_
  refine v_aload_n K dL_law_1399 rfl ?_
  refine v_iload_n K dL_law_1400 rfl ?_
  refine v_iconstN K 1 rfl dL_law_1401 ?_
  refine v_iaddN K dL_law_1402 ?_
  refine v_scr K S (k := i + 1) (by omega) hL dL_law_1403 ?_
  refine v_aload_n K dL_law_1404 rfl ?_
  refine v_iload_n K dL_law_1405 rfl ?_
  refine v_iconstN K 2 rfl dL_law_1406 ?_
  refine v_iaddN K dL_law_1407 ?_
  refine v_scr K S (k := i + 2) (by omega) hL dL_law_1408 ?_
  refine v_aload_n K dL_law_1409 rfl ?_
  refine v_iload_n K dL_law_1410 rfl ?_
  refine v_iconstN K 3 rfl dL_law_1411 ?_
  refine v_iaddN K dL_law_1412 ?_
  refine v_scr K S (k := i + 3) (by omega) hL dL_law_1413 ?_
  refine v_aload_n K dL_law_1414 rfl ?_
  refine v_iload_n K dL_law_1415 rfl ?_
  refine v_iconstN K 4 rfl dL_law_1416 ?_
  refine v_iaddN K dL_law_1417 ?_
  refine v_scr K S (k := i + 4) (by omega) hL dL_law_1418 ?_
  refine v_aload_n K dL_law_1419 rfl ?_
  refine v_iload_n K dL_law_1420 rfl ?_
  refine v_iconstN K 5 rfl dL_law_1421 ?_
  refine v_iaddN K dL_law_1422 ?_
  refine v_scr K S (k := i + 5) (by omega) hL dL_law_1423 ?_
  refine v_callVc (As := [.int (xs (i + 1)), .int (xs (i + 2)), .int (xs (i + 3)), .int (xs (i + 4)), .int (xs (i + 5))]) K (c_X10_move h2 (pt h2 h) τ τk (xs (i + 1)) (xs (i + 2)) (xs (i + 3)) (xs (i + 4)) (xs (i + 5)) hC.rr H.2.pt) lL_170 ck_X10 rfl sh_118 (by decide) rfl ⟨by decide, by decide⟩ ⟨by decide, by decide⟩ (Nat.le_of_ble_eq_true rfl) dL_law_1424 (fun r2 h3 p2 => ?_) rfl
  obtain ⟨rfl, hR⟩ := p2
  refine v_some ?_
  have e := (pY_move (cM := h2) (s := h) (xs (i + 1)) (xs (i + 2)) (xs (i + 3)) (xs (i + 4)) (xs (i + 5)))
  have hR2 : RR h3 (pt h2 (Y_move h  (xs (i + 1)) (xs (i + 2)) (xs (i + 3)) (xs (i + 4)) (xs (i + 5))).2) := by have q := hR; rw [e] at q; exact q
  exact v_icmp_eq (tgt := 1540) K dL_law_1427 rfl (fun _ => kk h3 τ τk (LI.step hC hR2 (I_move H.2 (xs (i + 1)) (xs (i + 2)) (xs (i + 3)) (xs (i + 4)) (xs (i + 5))))) (fun c => absurd (congrArg Prod.fst e).symm c)

theorem arm_image {κ : KT} {nm : String} {Q : State → Prop} {ρ : Nat → Nat} {L i : Nat} {xs : Nat → Int32} {h : Mm} {τ τk : Nat → List Int32} (K : KOK κ "FoxRoundsLaw" nm code 4 room_1 ret) (S : SX κ ρ L xs) (hL : L ≤ 384) (hi : i + 6 ≤ L) (H : LI h τ τk) (kk : ∀ h' τ' τk', LI h' τ' τk' → V κ Q 4 (132, ρ, GL, 132, 2915) h' 1540 [(3, .int (nI i)), (2, .ref 118), (1, .ref 0), (0, .ref 1040)] []) : V κ Q 4 (132, ρ, GL, 132, 2915) h 1432 [(3, .int (nI i)), (2, .ref 118), (1, .ref 0), (0, .ref 1040)] [] := by
  refine v_aload_n K dL_law_1432 rfl ?_
  refine v_callVc (As := []) K (c_X9_image h h h τ τk H.1 H.2) lL_171 ck_X9 rfl sh_0 (by decide) rfl ⟨by decide, by decide⟩ ⟨by decide, by decide⟩ (by decide) dL_law_1433 (fun r1 h2 p1 => ?_) rfl
  obtain ⟨rfl, hC⟩ := p1
  refine v_some ?_
  refine v_aload_n K dL_law_1436 rfl ?_
  refine v_callVc (As := []) K (c_X10_image h2 (pt h2 h) τ τk hC.rr H.2.pt) lL_174 ck_X10 rfl sh_118 (by decide) rfl ⟨by decide, by decide⟩ ⟨by decide, by decide⟩ (Nat.le_of_ble_eq_true rfl) dL_law_1437 (fun r2 h3 p2 => ?_) rfl
  obtain ⟨rfl, hR⟩ := p2
  refine v_some ?_
  have e := (pY_image (cM := h2) (s := h))
  have hR2 : RR h3 (pt h2 (Y_image h ).2) := by have q := hR; rw [e] at q; exact q
  exact v_icmp_eq (tgt := 1540) K dL_law_1440 rfl (fun _ => kk h3 τ τ (LI.step hC hR2 (I_image H.2))) (fun c => absurd (congrArg Prod.fst e).symm c)

theorem arm_restore {κ : KT} {nm : String} {Q : State → Prop} {ρ : Nat → Nat} {L i : Nat} {xs : Nat → Int32} {h : Mm} {τ τk : Nat → List Int32} (K : KOK κ "FoxRoundsLaw" nm code 4 room_1 ret) (S : SX κ ρ L xs) (hL : L ≤ 384) (hi : i + 6 ≤ L) (H : LI h τ τk) (kk : ∀ h' τ' τk', LI h' τ' τk' → V κ Q 4 (132, ρ, GL, 132, 2915) h' 1540 [(3, .int (nI i)), (2, .ref 118), (1, .ref 0), (0, .ref 1040)] []) : V κ Q 4 (132, ρ, GL, 132, 2915) h 1445 [(3, .int (nI i)), (2, .ref 118), (1, .ref 0), (0, .ref 1040)] [] := by
  refine v_aload_n K dL_law_1445 rfl ?_
  refine v_callVc (As := []) K (c_X9_restore h h h τ τk H.1 H.2) lL_175 ck_X9 rfl sh_0 (by decide) rfl ⟨by decide, by decide⟩ ⟨by decide, by decide⟩ (by decide) dL_law_1446 (fun r1 h2 p1 => ?_) rfl
  obtain ⟨rfl, hC⟩ := p1
  refine v_some ?_
  refine v_aload_n K dL_law_1449 rfl ?_
  refine v_callVc (As := []) K (c_X10_restore h2 (pt h2 h) τ τk hC.rr H.2.pt) lL_178 ck_X10 rfl sh_118 (by decide) rfl ⟨by decide, by decide⟩ ⟨by decide, by decide⟩ (Nat.le_of_ble_eq_true rfl) dL_law_1450 (fun r2 h3 p2 => ?_) rfl
  obtain ⟨rfl, hR⟩ := p2
  refine v_some ?_
  have e := (pY_restore (cM := h2) (s := h))
  have hR2 : RR h3 (pt h2 (Y_restore h ).2) := by have q := hR; rw [e] at q; exact q
  exact v_icmp_eq (tgt := 1540) K dL_law_1453 rfl (fun _ => kk h3 (tauR h τ τk) τk (LI.step hC hR2 (I_restore H.2))) (fun c => absurd (congrArg Prod.fst e).symm c)

theorem arm_tell {κ : KT} {nm : String} {Q : State → Prop} {ρ : Nat → Nat} {L i : Nat} {xs : Nat → Int32} {h : Mm} {τ τk : Nat → List Int32} (K : KOK κ "FoxRoundsLaw" nm code 4 room_1 ret) (S : SX κ ρ L xs) (hL : L ≤ 384) (hi : i + 6 ≤ L) (H : LI h τ τk) (kk : ∀ h' τ' τk', LI h' τ' τk' → V κ Q 4 (132, ρ, GL, 132, 2915) h' 1540 [(3, .int (nI i)), (2, .ref 118), (1, .ref 0), (0, .ref 1040)] []) : V κ Q 4 (132, ρ, GL, 132, 2915) h 1458 [(3, .int (nI i)), (2, .ref 118), (1, .ref 0), (0, .ref 1040)] [] := by
  refine v_aload_n K dL_law_1458 rfl ?_
  refine v_aload_n K dL_law_1459 rfl ?_
  refine v_iload_n K dL_law_1460 rfl ?_
  refine v_iconstN K 1 rfl dL_law_1461 ?_
  refine v_iaddN K dL_law_1462 ?_
  refine v_scr K S (k := i + 1) (by omega) hL dL_law_1463 ?_
  refine v_callVc (As := [.int (xs (i + 1))]) K (c_X9_tell h h h τ τk (xs (i + 1)) H.1 H.2) lL_179 ck_X9 rfl sh_0 (by decide) rfl ⟨by decide, by decide⟩ ⟨by decide, by decide⟩ (by decide) dL_law_1464 (fun r1 h2 p1 => ?_) rfl
  obtain ⟨rfl, hC⟩ := p1
  refine v_some ?_
  refine v_aload_n K dL_law_1467 rfl ?_
  refine v_aload_n K dL_law_1468 rfl ?_
  refine v_iload_n K dL_law_1469 rfl ?_
  refine v_iconstN K 1 rfl dL_law_1470 ?_
  refine v_iaddN K dL_law_1471 ?_
  refine v_scr K S (k := i + 1) (by omega) hL dL_law_1472 ?_
  refine v_callVc (As := [.int (xs (i + 1))]) K (c_X10_tell h2 (pt h2 h) τ τk (xs (i + 1)) hC.rr H.2.pt) lL_182 ck_X10 rfl sh_118 (by decide) rfl ⟨by decide, by decide⟩ ⟨by decide, by decide⟩ (Nat.le_of_ble_eq_true rfl) dL_law_1473 (fun r2 h3 p2 => ?_) rfl
  obtain ⟨rfl, hR⟩ := p2
  refine v_some ?_
  have e := (pY_tell (cM := h2) (s := h) (xs (i + 1)))
  have hR2 : RR h3 (pt h2 (Y_tell h  (xs (i + 1))).2) := by have q := hR; rw [e] at q; exact q
  exact v_icmp_eq (tgt := 1540) K dL_law_1476 rfl (fun _ => kk h3 τ τk (LI.step hC hR2 (I_tell H.2 (xs (i + 1))))) (fun c => absurd (congrArg Prod.fst e).symm c)

theorem arm_check {κ : KT} {nm : String} {Q : State → Prop} {ρ : Nat → Nat} {L i : Nat} {xs : Nat → Int32} {h : Mm} {τ τk : Nat → List Int32} (K : KOK κ "FoxRoundsLaw" nm code 4 room_1 ret) (S : SX κ ρ L xs) (hL : L ≤ 384) (hi : i + 6 ≤ L) (H : LI h τ τk) (kk : ∀ h' τ' τk', LI h' τ' τk' → V κ Q 4 (132, ρ, GL, 132, 2915) h' 1540 [(3, .int (nI i)), (2, .ref 118), (1, .ref 0), (0, .ref 1040)] []) : V κ Q 4 (132, ρ, GL, 132, 2915) h 1481 [(3, .int (nI i)), (2, .ref 118), (1, .ref 0), (0, .ref 1040)] [] := by
  refine v_aload_n K dL_law_1481 rfl ?_
  refine v_callVc (As := []) K (c_X9_check h h h τ τk H.1 H.2) lL_183 ck_X9 rfl sh_0 (by decide) rfl ⟨by decide, by decide⟩ ⟨by decide, by decide⟩ (by decide) dL_law_1482 (fun r1 h2 p1 => ?_) rfl
  obtain ⟨rfl, hC⟩ := p1
  refine v_some ?_
  refine v_aload_n K dL_law_1485 rfl ?_
  refine v_callVc (As := []) K (c_X10_check h2 (pt h2 h) τ τk hC.rr H.2.pt) lL_186 ck_X10 rfl sh_118 (by decide) rfl ⟨by decide, by decide⟩ ⟨by decide, by decide⟩ (Nat.le_of_ble_eq_true rfl) dL_law_1486 (fun r2 h3 p2 => ?_) rfl
  obtain ⟨rfl, hR⟩ := p2
  refine v_some ?_
  have e := (pY_check (cM := h2) (s := h) τ)
  have hR2 : RR h3 (pt h2 (Y_check h τ).2) := by have q := hR; rw [e] at q; exact q
  exact v_icmp_eq (tgt := 1540) K dL_law_1489 rfl (fun _ => kk h3 τ τk (LI.step hC hR2 (I_check H.2))) (fun c => absurd (congrArg Prod.fst e).symm c)

theorem arm_count {κ : KT} {nm : String} {Q : State → Prop} {ρ : Nat → Nat} {L i : Nat} {xs : Nat → Int32} {h : Mm} {τ τk : Nat → List Int32} (K : KOK κ "FoxRoundsLaw" nm code 4 room_1 ret) (S : SX κ ρ L xs) (hL : L ≤ 384) (hi : i + 6 ≤ L) (H : LI h τ τk) (kk : ∀ h' τ' τk', LI h' τ' τk' → V κ Q 4 (132, ρ, GL, 132, 2915) h' 1540 [(3, .int (nI i)), (2, .ref 118), (1, .ref 0), (0, .ref 1040)] []) : V κ Q 4 (132, ρ, GL, 132, 2915) h 1494 [(3, .int (nI i)), (2, .ref 118), (1, .ref 0), (0, .ref 1040)] [] := by
  refine v_aload_n K dL_law_1494 rfl ?_
  refine v_aload_n K dL_law_1495 rfl ?_
  refine v_iload_n K dL_law_1496 rfl ?_
  refine v_iconstN K 1 rfl dL_law_1497 ?_
  refine v_iaddN K dL_law_1498 ?_
  refine v_scr K S (k := i + 1) (by omega) hL dL_law_1499 ?_
  refine v_callVc (As := [.int (xs (i + 1))]) K (c_X9_count h h h τ τk (xs (i + 1)) H.1 H.2) lL_187 ck_X9 rfl sh_0 (by decide) rfl ⟨by decide, by decide⟩ ⟨by decide, by decide⟩ (by decide) dL_law_1500 (fun r1 h2 p1 => ?_) rfl
  obtain ⟨rfl, hC⟩ := p1
  refine v_some ?_
  refine v_aload_n K dL_law_1503 rfl ?_
  refine v_aload_n K dL_law_1504 rfl ?_
  refine v_iload_n K dL_law_1505 rfl ?_
  refine v_iconstN K 1 rfl dL_law_1506 ?_
  refine v_iaddN K dL_law_1507 ?_
  refine v_scr K S (k := i + 1) (by omega) hL dL_law_1508 ?_
  refine v_callVc (As := [.int (xs (i + 1))]) K (c_X10_count h2 (pt h2 h) τ τk (xs (i + 1)) hC.rr H.2.pt) lL_190 ck_X10 rfl sh_118 (by decide) rfl ⟨by decide, by decide⟩ ⟨by decide, by decide⟩ (Nat.le_of_ble_eq_true rfl) dL_law_1509 (fun r2 h3 p2 => ?_) rfl
  obtain ⟨rfl, hR⟩ := p2
  refine v_some ?_
  have e := (pY_count (cM := h2) (s := h) (xs (i + 1)))
  have hR2 : RR h3 (pt h2 (Y_count h  (xs (i + 1))).2) := by have q := hR; rw [e] at q; exact q
  exact v_icmp_eq (tgt := 1540) K dL_law_1512 rfl (fun _ => kk h3 τ τk (LI.step hC hR2 (I_count H.2 (xs (i + 1))))) (fun c => absurd (congrArg Prod.fst e).symm c)

theorem arm_told {κ : KT} {nm : String} {Q : State → Prop} {ρ : Nat → Nat} {L i : Nat} {xs : Nat → Int32} {h : Mm} {τ τk : Nat → List Int32} (K : KOK κ "FoxRoundsLaw" nm code 4 room_1 ret) (S : SX κ ρ L xs) (hL : L ≤ 384) (hi : i + 6 ≤ L) (H : LI h τ τk) (kk : ∀ h' τ' τk', LI h' τ' τk' → V κ Q 4 (132, ρ, GL, 132, 2915) h' 1540 [(3, .int (nI i)), (2, .ref 118), (1, .ref 0), (0, .ref 1040)] []) : V κ Q 4 (132, ρ, GL, 132, 2915) h 1517 [(3, .int (nI i)), (2, .ref 118), (1, .ref 0), (0, .ref 1040)] [] := by
  refine v_aload_n K dL_law_1517 rfl ?_
  refine v_aload_n K dL_law_1518 rfl ?_
  refine v_iload_n K dL_law_1519 rfl ?_
  refine v_iconstN K 1 rfl dL_law_1520 ?_
  refine v_iaddN K dL_law_1521 ?_
  refine v_scr K S (k := i + 1) (by omega) hL dL_law_1522 ?_
  refine v_callVc (As := [.int (xs (i + 1))]) K (c_X9_told h h h τ τk (xs (i + 1)) H.1 H.2) lL_191 ck_X9 rfl sh_0 (by decide) rfl ⟨by decide, by decide⟩ ⟨by decide, by decide⟩ (by decide) dL_law_1523 (fun r1 h2 p1 => ?_) rfl
  obtain ⟨rfl, hC⟩ := p1
  refine v_some ?_
  refine v_aload_n K dL_law_1526 rfl ?_
  refine v_aload_n K dL_law_1527 rfl ?_
  refine v_iload_n K dL_law_1528 rfl ?_
  refine v_iconstN K 1 rfl dL_law_1529 ?_
  refine v_iaddN K dL_law_1530 ?_
  refine v_scr K S (k := i + 1) (by omega) hL dL_law_1531 ?_
  refine v_callVc (As := [.int (xs (i + 1))]) K (c_X10_told h2 (pt h2 h) τ τk (xs (i + 1)) hC.rr H.2.pt) lL_194 ck_X10 rfl sh_118 (by decide) rfl ⟨by decide, by decide⟩ ⟨by decide, by decide⟩ (Nat.le_of_ble_eq_true rfl) dL_law_1532 (fun r2 h3 p2 => ?_) rfl
  obtain ⟨rfl, hR⟩ := p2
  refine v_some ?_
  have e := (pY_told (cM := h2) (s := h) (xs (i + 1)))
  have hR2 : RR h3 (pt h2 (Y_told h  (xs (i + 1))).2) := by have q := hR; rw [e] at q; exact q
  exact v_icmp_eq (tgt := 1540) K dL_law_1535 rfl (fun _ => kk h3 τ τk (LI.step hC hR2 (I_told H.2 (xs (i + 1))))) (fun c => absurd (congrArg Prod.fst e).symm c)
