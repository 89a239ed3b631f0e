theorem law_fin {p : Program} {l : Launch} {e : Env} {s : State} {m : MethodId} {below : List Frame} {meth : Method} {c : Code} {b : Nat} {D : va_G} {cA : Nat → ClassId} {ω : Wo} {h : Mm} {lv : List (Nat × Value)} (hx : p.tables.exec = Jvm.exec) (hb : c.code = code) (hr : meth.sig.returnType = ret) (hlocks : meth.locks = false) (K : KOK ((p, l, e, room_1, s), (m, #[Value.ref b], below, meth, c), (D, cA, fun q : Nat => s.heap.size ≤ q)) "FoxRoundsLaw" meth.name code 4 room_1 ret) (hw : ω.2.2.2.1 ≤ 600000 ∧ ω.2.2.2.2 ≤ 7302250) : V ((p, l, e, room_1, s), (m, #[Value.ref b], below, meth, c), (D, cA, fun q : Nat => s.heap.size ≤ q)) (lw_Z below #[Value.ref b] s) 4 ω h 1546 lv [] := by
  refine v_iconst (v := 1) K dL_law_1546 (by decide) ?_
  intro H locs ls hl hP hD hS hE
  exact va_forget hS.2.2 (W.widen (k := 600000) (n := 7302250) hw.1 hw.2 (lw_ret hx hb hr hlocks dL_law_1547))
theorem and63 {x : Int32} (h : ¬ ix x 43) : x.toInt < 0 ∨ 42 < x.toInt := by
  rw [ix_iff (by decide)] at h
  omega
theorem law_loop {κ : KT} {nm : String} {Q : State → Prop} {ρ : Nat → Nat} {L : Nat} {xs : Nat → Int32} (K : KOK κ "FoxRoundsLaw" nm code 4 room_1 ret) (S : SX κ ρ L xs) (hL : L ≤ 384) (fin : ∀ h lv, V κ Q 4 (132, ρ, GL, 132, 2915) h 1546 lv []) : ∀ (mm i : Nat) (h : Mm) (τ τk : Nat → List Int32), LI h τ τk → i ≤ L + 6 → L + 7 - i < mm → V κ Q 4 (132, ρ, GL, 132, 2915) h 18 [(3, .int (nI i)), (2, .ref 118), (1, .ref 0), (0, .ref 1040)] [] := by
  intro mm
  induction mm with
  | zero => intro i h τ τk H hi hmm; exact absurd hmm (Nat.not_lt_zero _)
  | succ mm ih =>
    intro i h τ τk H hi hmm
    refine v_iload_n K dL_law_18 rfl ?_
    refine v_aload_n K dL_law_19 rfl ?_
    refine v_scrL K S dL_law_20 ?_
    refine v_bipushN K 6 rfl dL_law_21 ?_
    refine v_isub K dL_law_23 ?_
    refine v_icmp_gt (tgt := 1546) K dL_law_24 rfl (fun _ => fin _ _) (fun c1 => ?_)
    have hi6 : i + 6 ≤ L := by
      rw [i32_lt, pk_sub_toInt (by omega) (by omega), nI_toInt (by omega)] at c1
      omega
    have kk : ∀ h' τ' τk', LI h' τ' τk' → V κ Q 4 (132, ρ, GL, 132, 2915) h' 1540 [(3, .int (nI i)), (2, .ref 118), (1, .ref 0), (0, .ref 1040)] [] := by
      intro h' τ' τk' H'
      refine v_iincN (lv2 := [(3, .int (nI (i + 6))), (2, .ref 118), (1, .ref 0), (0, .ref 1040)]) K 6 dL_law_1540 rfl rfl (by decide) rfl ?_
      refine v_goto (tgt := 18) K dL_law_1543 rfl ?_
      exact ih (i + 6) h' τ' τk' H' (by omega) (by omega)
    refine v_aload_n K dL_law_27 rfl ?_
    refine v_iload_n K dL_law_28 rfl ?_
    refine v_scr K S (k := i) (by omega) hL dL_law_29 ?_
    refine v_bipushN K 63 rfl dL_law_30 ?_
    refine v_iand K dL_law_32 ?_
    generalize xs i &&& nI 63 = x
    by_cases hx : ix x 43
    · obtain ⟨j, hj, rfl⟩ := hx
      obtain rfl | rfl | rfl | rfl | rfl | rfl | rfl | rfl | rfl | rfl | rfl | rfl | rfl | rfl | rfl | rfl | rfl | rfl | rfl | rfl | rfl | rfl | rfl | rfl | rfl | rfl | rfl | rfl | rfl | rfl | rfl | rfl | rfl | rfl | rfl | rfl | rfl | rfl | rfl | rfl | rfl | rfl | rfl : j = 0 ∨ j = 1 ∨ j = 2 ∨ j = 3 ∨ j = 4 ∨ j = 5 ∨ j = 6 ∨ j = 7 ∨ j = 8 ∨ j = 9 ∨ j = 10 ∨ j = 11 ∨ j = 12 ∨ j = 13 ∨ j = 14 ∨ j = 15 ∨ j = 16 ∨ j = 17 ∨ j = 18 ∨ j = 19 ∨ j = 20 ∨ j = 21 ∨ j = 22 ∨ j = 23 ∨ j = 24 ∨ j = 25 ∨ j = 26 ∨ j = 27 ∨ j = 28 ∨ j = 29 ∨ j = 30 ∨ j = 31 ∨ j = 32 ∨ j = 33 ∨ j = 34 ∨ j = 35 ∨ j = 36 ∨ j = 37 ∨ j = 38 ∨ j = 39 ∨ j = 40 ∨ j = 41 ∨ j = 42 := by omega
      · exact v_tinN (off := 187) (tgt := 220) K (by decide) 0 dL_law_33 (by decide) (by decide) (by decide) rfl rfl (arm_set K S hL hi6 H kk)
      · exact v_tinN (off := 220) (tgt := 253) K (by decide) 1 dL_law_33 (by decide) (by decide) (by decide) rfl rfl (arm_way K S hL hi6 H kk)
      · exact v_tinN (off := 263) (tgt := 296) K (by decide) 2 dL_law_33 (by decide) (by decide) (by decide) rfl rfl (arm_ofWay K S hL hi6 H kk)
      · exact v_tinN (off := 296) (tgt := 329) K (by decide) 3 dL_law_33 (by decide) (by decide) (by decide) rfl rfl (arm_wear K S hL hi6 H kk)
      · exact v_tinN (off := 339) (tgt := 372) K (by decide) 4 dL_law_33 (by decide) (by decide) (by decide) rfl rfl (arm_as K S hL hi6 H kk)
      · exact v_tinN (off := 372) (tgt := 405) K (by decide) 5 dL_law_33 (by decide) (by decide) (by decide) rfl rfl (arm_ways K S hL hi6 H kk)
      · exact v_tinN (off := 395) (tgt := 428) K (by decide) 6 dL_law_33 (by decide) (by decide) (by decide) rfl rfl (arm_mend K S hL hi6 H kk)
      · exact v_tinN (off := 418) (tgt := 451) K (by decide) 7 dL_law_33 (by decide) (by decide) (by decide) rfl rfl (arm_thing K S hL hi6 H kk)
      · exact v_tinN (off := 451) (tgt := 484) K (by decide) 8 dL_law_33 (by decide) (by decide) (by decide) rfl rfl (arm_ofThing K S hL hi6 H kk)
      · exact v_tinN (off := 484) (tgt := 517) K (by decide) 9 dL_law_33 (by decide) (by decide) (by decide) rfl rfl (arm_hang K S hL hi6 H kk)
      · exact v_tinN (off := 517) (tgt := 550) K (by decide) 10 dL_law_33 (by decide) (by decide) (by decide) rfl rfl (arm_bitten K S hL hi6 H kk)
      · exact v_tinN (off := 530) (tgt := 563) K (by decide) 11 dL_law_33 (by decide) (by decide) (by decide) rfl rfl (arm_bold K S hL hi6 H kk)
      · exact v_tinN (off := 543) (tgt := 576) K (by decide) 12 dL_law_33 (by decide) (by decide) (by decide) rfl rfl (arm_feed K S hL hi6 H kk)
      · exact v_tinN (off := 606) (tgt := 639) K (by decide) 13 dL_law_33 (by decide) (by decide) (by decide) rfl rfl (arm_text K S hL hi6 H kk)
      · exact v_tinN (off := 629) (tgt := 662) K (by decide) 14 dL_law_33 (by decide) (by decide) (by decide) rfl rfl (arm_law K S hL hi6 H kk)
      · exact v_tinN (off := 682) (tgt := 715) K (by decide) 15 dL_law_33 (by decide) (by decide) (by decide) rfl rfl (arm_nights K S hL hi6 H kk)
      · exact v_tinN (off := 705) (tgt := 738) K (by decide) 16 dL_law_33 (by decide) (by decide) (by decide) rfl rfl (arm_careless K S hL hi6 H kk)
      · exact v_tinN (off := 738) (tgt := 771) K (by decide) 17 dL_law_33 (by decide) (by decide) (by decide) rfl rfl (arm_then K S hL hi6 H kk)
      · exact v_tinN (off := 771) (tgt := 804) K (by decide) 18 dL_law_33 (by decide) (by decide) (by decide) rfl rfl (arm_thenWay K S hL hi6 H kk)
      · exact v_tinN (off := 814) (tgt := 847) K (by decide) 19 dL_law_33 (by decide) (by decide) (by decide) rfl rfl (arm_loss K S hL hi6 H kk)
      · exact v_tinN (off := 837) (tgt := 870) K (by decide) 20 dL_law_33 (by decide) (by decide) (by decide) rfl rfl (arm_by K S hL hi6 H kk)
      · exact v_tinN (off := 850) (tgt := 883) K (by decide) 21 dL_law_33 (by decide) (by decide) (by decide) rfl rfl (arm_mends K S hL hi6 H kk)
      · exact v_tinN (off := 893) (tgt := 926) K (by decide) 22 dL_law_33 (by decide) (by decide) (by decide) rfl rfl (arm_hangs K S hL hi6 H kk)
      · exact v_tinN (off := 926) (tgt := 959) K (by decide) 23 dL_law_33 (by decide) (by decide) (by decide) rfl rfl (arm_dusk K S hL hi6 H kk)
      · exact v_tinN (off := 959) (tgt := 992) K (by decide) 24 dL_law_33 (by decide) (by decide) (by decide) rfl rfl (arm_harm K S hL hi6 H kk)
      · exact v_tinN (off := 982) (tgt := 1015) K (by decide) 25 dL_law_33 (by decide) (by decide) (by decide) rfl rfl (arm_clock K S hL hi6 H kk)
      · exact v_tinN (off := 995) (tgt := 1028) K (by decide) 26 dL_law_33 (by decide) (by decide) (by decide) rfl rfl (arm_odds K S hL hi6 H kk)
      · exact v_tinN (off := 1039) (tgt := 1072) K (by decide) 27 dL_law_33 (by decide) (by decide) (by decide) rfl rfl (arm_yard K S hL hi6 H kk)
      · exact v_tinN (off := 1092) (tgt := 1125) K (by decide) 28 dL_law_33 (by decide) (by decide) (by decide) rfl rfl (arm_village K S hL hi6 H kk)
      · exact v_tinN (off := 1115) (tgt := 1148) K (by decide) 29 dL_law_33 (by decide) (by decide) (by decide) rfl rfl (arm_off K S hL hi6 H kk)
      · exact v_tinN (off := 1138) (tgt := 1171) K (by decide) 30 dL_law_33 (by decide) (by decide) (by decide) rfl rfl (arm_hungry K S hL hi6 H kk)
      · exact v_tinN (off := 1161) (tgt := 1194) K (by decide) 31 dL_law_33 (by decide) (by decide) (by decide) rfl rfl (arm_seed K S hL hi6 H kk)
      · exact v_tinN (off := 1184) (tgt := 1217) K (by decide) 32 dL_law_33 (by decide) (by decide) (by decide) rfl rfl (arm_voice K S hL hi6 H kk)
      · exact v_tinN (off := 1227) (tgt := 1260) K (by decide) 33 dL_law_33 (by decide) (by decide) (by decide) rfl rfl (arm_trace K S hL hi6 H kk)
      · exact v_tinN (off := 1250) (tgt := 1283) K (by decide) 34 dL_law_33 (by decide) (by decide) (by decide) rfl rfl (arm_sheet K S hL hi6 H kk)
      · exact v_tinN (off := 1293) (tgt := 1326) K (by decide) 35 dL_law_33 (by decide) (by decide) (by decide) rfl rfl (arm_put K S hL hi6 H kk)
      · exact v_tinN (off := 1336) (tgt := 1369) K (by decide) 36 dL_law_33 (by decide) (by decide) (by decide) rfl rfl (arm_move K S hL hi6 H kk)
      · exact v_tinN (off := 1399) (tgt := 1432) K (by decide) 37 dL_law_33 (by decide) (by decide) (by decide) rfl rfl (arm_image K S hL hi6 H kk)
      · exact v_tinN (off := 1412) (tgt := 1445) K (by decide) 38 dL_law_33 (by decide) (by decide) (by decide) rfl rfl (arm_restore K S hL hi6 H kk)
      · exact v_tinN (off := 1425) (tgt := 1458) K (by decide) 39 dL_law_33 (by decide) (by decide) (by decide) rfl rfl (arm_tell K S hL hi6 H kk)
      · exact v_tinN (off := 1448) (tgt := 1481) K (by decide) 40 dL_law_33 (by decide) (by decide) (by decide) rfl rfl (arm_check K S hL hi6 H kk)
      · exact v_tinN (off := 1461) (tgt := 1494) K (by decide) 41 dL_law_33 (by decide) (by decide) (by decide) rfl rfl (arm_count K S hL hi6 H kk)
      · exact v_tinN (off := 1484) (tgt := 1517) K (by decide) 42 dL_law_33 (by decide) (by decide) (by decide) rfl rfl (arm_told K S hL hi6 H kk)
    · exact v_tout (tgt := 1540) K dL_law_33 (and63 hx) rfl (kk h τ τk H)
theorem law_body {κ : KT} {nm : String} {Q : State → Prop} {ρ : Nat → Nat} {L : Nat} {xs : Nat → Int32} (K : KOK κ "FoxRoundsLaw" nm code 4 room_1 ret) (S : SX κ ρ L xs) (hL : L ≤ 384) (fin : ∀ ρ' h lv, V κ Q 4 (132, ρ', GL, 132, 2915) h 1546 lv []) : V κ Q 4 (0, ρ, fun _ _ => 0, 0, 0) (fun _ _ => 0) 0 [(0, .ref 1040)] [] := by
  have W0 : WFR 0 (fun _ _ => 0) (fun _ _ => 0) := ⟨fun a ha => absurd ha (Nat.not_lt_zero _), fun h => absurd h (by omega)⟩
  refine v_new K nwL_7 pl_0 sh_0 (fun _ => rfl) (fun _ _ => rfl) W0 rfl rfl ⟨(by decide : (0 + 1 : Nat) ≤ 600000), (by decide : (0 + 8 : Nat) ≤ 7302250)⟩ dL_law_0 (fun ρ1 A1 => ?_)
  refine v_dup K dL_law_3 rfl ?_
  have W1 : WFR 1 (fun _ _ => 0) (fun _ _ => 0) := W0.m (fun _ => rfl) (fun h => absurd h (by omega))
  have M1 : MK 0 1 (fun _ _ => 0) (fun _ _ => 0) := ⟨W1, rfl, rfl, fun a h1 h2 => by omega, fun _ _ => ⟨rfl, rfl⟩⟩
  refine v_callI (As := []) K (cA_X9_init_0 M1) lL_9 rfl rfl ⟨Nat.le_of_ble_eq_true rfl, Nat.le_of_ble_eq_true rfl⟩ ⟨(by decide : (0 + 1 + 117 : Nat) ≤ 600000), (by decide : (0 + 8 + 1589 : Nat) ≤ 7302250)⟩ (by decide) rfl rfl dL_law_4 (fun ρ2 g2 h2 A2 x2 y2 w2 p2 => ?_) rfl
  subst p2
  refine v_astore_n (lv2 := [(1, .ref 0), (0, .ref 1040)]) K dL_law_7 (by decide) rfl ?_
  have z2 : ∀ a, 118 ≤ a → g2 a = (fun _ => 0) ∧ FF 0 118 (fun _ _ => 0) a = fun _ => 0 := fun a ha => ⟨x2 a (Or.inr ha), FF_off (Or.inr ha)⟩
  refine v_new K nwL_10 pl_118 sh_118 (fun k => congrFun (z2 118 (by omega)).1 k) (fun k _ => congrFun (z2 118 (by omega)).2 k) w2 rfl rfl ⟨(by decide : (0 + 1 + 117 + 1 : Nat) ≤ 600000), (by decide : (0 + 8 + 1589 + 22 : Nat) ≤ 7302250)⟩ dL_law_8 (fun ρ3 A3 => ?_)
  refine v_dup K dL_law_11 rfl ?_
  have W3 : WFR 119 g2 (FF 0 118 (fun _ _ => 0)) := w2.m (fun k => congrFun (z2 118 (by omega)).1 k) (fun h => absurd h (by omega))
  have M3 : MK 118 119 g2 (FF 0 118 (fun _ _ => 0)) := ⟨W3, (z2 118 (by omega)).1, (z2 118 (by omega)).2, fun a h1 h2 => by omega, fun a ha => z2 a (by omega)⟩
  refine v_callI (As := []) K (cA_X10_init_118 M3) lL_12 rfl rfl ⟨Nat.le_of_ble_eq_true rfl, Nat.le_of_ble_eq_true rfl⟩ ⟨(by decide : (0 + 1 + 117 + 1 + 13 : Nat) ≤ 600000), (by decide : (0 + 8 + 1589 + 22 + 1296 : Nat) ≤ 7302250)⟩ (by decide) rfl rfl dL_law_12 (fun ρ4 g4 h4 A4 x4 y4 w4 p4 => ?_) rfl
  subst p4
  refine v_astore_n (lv2 := [(2, .ref 118), (1, .ref 0), (0, .ref 1040)]) K dL_law_15 (by decide) rfl ?_
  refine v_iconstN K 0 rfl dL_law_16 ?_
  refine v_istore_n (lv2 := [(3, .int (nI 0)), (2, .ref 118), (1, .ref 0), (0, .ref 1040)]) K dL_law_17 (by decide) rfl ?_
  have e1 : ρ4 1040 = ρ 1040 := (A4 1040 (Or.inr (by omega))).trans ((A3 1040 (Or.inr (by omega))).trans ((A2 1040 (Or.inr (by omega))).trans (A1 1040 (Or.inr (by omega)))))
  have S4 : SX κ ρ4 L xs := by unfold SX at *; rw [e1]; exact S
  refine v_sw (n := 132) (c := 132) (z := 2915) (g' := GL) (h' := FH) (fun a ha => ?_) (fun a ha => ?_) ?_
  · by_cases h : a < 118
    · exact ((x4 a (Or.inl h)).trans (y2 a (Nat.zero_le _) h)).symm
    · exact (y4 a (by omega) ha).symm
  · by_cases h : a < 118
    · rw [FF_off (Or.inl h), FF_in (Nat.zero_le _) h]
    · rw [FF_in (by omega) ha]
  exact law_loop K S4 hL (fin ρ4) (L + 8) 0 FH firstR firstR LI.first (by omega) (by omega)
