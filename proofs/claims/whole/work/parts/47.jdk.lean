set_option maxRecDepth 100000 in
theorem lX3_80 : LKv "FoxRounds$Reader" 80 yJ0_indexOf_0f7a4 cJ0_indexOf_0f7a4 2 (some .int) 1 := ⟨⟨lt_of 591 rfl rfl, lt_of 83 rfl rfl, lt_of 594 rfl rfl, by decide +kernel, by decide +kernel, by decide +kernel⟩, lt_of 592 rfl rfl, lt_of 593 rfl rfl⟩
set_option maxRecDepth 100000 in
theorem lJ0_633 : LKv "java/lang/String" 633 yJ0_indexOf_7cf53 cJ0_indexOf_7cf53 3 (some .int) 2 := ⟨⟨lt_of 595 rfl rfl, lt_of 83 rfl rfl, lt_of 598 rfl rfl, by decide +kernel, by decide +kernel, by decide +kernel⟩, lt_of 596 rfl rfl, lt_of 597 rfl rfl⟩
set_option maxRecDepth 100000 in
theorem lJ0_492 : LKv "java/lang/String" 492 yJ0_isLatin1_aae02 cJ0_isLatin1_aae02 1 (some .boolean) 0 := ⟨⟨lt_of 599 rfl rfl, lt_of 83 rfl rfl, lt_of 602 rfl rfl, by decide +kernel, by decide +kernel, by decide +kernel⟩, lt_of 600 rfl rfl, lt_of 601 rfl rfl⟩
set_option maxRecDepth 100000 in
theorem lJ0_505 : LKv "java/lang/String" 505 yJ0_length_8abf5 cJ0_length_8abf5 1 (some .int) 0 := ⟨⟨lt_of 605 rfl rfl, lt_of 83 rfl rfl, lt_of 608 rfl rfl, by decide +kernel, by decide +kernel, by decide +kernel⟩, lt_of 606 rfl rfl, lt_of 607 rfl rfl⟩
set_option maxRecDepth 100000 in
theorem lJ0_335 : LKv "java/lang/String" 335 yJ0_coder_7d493 cJ0_coder_7d493 1 (some .byte) 0 := ⟨⟨lt_of 609 rfl rfl, lt_of 83 rfl rfl, lt_of 612 rfl rfl, by decide +kernel, by decide +kernel, by decide +kernel⟩, lt_of 610 rfl rfl, lt_of 611 rfl rfl⟩
set_option maxRecDepth 100000 in
theorem lJ0_637 : LKs "java/lang/String" 637 yJ1_indexOf_4cfef cJ1_indexOf_4cfef 4 (some .int) 4 := ⟨⟨lt_of 613 rfl rfl, lt_of 84 rfl rfl, lt_of 615 rfl rfl, by decide +kernel, by decide +kernel, by decide +kernel⟩, lt_of 614 rfl rfl⟩
set_option maxRecDepth 100000 in
theorem lJ1_88 : LKs "java/lang/StringLatin1" 88 yJ1_canEncode_9a6ad cJ1_canEncode_9a6ad 1 (some .boolean) 1 := ⟨⟨lt_of 616 rfl rfl, lt_of 84 rfl rfl, lt_of 618 rfl rfl, by decide +kernel, by decide +kernel, by decide +kernel⟩, lt_of 617 rfl rfl⟩
set_option maxRecDepth 100000 in
theorem lJ1_95 : LKs "java/lang/StringLatin1" 95 yJ1_indexOfChar_4cfef cJ1_indexOfChar_4cfef 6 (some .int) 4 := ⟨⟨lt_of 623 rfl rfl, lt_of 84 rfl rfl, lt_of 625 rfl rfl, by decide +kernel, by decide +kernel, by decide +kernel⟩, lt_of 624 rfl rfl⟩
set_option maxRecDepth 100000 in
theorem jJ1_92 : Cond.methodLink "java/lang/StringLatin1" 92 Lib.Math.max.name ∈ LT := lt_of 619 rfl rfl
set_option maxRecDepth 100000 in
theorem jJ1_38 : Cond.methodLink "java/lang/StringLatin1" 38 Lib.Math.min.name ∈ LT := lt_of 622 rfl rfl
set_option maxRecDepth 100000 in
theorem fJ0_9 : Cond.fieldLink "java/lang/String" 9 "java/lang/String" "value" "[B" ∈ LT := lt_of 1503 rfl rfl
set_option maxRecDepth 100000 in
theorem fJ0_15 : Cond.fieldLink "java/lang/String" 15 "java/lang/String" "coder" "B" ∈ LT := lt_of 1502 rfl rfl
set_option maxRecDepth 100000 in
theorem fJ0_38 : Cond.fieldLink "java/lang/String" 38 "java/lang/String" "COMPACT_STRINGS" "Z" ∈ LT := lt_of 603 rfl rfl

section VJ
variable {κ : KT} {own nm : String} {cc : ByteArray} {nL : Nat} {R : Room} {ret : Option FieldType} {Q : State → Prop} {ω : Wo} {h : Mm} {pc : Nat} {lv : List (Nat × Value)} {st : List Value}
/-- a text's reference, by its place -/
theorem v_ldcS {i idx : Nat} {tx : String} (K : KOK κ "FoxRounds" nm cc nL R ret) (hR : ∀ (ρ : Nat → Nat) (A : Nat → Prop) (U : State) (H : Heap), EX ρ A U H → vk_R "FoxRounds" idx tx (ρ (1020 + i)) U) (d : decode cc pc = .ok (.ldc_w idx, 3)) (kk : V κ Q nL ω h (pc + 3) lv (.ref (1020 + i) :: st)) : V κ Q nL ω h pc lv st := by
  intro H locs ls hl hP hD hS hE T hT X
  obtain ⟨t, a1, b1⟩ := kk H locs ls hl hP hD hS hE T hT X
  have hZ := hR _ _ _ _ hE
  have hev : (Term.string "FoxRounds" idx).eval (ka κ) (ks κ) none [] (ks κ) = some (.ref (ω.2.1 (1020 + i))) := by
    have := hZ.2
    first | exact this | (rw [Term.string_eval_of_vm (args := ka κ) rfl] at this; exact this)
  exact ⟨t, X.ldcStringW K.1 K.2.2.2.1 (text := tx) (a := ω.2.1 (1020 + i)) hZ.1 hev (g := F0 (km κ) pc ls (st.map (ph ω.2.1))) rfl (by rw [K.2.1]; exact d) t a1, b1⟩
/-- its bytes -/
theorem v_strV (K : KOK κ "java/lang/String" nm cc nL R ret) {i : Nat} (hi : i < 4) (d : decode cc pc = .ok (.getfield 9, 3)) (kk : V κ Q nL ω h (pc + 3) lv (.ref (1030 + i) :: st)) : V κ Q nL ω h pc lv (.ref (1020 + i) :: st) :=
  fun H locs ls hl hP hD hS hE => vk_getf K.1 K.2.1 (hE.2.2.2.2.1.1 i hi).2.2.1 hS K.2.2.2.1 (K.2.2.2.2.1 _ fJ0_9) (fun _ q => q) d (kk H locs ls hl hP hD hS hE)
theorem v_strC (K : KOK κ "java/lang/String" nm cc nL R ret) {i : Nat} (hi : i < 4) (d : decode cc pc = .ok (.getfield 15, 3)) (kk : V κ Q nL ω h (pc + 3) lv (.int 0 :: st)) : V κ Q nL ω h pc lv (.ref (1020 + i) :: st) :=
  fun H locs ls hl hP hD hS hE => vk_getf K.1 K.2.1 (hE.2.2.2.2.1.1 i hi).2.1 hS K.2.2.2.1 (K.2.2.2.2.1 _ fJ0_15) (fun _ q => q) d (kk H locs ls hl hP hD hS hE)
theorem v_compact (K : KOK κ "java/lang/String" nm cc nL R ret) (d : decode cc pc = .ok (.getstatic 38, 3)) (kk : V κ Q nL ω h (pc + 3) lv (.int 1 :: st)) : V κ Q nL ω h pc lv st :=
  fun H locs ls hl hP hD hS hE => va_gets K.1 K.2.1 hE.2.2.2.2.2.2 hS K.2.2.2.1 (K.2.2.2.2.1 _ fJ0_38) (fun _ q => q) d (kk H locs ls hl hP hD hS hE)
theorem v_strL (K : KOK κ own nm cc nL R ret) {i : Nat} (hi : i < 4) (d : decode cc pc = .ok (.arraylength, 1)) (kk : V κ Q nL ω h (pc + 1) lv (.int (nI (txL.getD i 0)) :: st)) : V κ Q nL ω h pc lv (.ref (1030 + i) :: st) :=
  fun H locs ls hl hP hD hS hE => va_tlen K.1 K.2.1 (hE.2.2.2.2.1.1 i hi).2.2.2 hS rfl d (kk H locs ls hl hP hD hS hE)
theorem v_strB (K : KOK κ own nm cc nL R ret) {i k : Nat} (hi : i < 4) (hk : k < txL.getD i 0) (d : decode cc pc = .ok (.baload, 1)) (kk : V κ Q nL ω h (pc + 1) lv (.int ((txB.getD i []).getD k 0) :: st)) : V κ Q nL ω h pc lv (.int (nI k) :: .ref (1030 + i) :: st) := by
  intro H locs ls hl hP hD hS hE
  have hL : ∀ i, i < 4 → txL.getD i 0 < 10 := by decide
  have := hL i hi
  exact va_tb K.1 K.2.1 (hE.2.2.2.2.1.1 i hi).2.2.2 hS (vp_in_nI hk (by omega)) (v := .int ((txB.getD i []).getD k 0)) (by rw [nI_clamp (by omega)]) d (kk H locs ls hl hP hD hS hE)
/-- a call on a text -/
theorem v_callT {n : Nat} {ρ : Nat → Nat} {g : Gm} (K : KOK κ own nm cc nL R ret) {i idx na fr lo mL : Nat} {y : MethodName} {b : ByteArray} {rt : Option FieldType} {As : List Value} {Post : Option Value → Mm → Prop} (hc : Con (kl κ) y b mL rt fr lo n g h (.ref (1020 + i) :: As) Post) (lk : LKv own idx y b mL rt na) (hC : y.cls = "java/lang/String") (hi : i < 4) (hn : As.length = na) (hroom : fr + 1 ≤ R.frames ∧ 8 + (mL + 11) + lo ≤ R.locals) (hcat : (st.map fun v => v.category).sum ≤ 8) (d : decode cc pc = .ok (.invokevirtual idx, 3))
    (kk : ∀ r h', Post r h' → V κ Q nL (n, ρ, g, 0, 0) h' (pc + 3) lv (r.toList ++ st)) {st0 : List Value} (hst : st0 = As.reverse ++ .ref (1020 + i) :: st) : V κ Q nL (n, ρ, g, 0, 0) h pc lv st0 := by
  subst hst
  intro H locs ls hl hP hD hS hE
  have hR := K.2.2.2.2.2.2.2.1
  have hcat' : ((st.map (ph ρ)).map fun v => v.category).sum = (st.map fun v => v.category).sum := by rw [List.map_map]; congr 1; apply List.map_congr_left; intro v _; exact ph_cat _ v
  obtain ⟨⟨l1, l2, l3, l4⟩, l5, l6⟩ := lk
  refine v_back (Post := Post) hl hD hS hE rfl (va_runV (C := y.cls) (b := ρ (1020 + i)) (As := As.map (ph ρ)) (n := na) ⟨K.1, K.2.1, K.2.2.1, K.2.2.2.1, K.2.2.2.2.1⟩ (hc (kD κ) (kC κ) (kA κ) ρ) (cwV na K.2.2.2.2.1 (lt_good (fun w hw => ?_)) rfl rfl rfl ⟨rfl, l4⟩ (by rw [hR]; exact hroom)) ⟨Wd.blind, ?_, fun U hU hW => ⟨rfl, Wd.pre K hP hD hS hE hU hW⟩⟩ rfl (by rw [List.length_map]; exact hn) hl.1 ph_ref (lv_room (by rw [hcat']; exact hcat)) d ⟨Nat.zero_le _, Nat.zero_le _⟩) kk
  · rcases List.mem_append.mp hw with hw | hw
    · simp only [List.mem_cons, List.not_mem_nil, or_false] at hw
      rcases hw with rfl | rfl | rfl | rfl
      · exact l1
      · exact l5
      · exact l6
      · exact l2
    · rcases List.mem_cons.mp hw with rfl | hw
      · exact l3
      · exact hw
  · rw [hC]; exact vk_recv (N := 4) (adK := fun i => ρ (1020 + i)) (adV := fun i => ρ (1030 + i)) (i := i) hE.2.2.2.2.1 hi hS
end VJ
