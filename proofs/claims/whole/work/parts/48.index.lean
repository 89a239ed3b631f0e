set_option maxRecDepth 20000 in
theorem dJ0_length_8abf5_0 : decode cJ0_length_8abf5 0 = .ok (.aload_n 0, 1) := by decide +kernel
set_option maxRecDepth 20000 in
theorem dJ0_length_8abf5_1 : decode cJ0_length_8abf5 1 = .ok (.getfield 9, 3) := by decide +kernel
set_option maxRecDepth 20000 in
theorem dJ0_length_8abf5_4 : decode cJ0_length_8abf5 4 = .ok (.arraylength, 1) := by decide +kernel
set_option maxRecDepth 20000 in
theorem dJ0_length_8abf5_5 : decode cJ0_length_8abf5 5 = .ok (.aload_n 0, 1) := by decide +kernel
set_option maxRecDepth 20000 in
theorem dJ0_length_8abf5_6 : decode cJ0_length_8abf5 6 = .ok (.invokevirtual 335, 3) := by decide +kernel
set_option maxRecDepth 20000 in
theorem dJ0_length_8abf5_9 : decode cJ0_length_8abf5 9 = .ok (.ishr, 1) := by decide +kernel
set_option maxRecDepth 20000 in
theorem dJ0_length_8abf5_10 : decode cJ0_length_8abf5 10 = .ok (.ireturn, 1) := by decide +kernel
set_option maxRecDepth 20000 in
theorem dJ0_indexOf_0f7a4_0 : decode cJ0_indexOf_0f7a4 0 = .ok (.aload_n 0, 1) := by decide +kernel
set_option maxRecDepth 20000 in
theorem dJ0_indexOf_0f7a4_1 : decode cJ0_indexOf_0f7a4 1 = .ok (.iload_n 1, 1) := by decide +kernel
set_option maxRecDepth 20000 in
theorem dJ0_indexOf_0f7a4_2 : decode cJ0_indexOf_0f7a4 2 = .ok (.iconst 0, 1) := by decide +kernel
set_option maxRecDepth 20000 in
theorem dJ0_indexOf_0f7a4_3 : decode cJ0_indexOf_0f7a4 3 = .ok (.invokevirtual 633, 3) := by decide +kernel
set_option maxRecDepth 20000 in
theorem dJ0_indexOf_0f7a4_6 : decode cJ0_indexOf_0f7a4 6 = .ok (.ireturn, 1) := by decide +kernel
set_option maxRecDepth 20000 in
theorem dJ0_indexOf_7cf53_0 : decode cJ0_indexOf_7cf53 0 = .ok (.aload_n 0, 1) := by decide +kernel
set_option maxRecDepth 20000 in
theorem dJ0_indexOf_7cf53_1 : decode cJ0_indexOf_7cf53 1 = .ok (.invokevirtual 492, 3) := by decide +kernel
set_option maxRecDepth 20000 in
theorem dJ0_indexOf_7cf53_4 : decode cJ0_indexOf_7cf53 4 = .ok (.ifCond .eq 19, 3) := by decide +kernel
set_option maxRecDepth 20000 in
theorem dJ0_indexOf_7cf53_7 : decode cJ0_indexOf_7cf53 7 = .ok (.aload_n 0, 1) := by decide +kernel
set_option maxRecDepth 20000 in
theorem dJ0_indexOf_7cf53_8 : decode cJ0_indexOf_7cf53 8 = .ok (.getfield 9, 3) := by decide +kernel
set_option maxRecDepth 20000 in
theorem dJ0_indexOf_7cf53_11 : decode cJ0_indexOf_7cf53 11 = .ok (.iload_n 1, 1) := by decide +kernel
set_option maxRecDepth 20000 in
theorem dJ0_indexOf_7cf53_12 : decode cJ0_indexOf_7cf53 12 = .ok (.iload_n 2, 1) := by decide +kernel
set_option maxRecDepth 20000 in
theorem dJ0_indexOf_7cf53_13 : decode cJ0_indexOf_7cf53 13 = .ok (.aload_n 0, 1) := by decide +kernel
set_option maxRecDepth 20000 in
theorem dJ0_indexOf_7cf53_14 : decode cJ0_indexOf_7cf53 14 = .ok (.invokevirtual 505, 3) := by decide +kernel
set_option maxRecDepth 20000 in
theorem dJ0_indexOf_7cf53_17 : decode cJ0_indexOf_7cf53 17 = .ok (.invokestatic 637, 3) := by decide +kernel
set_option maxRecDepth 20000 in
theorem dJ0_indexOf_7cf53_20 : decode cJ0_indexOf_7cf53 20 = .ok (.goto 16, 3) := by decide +kernel
set_option maxRecDepth 20000 in
theorem dJ0_indexOf_7cf53_23 : decode cJ0_indexOf_7cf53 23 = .ok (.aload_n 0, 1) := by decide +kernel
set_option maxRecDepth 20000 in
theorem dJ0_indexOf_7cf53_24 : decode cJ0_indexOf_7cf53 24 = .ok (.getfield 9, 3) := by decide +kernel
set_option maxRecDepth 20000 in
theorem dJ0_indexOf_7cf53_27 : decode cJ0_indexOf_7cf53 27 = .ok (.iload_n 1, 1) := by decide +kernel
set_option maxRecDepth 20000 in
theorem dJ0_indexOf_7cf53_28 : decode cJ0_indexOf_7cf53 28 = .ok (.iload_n 2, 1) := by decide +kernel
set_option maxRecDepth 20000 in
theorem dJ0_indexOf_7cf53_29 : decode cJ0_indexOf_7cf53 29 = .ok (.aload_n 0, 1) := by decide +kernel
set_option maxRecDepth 20000 in
theorem dJ0_indexOf_7cf53_30 : decode cJ0_indexOf_7cf53 30 = .ok (.invokevirtual 505, 3) := by decide +kernel
set_option maxRecDepth 20000 in
theorem dJ0_indexOf_7cf53_33 : decode cJ0_indexOf_7cf53 33 = .ok (.invokestatic 640, 3) := by decide +kernel
set_option maxRecDepth 20000 in
theorem dJ0_indexOf_7cf53_36 : decode cJ0_indexOf_7cf53 36 = .ok (.ireturn, 1) := by decide +kernel
set_option maxRecDepth 20000 in
theorem dJ0_coder_7d493_0 : decode cJ0_coder_7d493 0 = .ok (.getstatic 38, 3) := by decide +kernel
set_option maxRecDepth 20000 in
theorem dJ0_coder_7d493_3 : decode cJ0_coder_7d493 3 = .ok (.ifCond .eq 10, 3) := by decide +kernel
set_option maxRecDepth 20000 in
theorem dJ0_coder_7d493_6 : decode cJ0_coder_7d493 6 = .ok (.aload_n 0, 1) := by decide +kernel
set_option maxRecDepth 20000 in
theorem dJ0_coder_7d493_7 : decode cJ0_coder_7d493 7 = .ok (.getfield 15, 3) := by decide +kernel
set_option maxRecDepth 20000 in
theorem dJ0_coder_7d493_10 : decode cJ0_coder_7d493 10 = .ok (.goto 4, 3) := by decide +kernel
set_option maxRecDepth 20000 in
theorem dJ0_coder_7d493_13 : decode cJ0_coder_7d493 13 = .ok (.iconst 1, 1) := by decide +kernel
set_option maxRecDepth 20000 in
theorem dJ0_coder_7d493_14 : decode cJ0_coder_7d493 14 = .ok (.ireturn, 1) := by decide +kernel
set_option maxRecDepth 20000 in
theorem dJ0_isLatin1_aae02_0 : decode cJ0_isLatin1_aae02 0 = .ok (.getstatic 38, 3) := by decide +kernel
set_option maxRecDepth 20000 in
theorem dJ0_isLatin1_aae02_3 : decode cJ0_isLatin1_aae02 3 = .ok (.ifCond .eq 14, 3) := by decide +kernel
set_option maxRecDepth 20000 in
theorem dJ0_isLatin1_aae02_6 : decode cJ0_isLatin1_aae02 6 = .ok (.aload_n 0, 1) := by decide +kernel
set_option maxRecDepth 20000 in
theorem dJ0_isLatin1_aae02_7 : decode cJ0_isLatin1_aae02 7 = .ok (.getfield 15, 3) := by decide +kernel
set_option maxRecDepth 20000 in
theorem dJ0_isLatin1_aae02_10 : decode cJ0_isLatin1_aae02 10 = .ok (.ifCond .ne 7, 3) := by decide +kernel
set_option maxRecDepth 20000 in
theorem dJ0_isLatin1_aae02_13 : decode cJ0_isLatin1_aae02 13 = .ok (.iconst 1, 1) := by decide +kernel
set_option maxRecDepth 20000 in
theorem dJ0_isLatin1_aae02_14 : decode cJ0_isLatin1_aae02 14 = .ok (.goto 4, 3) := by decide +kernel
set_option maxRecDepth 20000 in
theorem dJ0_isLatin1_aae02_17 : decode cJ0_isLatin1_aae02 17 = .ok (.iconst 0, 1) := by decide +kernel
set_option maxRecDepth 20000 in
theorem dJ0_isLatin1_aae02_18 : decode cJ0_isLatin1_aae02 18 = .ok (.ireturn, 1) := by decide +kernel
set_option maxRecDepth 20000 in
theorem dJ1_canEncode_9a6ad_0 : decode cJ1_canEncode_9a6ad 0 = .ok (.iload_n 0, 1) := by decide +kernel
set_option maxRecDepth 20000 in
theorem dJ1_canEncode_9a6ad_1 : decode cJ1_canEncode_9a6ad 1 = .ok (.ifCond .lt 14, 3) := by decide +kernel
set_option maxRecDepth 20000 in
theorem dJ1_canEncode_9a6ad_4 : decode cJ1_canEncode_9a6ad 4 = .ok (.iload_n 0, 1) := by decide +kernel
set_option maxRecDepth 20000 in
theorem dJ1_canEncode_9a6ad_5 : decode cJ1_canEncode_9a6ad 5 = .ok (.sipush 255, 3) := by decide +kernel
set_option maxRecDepth 20000 in
theorem dJ1_canEncode_9a6ad_8 : decode cJ1_canEncode_9a6ad 8 = .ok (.if_icmp .gt 7, 3) := by decide +kernel
set_option maxRecDepth 20000 in
theorem dJ1_canEncode_9a6ad_11 : decode cJ1_canEncode_9a6ad 11 = .ok (.iconst 1, 1) := by decide +kernel
set_option maxRecDepth 20000 in
theorem dJ1_canEncode_9a6ad_12 : decode cJ1_canEncode_9a6ad 12 = .ok (.goto 4, 3) := by decide +kernel
set_option maxRecDepth 20000 in
theorem dJ1_canEncode_9a6ad_15 : decode cJ1_canEncode_9a6ad 15 = .ok (.iconst 0, 1) := by decide +kernel
set_option maxRecDepth 20000 in
theorem dJ1_canEncode_9a6ad_16 : decode cJ1_canEncode_9a6ad 16 = .ok (.ireturn, 1) := by decide +kernel
set_option maxRecDepth 20000 in
theorem dJ1_indexOf_4cfef_0 : decode cJ1_indexOf_4cfef 0 = .ok (.iload_n 1, 1) := by decide +kernel
set_option maxRecDepth 20000 in
theorem dJ1_indexOf_4cfef_1 : decode cJ1_indexOf_4cfef 1 = .ok (.invokestatic 88, 3) := by decide +kernel
set_option maxRecDepth 20000 in
theorem dJ1_indexOf_4cfef_4 : decode cJ1_indexOf_4cfef 4 = .ok (.ifCond .ne 5, 3) := by decide +kernel
set_option maxRecDepth 20000 in
theorem dJ1_indexOf_4cfef_7 : decode cJ1_indexOf_4cfef 7 = .ok (.iconst (-1), 1) := by decide +kernel
set_option maxRecDepth 20000 in
theorem dJ1_indexOf_4cfef_8 : decode cJ1_indexOf_4cfef 8 = .ok (.ireturn, 1) := by decide +kernel
set_option maxRecDepth 20000 in
theorem dJ1_indexOf_4cfef_9 : decode cJ1_indexOf_4cfef 9 = .ok (.iload_n 2, 1) := by decide +kernel
set_option maxRecDepth 20000 in
theorem dJ1_indexOf_4cfef_10 : decode cJ1_indexOf_4cfef 10 = .ok (.iconst 0, 1) := by decide +kernel
set_option maxRecDepth 20000 in
theorem dJ1_indexOf_4cfef_11 : decode cJ1_indexOf_4cfef 11 = .ok (.invokestatic 92, 3) := by decide +kernel
set_option maxRecDepth 20000 in
theorem dJ1_indexOf_4cfef_14 : decode cJ1_indexOf_4cfef 14 = .ok (.istore_n 2, 1) := by decide +kernel
set_option maxRecDepth 20000 in
theorem dJ1_indexOf_4cfef_15 : decode cJ1_indexOf_4cfef 15 = .ok (.iload_n 3, 1) := by decide +kernel
set_option maxRecDepth 20000 in
theorem dJ1_indexOf_4cfef_16 : decode cJ1_indexOf_4cfef 16 = .ok (.aload_n 0, 1) := by decide +kernel
set_option maxRecDepth 20000 in
theorem dJ1_indexOf_4cfef_17 : decode cJ1_indexOf_4cfef 17 = .ok (.arraylength, 1) := by decide +kernel
set_option maxRecDepth 20000 in
theorem dJ1_indexOf_4cfef_18 : decode cJ1_indexOf_4cfef 18 = .ok (.invokestatic 38, 3) := by decide +kernel
set_option maxRecDepth 20000 in
theorem dJ1_indexOf_4cfef_21 : decode cJ1_indexOf_4cfef 21 = .ok (.istore_n 3, 1) := by decide +kernel
set_option maxRecDepth 20000 in
theorem dJ1_indexOf_4cfef_22 : decode cJ1_indexOf_4cfef 22 = .ok (.iload_n 2, 1) := by decide +kernel
set_option maxRecDepth 20000 in
theorem dJ1_indexOf_4cfef_23 : decode cJ1_indexOf_4cfef 23 = .ok (.iload_n 3, 1) := by decide +kernel
set_option maxRecDepth 20000 in
theorem dJ1_indexOf_4cfef_24 : decode cJ1_indexOf_4cfef 24 = .ok (.if_icmp .lt 5, 3) := by decide +kernel
set_option maxRecDepth 20000 in
theorem dJ1_indexOf_4cfef_27 : decode cJ1_indexOf_4cfef 27 = .ok (.iconst (-1), 1) := by decide +kernel
set_option maxRecDepth 20000 in
theorem dJ1_indexOf_4cfef_28 : decode cJ1_indexOf_4cfef 28 = .ok (.ireturn, 1) := by decide +kernel
set_option maxRecDepth 20000 in
theorem dJ1_indexOf_4cfef_29 : decode cJ1_indexOf_4cfef 29 = .ok (.aload_n 0, 1) := by decide +kernel
set_option maxRecDepth 20000 in
theorem dJ1_indexOf_4cfef_30 : decode cJ1_indexOf_4cfef 30 = .ok (.iload_n 1, 1) := by decide +kernel
set_option maxRecDepth 20000 in
theorem dJ1_indexOf_4cfef_31 : decode cJ1_indexOf_4cfef 31 = .ok (.iload_n 2, 1) := by decide +kernel
set_option maxRecDepth 20000 in
theorem dJ1_indexOf_4cfef_32 : decode cJ1_indexOf_4cfef 32 = .ok (.iload_n 3, 1) := by decide +kernel
set_option maxRecDepth 20000 in
theorem dJ1_indexOf_4cfef_33 : decode cJ1_indexOf_4cfef 33 = .ok (.invokestatic 95, 3) := by decide +kernel
set_option maxRecDepth 20000 in
theorem dJ1_indexOf_4cfef_36 : decode cJ1_indexOf_4cfef 36 = .ok (.ireturn, 1) := by decide +kernel
set_option maxRecDepth 20000 in
theorem dJ1_indexOfChar_4cfef_0 : decode cJ1_indexOfChar_4cfef 0 = .ok (.iload_n 1, 1) := by decide +kernel
set_option maxRecDepth 20000 in
theorem dJ1_indexOfChar_4cfef_1 : decode cJ1_indexOfChar_4cfef 1 = .ok (.i2b, 1) := by decide +kernel
set_option maxRecDepth 20000 in
theorem dJ1_indexOfChar_4cfef_2 : decode cJ1_indexOfChar_4cfef 2 = .ok (.istore 4, 2) := by decide +kernel
set_option maxRecDepth 20000 in
theorem dJ1_indexOfChar_4cfef_4 : decode cJ1_indexOfChar_4cfef 4 = .ok (.iload_n 2, 1) := by decide +kernel
set_option maxRecDepth 20000 in
theorem dJ1_indexOfChar_4cfef_5 : decode cJ1_indexOfChar_4cfef 5 = .ok (.istore 5, 2) := by decide +kernel
set_option maxRecDepth 20000 in
theorem dJ1_indexOfChar_4cfef_7 : decode cJ1_indexOfChar_4cfef 7 = .ok (.iload 5, 2) := by decide +kernel
set_option maxRecDepth 20000 in
theorem dJ1_indexOfChar_4cfef_9 : decode cJ1_indexOfChar_4cfef 9 = .ok (.iload_n 3, 1) := by decide +kernel
set_option maxRecDepth 20000 in
theorem dJ1_indexOfChar_4cfef_10 : decode cJ1_indexOfChar_4cfef 10 = .ok (.if_icmp .ge 21, 3) := by decide +kernel
set_option maxRecDepth 20000 in
theorem dJ1_indexOfChar_4cfef_13 : decode cJ1_indexOfChar_4cfef 13 = .ok (.aload_n 0, 1) := by decide +kernel
set_option maxRecDepth 20000 in
theorem dJ1_indexOfChar_4cfef_14 : decode cJ1_indexOfChar_4cfef 14 = .ok (.iload 5, 2) := by decide +kernel
set_option maxRecDepth 20000 in
theorem dJ1_indexOfChar_4cfef_16 : decode cJ1_indexOfChar_4cfef 16 = .ok (.baload, 1) := by decide +kernel
set_option maxRecDepth 20000 in
theorem dJ1_indexOfChar_4cfef_17 : decode cJ1_indexOfChar_4cfef 17 = .ok (.iload 4, 2) := by decide +kernel
set_option maxRecDepth 20000 in
theorem dJ1_indexOfChar_4cfef_19 : decode cJ1_indexOfChar_4cfef 19 = .ok (.if_icmp .ne 6, 3) := by decide +kernel
set_option maxRecDepth 20000 in
theorem dJ1_indexOfChar_4cfef_22 : decode cJ1_indexOfChar_4cfef 22 = .ok (.iload 5, 2) := by decide +kernel
set_option maxRecDepth 20000 in
theorem dJ1_indexOfChar_4cfef_24 : decode cJ1_indexOfChar_4cfef 24 = .ok (.ireturn, 1) := by decide +kernel
set_option maxRecDepth 20000 in
theorem dJ1_indexOfChar_4cfef_25 : decode cJ1_indexOfChar_4cfef 25 = .ok (.iinc 5 1, 3) := by decide +kernel
set_option maxRecDepth 20000 in
theorem dJ1_indexOfChar_4cfef_28 : decode cJ1_indexOfChar_4cfef 28 = .ok (.goto (-21), 3) := by decide +kernel
set_option maxRecDepth 20000 in
theorem dJ1_indexOfChar_4cfef_31 : decode cJ1_indexOfChar_4cfef 31 = .ok (.iconst (-1), 1) := by decide +kernel
set_option maxRecDepth 20000 in
theorem dJ1_indexOfChar_4cfef_32 : decode cJ1_indexOfChar_4cfef 32 = .ok (.ireturn, 1) := by decide +kernel

theorem v_bret {κ : KT} {own nm : String} {cc : ByteArray} {nL : Nat} {R : Room} {h : Mm} {pc : Nat} {lv : List (Nat × Value)} {n : Nat} {ρ : Nat → Nat} {g : Gm} (K : KOK κ own nm cc nL R (some .byte)) {Post : Option Value → Mm → Prop} {x : Int32} (d : decode cc pc = .ok (.ireturn, 1)) (hx : narrow .byte (.int x) = .int x) (hp : Post (some (.int x)) h) : V κ (QM κ (n, ρ, g, 0, 0) Post) nL (n, ρ, g, 0, 0) h pc lv [.int x] :=
  fun _ _ _ _ hP hD hS hE => W.zret K.1 K.2.1 K.2.2.2.2.2.2.2.2.1 hx (q_end K (r := some (.int x)) hp hP hD hS hE) hS.2.2 d K.2.2.2.2.2.2.2.2.2.1
/-! a text's first place of a sign -/
def fndT (L : List Int32) (v : Int32) : Nat → Nat → Int32
  | 0, _ => (-1)
  | f + 1, k => if L.getD k 0 = v then nI k else fndT L v f (k + 1)
def idxT (i : Nat) (v : Int32) : Int32 := fndT (txB.getD i []) v (txL.getD i 0) 0
theorem txL_lt {i : Nat} (h : i < 4) : txL.getD i 0 < 10 := by
  obtain rfl | rfl | rfl | rfl : i = 0 ∨ i = 1 ∨ i = 2 ∨ i = 3 := by omega
  all_goals decide
theorem i2b_n {m : Nat} (h : m < 128) : (nI m).toInt8.toInt32 = nI m := by
  have : ∀ m, m < 128 → (nI m).toInt8.toInt32 = nI m := by decide +kernel
  exact this m h
theorem i2c_n {m : Nat} (h : m < 128) : ((nI m).toUInt32 % 65536).toInt32 = nI m := by
  have : ∀ m, m < 128 → ((nI m).toUInt32 % 65536).toInt32 = nI m := by decide +kernel
  exact this m h
theorem idx_name {u m : Nat} (hu : u < 3) (hm : m < 128) : idxT (u + 1) (nI m) = nmI (nameP u (nI m)) := by
  have : ∀ u, u < 3 → ∀ m, m < 128 → idxT (u + 1) (nI m) = nmI (nameP u (nI m)) := by decide +kernel
  exact this u hu m hm
theorem nn_lt {m : Nat} (h : m < 2 ^ 31) : ¬ nI m < 0 := by
  intro q
  rw [i32_lt, nI_toInt h, Int32.toInt_zero] at q; omega

abbrev P_J0_isLatin1_aae02 (h : Mm) (i : Nat) : Option Value → Mm → Prop := fun r h2 => r = some (.int (nI 1)) ∧ h = h2
theorem c_J0_isLatin1_aae02 {l : Launch} (h : Mm) (i : Nat) (hi : i < 4) : Con l yJ0_isLatin1_aae02 cJ0_isLatin1_aae02 1 (some .boolean) 0 0 132 GL h [.ref (1020 + i)] (P_J0_isLatin1_aae02 h i) := by
  refine Con.ofV (own := "java/lang/String") (nm := "isLatin1") rfl rfl (by decide) (Nat.le_of_ble_eq_true rfl) ?_
  intro κ ρ hkl K
  subst hkl
  show V κ (QM κ (132, ρ, GL, 0, 0) (P_J0_isLatin1_aae02 h i)) 1 (132, ρ, GL, 0, 0) h 0 [(0, .ref (1020 + i))] []
  refine v_compact K dJ0_isLatin1_aae02_0 ?_
  refine v_top (y := nI 1) rfl ?_
  refine v_ifN_eq (tgt := 17) K (by omega) dJ0_isLatin1_aae02_3 rfl (fun c1 => ?_) (fun c1 => ?_)
  · exact absurd c1 (by decide)
  · skip
    refine v_aload_n K dJ0_isLatin1_aae02_6 rfl ?_
    refine v_strC (i := i) K (by omega) dJ0_isLatin1_aae02_7 ?_
    refine v_top (y := nI 0) rfl ?_
    refine v_ifN_ne (tgt := 17) K (by omega) dJ0_isLatin1_aae02_10 rfl (fun c2 => ?_) (fun c2 => ?_)
    · exact absurd c2 (by decide)
    · skip
      refine v_iconstN K 1 rfl dJ0_isLatin1_aae02_13 ?_
      refine v_goto (tgt := 18) K dJ0_isLatin1_aae02_14 rfl ?_
      refine v_zret K dJ0_isLatin1_aae02_18 (by decide) ?_
      exact ⟨rfl, rfl⟩

abbrev P_J0_coder_7d493 (h : Mm) (i : Nat) : Option Value → Mm → Prop := fun r h2 => r = some (.int (nI 0)) ∧ h = h2
theorem c_J0_coder_7d493 {l : Launch} (h : Mm) (i : Nat) (hi : i < 4) : Con l yJ0_coder_7d493 cJ0_coder_7d493 1 (some FieldType.byte) 0 0 132 GL h [.ref (1020 + i)] (P_J0_coder_7d493 h i) := by
  refine Con.ofV (own := "java/lang/String") (nm := "coder") rfl rfl (by decide) (Nat.le_of_ble_eq_true rfl) ?_
  intro κ ρ hkl K
  subst hkl
  show V κ (QM κ (132, ρ, GL, 0, 0) (P_J0_coder_7d493 h i)) 1 (132, ρ, GL, 0, 0) h 0 [(0, .ref (1020 + i))] []
  refine v_compact K dJ0_coder_7d493_0 ?_
  refine v_top (y := nI 1) rfl ?_
  refine v_ifN_eq (tgt := 13) K (by omega) dJ0_coder_7d493_3 rfl (fun c1 => ?_) (fun c1 => ?_)
  · exact absurd c1 (by decide)
  · skip
    refine v_aload_n K dJ0_coder_7d493_6 rfl ?_
    refine v_strC (i := i) K (by omega) dJ0_coder_7d493_7 ?_
    refine v_top (y := nI 0) rfl ?_
    refine v_goto (tgt := 14) K dJ0_coder_7d493_10 rfl ?_
    refine v_bret K dJ0_coder_7d493_14 rfl ?_
    exact ⟨rfl, rfl⟩

theorem ishr_0 {n : Nat} (h : n < 10) : nI n >>> (nI 0 &&& 31) = nI n := by
  have : ∀ n, n < 10 → nI n >>> (nI 0 &&& 31) = nI n := by decide +kernel
  exact this n h

abbrev P_J0_length_8abf5 (h : Mm) (i : Nat) : Option Value → Mm → Prop := fun r h2 => r = some (.int (nI (txL.getD i 0))) ∧ h = h2
theorem c_J0_length_8abf5 {l : Launch} (h : Mm) (i : Nat) (hi : i < 4) : Con l yJ0_length_8abf5 cJ0_length_8abf5 1 (some .int) 1 20 132 GL h [.ref (1020 + i)] (P_J0_length_8abf5 h i) := by
  refine Con.ofV (own := "java/lang/String") (nm := "length") rfl rfl (by decide) (Nat.le_of_ble_eq_true rfl) ?_
  intro κ ρ hkl K
  subst hkl
  show V κ (QM κ (132, ρ, GL, 0, 0) (P_J0_length_8abf5 h i)) 1 (132, ρ, GL, 0, 0) h 0 [(0, .ref (1020 + i))] []
  refine v_aload_n K dJ0_length_8abf5_0 rfl ?_
  refine v_strV (i := i) K (by omega) dJ0_length_8abf5_1 ?_
  refine v_strL (i := i) K (by omega) dJ0_length_8abf5_4 ?_
  refine v_aload_n K dJ0_length_8abf5_5 rfl ?_
  refine v_callT (i := i) (As := []) K (c_J0_coder_7d493 h i (by omega)) lJ0_335 rfl (by omega) rfl ⟨by decide, by decide⟩ (Nat.le_of_ble_eq_true rfl) dJ0_length_8abf5_6 (fun r1 h1 hp1 => ?_) rfl
  obtain ⟨rfl, rfl⟩ := hp1
  refine v_some ?_
  refine v_ishr K dJ0_length_8abf5_9 ?_
  refine v_top (y := nI (txL.getD i 0)) (ishr_0 (txL_lt hi)) ?_
  refine v_iret K dJ0_length_8abf5_10 ?_
  exact ⟨rfl, rfl⟩

abbrev P_J1_canEncode_9a6ad (h : Mm) (m : Nat) : Option Value → Mm → Prop := fun r h2 => r = some (.int (nI 1)) ∧ h = h2
theorem c_J1_canEncode_9a6ad {l : Launch} (h : Mm) (m : Nat) (hm : m < 128) : Con l yJ1_canEncode_9a6ad cJ1_canEncode_9a6ad 1 (some .boolean) 0 0 132 GL h [.int (nI m)] (P_J1_canEncode_9a6ad h m) := by
  refine Con.ofV (own := "java/lang/StringLatin1") (nm := "canEncode") rfl rfl (by decide) (Nat.le_of_ble_eq_true rfl) ?_
  intro κ ρ hkl K
  subst hkl
  show V κ (QM κ (132, ρ, GL, 0, 0) (P_J1_canEncode_9a6ad h m)) 1 (132, ρ, GL, 0, 0) h 0 [(0, .int (nI m))] []
  refine v_iload_n K dJ1_canEncode_9a6ad_0 rfl ?_
  refine v_if_lt (tgt := 15) K dJ1_canEncode_9a6ad_1 rfl (fun c1 => ?_) (fun c1 => ?_)
  · skip
    exact absurd c1 (nn_lt (by omega))
  · skip
    refine v_iload_n K dJ1_canEncode_9a6ad_4 rfl ?_
    refine v_sipushN K 255 rfl dJ1_canEncode_9a6ad_5 ?_
    refine v_icmpN_gt (tgt := 15) K (by omega) (by omega) dJ1_canEncode_9a6ad_8 rfl (fun c2 => ?_) (fun c2 => ?_)
    · skip
      omega
    · skip
      refine v_iconstN K 1 rfl dJ1_canEncode_9a6ad_11 ?_
      refine v_goto (tgt := 16) K dJ1_canEncode_9a6ad_12 rfl ?_
      refine v_zret K dJ1_canEncode_9a6ad_16 (by decide) ?_
      exact ⟨rfl, rfl⟩

theorem fnd_y {L : List Int32} {v : Int32} {f k : Nat} (hf : 0 < f) (h : L.getD k 0 = v) : fndT L v f k = nI k := by
  obtain ⟨g, rfl⟩ : ∃ g, f = g + 1 := ⟨f - 1, by omega⟩
  exact if_pos h
theorem fnd_n {L : List Int32} {v : Int32} {N k : Nat} (hf : k < N) (h : ¬ L.getD k 0 = v) : fndT L v (N - k) k = fndT L v (N - (k + 1)) (k + 1) := by
  rw [show N - k = (N - (k + 1)) + 1 by omega, fndT, if_neg h]
theorem fnd_e {L : List Int32} {v w : Int32} {f k : Nat} (hf : f = 0) (h : fndT L v f k = w) : (-1) = w := by subst hf; exact h

abbrev P_J1_indexOfChar_4cfef (h : Mm) (i m : Nat) : Option Value → Mm → Prop := fun r h2 => r = some (.int (idxT i (nI m))) ∧ h = h2
theorem c_J1_indexOfChar_4cfef {l : Launch} (h : Mm) (i m : Nat) (hi : i < 4) (hm : m < 128) : Con l yJ1_indexOfChar_4cfef cJ1_indexOfChar_4cfef 6 (some .int) 0 0 132 GL h [.ref (1030 + i), .int (nI m), .int (nI 0), .int (nI (txL.getD i 0))] (P_J1_indexOfChar_4cfef h i m) := by
  refine Con.ofV (own := "java/lang/StringLatin1") (nm := "indexOfChar") rfl rfl (by decide) (Nat.le_of_ble_eq_true rfl) ?_
  intro κ ρ hkl K
  subst hkl
  show V κ (QM κ (132, ρ, GL, 0, 0) (P_J1_indexOfChar_4cfef h i m)) 6 (132, ρ, GL, 0, 0) h 0 [(0, .ref (1030 + i)), (1, .int (nI m)), (2, .int (nI 0)), (3, .int (nI (txL.getD i 0)))] []
  have hL := txL_lt hi
  refine v_iload_n K dJ1_indexOfChar_4cfef_0 rfl ?_
  refine v_i2b K dJ1_indexOfChar_4cfef_1 rfl ?_
  refine v_top (y := nI m) (i2b_n hm) ?_
  refine v_istore (lv2 := [(4, .int (nI m)), (0, .ref (1030 + i)), (1, .int (nI m)), (2, .int (nI 0)), (3, .int (nI (txL.getD i 0)))]) K dJ1_indexOfChar_4cfef_2 (by decide) rfl ?_
  refine v_iload_n K dJ1_indexOfChar_4cfef_4 rfl ?_
  refine v_istore (lv2 := [(5, .int (nI 0)), (4, .int (nI m)), (0, .ref (1030 + i)), (1, .int (nI m)), (2, .int (nI 0)), (3, .int (nI (txL.getD i 0)))]) K dJ1_indexOfChar_4cfef_5 (by decide) rfl ?_
  have L7 : ∀ (mm : Nat) (x : Nat) (hx : x ≤ txL.getD i 0) (hF : fndT (txB.getD i []) (nI m) (txL.getD i 0 - x) x = idxT i (nI m)), txL.getD i 0 - x < mm → V κ (QM κ (132, ρ, GL, 0, 0) (P_J1_indexOfChar_4cfef h i m)) 6 (132, ρ, GL, 0, 0) h 7 [(0, .ref (1030 + i)), (1, .int (nI m)), (3, .int (nI (txL.getD i 0))), (4, .int (nI m)), (5, .int (nI x))] [] := by
    intro mm
    induction mm with
    | zero => intro x hx hF hmm; exact absurd hmm (Nat.not_lt_zero _)
    | succ mm ih7 =>
      intro x hx hF hmm
      refine v_iload K dJ1_indexOfChar_4cfef_7 rfl ?_
      refine v_iload_n K dJ1_indexOfChar_4cfef_9 rfl ?_
      refine v_icmpN_ge (tgt := 31) K (by omega) (by omega) dJ1_indexOfChar_4cfef_10 rfl (fun c1 => ?_) (fun c1 => ?_)
      · skip
        refine v_iconst (v := (-1)) K dJ1_indexOfChar_4cfef_31 (by decide) ?_
        refine v_iret K dJ1_indexOfChar_4cfef_32 ?_
        exact ⟨congrArg (fun z => some (Value.int z)) (fnd_e (by omega) hF), rfl⟩
      · skip
        refine v_aload_n K dJ1_indexOfChar_4cfef_13 rfl ?_
        refine v_iload K dJ1_indexOfChar_4cfef_14 rfl ?_
        refine v_strB (i := i) K (by omega) (by omega) dJ1_indexOfChar_4cfef_16 ?_
        refine v_iload K dJ1_indexOfChar_4cfef_17 rfl ?_
        refine v_icmp_ne (tgt := 25) K dJ1_indexOfChar_4cfef_19 rfl (fun c2 => ?_) (fun c2 => ?_)
        · skip
          refine v_iincN (lv2 := [(5, .int (nI (x + 1))), (0, .ref (1030 + i)), (1, .int (nI m)), (3, .int (nI (txL.getD i 0))), (4, .int (nI m))]) K 1 dJ1_indexOfChar_4cfef_25 rfl rfl (by decide) rfl ?_
          refine v_goto (tgt := 7) K dJ1_indexOfChar_4cfef_28 rfl ?_
          refine v_sub (lv2 := [(0, .ref (1030 + i)), (1, .int (nI m)), (3, .int (nI (txL.getD i 0))), (4, .int (nI m)), (5, .int (nI (x + 1)))]) (by simp) ?_
          exact ih7 (x + 1) (by first | assumption | omega | rfl) (by exact (fnd_n (by omega) c2).symm.trans hF) (by omega)
        · skip
          refine v_iload K dJ1_indexOfChar_4cfef_22 rfl ?_
          refine v_iret K dJ1_indexOfChar_4cfef_24 ?_
          exact ⟨congrArg (fun z => some (Value.int z)) ((fnd_y (by omega) c2).symm.trans hF), rfl⟩
  refine v_sub (lv2 := [(0, .ref (1030 + i)), (1, .int (nI m)), (3, .int (nI (txL.getD i 0))), (4, .int (nI m)), (5, .int (nI 0))]) (by simp) ?_
  exact L7 (txL.getD i 0 - 0 + 1) 0 (by first | assumption | omega | rfl) (by rfl) (Nat.lt_succ_self _)

abbrev P_J1_indexOf_4cfef (h : Mm) (i m : Nat) : Option Value → Mm → Prop := fun r h2 => r = some (.int (idxT i (nI m))) ∧ h = h2
theorem c_J1_indexOf_4cfef {l : Launch} (h : Mm) (i m : Nat) (hi : i < 4) (hm : m < 128) : Con l yJ1_indexOf_4cfef cJ1_indexOf_4cfef 4 (some .int) 1 25 132 GL h [.ref (1030 + i), .int (nI m), .int (nI 0), .int (nI (txL.getD i 0))] (P_J1_indexOf_4cfef h i m) := by
  refine Con.ofV (own := "java/lang/StringLatin1") (nm := "indexOf") rfl rfl (by decide) (Nat.le_of_ble_eq_true rfl) ?_
  intro κ ρ hkl K
  subst hkl
  show V κ (QM κ (132, ρ, GL, 0, 0) (P_J1_indexOf_4cfef h i m)) 4 (132, ρ, GL, 0, 0) h 0 [(0, .ref (1030 + i)), (1, .int (nI m)), (2, .int (nI 0)), (3, .int (nI (txL.getD i 0)))] []
  have hL := txL_lt hi
  refine v_iload_n K dJ1_indexOf_4cfef_0 rfl ?_
  refine v_callS (As := [.int (nI m)]) K (c_J1_canEncode_9a6ad h m (by omega)) lJ1_88 rfl ⟨by decide, by decide⟩ (Nat.le_of_ble_eq_true rfl) dJ1_indexOf_4cfef_1 (fun r1 h1 hp1 => ?_) rfl
  obtain ⟨rfl, rfl⟩ := hp1
  refine v_some ?_
  refine v_ifN_ne (tgt := 9) K (by omega) dJ1_indexOf_4cfef_4 rfl (fun c1 => ?_) (fun c1 => ?_)
  · skip
    refine v_iload_n K dJ1_indexOf_4cfef_9 rfl ?_
    refine v_iconstN K 0 rfl dJ1_indexOf_4cfef_10 ?_
    refine v_max K jJ1_92 jst_max jin_math jco_max ⟨by decide, by decide, Nat.zero_le _, Nat.zero_le _⟩ (Nat.le_of_ble_eq_true rfl) dJ1_indexOf_4cfef_11 ?_
    refine v_top (y := nI 0) (by decide) ?_
    refine v_istore_n (lv2 := [(2, .int (nI 0)), (0, .ref (1030 + i)), (1, .int (nI m)), (3, .int (nI (txL.getD i 0)))]) K dJ1_indexOf_4cfef_14 (by decide) rfl ?_
    refine v_iload_n K dJ1_indexOf_4cfef_15 rfl ?_
    refine v_aload_n K dJ1_indexOf_4cfef_16 rfl ?_
    refine v_strL (i := i) K (by omega) dJ1_indexOf_4cfef_17 ?_
    refine v_min K jJ1_38 jst_min jin_math jco_min ⟨by decide, by decide, Nat.zero_le _, Nat.zero_le _⟩ (Nat.le_of_ble_eq_true rfl) dJ1_indexOf_4cfef_18 ?_
    refine v_top (y := nI (txL.getD i 0)) (ite_self _) ?_
    refine v_istore_n (lv2 := [(3, .int (nI (txL.getD i 0))), (2, .int (nI 0)), (0, .ref (1030 + i)), (1, .int (nI m))]) K dJ1_indexOf_4cfef_21 (by decide) rfl ?_
    refine v_iload_n K dJ1_indexOf_4cfef_22 rfl ?_
    refine v_iload_n K dJ1_indexOf_4cfef_23 rfl ?_
    refine v_icmpN_lt (tgt := 29) K (by omega) (by omega) dJ1_indexOf_4cfef_24 rfl (fun c2 => ?_) (fun c2 => ?_)
    · skip
      refine v_aload_n K dJ1_indexOf_4cfef_29 rfl ?_
      refine v_iload_n K dJ1_indexOf_4cfef_30 rfl ?_
      refine v_iload_n K dJ1_indexOf_4cfef_31 rfl ?_
      refine v_iload_n K dJ1_indexOf_4cfef_32 rfl ?_
      refine v_callS (As := [.ref (1030 + i), .int (nI m), .int (nI 0), .int (nI (txL.getD i 0))]) K (c_J1_indexOfChar_4cfef h i m (by omega) (by omega)) lJ1_95 rfl ⟨by decide, by decide⟩ (Nat.le_of_ble_eq_true rfl) dJ1_indexOf_4cfef_33 (fun r2 h2 hp2 => ?_) rfl
      obtain ⟨rfl, rfl⟩ := hp2
      refine v_some ?_
      refine v_iret K dJ1_indexOf_4cfef_36 ?_
      exact ⟨rfl, rfl⟩
    · skip
      refine v_iconst (v := (-1)) K dJ1_indexOf_4cfef_27 (by decide) ?_
      refine v_iret K dJ1_indexOf_4cfef_28 ?_
      exact ⟨congrArg (fun z => some (Value.int z)) (fnd_e (k := 0) (L := txB.getD i []) (v := nI m) (f := txL.getD i 0) (by omega) rfl), rfl⟩
  · exact absurd c1 (by decide)

abbrev P_J0_indexOf_7cf53 (h : Mm) (i m : Nat) : Option Value → Mm → Prop := fun r h2 => r = some (.int (idxT i (nI m))) ∧ h = h2
theorem c_J0_indexOf_7cf53 {l : Launch} (h : Mm) (i m : Nat) (hi : i < 4) (hm : m < 128) : Con l yJ0_indexOf_7cf53 cJ0_indexOf_7cf53 3 (some .int) 2 48 132 GL h [.ref (1020 + i), .int (nI m), .int (nI 0)] (P_J0_indexOf_7cf53 h i m) := by
  refine Con.ofV (own := "java/lang/String") (nm := "indexOf") rfl rfl (by decide) (Nat.le_of_ble_eq_true rfl) ?_
  intro κ ρ hkl K
  subst hkl
  show V κ (QM κ (132, ρ, GL, 0, 0) (P_J0_indexOf_7cf53 h i m)) 3 (132, ρ, GL, 0, 0) h 0 [(0, .ref (1020 + i)), (1, .int (nI m)), (2, .int (nI 0))] []
  refine v_aload_n K dJ0_indexOf_7cf53_0 rfl ?_
  refine v_callT (i := i) (As := []) K (c_J0_isLatin1_aae02 h i (by omega)) lJ0_492 rfl (by omega) rfl ⟨by decide, by decide⟩ (Nat.le_of_ble_eq_true rfl) dJ0_indexOf_7cf53_1 (fun r1 h1 hp1 => ?_) rfl
  obtain ⟨rfl, rfl⟩ := hp1
  refine v_some ?_
  refine v_ifN_eq (tgt := 23) K (by omega) dJ0_indexOf_7cf53_4 rfl (fun c1 => ?_) (fun c1 => ?_)
  · exact absurd c1 (by decide)
  · skip
    refine v_aload_n K dJ0_indexOf_7cf53_7 rfl ?_
    refine v_strV (i := i) K (by omega) dJ0_indexOf_7cf53_8 ?_
    refine v_iload_n K dJ0_indexOf_7cf53_11 rfl ?_
    refine v_iload_n K dJ0_indexOf_7cf53_12 rfl ?_
    refine v_aload_n K dJ0_indexOf_7cf53_13 rfl ?_
    refine v_callT (i := i) (As := []) K (c_J0_length_8abf5 h i (by omega)) lJ0_505 rfl (by omega) rfl ⟨by decide, by decide⟩ (Nat.le_of_ble_eq_true rfl) dJ0_indexOf_7cf53_14 (fun r2 h2 hp2 => ?_) rfl
    obtain ⟨rfl, rfl⟩ := hp2
    refine v_some ?_
    refine v_callS (As := [.ref (1030 + i), .int (nI m), .int (nI 0), .int (nI (txL.getD i 0))]) K (c_J1_indexOf_4cfef h i m (by omega) (by omega)) lJ0_637 rfl ⟨by decide, by decide⟩ (Nat.le_of_ble_eq_true rfl) dJ0_indexOf_7cf53_17 (fun r3 h3 hp3 => ?_) rfl
    obtain ⟨rfl, rfl⟩ := hp3
    refine v_some ?_
    refine v_goto (tgt := 36) K dJ0_indexOf_7cf53_20 rfl ?_
    refine v_iret K dJ0_indexOf_7cf53_36 ?_
    exact ⟨rfl, rfl⟩

abbrev P_J0_indexOf_0f7a4 (h : Mm) (i m : Nat) : Option Value → Mm → Prop := fun r h2 => r = some (.int (idxT i (nI m))) ∧ h = h2
theorem c_J0_indexOf_0f7a4 {l : Launch} (h : Mm) (i m : Nat) (hi : i < 4) (hm : m < 128) : Con l yJ0_indexOf_0f7a4 cJ0_indexOf_0f7a4 2 (some .int) 3 70 132 GL h [.ref (1020 + i), .int (nI m)] (P_J0_indexOf_0f7a4 h i m) := by
  refine Con.ofV (own := "java/lang/String") (nm := "indexOf") rfl rfl (by decide) (Nat.le_of_ble_eq_true rfl) ?_
  intro κ ρ hkl K
  subst hkl
  show V κ (QM κ (132, ρ, GL, 0, 0) (P_J0_indexOf_0f7a4 h i m)) 2 (132, ρ, GL, 0, 0) h 0 [(0, .ref (1020 + i)), (1, .int (nI m))] []
  refine v_aload_n K dJ0_indexOf_0f7a4_0 rfl ?_
  refine v_iload_n K dJ0_indexOf_0f7a4_1 rfl ?_
  refine v_iconstN K 0 rfl dJ0_indexOf_0f7a4_2 ?_
  refine v_callT (i := i) (As := [.int (nI m), .int (nI 0)]) K (c_J0_indexOf_7cf53 h i m (by omega) (by omega)) lJ0_633 rfl (by omega) rfl ⟨by decide, by decide⟩ (Nat.le_of_ble_eq_true rfl) dJ0_indexOf_0f7a4_3 (fun r1 h1 hp1 => ?_) rfl
  obtain ⟨rfl, rfl⟩ := hp1
  refine v_some ?_
  refine v_iret K dJ0_indexOf_0f7a4_6 ?_
  exact ⟨rfl, rfl⟩
