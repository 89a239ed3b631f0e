abbrev P_X5_add (h : Mm) (w : List Int32) (v : Int32) : Option Value → Mm → Prop := fun r h2 => r = none ∧ u2 (u2 h 102 w.length v) 100 1 (nI (w.length + 1)) = h2
theorem c_X5_add {l : Launch} (h : Mm) (w : List Int32) (v : Int32) (hw : h 100 1 = nI w.length) (hl : w.length < 50) : Con l yX5_add cX5_add 2 none 0 0 132 GL h [.ref 100, .int v] (P_X5_add h w v) := by
  refine Con.ofV (own := "FoxRounds$Text") (nm := "add") rfl rfl (by decide) (Nat.le_of_ble_eq_true rfl) ?_
  intro κ ρ hkl K
  subst hkl
  show V κ (QM κ (132, ρ, GL, 0, 0) (P_X5_add h w v)) 2 (132, ρ, GL, 0, 0) h 0 [(0, .ref 100), (1, .int v)] []
  refine v_aload_n K dX5_add_0 rfl ?_
  refine v_geti (x := nI w.length) K fX5_15 sh_100 pl_100 hw dX5_add_1 ?_
  refine v_bipushN K 50 rfl dX5_add_4 ?_
  refine v_icmpN_ge (tgt := 29) K (by omega) (by omega) dX5_add_6 rfl (fun c1 => ?_) (fun c1 => ?_)
  · skip
    omega
  · skip
    refine v_aload_n K dX5_add_9 rfl ?_
    refine v_getr (q := 102) K fX5_9 sh_100 pl_100 gl_100_0 dX5_add_10 ?_
    refine v_aload_n K dX5_add_13 rfl ?_
    refine v_geti (x := nI w.length) K fX5_15 sh_100 pl_100 hw dX5_add_14 ?_
    refine v_iload_n K dX5_add_17 rfl ?_
    refine v_iast K sh_102 pl_102 (by omega) dX5_add_18 ?_
    refine v_aload_n K dX5_add_19 rfl ?_
    refine v_dup K dX5_add_20 rfl ?_
    refine v_geti (x := nI w.length) K fX5_15 sh_100 pl_100 ((u2_ne (by omega)).trans hw) dX5_add_21 ?_
    refine v_iconstN K 1 rfl dX5_add_24 ?_
    refine v_iaddN K dX5_add_25 ?_
    refine v_puti K pX5_15 sh_100 pl_100 dX5_add_26 ?_
    refine v_vret K dX5_add_29 ?_
    exact ⟨rfl, rfl⟩

abbrev P_X5_clear (h : Mm) : Option Value → Mm → Prop := fun r h2 => r = none ∧ u2 h 100 1 (nI 0) = h2
theorem c_X5_clear {l : Launch} (h : Mm)  : Con l yX5_clear cX5_clear 1 none 0 0 132 GL h [.ref 100] (P_X5_clear h) := by
  refine Con.ofV (own := "FoxRounds$Text") (nm := "clear") rfl rfl (by decide) (Nat.le_of_ble_eq_true rfl) ?_
  intro κ ρ hkl K
  subst hkl
  show V κ (QM κ (132, ρ, GL, 0, 0) (P_X5_clear h)) 1 (132, ρ, GL, 0, 0) h 0 [(0, .ref 100)] []
  refine v_aload_n K dX5_clear_0 rfl ?_
  refine v_iconstN K 0 rfl dX5_clear_1 ?_
  refine v_puti K pX5_15 sh_100 pl_100 dX5_clear_2 ?_
  refine v_vret K dX5_clear_5 ?_
  exact ⟨rfl, rfl⟩

theorem dg_1 {v : Int32} (h : v < nI 48) : ¬ (nI 48 ≤ v ∧ v ≤ nI 57) := fun q => by rw [i32_le, i32_le] at q; rw [i32_lt] at h; omega
theorem dg_2 {v : Int32} (h : nI 57 < v) : ¬ (nI 48 ≤ v ∧ v ≤ nI 57) := fun q => by rw [i32_le, i32_le] at q; rw [i32_lt] at h; omega
theorem dg_3 {v : Int32} (h : ¬ v < nI 48) (h2 : ¬ nI 57 < v) : nI 48 ≤ v ∧ v ≤ nI 57 := by rw [i32_lt] at h h2; rw [i32_le, i32_le]; omega

abbrev P_X3_isDigit (h : Mm) (v : Int32) : Option Value → Mm → Prop := fun r h2 => r = some (.int (b2i (nI 48 ≤ v ∧ v ≤ nI 57))) ∧ h = h2
theorem c_X3_isDigit {l : Launch} (h : Mm) (v : Int32)  : Con l yX3_isDigit cX3_isDigit 1 (some .boolean) 0 0 132 GL h [.int v] (P_X3_isDigit h v) := by
  refine Con.ofV (own := "FoxRounds$Reader") (nm := "isDigit") rfl rfl (by decide) (Nat.le_of_ble_eq_true rfl) ?_
  intro κ ρ hkl K
  subst hkl
  show V κ (QM κ (132, ρ, GL, 0, 0) (P_X3_isDigit h v)) 1 (132, ρ, GL, 0, 0) h 0 [(0, .int v)] []
  refine v_iload_n K dX3_isDigit_0 rfl ?_
  refine v_bipushN K 48 rfl dX3_isDigit_1 ?_
  refine v_icmp_lt (tgt := 16) K dX3_isDigit_3 rfl (fun c1 => ?_) (fun c1 => ?_)
  · skip
    refine v_iconstN K 0 rfl dX3_isDigit_16 ?_
    refine v_zret K dX3_isDigit_17 (by decide) ?_
    exact ⟨congrArg (fun z => some (Value.int z)) (b2i_f (dg_1 c1)).symm, rfl⟩
  · skip
    refine v_iload_n K dX3_isDigit_6 rfl ?_
    refine v_bipushN K 57 rfl dX3_isDigit_7 ?_
    refine v_icmp_gt (tgt := 16) K dX3_isDigit_9 rfl (fun c2 => ?_) (fun c2 => ?_)
    · skip
      refine v_iconstN K 0 rfl dX3_isDigit_16 ?_
      refine v_zret K dX3_isDigit_17 (by decide) ?_
      exact ⟨congrArg (fun z => some (Value.int z)) (b2i_f (dg_2 c2)).symm, rfl⟩
    · skip
      refine v_iconstN K 1 rfl dX3_isDigit_12 ?_
      refine v_goto (tgt := 17) K dX3_isDigit_13 rfl ?_
      refine v_zret K dX3_isDigit_17 (by decide) ?_
      exact ⟨congrArg (fun z => some (Value.int z)) (b2i_t (dg_3 c1 c2)).symm, rfl⟩

theorem eq_nI {v : Int32} {m : Nat} (hm : m < 2 ^ 31) : v = nI m ↔ v.toInt = (m : Int) := by rw [i32_eq, nI_toInt hm]
theorem lv_off {v : Int32} (h : ¬ (v = nI 37 ∨ v = nI 38 ∨ v = nI 42 ∨ v = nI 43 ∨ v = nI 45 ∨ v = nI 47 ∨ v = nI 60 ∨ v = nI 61 ∨ v = nI 62 ∨ v = nI 124)) : Op.lookupswitch.offset (#[(37, 99), (38, 93), (42, 99), (43, 97), (45, 97), (47, 99), (60, 95), (61, 95), (62, 95), (124, 91)] : Array (Int × Int)).toList 101 v.toInt = 101 := by
  have h2 : ¬ (v.toInt = 37 ∨ v.toInt = 38 ∨ v.toInt = 42 ∨ v.toInt = 43 ∨ v.toInt = 45 ∨ v.toInt = 47 ∨ v.toInt = 60 ∨ v.toInt = 61 ∨ v.toInt = 62 ∨ v.toInt = 124) := fun q => h (by
    rcases q with q | q | q | q | q | q | q | q | q | q
    · exact Or.inl ((eq_nI (by omega)).mpr q)
    · exact Or.inr (Or.inl ((eq_nI (by omega)).mpr q))
    · exact Or.inr (Or.inr (Or.inl ((eq_nI (by omega)).mpr q)))
    · exact Or.inr (Or.inr (Or.inr (Or.inl ((eq_nI (by omega)).mpr q))))
    · exact Or.inr (Or.inr (Or.inr (Or.inr (Or.inl ((eq_nI (by omega)).mpr q)))))
    · exact Or.inr (Or.inr (Or.inr (Or.inr (Or.inr (Or.inl ((eq_nI (by omega)).mpr q))))))
    · exact Or.inr (Or.inr (Or.inr (Or.inr (Or.inr (Or.inr (Or.inl ((eq_nI (by omega)).mpr q)))))))
    · exact Or.inr (Or.inr (Or.inr (Or.inr (Or.inr (Or.inr (Or.inr (Or.inl ((eq_nI (by omega)).mpr q))))))))
    · exact Or.inr (Or.inr (Or.inr (Or.inr (Or.inr (Or.inr (Or.inr (Or.inr (Or.inl ((eq_nI (by omega)).mpr q)))))))))
    · exact Or.inr (Or.inr (Or.inr (Or.inr (Or.inr (Or.inr (Or.inr (Or.inr (Or.inr (((eq_nI (by omega)).mpr q)))))))))))
  generalize v.toInt = i at h2
  simp only [Op.lookupswitch.offset, List.find?]
  repeat (first | rfl | (split; · rename_i q; exfalso; revert q; simp; omega))
theorem lv_0 {v : Int32} (h : ¬ (v = nI 37 ∨ v = nI 38 ∨ v = nI 42 ∨ v = nI 43 ∨ v = nI 45 ∨ v = nI 47 ∨ v = nI 60 ∨ v = nI 61 ∨ v = nI 62 ∨ v = nI 124)) : lvQ v = 0 := by
  unfold lvQ
  rw [if_neg (fun q => h (by simp only [q]; decide)), if_neg (fun q => h (by simp only [q]; decide)), if_neg (fun q => h (by rcases q with q | q | q <;> (simp only [q]; decide))), if_neg (fun q => h (by rcases q with q | q <;> (simp only [q]; decide))), if_neg (fun q => h (by rcases q with q | q | q <;> (simp only [q]; decide)))]

abbrev P_X3_levelOf (h : Mm) (v : Int32) : Option Value → Mm → Prop := fun r h2 => r = some (.int (nI (lvQ v))) ∧ h = h2
theorem c_X3_levelOf {l : Launch} (h : Mm) (v : Int32)  : Con l yX3_levelOf cX3_levelOf 1 (some .int) 0 0 132 GL h [.int v] (P_X3_levelOf h v) := by
  refine Con.ofV (own := "FoxRounds$Reader") (nm := "levelOf") rfl rfl (by decide) (Nat.le_of_ble_eq_true rfl) ?_
  intro κ ρ hkl K
  subst hkl
  show V κ (QM κ (132, ρ, GL, 0, 0) (P_X3_levelOf h v)) 1 (132, ρ, GL, 0, 0) h 0 [(0, .int v)] []
  refine v_iload_n K dX3_levelOf_0 rfl ?_
  by_cases hx : v = nI 37 ∨ v = nI 38 ∨ v = nI 42 ∨ v = nI 43 ∨ v = nI 45 ∨ v = nI 47 ∨ v = nI 60 ∨ v = nI 61 ∨ v = nI 62 ∨ v = nI 124
  · skip
    rcases hx with rfl | rfl | rfl | rfl | rfl | rfl | rfl | rfl | rfl | rfl
    · skip
      refine v_lookN (off := 99) (tgt := 100) K (by decide) 37 dX3_levelOf_1 rfl (by decide) rfl rfl ?_
      refine v_iconstN K 5 rfl dX3_levelOf_100 ?_
      refine v_iret K dX3_levelOf_101 ?_
      exact ⟨congrArg (fun z => some (Value.int z)) (by decide), rfl⟩
    · skip
      refine v_lookN (off := 93) (tgt := 94) K (by decide) 38 dX3_levelOf_1 rfl (by decide) rfl rfl ?_
      refine v_iconstN K 2 rfl dX3_levelOf_94 ?_
      refine v_iret K dX3_levelOf_95 ?_
      exact ⟨congrArg (fun z => some (Value.int z)) (by decide), rfl⟩
    · skip
      refine v_lookN (off := 99) (tgt := 100) K (by decide) 42 dX3_levelOf_1 rfl (by decide) rfl rfl ?_
      refine v_iconstN K 5 rfl dX3_levelOf_100 ?_
      refine v_iret K dX3_levelOf_101 ?_
      exact ⟨congrArg (fun z => some (Value.int z)) (by decide), rfl⟩
    · skip
      refine v_lookN (off := 97) (tgt := 98) K (by decide) 43 dX3_levelOf_1 rfl (by decide) rfl rfl ?_
      refine v_iconstN K 4 rfl dX3_levelOf_98 ?_
      refine v_iret K dX3_levelOf_99 ?_
      exact ⟨congrArg (fun z => some (Value.int z)) (by decide), rfl⟩
    · skip
      refine v_lookN (off := 97) (tgt := 98) K (by decide) 45 dX3_levelOf_1 rfl (by decide) rfl rfl ?_
      refine v_iconstN K 4 rfl dX3_levelOf_98 ?_
      refine v_iret K dX3_levelOf_99 ?_
      exact ⟨congrArg (fun z => some (Value.int z)) (by decide), rfl⟩
    · skip
      refine v_lookN (off := 99) (tgt := 100) K (by decide) 47 dX3_levelOf_1 rfl (by decide) rfl rfl ?_
      refine v_iconstN K 5 rfl dX3_levelOf_100 ?_
      refine v_iret K dX3_levelOf_101 ?_
      exact ⟨congrArg (fun z => some (Value.int z)) (by decide), rfl⟩
    · skip
      refine v_lookN (off := 95) (tgt := 96) K (by decide) 60 dX3_levelOf_1 rfl (by decide) rfl rfl ?_
      refine v_iconstN K 3 rfl dX3_levelOf_96 ?_
      refine v_iret K dX3_levelOf_97 ?_
      exact ⟨congrArg (fun z => some (Value.int z)) (by decide), rfl⟩
    · skip
      refine v_lookN (off := 95) (tgt := 96) K (by decide) 61 dX3_levelOf_1 rfl (by decide) rfl rfl ?_
      refine v_iconstN K 3 rfl dX3_levelOf_96 ?_
      refine v_iret K dX3_levelOf_97 ?_
      exact ⟨congrArg (fun z => some (Value.int z)) (by decide), rfl⟩
    · skip
      refine v_lookN (off := 95) (tgt := 96) K (by decide) 62 dX3_levelOf_1 rfl (by decide) rfl rfl ?_
      refine v_iconstN K 3 rfl dX3_levelOf_96 ?_
      refine v_iret K dX3_levelOf_97 ?_
      exact ⟨congrArg (fun z => some (Value.int z)) (by decide), rfl⟩
    · skip
      refine v_lookN (off := 91) (tgt := 92) K (by decide) 124 dX3_levelOf_1 rfl (by decide) rfl rfl ?_
      refine v_iconstN K 1 rfl dX3_levelOf_92 ?_
      refine v_iret K dX3_levelOf_93 ?_
      exact ⟨congrArg (fun z => some (Value.int z)) (by decide), rfl⟩
  · skip
    refine v_look (off := 101) (tgt := 102) K dX3_levelOf_1 rfl (lv_off hx) rfl ?_
    refine v_iconstN K 0 rfl dX3_levelOf_102 ?_
    refine v_iret K dX3_levelOf_103 ?_
    exact ⟨congrArg (fun z => some (Value.int (nI z))) (lv_0 hx).symm, rfl⟩
