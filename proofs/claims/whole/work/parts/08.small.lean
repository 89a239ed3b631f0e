/-! small functions -/
theorem i32_lt {a b : Int32} : a < b ↔ a.toInt < b.toInt := Int32.lt_iff_toInt_lt
theorem i32_le {a b : Int32} : a ≤ b ↔ a.toInt ≤ b.toInt := Int32.le_iff_toInt_le
theorem i32_eq {a b : Int32} : a = b ↔ a.toInt = b.toInt := Int32.toInt_inj.symm
theorem lg_lt {x y : Int64} : lg_cmp x y < 0 ↔ x < y := by
  unfold lg_cmp
  by_cases h : y < x
  · rw [if_pos h]
    exact ⟨fun q => absurd q (by decide), fun q => absurd (Int64.lt_trans h q) Int64.lt_irrefl⟩
  · rw [if_neg h]
    by_cases e : x = y
    · rw [if_pos e]
      exact ⟨fun q => absurd q (by decide), fun q => absurd (e ▸ q) Int64.lt_irrefl⟩
    · rw [if_neg e]
      refine ⟨fun _ => ?_, fun _ => by decide⟩
      rcases Int64.lt_or_eq_of_le (Int64.not_lt.mp h) with q | q
      · exact q
      · exact absurd q e
theorem lg_gt {x y : Int64} : 0 < lg_cmp x y ↔ y < x := by
  unfold lg_cmp
  by_cases h : y < x
  · rw [if_pos h]
    exact ⟨fun _ => h, fun _ => by decide⟩
  · rw [if_neg h]
    by_cases e : x = y
    · rw [if_pos e]
      exact ⟨fun q => absurd q (by decide), fun q => absurd q h⟩
    · rw [if_neg e]
      exact ⟨fun q => absurd q (by decide), fun q => absurd q h⟩
theorem w_le {a b : Int32} : a.toInt64 ≤ b.toInt64 ↔ a ≤ b := by rw [Int64.le_iff_toInt_le, Int32.le_iff_toInt_le, Int32.toInt_toInt64, Int32.toInt_toInt64]
theorem w_lt {a b : Int32} : a.toInt64 < b.toInt64 ↔ a < b := by rw [Int64.lt_iff_toInt_lt, Int32.lt_iff_toInt_lt, Int32.toInt_toInt64, Int32.toInt_toInt64]
theorem some_int {x y : Int32} (h : x = y) : some (Value.int x) = some (Value.int y) := by rw [h]

abbrev P_X9_within (h : Mm) (v lo hi : Int32) : Option Value → Mm → Prop := fun r h2 => r = some (.int (b2i (lo ≤ v ∧ v ≤ hi))) ∧ h = h2
theorem c_X9_within {l : Launch} (h : Mm) (v lo hi : Int32)  : Con l yX9_within cX9_within 3 (some .boolean) 0 0 132 GL h [.int v, .int lo, .int hi] (P_X9_within h v lo hi) := by
  refine Con.ofV (own := "FoxRounds") (nm := "within") rfl rfl (by decide) (Nat.le_of_ble_eq_true rfl) ?_
  intro κ ρ hkl K
  subst hkl
  show V κ (QM κ (132, ρ, GL, 0, 0) (P_X9_within h v lo hi)) 3 (132, ρ, GL, 0, 0) h 0 [(0, .int v), (1, .int lo), (2, .int hi)] []
  refine v_iload_n K dX9_within_0 rfl ?_
  refine v_iload_n K dX9_within_1 rfl ?_
  refine v_icmp_lt (tgt := 14) K dX9_within_2 rfl (fun c1 => ?_) (fun c1 => ?_)
  · skip
    refine v_iconstN K 0 rfl dX9_within_14 ?_
    refine v_zret K dX9_within_15 (by decide) ?_
    refine ⟨some_int ?_, rfl⟩
    first | (rw [b2i_t (by simp only [i32_lt, i32_le, not_and] at *; omega)]; rfl) | (rw [b2i_f (by simp only [i32_lt, i32_le] at *; omega)]; rfl)
  · skip
    refine v_iload_n K dX9_within_5 rfl ?_
    refine v_iload_n K dX9_within_6 rfl ?_
    refine v_icmp_gt (tgt := 14) K dX9_within_7 rfl (fun c2 => ?_) (fun c2 => ?_)
    · skip
      refine v_iconstN K 0 rfl dX9_within_14 ?_
      refine v_zret K dX9_within_15 (by decide) ?_
      refine ⟨some_int ?_, rfl⟩
      first | (rw [b2i_t (by simp only [i32_lt, i32_le, not_and] at *; omega)]; rfl) | (rw [b2i_f (by simp only [i32_lt, i32_le] at *; omega)]; rfl)
    · skip
      refine v_iconstN K 1 rfl dX9_within_10 ?_
      refine v_goto (tgt := 15) K dX9_within_11 rfl ?_
      refine v_zret K dX9_within_15 (by decide) ?_
      refine ⟨some_int ?_, rfl⟩
      first | (rw [b2i_t (by simp only [i32_lt, i32_le, not_and] at *; omega)]; rfl) | (rw [b2i_f (by simp only [i32_lt, i32_le] at *; omega)]; rfl)
