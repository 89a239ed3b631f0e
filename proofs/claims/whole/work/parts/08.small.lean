/-! small functions -/
theorem i32_lt {a b : Int32} : a < b ↔ a.toInt < b.toInt := Int32.lt_iff_toInt_lt
theorem i32_le {a b : Int32} : a ≤ b ↔ a.toInt ≤ b.toInt := Int32.le_iff_toInt_le
theorem i32_eq {a b : Int32} : a = b ↔ a.toInt = b.toInt := Int32.toInt_inj.symm
theorem lg_lt {x y : Int64} : lg_cmp x y < 0 ↔ x < y := by
  unfold lg_cmp
  by_cases h : y < x
  · rw [if_pos h]
    exact ⟨fun q => absurd q (by decide), fun q => absurd (Int64.lt_trans h q) Int64.lt_irrefl⟩
  · rw [if_neg h]
    by_cases e : x = y
    · rw [if_pos e]
      exact ⟨fun q => absurd q (by decide), fun q => absurd (e ▸ q) Int64.lt_irrefl⟩
    · rw [if_neg e]
      refine ⟨fun _ => ?_, fun _ => by decide⟩
      rcases Int64.lt_or_eq_of_le (Int64.not_lt.mp h) with q | q
      · exact q
      · exact absurd q e
theorem lg_gt {x y : Int64} : 0 < lg_cmp x y ↔ y < x := by
  unfold lg_cmp
  by_cases h : y < x
  · rw [if_pos h]
    exact ⟨fun _ => h, fun _ => by decide⟩
  · rw [if_neg h]
    by_cases e : x = y
    · rw [if_pos e]
      exact ⟨fun q => absurd q (by decide), fun q => absurd q h⟩
    · rw [if_neg e]
      exact ⟨fun q => absurd q (by decide), fun q => absurd q h⟩
theorem lg_eq {x y : Int64} : lg_cmp x y = 0 ↔ x = y := by
  unfold lg_cmp
  by_cases h : y < x
  · rw [if_pos h]
    exact ⟨fun q => absurd q (by decide), fun q => absurd (q ▸ h) Int64.lt_irrefl⟩
  · rw [if_neg h]
    by_cases e : x = y
    · rw [if_pos e]
      exact ⟨fun _ => e, fun _ => rfl⟩
    · rw [if_neg e]
      exact ⟨fun q => absurd q (by decide), fun q => absurd q e⟩
theorem w_le {a b : Int32} : a.toInt64 ≤ b.toInt64 ↔ a ≤ b := by rw [Int64.le_iff_toInt_le, Int32.le_iff_toInt_le, Int32.toInt_toInt64, Int32.toInt_toInt64]
theorem w_lt {a b : Int32} : a.toInt64 < b.toInt64 ↔ a < b := by rw [Int64.lt_iff_toInt_lt, Int32.lt_iff_toInt_lt, Int32.toInt_toInt64, Int32.toInt_toInt64]
theorem some_int {x y : Int32} (h : x = y) : some (Value.int x) = some (Value.int y) := by rw [h]
theorem some_long {x y : Int64} (h : x = y) : some (Value.long x) = some (Value.long y) := by rw [h]
theorem ix_rng {v : Int32} {n : Nat} (hn : n < 2 ^ 30) : (nI 0 ≤ v ∧ v ≤ nI n) ↔ ix v (n + 1) := by
  rw [ix_iff (by omega), i32_le, i32_le, nI_toInt (by omega), nI_toInt (by omega)]
  omega
theorem ix_rng1 {v : Int32} {n : Nat} (hn : n < 2 ^ 30) : (nI 0 ≤ v ∧ v ≤ nI n - nI 1) ↔ ix v n := by
  rw [ix_iff (by omega), i32_le, i32_le, nI_toInt (by omega)]
  have e : (nI n - nI 1).toInt = (n : Int) - 1 := pk_sub_toInt (by omega) (by omega)
  rw [e]
  omega
def heldX (v lo hi : Int32) : Int32 := if lo < (if hi < v then hi else v) then (if hi < v then hi else v) else lo
def heldM (v lo hi : Int32) : Int32 := if lo ≤ v then (if v ≤ hi then v else hi) else lo
theorem heldX_eq {v lo hi : Int32} (h : lo ≤ hi) : heldX v lo hi = heldM v lo hi := by
  unfold heldX heldM
  simp only [i32_le, i32_lt] at *
  split <;> split <;> split <;> (try split) <;> first | rfl | omega | (apply i32_eq.mpr; omega)
def isWayP (k sm c : Int32) : Prop := (nI 0 ≤ k ∧ k ≤ nI 6) ∧ (nI 0 ≤ sm ∧ sm ≤ nI 9999) ∧ (nI 0 ≤ c ∧ c ≤ nI 99)
def underP (o k : Nat) : Prop := k = 0 ∨ k = o ∨ (k = 2 ∧ o = 4) ∨ (k = 3 ∧ o = 5) ∨ (k = 1 ∧ o = 6)
def powL (b : Int64) : Nat → Int64
  | 0 => (nI 1).toInt64
  | n + 1 => powL b n * b
def mP (P : Nat) : Prop := P = 119 ∨ P = 120 ∨ P = 121
theorem mP.s {P : Nat} (h : mP P) : SH P = (2, 0, 340) := by rcases h with rfl | rfl | rfl <;> rfl
theorem mP.l {P : Nat} (h : mP P) : P < 132 := by rcases h with rfl | rfl | rfl <;> decide
theorem mP_119 : mP 119 := Or.inl rfl
theorem mP_120 : mP 120 := Or.inr (Or.inl rfl)
theorem mP_121 : mP 121 := Or.inr (Or.inr rfl)
/-- what set takes -/
def setOK (what v : Int32) : Prop := ∃ k, k < 8 ∧ what = nI k ∧ stV 1 k ≤ v ∧ v ≤ stV 2 k
theorem setOK_in {v : Int32} (k : Nat) (hk : k < 8) : setOK (nI k) v ↔ (stV 1 k ≤ v ∧ v ≤ stV 2 k) := by
  constructor
  · rintro ⟨j, hj, e, h⟩
    have := (nI_eq (by omega) (by omega)).mp e
    subst this
    exact h
  · intro h
    exact ⟨k, hk, rfl, h⟩
theorem setOK_out {what v : Int32} (h : what.toInt < 0 ∨ 7 < what.toInt) : ¬ setOK what v := by
  rintro ⟨j, hj, rfl, -⟩
  rw [nI_toInt (by omega)] at h
  omega
theorem ixo_2 (x : Int32) : x = nI 0 ∨ x = nI 1 ∨ (x.toInt < 0 ∨ 1 < x.toInt) := by
  by_cases h : ix x 2
  · obtain ⟨j, hj, rfl⟩ := h
    have : j = 0 ∨ j = 1 := by omega
    rcases this with rfl | rfl <;> simp
  · rw [ix_iff (by decide)] at h
    have h2 : x.toInt < 0 ∨ 1 < x.toInt := by omega
    simp only [h2, or_true]
theorem ixc_2 {x : Int32} (h : ix x 2) : x = nI 0 ∨ x = nI 1 := by
  obtain ⟨j, hj, rfl⟩ := h
  have : j = 0 ∨ j = 1 := by omega
  rcases this with rfl | rfl <;> simp
theorem ixo_3 (x : Int32) : x = nI 0 ∨ x = nI 1 ∨ x = nI 2 ∨ (x.toInt < 0 ∨ 2 < x.toInt) := by
  by_cases h : ix x 3
  · obtain ⟨j, hj, rfl⟩ := h
    have : j = 0 ∨ j = 1 ∨ j = 2 := by omega
    rcases this with rfl | rfl | rfl <;> simp
  · rw [ix_iff (by decide)] at h
    have h2 : x.toInt < 0 ∨ 2 < x.toInt := by omega
    simp only [h2, or_true]
theorem ixc_3 {x : Int32} (h : ix x 3) : x = nI 0 ∨ x = nI 1 ∨ x = nI 2 := by
  obtain ⟨j, hj, rfl⟩ := h
  have : j = 0 ∨ j = 1 ∨ j = 2 := by omega
  rcases this with rfl | rfl | rfl <;> simp
theorem ixo_4 (x : Int32) : x = nI 0 ∨ x = nI 1 ∨ x = nI 2 ∨ x = nI 3 ∨ (x.toInt < 0 ∨ 3 < x.toInt) := by
  by_cases h : ix x 4
  · obtain ⟨j, hj, rfl⟩ := h
    have : j = 0 ∨ j = 1 ∨ j = 2 ∨ j = 3 := by omega
    rcases this with rfl | rfl | rfl | rfl <;> simp
  · rw [ix_iff (by decide)] at h
    have h2 : x.toInt < 0 ∨ 3 < x.toInt := by omega
    simp only [h2, or_true]
theorem ixc_4 {x : Int32} (h : ix x 4) : x = nI 0 ∨ x = nI 1 ∨ x = nI 2 ∨ x = nI 3 := by
  obtain ⟨j, hj, rfl⟩ := h
  have : j = 0 ∨ j = 1 ∨ j = 2 ∨ j = 3 := by omega
  rcases this with rfl | rfl | rfl | rfl <;> simp
theorem ixo_6 (x : Int32) : x = nI 0 ∨ x = nI 1 ∨ x = nI 2 ∨ x = nI 3 ∨ x = nI 4 ∨ x = nI 5 ∨ (x.toInt < 0 ∨ 5 < x.toInt) := by
  by_cases h : ix x 6
  · obtain ⟨j, hj, rfl⟩ := h
    have : j = 0 ∨ j = 1 ∨ j = 2 ∨ j = 3 ∨ j = 4 ∨ j = 5 := by omega
    rcases this with rfl | rfl | rfl | rfl | rfl | rfl <;> simp
  · rw [ix_iff (by decide)] at h
    have h2 : x.toInt < 0 ∨ 5 < x.toInt := by omega
    simp only [h2, or_true]
theorem ixc_6 {x : Int32} (h : ix x 6) : x = nI 0 ∨ x = nI 1 ∨ x = nI 2 ∨ x = nI 3 ∨ x = nI 4 ∨ x = nI 5 := by
  obtain ⟨j, hj, rfl⟩ := h
  have : j = 0 ∨ j = 1 ∨ j = 2 ∨ j = 3 ∨ j = 4 ∨ j = 5 := by omega
  rcases this with rfl | rfl | rfl | rfl | rfl | rfl <;> simp
theorem ixo_7 (x : Int32) : x = nI 0 ∨ x = nI 1 ∨ x = nI 2 ∨ x = nI 3 ∨ x = nI 4 ∨ x = nI 5 ∨ x = nI 6 ∨ (x.toInt < 0 ∨ 6 < x.toInt) := by
  by_cases h : ix x 7
  · obtain ⟨j, hj, rfl⟩ := h
    have : j = 0 ∨ j = 1 ∨ j = 2 ∨ j = 3 ∨ j = 4 ∨ j = 5 ∨ j = 6 := by omega
    rcases this with rfl | rfl | rfl | rfl | rfl | rfl | rfl <;> simp
  · rw [ix_iff (by decide)] at h
    have h2 : x.toInt < 0 ∨ 6 < x.toInt := by omega
    simp only [h2, or_true]
theorem ixc_7 {x : Int32} (h : ix x 7) : x = nI 0 ∨ x = nI 1 ∨ x = nI 2 ∨ x = nI 3 ∨ x = nI 4 ∨ x = nI 5 ∨ x = nI 6 := by
  obtain ⟨j, hj, rfl⟩ := h
  have : j = 0 ∨ j = 1 ∨ j = 2 ∨ j = 3 ∨ j = 4 ∨ j = 5 ∨ j = 6 := by omega
  rcases this with rfl | rfl | rfl | rfl | rfl | rfl | rfl <;> simp
theorem ixo_8 (x : Int32) : x = nI 0 ∨ x = nI 1 ∨ x = nI 2 ∨ x = nI 3 ∨ x = nI 4 ∨ x = nI 5 ∨ x = nI 6 ∨ x = nI 7 ∨ (x.toInt < 0 ∨ 7 < x.toInt) := by
  by_cases h : ix x 8
  · obtain ⟨j, hj, rfl⟩ := h
    have : j = 0 ∨ j = 1 ∨ j = 2 ∨ j = 3 ∨ j = 4 ∨ j = 5 ∨ j = 6 ∨ j = 7 := by omega
    rcases this with rfl | rfl | rfl | rfl | rfl | rfl | rfl | rfl <;> simp
  · rw [ix_iff (by decide)] at h
    have h2 : x.toInt < 0 ∨ 7 < x.toInt := by omega
    simp only [h2, or_true]
theorem ixc_8 {x : Int32} (h : ix x 8) : x = nI 0 ∨ x = nI 1 ∨ x = nI 2 ∨ x = nI 3 ∨ x = nI 4 ∨ x = nI 5 ∨ x = nI 6 ∨ x = nI 7 := by
  obtain ⟨j, hj, rfl⟩ := h
  have : j = 0 ∨ j = 1 ∨ j = 2 ∨ j = 3 ∨ j = 4 ∨ j = 5 ∨ j = 6 ∨ j = 7 := by omega
  rcases this with rfl | rfl | rfl | rfl | rfl | rfl | rfl | rfl <;> simp
/-- the larger of 1 and a number that is 1 or more -/
theorem max1 {y : Nat} (h1 : 1 ≤ y) (h2 : y < 2 ^ 31) : (if nI 1 < nI y then nI y else nI 1) = nI y := by
  by_cases e : nI 1 < nI y
  · rw [if_pos e]
  · rw [if_neg e]
    have := nlt_le (by decide) h2 e
    congr 1; omega

abbrev P_X9_within (h : Mm) (v lo hi : Int32) : Option Value → Mm → Prop := fun r h2 => r = some (.int (b2i (lo ≤ v ∧ v ≤ hi))) ∧ h = h2
theorem c_X9_within {l : Launch} (h : Mm) (v lo hi : Int32)  : Con l yX9_within cX9_within 3 (some .boolean) 0 0 132 GL h [.int v, .int lo, .int hi] (P_X9_within h v lo hi) := by
  refine Con.ofV (own := "FoxRounds") (nm := "within") rfl rfl (by decide) (Nat.le_of_ble_eq_true rfl) ?_
  intro κ ρ hkl K
  subst hkl
  show V κ (QM κ (132, ρ, GL, 0, 0) (P_X9_within h v lo hi)) 3 (132, ρ, GL, 0, 0) h 0 [(0, .int v), (1, .int lo), (2, .int hi)] []
  refine v_iload_n K dX9_within_0 rfl ?_
  refine v_iload_n K dX9_within_1 rfl ?_
  refine v_icmp_lt (tgt := 14) K dX9_within_2 rfl (fun c1 => ?_) (fun c1 => ?_)
  · skip
    refine v_iconstN K 0 rfl dX9_within_14 ?_
    refine v_zret K dX9_within_15 (by decide) ?_
    refine ⟨some_int ?_, rfl⟩
    first | (rw [b2i_t (by simp only [i32_lt, i32_le, not_and] at *; omega)]; rfl) | (rw [b2i_f (by simp only [i32_lt, i32_le, not_and] at *; omega)]; rfl)
  · skip
    refine v_iload_n K dX9_within_5 rfl ?_
    refine v_iload_n K dX9_within_6 rfl ?_
    refine v_icmp_gt (tgt := 14) K dX9_within_7 rfl (fun c2 => ?_) (fun c2 => ?_)
    · skip
      refine v_iconstN K 0 rfl dX9_within_14 ?_
      refine v_zret K dX9_within_15 (by decide) ?_
      refine ⟨some_int ?_, rfl⟩
      first | (rw [b2i_t (by simp only [i32_lt, i32_le, not_and] at *; omega)]; rfl) | (rw [b2i_f (by simp only [i32_lt, i32_le, not_and] at *; omega)]; rfl)
    · skip
      refine v_iconstN K 1 rfl dX9_within_10 ?_
      refine v_goto (tgt := 15) K dX9_within_11 rfl ?_
      refine v_zret K dX9_within_15 (by decide) ?_
      refine ⟨some_int ?_, rfl⟩
      first | (rw [b2i_t (by simp only [i32_lt, i32_le, not_and] at *; omega)]; rfl) | (rw [b2i_f (by simp only [i32_lt, i32_le, not_and] at *; omega)]; rfl)

abbrev P_X9_held (h : Mm) (v lo hi : Int32) : Option Value → Mm → Prop := fun r h2 => r = some (.int (heldX v lo hi)) ∧ h = h2
theorem c_X9_held {l : Launch} (h : Mm) (v lo hi : Int32)  : Con l yX9_held cX9_held 3 (some .int) 1 21 132 GL h [.int v, .int lo, .int hi] (P_X9_held h v lo hi) := by
  refine Con.ofV (own := "FoxRounds") (nm := "held") rfl rfl (by decide) (Nat.le_of_ble_eq_true rfl) ?_
  intro κ ρ hkl K
  subst hkl
  show V κ (QM κ (132, ρ, GL, 0, 0) (P_X9_held h v lo hi)) 3 (132, ρ, GL, 0, 0) h 0 [(0, .int v), (1, .int lo), (2, .int hi)] []
  refine v_iload_n K dX9_held_0 rfl ?_
  refine v_iload_n K dX9_held_1 rfl ?_
  refine v_iload_n K dX9_held_2 rfl ?_
  refine v_min K jX9_332 jst_min jin_math jco_min ⟨by decide, by decide, Nat.zero_le _, Nat.zero_le _⟩ (Nat.le_of_ble_eq_true rfl) dX9_held_3 ?_
  refine v_max K jX9_234 jst_max jin_math jco_max ⟨by decide, by decide, Nat.zero_le _, Nat.zero_le _⟩ (Nat.le_of_ble_eq_true rfl) dX9_held_6 ?_
  refine v_iret K dX9_held_9 ?_
  exact ⟨rfl, rfl⟩

abbrev P_X9_isSheet (h : Mm) (v : Int32) : Option Value → Mm → Prop := fun r h2 => r = some (.int (b2i (ix v 4))) ∧ h = h2
theorem c_X9_isSheet {l : Launch} (h : Mm) (v : Int32)  : Con l yX9_isSheet cX9_isSheet 1 (some .boolean) 1 22 132 GL h [.int v] (P_X9_isSheet h v) := by
  refine Con.ofV (own := "FoxRounds") (nm := "isSheet") rfl rfl (by decide) (Nat.le_of_ble_eq_true rfl) ?_
  intro κ ρ hkl K
  subst hkl
  show V κ (QM κ (132, ρ, GL, 0, 0) (P_X9_isSheet h v)) 1 (132, ρ, GL, 0, 0) h 0 [(0, .int v)] []
  refine v_iload_n K dX9_isSheet_0 rfl ?_
  refine v_iconstN K 0 rfl dX9_isSheet_1 ?_
  refine v_iconstN K 3 rfl dX9_isSheet_2 ?_
  refine v_callS (As := [.int v, .int (nI 0), .int (nI 3)]) K (c_X9_within h v (nI 0) (nI 3)) lX9_65 rfl ⟨by decide, by decide⟩ (Nat.le_of_ble_eq_true rfl) dX9_isSheet_3 (fun r1 h1 hp1 => ?_) rfl
  obtain ⟨rfl, rfl⟩ := hp1
  refine v_some ?_
  refine v_zret K dX9_isSheet_6 (b2i_01 _) ?_
  refine ⟨some_int ?_, rfl⟩
  exact b2i_e (ix_rng (by decide))

abbrev P_X9_isWay (h : Mm) (k sm c : Int32) : Option Value → Mm → Prop := fun r h2 => r = some (.int (b2i (isWayP k sm c))) ∧ h = h2
theorem c_X9_isWay {l : Launch} (h : Mm) (k sm c : Int32)  : Con l yX9_isWay cX9_isWay 3 (some .boolean) 1 22 132 GL h [.int k, .int sm, .int c] (P_X9_isWay h k sm c) := by
  refine Con.ofV (own := "FoxRounds") (nm := "isWay") rfl rfl (by decide) (Nat.le_of_ble_eq_true rfl) ?_
  intro κ ρ hkl K
  subst hkl
  show V κ (QM κ (132, ρ, GL, 0, 0) (P_X9_isWay h k sm c)) 3 (132, ρ, GL, 0, 0) h 0 [(0, .int k), (1, .int sm), (2, .int c)] []
  refine v_iload_n K dX9_isWay_0 rfl ?_
  refine v_iconstN K 0 rfl dX9_isWay_1 ?_
  refine v_bipushN K 6 rfl dX9_isWay_2 ?_
  refine v_callS (As := [.int k, .int (nI 0), .int (nI 6)]) K (c_X9_within h k (nI 0) (nI 6)) lX9_65 rfl ⟨by decide, by decide⟩ (Nat.le_of_ble_eq_true rfl) dX9_isWay_4 (fun r1 h1 hp1 => ?_) rfl
  obtain ⟨rfl, rfl⟩ := hp1
  refine v_some ?_
  refine v_ifB_eq (tgt := 35) K dX9_isWay_7 rfl (fun c1 => ?_) (fun c1 => ?_)
  · skip
    refine v_iconstN K 0 rfl dX9_isWay_35 ?_
    refine v_zret K dX9_isWay_36 (by decide) ?_
    refine ⟨some_int ?_, rfl⟩
    first | (rw [b2i_t (by unfold isWayP; simp only [i32_lt, i32_le, not_and] at *; omega)]; rfl) | (rw [b2i_f (by unfold isWayP; simp only [i32_lt, i32_le, not_and] at *; omega)]; rfl)
  · skip
    refine v_iload_n K dX9_isWay_10 rfl ?_
    refine v_iconstN K 0 rfl dX9_isWay_11 ?_
    refine v_sipushN K 9999 rfl dX9_isWay_12 ?_
    refine v_callS (As := [.int sm, .int (nI 0), .int (nI 9999)]) K (c_X9_within h sm (nI 0) (nI 9999)) lX9_65 rfl ⟨by decide, by decide⟩ (Nat.le_of_ble_eq_true rfl) dX9_isWay_15 (fun r2 h2 hp2 => ?_) rfl
    obtain ⟨rfl, rfl⟩ := hp2
    refine v_some ?_
    refine v_ifB_eq (tgt := 35) K dX9_isWay_18 rfl (fun c2 => ?_) (fun c2 => ?_)
    · skip
      refine v_iconstN K 0 rfl dX9_isWay_35 ?_
      refine v_zret K dX9_isWay_36 (by decide) ?_
      refine ⟨some_int ?_, rfl⟩
      first | (rw [b2i_t (by unfold isWayP; simp only [i32_lt, i32_le, not_and] at *; omega)]; rfl) | (rw [b2i_f (by unfold isWayP; simp only [i32_lt, i32_le, not_and] at *; omega)]; rfl)
    · skip
      refine v_iload_n K dX9_isWay_21 rfl ?_
      refine v_iconstN K 0 rfl dX9_isWay_22 ?_
      refine v_bipushN K 99 rfl dX9_isWay_23 ?_
      refine v_callS (As := [.int c, .int (nI 0), .int (nI 99)]) K (c_X9_within h c (nI 0) (nI 99)) lX9_65 rfl ⟨by decide, by decide⟩ (Nat.le_of_ble_eq_true rfl) dX9_isWay_25 (fun r3 h3 hp3 => ?_) rfl
      obtain ⟨rfl, rfl⟩ := hp3
      refine v_some ?_
      refine v_ifB_eq (tgt := 35) K dX9_isWay_28 rfl (fun c3 => ?_) (fun c3 => ?_)
      · skip
        refine v_iconstN K 0 rfl dX9_isWay_35 ?_
        refine v_zret K dX9_isWay_36 (by decide) ?_
        refine ⟨some_int ?_, rfl⟩
        first | (rw [b2i_t (by unfold isWayP; simp only [i32_lt, i32_le, not_and] at *; omega)]; rfl) | (rw [b2i_f (by unfold isWayP; simp only [i32_lt, i32_le, not_and] at *; omega)]; rfl)
      · skip
        refine v_iconstN K 1 rfl dX9_isWay_31 ?_
        refine v_goto (tgt := 36) K dX9_isWay_32 rfl ?_
        refine v_zret K dX9_isWay_36 (by decide) ?_
        refine ⟨some_int ?_, rfl⟩
        first | (rw [b2i_t (by unfold isWayP; simp only [i32_lt, i32_le, not_and] at *; omega)]; rfl) | (rw [b2i_f (by unfold isWayP; simp only [i32_lt, i32_le, not_and] at *; omega)]; rfl)

abbrev P_X9_isUnder (h : Mm) (o k : Nat) : Option Value → Mm → Prop := fun r h2 => r = some (.int (b2i (underP o k))) ∧ h = h2
theorem c_X9_isUnder {l : Launch} (h : Mm) (o k : Nat) (ho : o < 7) (hk : k < 7) : Con l yX9_isUnder cX9_isUnder 4 (some .boolean) 1 22 132 GL h [.int (nI o), .int (nI k)] (P_X9_isUnder h o k) := by
  refine Con.ofV (own := "FoxRounds") (nm := "isUnder") rfl rfl (by decide) (Nat.le_of_ble_eq_true rfl) ?_
  intro κ ρ hkl K
  subst hkl
  show V κ (QM κ (132, ρ, GL, 0, 0) (P_X9_isUnder h o k)) 4 (132, ρ, GL, 0, 0) h 0 [(0, .int (nI o)), (1, .int (nI k))] []
  obtain rfl | rfl | rfl | rfl | rfl | rfl | rfl : o = 0 ∨ o = 1 ∨ o = 2 ∨ o = 3 ∨ o = 4 ∨ o = 5 ∨ o = 6 := by omega
  · skip
    refine v_iload_n K dX9_isUnder_0 rfl ?_
    refine v_istore_n (lv2 := [(2, .int (nI 0)), (0, .int (nI 0)), (1, .int (nI k))]) K dX9_isUnder_1 (by decide) rfl ?_
    refine v_iconstN K 0 rfl dX9_isUnder_2 ?_
    refine v_istore_n (lv2 := [(3, .int (nI 0)), (2, .int (nI 0)), (0, .int (nI 0)), (1, .int (nI k))]) K dX9_isUnder_3 (by decide) rfl ?_
    refine v_iload_n K dX9_isUnder_4 rfl ?_
    refine v_gets (j := 0) K (by decide) sX9_329 dX9_isUnder_5 ?_
    refine v_slen (j := 0) K (by decide) dX9_isUnder_8 ?_
    refine v_top (y := nI 7) rfl ?_
    refine v_icmpN_ge (tgt := 41) K (by omega) (by omega) dX9_isUnder_9 rfl (fun c1 => ?_) (fun c1 => ?_)
    · exact absurd c1 (by decide)
    · skip
      refine v_iload_n K dX9_isUnder_12 rfl ?_
      refine v_iconstN K 0 rfl dX9_isUnder_13 ?_
      refine v_bipushN K 6 rfl dX9_isUnder_14 ?_
      refine v_callS (As := [.int (nI 0), .int (nI 0), .int (nI 6)]) K (c_X9_within h (nI 0) (nI 0) (nI 6)) lX9_65 rfl ⟨by decide, by decide⟩ (Nat.le_of_ble_eq_true rfl) dX9_isUnder_16 (fun r1 h1 hp1 => ?_) rfl
      obtain ⟨rfl, rfl⟩ := hp1
      refine v_some ?_
      refine v_ifB_eq (tgt := 41) K dX9_isUnder_19 rfl (fun c2 => ?_) (fun c2 => ?_)
      · exact absurd (by decide) c2
      · skip
        refine v_iload_n K dX9_isUnder_22 rfl ?_
        refine v_iload_n K dX9_isUnder_23 rfl ?_
        refine v_icmpN_ne (tgt := 29) K (by omega) (by omega) dX9_isUnder_24 rfl (fun c3 => ?_) (fun c3 => ?_)
        · skip
          refine v_gets (j := 0) K (by decide) sX9_329 dX9_isUnder_29 ?_
          refine v_iload_n K dX9_isUnder_32 rfl ?_
          refine v_sald (j := 0) (x := (-1)) K (by decide) (by decide) (by decide) dX9_isUnder_33 ?_
          refine v_istore_n (lv2 := [(2, .int ((-1))), (3, .int (nI 0)), (0, .int (nI 0)), (1, .int (nI k))]) K dX9_isUnder_34 (by decide) rfl ?_
          refine v_iincN (lv2 := [(3, .int (nI (0 + 1))), (2, .int ((-1))), (0, .int (nI 0)), (1, .int (nI k))]) K 1 dX9_isUnder_35 rfl rfl (by decide) rfl ?_
          refine v_goto (tgt := 4) K dX9_isUnder_38 rfl ?_
          refine v_iload_n K dX9_isUnder_4 rfl ?_
          refine v_gets (j := 0) K (by decide) sX9_329 dX9_isUnder_5 ?_
          refine v_slen (j := 0) K (by decide) dX9_isUnder_8 ?_
          refine v_top (y := nI 7) rfl ?_
          refine v_icmpN_ge (tgt := 41) K (by omega) (by omega) dX9_isUnder_9 rfl (fun c4 => ?_) (fun c4 => ?_)
          · exact absurd c4 (by decide)
          · skip
            refine v_iload_n K dX9_isUnder_12 rfl ?_
            refine v_iconstN K 0 rfl dX9_isUnder_13 ?_
            refine v_bipushN K 6 rfl dX9_isUnder_14 ?_
            refine v_callS (As := [.int ((-1)), .int (nI 0), .int (nI 6)]) K (c_X9_within h ((-1)) (nI 0) (nI 6)) lX9_65 rfl ⟨by decide, by decide⟩ (Nat.le_of_ble_eq_true rfl) dX9_isUnder_16 (fun r2 h2 hp2 => ?_) rfl
            obtain ⟨rfl, rfl⟩ := hp2
            refine v_some ?_
            refine v_ifB_eq (tgt := 41) K dX9_isUnder_19 rfl (fun c5 => ?_) (fun c5 => ?_)
            · skip
              refine v_iconstN K 0 rfl dX9_isUnder_41 ?_
              refine v_zret K dX9_isUnder_42 (by decide) ?_
              refine ⟨some_int ?_, rfl⟩
              first | (rw [b2i_t (by unfold underP; omega)]; rfl) | (rw [b2i_f (by unfold underP; omega)]; rfl)
            · exact absurd c5 (by decide)
        · skip
          refine v_iconstN K 1 rfl dX9_isUnder_27 ?_
          refine v_zret K dX9_isUnder_28 (by decide) ?_
          refine ⟨some_int ?_, rfl⟩
          first | (rw [b2i_t (by unfold underP; omega)]; rfl) | (rw [b2i_f (by unfold underP; omega)]; rfl)
  · skip
    refine v_iload_n K dX9_isUnder_0 rfl ?_
    refine v_istore_n (lv2 := [(2, .int (nI 1)), (0, .int (nI 1)), (1, .int (nI k))]) K dX9_isUnder_1 (by decide) rfl ?_
    refine v_iconstN K 0 rfl dX9_isUnder_2 ?_
    refine v_istore_n (lv2 := [(3, .int (nI 0)), (2, .int (nI 1)), (0, .int (nI 1)), (1, .int (nI k))]) K dX9_isUnder_3 (by decide) rfl ?_
    refine v_iload_n K dX9_isUnder_4 rfl ?_
    refine v_gets (j := 0) K (by decide) sX9_329 dX9_isUnder_5 ?_
    refine v_slen (j := 0) K (by decide) dX9_isUnder_8 ?_
    refine v_top (y := nI 7) rfl ?_
    refine v_icmpN_ge (tgt := 41) K (by omega) (by omega) dX9_isUnder_9 rfl (fun c6 => ?_) (fun c6 => ?_)
    · exact absurd c6 (by decide)
    · skip
      refine v_iload_n K dX9_isUnder_12 rfl ?_
      refine v_iconstN K 0 rfl dX9_isUnder_13 ?_
      refine v_bipushN K 6 rfl dX9_isUnder_14 ?_
      refine v_callS (As := [.int (nI 1), .int (nI 0), .int (nI 6)]) K (c_X9_within h (nI 1) (nI 0) (nI 6)) lX9_65 rfl ⟨by decide, by decide⟩ (Nat.le_of_ble_eq_true rfl) dX9_isUnder_16 (fun r3 h3 hp3 => ?_) rfl
      obtain ⟨rfl, rfl⟩ := hp3
      refine v_some ?_
      refine v_ifB_eq (tgt := 41) K dX9_isUnder_19 rfl (fun c7 => ?_) (fun c7 => ?_)
      · exact absurd (by decide) c7
      · skip
        refine v_iload_n K dX9_isUnder_22 rfl ?_
        refine v_iload_n K dX9_isUnder_23 rfl ?_
        refine v_icmpN_ne (tgt := 29) K (by omega) (by omega) dX9_isUnder_24 rfl (fun c8 => ?_) (fun c8 => ?_)
        · skip
          refine v_gets (j := 0) K (by decide) sX9_329 dX9_isUnder_29 ?_
          refine v_iload_n K dX9_isUnder_32 rfl ?_
          refine v_sald (j := 0) (x := nI 0) K (by decide) (by decide) (by decide) dX9_isUnder_33 ?_
          refine v_istore_n (lv2 := [(2, .int (nI 0)), (3, .int (nI 0)), (0, .int (nI 1)), (1, .int (nI k))]) K dX9_isUnder_34 (by decide) rfl ?_
          refine v_iincN (lv2 := [(3, .int (nI (0 + 1))), (2, .int (nI 0)), (0, .int (nI 1)), (1, .int (nI k))]) K 1 dX9_isUnder_35 rfl rfl (by decide) rfl ?_
          refine v_goto (tgt := 4) K dX9_isUnder_38 rfl ?_
          refine v_iload_n K dX9_isUnder_4 rfl ?_
          refine v_gets (j := 0) K (by decide) sX9_329 dX9_isUnder_5 ?_
          refine v_slen (j := 0) K (by decide) dX9_isUnder_8 ?_
          refine v_top (y := nI 7) rfl ?_
          refine v_icmpN_ge (tgt := 41) K (by omega) (by omega) dX9_isUnder_9 rfl (fun c9 => ?_) (fun c9 => ?_)
          · exact absurd c9 (by decide)
          · skip
            refine v_iload_n K dX9_isUnder_12 rfl ?_
            refine v_iconstN K 0 rfl dX9_isUnder_13 ?_
            refine v_bipushN K 6 rfl dX9_isUnder_14 ?_
            refine v_callS (As := [.int (nI 0), .int (nI 0), .int (nI 6)]) K (c_X9_within h (nI 0) (nI 0) (nI 6)) lX9_65 rfl ⟨by decide, by decide⟩ (Nat.le_of_ble_eq_true rfl) dX9_isUnder_16 (fun r4 h4 hp4 => ?_) rfl
            obtain ⟨rfl, rfl⟩ := hp4
            refine v_some ?_
            refine v_ifB_eq (tgt := 41) K dX9_isUnder_19 rfl (fun c10 => ?_) (fun c10 => ?_)
            · exact absurd (by decide) c10
            · skip
              refine v_iload_n K dX9_isUnder_22 rfl ?_
              refine v_iload_n K dX9_isUnder_23 rfl ?_
              refine v_icmpN_ne (tgt := 29) K (by omega) (by omega) dX9_isUnder_24 rfl (fun c11 => ?_) (fun c11 => ?_)
              · skip
                refine v_gets (j := 0) K (by decide) sX9_329 dX9_isUnder_29 ?_
                refine v_iload_n K dX9_isUnder_32 rfl ?_
                refine v_sald (j := 0) (x := (-1)) K (by decide) (by decide) (by decide) dX9_isUnder_33 ?_
                refine v_istore_n (lv2 := [(2, .int ((-1))), (3, .int (nI (0 + 1))), (0, .int (nI 1)), (1, .int (nI k))]) K dX9_isUnder_34 (by decide) rfl ?_
                refine v_iincN (lv2 := [(3, .int (nI (0 + 1 + 1))), (2, .int ((-1))), (0, .int (nI 1)), (1, .int (nI k))]) K 1 dX9_isUnder_35 rfl rfl (by decide) rfl ?_
                refine v_goto (tgt := 4) K dX9_isUnder_38 rfl ?_
                refine v_iload_n K dX9_isUnder_4 rfl ?_
                refine v_gets (j := 0) K (by decide) sX9_329 dX9_isUnder_5 ?_
                refine v_slen (j := 0) K (by decide) dX9_isUnder_8 ?_
                refine v_top (y := nI 7) rfl ?_
                refine v_icmpN_ge (tgt := 41) K (by omega) (by omega) dX9_isUnder_9 rfl (fun c12 => ?_) (fun c12 => ?_)
                · exact absurd c12 (by decide)
                · skip
                  refine v_iload_n K dX9_isUnder_12 rfl ?_
                  refine v_iconstN K 0 rfl dX9_isUnder_13 ?_
                  refine v_bipushN K 6 rfl dX9_isUnder_14 ?_
                  refine v_callS (As := [.int ((-1)), .int (nI 0), .int (nI 6)]) K (c_X9_within h ((-1)) (nI 0) (nI 6)) lX9_65 rfl ⟨by decide, by decide⟩ (Nat.le_of_ble_eq_true rfl) dX9_isUnder_16 (fun r5 h5 hp5 => ?_) rfl
                  obtain ⟨rfl, rfl⟩ := hp5
                  refine v_some ?_
                  refine v_ifB_eq (tgt := 41) K dX9_isUnder_19 rfl (fun c13 => ?_) (fun c13 => ?_)
                  · skip
                    refine v_iconstN K 0 rfl dX9_isUnder_41 ?_
                    refine v_zret K dX9_isUnder_42 (by decide) ?_
                    refine ⟨some_int ?_, rfl⟩
                    first | (rw [b2i_t (by unfold underP; omega)]; rfl) | (rw [b2i_f (by unfold underP; omega)]; rfl)
                  · exact absurd c13 (by decide)
              · skip
                refine v_iconstN K 1 rfl dX9_isUnder_27 ?_
                refine v_zret K dX9_isUnder_28 (by decide) ?_
                refine ⟨some_int ?_, rfl⟩
                first | (rw [b2i_t (by unfold underP; omega)]; rfl) | (rw [b2i_f (by unfold underP; omega)]; rfl)
        · skip
          refine v_iconstN K 1 rfl dX9_isUnder_27 ?_
          refine v_zret K dX9_isUnder_28 (by decide) ?_
          refine ⟨some_int ?_, rfl⟩
          first | (rw [b2i_t (by unfold underP; omega)]; rfl) | (rw [b2i_f (by unfold underP; omega)]; rfl)
  · skip
    refine v_iload_n K dX9_isUnder_0 rfl ?_
    refine v_istore_n (lv2 := [(2, .int (nI 2)), (0, .int (nI 2)), (1, .int (nI k))]) K dX9_isUnder_1 (by decide) rfl ?_
    refine v_iconstN K 0 rfl dX9_isUnder_2 ?_
    refine v_istore_n (lv2 := [(3, .int (nI 0)), (2, .int (nI 2)), (0, .int (nI 2)), (1, .int (nI k))]) K dX9_isUnder_3 (by decide) rfl ?_
    refine v_iload_n K dX9_isUnder_4 rfl ?_
    refine v_gets (j := 0) K (by decide) sX9_329 dX9_isUnder_5 ?_
    refine v_slen (j := 0) K (by decide) dX9_isUnder_8 ?_
    refine v_top (y := nI 7) rfl ?_
    refine v_icmpN_ge (tgt := 41) K (by omega) (by omega) dX9_isUnder_9 rfl (fun c14 => ?_) (fun c14 => ?_)
    · exact absurd c14 (by decide)
    · skip
      refine v_iload_n K dX9_isUnder_12 rfl ?_
      refine v_iconstN K 0 rfl dX9_isUnder_13 ?_
      refine v_bipushN K 6 rfl dX9_isUnder_14 ?_
      refine v_callS (As := [.int (nI 2), .int (nI 0), .int (nI 6)]) K (c_X9_within h (nI 2) (nI 0) (nI 6)) lX9_65 rfl ⟨by decide, by decide⟩ (Nat.le_of_ble_eq_true rfl) dX9_isUnder_16 (fun r6 h6 hp6 => ?_) rfl
      obtain ⟨rfl, rfl⟩ := hp6
      refine v_some ?_
      refine v_ifB_eq (tgt := 41) K dX9_isUnder_19 rfl (fun c15 => ?_) (fun c15 => ?_)
      · exact absurd (by decide) c15
      · skip
        refine v_iload_n K dX9_isUnder_22 rfl ?_
        refine v_iload_n K dX9_isUnder_23 rfl ?_
        refine v_icmpN_ne (tgt := 29) K (by omega) (by omega) dX9_isUnder_24 rfl (fun c16 => ?_) (fun c16 => ?_)
        · skip
          refine v_gets (j := 0) K (by decide) sX9_329 dX9_isUnder_29 ?_
          refine v_iload_n K dX9_isUnder_32 rfl ?_
          refine v_sald (j := 0) (x := nI 0) K (by decide) (by decide) (by decide) dX9_isUnder_33 ?_
          refine v_istore_n (lv2 := [(2, .int (nI 0)), (3, .int (nI 0)), (0, .int (nI 2)), (1, .int (nI k))]) K dX9_isUnder_34 (by decide) rfl ?_
          refine v_iincN (lv2 := [(3, .int (nI (0 + 1))), (2, .int (nI 0)), (0, .int (nI 2)), (1, .int (nI k))]) K 1 dX9_isUnder_35 rfl rfl (by decide) rfl ?_
          refine v_goto (tgt := 4) K dX9_isUnder_38 rfl ?_
          refine v_iload_n K dX9_isUnder_4 rfl ?_
          refine v_gets (j := 0) K (by decide) sX9_329 dX9_isUnder_5 ?_
          refine v_slen (j := 0) K (by decide) dX9_isUnder_8 ?_
          refine v_top (y := nI 7) rfl ?_
          refine v_icmpN_ge (tgt := 41) K (by omega) (by omega) dX9_isUnder_9 rfl (fun c17 => ?_) (fun c17 => ?_)
          · exact absurd c17 (by decide)
          · skip
            refine v_iload_n K dX9_isUnder_12 rfl ?_
            refine v_iconstN K 0 rfl dX9_isUnder_13 ?_
            refine v_bipushN K 6 rfl dX9_isUnder_14 ?_
            refine v_callS (As := [.int (nI 0), .int (nI 0), .int (nI 6)]) K (c_X9_within h (nI 0) (nI 0) (nI 6)) lX9_65 rfl ⟨by decide, by decide⟩ (Nat.le_of_ble_eq_true rfl) dX9_isUnder_16 (fun r7 h7 hp7 => ?_) rfl
            obtain ⟨rfl, rfl⟩ := hp7
            refine v_some ?_
            refine v_ifB_eq (tgt := 41) K dX9_isUnder_19 rfl (fun c18 => ?_) (fun c18 => ?_)
            · exact absurd (by decide) c18
            · skip
              refine v_iload_n K dX9_isUnder_22 rfl ?_
              refine v_iload_n K dX9_isUnder_23 rfl ?_
              refine v_icmpN_ne (tgt := 29) K (by omega) (by omega) dX9_isUnder_24 rfl (fun c19 => ?_) (fun c19 => ?_)
              · skip
                refine v_gets (j := 0) K (by decide) sX9_329 dX9_isUnder_29 ?_
                refine v_iload_n K dX9_isUnder_32 rfl ?_
                refine v_sald (j := 0) (x := (-1)) K (by decide) (by decide) (by decide) dX9_isUnder_33 ?_
                refine v_istore_n (lv2 := [(2, .int ((-1))), (3, .int (nI (0 + 1))), (0, .int (nI 2)), (1, .int (nI k))]) K dX9_isUnder_34 (by decide) rfl ?_
                refine v_iincN (lv2 := [(3, .int (nI (0 + 1 + 1))), (2, .int ((-1))), (0, .int (nI 2)), (1, .int (nI k))]) K 1 dX9_isUnder_35 rfl rfl (by decide) rfl ?_
                refine v_goto (tgt := 4) K dX9_isUnder_38 rfl ?_
                refine v_iload_n K dX9_isUnder_4 rfl ?_
                refine v_gets (j := 0) K (by decide) sX9_329 dX9_isUnder_5 ?_
                refine v_slen (j := 0) K (by decide) dX9_isUnder_8 ?_
                refine v_top (y := nI 7) rfl ?_
                refine v_icmpN_ge (tgt := 41) K (by omega) (by omega) dX9_isUnder_9 rfl (fun c20 => ?_) (fun c20 => ?_)
                · exact absurd c20 (by decide)
                · skip
                  refine v_iload_n K dX9_isUnder_12 rfl ?_
                  refine v_iconstN K 0 rfl dX9_isUnder_13 ?_
                  refine v_bipushN K 6 rfl dX9_isUnder_14 ?_
                  refine v_callS (As := [.int ((-1)), .int (nI 0), .int (nI 6)]) K (c_X9_within h ((-1)) (nI 0) (nI 6)) lX9_65 rfl ⟨by decide, by decide⟩ (Nat.le_of_ble_eq_true rfl) dX9_isUnder_16 (fun r8 h8 hp8 => ?_) rfl
                  obtain ⟨rfl, rfl⟩ := hp8
                  refine v_some ?_
                  refine v_ifB_eq (tgt := 41) K dX9_isUnder_19 rfl (fun c21 => ?_) (fun c21 => ?_)
                  · skip
                    refine v_iconstN K 0 rfl dX9_isUnder_41 ?_
                    refine v_zret K dX9_isUnder_42 (by decide) ?_
                    refine ⟨some_int ?_, rfl⟩
                    first | (rw [b2i_t (by unfold underP; omega)]; rfl) | (rw [b2i_f (by unfold underP; omega)]; rfl)
                  · exact absurd c21 (by decide)
              · skip
                refine v_iconstN K 1 rfl dX9_isUnder_27 ?_
                refine v_zret K dX9_isUnder_28 (by decide) ?_
                refine ⟨some_int ?_, rfl⟩
                first | (rw [b2i_t (by unfold underP; omega)]; rfl) | (rw [b2i_f (by unfold underP; omega)]; rfl)
        · skip
          refine v_iconstN K 1 rfl dX9_isUnder_27 ?_
          refine v_zret K dX9_isUnder_28 (by decide) ?_
          refine ⟨some_int ?_, rfl⟩
          first | (rw [b2i_t (by unfold underP; omega)]; rfl) | (rw [b2i_f (by unfold underP; omega)]; rfl)
  · skip
    refine v_iload_n K dX9_isUnder_0 rfl ?_
    refine v_istore_n (lv2 := [(2, .int (nI 3)), (0, .int (nI 3)), (1, .int (nI k))]) K dX9_isUnder_1 (by decide) rfl ?_
    refine v_iconstN K 0 rfl dX9_isUnder_2 ?_
    refine v_istore_n (lv2 := [(3, .int (nI 0)), (2, .int (nI 3)), (0, .int (nI 3)), (1, .int (nI k))]) K dX9_isUnder_3 (by decide) rfl ?_
    refine v_iload_n K dX9_isUnder_4 rfl ?_
    refine v_gets (j := 0) K (by decide) sX9_329 dX9_isUnder_5 ?_
    refine v_slen (j := 0) K (by decide) dX9_isUnder_8 ?_
    refine v_top (y := nI 7) rfl ?_
    refine v_icmpN_ge (tgt := 41) K (by omega) (by omega) dX9_isUnder_9 rfl (fun c22 => ?_) (fun c22 => ?_)
    · exact absurd c22 (by decide)
    · skip
      refine v_iload_n K dX9_isUnder_12 rfl ?_
      refine v_iconstN K 0 rfl dX9_isUnder_13 ?_
      refine v_bipushN K 6 rfl dX9_isUnder_14 ?_
      refine v_callS (As := [.int (nI 3), .int (nI 0), .int (nI 6)]) K (c_X9_within h (nI 3) (nI 0) (nI 6)) lX9_65 rfl ⟨by decide, by decide⟩ (Nat.le_of_ble_eq_true rfl) dX9_isUnder_16 (fun r9 h9 hp9 => ?_) rfl
      obtain ⟨rfl, rfl⟩ := hp9
      refine v_some ?_
      refine v_ifB_eq (tgt := 41) K dX9_isUnder_19 rfl (fun c23 => ?_) (fun c23 => ?_)
      · exact absurd (by decide) c23
      · skip
        refine v_iload_n K dX9_isUnder_22 rfl ?_
        refine v_iload_n K dX9_isUnder_23 rfl ?_
        refine v_icmpN_ne (tgt := 29) K (by omega) (by omega) dX9_isUnder_24 rfl (fun c24 => ?_) (fun c24 => ?_)
        · skip
          refine v_gets (j := 0) K (by decide) sX9_329 dX9_isUnder_29 ?_
          refine v_iload_n K dX9_isUnder_32 rfl ?_
          refine v_sald (j := 0) (x := nI 0) K (by decide) (by decide) (by decide) dX9_isUnder_33 ?_
          refine v_istore_n (lv2 := [(2, .int (nI 0)), (3, .int (nI 0)), (0, .int (nI 3)), (1, .int (nI k))]) K dX9_isUnder_34 (by decide) rfl ?_
          refine v_iincN (lv2 := [(3, .int (nI (0 + 1))), (2, .int (nI 0)), (0, .int (nI 3)), (1, .int (nI k))]) K 1 dX9_isUnder_35 rfl rfl (by decide) rfl ?_
          refine v_goto (tgt := 4) K dX9_isUnder_38 rfl ?_
          refine v_iload_n K dX9_isUnder_4 rfl ?_
          refine v_gets (j := 0) K (by decide) sX9_329 dX9_isUnder_5 ?_
          refine v_slen (j := 0) K (by decide) dX9_isUnder_8 ?_
          refine v_top (y := nI 7) rfl ?_
          refine v_icmpN_ge (tgt := 41) K (by omega) (by omega) dX9_isUnder_9 rfl (fun c25 => ?_) (fun c25 => ?_)
          · exact absurd c25 (by decide)
          · skip
            refine v_iload_n K dX9_isUnder_12 rfl ?_
            refine v_iconstN K 0 rfl dX9_isUnder_13 ?_
            refine v_bipushN K 6 rfl dX9_isUnder_14 ?_
            refine v_callS (As := [.int (nI 0), .int (nI 0), .int (nI 6)]) K (c_X9_within h (nI 0) (nI 0) (nI 6)) lX9_65 rfl ⟨by decide, by decide⟩ (Nat.le_of_ble_eq_true rfl) dX9_isUnder_16 (fun r10 h10 hp10 => ?_) rfl
            obtain ⟨rfl, rfl⟩ := hp10
            refine v_some ?_
            refine v_ifB_eq (tgt := 41) K dX9_isUnder_19 rfl (fun c26 => ?_) (fun c26 => ?_)
            · exact absurd (by decide) c26
            · skip
              refine v_iload_n K dX9_isUnder_22 rfl ?_
              refine v_iload_n K dX9_isUnder_23 rfl ?_
              refine v_icmpN_ne (tgt := 29) K (by omega) (by omega) dX9_isUnder_24 rfl (fun c27 => ?_) (fun c27 => ?_)
              · skip
                refine v_gets (j := 0) K (by decide) sX9_329 dX9_isUnder_29 ?_
                refine v_iload_n K dX9_isUnder_32 rfl ?_
                refine v_sald (j := 0) (x := (-1)) K (by decide) (by decide) (by decide) dX9_isUnder_33 ?_
                refine v_istore_n (lv2 := [(2, .int ((-1))), (3, .int (nI (0 + 1))), (0, .int (nI 3)), (1, .int (nI k))]) K dX9_isUnder_34 (by decide) rfl ?_
                refine v_iincN (lv2 := [(3, .int (nI (0 + 1 + 1))), (2, .int ((-1))), (0, .int (nI 3)), (1, .int (nI k))]) K 1 dX9_isUnder_35 rfl rfl (by decide) rfl ?_
                refine v_goto (tgt := 4) K dX9_isUnder_38 rfl ?_
                refine v_iload_n K dX9_isUnder_4 rfl ?_
                refine v_gets (j := 0) K (by decide) sX9_329 dX9_isUnder_5 ?_
                refine v_slen (j := 0) K (by decide) dX9_isUnder_8 ?_
                refine v_top (y := nI 7) rfl ?_
                refine v_icmpN_ge (tgt := 41) K (by omega) (by omega) dX9_isUnder_9 rfl (fun c28 => ?_) (fun c28 => ?_)
                · exact absurd c28 (by decide)
                · skip
                  refine v_iload_n K dX9_isUnder_12 rfl ?_
                  refine v_iconstN K 0 rfl dX9_isUnder_13 ?_
                  refine v_bipushN K 6 rfl dX9_isUnder_14 ?_
                  refine v_callS (As := [.int ((-1)), .int (nI 0), .int (nI 6)]) K (c_X9_within h ((-1)) (nI 0) (nI 6)) lX9_65 rfl ⟨by decide, by decide⟩ (Nat.le_of_ble_eq_true rfl) dX9_isUnder_16 (fun r11 h11 hp11 => ?_) rfl
                  obtain ⟨rfl, rfl⟩ := hp11
                  refine v_some ?_
                  refine v_ifB_eq (tgt := 41) K dX9_isUnder_19 rfl (fun c29 => ?_) (fun c29 => ?_)
                  · skip
                    refine v_iconstN K 0 rfl dX9_isUnder_41 ?_
                    refine v_zret K dX9_isUnder_42 (by decide) ?_
                    refine ⟨some_int ?_, rfl⟩
                    first | (rw [b2i_t (by unfold underP; omega)]; rfl) | (rw [b2i_f (by unfold underP; omega)]; rfl)
                  · exact absurd c29 (by decide)
              · skip
                refine v_iconstN K 1 rfl dX9_isUnder_27 ?_
                refine v_zret K dX9_isUnder_28 (by decide) ?_
                refine ⟨some_int ?_, rfl⟩
                first | (rw [b2i_t (by unfold underP; omega)]; rfl) | (rw [b2i_f (by unfold underP; omega)]; rfl)
        · skip
          refine v_iconstN K 1 rfl dX9_isUnder_27 ?_
          refine v_zret K dX9_isUnder_28 (by decide) ?_
          refine ⟨some_int ?_, rfl⟩
          first | (rw [b2i_t (by unfold underP; omega)]; rfl) | (rw [b2i_f (by unfold underP; omega)]; rfl)
  · skip
    refine v_iload_n K dX9_isUnder_0 rfl ?_
    refine v_istore_n (lv2 := [(2, .int (nI 4)), (0, .int (nI 4)), (1, .int (nI k))]) K dX9_isUnder_1 (by decide) rfl ?_
    refine v_iconstN K 0 rfl dX9_isUnder_2 ?_
    refine v_istore_n (lv2 := [(3, .int (nI 0)), (2, .int (nI 4)), (0, .int (nI 4)), (1, .int (nI k))]) K dX9_isUnder_3 (by decide) rfl ?_
    refine v_iload_n K dX9_isUnder_4 rfl ?_
    refine v_gets (j := 0) K (by decide) sX9_329 dX9_isUnder_5 ?_
    refine v_slen (j := 0) K (by decide) dX9_isUnder_8 ?_
    refine v_top (y := nI 7) rfl ?_
    refine v_icmpN_ge (tgt := 41) K (by omega) (by omega) dX9_isUnder_9 rfl (fun c30 => ?_) (fun c30 => ?_)
    · exact absurd c30 (by decide)
    · skip
      refine v_iload_n K dX9_isUnder_12 rfl ?_
      refine v_iconstN K 0 rfl dX9_isUnder_13 ?_
      refine v_bipushN K 6 rfl dX9_isUnder_14 ?_
      refine v_callS (As := [.int (nI 4), .int (nI 0), .int (nI 6)]) K (c_X9_within h (nI 4) (nI 0) (nI 6)) lX9_65 rfl ⟨by decide, by decide⟩ (Nat.le_of_ble_eq_true rfl) dX9_isUnder_16 (fun r12 h12 hp12 => ?_) rfl
      obtain ⟨rfl, rfl⟩ := hp12
      refine v_some ?_
      refine v_ifB_eq (tgt := 41) K dX9_isUnder_19 rfl (fun c31 => ?_) (fun c31 => ?_)
      · exact absurd (by decide) c31
      · skip
        refine v_iload_n K dX9_isUnder_22 rfl ?_
        refine v_iload_n K dX9_isUnder_23 rfl ?_
        refine v_icmpN_ne (tgt := 29) K (by omega) (by omega) dX9_isUnder_24 rfl (fun c32 => ?_) (fun c32 => ?_)
        · skip
          refine v_gets (j := 0) K (by decide) sX9_329 dX9_isUnder_29 ?_
          refine v_iload_n K dX9_isUnder_32 rfl ?_
          refine v_sald (j := 0) (x := nI 2) K (by decide) (by decide) (by decide) dX9_isUnder_33 ?_
          refine v_istore_n (lv2 := [(2, .int (nI 2)), (3, .int (nI 0)), (0, .int (nI 4)), (1, .int (nI k))]) K dX9_isUnder_34 (by decide) rfl ?_
          refine v_iincN (lv2 := [(3, .int (nI (0 + 1))), (2, .int (nI 2)), (0, .int (nI 4)), (1, .int (nI k))]) K 1 dX9_isUnder_35 rfl rfl (by decide) rfl ?_
          refine v_goto (tgt := 4) K dX9_isUnder_38 rfl ?_
          refine v_iload_n K dX9_isUnder_4 rfl ?_
          refine v_gets (j := 0) K (by decide) sX9_329 dX9_isUnder_5 ?_
          refine v_slen (j := 0) K (by decide) dX9_isUnder_8 ?_
          refine v_top (y := nI 7) rfl ?_
          refine v_icmpN_ge (tgt := 41) K (by omega) (by omega) dX9_isUnder_9 rfl (fun c33 => ?_) (fun c33 => ?_)
          · exact absurd c33 (by decide)
          · skip
            refine v_iload_n K dX9_isUnder_12 rfl ?_
            refine v_iconstN K 0 rfl dX9_isUnder_13 ?_
            refine v_bipushN K 6 rfl dX9_isUnder_14 ?_
            refine v_callS (As := [.int (nI 2), .int (nI 0), .int (nI 6)]) K (c_X9_within h (nI 2) (nI 0) (nI 6)) lX9_65 rfl ⟨by decide, by decide⟩ (Nat.le_of_ble_eq_true rfl) dX9_isUnder_16 (fun r13 h13 hp13 => ?_) rfl
            obtain ⟨rfl, rfl⟩ := hp13
            refine v_some ?_
            refine v_ifB_eq (tgt := 41) K dX9_isUnder_19 rfl (fun c34 => ?_) (fun c34 => ?_)
            · exact absurd (by decide) c34
            · skip
              refine v_iload_n K dX9_isUnder_22 rfl ?_
              refine v_iload_n K dX9_isUnder_23 rfl ?_
              refine v_icmpN_ne (tgt := 29) K (by omega) (by omega) dX9_isUnder_24 rfl (fun c35 => ?_) (fun c35 => ?_)
              · skip
                refine v_gets (j := 0) K (by decide) sX9_329 dX9_isUnder_29 ?_
                refine v_iload_n K dX9_isUnder_32 rfl ?_
                refine v_sald (j := 0) (x := nI 0) K (by decide) (by decide) (by decide) dX9_isUnder_33 ?_
                refine v_istore_n (lv2 := [(2, .int (nI 0)), (3, .int (nI (0 + 1))), (0, .int (nI 4)), (1, .int (nI k))]) K dX9_isUnder_34 (by decide) rfl ?_
                refine v_iincN (lv2 := [(3, .int (nI (0 + 1 + 1))), (2, .int (nI 0)), (0, .int (nI 4)), (1, .int (nI k))]) K 1 dX9_isUnder_35 rfl rfl (by decide) rfl ?_
                refine v_goto (tgt := 4) K dX9_isUnder_38 rfl ?_
                refine v_iload_n K dX9_isUnder_4 rfl ?_
                refine v_gets (j := 0) K (by decide) sX9_329 dX9_isUnder_5 ?_
                refine v_slen (j := 0) K (by decide) dX9_isUnder_8 ?_
                refine v_top (y := nI 7) rfl ?_
                refine v_icmpN_ge (tgt := 41) K (by omega) (by omega) dX9_isUnder_9 rfl (fun c36 => ?_) (fun c36 => ?_)
                · exact absurd c36 (by decide)
                · skip
                  refine v_iload_n K dX9_isUnder_12 rfl ?_
                  refine v_iconstN K 0 rfl dX9_isUnder_13 ?_
                  refine v_bipushN K 6 rfl dX9_isUnder_14 ?_
                  refine v_callS (As := [.int (nI 0), .int (nI 0), .int (nI 6)]) K (c_X9_within h (nI 0) (nI 0) (nI 6)) lX9_65 rfl ⟨by decide, by decide⟩ (Nat.le_of_ble_eq_true rfl) dX9_isUnder_16 (fun r14 h14 hp14 => ?_) rfl
                  obtain ⟨rfl, rfl⟩ := hp14
                  refine v_some ?_
                  refine v_ifB_eq (tgt := 41) K dX9_isUnder_19 rfl (fun c37 => ?_) (fun c37 => ?_)
                  · exact absurd (by decide) c37
                  · skip
                    refine v_iload_n K dX9_isUnder_22 rfl ?_
                    refine v_iload_n K dX9_isUnder_23 rfl ?_
                    refine v_icmpN_ne (tgt := 29) K (by omega) (by omega) dX9_isUnder_24 rfl (fun c38 => ?_) (fun c38 => ?_)
                    · skip
                      refine v_gets (j := 0) K (by decide) sX9_329 dX9_isUnder_29 ?_
                      refine v_iload_n K dX9_isUnder_32 rfl ?_
                      refine v_sald (j := 0) (x := (-1)) K (by decide) (by decide) (by decide) dX9_isUnder_33 ?_
                      refine v_istore_n (lv2 := [(2, .int ((-1))), (3, .int (nI (0 + 1 + 1))), (0, .int (nI 4)), (1, .int (nI k))]) K dX9_isUnder_34 (by decide) rfl ?_
                      refine v_iincN (lv2 := [(3, .int (nI (0 + 1 + 1 + 1))), (2, .int ((-1))), (0, .int (nI 4)), (1, .int (nI k))]) K 1 dX9_isUnder_35 rfl rfl (by decide) rfl ?_
                      refine v_goto (tgt := 4) K dX9_isUnder_38 rfl ?_
                      refine v_iload_n K dX9_isUnder_4 rfl ?_
                      refine v_gets (j := 0) K (by decide) sX9_329 dX9_isUnder_5 ?_
                      refine v_slen (j := 0) K (by decide) dX9_isUnder_8 ?_
                      refine v_top (y := nI 7) rfl ?_
                      refine v_icmpN_ge (tgt := 41) K (by omega) (by omega) dX9_isUnder_9 rfl (fun c39 => ?_) (fun c39 => ?_)
                      · exact absurd c39 (by decide)
                      · skip
                        refine v_iload_n K dX9_isUnder_12 rfl ?_
                        refine v_iconstN K 0 rfl dX9_isUnder_13 ?_
                        refine v_bipushN K 6 rfl dX9_isUnder_14 ?_
                        refine v_callS (As := [.int ((-1)), .int (nI 0), .int (nI 6)]) K (c_X9_within h ((-1)) (nI 0) (nI 6)) lX9_65 rfl ⟨by decide, by decide⟩ (Nat.le_of_ble_eq_true rfl) dX9_isUnder_16 (fun r15 h15 hp15 => ?_) rfl
                        obtain ⟨rfl, rfl⟩ := hp15
                        refine v_some ?_
                        refine v_ifB_eq (tgt := 41) K dX9_isUnder_19 rfl (fun c40 => ?_) (fun c40 => ?_)
                        · skip
                          refine v_iconstN K 0 rfl dX9_isUnder_41 ?_
                          refine v_zret K dX9_isUnder_42 (by decide) ?_
                          refine ⟨some_int ?_, rfl⟩
                          first | (rw [b2i_t (by unfold underP; omega)]; rfl) | (rw [b2i_f (by unfold underP; omega)]; rfl)
                        · exact absurd c40 (by decide)
                    · skip
                      refine v_iconstN K 1 rfl dX9_isUnder_27 ?_
                      refine v_zret K dX9_isUnder_28 (by decide) ?_
                      refine ⟨some_int ?_, rfl⟩
                      first | (rw [b2i_t (by unfold underP; omega)]; rfl) | (rw [b2i_f (by unfold underP; omega)]; rfl)
              · skip
                refine v_iconstN K 1 rfl dX9_isUnder_27 ?_
                refine v_zret K dX9_isUnder_28 (by decide) ?_
                refine ⟨some_int ?_, rfl⟩
                first | (rw [b2i_t (by unfold underP; omega)]; rfl) | (rw [b2i_f (by unfold underP; omega)]; rfl)
        · skip
          refine v_iconstN K 1 rfl dX9_isUnder_27 ?_
          refine v_zret K dX9_isUnder_28 (by decide) ?_
          refine ⟨some_int ?_, rfl⟩
          first | (rw [b2i_t (by unfold underP; omega)]; rfl) | (rw [b2i_f (by unfold underP; omega)]; rfl)
  · skip
    refine v_iload_n K dX9_isUnder_0 rfl ?_
    refine v_istore_n (lv2 := [(2, .int (nI 5)), (0, .int (nI 5)), (1, .int (nI k))]) K dX9_isUnder_1 (by decide) rfl ?_
    refine v_iconstN K 0 rfl dX9_isUnder_2 ?_
    refine v_istore_n (lv2 := [(3, .int (nI 0)), (2, .int (nI 5)), (0, .int (nI 5)), (1, .int (nI k))]) K dX9_isUnder_3 (by decide) rfl ?_
    refine v_iload_n K dX9_isUnder_4 rfl ?_
    refine v_gets (j := 0) K (by decide) sX9_329 dX9_isUnder_5 ?_
    refine v_slen (j := 0) K (by decide) dX9_isUnder_8 ?_
    refine v_top (y := nI 7) rfl ?_
    refine v_icmpN_ge (tgt := 41) K (by omega) (by omega) dX9_isUnder_9 rfl (fun c41 => ?_) (fun c41 => ?_)
    · exact absurd c41 (by decide)
    · skip
      refine v_iload_n K dX9_isUnder_12 rfl ?_
      refine v_iconstN K 0 rfl dX9_isUnder_13 ?_
      refine v_bipushN K 6 rfl dX9_isUnder_14 ?_
      refine v_callS (As := [.int (nI 5), .int (nI 0), .int (nI 6)]) K (c_X9_within h (nI 5) (nI 0) (nI 6)) lX9_65 rfl ⟨by decide, by decide⟩ (Nat.le_of_ble_eq_true rfl) dX9_isUnder_16 (fun r16 h16 hp16 => ?_) rfl
      obtain ⟨rfl, rfl⟩ := hp16
      refine v_some ?_
      refine v_ifB_eq (tgt := 41) K dX9_isUnder_19 rfl (fun c42 => ?_) (fun c42 => ?_)
      · exact absurd (by decide) c42
      · skip
        refine v_iload_n K dX9_isUnder_22 rfl ?_
        refine v_iload_n K dX9_isUnder_23 rfl ?_
        refine v_icmpN_ne (tgt := 29) K (by omega) (by omega) dX9_isUnder_24 rfl (fun c43 => ?_) (fun c43 => ?_)
        · skip
          refine v_gets (j := 0) K (by decide) sX9_329 dX9_isUnder_29 ?_
          refine v_iload_n K dX9_isUnder_32 rfl ?_
          refine v_sald (j := 0) (x := nI 3) K (by decide) (by decide) (by decide) dX9_isUnder_33 ?_
          refine v_istore_n (lv2 := [(2, .int (nI 3)), (3, .int (nI 0)), (0, .int (nI 5)), (1, .int (nI k))]) K dX9_isUnder_34 (by decide) rfl ?_
          refine v_iincN (lv2 := [(3, .int (nI (0 + 1))), (2, .int (nI 3)), (0, .int (nI 5)), (1, .int (nI k))]) K 1 dX9_isUnder_35 rfl rfl (by decide) rfl ?_
          refine v_goto (tgt := 4) K dX9_isUnder_38 rfl ?_
          refine v_iload_n K dX9_isUnder_4 rfl ?_
          refine v_gets (j := 0) K (by decide) sX9_329 dX9_isUnder_5 ?_
          refine v_slen (j := 0) K (by decide) dX9_isUnder_8 ?_
          refine v_top (y := nI 7) rfl ?_
          refine v_icmpN_ge (tgt := 41) K (by omega) (by omega) dX9_isUnder_9 rfl (fun c44 => ?_) (fun c44 => ?_)
          · exact absurd c44 (by decide)
          · skip
            refine v_iload_n K dX9_isUnder_12 rfl ?_
            refine v_iconstN K 0 rfl dX9_isUnder_13 ?_
            refine v_bipushN K 6 rfl dX9_isUnder_14 ?_
            refine v_callS (As := [.int (nI 3), .int (nI 0), .int (nI 6)]) K (c_X9_within h (nI 3) (nI 0) (nI 6)) lX9_65 rfl ⟨by decide, by decide⟩ (Nat.le_of_ble_eq_true rfl) dX9_isUnder_16 (fun r17 h17 hp17 => ?_) rfl
            obtain ⟨rfl, rfl⟩ := hp17
            refine v_some ?_
            refine v_ifB_eq (tgt := 41) K dX9_isUnder_19 rfl (fun c45 => ?_) (fun c45 => ?_)
            · exact absurd (by decide) c45
            · skip
              refine v_iload_n K dX9_isUnder_22 rfl ?_
              refine v_iload_n K dX9_isUnder_23 rfl ?_
              refine v_icmpN_ne (tgt := 29) K (by omega) (by omega) dX9_isUnder_24 rfl (fun c46 => ?_) (fun c46 => ?_)
              · skip
                refine v_gets (j := 0) K (by decide) sX9_329 dX9_isUnder_29 ?_
                refine v_iload_n K dX9_isUnder_32 rfl ?_
                refine v_sald (j := 0) (x := nI 0) K (by decide) (by decide) (by decide) dX9_isUnder_33 ?_
                refine v_istore_n (lv2 := [(2, .int (nI 0)), (3, .int (nI (0 + 1))), (0, .int (nI 5)), (1, .int (nI k))]) K dX9_isUnder_34 (by decide) rfl ?_
                refine v_iincN (lv2 := [(3, .int (nI (0 + 1 + 1))), (2, .int (nI 0)), (0, .int (nI 5)), (1, .int (nI k))]) K 1 dX9_isUnder_35 rfl rfl (by decide) rfl ?_
                refine v_goto (tgt := 4) K dX9_isUnder_38 rfl ?_
                refine v_iload_n K dX9_isUnder_4 rfl ?_
                refine v_gets (j := 0) K (by decide) sX9_329 dX9_isUnder_5 ?_
                refine v_slen (j := 0) K (by decide) dX9_isUnder_8 ?_
                refine v_top (y := nI 7) rfl ?_
                refine v_icmpN_ge (tgt := 41) K (by omega) (by omega) dX9_isUnder_9 rfl (fun c47 => ?_) (fun c47 => ?_)
                · exact absurd c47 (by decide)
                · skip
                  refine v_iload_n K dX9_isUnder_12 rfl ?_
                  refine v_iconstN K 0 rfl dX9_isUnder_13 ?_
                  refine v_bipushN K 6 rfl dX9_isUnder_14 ?_
                  refine v_callS (As := [.int (nI 0), .int (nI 0), .int (nI 6)]) K (c_X9_within h (nI 0) (nI 0) (nI 6)) lX9_65 rfl ⟨by decide, by decide⟩ (Nat.le_of_ble_eq_true rfl) dX9_isUnder_16 (fun r18 h18 hp18 => ?_) rfl
                  obtain ⟨rfl, rfl⟩ := hp18
                  refine v_some ?_
                  refine v_ifB_eq (tgt := 41) K dX9_isUnder_19 rfl (fun c48 => ?_) (fun c48 => ?_)
                  · exact absurd (by decide) c48
                  · skip
                    refine v_iload_n K dX9_isUnder_22 rfl ?_
                    refine v_iload_n K dX9_isUnder_23 rfl ?_
                    refine v_icmpN_ne (tgt := 29) K (by omega) (by omega) dX9_isUnder_24 rfl (fun c49 => ?_) (fun c49 => ?_)
                    · skip
                      refine v_gets (j := 0) K (by decide) sX9_329 dX9_isUnder_29 ?_
                      refine v_iload_n K dX9_isUnder_32 rfl ?_
                      refine v_sald (j := 0) (x := (-1)) K (by decide) (by decide) (by decide) dX9_isUnder_33 ?_
                      refine v_istore_n (lv2 := [(2, .int ((-1))), (3, .int (nI (0 + 1 + 1))), (0, .int (nI 5)), (1, .int (nI k))]) K dX9_isUnder_34 (by decide) rfl ?_
                      refine v_iincN (lv2 := [(3, .int (nI (0 + 1 + 1 + 1))), (2, .int ((-1))), (0, .int (nI 5)), (1, .int (nI k))]) K 1 dX9_isUnder_35 rfl rfl (by decide) rfl ?_
                      refine v_goto (tgt := 4) K dX9_isUnder_38 rfl ?_
                      refine v_iload_n K dX9_isUnder_4 rfl ?_
                      refine v_gets (j := 0) K (by decide) sX9_329 dX9_isUnder_5 ?_
                      refine v_slen (j := 0) K (by decide) dX9_isUnder_8 ?_
                      refine v_top (y := nI 7) rfl ?_
                      refine v_icmpN_ge (tgt := 41) K (by omega) (by omega) dX9_isUnder_9 rfl (fun c50 => ?_) (fun c50 => ?_)
                      · exact absurd c50 (by decide)
                      · skip
                        refine v_iload_n K dX9_isUnder_12 rfl ?_
                        refine v_iconstN K 0 rfl dX9_isUnder_13 ?_
                        refine v_bipushN K 6 rfl dX9_isUnder_14 ?_
                        refine v_callS (As := [.int ((-1)), .int (nI 0), .int (nI 6)]) K (c_X9_within h ((-1)) (nI 0) (nI 6)) lX9_65 rfl ⟨by decide, by decide⟩ (Nat.le_of_ble_eq_true rfl) dX9_isUnder_16 (fun r19 h19 hp19 => ?_) rfl
                        obtain ⟨rfl, rfl⟩ := hp19
                        refine v_some ?_
                        refine v_ifB_eq (tgt := 41) K dX9_isUnder_19 rfl (fun c51 => ?_) (fun c51 => ?_)
                        · skip
                          refine v_iconstN K 0 rfl dX9_isUnder_41 ?_
                          refine v_zret K dX9_isUnder_42 (by decide) ?_
                          refine ⟨some_int ?_, rfl⟩
                          first | (rw [b2i_t (by unfold underP; omega)]; rfl) | (rw [b2i_f (by unfold underP; omega)]; rfl)
                        · exact absurd c51 (by decide)
                    · skip
                      refine v_iconstN K 1 rfl dX9_isUnder_27 ?_
                      refine v_zret K dX9_isUnder_28 (by decide) ?_
                      refine ⟨some_int ?_, rfl⟩
                      first | (rw [b2i_t (by unfold underP; omega)]; rfl) | (rw [b2i_f (by unfold underP; omega)]; rfl)
              · skip
                refine v_iconstN K 1 rfl dX9_isUnder_27 ?_
                refine v_zret K dX9_isUnder_28 (by decide) ?_
                refine ⟨some_int ?_, rfl⟩
                first | (rw [b2i_t (by unfold underP; omega)]; rfl) | (rw [b2i_f (by unfold underP; omega)]; rfl)
        · skip
          refine v_iconstN K 1 rfl dX9_isUnder_27 ?_
          refine v_zret K dX9_isUnder_28 (by decide) ?_
          refine ⟨some_int ?_, rfl⟩
          first | (rw [b2i_t (by unfold underP; omega)]; rfl) | (rw [b2i_f (by unfold underP; omega)]; rfl)
  · skip
    refine v_iload_n K dX9_isUnder_0 rfl ?_
    refine v_istore_n (lv2 := [(2, .int (nI 6)), (0, .int (nI 6)), (1, .int (nI k))]) K dX9_isUnder_1 (by decide) rfl ?_
    refine v_iconstN K 0 rfl dX9_isUnder_2 ?_
    refine v_istore_n (lv2 := [(3, .int (nI 0)), (2, .int (nI 6)), (0, .int (nI 6)), (1, .int (nI k))]) K dX9_isUnder_3 (by decide) rfl ?_
    refine v_iload_n K dX9_isUnder_4 rfl ?_
    refine v_gets (j := 0) K (by decide) sX9_329 dX9_isUnder_5 ?_
    refine v_slen (j := 0) K (by decide) dX9_isUnder_8 ?_
    refine v_top (y := nI 7) rfl ?_
    refine v_icmpN_ge (tgt := 41) K (by omega) (by omega) dX9_isUnder_9 rfl (fun c52 => ?_) (fun c52 => ?_)
    · exact absurd c52 (by decide)
    · skip
      refine v_iload_n K dX9_isUnder_12 rfl ?_
      refine v_iconstN K 0 rfl dX9_isUnder_13 ?_
      refine v_bipushN K 6 rfl dX9_isUnder_14 ?_
      refine v_callS (As := [.int (nI 6), .int (nI 0), .int (nI 6)]) K (c_X9_within h (nI 6) (nI 0) (nI 6)) lX9_65 rfl ⟨by decide, by decide⟩ (Nat.le_of_ble_eq_true rfl) dX9_isUnder_16 (fun r20 h20 hp20 => ?_) rfl
      obtain ⟨rfl, rfl⟩ := hp20
      refine v_some ?_
      refine v_ifB_eq (tgt := 41) K dX9_isUnder_19 rfl (fun c53 => ?_) (fun c53 => ?_)
      · exact absurd (by decide) c53
      · skip
        refine v_iload_n K dX9_isUnder_22 rfl ?_
        refine v_iload_n K dX9_isUnder_23 rfl ?_
        refine v_icmpN_ne (tgt := 29) K (by omega) (by omega) dX9_isUnder_24 rfl (fun c54 => ?_) (fun c54 => ?_)
        · skip
          refine v_gets (j := 0) K (by decide) sX9_329 dX9_isUnder_29 ?_
          refine v_iload_n K dX9_isUnder_32 rfl ?_
          refine v_sald (j := 0) (x := nI 1) K (by decide) (by decide) (by decide) dX9_isUnder_33 ?_
          refine v_istore_n (lv2 := [(2, .int (nI 1)), (3, .int (nI 0)), (0, .int (nI 6)), (1, .int (nI k))]) K dX9_isUnder_34 (by decide) rfl ?_
          refine v_iincN (lv2 := [(3, .int (nI (0 + 1))), (2, .int (nI 1)), (0, .int (nI 6)), (1, .int (nI k))]) K 1 dX9_isUnder_35 rfl rfl (by decide) rfl ?_
          refine v_goto (tgt := 4) K dX9_isUnder_38 rfl ?_
          refine v_iload_n K dX9_isUnder_4 rfl ?_
          refine v_gets (j := 0) K (by decide) sX9_329 dX9_isUnder_5 ?_
          refine v_slen (j := 0) K (by decide) dX9_isUnder_8 ?_
          refine v_top (y := nI 7) rfl ?_
          refine v_icmpN_ge (tgt := 41) K (by omega) (by omega) dX9_isUnder_9 rfl (fun c55 => ?_) (fun c55 => ?_)
          · exact absurd c55 (by decide)
          · skip
            refine v_iload_n K dX9_isUnder_12 rfl ?_
            refine v_iconstN K 0 rfl dX9_isUnder_13 ?_
            refine v_bipushN K 6 rfl dX9_isUnder_14 ?_
            refine v_callS (As := [.int (nI 1), .int (nI 0), .int (nI 6)]) K (c_X9_within h (nI 1) (nI 0) (nI 6)) lX9_65 rfl ⟨by decide, by decide⟩ (Nat.le_of_ble_eq_true rfl) dX9_isUnder_16 (fun r21 h21 hp21 => ?_) rfl
            obtain ⟨rfl, rfl⟩ := hp21
            refine v_some ?_
            refine v_ifB_eq (tgt := 41) K dX9_isUnder_19 rfl (fun c56 => ?_) (fun c56 => ?_)
            · exact absurd (by decide) c56
            · skip
              refine v_iload_n K dX9_isUnder_22 rfl ?_
              refine v_iload_n K dX9_isUnder_23 rfl ?_
              refine v_icmpN_ne (tgt := 29) K (by omega) (by omega) dX9_isUnder_24 rfl (fun c57 => ?_) (fun c57 => ?_)
              · skip
                refine v_gets (j := 0) K (by decide) sX9_329 dX9_isUnder_29 ?_
                refine v_iload_n K dX9_isUnder_32 rfl ?_
                refine v_sald (j := 0) (x := nI 0) K (by decide) (by decide) (by decide) dX9_isUnder_33 ?_
                refine v_istore_n (lv2 := [(2, .int (nI 0)), (3, .int (nI (0 + 1))), (0, .int (nI 6)), (1, .int (nI k))]) K dX9_isUnder_34 (by decide) rfl ?_
                refine v_iincN (lv2 := [(3, .int (nI (0 + 1 + 1))), (2, .int (nI 0)), (0, .int (nI 6)), (1, .int (nI k))]) K 1 dX9_isUnder_35 rfl rfl (by decide) rfl ?_
                refine v_goto (tgt := 4) K dX9_isUnder_38 rfl ?_
                refine v_iload_n K dX9_isUnder_4 rfl ?_
                refine v_gets (j := 0) K (by decide) sX9_329 dX9_isUnder_5 ?_
                refine v_slen (j := 0) K (by decide) dX9_isUnder_8 ?_
                refine v_top (y := nI 7) rfl ?_
                refine v_icmpN_ge (tgt := 41) K (by omega) (by omega) dX9_isUnder_9 rfl (fun c58 => ?_) (fun c58 => ?_)
                · exact absurd c58 (by decide)
                · skip
                  refine v_iload_n K dX9_isUnder_12 rfl ?_
                  refine v_iconstN K 0 rfl dX9_isUnder_13 ?_
                  refine v_bipushN K 6 rfl dX9_isUnder_14 ?_
                  refine v_callS (As := [.int (nI 0), .int (nI 0), .int (nI 6)]) K (c_X9_within h (nI 0) (nI 0) (nI 6)) lX9_65 rfl ⟨by decide, by decide⟩ (Nat.le_of_ble_eq_true rfl) dX9_isUnder_16 (fun r22 h22 hp22 => ?_) rfl
                  obtain ⟨rfl, rfl⟩ := hp22
                  refine v_some ?_
                  refine v_ifB_eq (tgt := 41) K dX9_isUnder_19 rfl (fun c59 => ?_) (fun c59 => ?_)
                  · exact absurd (by decide) c59
                  · skip
                    refine v_iload_n K dX9_isUnder_22 rfl ?_
                    refine v_iload_n K dX9_isUnder_23 rfl ?_
                    refine v_icmpN_ne (tgt := 29) K (by omega) (by omega) dX9_isUnder_24 rfl (fun c60 => ?_) (fun c60 => ?_)
                    · skip
                      refine v_gets (j := 0) K (by decide) sX9_329 dX9_isUnder_29 ?_
                      refine v_iload_n K dX9_isUnder_32 rfl ?_
                      refine v_sald (j := 0) (x := (-1)) K (by decide) (by decide) (by decide) dX9_isUnder_33 ?_
                      refine v_istore_n (lv2 := [(2, .int ((-1))), (3, .int (nI (0 + 1 + 1))), (0, .int (nI 6)), (1, .int (nI k))]) K dX9_isUnder_34 (by decide) rfl ?_
                      refine v_iincN (lv2 := [(3, .int (nI (0 + 1 + 1 + 1))), (2, .int ((-1))), (0, .int (nI 6)), (1, .int (nI k))]) K 1 dX9_isUnder_35 rfl rfl (by decide) rfl ?_
                      refine v_goto (tgt := 4) K dX9_isUnder_38 rfl ?_
                      refine v_iload_n K dX9_isUnder_4 rfl ?_
                      refine v_gets (j := 0) K (by decide) sX9_329 dX9_isUnder_5 ?_
                      refine v_slen (j := 0) K (by decide) dX9_isUnder_8 ?_
                      refine v_top (y := nI 7) rfl ?_
                      refine v_icmpN_ge (tgt := 41) K (by omega) (by omega) dX9_isUnder_9 rfl (fun c61 => ?_) (fun c61 => ?_)
                      · exact absurd c61 (by decide)
                      · skip
                        refine v_iload_n K dX9_isUnder_12 rfl ?_
                        refine v_iconstN K 0 rfl dX9_isUnder_13 ?_
                        refine v_bipushN K 6 rfl dX9_isUnder_14 ?_
                        refine v_callS (As := [.int ((-1)), .int (nI 0), .int (nI 6)]) K (c_X9_within h ((-1)) (nI 0) (nI 6)) lX9_65 rfl ⟨by decide, by decide⟩ (Nat.le_of_ble_eq_true rfl) dX9_isUnder_16 (fun r23 h23 hp23 => ?_) rfl
                        obtain ⟨rfl, rfl⟩ := hp23
                        refine v_some ?_
                        refine v_ifB_eq (tgt := 41) K dX9_isUnder_19 rfl (fun c62 => ?_) (fun c62 => ?_)
                        · skip
                          refine v_iconstN K 0 rfl dX9_isUnder_41 ?_
                          refine v_zret K dX9_isUnder_42 (by decide) ?_
                          refine ⟨some_int ?_, rfl⟩
                          first | (rw [b2i_t (by unfold underP; omega)]; rfl) | (rw [b2i_f (by unfold underP; omega)]; rfl)
                        · exact absurd c62 (by decide)
                    · skip
                      refine v_iconstN K 1 rfl dX9_isUnder_27 ?_
                      refine v_zret K dX9_isUnder_28 (by decide) ?_
                      refine ⟨some_int ?_, rfl⟩
                      first | (rw [b2i_t (by unfold underP; omega)]; rfl) | (rw [b2i_f (by unfold underP; omega)]; rfl)
              · skip
                refine v_iconstN K 1 rfl dX9_isUnder_27 ?_
                refine v_zret K dX9_isUnder_28 (by decide) ?_
                refine ⟨some_int ?_, rfl⟩
                first | (rw [b2i_t (by unfold underP; omega)]; rfl) | (rw [b2i_f (by unfold underP; omega)]; rfl)
        · skip
          refine v_iconstN K 1 rfl dX9_isUnder_27 ?_
          refine v_zret K dX9_isUnder_28 (by decide) ?_
          refine ⟨some_int ?_, rfl⟩
          first | (rw [b2i_t (by unfold underP; omega)]; rfl) | (rw [b2i_f (by unfold underP; omega)]; rfl)

abbrev P_X9_commonDivisor (h : Mm) (a b : Nat) : Option Value → Mm → Prop := fun r h2 => r = some (.int (nI (Nat.gcd a b))) ∧ h = h2
theorem c_X9_commonDivisor {l : Launch} (h : Mm) (a b : Nat) (ha : a ≤ 9) (hb : 1 ≤ b ∧ b ≤ 9) : Con l yX9_commonDivisor cX9_commonDivisor 6 (some .int) 0 0 132 GL h [.int (nI a), .int (nI b)] (P_X9_commonDivisor h a b) := by
  refine Con.ofV (own := "FoxRounds") (nm := "commonDivisor") rfl rfl (by decide) (Nat.le_of_ble_eq_true rfl) ?_
  intro κ ρ hkl K
  subst hkl
  show V κ (QM κ (132, ρ, GL, 0, 0) (P_X9_commonDivisor h a b)) 6 (132, ρ, GL, 0, 0) h 0 [(0, .int (nI a)), (1, .int (nI b))] []
  refine v_iload_n K dX9_commonDivisor_0 rfl ?_
  refine v_istore_n (lv2 := [(2, .int (nI a)), (0, .int (nI a)), (1, .int (nI b))]) K dX9_commonDivisor_1 (by decide) rfl ?_
  refine v_iload_n K dX9_commonDivisor_2 rfl ?_
  refine v_istore_n (lv2 := [(3, .int (nI b)), (2, .int (nI a)), (0, .int (nI a)), (1, .int (nI b))]) K dX9_commonDivisor_3 (by decide) rfl ?_
  refine v_iconstN K 0 rfl dX9_commonDivisor_4 ?_
  refine v_istore (lv2 := [(4, .int (nI 0)), (3, .int (nI b)), (2, .int (nI a)), (0, .int (nI a)), (1, .int (nI b))]) K dX9_commonDivisor_5 (by decide) rfl ?_
  have L7 : ∀ (mm : Nat) (x : Nat) (y : Nat) (i : Nat) (hx : x + i ≤ 9) (hy : y ≤ 9) (hg : Nat.gcd x y = Nat.gcd a b), 32 - i < mm → V κ (QM κ (132, ρ, GL, 0, 0) (P_X9_commonDivisor h a b)) 6 (132, ρ, GL, 0, 0) h 7 [(2, .int (nI x)), (3, .int (nI y)), (4, .int (nI i))] [] := by
    intro mm
    induction mm with
    | zero => intro x y i hx hy hg hmm; exact absurd hmm (Nat.not_lt_zero _)
    | succ mm ih7 =>
      intro x y i hx hy hg hmm
      refine v_iload K dX9_commonDivisor_7 rfl ?_
      refine v_bipushN K 32 rfl dX9_commonDivisor_9 ?_
      refine v_icmpN_ge (tgt := 34) K (by omega) (by omega) dX9_commonDivisor_11 rfl (fun c1 => ?_) (fun c1 => ?_)
      · skip
        exfalso; omega
      · skip
        refine v_iload_n K dX9_commonDivisor_14 rfl ?_
        refine v_ifN_eq (tgt := 34) K (by omega) dX9_commonDivisor_15 rfl (fun c2 => ?_) (fun c2 => ?_)
        · skip
          refine v_iload_n K dX9_commonDivisor_34 rfl ?_
          refine v_iret K dX9_commonDivisor_35 ?_
          refine ⟨some_int ?_, rfl⟩
          subst c2
          rw [Nat.gcd_zero_left] at hg
          exact congrArg nI hg
        · skip
          refine v_iload_n K dX9_commonDivisor_18 rfl ?_
          refine v_iload_n K dX9_commonDivisor_19 rfl ?_
          refine v_iremN K (by omega) (by omega) (by omega) dX9_commonDivisor_20 ?_
          refine v_istore (lv2 := [(5, .int (nI (y % x))), (2, .int (nI x)), (3, .int (nI y)), (4, .int (nI i))]) K dX9_commonDivisor_21 (by decide) rfl ?_
          refine v_iload_n K dX9_commonDivisor_23 rfl ?_
          refine v_istore_n (lv2 := [(3, .int (nI x)), (5, .int (nI (y % x))), (2, .int (nI x)), (4, .int (nI i))]) K dX9_commonDivisor_24 (by decide) rfl ?_
          refine v_iload K dX9_commonDivisor_25 rfl ?_
          refine v_istore_n (lv2 := [(2, .int (nI (y % x))), (3, .int (nI x)), (5, .int (nI (y % x))), (4, .int (nI i))]) K dX9_commonDivisor_27 (by decide) rfl ?_
          refine v_iincN (lv2 := [(4, .int (nI (i + 1))), (2, .int (nI (y % x))), (3, .int (nI x)), (5, .int (nI (y % x)))]) K 1 dX9_commonDivisor_28 rfl rfl (by decide) rfl ?_
          refine v_goto (tgt := 7) K dX9_commonDivisor_31 rfl ?_
          refine v_sub (lv2 := [(2, .int (nI (y % x))), (3, .int (nI x)), (4, .int (nI (i + 1)))]) (by simp) ?_
          exact ih7 (y % x) x (i + 1) (by have := Nat.mod_lt y c2; omega) (by first | assumption | omega | rfl) (by rw [← Nat.gcd_rec]; exact hg) (by omega)
  refine v_sub (lv2 := [(2, .int (nI a)), (3, .int (nI b)), (4, .int (nI 0))]) (by simp) ?_
  exact L7 (32 - 0 + 1) a b 0 (by omega) (by first | assumption | omega | rfl) (by rfl) (Nat.lt_succ_self _)

abbrev P_X9_power (h : Mm) (b : Int32) (n : Nat) : Option Value → Mm → Prop := fun r h2 => r = some (.long (powL b.toInt64 n)) ∧ h = h2
theorem c_X9_power {l : Launch} (h : Mm) (b : Int32) (n : Nat) (hn : n ≤ 12) : Con l yX9_power cX9_power 5 (some .long) 0 0 132 GL h [.int b, .int (nI n)] (P_X9_power h b n) := by
  refine Con.ofV (own := "FoxRounds") (nm := "power") rfl rfl (by decide) (Nat.le_of_ble_eq_true rfl) ?_
  intro κ ρ hkl K
  subst hkl
  show V κ (QM κ (132, ρ, GL, 0, 0) (P_X9_power h b n)) 5 (132, ρ, GL, 0, 0) h 0 [(0, .int b), (1, .int (nI n))] []
  refine v_lconst (v := (nI 1).toInt64) K dX9_power_0 (by decide) ?_
  refine v_lstore_n (lv2 := [(2, .long (nI 1).toInt64), (0, .int b), (1, .int (nI n))]) K dX9_power_1 (by decide) rfl ?_
  refine v_iconstN K 0 rfl dX9_power_2 ?_
  refine v_istore (lv2 := [(4, .int (nI 0)), (2, .long (nI 1).toInt64), (0, .int b), (1, .int (nI n))]) K dX9_power_3 (by decide) rfl ?_
  have L5 : ∀ (mm : Nat) (p : Int64) (i : Nat) (hi : i ≤ n) (hp : p = powL b.toInt64 i), 13 - i < mm → V κ (QM κ (132, ρ, GL, 0, 0) (P_X9_power h b n)) 5 (132, ρ, GL, 0, 0) h 5 [(0, .int b), (1, .int (nI n)), (2, .long p), (4, .int (nI i))] [] := by
    intro mm
    induction mm with
    | zero => intro p i hi hp hmm; exact absurd hmm (Nat.not_lt_zero _)
    | succ mm ih5 =>
      intro p i hi hp hmm
      refine v_iload K dX9_power_5 rfl ?_
      refine v_iload_n K dX9_power_7 rfl ?_
      refine v_icmpN_ge (tgt := 22) K (by omega) (by omega) dX9_power_8 rfl (fun c1 => ?_) (fun c1 => ?_)
      · skip
        refine v_lload_n K dX9_power_22 rfl ?_
        refine v_lret K dX9_power_23 ?_
        have e : i = n := by omega
        subst e
        exact ⟨by rw [hp], rfl⟩
      · skip
        refine v_lload_n K dX9_power_11 rfl ?_
        refine v_iload_n K dX9_power_12 rfl ?_
        refine v_i2l K dX9_power_13 rfl ?_
        refine v_lmul K dX9_power_14 ?_
        refine v_lstore_n (lv2 := [(2, .long (p * b.toInt64)), (0, .int b), (1, .int (nI n)), (4, .int (nI i))]) K dX9_power_15 (by decide) rfl ?_
        refine v_iincN (lv2 := [(4, .int (nI (i + 1))), (2, .long (p * b.toInt64)), (0, .int b), (1, .int (nI n))]) K 1 dX9_power_16 rfl rfl (by decide) rfl ?_
        refine v_goto (tgt := 5) K dX9_power_19 rfl ?_
        refine v_sub (lv2 := [(0, .int b), (1, .int (nI n)), (2, .long (p * b.toInt64)), (4, .int (nI (i + 1)))]) (by simp) ?_
        exact ih5 (p * b.toInt64) (i + 1) (by first | assumption | omega | rfl) (by rw [hp]; rfl) (by omega)
  refine v_sub (lv2 := [(0, .int b), (1, .int (nI n)), (2, .long (nI 1).toInt64), (4, .int (nI 0))]) (by simp) ?_
  exact L5 (13 - 0 + 1) ((nI 1).toInt64) 0 (by first | assumption | omega | rfl) (by rfl) (Nat.lt_succ_self _)

abbrev P_X10_in (h : Mm) (v lo hi : Int32) : Option Value → Mm → Prop := fun r h2 => r = some (.int (b2i (lo ≤ v ∧ v ≤ hi))) ∧ h = h2
theorem c_X10_in {l : Launch} (h : Mm) (v lo hi : Int32)  : Con l yX10_in cX10_in 6 (some .boolean) 0 0 132 GL h [.long v.toInt64, .long lo.toInt64, .long hi.toInt64] (P_X10_in h v lo hi) := by
  refine Con.ofV (own := "FoxRoundsModel") (nm := "in") rfl rfl (by decide) (Nat.le_of_ble_eq_true rfl) ?_
  intro κ ρ hkl K
  subst hkl
  show V κ (QM κ (132, ρ, GL, 0, 0) (P_X10_in h v lo hi)) 6 (132, ρ, GL, 0, 0) h 0 [(0, .long v.toInt64), (2, .long lo.toInt64), (4, .long hi.toInt64)] []
  refine v_lload_n K dX10_in_0 rfl ?_
  refine v_lload_n K dX10_in_1 rfl ?_
  refine v_lcmp K dX10_in_2 ?_
  refine v_if_lt (tgt := 17) K dX10_in_3 rfl (fun c1 => ?_) (fun c1 => ?_)
  · skip
    refine v_iconstN K 0 rfl dX10_in_17 ?_
    refine v_zret K dX10_in_18 (by decide) ?_
    simp only [lg_lt, lg_gt, w_lt] at *
    refine ⟨some_int ?_, rfl⟩
    first | (rw [b2i_t (by simp only [i32_lt, i32_le, not_and] at *; omega)]; rfl) | (rw [b2i_f (by simp only [i32_lt, i32_le, not_and] at *; omega)]; rfl)
  · skip
    refine v_lload_n K dX10_in_6 rfl ?_
    refine v_lload K dX10_in_7 rfl ?_
    refine v_lcmp K dX10_in_9 ?_
    refine v_if_gt (tgt := 17) K dX10_in_10 rfl (fun c2 => ?_) (fun c2 => ?_)
    · skip
      refine v_iconstN K 0 rfl dX10_in_17 ?_
      refine v_zret K dX10_in_18 (by decide) ?_
      simp only [lg_lt, lg_gt, w_lt] at *
      refine ⟨some_int ?_, rfl⟩
      first | (rw [b2i_t (by simp only [i32_lt, i32_le, not_and] at *; omega)]; rfl) | (rw [b2i_f (by simp only [i32_lt, i32_le, not_and] at *; omega)]; rfl)
    · skip
      refine v_iconstN K 1 rfl dX10_in_13 ?_
      refine v_goto (tgt := 18) K dX10_in_14 rfl ?_
      refine v_zret K dX10_in_18 (by decide) ?_
      simp only [lg_lt, lg_gt, w_lt] at *
      refine ⟨some_int ?_, rfl⟩
      first | (rw [b2i_t (by simp only [i32_lt, i32_le, not_and] at *; omega)]; rfl) | (rw [b2i_f (by simp only [i32_lt, i32_le, not_and] at *; omega)]; rfl)

abbrev P_X10_held (h : Mm) (v lo hi : Int32) : Option Value → Mm → Prop := fun r h2 => r = some (.int (heldM v lo hi)) ∧ h = h2
theorem c_X10_held {l : Launch} (h : Mm) (v lo hi : Int32)  : Con l yX10_held cX10_held 3 (some .int) 0 0 132 GL h [.int v, .int lo, .int hi] (P_X10_held h v lo hi) := by
  refine Con.ofV (own := "FoxRoundsModel") (nm := "held") rfl rfl (by decide) (Nat.le_of_ble_eq_true rfl) ?_
  intro κ ρ hkl K
  subst hkl
  show V κ (QM κ (132, ρ, GL, 0, 0) (P_X10_held h v lo hi)) 3 (132, ρ, GL, 0, 0) h 0 [(0, .int v), (1, .int lo), (2, .int hi)] []
  refine v_iload_n K dX10_held_0 rfl ?_
  refine v_iload_n K dX10_held_1 rfl ?_
  refine v_icmp_ge (tgt := 9) K dX10_held_2 rfl (fun c1 => ?_) (fun c1 => ?_)
  · skip
    refine v_iload_n K dX10_held_9 rfl ?_
    refine v_iload_n K dX10_held_10 rfl ?_
    refine v_icmp_le (tgt := 18) K dX10_held_11 rfl (fun c2 => ?_) (fun c2 => ?_)
    · skip
      refine v_iload_n K dX10_held_18 rfl ?_
      refine v_iret K dX10_held_19 ?_
      refine ⟨some_int ?_, rfl⟩
      unfold heldM; simp only [*, if_true, if_false]
    · skip
      refine v_iload_n K dX10_held_14 rfl ?_
      refine v_goto (tgt := 19) K dX10_held_15 rfl ?_
      refine v_iret K dX10_held_19 ?_
      refine ⟨some_int ?_, rfl⟩
      unfold heldM; simp only [*, if_true, if_false]
  · skip
    refine v_iload_n K dX10_held_5 rfl ?_
    refine v_goto (tgt := 19) K dX10_held_6 rfl ?_
    refine v_iret K dX10_held_19 ?_
    refine ⟨some_int ?_, rfl⟩
    unfold heldM; simp only [*, if_true, if_false]

abbrev P_X10_of (h : Mm) (P w k : Nat) : Option Value → Mm → Prop := fun r h2 => r = some (.int (h P (46 + 6 * w + k))) ∧ h = h2
theorem c_X10_of {l : Launch} (h : Mm) (P w k : Nat) (hm : mP P) (hk : 46 + 6 * w + k < 340) : Con l yX10_of cX10_of 3 (some .int) 0 0 132 GL h [.ref P, .int (nI w), .int (nI k)] (P_X10_of h P w k) := by
  refine Con.ofV (own := "FoxRoundsModel") (nm := "of") rfl rfl (by decide) (Nat.le_of_ble_eq_true rfl) ?_
  intro κ ρ hkl K
  subst hkl
  show V κ (QM κ (132, ρ, GL, 0, 0) (P_X10_of h P w k)) 3 (132, ρ, GL, 0, 0) h 0 [(0, .ref P), (1, .int (nI w)), (2, .int (nI k))] []
  refine v_aload_n K dX10_of_0 rfl ?_
  refine v_bipushN K 46 rfl dX10_of_1 ?_
  refine v_bipushN K 6 rfl dX10_of_3 ?_
  refine v_iload_n K dX10_of_5 rfl ?_
  refine v_imulN K dX10_of_6 ?_
  refine v_iaddN K dX10_of_7 ?_
  refine v_iload_n K dX10_of_8 rfl ?_
  refine v_iaddN K dX10_of_9 ?_
  refine v_iald (x := h P (46 + (6 * w) + k)) K hm.s hm.l (by omega) rfl dX10_of_10 ?_
  refine v_iret K dX10_of_11 ?_
  exact ⟨rfl, rfl⟩

abbrev P_X10_isSheet (h : Mm) (v : Int32) : Option Value → Mm → Prop := fun r h2 => r = some (.int (b2i (ix v 4))) ∧ h = h2
theorem c_X10_isSheet {l : Launch} (h : Mm) (v : Int32)  : Con l yX10_isSheet cX10_isSheet 1 (some .boolean) 1 25 132 GL h [.int v] (P_X10_isSheet h v) := by
  refine Con.ofV (own := "FoxRoundsModel") (nm := "isSheet") rfl rfl (by decide) (Nat.le_of_ble_eq_true rfl) ?_
  intro κ ρ hkl K
  subst hkl
  show V κ (QM κ (132, ρ, GL, 0, 0) (P_X10_isSheet h v)) 1 (132, ρ, GL, 0, 0) h 0 [(0, .int v)] []
  refine v_iload_n K dX10_isSheet_0 rfl ?_
  refine v_i2l K dX10_isSheet_1 rfl ?_
  refine v_lconst (v := (nI 0).toInt64) K dX10_isSheet_2 (by decide) ?_
  refine v_ldc2 K kX10_295 dX10_isSheet_3 ?_
  refine v_topL (y := (nI 3).toInt64) (by decide) ?_
  refine v_callS (As := [.long v.toInt64, .long (nI 0).toInt64, .long (nI 3).toInt64]) K (c_X10_in h v (nI 0) (nI 3)) lX10_51 rfl ⟨by decide, by decide⟩ (Nat.le_of_ble_eq_true rfl) dX10_isSheet_6 (fun r1 h1 hp1 => ?_) rfl
  obtain ⟨rfl, rfl⟩ := hp1
  refine v_some ?_
  refine v_zret K dX10_isSheet_9 (b2i_01 _) ?_
  refine ⟨some_int ?_, rfl⟩
  exact b2i_e (ix_rng (by decide))

abbrev P_X10_isAhead (h : Mm) (v : Int32) : Option Value → Mm → Prop := fun r h2 => r = some (.int (b2i (ix v 61))) ∧ h = h2
theorem c_X10_isAhead {l : Launch} (h : Mm) (v : Int32)  : Con l yX10_isAhead cX10_isAhead 1 (some .boolean) 1 25 132 GL h [.int v] (P_X10_isAhead h v) := by
  refine Con.ofV (own := "FoxRoundsModel") (nm := "isAhead") rfl rfl (by decide) (Nat.le_of_ble_eq_true rfl) ?_
  intro κ ρ hkl K
  subst hkl
  show V κ (QM κ (132, ρ, GL, 0, 0) (P_X10_isAhead h v)) 1 (132, ρ, GL, 0, 0) h 0 [(0, .int v)] []
  refine v_iload_n K dX10_isAhead_0 rfl ?_
  refine v_i2l K dX10_isAhead_1 rfl ?_
  refine v_lconst (v := (nI 0).toInt64) K dX10_isAhead_2 (by decide) ?_
  refine v_ldc2 K kX10_145 dX10_isAhead_3 ?_
  refine v_topL (y := (nI 60).toInt64) (by decide) ?_
  refine v_callS (As := [.long v.toInt64, .long (nI 0).toInt64, .long (nI 60).toInt64]) K (c_X10_in h v (nI 0) (nI 60)) lX10_51 rfl ⟨by decide, by decide⟩ (Nat.le_of_ble_eq_true rfl) dX10_isAhead_6 (fun r1 h1 hp1 => ?_) rfl
  obtain ⟨rfl, rfl⟩ := hp1
  refine v_some ?_
  refine v_zret K dX10_isAhead_9 (b2i_01 _) ?_
  refine ⟨some_int ?_, rfl⟩
  exact b2i_e (ix_rng (by decide))

abbrev P_X10_isWay (h : Mm) (v : Int32) (n : Nat) : Option Value → Mm → Prop := fun r h2 => r = some (.int (b2i (ix v n))) ∧ h = h2
theorem c_X10_isWay {l : Launch} (h : Mm) (v : Int32) (n : Nat) (hn : h 119 10 = nI n) (hb : n ≤ 8) : Con l yX10_isWay cX10_isWay 2 (some .boolean) 1 25 132 GL h [.ref 118, .int v] (P_X10_isWay h v n) := by
  refine Con.ofV (own := "FoxRoundsModel") (nm := "isWay") rfl rfl (by decide) (Nat.le_of_ble_eq_true rfl) ?_
  intro κ ρ hkl K
  subst hkl
  show V κ (QM κ (132, ρ, GL, 0, 0) (P_X10_isWay h v n)) 2 (132, ρ, GL, 0, 0) h 0 [(0, .ref 118), (1, .int v)] []
  refine v_iload_n K dX10_isWay_0 rfl ?_
  refine v_i2l K dX10_isWay_1 rfl ?_
  refine v_lconst (v := (nI 0).toInt64) K dX10_isWay_2 (by decide) ?_
  refine v_aload_n K dX10_isWay_3 rfl ?_
  refine v_getr (q := 119) K fX10_7 sh_118 pl_118 gl_118_0 dX10_isWay_4 ?_
  refine v_bipushN K 10 rfl dX10_isWay_7 ?_
  refine v_iald (x := nI n) K sh_119 pl_119 (by omega) hn dX10_isWay_9 ?_
  refine v_iconstN K 1 rfl dX10_isWay_10 ?_
  refine v_isub K dX10_isWay_11 ?_
  refine v_i2l K dX10_isWay_12 rfl ?_
  refine v_callS (As := [.long v.toInt64, .long (nI 0).toInt64, .long ((nI n) - (nI 1)).toInt64]) K (c_X10_in h v (nI 0) ((nI n) - (nI 1))) lX10_51 rfl ⟨by decide, by decide⟩ (Nat.le_of_ble_eq_true rfl) dX10_isWay_13 (fun r1 h1 hp1 => ?_) rfl
  obtain ⟨rfl, rfl⟩ := hp1
  refine v_some ?_
  refine v_zret K dX10_isWay_16 (b2i_01 _) ?_
  exact ⟨some_int (b2i_e (ix_rng1 (by omega))), rfl⟩

abbrev P_X10_isThing (h : Mm) (v : Int32) (n : Nat) : Option Value → Mm → Prop := fun r h2 => r = some (.int (b2i (ix v n))) ∧ h = h2
theorem c_X10_isThing {l : Launch} (h : Mm) (v : Int32) (n : Nat) (hn : h 119 11 = nI n) (hb : n ≤ 5) : Con l yX10_isThing cX10_isThing 2 (some .boolean) 1 25 132 GL h [.ref 118, .int v] (P_X10_isThing h v n) := by
  refine Con.ofV (own := "FoxRoundsModel") (nm := "isThing") rfl rfl (by decide) (Nat.le_of_ble_eq_true rfl) ?_
  intro κ ρ hkl K
  subst hkl
  show V κ (QM κ (132, ρ, GL, 0, 0) (P_X10_isThing h v n)) 2 (132, ρ, GL, 0, 0) h 0 [(0, .ref 118), (1, .int v)] []
  refine v_iload_n K dX10_isThing_0 rfl ?_
  refine v_i2l K dX10_isThing_1 rfl ?_
  refine v_lconst (v := (nI 0).toInt64) K dX10_isThing_2 (by decide) ?_
  refine v_aload_n K dX10_isThing_3 rfl ?_
  refine v_getr (q := 119) K fX10_7 sh_118 pl_118 gl_118_0 dX10_isThing_4 ?_
  refine v_bipushN K 11 rfl dX10_isThing_7 ?_
  refine v_iald (x := nI n) K sh_119 pl_119 (by omega) hn dX10_isThing_9 ?_
  refine v_iconstN K 1 rfl dX10_isThing_10 ?_
  refine v_isub K dX10_isThing_11 ?_
  refine v_i2l K dX10_isThing_12 rfl ?_
  refine v_callS (As := [.long v.toInt64, .long (nI 0).toInt64, .long ((nI n) - (nI 1)).toInt64]) K (c_X10_in h v (nI 0) ((nI n) - (nI 1))) lX10_51 rfl ⟨by decide, by decide⟩ (Nat.le_of_ble_eq_true rfl) dX10_isThing_13 (fun r1 h1 hp1 => ?_) rfl
  obtain ⟨rfl, rfl⟩ := hp1
  refine v_some ?_
  refine v_zret K dX10_isThing_16 (b2i_01 _) ?_
  exact ⟨some_int (b2i_e (ix_rng1 (by omega))), rfl⟩

abbrev P_X10_isRight (h : Mm) (k sm c : Int32) : Option Value → Mm → Prop := fun r h2 => r = some (.int (b2i (isWayP k sm c))) ∧ h = h2
theorem c_X10_isRight {l : Launch} (h : Mm) (k sm c : Int32)  : Con l yX10_isRight cX10_isRight 3 (some .boolean) 1 25 132 GL h [.int k, .int sm, .int c] (P_X10_isRight h k sm c) := by
  refine Con.ofV (own := "FoxRoundsModel") (nm := "isRight") rfl rfl (by decide) (Nat.le_of_ble_eq_true rfl) ?_
  intro κ ρ hkl K
  subst hkl
  show V κ (QM κ (132, ρ, GL, 0, 0) (P_X10_isRight h k sm c)) 3 (132, ρ, GL, 0, 0) h 0 [(0, .int k), (1, .int sm), (2, .int c)] []
  refine v_iload_n K dX10_isRight_0 rfl ?_
  refine v_i2l K dX10_isRight_1 rfl ?_
  refine v_lconst (v := (nI 0).toInt64) K dX10_isRight_2 (by decide) ?_
  refine v_ldc2 K kX10_159 dX10_isRight_3 ?_
  refine v_topL (y := (nI 6).toInt64) (by decide) ?_
  refine v_callS (As := [.long k.toInt64, .long (nI 0).toInt64, .long (nI 6).toInt64]) K (c_X10_in h k (nI 0) (nI 6)) lX10_51 rfl ⟨by decide, by decide⟩ (Nat.le_of_ble_eq_true rfl) dX10_isRight_6 (fun r1 h1 hp1 => ?_) rfl
  obtain ⟨rfl, rfl⟩ := hp1
  refine v_some ?_
  refine v_ifB_eq (tgt := 40) K dX10_isRight_9 rfl (fun c1 => ?_) (fun c1 => ?_)
  · skip
    refine v_iconstN K 0 rfl dX10_isRight_40 ?_
    refine v_zret K dX10_isRight_41 (by decide) ?_
    refine ⟨some_int ?_, rfl⟩
    first | (rw [b2i_t (by unfold isWayP; simp only [i32_lt, i32_le, not_and] at *; omega)]; rfl) | (rw [b2i_f (by unfold isWayP; simp only [i32_lt, i32_le, not_and] at *; omega)]; rfl)
  · skip
    refine v_iload_n K dX10_isRight_12 rfl ?_
    refine v_i2l K dX10_isRight_13 rfl ?_
    refine v_lconst (v := (nI 0).toInt64) K dX10_isRight_14 (by decide) ?_
    refine v_ldc2 K kX10_161 dX10_isRight_15 ?_
    refine v_topL (y := (nI 9999).toInt64) (by decide) ?_
    refine v_callS (As := [.long sm.toInt64, .long (nI 0).toInt64, .long (nI 9999).toInt64]) K (c_X10_in h sm (nI 0) (nI 9999)) lX10_51 rfl ⟨by decide, by decide⟩ (Nat.le_of_ble_eq_true rfl) dX10_isRight_18 (fun r2 h2 hp2 => ?_) rfl
    obtain ⟨rfl, rfl⟩ := hp2
    refine v_some ?_
    refine v_ifB_eq (tgt := 40) K dX10_isRight_21 rfl (fun c2 => ?_) (fun c2 => ?_)
    · skip
      refine v_iconstN K 0 rfl dX10_isRight_40 ?_
      refine v_zret K dX10_isRight_41 (by decide) ?_
      refine ⟨some_int ?_, rfl⟩
      first | (rw [b2i_t (by unfold isWayP; simp only [i32_lt, i32_le, not_and] at *; omega)]; rfl) | (rw [b2i_f (by unfold isWayP; simp only [i32_lt, i32_le, not_and] at *; omega)]; rfl)
    · skip
      refine v_iload_n K dX10_isRight_24 rfl ?_
      refine v_i2l K dX10_isRight_25 rfl ?_
      refine v_lconst (v := (nI 0).toInt64) K dX10_isRight_26 (by decide) ?_
      refine v_ldc2 K kX10_141 dX10_isRight_27 ?_
      refine v_topL (y := (nI 99).toInt64) (by decide) ?_
      refine v_callS (As := [.long c.toInt64, .long (nI 0).toInt64, .long (nI 99).toInt64]) K (c_X10_in h c (nI 0) (nI 99)) lX10_51 rfl ⟨by decide, by decide⟩ (Nat.le_of_ble_eq_true rfl) dX10_isRight_30 (fun r3 h3 hp3 => ?_) rfl
      obtain ⟨rfl, rfl⟩ := hp3
      refine v_some ?_
      refine v_ifB_eq (tgt := 40) K dX10_isRight_33 rfl (fun c3 => ?_) (fun c3 => ?_)
      · skip
        refine v_iconstN K 0 rfl dX10_isRight_40 ?_
        refine v_zret K dX10_isRight_41 (by decide) ?_
        refine ⟨some_int ?_, rfl⟩
        first | (rw [b2i_t (by unfold isWayP; simp only [i32_lt, i32_le, not_and] at *; omega)]; rfl) | (rw [b2i_f (by unfold isWayP; simp only [i32_lt, i32_le, not_and] at *; omega)]; rfl)
      · skip
        refine v_iconstN K 1 rfl dX10_isRight_36 ?_
        refine v_goto (tgt := 41) K dX10_isRight_37 rfl ?_
        refine v_zret K dX10_isRight_41 (by decide) ?_
        refine ⟨some_int ?_, rfl⟩
        first | (rw [b2i_t (by unfold isWayP; simp only [i32_lt, i32_le, not_and] at *; omega)]; rfl) | (rw [b2i_f (by unfold isWayP; simp only [i32_lt, i32_le, not_and] at *; omega)]; rfl)

abbrev P_X10_isOf (h : Mm) (o k : Nat) : Option Value → Mm → Prop := fun r h2 => r = some (.int (b2i (underP o k))) ∧ h = h2
theorem c_X10_isOf {l : Launch} (h : Mm) (o k : Nat) (ho : o < 7) (hk : k < 7) : Con l yX10_isOf cX10_isOf 2 (some .boolean) 0 0 132 GL h [.int (nI o), .int (nI k)] (P_X10_isOf h o k) := by
  refine Con.ofV (own := "FoxRoundsModel") (nm := "isOf") rfl rfl (by decide) (Nat.le_of_ble_eq_true rfl) ?_
  intro κ ρ hkl K
  subst hkl
  show V κ (QM κ (132, ρ, GL, 0, 0) (P_X10_isOf h o k)) 2 (132, ρ, GL, 0, 0) h 0 [(0, .int (nI o)), (1, .int (nI k))] []
  refine v_iload_n K dX10_isOf_0 rfl ?_
  refine v_ifN_eq (tgt := 40) K (by omega) dX10_isOf_1 rfl (fun c1 => ?_) (fun c1 => ?_)
  · skip
    refine v_iconstN K 1 rfl dX10_isOf_40 ?_
    refine v_goto (tgt := 45) K dX10_isOf_41 rfl ?_
    refine v_zret K dX10_isOf_45 (by decide) ?_
    refine ⟨some_int ?_, rfl⟩
    first | (rw [b2i_t (by unfold underP; omega)]; rfl) | (rw [b2i_f (by unfold underP; omega)]; rfl)
  · skip
    refine v_iload_n K dX10_isOf_4 rfl ?_
    refine v_iload_n K dX10_isOf_5 rfl ?_
    refine v_icmpN_eq (tgt := 40) K (by omega) (by omega) dX10_isOf_6 rfl (fun c2 => ?_) (fun c2 => ?_)
    · skip
      refine v_iconstN K 1 rfl dX10_isOf_40 ?_
      refine v_goto (tgt := 45) K dX10_isOf_41 rfl ?_
      refine v_zret K dX10_isOf_45 (by decide) ?_
      refine ⟨some_int ?_, rfl⟩
      first | (rw [b2i_t (by unfold underP; omega)]; rfl) | (rw [b2i_f (by unfold underP; omega)]; rfl)
    · skip
      refine v_iload_n K dX10_isOf_9 rfl ?_
      refine v_iconstN K 2 rfl dX10_isOf_10 ?_
      refine v_icmpN_ne (tgt := 19) K (by omega) (by omega) dX10_isOf_11 rfl (fun c3 => ?_) (fun c3 => ?_)
      · skip
        refine v_iload_n K dX10_isOf_19 rfl ?_
        refine v_iconstN K 3 rfl dX10_isOf_20 ?_
        refine v_icmpN_ne (tgt := 29) K (by omega) (by omega) dX10_isOf_21 rfl (fun c4 => ?_) (fun c4 => ?_)
        · skip
          refine v_iload_n K dX10_isOf_29 rfl ?_
          refine v_iconstN K 1 rfl dX10_isOf_30 ?_
          refine v_icmpN_ne (tgt := 44) K (by omega) (by omega) dX10_isOf_31 rfl (fun c5 => ?_) (fun c5 => ?_)
          · skip
            refine v_iconstN K 0 rfl dX10_isOf_44 ?_
            refine v_zret K dX10_isOf_45 (by decide) ?_
            refine ⟨some_int ?_, rfl⟩
            first | (rw [b2i_t (by unfold underP; omega)]; rfl) | (rw [b2i_f (by unfold underP; omega)]; rfl)
          · skip
            refine v_iload_n K dX10_isOf_34 rfl ?_
            refine v_bipushN K 6 rfl dX10_isOf_35 ?_
            refine v_icmpN_ne (tgt := 44) K (by omega) (by omega) dX10_isOf_37 rfl (fun c6 => ?_) (fun c6 => ?_)
            · skip
              refine v_iconstN K 0 rfl dX10_isOf_44 ?_
              refine v_zret K dX10_isOf_45 (by decide) ?_
              refine ⟨some_int ?_, rfl⟩
              first | (rw [b2i_t (by unfold underP; omega)]; rfl) | (rw [b2i_f (by unfold underP; omega)]; rfl)
            · skip
              refine v_iconstN K 1 rfl dX10_isOf_40 ?_
              refine v_goto (tgt := 45) K dX10_isOf_41 rfl ?_
              refine v_zret K dX10_isOf_45 (by decide) ?_
              refine ⟨some_int ?_, rfl⟩
              first | (rw [b2i_t (by unfold underP; omega)]; rfl) | (rw [b2i_f (by unfold underP; omega)]; rfl)
        · skip
          refine v_iload_n K dX10_isOf_24 rfl ?_
          refine v_iconstN K 5 rfl dX10_isOf_25 ?_
          refine v_icmpN_eq (tgt := 40) K (by omega) (by omega) dX10_isOf_26 rfl (fun c7 => ?_) (fun c7 => ?_)
          · skip
            refine v_iconstN K 1 rfl dX10_isOf_40 ?_
            refine v_goto (tgt := 45) K dX10_isOf_41 rfl ?_
            refine v_zret K dX10_isOf_45 (by decide) ?_
            refine ⟨some_int ?_, rfl⟩
            first | (rw [b2i_t (by unfold underP; omega)]; rfl) | (rw [b2i_f (by unfold underP; omega)]; rfl)
          · skip
            refine v_iload_n K dX10_isOf_29 rfl ?_
            refine v_iconstN K 1 rfl dX10_isOf_30 ?_
            refine v_icmpN_ne (tgt := 44) K (by omega) (by omega) dX10_isOf_31 rfl (fun c8 => ?_) (fun c8 => ?_)
            · skip
              refine v_iconstN K 0 rfl dX10_isOf_44 ?_
              refine v_zret K dX10_isOf_45 (by decide) ?_
              refine ⟨some_int ?_, rfl⟩
              first | (rw [b2i_t (by unfold underP; omega)]; rfl) | (rw [b2i_f (by unfold underP; omega)]; rfl)
            · skip
              refine v_iload_n K dX10_isOf_34 rfl ?_
              refine v_bipushN K 6 rfl dX10_isOf_35 ?_
              refine v_icmpN_ne (tgt := 44) K (by omega) (by omega) dX10_isOf_37 rfl (fun c9 => ?_) (fun c9 => ?_)
              · skip
                refine v_iconstN K 0 rfl dX10_isOf_44 ?_
                refine v_zret K dX10_isOf_45 (by decide) ?_
                refine ⟨some_int ?_, rfl⟩
                first | (rw [b2i_t (by unfold underP; omega)]; rfl) | (rw [b2i_f (by unfold underP; omega)]; rfl)
              · skip
                refine v_iconstN K 1 rfl dX10_isOf_40 ?_
                refine v_goto (tgt := 45) K dX10_isOf_41 rfl ?_
                refine v_zret K dX10_isOf_45 (by decide) ?_
                refine ⟨some_int ?_, rfl⟩
                first | (rw [b2i_t (by unfold underP; omega)]; rfl) | (rw [b2i_f (by unfold underP; omega)]; rfl)
      · skip
        refine v_iload_n K dX10_isOf_14 rfl ?_
        refine v_iconstN K 4 rfl dX10_isOf_15 ?_
        refine v_icmpN_eq (tgt := 40) K (by omega) (by omega) dX10_isOf_16 rfl (fun c10 => ?_) (fun c10 => ?_)
        · skip
          refine v_iconstN K 1 rfl dX10_isOf_40 ?_
          refine v_goto (tgt := 45) K dX10_isOf_41 rfl ?_
          refine v_zret K dX10_isOf_45 (by decide) ?_
          refine ⟨some_int ?_, rfl⟩
          first | (rw [b2i_t (by unfold underP; omega)]; rfl) | (rw [b2i_f (by unfold underP; omega)]; rfl)
        · skip
          refine v_iload_n K dX10_isOf_19 rfl ?_
          refine v_iconstN K 3 rfl dX10_isOf_20 ?_
          refine v_icmpN_ne (tgt := 29) K (by omega) (by omega) dX10_isOf_21 rfl (fun c11 => ?_) (fun c11 => ?_)
          · skip
            refine v_iload_n K dX10_isOf_29 rfl ?_
            refine v_iconstN K 1 rfl dX10_isOf_30 ?_
            refine v_icmpN_ne (tgt := 44) K (by omega) (by omega) dX10_isOf_31 rfl (fun c12 => ?_) (fun c12 => ?_)
            · skip
              refine v_iconstN K 0 rfl dX10_isOf_44 ?_
              refine v_zret K dX10_isOf_45 (by decide) ?_
              refine ⟨some_int ?_, rfl⟩
              first | (rw [b2i_t (by unfold underP; omega)]; rfl) | (rw [b2i_f (by unfold underP; omega)]; rfl)
            · skip
              refine v_iload_n K dX10_isOf_34 rfl ?_
              refine v_bipushN K 6 rfl dX10_isOf_35 ?_
              refine v_icmpN_ne (tgt := 44) K (by omega) (by omega) dX10_isOf_37 rfl (fun c13 => ?_) (fun c13 => ?_)
              · skip
                refine v_iconstN K 0 rfl dX10_isOf_44 ?_
                refine v_zret K dX10_isOf_45 (by decide) ?_
                refine ⟨some_int ?_, rfl⟩
                first | (rw [b2i_t (by unfold underP; omega)]; rfl) | (rw [b2i_f (by unfold underP; omega)]; rfl)
              · skip
                refine v_iconstN K 1 rfl dX10_isOf_40 ?_
                refine v_goto (tgt := 45) K dX10_isOf_41 rfl ?_
                refine v_zret K dX10_isOf_45 (by decide) ?_
                refine ⟨some_int ?_, rfl⟩
                first | (rw [b2i_t (by unfold underP; omega)]; rfl) | (rw [b2i_f (by unfold underP; omega)]; rfl)
          · skip
            refine v_iload_n K dX10_isOf_24 rfl ?_
            refine v_iconstN K 5 rfl dX10_isOf_25 ?_
            refine v_icmpN_eq (tgt := 40) K (by omega) (by omega) dX10_isOf_26 rfl (fun c14 => ?_) (fun c14 => ?_)
            · skip
              refine v_iconstN K 1 rfl dX10_isOf_40 ?_
              refine v_goto (tgt := 45) K dX10_isOf_41 rfl ?_
              refine v_zret K dX10_isOf_45 (by decide) ?_
              refine ⟨some_int ?_, rfl⟩
              first | (rw [b2i_t (by unfold underP; omega)]; rfl) | (rw [b2i_f (by unfold underP; omega)]; rfl)
            · skip
              refine v_iload_n K dX10_isOf_29 rfl ?_
              refine v_iconstN K 1 rfl dX10_isOf_30 ?_
              refine v_icmpN_ne (tgt := 44) K (by omega) (by omega) dX10_isOf_31 rfl (fun c15 => ?_) (fun c15 => ?_)
              · skip
                refine v_iconstN K 0 rfl dX10_isOf_44 ?_
                refine v_zret K dX10_isOf_45 (by decide) ?_
                refine ⟨some_int ?_, rfl⟩
                first | (rw [b2i_t (by unfold underP; omega)]; rfl) | (rw [b2i_f (by unfold underP; omega)]; rfl)
              · skip
                refine v_iload_n K dX10_isOf_34 rfl ?_
                refine v_bipushN K 6 rfl dX10_isOf_35 ?_
                refine v_icmpN_ne (tgt := 44) K (by omega) (by omega) dX10_isOf_37 rfl (fun c16 => ?_) (fun c16 => ?_)
                · skip
                  refine v_iconstN K 0 rfl dX10_isOf_44 ?_
                  refine v_zret K dX10_isOf_45 (by decide) ?_
                  refine ⟨some_int ?_, rfl⟩
                  first | (rw [b2i_t (by unfold underP; omega)]; rfl) | (rw [b2i_f (by unfold underP; omega)]; rfl)
                · skip
                  refine v_iconstN K 1 rfl dX10_isOf_40 ?_
                  refine v_goto (tgt := 45) K dX10_isOf_41 rfl ?_
                  refine v_zret K dX10_isOf_45 (by decide) ?_
                  refine ⟨some_int ?_, rfl⟩
                  first | (rw [b2i_t (by unfold underP; omega)]; rfl) | (rw [b2i_f (by unfold underP; omega)]; rfl)

abbrev P_X10_mayBe (h : Mm) (what v : Int32) : Option Value → Mm → Prop := fun r h2 => r = some (.int (b2i (setOK what v))) ∧ h = h2
theorem c_X10_mayBe {l : Launch} (h : Mm) (what v : Int32)  : Con l yX10_mayBe cX10_mayBe 2 (some .boolean) 1 25 132 GL h [.int what, .int v] (P_X10_mayBe h what v) := by
  refine Con.ofV (own := "FoxRoundsModel") (nm := "mayBe") rfl rfl (by decide) (Nat.le_of_ble_eq_true rfl) ?_
  intro κ ρ hkl K
  subst hkl
  show V κ (QM κ (132, ρ, GL, 0, 0) (P_X10_mayBe h what v)) 2 (132, ρ, GL, 0, 0) h 0 [(0, .int what), (1, .int v)] []
  refine v_iload_n K dX10_mayBe_0 rfl ?_
  rcases ixo_8 what with rfl | rfl | rfl | rfl | rfl | rfl | rfl | rfl | hout
  · skip
    refine v_tinN (off := 47) (tgt := 48) K (by decide) 0 dX10_mayBe_1 (by decide) (by decide) (by decide) rfl rfl ?_
    refine v_iload_n K dX10_mayBe_48 rfl ?_
    refine v_i2l K dX10_mayBe_49 rfl ?_
    refine v_lconst (v := (nI 0).toInt64) K dX10_mayBe_50 (by decide) ?_
    refine v_ldc2 K kX10_141 dX10_mayBe_51 ?_
    refine v_topL (y := (nI 99).toInt64) (by decide) ?_
    refine v_callS (As := [.long v.toInt64, .long (nI 0).toInt64, .long (nI 99).toInt64]) K (c_X10_in h v (nI 0) (nI 99)) lX10_51 rfl ⟨by decide, by decide⟩ (Nat.le_of_ble_eq_true rfl) dX10_mayBe_54 (fun r1 h1 hp1 => ?_) rfl
    obtain ⟨rfl, rfl⟩ := hp1
    refine v_some ?_
    refine v_zret K dX10_mayBe_57 (b2i_01 _) ?_
    refine ⟨some_int (b2i_e ?_), rfl⟩
    rw [setOK_in 0 (by decide), show stV 1 0 = nI 0 by decide, show stV 2 0 = nI 99 by decide]
  · skip
    refine v_tinN (off := 57) (tgt := 58) K (by decide) 1 dX10_mayBe_1 (by decide) (by decide) (by decide) rfl rfl ?_
    refine v_iload_n K dX10_mayBe_58 rfl ?_
    refine v_i2l K dX10_mayBe_59 rfl ?_
    refine v_lconst (v := (nI 1).toInt64) K dX10_mayBe_60 (by decide) ?_
    refine v_ldc2 K kX10_143 dX10_mayBe_61 ?_
    refine v_topL (y := (nI 4).toInt64) (by decide) ?_
    refine v_callS (As := [.long v.toInt64, .long (nI 1).toInt64, .long (nI 4).toInt64]) K (c_X10_in h v (nI 1) (nI 4)) lX10_51 rfl ⟨by decide, by decide⟩ (Nat.le_of_ble_eq_true rfl) dX10_mayBe_64 (fun r2 h2 hp2 => ?_) rfl
    obtain ⟨rfl, rfl⟩ := hp2
    refine v_some ?_
    refine v_zret K dX10_mayBe_67 (b2i_01 _) ?_
    refine ⟨some_int (b2i_e ?_), rfl⟩
    rw [setOK_in 1 (by decide), show stV 1 1 = nI 1 by decide, show stV 2 1 = nI 4 by decide]
  · skip
    refine v_tinN (off := 47) (tgt := 48) K (by decide) 2 dX10_mayBe_1 (by decide) (by decide) (by decide) rfl rfl ?_
    refine v_iload_n K dX10_mayBe_48 rfl ?_
    refine v_i2l K dX10_mayBe_49 rfl ?_
    refine v_lconst (v := (nI 0).toInt64) K dX10_mayBe_50 (by decide) ?_
    refine v_ldc2 K kX10_141 dX10_mayBe_51 ?_
    refine v_topL (y := (nI 99).toInt64) (by decide) ?_
    refine v_callS (As := [.long v.toInt64, .long (nI 0).toInt64, .long (nI 99).toInt64]) K (c_X10_in h v (nI 0) (nI 99)) lX10_51 rfl ⟨by decide, by decide⟩ (Nat.le_of_ble_eq_true rfl) dX10_mayBe_54 (fun r3 h3 hp3 => ?_) rfl
    obtain ⟨rfl, rfl⟩ := hp3
    refine v_some ?_
    refine v_zret K dX10_mayBe_57 (b2i_01 _) ?_
    refine ⟨some_int (b2i_e ?_), rfl⟩
    rw [setOK_in 2 (by decide), show stV 1 2 = nI 0 by decide, show stV 2 2 = nI 99 by decide]
  · skip
    refine v_tinN (off := 47) (tgt := 48) K (by decide) 3 dX10_mayBe_1 (by decide) (by decide) (by decide) rfl rfl ?_
    refine v_iload_n K dX10_mayBe_48 rfl ?_
    refine v_i2l K dX10_mayBe_49 rfl ?_
    refine v_lconst (v := (nI 0).toInt64) K dX10_mayBe_50 (by decide) ?_
    refine v_ldc2 K kX10_141 dX10_mayBe_51 ?_
    refine v_topL (y := (nI 99).toInt64) (by decide) ?_
    refine v_callS (As := [.long v.toInt64, .long (nI 0).toInt64, .long (nI 99).toInt64]) K (c_X10_in h v (nI 0) (nI 99)) lX10_51 rfl ⟨by decide, by decide⟩ (Nat.le_of_ble_eq_true rfl) dX10_mayBe_54 (fun r4 h4 hp4 => ?_) rfl
    obtain ⟨rfl, rfl⟩ := hp4
    refine v_some ?_
    refine v_zret K dX10_mayBe_57 (b2i_01 _) ?_
    refine ⟨some_int (b2i_e ?_), rfl⟩
    rw [setOK_in 3 (by decide), show stV 1 3 = nI 0 by decide, show stV 2 3 = nI 99 by decide]
  · skip
    refine v_tinN (off := 67) (tgt := 68) K (by decide) 4 dX10_mayBe_1 (by decide) (by decide) (by decide) rfl rfl ?_
    refine v_iload_n K dX10_mayBe_68 rfl ?_
    refine v_i2l K dX10_mayBe_69 rfl ?_
    refine v_lconst (v := (nI 0).toInt64) K dX10_mayBe_70 (by decide) ?_
    refine v_lconst (v := (nI 1).toInt64) K dX10_mayBe_71 (by decide) ?_
    refine v_callS (As := [.long v.toInt64, .long (nI 0).toInt64, .long (nI 1).toInt64]) K (c_X10_in h v (nI 0) (nI 1)) lX10_51 rfl ⟨by decide, by decide⟩ (Nat.le_of_ble_eq_true rfl) dX10_mayBe_72 (fun r5 h5 hp5 => ?_) rfl
    obtain ⟨rfl, rfl⟩ := hp5
    refine v_some ?_
    refine v_zret K dX10_mayBe_75 (b2i_01 _) ?_
    refine ⟨some_int (b2i_e ?_), rfl⟩
    rw [setOK_in 4 (by decide), show stV 1 4 = nI 0 by decide, show stV 2 4 = nI 1 by decide]
  · skip
    refine v_tinN (off := 75) (tgt := 76) K (by decide) 5 dX10_mayBe_1 (by decide) (by decide) (by decide) rfl rfl ?_
    refine v_iload_n K dX10_mayBe_76 rfl ?_
    refine v_i2l K dX10_mayBe_77 rfl ?_
    refine v_ldc2 K kX10_145 dX10_mayBe_78 ?_
    refine v_topL (y := (nI 60).toInt64) (by decide) ?_
    refine v_ldc2 K kX10_147 dX10_mayBe_81 ?_
    refine v_topL (y := (nI 900).toInt64) (by decide) ?_
    refine v_callS (As := [.long v.toInt64, .long (nI 60).toInt64, .long (nI 900).toInt64]) K (c_X10_in h v (nI 60) (nI 900)) lX10_51 rfl ⟨by decide, by decide⟩ (Nat.le_of_ble_eq_true rfl) dX10_mayBe_84 (fun r6 h6 hp6 => ?_) rfl
    obtain ⟨rfl, rfl⟩ := hp6
    refine v_some ?_
    refine v_zret K dX10_mayBe_87 (b2i_01 _) ?_
    refine ⟨some_int (b2i_e ?_), rfl⟩
    rw [setOK_in 5 (by decide), show stV 1 5 = nI 60 by decide, show stV 2 5 = nI 900 by decide]
  · skip
    refine v_tinN (off := 87) (tgt := 88) K (by decide) 6 dX10_mayBe_1 (by decide) (by decide) (by decide) rfl rfl ?_
    refine v_iload_n K dX10_mayBe_88 rfl ?_
    refine v_i2l K dX10_mayBe_89 rfl ?_
    refine v_lconst (v := (nI 0).toInt64) K dX10_mayBe_90 (by decide) ?_
    refine v_ldc2 K kX10_149 dX10_mayBe_91 ?_
    refine v_topL (y := (nI 120).toInt64) (by decide) ?_
    refine v_callS (As := [.long v.toInt64, .long (nI 0).toInt64, .long (nI 120).toInt64]) K (c_X10_in h v (nI 0) (nI 120)) lX10_51 rfl ⟨by decide, by decide⟩ (Nat.le_of_ble_eq_true rfl) dX10_mayBe_94 (fun r7 h7 hp7 => ?_) rfl
    obtain ⟨rfl, rfl⟩ := hp7
    refine v_some ?_
    refine v_zret K dX10_mayBe_97 (b2i_01 _) ?_
    refine ⟨some_int (b2i_e ?_), rfl⟩
    rw [setOK_in 6 (by decide), show stV 1 6 = nI 0 by decide, show stV 2 6 = nI 120 by decide]
  · skip
    refine v_tinN (off := 97) (tgt := 98) K (by decide) 7 dX10_mayBe_1 (by decide) (by decide) (by decide) rfl rfl ?_
    refine v_iload_n K dX10_mayBe_98 rfl ?_
    refine v_i2l K dX10_mayBe_99 rfl ?_
    refine v_ldc2 K kX10_151 dX10_mayBe_100 ?_
    refine v_topL (y := ((-120) : Int32).toInt64) (by decide) ?_
    refine v_ldc2 K kX10_153 dX10_mayBe_103 ?_
    refine v_topL (y := (nI 240).toInt64) (by decide) ?_
    refine v_callS (As := [.long v.toInt64, .long (((-120) : Int32)).toInt64, .long (nI 240).toInt64]) K (c_X10_in h v (((-120) : Int32)) (nI 240)) lX10_51 rfl ⟨by decide, by decide⟩ (Nat.le_of_ble_eq_true rfl) dX10_mayBe_106 (fun r8 h8 hp8 => ?_) rfl
    obtain ⟨rfl, rfl⟩ := hp8
    refine v_some ?_
    refine v_zret K dX10_mayBe_109 (b2i_01 _) ?_
    refine ⟨some_int (b2i_e ?_), rfl⟩
    rw [setOK_in 7 (by decide), show stV 1 7 = ((-120) : Int32) by decide, show stV 2 7 = nI 240 by decide]
  · skip
    refine v_tout (tgt := 110) K dX10_mayBe_1 (by exact hout) rfl ?_
    refine v_iconstN K 0 rfl dX10_mayBe_110 ?_
    refine v_zret K dX10_mayBe_111 (by decide) ?_
    exact ⟨some_int (by rw [b2i_f (setOK_out hout)]; rfl), rfl⟩

abbrev P_X10_finds (h : Mm) (k : Nat) : Option Value → Mm → Prop := fun r h2 => r = some (.int ((-1000000000) - nI k)) ∧ u2 h 122 k (h 122 k + nI 1) = h2
theorem c_X10_finds {l : Launch} (h : Mm) (k : Nat) (hk : k < 6) : Con l yX10_finds cX10_finds 2 (some .int) 0 0 132 GL h [.ref 118, .int (nI k)] (P_X10_finds h k) := by
  refine Con.ofV (own := "FoxRoundsModel") (nm := "finds") rfl rfl (by decide) (Nat.le_of_ble_eq_true rfl) ?_
  intro κ ρ hkl K
  subst hkl
  show V κ (QM κ (132, ρ, GL, 0, 0) (P_X10_finds h k)) 2 (132, ρ, GL, 0, 0) h 0 [(0, .ref 118), (1, .int (nI k))] []
  refine v_aload_n K dX10_finds_0 rfl ?_
  refine v_getr (q := 122) K fX10_19 sh_118 pl_118 gl_118_4 dX10_finds_1 ?_
  refine v_iload_n K dX10_finds_4 rfl ?_
  refine v_dup2 K dX10_finds_5 rfl rfl ?_
  refine v_iald (x := h 122 k) K sh_122 pl_122 (by omega) rfl dX10_finds_6 ?_
  refine v_iconstN K 1 rfl dX10_finds_7 ?_
  refine v_iadd K dX10_finds_8 ?_
  refine v_iast K sh_122 pl_122 (by omega) dX10_finds_9 ?_
  refine v_ldc K kX10_50 dX10_finds_10 ?_
  refine v_iload_n K dX10_finds_12 rfl ?_
  refine v_isub K dX10_finds_13 ?_
  refine v_iret K dX10_finds_14 ?_
  exact ⟨rfl, rfl⟩

abbrev P_X9_error (h : Mm) (k : Nat) : Option Value → Mm → Prop := fun r h2 => r = some (.int ((-1000000000) - nI k)) ∧ u2 h 109 k (h 109 k + nI 1) = h2
theorem c_X9_error {l : Launch} (h : Mm) (k : Nat) (hk : 1 ≤ k ∧ k ≤ 5) : Con l yX9_error cX9_error 2 (some .int) 1 22 132 GL h [.ref 0, .int (nI k)] (P_X9_error h k) := by
  refine Con.ofV (own := "FoxRounds") (nm := "error") rfl rfl (by decide) (Nat.le_of_ble_eq_true rfl) ?_
  intro κ ρ hkl K
  subst hkl
  show V κ (QM κ (132, ρ, GL, 0, 0) (P_X9_error h k)) 2 (132, ρ, GL, 0, 0) h 0 [(0, .ref 0), (1, .int (nI k))] []
  refine v_iload_n K dX9_error_0 rfl ?_
  refine v_iconstN K 1 rfl dX9_error_1 ?_
  refine v_iconstN K 5 rfl dX9_error_2 ?_
  refine v_callS (As := [.int (nI k), .int (nI 1), .int (nI 5)]) K (c_X9_within h (nI k) (nI 1) (nI 5)) lX9_65 rfl ⟨by decide, by decide⟩ (Nat.le_of_ble_eq_true rfl) dX9_error_3 (fun r1 h1 hp1 => ?_) rfl
  obtain ⟨rfl, rfl⟩ := hp1
  refine v_some ?_
  refine v_ifB_eq (tgt := 19) K dX9_error_6 rfl (fun c1 => ?_) (fun c1 => ?_)
  · skip
    exact absurd ⟨(nI_leI (by omega) (by omega)).mpr (by omega), (nI_leI (by omega) (by omega)).mpr (by omega)⟩ c1
  · skip
    refine v_aload_n K dX9_error_9 rfl ?_
    refine v_getr (q := 109) K fX9_60 sh_0 pl_0 gl_0_7 dX9_error_10 ?_
    refine v_iload_n K dX9_error_13 rfl ?_
    refine v_dup2 K dX9_error_14 rfl rfl ?_
    refine v_iald (x := h 109 k) K sh_109 pl_109 (by omega) rfl dX9_error_15 ?_
    refine v_iconstN K 1 rfl dX9_error_16 ?_
    refine v_iadd K dX9_error_17 ?_
    refine v_iast K sh_109 pl_109 (by omega) dX9_error_18 ?_
    refine v_ldcw K kX9_328 dX9_error_19 ?_
    refine v_iload_n K dX9_error_22 rfl ?_
    refine v_isub K dX9_error_23 ?_
    refine v_iret K dX9_error_24 ?_
    exact ⟨rfl, rfl⟩
