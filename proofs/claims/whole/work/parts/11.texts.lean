/-! TEXTS: rows of signs behind what they join, worked out on a stack -/
noncomputable def joinR (s a b : Int32) : Int32 :=
  if s = nI 38 then b2i (¬ a = 0 ∧ ¬ b = 0) else if s = nI 42 then a * b else if s = nI 43 then a + b else if s = nI 45 then a - b else if s = nI 47 then (if b = 0 then nI 0 else a / b) else
  if s = nI 60 then b2i (a < b) else if s = nI 61 then b2i (a = b) else if s = nI 62 then b2i (b < a) else if s = nI 124 then b2i (¬ a = 0 ∨ ¬ b = 0) else if b = 0 then nI 0 else a - a / b * b
noncomputable def stepR (nm : Nat → Int32) (st : List Int32) (c : Int32) : List Int32 :=
  if 0 ≤ c then c :: st else if (-5) ≤ c then nm ((-1) - c).toNatClampNeg :: st else if c = (-33) ∧ st ≠ [] then (match st with | x :: r => b2i (x = 0) :: r | [] => []) else
  match st with | y :: x :: r => joinR (-c) x y :: r | s => s
noncomputable def runL (c : List Int32) (nm : Nat → Int32) (st : List Int32) : List Int32 := c.foldl (stepR nm) st
noncomputable def evalR (c : List Int32) (nm : Nat → Int32) : Int32 := (runL c nm []).headD 0
theorem runL_app (a b : List Int32) (nm : Nat → Int32) (st : List Int32) : runL (a ++ b) nm st = runL b nm (runL a nm st) := List.foldl_append
theorem run_take {c : List Int32} {nm : Nat → Int32} {i : Nat} (h : i < c.length) : runL (c.take (i + 1)) nm [] = stepR nm (runL (c.take i) nm []) (c.getD i 0) := by
  rw [List.take_succ, runL_app]
  have e : c[i]? = some (c.getD i 0) := by
    rw [List.getD_eq_getElem?_getD]
    cases q : c[i]? with
    | none => simp at q; omega
    | some v => rfl
  rw [e]
  rfl
theorem step_len {nm : Nat → Int32} {st : List Int32} {c : Int32} : (stepR nm st c).length ≤ st.length + 1 := by
  unfold stepR
  split
  · simp
  · split
    · simp
    · split
      · cases st <;> simp
      · match st with
        | [] => simp
        | [x] => simp
        | y :: x :: r => simp
theorem run_len {c : List Int32} {nm : Nat → Int32} : ∀ {i : Nat}, i ≤ c.length → (runL (c.take i) nm []).length ≤ i
  | 0, _ => by simp [runL]
  | i + 1, h => by
    rw [run_take (by omega)]
    exact Nat.le_trans step_len (Nat.succ_le_succ (run_len (by omega)))
/-- a text's object at t holds the row c -/
def TXr (h : Mm) (t : Nat) (c : List Int32) : Prop := h t 1 = nI c.length ∧ c.length ≤ 50 ∧ ∀ k, k < c.length → h (t + 1) k = c.getD k 0
theorem TXr.far {h h2 : Mm} {t : Nat} {c : List Int32} (H : TXr h t c) (e1 : h2 t 1 = h t 1) (e2 : h2 (t + 1) = h (t + 1)) : TXr h2 t c := ⟨by rw [e1]; exact H.1, H.2.1, fun k hk => by rw [e2]; exact H.2.2 k hk⟩
def STK (h : Mm) (t : Nat) (st : List Int32) : Prop := ∀ k, k < st.length → h (t + 2) k = st.getD (st.length - 1 - k) 0
theorem STK.push {h : Mm} {t : Nat} {st : List Int32} {v : Int32} (H : STK h t st) : STK (u2 h (t + 2) st.length v) t (v :: st) := by
  intro k hk
  by_cases e : k = st.length
  · subst e
    rw [u2_at]
    simp
  · rw [u2_ne (Or.inr e), H k (by simp at hk; omega)]
    simp at hk
    have e2 : (v :: st).length - 1 - k = (st.length - 1 - k) + 1 := by simp; omega
    rw [e2, List.getD_cons_succ]
theorem STK.tail {h : Mm} {t : Nat} {x : Int32} {st : List Int32} (H : STK h t (x :: st)) : STK h t st := by
  intro k hk
  rw [H k (by simp; omega)]
  have e2 : (x :: st).length - 1 - k = (st.length - 1 - k) + 1 := by simp; omega
  rw [e2, List.getD_cons_succ]
theorem STK.top {h : Mm} {t : Nat} {x : Int32} {st : List Int32} (H : STK h t (x :: st)) : h (t + 2) st.length = x := by
  rw [H st.length (by simp)]
  simp
def tV (t : Nat) : Prop := t = 21 ∨ t = 24 ∨ t = 27
theorem tV.o {t : Nat} (H : tV t) : SH t = (1, 5, 3) := by rcases H with rfl | rfl | rfl <;> rfl
theorem tV.c {t : Nat} (H : tV t) : SH (t + 1) = (2, 0, 50) := by rcases H with rfl | rfl | rfl <;> rfl
theorem tV.s {t : Nat} (H : tV t) : SH (t + 2) = (2, 0, 50) := by rcases H with rfl | rfl | rfl <;> rfl
theorem tV.l {t k : Nat} (H : tV t) (hk : k < 3) : t + k < 132 := by rcases H with rfl | rfl | rfl <;> omega
theorem tV.g0 {t : Nat} (H : tV t) : GL t 0 = t + 1 + 1 := by rcases H with rfl | rfl | rfl <;> rfl
theorem tV.g2 {t : Nat} (H : tV t) : GL t 2 = t + 2 + 1 := by rcases H with rfl | rfl | rfl <;> rfl
theorem neg5 {c : Int32} (h1 : ¬ 0 ≤ c) (h2 : (-5) ≤ c) : ∃ j, j < 5 ∧ (-1) - c = nI j := by
  rw [i32_le] at h1 h2
  have e5 : (-5 : Int32).toInt = -5 := rfl
  have e0 : (0 : Int32).toInt = 0 := rfl
  rw [e5] at h2
  rw [e0] at h1
  have e : ((-1 : Int32) - c).toInt = -1 - c.toInt := by
    rw [Int32.toInt_sub, show (-1 : Int32).toInt = -1 from rfl]
    have := Int32.le_toInt c
    rw [Int.bmod_eq_of_le] <;> omega
  refine ⟨((-1) - c).toInt.toNat, by omega, ?_⟩
  rw [i32_eq, nI_toInt (by omega), e]
  omega
theorem cons_of {st : List Int32} (h : 0 < st.length) : ∃ x r, st = x :: r := by
  cases st with
  | nil => simp at h
  | cons x r => exact ⟨x, r, rfl⟩
theorem step_n {nm : Nat → Int32} {st : List Int32} {c : Int32} (h : 0 ≤ c) : stepR nm st c = c :: st := if_pos h
theorem step_m {nm : Nat → Int32} {st : List Int32} {c : Int32} {j : Nat} (h : ¬ 0 ≤ c) (h2 : (-5) ≤ c) (hj : j < 5) (e : (-1) - c = nI j) : stepR nm st c = nm j :: st := by
  unfold stepR
  rw [if_neg h, if_pos h2, e, nI_clamp (by omega)]
theorem step_b {nm : Nat → Int32} {r : List Int32} {x c : Int32} (h : ¬ 0 ≤ c) (h2 : ¬ (-5) ≤ c) (h3 : c = (-33)) : stepR nm (x :: r) c = b2i (x = 0) :: r := by
  unfold stepR
  rw [if_neg h, if_neg h2, if_pos ⟨h3, by simp⟩]
theorem step_j {nm : Nat → Int32} {r : List Int32} {x y c : Int32} (h : ¬ 0 ≤ c) (h2 : ¬ (-5) ≤ c) (h3 : ¬ c = (-33)) : stepR nm (y :: x :: r) c = joinR (-c) x y :: r := by
  unfold stepR
  rw [if_neg h, if_neg h2, if_neg (fun q => h3 q.1)]
theorem step_o {nm : Nat → Int32} {st : List Int32} {c : Int32} (h : ¬ 0 ≤ c) (h2 : ¬ (-5) ≤ c) (h3 : ¬ c = (-33) ∨ st = []) (h4 : st.length ≤ 1) : stepR nm st c = st := by
  unfold stepR
  rw [if_neg h, if_neg h2, if_neg (by rintro ⟨q1, q2⟩; rcases h3 with h3 | h3; exact h3 q1; exact q2 h3)]
  match st, h4 with
  | [], _ => rfl
  | [x], _ => rfl
theorem nle0 {c : Int32} : ¬ c < 0 ↔ 0 ≤ c := by rw [i32_le, i32_lt]; omega
theorem nle5 {c : Int32} : ¬ c < (-5) ↔ (-5) ≤ c := by rw [i32_le, i32_lt]; omega

theorem jcs (s : Int32) : s = nI 38 ∨ s = nI 42 ∨ s = nI 43 ∨ s = nI 45 ∨ s = nI 47 ∨ s = nI 60 ∨ s = nI 61 ∨ s = nI 62 ∨ s = nI 124 ∨ (¬ s = nI 38 ∧ ¬ s = nI 42 ∧ ¬ s = nI 43 ∧ ¬ s = nI 45 ∧ ¬ s = nI 47 ∧ ¬ s = nI 60 ∧ ¬ s = nI 61 ∧ ¬ s = nI 62 ∧ ¬ s = nI 124) := by
  by_cases h1 : s = nI 38 <;> by_cases h2 : s = nI 42 <;> by_cases h3 : s = nI 43 <;> by_cases h4 : s = nI 45 <;> by_cases h5 : s = nI 47 <;> by_cases h6 : s = nI 60 <;> by_cases h7 : s = nI 61 <;> by_cases h8 : s = nI 62 <;> by_cases h9 : s = nI 124 <;> simp only [h1, h2, h3, h4, h5, h6, h7, h8, h9, true_or, or_true, not_false_eq_true, and_self]
theorem jout {s : Int32} {o1 o2 o3 o4 o5 o6 o7 o8 o9 d : Int} (h : ¬ s = nI 38 ∧ ¬ s = nI 42 ∧ ¬ s = nI 43 ∧ ¬ s = nI 45 ∧ ¬ s = nI 47 ∧ ¬ s = nI 60 ∧ ¬ s = nI 61 ∧ ¬ s = nI 62 ∧ ¬ s = nI 124) : Op.lookupswitch.offset [(38, o1), (42, o2), (43, o3), (45, o4), (47, o5), (60, o6), (61, o7), (62, o8), (124, o9)] d s.toInt = d := by
  obtain ⟨h1, h2, h3, h4, h5, h6, h7, h8, h9⟩ := h
  rw [lv_osw (a := 38) h1 rfl, lv_osw (a := 42) h2 rfl, lv_osw (a := 43) h3 rfl, lv_osw (a := 45) h4 rfl, lv_osw (a := 47) h5 rfl, lv_osw (a := 60) h6 rfl, lv_osw (a := 61) h7 rfl, lv_osw (a := 62) h8 rfl, lv_osw (a := 124) h9 rfl]
  rfl
theorem jdef {s a b : Int32} (h : ¬ s = nI 38 ∧ ¬ s = nI 42 ∧ ¬ s = nI 43 ∧ ¬ s = nI 45 ∧ ¬ s = nI 47 ∧ ¬ s = nI 60 ∧ ¬ s = nI 61 ∧ ¬ s = nI 62 ∧ ¬ s = nI 124) : joinR s a b = if b = 0 then nI 0 else a - a / b * b := by
  obtain ⟨h1, h2, h3, h4, h5, h6, h7, h8, h9⟩ := h
  unfold joinR
  rw [if_neg h1, if_neg h2, if_neg h3, if_neg h4, if_neg h5, if_neg h6, if_neg h7, if_neg h8, if_neg h9]

abbrev P_X5_join (h : Mm) (s a b : Int32) : Option Value → Mm → Prop := fun r h2 => r = some (.int (joinR s a b)) ∧ h = h2
theorem c_X5_join {l : Launch} (h : Mm) (s a b : Int32)  : Con l yX5_join cX5_join 3 (some .int) 0 0 132 GL h [.int s, .int a, .int b] (P_X5_join h s a b) := by
  refine Con.ofV (own := "FoxRounds$Text") (nm := "join") rfl rfl (by decide) (Nat.le_of_ble_eq_true rfl) ?_
  intro κ ρ hkl K
  subst hkl
  show V κ (QM κ (132, ρ, GL, 0, 0) (P_X5_join h s a b)) 3 (132, ρ, GL, 0, 0) h 0 [(0, .int s), (1, .int a), (2, .int b)] []
  refine v_iload_n K dX5_join_0 rfl ?_
  rcases jcs s with rfl | rfl | rfl | rfl | rfl | rfl | rfl | rfl | rfl | hout
  · skip
    refine v_lookN (off := 97) (tgt := 98) K (by decide) 38 dX5_join_1 rfl (by decide) rfl rfl ?_
    refine v_iload_n K dX5_join_98 rfl ?_
    refine v_if_eq (tgt := 110) K dX5_join_99 rfl (fun c1 => ?_) (fun c1 => ?_)
    · skip
      refine v_iconstN K 0 rfl dX5_join_110 ?_
      refine v_iret K dX5_join_111 ?_
      refine ⟨some_int ?_, rfl⟩
      first | (exact (b2i_t (by first | exact Or.inl (by assumption) | exact Or.inr (by assumption) | exact ⟨by assumption, by assumption⟩ | assumption | (simp only [i32_lt, i32_le] at *; omega))).symm) | (exact (b2i_f (by first | (rw [not_or]; exact ⟨fun q => q (by assumption), fun q => q (by assumption)⟩) | (rintro ⟨q1, q2⟩; first | exact q1 (by assumption) | exact q2 (by assumption)) | assumption | (simp only [i32_lt, i32_le] at *; omega))).symm)
    · skip
      refine v_iload_n K dX5_join_102 rfl ?_
      refine v_if_eq (tgt := 110) K dX5_join_103 rfl (fun c2 => ?_) (fun c2 => ?_)
      · skip
        refine v_iconstN K 0 rfl dX5_join_110 ?_
        refine v_iret K dX5_join_111 ?_
        refine ⟨some_int ?_, rfl⟩
        first | (exact (b2i_t (by first | exact Or.inl (by assumption) | exact Or.inr (by assumption) | exact ⟨by assumption, by assumption⟩ | assumption | (simp only [i32_lt, i32_le] at *; omega))).symm) | (exact (b2i_f (by first | (rw [not_or]; exact ⟨fun q => q (by assumption), fun q => q (by assumption)⟩) | (rintro ⟨q1, q2⟩; first | exact q1 (by assumption) | exact q2 (by assumption)) | assumption | (simp only [i32_lt, i32_le] at *; omega))).symm)
      · skip
        refine v_iconstN K 1 rfl dX5_join_106 ?_
        refine v_goto (tgt := 111) K dX5_join_107 rfl ?_
        refine v_iret K dX5_join_111 ?_
        refine ⟨some_int ?_, rfl⟩
        first | (exact (b2i_t (by first | exact Or.inl (by assumption) | exact Or.inr (by assumption) | exact ⟨by assumption, by assumption⟩ | assumption | (simp only [i32_lt, i32_le] at *; omega))).symm) | (exact (b2i_f (by first | (rw [not_or]; exact ⟨fun q => q (by assumption), fun q => q (by assumption)⟩) | (rintro ⟨q1, q2⟩; first | exact q1 (by assumption) | exact q2 (by assumption)) | assumption | (simp only [i32_lt, i32_le] at *; omega))).symm)
  · skip
    refine v_lookN (off := 152) (tgt := 153) K (by decide) 42 dX5_join_1 rfl (by decide) rfl rfl ?_
    refine v_iload_n K dX5_join_153 rfl ?_
    refine v_iload_n K dX5_join_154 rfl ?_
    refine v_imul K dX5_join_155 ?_
    refine v_iret K dX5_join_156 ?_
    exact ⟨some_int rfl, rfl⟩
  · skip
    refine v_lookN (off := 144) (tgt := 145) K (by decide) 43 dX5_join_1 rfl (by decide) rfl rfl ?_
    refine v_iload_n K dX5_join_145 rfl ?_
    refine v_iload_n K dX5_join_146 rfl ?_
    refine v_iadd K dX5_join_147 ?_
    refine v_iret K dX5_join_148 ?_
    exact ⟨some_int rfl, rfl⟩
  · skip
    refine v_lookN (off := 148) (tgt := 149) K (by decide) 45 dX5_join_1 rfl (by decide) rfl rfl ?_
    refine v_iload_n K dX5_join_149 rfl ?_
    refine v_iload_n K dX5_join_150 rfl ?_
    refine v_isub K dX5_join_151 ?_
    refine v_iret K dX5_join_152 ?_
    exact ⟨some_int rfl, rfl⟩
  · skip
    refine v_lookN (off := 156) (tgt := 157) K (by decide) 47 dX5_join_1 rfl (by decide) rfl rfl ?_
    refine v_iload_n K dX5_join_157 rfl ?_
    refine v_if_ne (tgt := 165) K dX5_join_158 rfl (fun c3 => ?_) (fun c3 => ?_)
    · skip
      refine v_iload_n K dX5_join_165 rfl ?_
      refine v_iload_n K dX5_join_166 rfl ?_
      refine v_idiv K dX5_join_167 (by assumption) ?_
      refine v_iret K dX5_join_168 ?_
      exact ⟨some_int (by first | exact (if_pos (by assumption)).symm | exact (if_neg (by assumption)).symm), rfl⟩
    · skip
      refine v_iconstN K 0 rfl dX5_join_161 ?_
      refine v_goto (tgt := 168) K dX5_join_162 rfl ?_
      refine v_iret K dX5_join_168 ?_
      exact ⟨some_int (by first | exact (if_pos (by assumption)).symm | exact (if_neg (by assumption)).symm), rfl⟩
  · skip
    refine v_lookN (off := 111) (tgt := 112) K (by decide) 60 dX5_join_1 rfl (by decide) rfl rfl ?_
    refine v_iload_n K dX5_join_112 rfl ?_
    refine v_iload_n K dX5_join_113 rfl ?_
    refine v_icmp_ge (tgt := 121) K dX5_join_114 rfl (fun c4 => ?_) (fun c4 => ?_)
    · skip
      refine v_iconstN K 0 rfl dX5_join_121 ?_
      refine v_iret K dX5_join_122 ?_
      refine ⟨some_int ?_, rfl⟩
      first | (exact (b2i_t (by first | exact Or.inl (by assumption) | exact Or.inr (by assumption) | exact ⟨by assumption, by assumption⟩ | assumption | (simp only [i32_lt, i32_le] at *; omega))).symm) | (exact (b2i_f (by first | (rw [not_or]; exact ⟨fun q => q (by assumption), fun q => q (by assumption)⟩) | (rintro ⟨q1, q2⟩; first | exact q1 (by assumption) | exact q2 (by assumption)) | assumption | (simp only [i32_lt, i32_le] at *; omega))).symm)
    · skip
      refine v_iconstN K 1 rfl dX5_join_117 ?_
      refine v_goto (tgt := 122) K dX5_join_118 rfl ?_
      refine v_iret K dX5_join_122 ?_
      refine ⟨some_int ?_, rfl⟩
      first | (exact (b2i_t (by first | exact Or.inl (by assumption) | exact Or.inr (by assumption) | exact ⟨by assumption, by assumption⟩ | assumption | (simp only [i32_lt, i32_le] at *; omega))).symm) | (exact (b2i_f (by first | (rw [not_or]; exact ⟨fun q => q (by assumption), fun q => q (by assumption)⟩) | (rintro ⟨q1, q2⟩; first | exact q1 (by assumption) | exact q2 (by assumption)) | assumption | (simp only [i32_lt, i32_le] at *; omega))).symm)
  · skip
    refine v_lookN (off := 122) (tgt := 123) K (by decide) 61 dX5_join_1 rfl (by decide) rfl rfl ?_
    refine v_iload_n K dX5_join_123 rfl ?_
    refine v_iload_n K dX5_join_124 rfl ?_
    refine v_icmp_ne (tgt := 132) K dX5_join_125 rfl (fun c5 => ?_) (fun c5 => ?_)
    · skip
      refine v_iconstN K 0 rfl dX5_join_132 ?_
      refine v_iret K dX5_join_133 ?_
      refine ⟨some_int ?_, rfl⟩
      first | (exact (b2i_t (by first | exact Or.inl (by assumption) | exact Or.inr (by assumption) | exact ⟨by assumption, by assumption⟩ | assumption | (simp only [i32_lt, i32_le] at *; omega))).symm) | (exact (b2i_f (by first | (rw [not_or]; exact ⟨fun q => q (by assumption), fun q => q (by assumption)⟩) | (rintro ⟨q1, q2⟩; first | exact q1 (by assumption) | exact q2 (by assumption)) | assumption | (simp only [i32_lt, i32_le] at *; omega))).symm)
    · skip
      refine v_iconstN K 1 rfl dX5_join_128 ?_
      refine v_goto (tgt := 133) K dX5_join_129 rfl ?_
      refine v_iret K dX5_join_133 ?_
      refine ⟨some_int ?_, rfl⟩
      first | (exact (b2i_t (by first | exact Or.inl (by assumption) | exact Or.inr (by assumption) | exact ⟨by assumption, by assumption⟩ | assumption | (simp only [i32_lt, i32_le] at *; omega))).symm) | (exact (b2i_f (by first | (rw [not_or]; exact ⟨fun q => q (by assumption), fun q => q (by assumption)⟩) | (rintro ⟨q1, q2⟩; first | exact q1 (by assumption) | exact q2 (by assumption)) | assumption | (simp only [i32_lt, i32_le] at *; omega))).symm)
  · skip
    refine v_lookN (off := 133) (tgt := 134) K (by decide) 62 dX5_join_1 rfl (by decide) rfl rfl ?_
    refine v_iload_n K dX5_join_134 rfl ?_
    refine v_iload_n K dX5_join_135 rfl ?_
    refine v_icmp_le (tgt := 143) K dX5_join_136 rfl (fun c6 => ?_) (fun c6 => ?_)
    · skip
      refine v_iconstN K 0 rfl dX5_join_143 ?_
      refine v_iret K dX5_join_144 ?_
      refine ⟨some_int ?_, rfl⟩
      first | (exact (b2i_t (by first | exact Or.inl (by assumption) | exact Or.inr (by assumption) | exact ⟨by assumption, by assumption⟩ | assumption | (simp only [i32_lt, i32_le] at *; omega))).symm) | (exact (b2i_f (by first | (rw [not_or]; exact ⟨fun q => q (by assumption), fun q => q (by assumption)⟩) | (rintro ⟨q1, q2⟩; first | exact q1 (by assumption) | exact q2 (by assumption)) | assumption | (simp only [i32_lt, i32_le] at *; omega))).symm)
    · skip
      refine v_iconstN K 1 rfl dX5_join_139 ?_
      refine v_goto (tgt := 144) K dX5_join_140 rfl ?_
      refine v_iret K dX5_join_144 ?_
      refine ⟨some_int ?_, rfl⟩
      first | (exact (b2i_t (by first | exact Or.inl (by assumption) | exact Or.inr (by assumption) | exact ⟨by assumption, by assumption⟩ | assumption | (simp only [i32_lt, i32_le] at *; omega))).symm) | (exact (b2i_f (by first | (rw [not_or]; exact ⟨fun q => q (by assumption), fun q => q (by assumption)⟩) | (rintro ⟨q1, q2⟩; first | exact q1 (by assumption) | exact q2 (by assumption)) | assumption | (simp only [i32_lt, i32_le] at *; omega))).symm)
  · skip
    refine v_lookN (off := 83) (tgt := 84) K (by decide) 124 dX5_join_1 rfl (by decide) rfl rfl ?_
    refine v_iload_n K dX5_join_84 rfl ?_
    refine v_if_ne (tgt := 92) K dX5_join_85 rfl (fun c7 => ?_) (fun c7 => ?_)
    · skip
      refine v_iconstN K 1 rfl dX5_join_92 ?_
      refine v_goto (tgt := 97) K dX5_join_93 rfl ?_
      refine v_iret K dX5_join_97 ?_
      refine ⟨some_int ?_, rfl⟩
      first | (exact (b2i_t (by first | exact Or.inl (by assumption) | exact Or.inr (by assumption) | exact ⟨by assumption, by assumption⟩ | assumption | (simp only [i32_lt, i32_le] at *; omega))).symm) | (exact (b2i_f (by first | (rw [not_or]; exact ⟨fun q => q (by assumption), fun q => q (by assumption)⟩) | (rintro ⟨q1, q2⟩; first | exact q1 (by assumption) | exact q2 (by assumption)) | assumption | (simp only [i32_lt, i32_le] at *; omega))).symm)
    · skip
      refine v_iload_n K dX5_join_88 rfl ?_
      refine v_if_eq (tgt := 96) K dX5_join_89 rfl (fun c8 => ?_) (fun c8 => ?_)
      · skip
        refine v_iconstN K 0 rfl dX5_join_96 ?_
        refine v_iret K dX5_join_97 ?_
        refine ⟨some_int ?_, rfl⟩
        first | (exact (b2i_t (by first | exact Or.inl (by assumption) | exact Or.inr (by assumption) | exact ⟨by assumption, by assumption⟩ | assumption | (simp only [i32_lt, i32_le] at *; omega))).symm) | (exact (b2i_f (by first | (rw [not_or]; exact ⟨fun q => q (by assumption), fun q => q (by assumption)⟩) | (rintro ⟨q1, q2⟩; first | exact q1 (by assumption) | exact q2 (by assumption)) | assumption | (simp only [i32_lt, i32_le] at *; omega))).symm)
      · skip
        refine v_iconstN K 1 rfl dX5_join_92 ?_
        refine v_goto (tgt := 97) K dX5_join_93 rfl ?_
        refine v_iret K dX5_join_97 ?_
        refine ⟨some_int ?_, rfl⟩
        first | (exact (b2i_t (by first | exact Or.inl (by assumption) | exact Or.inr (by assumption) | exact ⟨by assumption, by assumption⟩ | assumption | (simp only [i32_lt, i32_le] at *; omega))).symm) | (exact (b2i_f (by first | (rw [not_or]; exact ⟨fun q => q (by assumption), fun q => q (by assumption)⟩) | (rintro ⟨q1, q2⟩; first | exact q1 (by assumption) | exact q2 (by assumption)) | assumption | (simp only [i32_lt, i32_le] at *; omega))).symm)
  · skip
    refine v_look (off := 168) (tgt := 169) K dX5_join_1 rfl (by exact jout hout) rfl ?_
    refine v_iload_n K dX5_join_169 rfl ?_
    refine v_if_ne (tgt := 177) K dX5_join_170 rfl (fun c9 => ?_) (fun c9 => ?_)
    · skip
      refine v_iload_n K dX5_join_177 rfl ?_
      refine v_iload_n K dX5_join_178 rfl ?_
      refine v_irem K dX5_join_179 (by assumption) ?_
      refine v_iret K dX5_join_180 ?_
      exact ⟨some_int (by rw [jdef hout]; first | exact (if_pos (by assumption)).symm | exact (if_neg (by assumption)).symm), rfl⟩
    · skip
      refine v_iconstN K 0 rfl dX5_join_173 ?_
      refine v_goto (tgt := 180) K dX5_join_174 rfl ?_
      refine v_iret K dX5_join_180 ?_
      exact ⟨some_int (by rw [jdef hout]; first | exact (if_pos (by assumption)).symm | exact (if_neg (by assumption)).symm), rfl⟩

section VI
variable {κ : KT} {own nm : String} {cc : ByteArray} {nL : Nat} {R : Room} {ret : Option FieldType} {Q : State → Prop} {ω : Wo} {h : Mm} {pc : Nat} {lv : List (Nat × Value)} {st : List Value}
theorem v_ifN_le (K : KOK κ own nm cc nL R ret) {x : Nat} {z : Int} {tgt : Nat} (hx : x < 2 ^ 31) (d : decode cc pc = .ok (.ifCond .le z, 3)) (ht : (pc : Int) + z = (tgt : Int)) (kt : x = 0 → V κ Q nL ω h tgt lv st) (kf : 0 < x → V κ Q nL ω h (pc + 3) lv st) : V κ Q nL ω h pc lv (.int (nI x) :: st) := by
  refine v_if_le K d ht (fun c => kt ?_) (fun c => kf ?_)
  · rw [i32_le, nI_toInt hx, Int32.toInt_zero] at c; omega
  · by_cases e : x = 0
    · subst e; exact absurd (by decide) c
    · omega
end VI

abbrev P_X5_value (h : Mm) (t : Nat) (c : List Int32) (v : Int32) : Option Value → Mm → Prop := fun r h2 => r = some (.int v) ∧ FrO (t + 2) (t + 3) h h2
theorem c_X5_value {l : Launch} (h : Mm) (t : Nat) (c : List Int32) (v : Int32) (Ht : tV t) (hT : TXr h t c) (hv : runL c (h 30) [] = [v]) : Con l yX5_value cX5_value 5 (some .int) 1 22 132 GL h [.ref t, .ref 30] (P_X5_value h t c v) := by
  refine Con.ofV (own := "FoxRounds$Text") (nm := "value") rfl rfl (by decide) (Nat.le_of_ble_eq_true rfl) ?_
  intro κ ρ hkl K
  subst hkl
  show V κ (QM κ (132, ρ, GL, 0, 0) (P_X5_value h t c v)) 5 (132, ρ, GL, 0, 0) h 0 [(0, .ref t), (1, .ref 30)] []
  have hc50 := hT.2.1
  refine v_iconstN K 0 rfl dX5_value_0 ?_
  refine v_istore_n (lv2 := [(2, .int (nI 0)), (0, .ref t), (1, .ref 30)]) K dX5_value_1 (by decide) rfl ?_
  refine v_iconstN K 0 rfl dX5_value_2 ?_
  refine v_istore_n (lv2 := [(3, .int (nI 0)), (2, .int (nI 0)), (0, .ref t), (1, .ref 30)]) K dX5_value_3 (by decide) rfl ?_
  have L4 : ∀ (mm : Nat) (i : Nat) (st : List Int32) (h1 : Mm) (hi : i ≤ c.length) (hst : st = runL (c.take i) (h 30) []) (hS : STK h1 t st) (hF : FrO (t + 2) (t + 3) h h1), c.length + 1 - i < mm → V κ (QM κ (132, ρ, GL, 0, 0) (P_X5_value h t c v)) 5 (132, ρ, GL, 0, 0) h1 4 [(0, .ref t), (1, .ref 30), (2, .int (nI st.length)), (3, .int (nI i))] [] := by
    intro mm
    induction mm with
    | zero => intro i st h1 hi hst hS hF hmm; exact absurd hmm (Nat.not_lt_zero _)
    | succ mm ih4 =>
      intro i st h1 hi hst hS hF hmm
      have hl : st.length ≤ i := by rw [hst]; exact run_len hi
      refine v_iload_n K dX5_value_4 rfl ?_
      refine v_aload_n K dX5_value_5 rfl ?_
      refine v_geti (x := nI c.length) K fX5_15 Ht.o (Ht.l (k := 0) (by omega)) ((congrFun (hF t (by omega)) 1).trans hT.1) dX5_value_6 ?_
      refine v_icmpN_ge (tgt := 144) K (by omega) (by omega) dX5_value_9 rfl (fun c1 => ?_) (fun c1 => ?_)
      · skip
        refine v_aload_n K dX5_value_144 rfl ?_
        refine v_getr (q := t + 2) K fX5_19 Ht.o (Ht.l (k := 0) (by omega)) Ht.g2 dX5_value_145 ?_
        refine v_iconstN K 0 rfl dX5_value_148 ?_
        refine v_iald (x := h1 (t + 2) 0) K Ht.s (Ht.l (by omega)) (by omega) rfl dX5_value_149 ?_
        refine v_iret K dX5_value_150 ?_
        have e : i = c.length := by omega
        subst e
        rw [List.take_length, hv] at hst
        subst hst
        exact ⟨some_int hS.top, hF⟩
      · skip
        refine v_aload_n K dX5_value_12 rfl ?_
        refine v_getr (q := t + 1) K fX5_9 Ht.o (Ht.l (k := 0) (by omega)) Ht.g0 dX5_value_13 ?_
        refine v_iload_n K dX5_value_16 rfl ?_
        refine v_iald (x := c.getD i 0) K Ht.c (Ht.l (by omega)) (by omega) ((congrFun (hF (t + 1) (by omega)) i).trans (hT.2.2 i (by omega))) dX5_value_17 ?_
        refine v_nm (fun cv e_cv => ?_)
        refine v_istore (lv2 := [(4, .int cv), (0, .ref t), (1, .ref 30), (2, .int (nI st.length)), (3, .int (nI i))]) K dX5_value_18 (by decide) rfl ?_
        refine v_iload K dX5_value_20 rfl ?_
        refine v_if_lt (tgt := 39) K dX5_value_22 rfl (fun c2 => ?_) (fun c2 => ?_)
        · skip
          refine v_iload K dX5_value_39 rfl ?_
          refine v_bipush (v := (-5)) K dX5_value_41 (by decide) ?_
          refine v_icmp_lt (tgt := 64) K dX5_value_43 rfl (fun c3 => ?_) (fun c3 => ?_)
          · skip
            refine v_iload K dX5_value_64 rfl ?_
            refine v_bipush (v := (-33)) K dX5_value_66 (by decide) ?_
            refine v_icmp_ne (tgt := 102) K dX5_value_68 rfl (fun c4 => ?_) (fun c4 => ?_)
            · skip
              refine v_iload_n K dX5_value_102 rfl ?_
              refine v_iconstN K 1 rfl dX5_value_103 ?_
              refine v_icmpN_le (tgt := 138) K (by omega) (by omega) dX5_value_104 rfl (fun c5 => ?_) (fun c5 => ?_)
              · skip
                refine v_iincN (lv2 := [(3, .int (nI (i + 1))), (4, .int cv), (0, .ref t), (1, .ref 30), (2, .int (nI st.length))]) K 1 dX5_value_138 rfl rfl (by decide) rfl ?_
                refine v_goto (tgt := 4) K dX5_value_141 rfl ?_
                refine v_sub (lv2 := [(0, .ref t), (1, .ref 30), (2, .int (nI st.length)), (3, .int (nI (i + 1)))]) (by simp) ?_
                exact ih4 (i + 1) st h1 (by first | assumption | omega | rfl) (by rw [run_take (by omega), ← hst, ← e_cv]; exact (step_o (fun q => nle0.mpr q c2) (fun q => nle5.mpr q c3) (Or.inl c4) c5).symm) (by exact hS) (by exact hF) (by omega)
              · skip
                obtain ⟨y, r1, rfl⟩ := cons_of (st := st) (by omega)
                obtain ⟨x, rr, rfl⟩ := cons_of (st := r1) (by simp only [List.length_cons] at c5; omega)
                have hl2 : rr.length + 2 ≤ i := hl
                show V κ (QM κ (132, ρ, GL, 0, 0) (P_X5_value h t c v)) 5 (132, ρ, GL, 0, 0) h1 107 [(4, .int cv), (0, .ref t), (1, .ref 30), (2, .int (nI (rr.length + 1 + 1))), (3, .int (nI i))] []
                refine v_iinc (v := nI (rr.length + 1)) (lv2 := [(2, .int (nI (rr.length + 1))), (4, .int cv), (0, .ref t), (1, .ref 30), (3, .int (nI i))]) K dX5_value_107 rfl (pk_m1 (rr.length + 1)) (by decide) rfl ?_
                refine v_aload_n K dX5_value_110 rfl ?_
                refine v_getr (q := t + 2) K fX5_19 Ht.o (Ht.l (k := 0) (by omega)) Ht.g2 dX5_value_111 ?_
                refine v_iload_n K dX5_value_114 rfl ?_
                refine v_iconstN K 1 rfl dX5_value_115 ?_
                refine v_isubN K (by omega) dX5_value_116 ?_
                refine v_iload K dX5_value_117 rfl ?_
                refine v_ineg K dX5_value_119 ?_
                refine v_aload_n K dX5_value_120 rfl ?_
                refine v_getr (q := t + 2) K fX5_19 Ht.o (Ht.l (k := 0) (by omega)) Ht.g2 dX5_value_121 ?_
                refine v_iload_n K dX5_value_124 rfl ?_
                refine v_iconstN K 1 rfl dX5_value_125 ?_
                refine v_isubN K (by omega) dX5_value_126 ?_
                refine v_iald (x := x) K Ht.s (Ht.l (by omega)) (by omega) hS.tail.top dX5_value_127 ?_
                refine v_aload_n K dX5_value_128 rfl ?_
                refine v_getr (q := t + 2) K fX5_19 Ht.o (Ht.l (k := 0) (by omega)) Ht.g2 dX5_value_129 ?_
                refine v_iload_n K dX5_value_132 rfl ?_
                refine v_iald (x := y) K Ht.s (Ht.l (by omega)) (by omega) hS.top dX5_value_133 ?_
                refine v_callS (As := [.int (-cv), .int x, .int y]) K (c_X5_join h1 (-cv) x y) lX5_32 rfl ⟨by decide, by decide⟩ (Nat.le_of_ble_eq_true rfl) dX5_value_134 (fun r1 h1 hp1 => ?_) rfl
                obtain ⟨rfl, rfl⟩ := hp1
                refine v_some ?_
                refine v_iast K Ht.s (Ht.l (by omega)) (by omega) dX5_value_137 ?_
                refine v_iincN (lv2 := [(3, .int (nI (i + 1))), (2, .int (nI (rr.length + 1))), (4, .int cv), (0, .ref t), (1, .ref 30)]) K 1 dX5_value_138 rfl rfl (by decide) rfl ?_
                refine v_goto (tgt := 4) K dX5_value_141 rfl ?_
                refine v_sub (lv2 := [(0, .ref t), (1, .ref 30), (2, .int (nI (rr.length + 1))), (3, .int (nI (i + 1)))]) (by simp) ?_
                exact ih4 (i + 1) ((joinR (-cv) x y :: rr)) ((u2 h1 (t + 2) (rr.length + 1 - 1) (joinR (-cv) x y))) (by first | assumption | omega | rfl) (by rw [run_take (by omega), ← hst, ← e_cv]; exact (step_j (fun q => nle0.mpr q c2) (fun q => nle5.mpr q c3) c4).symm) (by exact hS.tail.tail.push) (by exact hF.u (by omega) (by omega)) (by omega)
            · skip
              refine v_iload_n K dX5_value_71 rfl ?_
              refine v_ifN_le (tgt := 102) K (by omega) dX5_value_72 rfl (fun c6 => ?_) (fun c6 => ?_)
              · skip
                refine v_iload_n K dX5_value_102 rfl ?_
                refine v_iconstN K 1 rfl dX5_value_103 ?_
                refine v_icmpN_le (tgt := 138) K (by omega) (by omega) dX5_value_104 rfl (fun c7 => ?_) (fun c7 => ?_)
                · skip
                  refine v_iincN (lv2 := [(3, .int (nI (i + 1))), (4, .int cv), (0, .ref t), (1, .ref 30), (2, .int (nI st.length))]) K 1 dX5_value_138 rfl rfl (by decide) rfl ?_
                  refine v_goto (tgt := 4) K dX5_value_141 rfl ?_
                  refine v_sub (lv2 := [(0, .ref t), (1, .ref 30), (2, .int (nI st.length)), (3, .int (nI (i + 1)))]) (by simp) ?_
                  exact ih4 (i + 1) st h1 (by first | assumption | omega | rfl) (by rw [run_take (by omega), ← hst, ← e_cv]; exact (step_o (fun q => nle0.mpr q c2) (fun q => nle5.mpr q c3) (Or.inr (List.eq_nil_of_length_eq_zero c6)) c7).symm) (by exact hS) (by exact hF) (by omega)
                · skip
                  exfalso; omega
              · skip
                obtain ⟨x, rr, rfl⟩ := cons_of (st := st) c6
                have hl2 : rr.length + 1 ≤ i := hl
                show V κ (QM κ (132, ρ, GL, 0, 0) (P_X5_value h t c v)) 5 (132, ρ, GL, 0, 0) h1 75 [(4, .int cv), (0, .ref t), (1, .ref 30), (2, .int (nI (rr.length + 1))), (3, .int (nI i))] []
                refine v_aload_n K dX5_value_75 rfl ?_
                refine v_getr (q := t + 2) K fX5_19 Ht.o (Ht.l (k := 0) (by omega)) Ht.g2 dX5_value_76 ?_
                refine v_iload_n K dX5_value_79 rfl ?_
                refine v_iconstN K 1 rfl dX5_value_80 ?_
                refine v_isubN K (by omega) dX5_value_81 ?_
                refine v_aload_n K dX5_value_82 rfl ?_
                refine v_getr (q := t + 2) K fX5_19 Ht.o (Ht.l (k := 0) (by omega)) Ht.g2 dX5_value_83 ?_
                refine v_iload_n K dX5_value_86 rfl ?_
                refine v_iconstN K 1 rfl dX5_value_87 ?_
                refine v_isubN K (by omega) dX5_value_88 ?_
                refine v_iald (x := x) K Ht.s (Ht.l (by omega)) (by omega) hS.top dX5_value_89 ?_
                refine v_if_ne (tgt := 97) K dX5_value_90 rfl (fun c8 => ?_) (fun c8 => ?_)
                · skip
                  refine v_iconstN K 0 rfl dX5_value_97 ?_
                  refine v_iast K Ht.s (Ht.l (by omega)) (by omega) dX5_value_98 ?_
                  refine v_goto (tgt := 138) K dX5_value_99 rfl ?_
                  refine v_iincN (lv2 := [(3, .int (nI (i + 1))), (4, .int cv), (0, .ref t), (1, .ref 30), (2, .int (nI (rr.length + 1)))]) K 1 dX5_value_138 rfl rfl (by decide) rfl ?_
                  refine v_goto (tgt := 4) K dX5_value_141 rfl ?_
                  refine v_sub (lv2 := [(0, .ref t), (1, .ref 30), (2, .int (nI (rr.length + 1))), (3, .int (nI (i + 1)))]) (by simp) ?_
                  exact ih4 (i + 1) ((b2i (x = 0) :: rr)) ((u2 h1 (t + 2) (rr.length + 1 - 1) (nI 0))) (by first | assumption | omega | rfl) (by rw [run_take (by omega), ← hst, ← e_cv]; exact (step_b (fun q => nle0.mpr q c2) (fun q => nle5.mpr q c3) c4).symm) (by rw [b2i_f c8]; exact hS.tail.push) (by exact hF.u (by omega) (by omega)) (by omega)
                · skip
                  refine v_iconstN K 1 rfl dX5_value_93 ?_
                  refine v_goto (tgt := 98) K dX5_value_94 rfl ?_
                  refine v_iast K Ht.s (Ht.l (by omega)) (by omega) dX5_value_98 ?_
                  refine v_goto (tgt := 138) K dX5_value_99 rfl ?_
                  refine v_iincN (lv2 := [(3, .int (nI (i + 1))), (4, .int cv), (0, .ref t), (1, .ref 30), (2, .int (nI (rr.length + 1)))]) K 1 dX5_value_138 rfl rfl (by decide) rfl ?_
                  refine v_goto (tgt := 4) K dX5_value_141 rfl ?_
                  refine v_sub (lv2 := [(0, .ref t), (1, .ref 30), (2, .int (nI (rr.length + 1))), (3, .int (nI (i + 1)))]) (by simp) ?_
                  exact ih4 (i + 1) ((b2i (x = 0) :: rr)) ((u2 h1 (t + 2) (rr.length + 1 - 1) (nI 1))) (by first | assumption | omega | rfl) (by rw [run_take (by omega), ← hst, ← e_cv]; exact (step_b (fun q => nle0.mpr q c2) (fun q => nle5.mpr q c3) c4).symm) (by rw [b2i_t c8]; exact hS.tail.push) (by exact hF.u (by omega) (by omega)) (by omega)
          · skip
            refine v_aload_n K dX5_value_46 rfl ?_
            refine v_getr (q := t + 2) K fX5_19 Ht.o (Ht.l (k := 0) (by omega)) Ht.g2 dX5_value_47 ?_
            refine v_iload_n K dX5_value_50 rfl ?_
            refine v_aload_n K dX5_value_51 rfl ?_
            refine v_iconst (v := (-1)) K dX5_value_52 (by decide) ?_
            refine v_iload K dX5_value_53 rfl ?_
            refine v_isub K dX5_value_55 ?_
            obtain ⟨j, hj, ej⟩ := neg5 (c := cv) (fun q => nle0.mpr q c2) (nle5.mp c3)
            refine v_top ej ?_
            refine v_iald (x := h 30 j) K sh_30 pl_30 (by omega) (congrFun (hF 30 (by rcases Ht with rfl | rfl | rfl <;> omega)) j) dX5_value_56 ?_
            refine v_iast K Ht.s (Ht.l (by omega)) (by omega) dX5_value_57 ?_
            refine v_iincN (lv2 := [(2, .int (nI (st.length + 1))), (4, .int cv), (0, .ref t), (1, .ref 30), (3, .int (nI i))]) K 1 dX5_value_58 rfl rfl (by decide) rfl ?_
            refine v_goto (tgt := 138) K dX5_value_61 rfl ?_
            refine v_iincN (lv2 := [(3, .int (nI (i + 1))), (2, .int (nI (st.length + 1))), (4, .int cv), (0, .ref t), (1, .ref 30)]) K 1 dX5_value_138 rfl rfl (by decide) rfl ?_
            refine v_goto (tgt := 4) K dX5_value_141 rfl ?_
            refine v_sub (lv2 := [(0, .ref t), (1, .ref 30), (2, .int (nI (st.length + 1))), (3, .int (nI (i + 1)))]) (by simp) ?_
            exact ih4 (i + 1) ((h 30 j :: st)) ((u2 h1 (t + 2) st.length (h 30 j))) (by first | assumption | omega | rfl) (by rw [run_take (by omega), ← hst, ← e_cv]; exact (step_m (fun q => nle0.mpr q c2) (nle5.mp c3) hj ej).symm) (by exact hS.push) (by exact hF.u (by omega) (by omega)) (by omega)
        · skip
          refine v_aload_n K dX5_value_25 rfl ?_
          refine v_getr (q := t + 2) K fX5_19 Ht.o (Ht.l (k := 0) (by omega)) Ht.g2 dX5_value_26 ?_
          refine v_iload_n K dX5_value_29 rfl ?_
          refine v_iload K dX5_value_30 rfl ?_
          refine v_iast K Ht.s (Ht.l (by omega)) (by omega) dX5_value_32 ?_
          refine v_iincN (lv2 := [(2, .int (nI (st.length + 1))), (4, .int cv), (0, .ref t), (1, .ref 30), (3, .int (nI i))]) K 1 dX5_value_33 rfl rfl (by decide) rfl ?_
          refine v_goto (tgt := 138) K dX5_value_36 rfl ?_
          refine v_iincN (lv2 := [(3, .int (nI (i + 1))), (2, .int (nI (st.length + 1))), (4, .int cv), (0, .ref t), (1, .ref 30)]) K 1 dX5_value_138 rfl rfl (by decide) rfl ?_
          refine v_goto (tgt := 4) K dX5_value_141 rfl ?_
          refine v_sub (lv2 := [(0, .ref t), (1, .ref 30), (2, .int (nI (st.length + 1))), (3, .int (nI (i + 1)))]) (by simp) ?_
          exact ih4 (i + 1) ((cv :: st)) ((u2 h1 (t + 2) st.length cv)) (by first | assumption | omega | rfl) (by rw [run_take (by omega), ← hst, ← e_cv]; exact (step_n (nle0.mp c2)).symm) (by exact hS.push) (by exact hF.u (by omega) (by omega)) (by omega)
  refine v_sub (lv2 := [(0, .ref t), (1, .ref 30), (2, .int (nI 0)), (3, .int (nI 0))]) (by simp) ?_
  exact L4 (c.length + 1 - 0 + 1) 0 ([]) h (by first | assumption | omega | rfl) (by rfl) (by intro k hk; exact absurd hk (Nat.not_lt_zero _)) (by exact FrO.r) (Nat.lt_succ_self _)
