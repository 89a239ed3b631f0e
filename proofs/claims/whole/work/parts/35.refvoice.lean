/-! VOICES: what a KIND o says, by BODIES -/
def vcT (o : Nat) (x n : Int32) : Int32 := match o with
  | 4 => (x + nI 1 + n) * nI 3
  | 2 => (x + n) * nI 3
  | _ => x + n
def vcTt (o : Nat) : List Nat := match o with
  | 4 => [50, 30, 10]
  | 2 => [30, 10]
  | _ => [10]
def vcS (o : Nat) (x m : Int32) : Int32 := match o with
  | 3 => -(x - m)
  | 5 => -(x - m)
  | _ => x - m
def vcSt (o : Nat) : List Nat := match o with
  | 3 => [40, 12]
  | 5 => [40, 12]
  | _ => [12]
def vcF (o k : Nat) (x n m : Int32) : Int32 := match k with
  | 1 => vcT o x n * nI 2 - vcS o (nI 1) m
  | 6 => (vcT o x n * nI 2 - vcS o (nI 1) m) ^^^ n
  | _ => vcT o x n * nI 2
def vcFt (o k : Nat) : List Nat := match k with
  | 1 => [20] ++ ([11] ++ vcTt o) ++ vcSt o
  | 6 => [70] ++ ([20] ++ ([11] ++ vcTt o) ++ vcSt o)
  | _ => [11] ++ vcTt o
def vcL (o k : Nat) (x n m : Int32) : Int32 := match k with
  | 5 => (vcF o o x n m ^^^ vcS o x m) - vcT o (nI 2) n
  | 6 => vcF o o x n m - (vcF o o x n m ^^^ vcS o x m)
  | _ => vcF o o x n m ^^^ vcS o x m
def vcLt (o k : Nat) : List Nat := match k with
  | 5 => [60] ++ ([13] ++ vcFt o o ++ vcSt o) ++ vcTt o
  | 6 => [71] ++ vcFt o o ++ ([13] ++ vcFt o o ++ vcSt o)
  | _ => [13] ++ vcFt o o ++ vcSt o
theorem vcTt_len {o : Nat} (h : o < 7) : (vcTt o).length ≤ 3 := by
  have : ∀ o, o < 7 → (vcTt o).length ≤ 3 := by decide
  exact this o h
theorem vcSt_len {o : Nat} (h : o < 7) : (vcSt o).length ≤ 2 := by
  have : ∀ o, o < 7 → (vcSt o).length ≤ 2 := by decide
  exact this o h
theorem vcFt_len {o k : Nat} (h : o < 7) (hk : k < 7) : (vcFt o k).length ≤ 8 := by
  have : ∀ o, o < 7 → ∀ k, k < 7 → (vcFt o k).length ≤ 8 := by decide
  exact this o h k hk
theorem vcLt_len {o k : Nat} (h : o < 7) (hk : k < 7) : (vcLt o k).length ≤ 20 := by
  have : ∀ o, o < 7 → ∀ k, k < 7 → (vcLt o k).length ≤ 20 := by decide
  exact this o h k hk
def vcV (o a : Nat) (x n m : Int32) : Int32 := match a with
  | 0 => vcT o x n
  | 1 => vcF o o x n m
  | 2 => vcS o x m
  | _ => vcL o o x n m
def vcVt (o a : Nat) : List Nat := match a with
  | 0 => vcTt o
  | 1 => vcFt o o
  | 2 => vcSt o
  | _ => vcLt o o
/-- the trace L laid over a row -/
def trR (f : Nat → Int32) (L : List Nat) : Nat → Int32 := fun k => if k < L.length then nI (L.getD k 0) else f k
theorem tr_nil {f : Nat → Int32} : trR f [] = f := by funext k; exact if_neg (Nat.not_lt_zero _)
theorem tr_snoc {f : Nat → Int32} {L : List Nat} {b : Nat} : upd (trR f L) L.length (nI b) = trR f (L ++ [b]) := by
  funext k
  by_cases e : k = L.length
  · subst e
    unfold trR
    rw [upd_at, if_pos (by simp), List.getD_eq_getElem?_getD, List.getElem?_append_right (Nat.le_refl _), Nat.sub_self]; rfl
  · rw [upd_ne e]
    unfold trR
    by_cases c : k < L.length
    · rw [if_pos c, if_pos (by simp; omega), List.getD_eq_getElem?_getD, List.getD_eq_getElem?_getD, List.getElem?_append_left c]
    · rw [if_neg c, if_neg (by simp; omega)]

def VS (s : Mm) (L : List Nat) : Mm := u2 (rw2 s 127 (trR (s 127) L)) 118 16 (nI L.length)
theorem vs_119 {s : Mm} {L : List Nat} : VS s L 119 = s 119 := by unfold VS; rw [u2_off (by omega), rw2_off (by omega)]
theorem vs_16 {s : Mm} {L : List Nat} : VS s L 118 16 = nI L.length := u2_at
theorem vs_nil {s : Mm} : u2 s 118 16 (nI 0) = VS s [] := by unfold VS; rw [tr_nil, rw2_self]; rfl
theorem vs_snoc {s : Mm} {L : List Nat} {b : Nat} : u2 (u2 (VS s L) 127 L.length (nI b)) 118 16 (nI (L.length + 1)) = VS s (L ++ [b]) := by
  have e : (L ++ [b]).length = L.length + 1 := by simp
  unfold VS
  funext x y
  by_cases h1 : x = 118 ∧ y = 16
  · obtain ⟨rfl, rfl⟩ := h1; rw [u2_at, u2_at, e]
  · rw [u2_ne (by omega), u2_ne (h := rw2 s 127 (trR (s 127) (L ++ [b]))) (by omega)]
    by_cases h2 : x = 127
    · subst h2; rw [u2_row, u2_off (by omega), rw2_at, rw2_at, tr_snoc]
    · rw [u2_off h2, u2_ne (by omega), rw2_off h2, rw2_off h2]
theorem tr_vs {s : Mm} {L : List Nat} {k : Nat} (h : k < L.length) : VS s L 127 k = nI (L.getD k 0) := by
  unfold VS; rw [u2_off (by omega), rw2_at]; exact if_pos h

abbrev P_X10_ran (h s : Mm) (w b : Nat) (L : List Nat) : Option Value → Mm → Prop := fun r h2 => r = none ∧ RR h2 (VS s (L ++ [b])) ∧ h2 118 17 = nI w
theorem c_X10_ran {l : Launch} (h s : Mm) (w b : Nat) (L : List Nat) (hR : RR h (VS s L)) (hw : h 118 17 = nI w) (hL : L.length < 40) : Con l yX10_ran cX10_ran 2 none 0 0 132 GL h [.ref 118, .int (nI b)] (P_X10_ran h s w b L) := by
  refine Con.ofV (own := "FoxRoundsModel") (nm := "ran") rfl rfl (by decide) (Nat.le_of_ble_eq_true rfl) ?_
  intro κ ρ hkl K
  subst hkl
  show V κ (QM κ (132, ρ, GL, 0, 0) (P_X10_ran h s w b L)) 2 (132, ρ, GL, 0, 0) h 0 [(0, .ref 118), (1, .int (nI b))] []
  refine v_aload_n K dX10_ran_0 rfl ?_
  refine v_geti (x := nI L.length) K fX10_268 sh_118 pl_118 (hR.2.2.trans vs_16) dX10_ran_1 ?_
  refine v_bipushN K 40 rfl dX10_ran_4 ?_
  refine v_icmpN_ge (tgt := 29) K (by omega) (by omega) dX10_ran_6 rfl (fun c1 => ?_) (fun c1 => ?_)
  · skip
    exfalso; omega
  · skip
    refine v_aload_n K dX10_ran_9 rfl ?_
    refine v_getr (q := 127) K fX10_35 sh_118 pl_118 gl_118_15 dX10_ran_10 ?_
    refine v_aload_n K dX10_ran_13 rfl ?_
    refine v_geti (x := nI L.length) K fX10_268 sh_118 pl_118 (hR.2.2.trans vs_16) dX10_ran_14 ?_
    refine v_iload_n K dX10_ran_17 rfl ?_
    refine v_iast K sh_127 pl_127 (by omega) dX10_ran_18 ?_
    refine v_aload_n K dX10_ran_19 rfl ?_
    refine v_dup K dX10_ran_20 rfl ?_
    refine v_geti (x := nI L.length) K fX10_268 sh_118 pl_118 ((u2_ne (by omega)).trans (hR.2.2.trans vs_16)) dX10_ran_21 ?_
    refine v_iconstN K 1 rfl dX10_ran_24 ?_
    refine v_iaddN K dX10_ran_25 ?_
    refine v_puti K pX10_268 sh_118 pl_118 dX10_ran_26 ?_
    refine v_vret K dX10_ran_29 ?_
    exact ⟨rfl, by rw [← vs_snoc]; exact (hR.u RA_127).o (by omega), (u2_ne (by omega)).trans ((u2_ne (by omega)).trans hw)⟩

abbrev P_X10_above_0 (h : Mm) : Option Value → Mm → Prop := fun r h2 => r = some (.int (nI 0)) ∧ h = h2
theorem c_X10_above_0 {l : Launch} (h : Mm)  : Con l yX10_above cX10_above 1 (some .int) 0 0 132 GL h [.int (nI 0)] (P_X10_above_0 h) := by
  refine Con.ofV (own := "FoxRoundsModel") (nm := "above") rfl rfl (by decide) (Nat.le_of_ble_eq_true rfl) ?_
  intro κ ρ hkl K
  subst hkl
  show V κ (QM κ (132, ρ, GL, 0, 0) (P_X10_above_0 h)) 1 (132, ρ, GL, 0, 0) h 0 [(0, .int (nI 0))] []
  refine v_iload_n K dX10_above_0 rfl ?_
  refine v_iconstN K 4 rfl dX10_above_1 ?_
  refine v_icmpN_ne (tgt := 9) K (by omega) (by omega) dX10_above_2 rfl (fun c1 => ?_) (fun c1 => ?_)
  · skip
    refine v_iload_n K dX10_above_9 rfl ?_
    refine v_iconstN K 5 rfl dX10_above_10 ?_
    refine v_icmpN_ne (tgt := 18) K (by omega) (by omega) dX10_above_11 rfl (fun c2 => ?_) (fun c2 => ?_)
    · skip
      refine v_iload_n K dX10_above_18 rfl ?_
      refine v_bipushN K 6 rfl dX10_above_19 ?_
      refine v_icmpN_ne (tgt := 28) K (by omega) (by omega) dX10_above_21 rfl (fun c3 => ?_) (fun c3 => ?_)
      · skip
        refine v_iconstN K 0 rfl dX10_above_28 ?_
        refine v_iret K dX10_above_29 ?_
        exact ⟨rfl, rfl⟩
      · exact absurd c3 (by decide)
    · exact absurd c2 (by decide)
  · exact absurd c1 (by decide)

abbrev P_X10_above_1 (h : Mm) : Option Value → Mm → Prop := fun r h2 => r = some (.int (nI 0)) ∧ h = h2
theorem c_X10_above_1 {l : Launch} (h : Mm)  : Con l yX10_above cX10_above 1 (some .int) 0 0 132 GL h [.int (nI 1)] (P_X10_above_1 h) := by
  refine Con.ofV (own := "FoxRoundsModel") (nm := "above") rfl rfl (by decide) (Nat.le_of_ble_eq_true rfl) ?_
  intro κ ρ hkl K
  subst hkl
  show V κ (QM κ (132, ρ, GL, 0, 0) (P_X10_above_1 h)) 1 (132, ρ, GL, 0, 0) h 0 [(0, .int (nI 1))] []
  refine v_iload_n K dX10_above_0 rfl ?_
  refine v_iconstN K 4 rfl dX10_above_1 ?_
  refine v_icmpN_ne (tgt := 9) K (by omega) (by omega) dX10_above_2 rfl (fun c1 => ?_) (fun c1 => ?_)
  · skip
    refine v_iload_n K dX10_above_9 rfl ?_
    refine v_iconstN K 5 rfl dX10_above_10 ?_
    refine v_icmpN_ne (tgt := 18) K (by omega) (by omega) dX10_above_11 rfl (fun c2 => ?_) (fun c2 => ?_)
    · skip
      refine v_iload_n K dX10_above_18 rfl ?_
      refine v_bipushN K 6 rfl dX10_above_19 ?_
      refine v_icmpN_ne (tgt := 28) K (by omega) (by omega) dX10_above_21 rfl (fun c3 => ?_) (fun c3 => ?_)
      · skip
        refine v_iconstN K 0 rfl dX10_above_28 ?_
        refine v_iret K dX10_above_29 ?_
        exact ⟨rfl, rfl⟩
      · exact absurd c3 (by decide)
    · exact absurd c2 (by decide)
  · exact absurd c1 (by decide)

abbrev P_X10_above_2 (h : Mm) : Option Value → Mm → Prop := fun r h2 => r = some (.int (nI 0)) ∧ h = h2
theorem c_X10_above_2 {l : Launch} (h : Mm)  : Con l yX10_above cX10_above 1 (some .int) 0 0 132 GL h [.int (nI 2)] (P_X10_above_2 h) := by
  refine Con.ofV (own := "FoxRoundsModel") (nm := "above") rfl rfl (by decide) (Nat.le_of_ble_eq_true rfl) ?_
  intro κ ρ hkl K
  subst hkl
  show V κ (QM κ (132, ρ, GL, 0, 0) (P_X10_above_2 h)) 1 (132, ρ, GL, 0, 0) h 0 [(0, .int (nI 2))] []
  refine v_iload_n K dX10_above_0 rfl ?_
  refine v_iconstN K 4 rfl dX10_above_1 ?_
  refine v_icmpN_ne (tgt := 9) K (by omega) (by omega) dX10_above_2 rfl (fun c1 => ?_) (fun c1 => ?_)
  · skip
    refine v_iload_n K dX10_above_9 rfl ?_
    refine v_iconstN K 5 rfl dX10_above_10 ?_
    refine v_icmpN_ne (tgt := 18) K (by omega) (by omega) dX10_above_11 rfl (fun c2 => ?_) (fun c2 => ?_)
    · skip
      refine v_iload_n K dX10_above_18 rfl ?_
      refine v_bipushN K 6 rfl dX10_above_19 ?_
      refine v_icmpN_ne (tgt := 28) K (by omega) (by omega) dX10_above_21 rfl (fun c3 => ?_) (fun c3 => ?_)
      · skip
        refine v_iconstN K 0 rfl dX10_above_28 ?_
        refine v_iret K dX10_above_29 ?_
        exact ⟨rfl, rfl⟩
      · exact absurd c3 (by decide)
    · exact absurd c2 (by decide)
  · exact absurd c1 (by decide)

abbrev P_X10_above_3 (h : Mm) : Option Value → Mm → Prop := fun r h2 => r = some (.int (nI 0)) ∧ h = h2
theorem c_X10_above_3 {l : Launch} (h : Mm)  : Con l yX10_above cX10_above 1 (some .int) 0 0 132 GL h [.int (nI 3)] (P_X10_above_3 h) := by
  refine Con.ofV (own := "FoxRoundsModel") (nm := "above") rfl rfl (by decide) (Nat.le_of_ble_eq_true rfl) ?_
  intro κ ρ hkl K
  subst hkl
  show V κ (QM κ (132, ρ, GL, 0, 0) (P_X10_above_3 h)) 1 (132, ρ, GL, 0, 0) h 0 [(0, .int (nI 3))] []
  refine v_iload_n K dX10_above_0 rfl ?_
  refine v_iconstN K 4 rfl dX10_above_1 ?_
  refine v_icmpN_ne (tgt := 9) K (by omega) (by omega) dX10_above_2 rfl (fun c1 => ?_) (fun c1 => ?_)
  · skip
    refine v_iload_n K dX10_above_9 rfl ?_
    refine v_iconstN K 5 rfl dX10_above_10 ?_
    refine v_icmpN_ne (tgt := 18) K (by omega) (by omega) dX10_above_11 rfl (fun c2 => ?_) (fun c2 => ?_)
    · skip
      refine v_iload_n K dX10_above_18 rfl ?_
      refine v_bipushN K 6 rfl dX10_above_19 ?_
      refine v_icmpN_ne (tgt := 28) K (by omega) (by omega) dX10_above_21 rfl (fun c3 => ?_) (fun c3 => ?_)
      · skip
        refine v_iconstN K 0 rfl dX10_above_28 ?_
        refine v_iret K dX10_above_29 ?_
        exact ⟨rfl, rfl⟩
      · exact absurd c3 (by decide)
    · exact absurd c2 (by decide)
  · exact absurd c1 (by decide)

abbrev P_X10_above_4 (h : Mm) : Option Value → Mm → Prop := fun r h2 => r = some (.int (nI 2)) ∧ h = h2
theorem c_X10_above_4 {l : Launch} (h : Mm)  : Con l yX10_above cX10_above 1 (some .int) 0 0 132 GL h [.int (nI 4)] (P_X10_above_4 h) := by
  refine Con.ofV (own := "FoxRoundsModel") (nm := "above") rfl rfl (by decide) (Nat.le_of_ble_eq_true rfl) ?_
  intro κ ρ hkl K
  subst hkl
  show V κ (QM κ (132, ρ, GL, 0, 0) (P_X10_above_4 h)) 1 (132, ρ, GL, 0, 0) h 0 [(0, .int (nI 4))] []
  refine v_iload_n K dX10_above_0 rfl ?_
  refine v_iconstN K 4 rfl dX10_above_1 ?_
  refine v_icmpN_ne (tgt := 9) K (by omega) (by omega) dX10_above_2 rfl (fun c1 => ?_) (fun c1 => ?_)
  · exact absurd c1 (by decide)
  · skip
    refine v_iconstN K 2 rfl dX10_above_5 ?_
    refine v_goto (tgt := 29) K dX10_above_6 rfl ?_
    refine v_iret K dX10_above_29 ?_
    exact ⟨rfl, rfl⟩

abbrev P_X10_above_5 (h : Mm) : Option Value → Mm → Prop := fun r h2 => r = some (.int (nI 3)) ∧ h = h2
theorem c_X10_above_5 {l : Launch} (h : Mm)  : Con l yX10_above cX10_above 1 (some .int) 0 0 132 GL h [.int (nI 5)] (P_X10_above_5 h) := by
  refine Con.ofV (own := "FoxRoundsModel") (nm := "above") rfl rfl (by decide) (Nat.le_of_ble_eq_true rfl) ?_
  intro κ ρ hkl K
  subst hkl
  show V κ (QM κ (132, ρ, GL, 0, 0) (P_X10_above_5 h)) 1 (132, ρ, GL, 0, 0) h 0 [(0, .int (nI 5))] []
  refine v_iload_n K dX10_above_0 rfl ?_
  refine v_iconstN K 4 rfl dX10_above_1 ?_
  refine v_icmpN_ne (tgt := 9) K (by omega) (by omega) dX10_above_2 rfl (fun c1 => ?_) (fun c1 => ?_)
  · skip
    refine v_iload_n K dX10_above_9 rfl ?_
    refine v_iconstN K 5 rfl dX10_above_10 ?_
    refine v_icmpN_ne (tgt := 18) K (by omega) (by omega) dX10_above_11 rfl (fun c2 => ?_) (fun c2 => ?_)
    · exact absurd c2 (by decide)
    · skip
      refine v_iconstN K 3 rfl dX10_above_14 ?_
      refine v_goto (tgt := 29) K dX10_above_15 rfl ?_
      refine v_iret K dX10_above_29 ?_
      exact ⟨rfl, rfl⟩
  · exact absurd c1 (by decide)

abbrev P_X10_above_6 (h : Mm) : Option Value → Mm → Prop := fun r h2 => r = some (.int (nI 1)) ∧ h = h2
theorem c_X10_above_6 {l : Launch} (h : Mm)  : Con l yX10_above cX10_above 1 (some .int) 0 0 132 GL h [.int (nI 6)] (P_X10_above_6 h) := by
  refine Con.ofV (own := "FoxRoundsModel") (nm := "above") rfl rfl (by decide) (Nat.le_of_ble_eq_true rfl) ?_
  intro κ ρ hkl K
  subst hkl
  show V κ (QM κ (132, ρ, GL, 0, 0) (P_X10_above_6 h)) 1 (132, ρ, GL, 0, 0) h 0 [(0, .int (nI 6))] []
  refine v_iload_n K dX10_above_0 rfl ?_
  refine v_iconstN K 4 rfl dX10_above_1 ?_
  refine v_icmpN_ne (tgt := 9) K (by omega) (by omega) dX10_above_2 rfl (fun c1 => ?_) (fun c1 => ?_)
  · skip
    refine v_iload_n K dX10_above_9 rfl ?_
    refine v_iconstN K 5 rfl dX10_above_10 ?_
    refine v_icmpN_ne (tgt := 18) K (by omega) (by omega) dX10_above_11 rfl (fun c2 => ?_) (fun c2 => ?_)
    · skip
      refine v_iload_n K dX10_above_18 rfl ?_
      refine v_bipushN K 6 rfl dX10_above_19 ?_
      refine v_icmpN_ne (tgt := 28) K (by omega) (by omega) dX10_above_21 rfl (fun c3 => ?_) (fun c3 => ?_)
      · exact absurd c3 (by decide)
      · skip
        refine v_iconstN K 1 rfl dX10_above_24 ?_
        refine v_goto (tgt := 29) K dX10_above_25 rfl ?_
        refine v_iret K dX10_above_29 ?_
        exact ⟨rfl, rfl⟩
    · exact absurd c2 (by decide)
  · exact absurd c1 (by decide)

abbrev P_X10_own (h s : Mm) (w o : Nat) (L : List Nat) : Option Value → Mm → Prop := fun r h2 => r = some (.int (nI o)) ∧ h = h2
theorem c_X10_own {l : Launch} (h s : Mm) (w o : Nat) (L : List Nat) (hR : RR h (VS s L)) (hw : h 118 17 = nI w) (hw8 : w < 8) (ho : s 119 (46 + 6 * w + 0) = nI o) : Con l yX10_own cX10_own 1 (some .int) 1 22 132 GL h [.ref 118] (P_X10_own h s w o L) := by
  refine Con.ofV (own := "FoxRoundsModel") (nm := "own") rfl rfl (by decide) (Nat.le_of_ble_eq_true rfl) ?_
  intro κ ρ hkl K
  subst hkl
  show V κ (QM κ (132, ρ, GL, 0, 0) (P_X10_own h s w o L)) 1 (132, ρ, GL, 0, 0) h 0 [(0, .ref 118)] []
  refine v_aload_n K dX10_own_0 rfl ?_
  refine v_getr (q := 119) K fX10_7 sh_118 pl_118 gl_118_0 dX10_own_1 ?_
  refine v_aload_n K dX10_own_4 rfl ?_
  refine v_geti (x := nI w) K fX10_271 sh_118 pl_118 hw dX10_own_5 ?_
  refine v_iconstN K 0 rfl dX10_own_8 ?_
  refine v_callS (As := [.ref 119, .int (nI w), .int (nI 0)]) K (c_X10_of h 119 w 0 mP_119 (by omega)) lX10_170 rfl ⟨by decide, by decide⟩ (Nat.le_of_ble_eq_true rfl) dX10_own_9 (fun r1 h1 hp1 => ?_) rfl
  obtain ⟨rfl, rfl⟩ := hp1
  refine v_some ?_
  rw [show h 119 (46 + 6 * w + 0) = nI o from ((hR.at RA_119).trans (congrFun vs_119 _)).trans ho]
  refine v_iret K dX10_own_12 ?_
  exact ⟨rfl, rfl⟩

abbrev P_X10_triesOf_0 (h s : Mm) (w o : Nat) (x : Int32) (L : List Nat) : Option Value → Mm → Prop := fun r h2 => r = some (.int (vcT 0 x (nI w))) ∧ RR h2 (VS s (L ++ vcTt 0)) ∧ h2 118 17 = nI w
theorem c_X10_triesOf_0 {l : Launch} (h s : Mm) (w o : Nat) (x : Int32) (L : List Nat) (hR : RR h (VS s L)) (hw : h 118 17 = nI w) (hw8 : w < 8) (ho : s 119 (46 + 6 * w + 0) = nI o) (ho7 : o < 7) (hL : L.length ≤ 36) : Con l yX10_triesOf cX10_triesOf 3 (some .int) 1 21 132 GL h [.ref 118, .int (nI 0), .int x] (P_X10_triesOf_0 h s w o x L) := by
  refine Con.ofV (own := "FoxRoundsModel") (nm := "triesOf") rfl rfl (by decide) (Nat.le_of_ble_eq_true rfl) ?_
  intro κ ρ hkl K
  subst hkl
  show V κ (QM κ (132, ρ, GL, 0, 0) (P_X10_triesOf_0 h s w o x L)) 3 (132, ρ, GL, 0, 0) h 0 [(0, .ref 118), (1, .int (nI 0)), (2, .int x)] []
  refine v_iload_n K dX10_triesOf_0 rfl ?_
  refine v_tinN (off := 35) (tgt := 36) K (by decide) 0 dX10_triesOf_1 (by decide) (by decide) (by decide) rfl rfl ?_
  refine v_aload_n K dX10_triesOf_36 rfl ?_
  refine v_bipushN K 10 rfl dX10_triesOf_37 ?_
  refine v_callV (As := [.int (nI 10)]) K (c_X10_ran h s w 10 (L) hR hw (by (try simp only [List.length_append, List.length_cons, List.length_nil]); have t1 := vcTt_len ho7; have t2 := vcSt_len ho7; have t3 := vcFt_len ho7 ho7; (try simp only [vcTt, vcSt, vcFt, vcLt, List.length_append, List.length_cons, List.length_nil] at *); omega)) lX10_274 ck_X10 rfl sh_118 pl_118 rfl ⟨by decide, by decide⟩ (Nat.le_of_ble_eq_true rfl) dX10_triesOf_39 (fun r1 h1 hp1 => ?_) rfl
  obtain ⟨rfl, hRq1, hwq1⟩ := hp1
  refine v_none ?_
  refine v_iload_n K dX10_triesOf_42 rfl ?_
  refine v_aload_n K dX10_triesOf_43 rfl ?_
  refine v_geti (x := nI w) K fX10_271 sh_118 pl_118 hwq1 dX10_triesOf_44 ?_
  refine v_iadd K dX10_triesOf_47 ?_
  refine v_iret K dX10_triesOf_48 ?_
  exact ⟨rfl, by first | exact hRq1 | (have hx := hRq1; simp only [List.append_assoc, List.cons_append, List.nil_append] at hx ⊢; exact hx), hwq1⟩

abbrev P_X10_triesOf_1 (h s : Mm) (w o : Nat) (x : Int32) (L : List Nat) : Option Value → Mm → Prop := fun r h2 => r = some (.int (vcT 1 x (nI w))) ∧ RR h2 (VS s (L ++ vcTt 1)) ∧ h2 118 17 = nI w
theorem c_X10_triesOf_1 {l : Launch} (h s : Mm) (w o : Nat) (x : Int32) (L : List Nat) (hR : RR h (VS s L)) (hw : h 118 17 = nI w) (hw8 : w < 8) (ho : s 119 (46 + 6 * w + 0) = nI o) (ho7 : o < 7) (hL : L.length ≤ 36) : Con l yX10_triesOf cX10_triesOf 3 (some .int) 2 43 132 GL h [.ref 118, .int (nI 1), .int x] (P_X10_triesOf_1 h s w o x L) := by
  refine Con.ofV (own := "FoxRoundsModel") (nm := "triesOf") rfl rfl (by decide) (Nat.le_of_ble_eq_true rfl) ?_
  intro κ ρ hkl K
  subst hkl
  show V κ (QM κ (132, ρ, GL, 0, 0) (P_X10_triesOf_1 h s w o x L)) 3 (132, ρ, GL, 0, 0) h 0 [(0, .ref 118), (1, .int (nI 1)), (2, .int x)] []
  refine v_iload_n K dX10_triesOf_0 rfl ?_
  refine v_tinN (off := 84) (tgt := 85) K (by decide) 1 dX10_triesOf_1 (by decide) (by decide) (by decide) rfl rfl ?_
  refine v_aload_n K dX10_triesOf_85 rfl ?_
  refine v_iload_n K dX10_triesOf_86 rfl ?_
  refine v_callS (As := [.int (nI 1)]) K (c_X10_above_1 h) lX10_277 rfl ⟨by decide, by decide⟩ (Nat.le_of_ble_eq_true rfl) dX10_triesOf_87 (fun r1 h1 hp1 => ?_) rfl
  obtain ⟨rfl, rfl⟩ := hp1
  refine v_some ?_
  refine v_iload_n K dX10_triesOf_90 rfl ?_
  refine v_callV (As := [.int (nI 0), .int x]) K (c_X10_triesOf_0 h s w o x (L) hR hw hw8 ho ho7 (by (try simp only [List.length_append, List.length_cons, List.length_nil]); have t1 := vcTt_len ho7; have t2 := vcSt_len ho7; have t3 := vcFt_len ho7 ho7; (try simp only [vcTt, vcSt, vcFt, vcLt, List.length_append, List.length_cons, List.length_nil] at *); omega)) lX10_280 ck_X10 rfl sh_118 pl_118 rfl ⟨by decide, by decide⟩ (Nat.le_of_ble_eq_true rfl) dX10_triesOf_91 (fun r2 h2 hp2 => ?_) rfl
  obtain ⟨rfl, hRq1, hwq1⟩ := hp2
  refine v_some ?_
  refine v_iret K dX10_triesOf_94 ?_
  exact ⟨rfl, by first | exact hRq1 | (have hx := hRq1; simp only [List.append_assoc, List.cons_append, List.nil_append] at hx ⊢; exact hx), hwq1⟩

abbrev P_X10_triesOf_2 (h s : Mm) (w o : Nat) (x : Int32) (L : List Nat) : Option Value → Mm → Prop := fun r h2 => r = some (.int (vcT 2 x (nI w))) ∧ RR h2 (VS s (L ++ vcTt 2)) ∧ h2 118 17 = nI w
theorem c_X10_triesOf_2 {l : Launch} (h s : Mm) (w o : Nat) (x : Int32) (L : List Nat) (hR : RR h (VS s L)) (hw : h 118 17 = nI w) (hw8 : w < 8) (ho : s 119 (46 + 6 * w + 0) = nI o) (ho7 : o < 7) (hL : L.length ≤ 35) : Con l yX10_triesOf cX10_triesOf 3 (some .int) 2 43 132 GL h [.ref 118, .int (nI 2), .int x] (P_X10_triesOf_2 h s w o x L) := by
  refine Con.ofV (own := "FoxRoundsModel") (nm := "triesOf") rfl rfl (by decide) (Nat.le_of_ble_eq_true rfl) ?_
  intro κ ρ hkl K
  subst hkl
  show V κ (QM κ (132, ρ, GL, 0, 0) (P_X10_triesOf_2 h s w o x L)) 3 (132, ρ, GL, 0, 0) h 0 [(0, .ref 118), (1, .int (nI 2)), (2, .int x)] []
  refine v_iload_n K dX10_triesOf_0 rfl ?_
  refine v_tinN (off := 48) (tgt := 49) K (by decide) 2 dX10_triesOf_1 (by decide) (by decide) (by decide) rfl rfl ?_
  refine v_aload_n K dX10_triesOf_49 rfl ?_
  refine v_bipushN K 30 rfl dX10_triesOf_50 ?_
  refine v_callV (As := [.int (nI 30)]) K (c_X10_ran h s w 30 (L) hR hw (by (try simp only [List.length_append, List.length_cons, List.length_nil]); have t1 := vcTt_len ho7; have t2 := vcSt_len ho7; have t3 := vcFt_len ho7 ho7; (try simp only [vcTt, vcSt, vcFt, vcLt, List.length_append, List.length_cons, List.length_nil] at *); omega)) lX10_274 ck_X10 rfl sh_118 pl_118 rfl ⟨by decide, by decide⟩ (Nat.le_of_ble_eq_true rfl) dX10_triesOf_52 (fun r1 h1 hp1 => ?_) rfl
  obtain ⟨rfl, hRq1, hwq1⟩ := hp1
  refine v_none ?_
  refine v_aload_n K dX10_triesOf_55 rfl ?_
  refine v_iconstN K 2 rfl dX10_triesOf_56 ?_
  refine v_callS (As := [.int (nI 2)]) K (c_X10_above_2 h1) lX10_277 rfl ⟨by decide, by decide⟩ (Nat.le_of_ble_eq_true rfl) dX10_triesOf_57 (fun r2 h2 hp2 => ?_) rfl
  obtain ⟨rfl, rfl⟩ := hp2
  refine v_some ?_
  refine v_iload_n K dX10_triesOf_60 rfl ?_
  refine v_callV (As := [.int (nI 0), .int x]) K (c_X10_triesOf_0 h1 s w o x (L ++ [30]) hRq1 hwq1 hw8 ho ho7 (by (try simp only [List.length_append, List.length_cons, List.length_nil]); have t1 := vcTt_len ho7; have t2 := vcSt_len ho7; have t3 := vcFt_len ho7 ho7; (try simp only [vcTt, vcSt, vcFt, vcLt, List.length_append, List.length_cons, List.length_nil] at *); omega)) lX10_280 ck_X10 rfl sh_118 pl_118 rfl ⟨by decide, by decide⟩ (Nat.le_of_ble_eq_true rfl) dX10_triesOf_61 (fun r3 h3 hp3 => ?_) rfl
  obtain ⟨rfl, hRq2, hwq2⟩ := hp3
  refine v_some ?_
  refine v_iconstN K 3 rfl dX10_triesOf_64 ?_
  refine v_imul K dX10_triesOf_65 ?_
  refine v_iret K dX10_triesOf_66 ?_
  exact ⟨rfl, by first | exact hRq2 | (have hx := hRq2; simp only [List.append_assoc, List.cons_append, List.nil_append] at hx ⊢; exact hx), hwq2⟩

abbrev P_X10_triesOf_3 (h s : Mm) (w o : Nat) (x : Int32) (L : List Nat) : Option Value → Mm → Prop := fun r h2 => r = some (.int (vcT 3 x (nI w))) ∧ RR h2 (VS s (L ++ vcTt 3)) ∧ h2 118 17 = nI w
theorem c_X10_triesOf_3 {l : Launch} (h s : Mm) (w o : Nat) (x : Int32) (L : List Nat) (hR : RR h (VS s L)) (hw : h 118 17 = nI w) (hw8 : w < 8) (ho : s 119 (46 + 6 * w + 0) = nI o) (ho7 : o < 7) (hL : L.length ≤ 36) : Con l yX10_triesOf cX10_triesOf 3 (some .int) 2 43 132 GL h [.ref 118, .int (nI 3), .int x] (P_X10_triesOf_3 h s w o x L) := by
  refine Con.ofV (own := "FoxRoundsModel") (nm := "triesOf") rfl rfl (by decide) (Nat.le_of_ble_eq_true rfl) ?_
  intro κ ρ hkl K
  subst hkl
  show V κ (QM κ (132, ρ, GL, 0, 0) (P_X10_triesOf_3 h s w o x L)) 3 (132, ρ, GL, 0, 0) h 0 [(0, .ref 118), (1, .int (nI 3)), (2, .int x)] []
  refine v_iload_n K dX10_triesOf_0 rfl ?_
  refine v_tinN (off := 84) (tgt := 85) K (by decide) 3 dX10_triesOf_1 (by decide) (by decide) (by decide) rfl rfl ?_
  refine v_aload_n K dX10_triesOf_85 rfl ?_
  refine v_iload_n K dX10_triesOf_86 rfl ?_
  refine v_callS (As := [.int (nI 3)]) K (c_X10_above_3 h) lX10_277 rfl ⟨by decide, by decide⟩ (Nat.le_of_ble_eq_true rfl) dX10_triesOf_87 (fun r1 h1 hp1 => ?_) rfl
  obtain ⟨rfl, rfl⟩ := hp1
  refine v_some ?_
  refine v_iload_n K dX10_triesOf_90 rfl ?_
  refine v_callV (As := [.int (nI 0), .int x]) K (c_X10_triesOf_0 h s w o x (L) hR hw hw8 ho ho7 (by (try simp only [List.length_append, List.length_cons, List.length_nil]); have t1 := vcTt_len ho7; have t2 := vcSt_len ho7; have t3 := vcFt_len ho7 ho7; (try simp only [vcTt, vcSt, vcFt, vcLt, List.length_append, List.length_cons, List.length_nil] at *); omega)) lX10_280 ck_X10 rfl sh_118 pl_118 rfl ⟨by decide, by decide⟩ (Nat.le_of_ble_eq_true rfl) dX10_triesOf_91 (fun r2 h2 hp2 => ?_) rfl
  obtain ⟨rfl, hRq1, hwq1⟩ := hp2
  refine v_some ?_
  refine v_iret K dX10_triesOf_94 ?_
  exact ⟨rfl, by first | exact hRq1 | (have hx := hRq1; simp only [List.append_assoc, List.cons_append, List.nil_append] at hx ⊢; exact hx), hwq1⟩

abbrev P_X10_triesOf_4 (h s : Mm) (w o : Nat) (x : Int32) (L : List Nat) : Option Value → Mm → Prop := fun r h2 => r = some (.int (vcT 4 x (nI w))) ∧ RR h2 (VS s (L ++ vcTt 4)) ∧ h2 118 17 = nI w
theorem c_X10_triesOf_4 {l : Launch} (h s : Mm) (w o : Nat) (x : Int32) (L : List Nat) (hR : RR h (VS s L)) (hw : h 118 17 = nI w) (hw8 : w < 8) (ho : s 119 (46 + 6 * w + 0) = nI o) (ho7 : o < 7) (hL : L.length ≤ 34) : Con l yX10_triesOf cX10_triesOf 3 (some .int) 3 65 132 GL h [.ref 118, .int (nI 4), .int x] (P_X10_triesOf_4 h s w o x L) := by
  refine Con.ofV (own := "FoxRoundsModel") (nm := "triesOf") rfl rfl (by decide) (Nat.le_of_ble_eq_true rfl) ?_
  intro κ ρ hkl K
  subst hkl
  show V κ (QM κ (132, ρ, GL, 0, 0) (P_X10_triesOf_4 h s w o x L)) 3 (132, ρ, GL, 0, 0) h 0 [(0, .ref 118), (1, .int (nI 4)), (2, .int x)] []
  refine v_iload_n K dX10_triesOf_0 rfl ?_
  refine v_tinN (off := 66) (tgt := 67) K (by decide) 4 dX10_triesOf_1 (by decide) (by decide) (by decide) rfl rfl ?_
  refine v_aload_n K dX10_triesOf_67 rfl ?_
  refine v_bipushN K 50 rfl dX10_triesOf_68 ?_
  refine v_callV (As := [.int (nI 50)]) K (c_X10_ran h s w 50 (L) hR hw (by (try simp only [List.length_append, List.length_cons, List.length_nil]); have t1 := vcTt_len ho7; have t2 := vcSt_len ho7; have t3 := vcFt_len ho7 ho7; (try simp only [vcTt, vcSt, vcFt, vcLt, List.length_append, List.length_cons, List.length_nil] at *); omega)) lX10_274 ck_X10 rfl sh_118 pl_118 rfl ⟨by decide, by decide⟩ (Nat.le_of_ble_eq_true rfl) dX10_triesOf_70 (fun r1 h1 hp1 => ?_) rfl
  obtain ⟨rfl, hRq1, hwq1⟩ := hp1
  refine v_none ?_
  refine v_aload_n K dX10_triesOf_73 rfl ?_
  refine v_iconstN K 4 rfl dX10_triesOf_74 ?_
  refine v_callS (As := [.int (nI 4)]) K (c_X10_above_4 h1) lX10_277 rfl ⟨by decide, by decide⟩ (Nat.le_of_ble_eq_true rfl) dX10_triesOf_75 (fun r2 h2 hp2 => ?_) rfl
  obtain ⟨rfl, rfl⟩ := hp2
  refine v_some ?_
  refine v_iload_n K dX10_triesOf_78 rfl ?_
  refine v_iconstN K 1 rfl dX10_triesOf_79 ?_
  refine v_iadd K dX10_triesOf_80 ?_
  refine v_callV (As := [.int (nI 2), .int (x + (nI 1))]) K (c_X10_triesOf_2 h1 s w o (x + (nI 1)) (L ++ [50]) hRq1 hwq1 hw8 ho ho7 (by (try simp only [List.length_append, List.length_cons, List.length_nil]); have t1 := vcTt_len ho7; have t2 := vcSt_len ho7; have t3 := vcFt_len ho7 ho7; (try simp only [vcTt, vcSt, vcFt, vcLt, List.length_append, List.length_cons, List.length_nil] at *); omega)) lX10_280 ck_X10 rfl sh_118 pl_118 rfl ⟨by decide, by decide⟩ (Nat.le_of_ble_eq_true rfl) dX10_triesOf_81 (fun r3 h3 hp3 => ?_) rfl
  obtain ⟨rfl, hRq2, hwq2⟩ := hp3
  refine v_some ?_
  refine v_iret K dX10_triesOf_84 ?_
  exact ⟨rfl, by first | exact hRq2 | (have hx := hRq2; simp only [List.append_assoc, List.cons_append, List.nil_append] at hx ⊢; exact hx), hwq2⟩

abbrev P_X10_triesOf_5 (h s : Mm) (w o : Nat) (x : Int32) (L : List Nat) : Option Value → Mm → Prop := fun r h2 => r = some (.int (vcT 5 x (nI w))) ∧ RR h2 (VS s (L ++ vcTt 5)) ∧ h2 118 17 = nI w
theorem c_X10_triesOf_5 {l : Launch} (h s : Mm) (w o : Nat) (x : Int32) (L : List Nat) (hR : RR h (VS s L)) (hw : h 118 17 = nI w) (hw8 : w < 8) (ho : s 119 (46 + 6 * w + 0) = nI o) (ho7 : o < 7) (hL : L.length ≤ 36) : Con l yX10_triesOf cX10_triesOf 3 (some .int) 3 65 132 GL h [.ref 118, .int (nI 5), .int x] (P_X10_triesOf_5 h s w o x L) := by
  refine Con.ofV (own := "FoxRoundsModel") (nm := "triesOf") rfl rfl (by decide) (Nat.le_of_ble_eq_true rfl) ?_
  intro κ ρ hkl K
  subst hkl
  show V κ (QM κ (132, ρ, GL, 0, 0) (P_X10_triesOf_5 h s w o x L)) 3 (132, ρ, GL, 0, 0) h 0 [(0, .ref 118), (1, .int (nI 5)), (2, .int x)] []
  refine v_iload_n K dX10_triesOf_0 rfl ?_
  refine v_toutN (tgt := 85) K (by decide) dX10_triesOf_1 (by decide) rfl ?_
  refine v_aload_n K dX10_triesOf_85 rfl ?_
  refine v_iload_n K dX10_triesOf_86 rfl ?_
  refine v_callS (As := [.int (nI 5)]) K (c_X10_above_5 h) lX10_277 rfl ⟨by decide, by decide⟩ (Nat.le_of_ble_eq_true rfl) dX10_triesOf_87 (fun r1 h1 hp1 => ?_) rfl
  obtain ⟨rfl, rfl⟩ := hp1
  refine v_some ?_
  refine v_iload_n K dX10_triesOf_90 rfl ?_
  refine v_callV (As := [.int (nI 3), .int x]) K (c_X10_triesOf_3 h s w o x (L) hR hw hw8 ho ho7 (by (try simp only [List.length_append, List.length_cons, List.length_nil]); have t1 := vcTt_len ho7; have t2 := vcSt_len ho7; have t3 := vcFt_len ho7 ho7; (try simp only [vcTt, vcSt, vcFt, vcLt, List.length_append, List.length_cons, List.length_nil] at *); omega)) lX10_280 ck_X10 rfl sh_118 pl_118 rfl ⟨by decide, by decide⟩ (Nat.le_of_ble_eq_true rfl) dX10_triesOf_91 (fun r2 h2 hp2 => ?_) rfl
  obtain ⟨rfl, hRq1, hwq1⟩ := hp2
  refine v_some ?_
  refine v_iret K dX10_triesOf_94 ?_
  exact ⟨rfl, by first | exact hRq1 | (have hx := hRq1; simp only [List.append_assoc, List.cons_append, List.nil_append] at hx ⊢; exact hx), hwq1⟩

abbrev P_X10_triesOf_6 (h s : Mm) (w o : Nat) (x : Int32) (L : List Nat) : Option Value → Mm → Prop := fun r h2 => r = some (.int (vcT 6 x (nI w))) ∧ RR h2 (VS s (L ++ vcTt 6)) ∧ h2 118 17 = nI w
theorem c_X10_triesOf_6 {l : Launch} (h s : Mm) (w o : Nat) (x : Int32) (L : List Nat) (hR : RR h (VS s L)) (hw : h 118 17 = nI w) (hw8 : w < 8) (ho : s 119 (46 + 6 * w + 0) = nI o) (ho7 : o < 7) (hL : L.length ≤ 36) : Con l yX10_triesOf cX10_triesOf 3 (some .int) 3 65 132 GL h [.ref 118, .int (nI 6), .int x] (P_X10_triesOf_6 h s w o x L) := by
  refine Con.ofV (own := "FoxRoundsModel") (nm := "triesOf") rfl rfl (by decide) (Nat.le_of_ble_eq_true rfl) ?_
  intro κ ρ hkl K
  subst hkl
  show V κ (QM κ (132, ρ, GL, 0, 0) (P_X10_triesOf_6 h s w o x L)) 3 (132, ρ, GL, 0, 0) h 0 [(0, .ref 118), (1, .int (nI 6)), (2, .int x)] []
  refine v_iload_n K dX10_triesOf_0 rfl ?_
  refine v_toutN (tgt := 85) K (by decide) dX10_triesOf_1 (by decide) rfl ?_
  refine v_aload_n K dX10_triesOf_85 rfl ?_
  refine v_iload_n K dX10_triesOf_86 rfl ?_
  refine v_callS (As := [.int (nI 6)]) K (c_X10_above_6 h) lX10_277 rfl ⟨by decide, by decide⟩ (Nat.le_of_ble_eq_true rfl) dX10_triesOf_87 (fun r1 h1 hp1 => ?_) rfl
  obtain ⟨rfl, rfl⟩ := hp1
  refine v_some ?_
  refine v_iload_n K dX10_triesOf_90 rfl ?_
  refine v_callV (As := [.int (nI 1), .int x]) K (c_X10_triesOf_1 h s w o x (L) hR hw hw8 ho ho7 (by (try simp only [List.length_append, List.length_cons, List.length_nil]); have t1 := vcTt_len ho7; have t2 := vcSt_len ho7; have t3 := vcFt_len ho7 ho7; (try simp only [vcTt, vcSt, vcFt, vcLt, List.length_append, List.length_cons, List.length_nil] at *); omega)) lX10_280 ck_X10 rfl sh_118 pl_118 rfl ⟨by decide, by decide⟩ (Nat.le_of_ble_eq_true rfl) dX10_triesOf_91 (fun r2 h2 hp2 => ?_) rfl
  obtain ⟨rfl, hRq1, hwq1⟩ := hp2
  refine v_some ?_
  refine v_iret K dX10_triesOf_94 ?_
  exact ⟨rfl, by first | exact hRq1 | (have hx := hRq1; simp only [List.append_assoc, List.cons_append, List.nil_append] at hx ⊢; exact hx), hwq1⟩

abbrev P_X10_triesOf_0w (h s : Mm) (w o : Nat) (x : Int32) (L : List Nat) : Option Value → Mm → Prop := fun r h2 => r = some (.int (vcT 0 x (nI w))) ∧ RR h2 (VS s (L ++ vcTt 0)) ∧ h2 118 17 = nI w
theorem c_X10_triesOf_0w {l : Launch} (h s : Mm) (w o : Nat) (x : Int32) (L : List Nat) (hR : RR h (VS s L)) (hw : h 118 17 = nI w) (hw8 : w < 8) (ho : s 119 (46 + 6 * w + 0) = nI o) (ho7 : o < 7) (hL : L.length ≤ 36) : Con l yX10_triesOf cX10_triesOf 3 (some .int) 3 65 132 GL h [.ref 118, .int (nI 0), .int x] (P_X10_triesOf_0w h s w o x L) := by
  refine Con.ofV (own := "FoxRoundsModel") (nm := "triesOf") rfl rfl (by decide) (Nat.le_of_ble_eq_true rfl) ?_
  intro κ ρ hkl K
  subst hkl
  show V κ (QM κ (132, ρ, GL, 0, 0) (P_X10_triesOf_0w h s w o x L)) 3 (132, ρ, GL, 0, 0) h 0 [(0, .ref 118), (1, .int (nI 0)), (2, .int x)] []
  refine v_iload_n K dX10_triesOf_0 rfl ?_
  refine v_tinN (off := 35) (tgt := 36) K (by decide) 0 dX10_triesOf_1 (by decide) (by decide) (by decide) rfl rfl ?_
  refine v_aload_n K dX10_triesOf_36 rfl ?_
  refine v_bipushN K 10 rfl dX10_triesOf_37 ?_
  refine v_callV (As := [.int (nI 10)]) K (c_X10_ran h s w 10 (L) hR hw (by (try simp only [List.length_append, List.length_cons, List.length_nil]); have t1 := vcTt_len ho7; have t2 := vcSt_len ho7; have t3 := vcFt_len ho7 ho7; (try simp only [vcTt, vcSt, vcFt, vcLt, List.length_append, List.length_cons, List.length_nil] at *); omega)) lX10_274 ck_X10 rfl sh_118 pl_118 rfl ⟨by decide, by decide⟩ (Nat.le_of_ble_eq_true rfl) dX10_triesOf_39 (fun r1 h1 hp1 => ?_) rfl
  obtain ⟨rfl, hRq1, hwq1⟩ := hp1
  refine v_none ?_
  refine v_iload_n K dX10_triesOf_42 rfl ?_
  refine v_aload_n K dX10_triesOf_43 rfl ?_
  refine v_geti (x := nI w) K fX10_271 sh_118 pl_118 hwq1 dX10_triesOf_44 ?_
  refine v_iadd K dX10_triesOf_47 ?_
  refine v_iret K dX10_triesOf_48 ?_
  exact ⟨rfl, by first | exact hRq1 | (have hx := hRq1; simp only [List.append_assoc, List.cons_append, List.nil_append] at hx ⊢; exact hx), hwq1⟩

abbrev P_X10_triesOf_1w (h s : Mm) (w o : Nat) (x : Int32) (L : List Nat) : Option Value → Mm → Prop := fun r h2 => r = some (.int (vcT 1 x (nI w))) ∧ RR h2 (VS s (L ++ vcTt 1)) ∧ h2 118 17 = nI w
theorem c_X10_triesOf_1w {l : Launch} (h s : Mm) (w o : Nat) (x : Int32) (L : List Nat) (hR : RR h (VS s L)) (hw : h 118 17 = nI w) (hw8 : w < 8) (ho : s 119 (46 + 6 * w + 0) = nI o) (ho7 : o < 7) (hL : L.length ≤ 36) : Con l yX10_triesOf cX10_triesOf 3 (some .int) 3 65 132 GL h [.ref 118, .int (nI 1), .int x] (P_X10_triesOf_1w h s w o x L) := by
  refine Con.ofV (own := "FoxRoundsModel") (nm := "triesOf") rfl rfl (by decide) (Nat.le_of_ble_eq_true rfl) ?_
  intro κ ρ hkl K
  subst hkl
  show V κ (QM κ (132, ρ, GL, 0, 0) (P_X10_triesOf_1w h s w o x L)) 3 (132, ρ, GL, 0, 0) h 0 [(0, .ref 118), (1, .int (nI 1)), (2, .int x)] []
  refine v_iload_n K dX10_triesOf_0 rfl ?_
  refine v_tinN (off := 84) (tgt := 85) K (by decide) 1 dX10_triesOf_1 (by decide) (by decide) (by decide) rfl rfl ?_
  refine v_aload_n K dX10_triesOf_85 rfl ?_
  refine v_iload_n K dX10_triesOf_86 rfl ?_
  refine v_callS (As := [.int (nI 1)]) K (c_X10_above_1 h) lX10_277 rfl ⟨by decide, by decide⟩ (Nat.le_of_ble_eq_true rfl) dX10_triesOf_87 (fun r1 h1 hp1 => ?_) rfl
  obtain ⟨rfl, rfl⟩ := hp1
  refine v_some ?_
  refine v_iload_n K dX10_triesOf_90 rfl ?_
  refine v_callV (As := [.int (nI 0), .int x]) K (c_X10_triesOf_0 h s w o x (L) hR hw hw8 ho ho7 (by (try simp only [List.length_append, List.length_cons, List.length_nil]); have t1 := vcTt_len ho7; have t2 := vcSt_len ho7; have t3 := vcFt_len ho7 ho7; (try simp only [vcTt, vcSt, vcFt, vcLt, List.length_append, List.length_cons, List.length_nil] at *); omega)) lX10_280 ck_X10 rfl sh_118 pl_118 rfl ⟨by decide, by decide⟩ (Nat.le_of_ble_eq_true rfl) dX10_triesOf_91 (fun r2 h2 hp2 => ?_) rfl
  obtain ⟨rfl, hRq1, hwq1⟩ := hp2
  refine v_some ?_
  refine v_iret K dX10_triesOf_94 ?_
  exact ⟨rfl, by first | exact hRq1 | (have hx := hRq1; simp only [List.append_assoc, List.cons_append, List.nil_append] at hx ⊢; exact hx), hwq1⟩

abbrev P_X10_triesOf_2w (h s : Mm) (w o : Nat) (x : Int32) (L : List Nat) : Option Value → Mm → Prop := fun r h2 => r = some (.int (vcT 2 x (nI w))) ∧ RR h2 (VS s (L ++ vcTt 2)) ∧ h2 118 17 = nI w
theorem c_X10_triesOf_2w {l : Launch} (h s : Mm) (w o : Nat) (x : Int32) (L : List Nat) (hR : RR h (VS s L)) (hw : h 118 17 = nI w) (hw8 : w < 8) (ho : s 119 (46 + 6 * w + 0) = nI o) (ho7 : o < 7) (hL : L.length ≤ 35) : Con l yX10_triesOf cX10_triesOf 3 (some .int) 3 65 132 GL h [.ref 118, .int (nI 2), .int x] (P_X10_triesOf_2w h s w o x L) := by
  refine Con.ofV (own := "FoxRoundsModel") (nm := "triesOf") rfl rfl (by decide) (Nat.le_of_ble_eq_true rfl) ?_
  intro κ ρ hkl K
  subst hkl
  show V κ (QM κ (132, ρ, GL, 0, 0) (P_X10_triesOf_2w h s w o x L)) 3 (132, ρ, GL, 0, 0) h 0 [(0, .ref 118), (1, .int (nI 2)), (2, .int x)] []
  refine v_iload_n K dX10_triesOf_0 rfl ?_
  refine v_tinN (off := 48) (tgt := 49) K (by decide) 2 dX10_triesOf_1 (by decide) (by decide) (by decide) rfl rfl ?_
  refine v_aload_n K dX10_triesOf_49 rfl ?_
  refine v_bipushN K 30 rfl dX10_triesOf_50 ?_
  refine v_callV (As := [.int (nI 30)]) K (c_X10_ran h s w 30 (L) hR hw (by (try simp only [List.length_append, List.length_cons, List.length_nil]); have t1 := vcTt_len ho7; have t2 := vcSt_len ho7; have t3 := vcFt_len ho7 ho7; (try simp only [vcTt, vcSt, vcFt, vcLt, List.length_append, List.length_cons, List.length_nil] at *); omega)) lX10_274 ck_X10 rfl sh_118 pl_118 rfl ⟨by decide, by decide⟩ (Nat.le_of_ble_eq_true rfl) dX10_triesOf_52 (fun r1 h1 hp1 => ?_) rfl
  obtain ⟨rfl, hRq1, hwq1⟩ := hp1
  refine v_none ?_
  refine v_aload_n K dX10_triesOf_55 rfl ?_
  refine v_iconstN K 2 rfl dX10_triesOf_56 ?_
  refine v_callS (As := [.int (nI 2)]) K (c_X10_above_2 h1) lX10_277 rfl ⟨by decide, by decide⟩ (Nat.le_of_ble_eq_true rfl) dX10_triesOf_57 (fun r2 h2 hp2 => ?_) rfl
  obtain ⟨rfl, rfl⟩ := hp2
  refine v_some ?_
  refine v_iload_n K dX10_triesOf_60 rfl ?_
  refine v_callV (As := [.int (nI 0), .int x]) K (c_X10_triesOf_0 h1 s w o x (L ++ [30]) hRq1 hwq1 hw8 ho ho7 (by (try simp only [List.length_append, List.length_cons, List.length_nil]); have t1 := vcTt_len ho7; have t2 := vcSt_len ho7; have t3 := vcFt_len ho7 ho7; (try simp only [vcTt, vcSt, vcFt, vcLt, List.length_append, List.length_cons, List.length_nil] at *); omega)) lX10_280 ck_X10 rfl sh_118 pl_118 rfl ⟨by decide, by decide⟩ (Nat.le_of_ble_eq_true rfl) dX10_triesOf_61 (fun r3 h3 hp3 => ?_) rfl
  obtain ⟨rfl, hRq2, hwq2⟩ := hp3
  refine v_some ?_
  refine v_iconstN K 3 rfl dX10_triesOf_64 ?_
  refine v_imul K dX10_triesOf_65 ?_
  refine v_iret K dX10_triesOf_66 ?_
  exact ⟨rfl, by first | exact hRq2 | (have hx := hRq2; simp only [List.append_assoc, List.cons_append, List.nil_append] at hx ⊢; exact hx), hwq2⟩

abbrev P_X10_triesOf_3w (h s : Mm) (w o : Nat) (x : Int32) (L : List Nat) : Option Value → Mm → Prop := fun r h2 => r = some (.int (vcT 3 x (nI w))) ∧ RR h2 (VS s (L ++ vcTt 3)) ∧ h2 118 17 = nI w
theorem c_X10_triesOf_3w {l : Launch} (h s : Mm) (w o : Nat) (x : Int32) (L : List Nat) (hR : RR h (VS s L)) (hw : h 118 17 = nI w) (hw8 : w < 8) (ho : s 119 (46 + 6 * w + 0) = nI o) (ho7 : o < 7) (hL : L.length ≤ 36) : Con l yX10_triesOf cX10_triesOf 3 (some .int) 3 65 132 GL h [.ref 118, .int (nI 3), .int x] (P_X10_triesOf_3w h s w o x L) := by
  refine Con.ofV (own := "FoxRoundsModel") (nm := "triesOf") rfl rfl (by decide) (Nat.le_of_ble_eq_true rfl) ?_
  intro κ ρ hkl K
  subst hkl
  show V κ (QM κ (132, ρ, GL, 0, 0) (P_X10_triesOf_3w h s w o x L)) 3 (132, ρ, GL, 0, 0) h 0 [(0, .ref 118), (1, .int (nI 3)), (2, .int x)] []
  refine v_iload_n K dX10_triesOf_0 rfl ?_
  refine v_tinN (off := 84) (tgt := 85) K (by decide) 3 dX10_triesOf_1 (by decide) (by decide) (by decide) rfl rfl ?_
  refine v_aload_n K dX10_triesOf_85 rfl ?_
  refine v_iload_n K dX10_triesOf_86 rfl ?_
  refine v_callS (As := [.int (nI 3)]) K (c_X10_above_3 h) lX10_277 rfl ⟨by decide, by decide⟩ (Nat.le_of_ble_eq_true rfl) dX10_triesOf_87 (fun r1 h1 hp1 => ?_) rfl
  obtain ⟨rfl, rfl⟩ := hp1
  refine v_some ?_
  refine v_iload_n K dX10_triesOf_90 rfl ?_
  refine v_callV (As := [.int (nI 0), .int x]) K (c_X10_triesOf_0 h s w o x (L) hR hw hw8 ho ho7 (by (try simp only [List.length_append, List.length_cons, List.length_nil]); have t1 := vcTt_len ho7; have t2 := vcSt_len ho7; have t3 := vcFt_len ho7 ho7; (try simp only [vcTt, vcSt, vcFt, vcLt, List.length_append, List.length_cons, List.length_nil] at *); omega)) lX10_280 ck_X10 rfl sh_118 pl_118 rfl ⟨by decide, by decide⟩ (Nat.le_of_ble_eq_true rfl) dX10_triesOf_91 (fun r2 h2 hp2 => ?_) rfl
  obtain ⟨rfl, hRq1, hwq1⟩ := hp2
  refine v_some ?_
  refine v_iret K dX10_triesOf_94 ?_
  exact ⟨rfl, by first | exact hRq1 | (have hx := hRq1; simp only [List.append_assoc, List.cons_append, List.nil_append] at hx ⊢; exact hx), hwq1⟩

abbrev P_X10_triesOf (h s : Mm) (w o : Nat) (x : Int32) (L : List Nat) (k : Nat) : Option Value → Mm → Prop := fun r h2 => r = some (.int (vcT k x (nI w))) ∧ RR h2 (VS s (L ++ vcTt k)) ∧ h2 118 17 = nI w
theorem c_X10_triesOf {l : Launch} (h s : Mm) (w o : Nat) (x : Int32) (L : List Nat) (hR : RR h (VS s L)) (hw : h 118 17 = nI w) (hw8 : w < 8) (ho : s 119 (46 + 6 * w + 0) = nI o) (ho7 : o < 7) (hL : L.length ≤ 34) (k : Nat) (hk : k < 7) : Con l yX10_triesOf cX10_triesOf 3 (some .int) 3 65 132 GL h [.ref 118, .int (nI k), .int x] (P_X10_triesOf h s w o x L k) := by
  obtain rfl | rfl | rfl | rfl | rfl | rfl | rfl : k = 0 ∨ k = 1 ∨ k = 2 ∨ k = 3 ∨ k = 4 ∨ k = 5 ∨ k = 6 := by omega
  · exact c_X10_triesOf_0w h s w o x L hR hw hw8 ho ho7 (by omega)
  · exact c_X10_triesOf_1w h s w o x L hR hw hw8 ho ho7 (by omega)
  · exact c_X10_triesOf_2w h s w o x L hR hw hw8 ho ho7 (by omega)
  · exact c_X10_triesOf_3w h s w o x L hR hw hw8 ho ho7 (by omega)
  · exact c_X10_triesOf_4 h s w o x L hR hw hw8 ho ho7 (by omega)
  · exact c_X10_triesOf_5 h s w o x L hR hw hw8 ho ho7 (by omega)
  · exact c_X10_triesOf_6 h s w o x L hR hw hw8 ho ho7 (by omega)

abbrev P_X10_shuts_0 (h s : Mm) (w o : Nat) (x : Int32) (L : List Nat) : Option Value → Mm → Prop := fun r h2 => r = some (.int (vcS 0 x (s 119 (46 + 6 * w + 2)))) ∧ RR h2 (VS s (L ++ vcSt 0)) ∧ h2 118 17 = nI w
theorem c_X10_shuts_0 {l : Launch} (h s : Mm) (w o : Nat) (x : Int32) (L : List Nat) (hR : RR h (VS s L)) (hw : h 118 17 = nI w) (hw8 : w < 8) (ho : s 119 (46 + 6 * w + 0) = nI o) (ho7 : o < 7) (hL : L.length ≤ 37) : Con l yX10_shuts cX10_shuts 3 (some .int) 1 22 132 GL h [.ref 118, .int (nI 0), .int x] (P_X10_shuts_0 h s w o x L) := by
  refine Con.ofV (own := "FoxRoundsModel") (nm := "shuts") rfl rfl (by decide) (Nat.le_of_ble_eq_true rfl) ?_
  intro κ ρ hkl K
  subst hkl
  show V κ (QM κ (132, ρ, GL, 0, 0) (P_X10_shuts_0 h s w o x L)) 3 (132, ρ, GL, 0, 0) h 0 [(0, .ref 118), (1, .int (nI 0)), (2, .int x)] []
  refine v_iload_n K dX10_shuts_0 rfl ?_
  refine v_lookN (off := 27) (tgt := 28) K (by decide) 0 dX10_shuts_1 rfl (by decide) rfl rfl ?_
  refine v_aload_n K dX10_shuts_28 rfl ?_
  refine v_bipushN K 12 rfl dX10_shuts_29 ?_
  refine v_callV (As := [.int (nI 12)]) K (c_X10_ran h s w 12 (L) hR hw (by (try simp only [List.length_append, List.length_cons, List.length_nil]); have t1 := vcTt_len ho7; have t2 := vcSt_len ho7; have t3 := vcFt_len ho7 ho7; (try simp only [vcTt, vcSt, vcFt, vcLt, List.length_append, List.length_cons, List.length_nil] at *); omega)) lX10_274 ck_X10 rfl sh_118 pl_118 rfl ⟨by decide, by decide⟩ (Nat.le_of_ble_eq_true rfl) dX10_shuts_31 (fun r1 h1 hp1 => ?_) rfl
  obtain ⟨rfl, hRq1, hwq1⟩ := hp1
  refine v_none ?_
  refine v_iload_n K dX10_shuts_34 rfl ?_
  refine v_aload_n K dX10_shuts_35 rfl ?_
  refine v_getr (q := 119) K fX10_7 sh_118 pl_118 gl_118_0 dX10_shuts_36 ?_
  refine v_aload_n K dX10_shuts_39 rfl ?_
  refine v_geti (x := nI w) K fX10_271 sh_118 pl_118 hwq1 dX10_shuts_40 ?_
  refine v_iconstN K 2 rfl dX10_shuts_43 ?_
  refine v_callS (As := [.ref 119, .int (nI w), .int (nI 2)]) K (c_X10_of h1 119 w 2 mP_119 (by omega)) lX10_170 rfl ⟨by decide, by decide⟩ (Nat.le_of_ble_eq_true rfl) dX10_shuts_44 (fun r2 h2 hp2 => ?_) rfl
  obtain ⟨rfl, rfl⟩ := hp2
  refine v_some ?_
  rw [show h1 119 (46 + 6 * w + 2) = s 119 (46 + 6 * w + 2) from ((hRq1.at RA_119).trans (congrFun vs_119 _))]
  refine v_isub K dX10_shuts_47 ?_
  refine v_iret K dX10_shuts_48 ?_
  exact ⟨rfl, by first | exact hRq1 | (have hx := hRq1; simp only [List.append_assoc, List.cons_append, List.nil_append] at hx ⊢; exact hx), hwq1⟩

abbrev P_X10_shuts_1 (h s : Mm) (w o : Nat) (x : Int32) (L : List Nat) : Option Value → Mm → Prop := fun r h2 => r = some (.int (vcS 1 x (s 119 (46 + 6 * w + 2)))) ∧ RR h2 (VS s (L ++ vcSt 1)) ∧ h2 118 17 = nI w
theorem c_X10_shuts_1 {l : Launch} (h s : Mm) (w o : Nat) (x : Int32) (L : List Nat) (hR : RR h (VS s L)) (hw : h 118 17 = nI w) (hw8 : w < 8) (ho : s 119 (46 + 6 * w + 0) = nI o) (ho7 : o < 7) (hL : L.length ≤ 37) : Con l yX10_shuts cX10_shuts 3 (some .int) 2 44 132 GL h [.ref 118, .int (nI 1), .int x] (P_X10_shuts_1 h s w o x L) := by
  refine Con.ofV (own := "FoxRoundsModel") (nm := "shuts") rfl rfl (by decide) (Nat.le_of_ble_eq_true rfl) ?_
  intro κ ρ hkl K
  subst hkl
  show V κ (QM κ (132, ρ, GL, 0, 0) (P_X10_shuts_1 h s w o x L)) 3 (132, ρ, GL, 0, 0) h 0 [(0, .ref 118), (1, .int (nI 1)), (2, .int x)] []
  refine v_iload_n K dX10_shuts_0 rfl ?_
  refine v_lookN (off := 65) (tgt := 66) K (by decide) 1 dX10_shuts_1 rfl (by decide) rfl rfl ?_
  refine v_aload_n K dX10_shuts_66 rfl ?_
  refine v_iload_n K dX10_shuts_67 rfl ?_
  refine v_callS (As := [.int (nI 1)]) K (c_X10_above_1 h) lX10_277 rfl ⟨by decide, by decide⟩ (Nat.le_of_ble_eq_true rfl) dX10_shuts_68 (fun r1 h1 hp1 => ?_) rfl
  obtain ⟨rfl, rfl⟩ := hp1
  refine v_some ?_
  refine v_iload_n K dX10_shuts_71 rfl ?_
  refine v_callV (As := [.int (nI 0), .int x]) K (c_X10_shuts_0 h s w o x (L) hR hw hw8 ho ho7 (by (try simp only [List.length_append, List.length_cons, List.length_nil]); have t1 := vcTt_len ho7; have t2 := vcSt_len ho7; have t3 := vcFt_len ho7 ho7; (try simp only [vcTt, vcSt, vcFt, vcLt, List.length_append, List.length_cons, List.length_nil] at *); omega)) lX10_289 ck_X10 rfl sh_118 pl_118 rfl ⟨by decide, by decide⟩ (Nat.le_of_ble_eq_true rfl) dX10_shuts_72 (fun r2 h2 hp2 => ?_) rfl
  obtain ⟨rfl, hRq1, hwq1⟩ := hp2
  refine v_some ?_
  refine v_iret K dX10_shuts_75 ?_
  exact ⟨rfl, by first | exact hRq1 | (have hx := hRq1; simp only [List.append_assoc, List.cons_append, List.nil_append] at hx ⊢; exact hx), hwq1⟩

abbrev P_X10_shuts_2 (h s : Mm) (w o : Nat) (x : Int32) (L : List Nat) : Option Value → Mm → Prop := fun r h2 => r = some (.int (vcS 2 x (s 119 (46 + 6 * w + 2)))) ∧ RR h2 (VS s (L ++ vcSt 2)) ∧ h2 118 17 = nI w
theorem c_X10_shuts_2 {l : Launch} (h s : Mm) (w o : Nat) (x : Int32) (L : List Nat) (hR : RR h (VS s L)) (hw : h 118 17 = nI w) (hw8 : w < 8) (ho : s 119 (46 + 6 * w + 0) = nI o) (ho7 : o < 7) (hL : L.length ≤ 37) : Con l yX10_shuts cX10_shuts 3 (some .int) 2 44 132 GL h [.ref 118, .int (nI 2), .int x] (P_X10_shuts_2 h s w o x L) := by
  refine Con.ofV (own := "FoxRoundsModel") (nm := "shuts") rfl rfl (by decide) (Nat.le_of_ble_eq_true rfl) ?_
  intro κ ρ hkl K
  subst hkl
  show V κ (QM κ (132, ρ, GL, 0, 0) (P_X10_shuts_2 h s w o x L)) 3 (132, ρ, GL, 0, 0) h 0 [(0, .ref 118), (1, .int (nI 2)), (2, .int x)] []
  refine v_iload_n K dX10_shuts_0 rfl ?_
  refine v_lookN (off := 65) (tgt := 66) K (by decide) 2 dX10_shuts_1 rfl (by decide) rfl rfl ?_
  refine v_aload_n K dX10_shuts_66 rfl ?_
  refine v_iload_n K dX10_shuts_67 rfl ?_
  refine v_callS (As := [.int (nI 2)]) K (c_X10_above_2 h) lX10_277 rfl ⟨by decide, by decide⟩ (Nat.le_of_ble_eq_true rfl) dX10_shuts_68 (fun r1 h1 hp1 => ?_) rfl
  obtain ⟨rfl, rfl⟩ := hp1
  refine v_some ?_
  refine v_iload_n K dX10_shuts_71 rfl ?_
  refine v_callV (As := [.int (nI 0), .int x]) K (c_X10_shuts_0 h s w o x (L) hR hw hw8 ho ho7 (by (try simp only [List.length_append, List.length_cons, List.length_nil]); have t1 := vcTt_len ho7; have t2 := vcSt_len ho7; have t3 := vcFt_len ho7 ho7; (try simp only [vcTt, vcSt, vcFt, vcLt, List.length_append, List.length_cons, List.length_nil] at *); omega)) lX10_289 ck_X10 rfl sh_118 pl_118 rfl ⟨by decide, by decide⟩ (Nat.le_of_ble_eq_true rfl) dX10_shuts_72 (fun r2 h2 hp2 => ?_) rfl
  obtain ⟨rfl, hRq1, hwq1⟩ := hp2
  refine v_some ?_
  refine v_iret K dX10_shuts_75 ?_
  exact ⟨rfl, by first | exact hRq1 | (have hx := hRq1; simp only [List.append_assoc, List.cons_append, List.nil_append] at hx ⊢; exact hx), hwq1⟩

abbrev P_X10_shuts_3 (h s : Mm) (w o : Nat) (x : Int32) (L : List Nat) : Option Value → Mm → Prop := fun r h2 => r = some (.int (vcS 3 x (s 119 (46 + 6 * w + 2)))) ∧ RR h2 (VS s (L ++ vcSt 3)) ∧ h2 118 17 = nI w
theorem c_X10_shuts_3 {l : Launch} (h s : Mm) (w o : Nat) (x : Int32) (L : List Nat) (hR : RR h (VS s L)) (hw : h 118 17 = nI w) (hw8 : w < 8) (ho : s 119 (46 + 6 * w + 0) = nI o) (ho7 : o < 7) (hL : L.length ≤ 36) : Con l yX10_shuts cX10_shuts 3 (some .int) 2 44 132 GL h [.ref 118, .int (nI 3), .int x] (P_X10_shuts_3 h s w o x L) := by
  refine Con.ofV (own := "FoxRoundsModel") (nm := "shuts") rfl rfl (by decide) (Nat.le_of_ble_eq_true rfl) ?_
  intro κ ρ hkl K
  subst hkl
  show V κ (QM κ (132, ρ, GL, 0, 0) (P_X10_shuts_3 h s w o x L)) 3 (132, ρ, GL, 0, 0) h 0 [(0, .ref 118), (1, .int (nI 3)), (2, .int x)] []
  refine v_iload_n K dX10_shuts_0 rfl ?_
  refine v_lookN (off := 48) (tgt := 49) K (by decide) 3 dX10_shuts_1 rfl (by decide) rfl rfl ?_
  refine v_aload_n K dX10_shuts_49 rfl ?_
  refine v_bipushN K 40 rfl dX10_shuts_50 ?_
  refine v_callV (As := [.int (nI 40)]) K (c_X10_ran h s w 40 (L) hR hw (by (try simp only [List.length_append, List.length_cons, List.length_nil]); have t1 := vcTt_len ho7; have t2 := vcSt_len ho7; have t3 := vcFt_len ho7 ho7; (try simp only [vcTt, vcSt, vcFt, vcLt, List.length_append, List.length_cons, List.length_nil] at *); omega)) lX10_274 ck_X10 rfl sh_118 pl_118 rfl ⟨by decide, by decide⟩ (Nat.le_of_ble_eq_true rfl) dX10_shuts_52 (fun r1 h1 hp1 => ?_) rfl
  obtain ⟨rfl, hRq1, hwq1⟩ := hp1
  refine v_none ?_
  refine v_aload_n K dX10_shuts_55 rfl ?_
  refine v_iconstN K 3 rfl dX10_shuts_56 ?_
  refine v_callS (As := [.int (nI 3)]) K (c_X10_above_3 h1) lX10_277 rfl ⟨by decide, by decide⟩ (Nat.le_of_ble_eq_true rfl) dX10_shuts_57 (fun r2 h2 hp2 => ?_) rfl
  obtain ⟨rfl, rfl⟩ := hp2
  refine v_some ?_
  refine v_iload_n K dX10_shuts_60 rfl ?_
  refine v_callV (As := [.int (nI 0), .int x]) K (c_X10_shuts_0 h1 s w o x (L ++ [40]) hRq1 hwq1 hw8 ho ho7 (by (try simp only [List.length_append, List.length_cons, List.length_nil]); have t1 := vcTt_len ho7; have t2 := vcSt_len ho7; have t3 := vcFt_len ho7 ho7; (try simp only [vcTt, vcSt, vcFt, vcLt, List.length_append, List.length_cons, List.length_nil] at *); omega)) lX10_289 ck_X10 rfl sh_118 pl_118 rfl ⟨by decide, by decide⟩ (Nat.le_of_ble_eq_true rfl) dX10_shuts_61 (fun r3 h3 hp3 => ?_) rfl
  obtain ⟨rfl, hRq2, hwq2⟩ := hp3
  refine v_some ?_
  refine v_ineg K dX10_shuts_64 ?_
  refine v_iret K dX10_shuts_65 ?_
  exact ⟨rfl, by first | exact hRq2 | (have hx := hRq2; simp only [List.append_assoc, List.cons_append, List.nil_append] at hx ⊢; exact hx), hwq2⟩

abbrev P_X10_shuts_4 (h s : Mm) (w o : Nat) (x : Int32) (L : List Nat) : Option Value → Mm → Prop := fun r h2 => r = some (.int (vcS 4 x (s 119 (46 + 6 * w + 2)))) ∧ RR h2 (VS s (L ++ vcSt 4)) ∧ h2 118 17 = nI w
theorem c_X10_shuts_4 {l : Launch} (h s : Mm) (w o : Nat) (x : Int32) (L : List Nat) (hR : RR h (VS s L)) (hw : h 118 17 = nI w) (hw8 : w < 8) (ho : s 119 (46 + 6 * w + 0) = nI o) (ho7 : o < 7) (hL : L.length ≤ 37) : Con l yX10_shuts cX10_shuts 3 (some .int) 3 66 132 GL h [.ref 118, .int (nI 4), .int x] (P_X10_shuts_4 h s w o x L) := by
  refine Con.ofV (own := "FoxRoundsModel") (nm := "shuts") rfl rfl (by decide) (Nat.le_of_ble_eq_true rfl) ?_
  intro κ ρ hkl K
  subst hkl
  show V κ (QM κ (132, ρ, GL, 0, 0) (P_X10_shuts_4 h s w o x L)) 3 (132, ρ, GL, 0, 0) h 0 [(0, .ref 118), (1, .int (nI 4)), (2, .int x)] []
  refine v_iload_n K dX10_shuts_0 rfl ?_
  refine v_lookN (off := 65) (tgt := 66) K (by decide) 4 dX10_shuts_1 rfl (by decide) rfl rfl ?_
  refine v_aload_n K dX10_shuts_66 rfl ?_
  refine v_iload_n K dX10_shuts_67 rfl ?_
  refine v_callS (As := [.int (nI 4)]) K (c_X10_above_4 h) lX10_277 rfl ⟨by decide, by decide⟩ (Nat.le_of_ble_eq_true rfl) dX10_shuts_68 (fun r1 h1 hp1 => ?_) rfl
  obtain ⟨rfl, rfl⟩ := hp1
  refine v_some ?_
  refine v_iload_n K dX10_shuts_71 rfl ?_
  refine v_callV (As := [.int (nI 2), .int x]) K (c_X10_shuts_2 h s w o x (L) hR hw hw8 ho ho7 (by (try simp only [List.length_append, List.length_cons, List.length_nil]); have t1 := vcTt_len ho7; have t2 := vcSt_len ho7; have t3 := vcFt_len ho7 ho7; (try simp only [vcTt, vcSt, vcFt, vcLt, List.length_append, List.length_cons, List.length_nil] at *); omega)) lX10_289 ck_X10 rfl sh_118 pl_118 rfl ⟨by decide, by decide⟩ (Nat.le_of_ble_eq_true rfl) dX10_shuts_72 (fun r2 h2 hp2 => ?_) rfl
  obtain ⟨rfl, hRq1, hwq1⟩ := hp2
  refine v_some ?_
  refine v_iret K dX10_shuts_75 ?_
  exact ⟨rfl, by first | exact hRq1 | (have hx := hRq1; simp only [List.append_assoc, List.cons_append, List.nil_append] at hx ⊢; exact hx), hwq1⟩

abbrev P_X10_shuts_5 (h s : Mm) (w o : Nat) (x : Int32) (L : List Nat) : Option Value → Mm → Prop := fun r h2 => r = some (.int (vcS 5 x (s 119 (46 + 6 * w + 2)))) ∧ RR h2 (VS s (L ++ vcSt 5)) ∧ h2 118 17 = nI w
theorem c_X10_shuts_5 {l : Launch} (h s : Mm) (w o : Nat) (x : Int32) (L : List Nat) (hR : RR h (VS s L)) (hw : h 118 17 = nI w) (hw8 : w < 8) (ho : s 119 (46 + 6 * w + 0) = nI o) (ho7 : o < 7) (hL : L.length ≤ 36) : Con l yX10_shuts cX10_shuts 3 (some .int) 3 66 132 GL h [.ref 118, .int (nI 5), .int x] (P_X10_shuts_5 h s w o x L) := by
  refine Con.ofV (own := "FoxRoundsModel") (nm := "shuts") rfl rfl (by decide) (Nat.le_of_ble_eq_true rfl) ?_
  intro κ ρ hkl K
  subst hkl
  show V κ (QM κ (132, ρ, GL, 0, 0) (P_X10_shuts_5 h s w o x L)) 3 (132, ρ, GL, 0, 0) h 0 [(0, .ref 118), (1, .int (nI 5)), (2, .int x)] []
  refine v_iload_n K dX10_shuts_0 rfl ?_
  refine v_lookN (off := 65) (tgt := 66) K (by decide) 5 dX10_shuts_1 rfl (by decide) rfl rfl ?_
  refine v_aload_n K dX10_shuts_66 rfl ?_
  refine v_iload_n K dX10_shuts_67 rfl ?_
  refine v_callS (As := [.int (nI 5)]) K (c_X10_above_5 h) lX10_277 rfl ⟨by decide, by decide⟩ (Nat.le_of_ble_eq_true rfl) dX10_shuts_68 (fun r1 h1 hp1 => ?_) rfl
  obtain ⟨rfl, rfl⟩ := hp1
  refine v_some ?_
  refine v_iload_n K dX10_shuts_71 rfl ?_
  refine v_callV (As := [.int (nI 3), .int x]) K (c_X10_shuts_3 h s w o x (L) hR hw hw8 ho ho7 (by (try simp only [List.length_append, List.length_cons, List.length_nil]); have t1 := vcTt_len ho7; have t2 := vcSt_len ho7; have t3 := vcFt_len ho7 ho7; (try simp only [vcTt, vcSt, vcFt, vcLt, List.length_append, List.length_cons, List.length_nil] at *); omega)) lX10_289 ck_X10 rfl sh_118 pl_118 rfl ⟨by decide, by decide⟩ (Nat.le_of_ble_eq_true rfl) dX10_shuts_72 (fun r2 h2 hp2 => ?_) rfl
  obtain ⟨rfl, hRq1, hwq1⟩ := hp2
  refine v_some ?_
  refine v_iret K dX10_shuts_75 ?_
  exact ⟨rfl, by first | exact hRq1 | (have hx := hRq1; simp only [List.append_assoc, List.cons_append, List.nil_append] at hx ⊢; exact hx), hwq1⟩

abbrev P_X10_shuts_6 (h s : Mm) (w o : Nat) (x : Int32) (L : List Nat) : Option Value → Mm → Prop := fun r h2 => r = some (.int (vcS 6 x (s 119 (46 + 6 * w + 2)))) ∧ RR h2 (VS s (L ++ vcSt 6)) ∧ h2 118 17 = nI w
theorem c_X10_shuts_6 {l : Launch} (h s : Mm) (w o : Nat) (x : Int32) (L : List Nat) (hR : RR h (VS s L)) (hw : h 118 17 = nI w) (hw8 : w < 8) (ho : s 119 (46 + 6 * w + 0) = nI o) (ho7 : o < 7) (hL : L.length ≤ 37) : Con l yX10_shuts cX10_shuts 3 (some .int) 3 66 132 GL h [.ref 118, .int (nI 6), .int x] (P_X10_shuts_6 h s w o x L) := by
  refine Con.ofV (own := "FoxRoundsModel") (nm := "shuts") rfl rfl (by decide) (Nat.le_of_ble_eq_true rfl) ?_
  intro κ ρ hkl K
  subst hkl
  show V κ (QM κ (132, ρ, GL, 0, 0) (P_X10_shuts_6 h s w o x L)) 3 (132, ρ, GL, 0, 0) h 0 [(0, .ref 118), (1, .int (nI 6)), (2, .int x)] []
  refine v_iload_n K dX10_shuts_0 rfl ?_
  refine v_lookN (off := 65) (tgt := 66) K (by decide) 6 dX10_shuts_1 rfl (by decide) rfl rfl ?_
  refine v_aload_n K dX10_shuts_66 rfl ?_
  refine v_iload_n K dX10_shuts_67 rfl ?_
  refine v_callS (As := [.int (nI 6)]) K (c_X10_above_6 h) lX10_277 rfl ⟨by decide, by decide⟩ (Nat.le_of_ble_eq_true rfl) dX10_shuts_68 (fun r1 h1 hp1 => ?_) rfl
  obtain ⟨rfl, rfl⟩ := hp1
  refine v_some ?_
  refine v_iload_n K dX10_shuts_71 rfl ?_
  refine v_callV (As := [.int (nI 1), .int x]) K (c_X10_shuts_1 h s w o x (L) hR hw hw8 ho ho7 (by (try simp only [List.length_append, List.length_cons, List.length_nil]); have t1 := vcTt_len ho7; have t2 := vcSt_len ho7; have t3 := vcFt_len ho7 ho7; (try simp only [vcTt, vcSt, vcFt, vcLt, List.length_append, List.length_cons, List.length_nil] at *); omega)) lX10_289 ck_X10 rfl sh_118 pl_118 rfl ⟨by decide, by decide⟩ (Nat.le_of_ble_eq_true rfl) dX10_shuts_72 (fun r2 h2 hp2 => ?_) rfl
  obtain ⟨rfl, hRq1, hwq1⟩ := hp2
  refine v_some ?_
  refine v_iret K dX10_shuts_75 ?_
  exact ⟨rfl, by first | exact hRq1 | (have hx := hRq1; simp only [List.append_assoc, List.cons_append, List.nil_append] at hx ⊢; exact hx), hwq1⟩

abbrev P_X10_shuts_0w (h s : Mm) (w o : Nat) (x : Int32) (L : List Nat) : Option Value → Mm → Prop := fun r h2 => r = some (.int (vcS 0 x (s 119 (46 + 6 * w + 2)))) ∧ RR h2 (VS s (L ++ vcSt 0)) ∧ h2 118 17 = nI w
theorem c_X10_shuts_0w {l : Launch} (h s : Mm) (w o : Nat) (x : Int32) (L : List Nat) (hR : RR h (VS s L)) (hw : h 118 17 = nI w) (hw8 : w < 8) (ho : s 119 (46 + 6 * w + 0) = nI o) (ho7 : o < 7) (hL : L.length ≤ 37) : Con l yX10_shuts cX10_shuts 3 (some .int) 3 66 132 GL h [.ref 118, .int (nI 0), .int x] (P_X10_shuts_0w h s w o x L) := by
  refine Con.ofV (own := "FoxRoundsModel") (nm := "shuts") rfl rfl (by decide) (Nat.le_of_ble_eq_true rfl) ?_
  intro κ ρ hkl K
  subst hkl
  show V κ (QM κ (132, ρ, GL, 0, 0) (P_X10_shuts_0w h s w o x L)) 3 (132, ρ, GL, 0, 0) h 0 [(0, .ref 118), (1, .int (nI 0)), (2, .int x)] []
  refine v_iload_n K dX10_shuts_0 rfl ?_
  refine v_lookN (off := 27) (tgt := 28) K (by decide) 0 dX10_shuts_1 rfl (by decide) rfl rfl ?_
  refine v_aload_n K dX10_shuts_28 rfl ?_
  refine v_bipushN K 12 rfl dX10_shuts_29 ?_
  refine v_callV (As := [.int (nI 12)]) K (c_X10_ran h s w 12 (L) hR hw (by (try simp only [List.length_append, List.length_cons, List.length_nil]); have t1 := vcTt_len ho7; have t2 := vcSt_len ho7; have t3 := vcFt_len ho7 ho7; (try simp only [vcTt, vcSt, vcFt, vcLt, List.length_append, List.length_cons, List.length_nil] at *); omega)) lX10_274 ck_X10 rfl sh_118 pl_118 rfl ⟨by decide, by decide⟩ (Nat.le_of_ble_eq_true rfl) dX10_shuts_31 (fun r1 h1 hp1 => ?_) rfl
  obtain ⟨rfl, hRq1, hwq1⟩ := hp1
  refine v_none ?_
  refine v_iload_n K dX10_shuts_34 rfl ?_
  refine v_aload_n K dX10_shuts_35 rfl ?_
  refine v_getr (q := 119) K fX10_7 sh_118 pl_118 gl_118_0 dX10_shuts_36 ?_
  refine v_aload_n K dX10_shuts_39 rfl ?_
  refine v_geti (x := nI w) K fX10_271 sh_118 pl_118 hwq1 dX10_shuts_40 ?_
  refine v_iconstN K 2 rfl dX10_shuts_43 ?_
  refine v_callS (As := [.ref 119, .int (nI w), .int (nI 2)]) K (c_X10_of h1 119 w 2 mP_119 (by omega)) lX10_170 rfl ⟨by decide, by decide⟩ (Nat.le_of_ble_eq_true rfl) dX10_shuts_44 (fun r2 h2 hp2 => ?_) rfl
  obtain ⟨rfl, rfl⟩ := hp2
  refine v_some ?_
  rw [show h1 119 (46 + 6 * w + 2) = s 119 (46 + 6 * w + 2) from ((hRq1.at RA_119).trans (congrFun vs_119 _))]
  refine v_isub K dX10_shuts_47 ?_
  refine v_iret K dX10_shuts_48 ?_
  exact ⟨rfl, by first | exact hRq1 | (have hx := hRq1; simp only [List.append_assoc, List.cons_append, List.nil_append] at hx ⊢; exact hx), hwq1⟩

abbrev P_X10_shuts_1w (h s : Mm) (w o : Nat) (x : Int32) (L : List Nat) : Option Value → Mm → Prop := fun r h2 => r = some (.int (vcS 1 x (s 119 (46 + 6 * w + 2)))) ∧ RR h2 (VS s (L ++ vcSt 1)) ∧ h2 118 17 = nI w
theorem c_X10_shuts_1w {l : Launch} (h s : Mm) (w o : Nat) (x : Int32) (L : List Nat) (hR : RR h (VS s L)) (hw : h 118 17 = nI w) (hw8 : w < 8) (ho : s 119 (46 + 6 * w + 0) = nI o) (ho7 : o < 7) (hL : L.length ≤ 37) : Con l yX10_shuts cX10_shuts 3 (some .int) 3 66 132 GL h [.ref 118, .int (nI 1), .int x] (P_X10_shuts_1w h s w o x L) := by
  refine Con.ofV (own := "FoxRoundsModel") (nm := "shuts") rfl rfl (by decide) (Nat.le_of_ble_eq_true rfl) ?_
  intro κ ρ hkl K
  subst hkl
  show V κ (QM κ (132, ρ, GL, 0, 0) (P_X10_shuts_1w h s w o x L)) 3 (132, ρ, GL, 0, 0) h 0 [(0, .ref 118), (1, .int (nI 1)), (2, .int x)] []
  refine v_iload_n K dX10_shuts_0 rfl ?_
  refine v_lookN (off := 65) (tgt := 66) K (by decide) 1 dX10_shuts_1 rfl (by decide) rfl rfl ?_
  refine v_aload_n K dX10_shuts_66 rfl ?_
  refine v_iload_n K dX10_shuts_67 rfl ?_
  refine v_callS (As := [.int (nI 1)]) K (c_X10_above_1 h) lX10_277 rfl ⟨by decide, by decide⟩ (Nat.le_of_ble_eq_true rfl) dX10_shuts_68 (fun r1 h1 hp1 => ?_) rfl
  obtain ⟨rfl, rfl⟩ := hp1
  refine v_some ?_
  refine v_iload_n K dX10_shuts_71 rfl ?_
  refine v_callV (As := [.int (nI 0), .int x]) K (c_X10_shuts_0 h s w o x (L) hR hw hw8 ho ho7 (by (try simp only [List.length_append, List.length_cons, List.length_nil]); have t1 := vcTt_len ho7; have t2 := vcSt_len ho7; have t3 := vcFt_len ho7 ho7; (try simp only [vcTt, vcSt, vcFt, vcLt, List.length_append, List.length_cons, List.length_nil] at *); omega)) lX10_289 ck_X10 rfl sh_118 pl_118 rfl ⟨by decide, by decide⟩ (Nat.le_of_ble_eq_true rfl) dX10_shuts_72 (fun r2 h2 hp2 => ?_) rfl
  obtain ⟨rfl, hRq1, hwq1⟩ := hp2
  refine v_some ?_
  refine v_iret K dX10_shuts_75 ?_
  exact ⟨rfl, by first | exact hRq1 | (have hx := hRq1; simp only [List.append_assoc, List.cons_append, List.nil_append] at hx ⊢; exact hx), hwq1⟩

abbrev P_X10_shuts_2w (h s : Mm) (w o : Nat) (x : Int32) (L : List Nat) : Option Value → Mm → Prop := fun r h2 => r = some (.int (vcS 2 x (s 119 (46 + 6 * w + 2)))) ∧ RR h2 (VS s (L ++ vcSt 2)) ∧ h2 118 17 = nI w
theorem c_X10_shuts_2w {l : Launch} (h s : Mm) (w o : Nat) (x : Int32) (L : List Nat) (hR : RR h (VS s L)) (hw : h 118 17 = nI w) (hw8 : w < 8) (ho : s 119 (46 + 6 * w + 0) = nI o) (ho7 : o < 7) (hL : L.length ≤ 37) : Con l yX10_shuts cX10_shuts 3 (some .int) 3 66 132 GL h [.ref 118, .int (nI 2), .int x] (P_X10_shuts_2w h s w o x L) := by
  refine Con.ofV (own := "FoxRoundsModel") (nm := "shuts") rfl rfl (by decide) (Nat.le_of_ble_eq_true rfl) ?_
  intro κ ρ hkl K
  subst hkl
  show V κ (QM κ (132, ρ, GL, 0, 0) (P_X10_shuts_2w h s w o x L)) 3 (132, ρ, GL, 0, 0) h 0 [(0, .ref 118), (1, .int (nI 2)), (2, .int x)] []
  refine v_iload_n K dX10_shuts_0 rfl ?_
  refine v_lookN (off := 65) (tgt := 66) K (by decide) 2 dX10_shuts_1 rfl (by decide) rfl rfl ?_
  refine v_aload_n K dX10_shuts_66 rfl ?_
  refine v_iload_n K dX10_shuts_67 rfl ?_
  refine v_callS (As := [.int (nI 2)]) K (c_X10_above_2 h) lX10_277 rfl ⟨by decide, by decide⟩ (Nat.le_of_ble_eq_true rfl) dX10_shuts_68 (fun r1 h1 hp1 => ?_) rfl
  obtain ⟨rfl, rfl⟩ := hp1
  refine v_some ?_
  refine v_iload_n K dX10_shuts_71 rfl ?_
  refine v_callV (As := [.int (nI 0), .int x]) K (c_X10_shuts_0 h s w o x (L) hR hw hw8 ho ho7 (by (try simp only [List.length_append, List.length_cons, List.length_nil]); have t1 := vcTt_len ho7; have t2 := vcSt_len ho7; have t3 := vcFt_len ho7 ho7; (try simp only [vcTt, vcSt, vcFt, vcLt, List.length_append, List.length_cons, List.length_nil] at *); omega)) lX10_289 ck_X10 rfl sh_118 pl_118 rfl ⟨by decide, by decide⟩ (Nat.le_of_ble_eq_true rfl) dX10_shuts_72 (fun r2 h2 hp2 => ?_) rfl
  obtain ⟨rfl, hRq1, hwq1⟩ := hp2
  refine v_some ?_
  refine v_iret K dX10_shuts_75 ?_
  exact ⟨rfl, by first | exact hRq1 | (have hx := hRq1; simp only [List.append_assoc, List.cons_append, List.nil_append] at hx ⊢; exact hx), hwq1⟩

abbrev P_X10_shuts_3w (h s : Mm) (w o : Nat) (x : Int32) (L : List Nat) : Option Value → Mm → Prop := fun r h2 => r = some (.int (vcS 3 x (s 119 (46 + 6 * w + 2)))) ∧ RR h2 (VS s (L ++ vcSt 3)) ∧ h2 118 17 = nI w
theorem c_X10_shuts_3w {l : Launch} (h s : Mm) (w o : Nat) (x : Int32) (L : List Nat) (hR : RR h (VS s L)) (hw : h 118 17 = nI w) (hw8 : w < 8) (ho : s 119 (46 + 6 * w + 0) = nI o) (ho7 : o < 7) (hL : L.length ≤ 36) : Con l yX10_shuts cX10_shuts 3 (some .int) 3 66 132 GL h [.ref 118, .int (nI 3), .int x] (P_X10_shuts_3w h s w o x L) := by
  refine Con.ofV (own := "FoxRoundsModel") (nm := "shuts") rfl rfl (by decide) (Nat.le_of_ble_eq_true rfl) ?_
  intro κ ρ hkl K
  subst hkl
  show V κ (QM κ (132, ρ, GL, 0, 0) (P_X10_shuts_3w h s w o x L)) 3 (132, ρ, GL, 0, 0) h 0 [(0, .ref 118), (1, .int (nI 3)), (2, .int x)] []
  refine v_iload_n K dX10_shuts_0 rfl ?_
  refine v_lookN (off := 48) (tgt := 49) K (by decide) 3 dX10_shuts_1 rfl (by decide) rfl rfl ?_
  refine v_aload_n K dX10_shuts_49 rfl ?_
  refine v_bipushN K 40 rfl dX10_shuts_50 ?_
  refine v_callV (As := [.int (nI 40)]) K (c_X10_ran h s w 40 (L) hR hw (by (try simp only [List.length_append, List.length_cons, List.length_nil]); have t1 := vcTt_len ho7; have t2 := vcSt_len ho7; have t3 := vcFt_len ho7 ho7; (try simp only [vcTt, vcSt, vcFt, vcLt, List.length_append, List.length_cons, List.length_nil] at *); omega)) lX10_274 ck_X10 rfl sh_118 pl_118 rfl ⟨by decide, by decide⟩ (Nat.le_of_ble_eq_true rfl) dX10_shuts_52 (fun r1 h1 hp1 => ?_) rfl
  obtain ⟨rfl, hRq1, hwq1⟩ := hp1
  refine v_none ?_
  refine v_aload_n K dX10_shuts_55 rfl ?_
  refine v_iconstN K 3 rfl dX10_shuts_56 ?_
  refine v_callS (As := [.int (nI 3)]) K (c_X10_above_3 h1) lX10_277 rfl ⟨by decide, by decide⟩ (Nat.le_of_ble_eq_true rfl) dX10_shuts_57 (fun r2 h2 hp2 => ?_) rfl
  obtain ⟨rfl, rfl⟩ := hp2
  refine v_some ?_
  refine v_iload_n K dX10_shuts_60 rfl ?_
  refine v_callV (As := [.int (nI 0), .int x]) K (c_X10_shuts_0 h1 s w o x (L ++ [40]) hRq1 hwq1 hw8 ho ho7 (by (try simp only [List.length_append, List.length_cons, List.length_nil]); have t1 := vcTt_len ho7; have t2 := vcSt_len ho7; have t3 := vcFt_len ho7 ho7; (try simp only [vcTt, vcSt, vcFt, vcLt, List.length_append, List.length_cons, List.length_nil] at *); omega)) lX10_289 ck_X10 rfl sh_118 pl_118 rfl ⟨by decide, by decide⟩ (Nat.le_of_ble_eq_true rfl) dX10_shuts_61 (fun r3 h3 hp3 => ?_) rfl
  obtain ⟨rfl, hRq2, hwq2⟩ := hp3
  refine v_some ?_
  refine v_ineg K dX10_shuts_64 ?_
  refine v_iret K dX10_shuts_65 ?_
  exact ⟨rfl, by first | exact hRq2 | (have hx := hRq2; simp only [List.append_assoc, List.cons_append, List.nil_append] at hx ⊢; exact hx), hwq2⟩

abbrev P_X10_shuts (h s : Mm) (w o : Nat) (x : Int32) (L : List Nat) (k : Nat) : Option Value → Mm → Prop := fun r h2 => r = some (.int (vcS k x (s 119 (46 + 6 * w + 2)))) ∧ RR h2 (VS s (L ++ vcSt k)) ∧ h2 118 17 = nI w
theorem c_X10_shuts {l : Launch} (h s : Mm) (w o : Nat) (x : Int32) (L : List Nat) (hR : RR h (VS s L)) (hw : h 118 17 = nI w) (hw8 : w < 8) (ho : s 119 (46 + 6 * w + 0) = nI o) (ho7 : o < 7) (hL : L.length ≤ 36) (k : Nat) (hk : k < 7) : Con l yX10_shuts cX10_shuts 3 (some .int) 3 66 132 GL h [.ref 118, .int (nI k), .int x] (P_X10_shuts h s w o x L k) := by
  obtain rfl | rfl | rfl | rfl | rfl | rfl | rfl : k = 0 ∨ k = 1 ∨ k = 2 ∨ k = 3 ∨ k = 4 ∨ k = 5 ∨ k = 6 := by omega
  · exact c_X10_shuts_0w h s w o x L hR hw hw8 ho ho7 (by omega)
  · exact c_X10_shuts_1w h s w o x L hR hw hw8 ho ho7 (by omega)
  · exact c_X10_shuts_2w h s w o x L hR hw hw8 ho ho7 (by omega)
  · exact c_X10_shuts_3w h s w o x L hR hw hw8 ho ho7 (by omega)
  · exact c_X10_shuts_4 h s w o x L hR hw hw8 ho ho7 (by omega)
  · exact c_X10_shuts_5 h s w o x L hR hw hw8 ho ho7 (by omega)
  · exact c_X10_shuts_6 h s w o x L hR hw hw8 ho ho7 (by omega)

abbrev P_X10_fears_0 (h s : Mm) (w o : Nat) (x : Int32) (L : List Nat) : Option Value → Mm → Prop := fun r h2 => r = some (.int (vcF o 0 x (nI w) (s 119 (46 + 6 * w + 2)))) ∧ RR h2 (VS s (L ++ vcFt o 0)) ∧ h2 118 17 = nI w
theorem c_X10_fears_0 {l : Launch} (h s : Mm) (w o : Nat) (x : Int32) (L : List Nat) (hR : RR h (VS s L)) (hw : h 118 17 = nI w) (hw8 : w < 8) (ho : s 119 (46 + 6 * w + 0) = nI o) (ho7 : o < 7) (hL : L.length ≤ 33) : Con l yX10_fears cX10_fears 4 (some .int) 4 87 132 GL h [.ref 118, .int (nI 0), .int x] (P_X10_fears_0 h s w o x L) := by
  refine Con.ofV (own := "FoxRoundsModel") (nm := "fears") rfl rfl (by decide) (Nat.le_of_ble_eq_true rfl) ?_
  intro κ ρ hkl K
  subst hkl
  show V κ (QM κ (132, ρ, GL, 0, 0) (P_X10_fears_0 h s w o x L)) 4 (132, ρ, GL, 0, 0) h 0 [(0, .ref 118), (1, .int (nI 0)), (2, .int x)] []
  refine v_iload_n K dX10_fears_0 rfl ?_
  refine v_lookN (off := 35) (tgt := 36) K (by decide) 0 dX10_fears_1 rfl (by decide) rfl rfl ?_
  refine v_aload_n K dX10_fears_36 rfl ?_
  refine v_bipushN K 11 rfl dX10_fears_37 ?_
  refine v_callV (As := [.int (nI 11)]) K (c_X10_ran h s w 11 (L) hR hw (by (try simp only [List.length_append, List.length_cons, List.length_nil]); have t1 := vcTt_len ho7; have t2 := vcSt_len ho7; have t3 := vcFt_len ho7 ho7; (try simp only [vcTt, vcSt, vcFt, vcLt, List.length_append, List.length_cons, List.length_nil] at *); omega)) lX10_274 ck_X10 rfl sh_118 pl_118 rfl ⟨by decide, by decide⟩ (Nat.le_of_ble_eq_true rfl) dX10_fears_39 (fun r1 h1 hp1 => ?_) rfl
  obtain ⟨rfl, hRq1, hwq1⟩ := hp1
  refine v_none ?_
  refine v_aload_n K dX10_fears_42 rfl ?_
  refine v_aload_n K dX10_fears_43 rfl ?_
  refine v_callV (As := []) K (c_X10_own h1 s w o (L ++ [11]) hRq1 hwq1 hw8 ho) lX10_283 ck_X10 rfl sh_118 pl_118 rfl ⟨by decide, by decide⟩ (Nat.le_of_ble_eq_true rfl) dX10_fears_44 (fun r2 h2 hp2 => ?_) rfl
  obtain ⟨rfl, rfl⟩ := hp2
  refine v_some ?_
  refine v_iload_n K dX10_fears_47 rfl ?_
  refine v_callV (As := [.int (nI o), .int x]) K (c_X10_triesOf h1 s w o x (L ++ [11]) hRq1 hwq1 hw8 ho ho7 (by (try simp only [List.length_append, List.length_cons, List.length_nil]); have t1 := vcTt_len ho7; have t2 := vcSt_len ho7; have t3 := vcFt_len ho7 ho7; (try simp only [vcTt, vcSt, vcFt, vcLt, List.length_append, List.length_cons, List.length_nil] at *); omega) o (by omega)) lX10_280 ck_X10 rfl sh_118 pl_118 rfl ⟨by decide, by decide⟩ (Nat.le_of_ble_eq_true rfl) dX10_fears_48 (fun r3 h3 hp3 => ?_) rfl
  obtain ⟨rfl, hRq2, hwq2⟩ := hp3
  refine v_some ?_
  refine v_iconstN K 2 rfl dX10_fears_51 ?_
  refine v_imul K dX10_fears_52 ?_
  refine v_iret K dX10_fears_53 ?_
  exact ⟨rfl, by first | exact hRq2 | (have hx := hRq2; simp only [List.append_assoc, List.cons_append, List.nil_append] at hx ⊢; exact hx), hwq2⟩

abbrev P_X10_fears_1 (h s : Mm) (w o : Nat) (x : Int32) (L : List Nat) : Option Value → Mm → Prop := fun r h2 => r = some (.int (vcF o 1 x (nI w) (s 119 (46 + 6 * w + 2)))) ∧ RR h2 (VS s (L ++ vcFt o 1)) ∧ h2 118 17 = nI w
theorem c_X10_fears_1 {l : Launch} (h s : Mm) (w o : Nat) (x : Int32) (L : List Nat) (hR : RR h (VS s L)) (hw : h 118 17 = nI w) (hw8 : w < 8) (ho : s 119 (46 + 6 * w + 0) = nI o) (ho7 : o < 7) (hL : L.length ≤ 31) : Con l yX10_fears cX10_fears 4 (some .int) 5 110 132 GL h [.ref 118, .int (nI 1), .int x] (P_X10_fears_1 h s w o x L) := by
  refine Con.ofV (own := "FoxRoundsModel") (nm := "fears") rfl rfl (by decide) (Nat.le_of_ble_eq_true rfl) ?_
  intro κ ρ hkl K
  subst hkl
  show V κ (QM κ (132, ρ, GL, 0, 0) (P_X10_fears_1 h s w o x L)) 4 (132, ρ, GL, 0, 0) h 0 [(0, .ref 118), (1, .int (nI 1)), (2, .int x)] []
  refine v_iload_n K dX10_fears_0 rfl ?_
  refine v_lookN (off := 53) (tgt := 54) K (by decide) 1 dX10_fears_1 rfl (by decide) rfl rfl ?_
  refine v_aload_n K dX10_fears_54 rfl ?_
  refine v_bipushN K 20 rfl dX10_fears_55 ?_
  refine v_callV (As := [.int (nI 20)]) K (c_X10_ran h s w 20 (L) hR hw (by (try simp only [List.length_append, List.length_cons, List.length_nil]); have t1 := vcTt_len ho7; have t2 := vcSt_len ho7; have t3 := vcFt_len ho7 ho7; (try simp only [vcTt, vcSt, vcFt, vcLt, List.length_append, List.length_cons, List.length_nil] at *); omega)) lX10_274 ck_X10 rfl sh_118 pl_118 rfl ⟨by decide, by decide⟩ (Nat.le_of_ble_eq_true rfl) dX10_fears_57 (fun r1 h1 hp1 => ?_) rfl
  obtain ⟨rfl, hRq1, hwq1⟩ := hp1
  refine v_none ?_
  refine v_aload_n K dX10_fears_60 rfl ?_
  refine v_iconstN K 1 rfl dX10_fears_61 ?_
  refine v_callS (As := [.int (nI 1)]) K (c_X10_above_1 h1) lX10_277 rfl ⟨by decide, by decide⟩ (Nat.le_of_ble_eq_true rfl) dX10_fears_62 (fun r2 h2 hp2 => ?_) rfl
  obtain ⟨rfl, rfl⟩ := hp2
  refine v_some ?_
  refine v_iload_n K dX10_fears_65 rfl ?_
  refine v_callV (As := [.int (nI 0), .int x]) K (c_X10_fears_0 h1 s w o x (L ++ [20]) hRq1 hwq1 hw8 ho ho7 (by (try simp only [List.length_append, List.length_cons, List.length_nil]); have t1 := vcTt_len ho7; have t2 := vcSt_len ho7; have t3 := vcFt_len ho7 ho7; (try simp only [vcTt, vcSt, vcFt, vcLt, List.length_append, List.length_cons, List.length_nil] at *); omega)) lX10_286 ck_X10 rfl sh_118 pl_118 rfl ⟨by decide, by decide⟩ (Nat.le_of_ble_eq_true rfl) dX10_fears_66 (fun r3 h3 hp3 => ?_) rfl
  obtain ⟨rfl, hRq2, hwq2⟩ := hp3
  refine v_some ?_
  refine v_istore_n (lv2 := [(3, .int (vcF o 0 x (nI w) (s 119 (46 + 6 * w + 2)))), (0, .ref 118), (1, .int (nI 1)), (2, .int x)]) K dX10_fears_69 (by decide) rfl ?_
  refine v_iload_n K dX10_fears_70 rfl ?_
  refine v_aload_n K dX10_fears_71 rfl ?_
  refine v_aload_n K dX10_fears_72 rfl ?_
  refine v_callV (As := []) K (c_X10_own h3 s w o (L ++ [20] ++ (vcFt o 0)) hRq2 hwq2 hw8 ho) lX10_283 ck_X10 rfl sh_118 pl_118 rfl ⟨by decide, by decide⟩ (Nat.le_of_ble_eq_true rfl) dX10_fears_73 (fun r4 h4 hp4 => ?_) rfl
  obtain ⟨rfl, rfl⟩ := hp4
  refine v_some ?_
  refine v_iconstN K 1 rfl dX10_fears_76 ?_
  refine v_callV (As := [.int (nI o), .int (nI 1)]) K (c_X10_shuts h3 s w o (nI 1) (L ++ [20] ++ (vcFt o 0)) hRq2 hwq2 hw8 ho ho7 (by (try simp only [List.length_append, List.length_cons, List.length_nil]); have t1 := vcTt_len ho7; have t2 := vcSt_len ho7; have t3 := vcFt_len ho7 ho7; (try simp only [vcTt, vcSt, vcFt, vcLt, List.length_append, List.length_cons, List.length_nil] at *); omega) o (by omega)) lX10_289 ck_X10 rfl sh_118 pl_118 rfl ⟨by decide, by decide⟩ (Nat.le_of_ble_eq_true rfl) dX10_fears_77 (fun r5 h5 hp5 => ?_) rfl
  obtain ⟨rfl, hRq3, hwq3⟩ := hp5
  refine v_some ?_
  refine v_isub K dX10_fears_80 ?_
  refine v_iret K dX10_fears_81 ?_
  exact ⟨rfl, by first | exact hRq3 | (have hx := hRq3; simp only [List.append_assoc, List.cons_append, List.nil_append] at hx ⊢; exact hx), hwq3⟩

abbrev P_X10_fears_2 (h s : Mm) (w o : Nat) (x : Int32) (L : List Nat) : Option Value → Mm → Prop := fun r h2 => r = some (.int (vcF o 2 x (nI w) (s 119 (46 + 6 * w + 2)))) ∧ RR h2 (VS s (L ++ vcFt o 2)) ∧ h2 118 17 = nI w
theorem c_X10_fears_2 {l : Launch} (h s : Mm) (w o : Nat) (x : Int32) (L : List Nat) (hR : RR h (VS s L)) (hw : h 118 17 = nI w) (hw8 : w < 8) (ho : s 119 (46 + 6 * w + 0) = nI o) (ho7 : o < 7) (hL : L.length ≤ 33) : Con l yX10_fears cX10_fears 4 (some .int) 5 110 132 GL h [.ref 118, .int (nI 2), .int x] (P_X10_fears_2 h s w o x L) := by
  refine Con.ofV (own := "FoxRoundsModel") (nm := "fears") rfl rfl (by decide) (Nat.le_of_ble_eq_true rfl) ?_
  intro κ ρ hkl K
  subst hkl
  show V κ (QM κ (132, ρ, GL, 0, 0) (P_X10_fears_2 h s w o x L)) 4 (132, ρ, GL, 0, 0) h 0 [(0, .ref 118), (1, .int (nI 2)), (2, .int x)] []
  refine v_iload_n K dX10_fears_0 rfl ?_
  refine v_lookN (off := 103) (tgt := 104) K (by decide) 2 dX10_fears_1 rfl (by decide) rfl rfl ?_
  refine v_aload_n K dX10_fears_104 rfl ?_
  refine v_iload_n K dX10_fears_105 rfl ?_
  refine v_callS (As := [.int (nI 2)]) K (c_X10_above_2 h) lX10_277 rfl ⟨by decide, by decide⟩ (Nat.le_of_ble_eq_true rfl) dX10_fears_106 (fun r1 h1 hp1 => ?_) rfl
  obtain ⟨rfl, rfl⟩ := hp1
  refine v_some ?_
  refine v_iload_n K dX10_fears_109 rfl ?_
  refine v_callV (As := [.int (nI 0), .int x]) K (c_X10_fears_0 h s w o x (L) hR hw hw8 ho ho7 (by (try simp only [List.length_append, List.length_cons, List.length_nil]); have t1 := vcTt_len ho7; have t2 := vcSt_len ho7; have t3 := vcFt_len ho7 ho7; (try simp only [vcTt, vcSt, vcFt, vcLt, List.length_append, List.length_cons, List.length_nil] at *); omega)) lX10_286 ck_X10 rfl sh_118 pl_118 rfl ⟨by decide, by decide⟩ (Nat.le_of_ble_eq_true rfl) dX10_fears_110 (fun r2 h2 hp2 => ?_) rfl
  obtain ⟨rfl, hRq1, hwq1⟩ := hp2
  refine v_some ?_
  refine v_iret K dX10_fears_113 ?_
  exact ⟨rfl, by first | exact hRq1 | (have hx := hRq1; simp only [List.append_assoc, List.cons_append, List.nil_append] at hx ⊢; exact hx), hwq1⟩

abbrev P_X10_fears_3 (h s : Mm) (w o : Nat) (x : Int32) (L : List Nat) : Option Value → Mm → Prop := fun r h2 => r = some (.int (vcF o 3 x (nI w) (s 119 (46 + 6 * w + 2)))) ∧ RR h2 (VS s (L ++ vcFt o 3)) ∧ h2 118 17 = nI w
theorem c_X10_fears_3 {l : Launch} (h s : Mm) (w o : Nat) (x : Int32) (L : List Nat) (hR : RR h (VS s L)) (hw : h 118 17 = nI w) (hw8 : w < 8) (ho : s 119 (46 + 6 * w + 0) = nI o) (ho7 : o < 7) (hL : L.length ≤ 33) : Con l yX10_fears cX10_fears 4 (some .int) 5 110 132 GL h [.ref 118, .int (nI 3), .int x] (P_X10_fears_3 h s w o x L) := by
  refine Con.ofV (own := "FoxRoundsModel") (nm := "fears") rfl rfl (by decide) (Nat.le_of_ble_eq_true rfl) ?_
  intro κ ρ hkl K
  subst hkl
  show V κ (QM κ (132, ρ, GL, 0, 0) (P_X10_fears_3 h s w o x L)) 4 (132, ρ, GL, 0, 0) h 0 [(0, .ref 118), (1, .int (nI 3)), (2, .int x)] []
  refine v_iload_n K dX10_fears_0 rfl ?_
  refine v_lookN (off := 103) (tgt := 104) K (by decide) 3 dX10_fears_1 rfl (by decide) rfl rfl ?_
  refine v_aload_n K dX10_fears_104 rfl ?_
  refine v_iload_n K dX10_fears_105 rfl ?_
  refine v_callS (As := [.int (nI 3)]) K (c_X10_above_3 h) lX10_277 rfl ⟨by decide, by decide⟩ (Nat.le_of_ble_eq_true rfl) dX10_fears_106 (fun r1 h1 hp1 => ?_) rfl
  obtain ⟨rfl, rfl⟩ := hp1
  refine v_some ?_
  refine v_iload_n K dX10_fears_109 rfl ?_
  refine v_callV (As := [.int (nI 0), .int x]) K (c_X10_fears_0 h s w o x (L) hR hw hw8 ho ho7 (by (try simp only [List.length_append, List.length_cons, List.length_nil]); have t1 := vcTt_len ho7; have t2 := vcSt_len ho7; have t3 := vcFt_len ho7 ho7; (try simp only [vcTt, vcSt, vcFt, vcLt, List.length_append, List.length_cons, List.length_nil] at *); omega)) lX10_286 ck_X10 rfl sh_118 pl_118 rfl ⟨by decide, by decide⟩ (Nat.le_of_ble_eq_true rfl) dX10_fears_110 (fun r2 h2 hp2 => ?_) rfl
  obtain ⟨rfl, hRq1, hwq1⟩ := hp2
  refine v_some ?_
  refine v_iret K dX10_fears_113 ?_
  exact ⟨rfl, by first | exact hRq1 | (have hx := hRq1; simp only [List.append_assoc, List.cons_append, List.nil_append] at hx ⊢; exact hx), hwq1⟩

abbrev P_X10_fears_4 (h s : Mm) (w o : Nat) (x : Int32) (L : List Nat) : Option Value → Mm → Prop := fun r h2 => r = some (.int (vcF o 4 x (nI w) (s 119 (46 + 6 * w + 2)))) ∧ RR h2 (VS s (L ++ vcFt o 4)) ∧ h2 118 17 = nI w
theorem c_X10_fears_4 {l : Launch} (h s : Mm) (w o : Nat) (x : Int32) (L : List Nat) (hR : RR h (VS s L)) (hw : h 118 17 = nI w) (hw8 : w < 8) (ho : s 119 (46 + 6 * w + 0) = nI o) (ho7 : o < 7) (hL : L.length ≤ 33) : Con l yX10_fears cX10_fears 4 (some .int) 6 133 132 GL h [.ref 118, .int (nI 4), .int x] (P_X10_fears_4 h s w o x L) := by
  refine Con.ofV (own := "FoxRoundsModel") (nm := "fears") rfl rfl (by decide) (Nat.le_of_ble_eq_true rfl) ?_
  intro κ ρ hkl K
  subst hkl
  show V κ (QM κ (132, ρ, GL, 0, 0) (P_X10_fears_4 h s w o x L)) 4 (132, ρ, GL, 0, 0) h 0 [(0, .ref 118), (1, .int (nI 4)), (2, .int x)] []
  refine v_iload_n K dX10_fears_0 rfl ?_
  refine v_lookN (off := 103) (tgt := 104) K (by decide) 4 dX10_fears_1 rfl (by decide) rfl rfl ?_
  refine v_aload_n K dX10_fears_104 rfl ?_
  refine v_iload_n K dX10_fears_105 rfl ?_
  refine v_callS (As := [.int (nI 4)]) K (c_X10_above_4 h) lX10_277 rfl ⟨by decide, by decide⟩ (Nat.le_of_ble_eq_true rfl) dX10_fears_106 (fun r1 h1 hp1 => ?_) rfl
  obtain ⟨rfl, rfl⟩ := hp1
  refine v_some ?_
  refine v_iload_n K dX10_fears_109 rfl ?_
  refine v_callV (As := [.int (nI 2), .int x]) K (c_X10_fears_2 h s w o x (L) hR hw hw8 ho ho7 (by (try simp only [List.length_append, List.length_cons, List.length_nil]); have t1 := vcTt_len ho7; have t2 := vcSt_len ho7; have t3 := vcFt_len ho7 ho7; (try simp only [vcTt, vcSt, vcFt, vcLt, List.length_append, List.length_cons, List.length_nil] at *); omega)) lX10_286 ck_X10 rfl sh_118 pl_118 rfl ⟨by decide, by decide⟩ (Nat.le_of_ble_eq_true rfl) dX10_fears_110 (fun r2 h2 hp2 => ?_) rfl
  obtain ⟨rfl, hRq1, hwq1⟩ := hp2
  refine v_some ?_
  refine v_iret K dX10_fears_113 ?_
  exact ⟨rfl, by first | exact hRq1 | (have hx := hRq1; simp only [List.append_assoc, List.cons_append, List.nil_append] at hx ⊢; exact hx), hwq1⟩

abbrev P_X10_fears_5 (h s : Mm) (w o : Nat) (x : Int32) (L : List Nat) : Option Value → Mm → Prop := fun r h2 => r = some (.int (vcF o 5 x (nI w) (s 119 (46 + 6 * w + 2)))) ∧ RR h2 (VS s (L ++ vcFt o 5)) ∧ h2 118 17 = nI w
theorem c_X10_fears_5 {l : Launch} (h s : Mm) (w o : Nat) (x : Int32) (L : List Nat) (hR : RR h (VS s L)) (hw : h 118 17 = nI w) (hw8 : w < 8) (ho : s 119 (46 + 6 * w + 0) = nI o) (ho7 : o < 7) (hL : L.length ≤ 33) : Con l yX10_fears cX10_fears 4 (some .int) 6 133 132 GL h [.ref 118, .int (nI 5), .int x] (P_X10_fears_5 h s w o x L) := by
  refine Con.ofV (own := "FoxRoundsModel") (nm := "fears") rfl rfl (by decide) (Nat.le_of_ble_eq_true rfl) ?_
  intro κ ρ hkl K
  subst hkl
  show V κ (QM κ (132, ρ, GL, 0, 0) (P_X10_fears_5 h s w o x L)) 4 (132, ρ, GL, 0, 0) h 0 [(0, .ref 118), (1, .int (nI 5)), (2, .int x)] []
  refine v_iload_n K dX10_fears_0 rfl ?_
  refine v_lookN (off := 103) (tgt := 104) K (by decide) 5 dX10_fears_1 rfl (by decide) rfl rfl ?_
  refine v_aload_n K dX10_fears_104 rfl ?_
  refine v_iload_n K dX10_fears_105 rfl ?_
  refine v_callS (As := [.int (nI 5)]) K (c_X10_above_5 h) lX10_277 rfl ⟨by decide, by decide⟩ (Nat.le_of_ble_eq_true rfl) dX10_fears_106 (fun r1 h1 hp1 => ?_) rfl
  obtain ⟨rfl, rfl⟩ := hp1
  refine v_some ?_
  refine v_iload_n K dX10_fears_109 rfl ?_
  refine v_callV (As := [.int (nI 3), .int x]) K (c_X10_fears_3 h s w o x (L) hR hw hw8 ho ho7 (by (try simp only [List.length_append, List.length_cons, List.length_nil]); have t1 := vcTt_len ho7; have t2 := vcSt_len ho7; have t3 := vcFt_len ho7 ho7; (try simp only [vcTt, vcSt, vcFt, vcLt, List.length_append, List.length_cons, List.length_nil] at *); omega)) lX10_286 ck_X10 rfl sh_118 pl_118 rfl ⟨by decide, by decide⟩ (Nat.le_of_ble_eq_true rfl) dX10_fears_110 (fun r2 h2 hp2 => ?_) rfl
  obtain ⟨rfl, hRq1, hwq1⟩ := hp2
  refine v_some ?_
  refine v_iret K dX10_fears_113 ?_
  exact ⟨rfl, by first | exact hRq1 | (have hx := hRq1; simp only [List.append_assoc, List.cons_append, List.nil_append] at hx ⊢; exact hx), hwq1⟩

abbrev P_X10_fears_6 (h s : Mm) (w o : Nat) (x : Int32) (L : List Nat) : Option Value → Mm → Prop := fun r h2 => r = some (.int (vcF o 6 x (nI w) (s 119 (46 + 6 * w + 2)))) ∧ RR h2 (VS s (L ++ vcFt o 6)) ∧ h2 118 17 = nI w
theorem c_X10_fears_6 {l : Launch} (h s : Mm) (w o : Nat) (x : Int32) (L : List Nat) (hR : RR h (VS s L)) (hw : h 118 17 = nI w) (hw8 : w < 8) (ho : s 119 (46 + 6 * w + 0) = nI o) (ho7 : o < 7) (hL : L.length ≤ 30) : Con l yX10_fears cX10_fears 4 (some .int) 6 133 132 GL h [.ref 118, .int (nI 6), .int x] (P_X10_fears_6 h s w o x L) := by
  refine Con.ofV (own := "FoxRoundsModel") (nm := "fears") rfl rfl (by decide) (Nat.le_of_ble_eq_true rfl) ?_
  intro κ ρ hkl K
  subst hkl
  show V κ (QM κ (132, ρ, GL, 0, 0) (P_X10_fears_6 h s w o x L)) 4 (132, ρ, GL, 0, 0) h 0 [(0, .ref 118), (1, .int (nI 6)), (2, .int x)] []
  refine v_iload_n K dX10_fears_0 rfl ?_
  refine v_lookN (off := 81) (tgt := 82) K (by decide) 6 dX10_fears_1 rfl (by decide) rfl rfl ?_
  refine v_aload_n K dX10_fears_82 rfl ?_
  refine v_bipushN K 70 rfl dX10_fears_83 ?_
  refine v_callV (As := [.int (nI 70)]) K (c_X10_ran h s w 70 (L) hR hw (by (try simp only [List.length_append, List.length_cons, List.length_nil]); have t1 := vcTt_len ho7; have t2 := vcSt_len ho7; have t3 := vcFt_len ho7 ho7; (try simp only [vcTt, vcSt, vcFt, vcLt, List.length_append, List.length_cons, List.length_nil] at *); omega)) lX10_274 ck_X10 rfl sh_118 pl_118 rfl ⟨by decide, by decide⟩ (Nat.le_of_ble_eq_true rfl) dX10_fears_85 (fun r1 h1 hp1 => ?_) rfl
  obtain ⟨rfl, hRq1, hwq1⟩ := hp1
  refine v_none ?_
  refine v_aload_n K dX10_fears_88 rfl ?_
  refine v_bipushN K 6 rfl dX10_fears_89 ?_
  refine v_callS (As := [.int (nI 6)]) K (c_X10_above_6 h1) lX10_277 rfl ⟨by decide, by decide⟩ (Nat.le_of_ble_eq_true rfl) dX10_fears_91 (fun r2 h2 hp2 => ?_) rfl
  obtain ⟨rfl, rfl⟩ := hp2
  refine v_some ?_
  refine v_iload_n K dX10_fears_94 rfl ?_
  refine v_callV (As := [.int (nI 1), .int x]) K (c_X10_fears_1 h1 s w o x (L ++ [70]) hRq1 hwq1 hw8 ho ho7 (by (try simp only [List.length_append, List.length_cons, List.length_nil]); have t1 := vcTt_len ho7; have t2 := vcSt_len ho7; have t3 := vcFt_len ho7 ho7; (try simp only [vcTt, vcSt, vcFt, vcLt, List.length_append, List.length_cons, List.length_nil] at *); omega)) lX10_286 ck_X10 rfl sh_118 pl_118 rfl ⟨by decide, by decide⟩ (Nat.le_of_ble_eq_true rfl) dX10_fears_95 (fun r3 h3 hp3 => ?_) rfl
  obtain ⟨rfl, hRq2, hwq2⟩ := hp3
  refine v_some ?_
  refine v_aload_n K dX10_fears_98 rfl ?_
  refine v_geti (x := nI w) K fX10_271 sh_118 pl_118 hwq2 dX10_fears_99 ?_
  refine v_ixor K dX10_fears_102 ?_
  refine v_iret K dX10_fears_103 ?_
  exact ⟨rfl, by first | exact hRq2 | (have hx := hRq2; simp only [List.append_assoc, List.cons_append, List.nil_append] at hx ⊢; exact hx), hwq2⟩

abbrev P_X10_fears_0w (h s : Mm) (w o : Nat) (x : Int32) (L : List Nat) : Option Value → Mm → Prop := fun r h2 => r = some (.int (vcF o 0 x (nI w) (s 119 (46 + 6 * w + 2)))) ∧ RR h2 (VS s (L ++ vcFt o 0)) ∧ h2 118 17 = nI w
theorem c_X10_fears_0w {l : Launch} (h s : Mm) (w o : Nat) (x : Int32) (L : List Nat) (hR : RR h (VS s L)) (hw : h 118 17 = nI w) (hw8 : w < 8) (ho : s 119 (46 + 6 * w + 0) = nI o) (ho7 : o < 7) (hL : L.length ≤ 33) : Con l yX10_fears cX10_fears 4 (some .int) 6 133 132 GL h [.ref 118, .int (nI 0), .int x] (P_X10_fears_0w h s w o x L) := by
  refine Con.ofV (own := "FoxRoundsModel") (nm := "fears") rfl rfl (by decide) (Nat.le_of_ble_eq_true rfl) ?_
  intro κ ρ hkl K
  subst hkl
  show V κ (QM κ (132, ρ, GL, 0, 0) (P_X10_fears_0w h s w o x L)) 4 (132, ρ, GL, 0, 0) h 0 [(0, .ref 118), (1, .int (nI 0)), (2, .int x)] []
  refine v_iload_n K dX10_fears_0 rfl ?_
  refine v_lookN (off := 35) (tgt := 36) K (by decide) 0 dX10_fears_1 rfl (by decide) rfl rfl ?_
  refine v_aload_n K dX10_fears_36 rfl ?_
  refine v_bipushN K 11 rfl dX10_fears_37 ?_
  refine v_callV (As := [.int (nI 11)]) K (c_X10_ran h s w 11 (L) hR hw (by (try simp only [List.length_append, List.length_cons, List.length_nil]); have t1 := vcTt_len ho7; have t2 := vcSt_len ho7; have t3 := vcFt_len ho7 ho7; (try simp only [vcTt, vcSt, vcFt, vcLt, List.length_append, List.length_cons, List.length_nil] at *); omega)) lX10_274 ck_X10 rfl sh_118 pl_118 rfl ⟨by decide, by decide⟩ (Nat.le_of_ble_eq_true rfl) dX10_fears_39 (fun r1 h1 hp1 => ?_) rfl
  obtain ⟨rfl, hRq1, hwq1⟩ := hp1
  refine v_none ?_
  refine v_aload_n K dX10_fears_42 rfl ?_
  refine v_aload_n K dX10_fears_43 rfl ?_
  refine v_callV (As := []) K (c_X10_own h1 s w o (L ++ [11]) hRq1 hwq1 hw8 ho) lX10_283 ck_X10 rfl sh_118 pl_118 rfl ⟨by decide, by decide⟩ (Nat.le_of_ble_eq_true rfl) dX10_fears_44 (fun r2 h2 hp2 => ?_) rfl
  obtain ⟨rfl, rfl⟩ := hp2
  refine v_some ?_
  refine v_iload_n K dX10_fears_47 rfl ?_
  refine v_callV (As := [.int (nI o), .int x]) K (c_X10_triesOf h1 s w o x (L ++ [11]) hRq1 hwq1 hw8 ho ho7 (by (try simp only [List.length_append, List.length_cons, List.length_nil]); have t1 := vcTt_len ho7; have t2 := vcSt_len ho7; have t3 := vcFt_len ho7 ho7; (try simp only [vcTt, vcSt, vcFt, vcLt, List.length_append, List.length_cons, List.length_nil] at *); omega) o (by omega)) lX10_280 ck_X10 rfl sh_118 pl_118 rfl ⟨by decide, by decide⟩ (Nat.le_of_ble_eq_true rfl) dX10_fears_48 (fun r3 h3 hp3 => ?_) rfl
  obtain ⟨rfl, hRq2, hwq2⟩ := hp3
  refine v_some ?_
  refine v_iconstN K 2 rfl dX10_fears_51 ?_
  refine v_imul K dX10_fears_52 ?_
  refine v_iret K dX10_fears_53 ?_
  exact ⟨rfl, by first | exact hRq2 | (have hx := hRq2; simp only [List.append_assoc, List.cons_append, List.nil_append] at hx ⊢; exact hx), hwq2⟩

abbrev P_X10_fears_1w (h s : Mm) (w o : Nat) (x : Int32) (L : List Nat) : Option Value → Mm → Prop := fun r h2 => r = some (.int (vcF o 1 x (nI w) (s 119 (46 + 6 * w + 2)))) ∧ RR h2 (VS s (L ++ vcFt o 1)) ∧ h2 118 17 = nI w
theorem c_X10_fears_1w {l : Launch} (h s : Mm) (w o : Nat) (x : Int32) (L : List Nat) (hR : RR h (VS s L)) (hw : h 118 17 = nI w) (hw8 : w < 8) (ho : s 119 (46 + 6 * w + 0) = nI o) (ho7 : o < 7) (hL : L.length ≤ 31) : Con l yX10_fears cX10_fears 4 (some .int) 6 133 132 GL h [.ref 118, .int (nI 1), .int x] (P_X10_fears_1w h s w o x L) := by
  refine Con.ofV (own := "FoxRoundsModel") (nm := "fears") rfl rfl (by decide) (Nat.le_of_ble_eq_true rfl) ?_
  intro κ ρ hkl K
  subst hkl
  show V κ (QM κ (132, ρ, GL, 0, 0) (P_X10_fears_1w h s w o x L)) 4 (132, ρ, GL, 0, 0) h 0 [(0, .ref 118), (1, .int (nI 1)), (2, .int x)] []
  refine v_iload_n K dX10_fears_0 rfl ?_
  refine v_lookN (off := 53) (tgt := 54) K (by decide) 1 dX10_fears_1 rfl (by decide) rfl rfl ?_
  refine v_aload_n K dX10_fears_54 rfl ?_
  refine v_bipushN K 20 rfl dX10_fears_55 ?_
  refine v_callV (As := [.int (nI 20)]) K (c_X10_ran h s w 20 (L) hR hw (by (try simp only [List.length_append, List.length_cons, List.length_nil]); have t1 := vcTt_len ho7; have t2 := vcSt_len ho7; have t3 := vcFt_len ho7 ho7; (try simp only [vcTt, vcSt, vcFt, vcLt, List.length_append, List.length_cons, List.length_nil] at *); omega)) lX10_274 ck_X10 rfl sh_118 pl_118 rfl ⟨by decide, by decide⟩ (Nat.le_of_ble_eq_true rfl) dX10_fears_57 (fun r1 h1 hp1 => ?_) rfl
  obtain ⟨rfl, hRq1, hwq1⟩ := hp1
  refine v_none ?_
  refine v_aload_n K dX10_fears_60 rfl ?_
  refine v_iconstN K 1 rfl dX10_fears_61 ?_
  refine v_callS (As := [.int (nI 1)]) K (c_X10_above_1 h1) lX10_277 rfl ⟨by decide, by decide⟩ (Nat.le_of_ble_eq_true rfl) dX10_fears_62 (fun r2 h2 hp2 => ?_) rfl
  obtain ⟨rfl, rfl⟩ := hp2
  refine v_some ?_
  refine v_iload_n K dX10_fears_65 rfl ?_
  refine v_callV (As := [.int (nI 0), .int x]) K (c_X10_fears_0 h1 s w o x (L ++ [20]) hRq1 hwq1 hw8 ho ho7 (by (try simp only [List.length_append, List.length_cons, List.length_nil]); have t1 := vcTt_len ho7; have t2 := vcSt_len ho7; have t3 := vcFt_len ho7 ho7; (try simp only [vcTt, vcSt, vcFt, vcLt, List.length_append, List.length_cons, List.length_nil] at *); omega)) lX10_286 ck_X10 rfl sh_118 pl_118 rfl ⟨by decide, by decide⟩ (Nat.le_of_ble_eq_true rfl) dX10_fears_66 (fun r3 h3 hp3 => ?_) rfl
  obtain ⟨rfl, hRq2, hwq2⟩ := hp3
  refine v_some ?_
  refine v_istore_n (lv2 := [(3, .int (vcF o 0 x (nI w) (s 119 (46 + 6 * w + 2)))), (0, .ref 118), (1, .int (nI 1)), (2, .int x)]) K dX10_fears_69 (by decide) rfl ?_
  refine v_iload_n K dX10_fears_70 rfl ?_
  refine v_aload_n K dX10_fears_71 rfl ?_
  refine v_aload_n K dX10_fears_72 rfl ?_
  refine v_callV (As := []) K (c_X10_own h3 s w o (L ++ [20] ++ (vcFt o 0)) hRq2 hwq2 hw8 ho) lX10_283 ck_X10 rfl sh_118 pl_118 rfl ⟨by decide, by decide⟩ (Nat.le_of_ble_eq_true rfl) dX10_fears_73 (fun r4 h4 hp4 => ?_) rfl
  obtain ⟨rfl, rfl⟩ := hp4
  refine v_some ?_
  refine v_iconstN K 1 rfl dX10_fears_76 ?_
  refine v_callV (As := [.int (nI o), .int (nI 1)]) K (c_X10_shuts h3 s w o (nI 1) (L ++ [20] ++ (vcFt o 0)) hRq2 hwq2 hw8 ho ho7 (by (try simp only [List.length_append, List.length_cons, List.length_nil]); have t1 := vcTt_len ho7; have t2 := vcSt_len ho7; have t3 := vcFt_len ho7 ho7; (try simp only [vcTt, vcSt, vcFt, vcLt, List.length_append, List.length_cons, List.length_nil] at *); omega) o (by omega)) lX10_289 ck_X10 rfl sh_118 pl_118 rfl ⟨by decide, by decide⟩ (Nat.le_of_ble_eq_true rfl) dX10_fears_77 (fun r5 h5 hp5 => ?_) rfl
  obtain ⟨rfl, hRq3, hwq3⟩ := hp5
  refine v_some ?_
  refine v_isub K dX10_fears_80 ?_
  refine v_iret K dX10_fears_81 ?_
  exact ⟨rfl, by first | exact hRq3 | (have hx := hRq3; simp only [List.append_assoc, List.cons_append, List.nil_append] at hx ⊢; exact hx), hwq3⟩

abbrev P_X10_fears_2w (h s : Mm) (w o : Nat) (x : Int32) (L : List Nat) : Option Value → Mm → Prop := fun r h2 => r = some (.int (vcF o 2 x (nI w) (s 119 (46 + 6 * w + 2)))) ∧ RR h2 (VS s (L ++ vcFt o 2)) ∧ h2 118 17 = nI w
theorem c_X10_fears_2w {l : Launch} (h s : Mm) (w o : Nat) (x : Int32) (L : List Nat) (hR : RR h (VS s L)) (hw : h 118 17 = nI w) (hw8 : w < 8) (ho : s 119 (46 + 6 * w + 0) = nI o) (ho7 : o < 7) (hL : L.length ≤ 33) : Con l yX10_fears cX10_fears 4 (some .int) 6 133 132 GL h [.ref 118, .int (nI 2), .int x] (P_X10_fears_2w h s w o x L) := by
  refine Con.ofV (own := "FoxRoundsModel") (nm := "fears") rfl rfl (by decide) (Nat.le_of_ble_eq_true rfl) ?_
  intro κ ρ hkl K
  subst hkl
  show V κ (QM κ (132, ρ, GL, 0, 0) (P_X10_fears_2w h s w o x L)) 4 (132, ρ, GL, 0, 0) h 0 [(0, .ref 118), (1, .int (nI 2)), (2, .int x)] []
  refine v_iload_n K dX10_fears_0 rfl ?_
  refine v_lookN (off := 103) (tgt := 104) K (by decide) 2 dX10_fears_1 rfl (by decide) rfl rfl ?_
  refine v_aload_n K dX10_fears_104 rfl ?_
  refine v_iload_n K dX10_fears_105 rfl ?_
  refine v_callS (As := [.int (nI 2)]) K (c_X10_above_2 h) lX10_277 rfl ⟨by decide, by decide⟩ (Nat.le_of_ble_eq_true rfl) dX10_fears_106 (fun r1 h1 hp1 => ?_) rfl
  obtain ⟨rfl, rfl⟩ := hp1
  refine v_some ?_
  refine v_iload_n K dX10_fears_109 rfl ?_
  refine v_callV (As := [.int (nI 0), .int x]) K (c_X10_fears_0 h s w o x (L) hR hw hw8 ho ho7 (by (try simp only [List.length_append, List.length_cons, List.length_nil]); have t1 := vcTt_len ho7; have t2 := vcSt_len ho7; have t3 := vcFt_len ho7 ho7; (try simp only [vcTt, vcSt, vcFt, vcLt, List.length_append, List.length_cons, List.length_nil] at *); omega)) lX10_286 ck_X10 rfl sh_118 pl_118 rfl ⟨by decide, by decide⟩ (Nat.le_of_ble_eq_true rfl) dX10_fears_110 (fun r2 h2 hp2 => ?_) rfl
  obtain ⟨rfl, hRq1, hwq1⟩ := hp2
  refine v_some ?_
  refine v_iret K dX10_fears_113 ?_
  exact ⟨rfl, by first | exact hRq1 | (have hx := hRq1; simp only [List.append_assoc, List.cons_append, List.nil_append] at hx ⊢; exact hx), hwq1⟩

abbrev P_X10_fears_3w (h s : Mm) (w o : Nat) (x : Int32) (L : List Nat) : Option Value → Mm → Prop := fun r h2 => r = some (.int (vcF o 3 x (nI w) (s 119 (46 + 6 * w + 2)))) ∧ RR h2 (VS s (L ++ vcFt o 3)) ∧ h2 118 17 = nI w
theorem c_X10_fears_3w {l : Launch} (h s : Mm) (w o : Nat) (x : Int32) (L : List Nat) (hR : RR h (VS s L)) (hw : h 118 17 = nI w) (hw8 : w < 8) (ho : s 119 (46 + 6 * w + 0) = nI o) (ho7 : o < 7) (hL : L.length ≤ 33) : Con l yX10_fears cX10_fears 4 (some .int) 6 133 132 GL h [.ref 118, .int (nI 3), .int x] (P_X10_fears_3w h s w o x L) := by
  refine Con.ofV (own := "FoxRoundsModel") (nm := "fears") rfl rfl (by decide) (Nat.le_of_ble_eq_true rfl) ?_
  intro κ ρ hkl K
  subst hkl
  show V κ (QM κ (132, ρ, GL, 0, 0) (P_X10_fears_3w h s w o x L)) 4 (132, ρ, GL, 0, 0) h 0 [(0, .ref 118), (1, .int (nI 3)), (2, .int x)] []
  refine v_iload_n K dX10_fears_0 rfl ?_
  refine v_lookN (off := 103) (tgt := 104) K (by decide) 3 dX10_fears_1 rfl (by decide) rfl rfl ?_
  refine v_aload_n K dX10_fears_104 rfl ?_
  refine v_iload_n K dX10_fears_105 rfl ?_
  refine v_callS (As := [.int (nI 3)]) K (c_X10_above_3 h) lX10_277 rfl ⟨by decide, by decide⟩ (Nat.le_of_ble_eq_true rfl) dX10_fears_106 (fun r1 h1 hp1 => ?_) rfl
  obtain ⟨rfl, rfl⟩ := hp1
  refine v_some ?_
  refine v_iload_n K dX10_fears_109 rfl ?_
  refine v_callV (As := [.int (nI 0), .int x]) K (c_X10_fears_0 h s w o x (L) hR hw hw8 ho ho7 (by (try simp only [List.length_append, List.length_cons, List.length_nil]); have t1 := vcTt_len ho7; have t2 := vcSt_len ho7; have t3 := vcFt_len ho7 ho7; (try simp only [vcTt, vcSt, vcFt, vcLt, List.length_append, List.length_cons, List.length_nil] at *); omega)) lX10_286 ck_X10 rfl sh_118 pl_118 rfl ⟨by decide, by decide⟩ (Nat.le_of_ble_eq_true rfl) dX10_fears_110 (fun r2 h2 hp2 => ?_) rfl
  obtain ⟨rfl, hRq1, hwq1⟩ := hp2
  refine v_some ?_
  refine v_iret K dX10_fears_113 ?_
  exact ⟨rfl, by first | exact hRq1 | (have hx := hRq1; simp only [List.append_assoc, List.cons_append, List.nil_append] at hx ⊢; exact hx), hwq1⟩

abbrev P_X10_fears (h s : Mm) (w o : Nat) (x : Int32) (L : List Nat) (k : Nat) : Option Value → Mm → Prop := fun r h2 => r = some (.int (vcF o k x (nI w) (s 119 (46 + 6 * w + 2)))) ∧ RR h2 (VS s (L ++ vcFt o k)) ∧ h2 118 17 = nI w
theorem c_X10_fears {l : Launch} (h s : Mm) (w o : Nat) (x : Int32) (L : List Nat) (hR : RR h (VS s L)) (hw : h 118 17 = nI w) (hw8 : w < 8) (ho : s 119 (46 + 6 * w + 0) = nI o) (ho7 : o < 7) (hL : L.length ≤ 30) (k : Nat) (hk : k < 7) : Con l yX10_fears cX10_fears 4 (some .int) 6 133 132 GL h [.ref 118, .int (nI k), .int x] (P_X10_fears h s w o x L k) := by
  obtain rfl | rfl | rfl | rfl | rfl | rfl | rfl : k = 0 ∨ k = 1 ∨ k = 2 ∨ k = 3 ∨ k = 4 ∨ k = 5 ∨ k = 6 := by omega
  · exact c_X10_fears_0w h s w o x L hR hw hw8 ho ho7 (by omega)
  · exact c_X10_fears_1w h s w o x L hR hw hw8 ho ho7 (by omega)
  · exact c_X10_fears_2w h s w o x L hR hw hw8 ho ho7 (by omega)
  · exact c_X10_fears_3w h s w o x L hR hw hw8 ho ho7 (by omega)
  · exact c_X10_fears_4 h s w o x L hR hw hw8 ho ho7 (by omega)
  · exact c_X10_fears_5 h s w o x L hR hw hw8 ho ho7 (by omega)
  · exact c_X10_fears_6 h s w o x L hR hw hw8 ho ho7 (by omega)

abbrev P_X10_tells_0 (h s : Mm) (w o : Nat) (x : Int32) (L : List Nat) : Option Value → Mm → Prop := fun r h2 => r = some (.int (vcL o 0 x (nI w) (s 119 (46 + 6 * w + 2)))) ∧ RR h2 (VS s (L ++ vcLt o 0)) ∧ h2 118 17 = nI w
theorem c_X10_tells_0 {l : Launch} (h s : Mm) (w o : Nat) (x : Int32) (L : List Nat) (hR : RR h (VS s L)) (hw : h 118 17 = nI w) (hw8 : w < 8) (ho : s 119 (46 + 6 * w + 0) = nI o) (ho7 : o < 7) (hL : L.length ≤ 27) : Con l yX10_tells cX10_tells 4 (some .int) 7 156 132 GL h [.ref 118, .int (nI 0), .int x] (P_X10_tells_0 h s w o x L) := by
  refine Con.ofV (own := "FoxRoundsModel") (nm := "tells") rfl rfl (by decide) (Nat.le_of_ble_eq_true rfl) ?_
  intro κ ρ hkl K
  subst hkl
  show V κ (QM κ (132, ρ, GL, 0, 0) (P_X10_tells_0 h s w o x L)) 4 (132, ρ, GL, 0, 0) h 0 [(0, .ref 118), (1, .int (nI 0)), (2, .int x)] []
  refine v_iload_n K dX10_tells_0 rfl ?_
  refine v_lookN (off := 35) (tgt := 36) K (by decide) 0 dX10_tells_1 rfl (by decide) rfl rfl ?_
  refine v_aload_n K dX10_tells_36 rfl ?_
  refine v_bipushN K 13 rfl dX10_tells_37 ?_
  refine v_callV (As := [.int (nI 13)]) K (c_X10_ran h s w 13 (L) hR hw (by (try simp only [List.length_append, List.length_cons, List.length_nil]); have t1 := vcTt_len ho7; have t2 := vcSt_len ho7; have t3 := vcFt_len ho7 ho7; (try simp only [vcTt, vcSt, vcFt, vcLt, List.length_append, List.length_cons, List.length_nil] at *); omega)) lX10_274 ck_X10 rfl sh_118 pl_118 rfl ⟨by decide, by decide⟩ (Nat.le_of_ble_eq_true rfl) dX10_tells_39 (fun r1 h1 hp1 => ?_) rfl
  obtain ⟨rfl, hRq1, hwq1⟩ := hp1
  refine v_none ?_
  refine v_aload_n K dX10_tells_42 rfl ?_
  refine v_aload_n K dX10_tells_43 rfl ?_
  refine v_callV (As := []) K (c_X10_own h1 s w o (L ++ [13]) hRq1 hwq1 hw8 ho) lX10_283 ck_X10 rfl sh_118 pl_118 rfl ⟨by decide, by decide⟩ (Nat.le_of_ble_eq_true rfl) dX10_tells_44 (fun r2 h2 hp2 => ?_) rfl
  obtain ⟨rfl, rfl⟩ := hp2
  refine v_some ?_
  refine v_iload_n K dX10_tells_47 rfl ?_
  refine v_callV (As := [.int (nI o), .int x]) K (c_X10_fears h1 s w o x (L ++ [13]) hRq1 hwq1 hw8 ho ho7 (by (try simp only [List.length_append, List.length_cons, List.length_nil]); have t1 := vcTt_len ho7; have t2 := vcSt_len ho7; have t3 := vcFt_len ho7 ho7; (try simp only [vcTt, vcSt, vcFt, vcLt, List.length_append, List.length_cons, List.length_nil] at *); omega) o (by omega)) lX10_286 ck_X10 rfl sh_118 pl_118 rfl ⟨by decide, by decide⟩ (Nat.le_of_ble_eq_true rfl) dX10_tells_48 (fun r3 h3 hp3 => ?_) rfl
  obtain ⟨rfl, hRq2, hwq2⟩ := hp3
  refine v_some ?_
  refine v_istore_n (lv2 := [(3, .int (vcF o o x (nI w) (s 119 (46 + 6 * w + 2)))), (0, .ref 118), (1, .int (nI 0)), (2, .int x)]) K dX10_tells_51 (by decide) rfl ?_
  refine v_iload_n K dX10_tells_52 rfl ?_
  refine v_aload_n K dX10_tells_53 rfl ?_
  refine v_aload_n K dX10_tells_54 rfl ?_
  refine v_callV (As := []) K (c_X10_own h3 s w o (L ++ [13] ++ (vcFt o o)) hRq2 hwq2 hw8 ho) lX10_283 ck_X10 rfl sh_118 pl_118 rfl ⟨by decide, by decide⟩ (Nat.le_of_ble_eq_true rfl) dX10_tells_55 (fun r4 h4 hp4 => ?_) rfl
  obtain ⟨rfl, rfl⟩ := hp4
  refine v_some ?_
  refine v_iload_n K dX10_tells_58 rfl ?_
  refine v_callV (As := [.int (nI o), .int x]) K (c_X10_shuts h3 s w o x (L ++ [13] ++ (vcFt o o)) hRq2 hwq2 hw8 ho ho7 (by (try simp only [List.length_append, List.length_cons, List.length_nil]); have t1 := vcTt_len ho7; have t2 := vcSt_len ho7; have t3 := vcFt_len ho7 ho7; (try simp only [vcTt, vcSt, vcFt, vcLt, List.length_append, List.length_cons, List.length_nil] at *); omega) o (by omega)) lX10_289 ck_X10 rfl sh_118 pl_118 rfl ⟨by decide, by decide⟩ (Nat.le_of_ble_eq_true rfl) dX10_tells_59 (fun r5 h5 hp5 => ?_) rfl
  obtain ⟨rfl, hRq3, hwq3⟩ := hp5
  refine v_some ?_
  refine v_ixor K dX10_tells_62 ?_
  refine v_iret K dX10_tells_63 ?_
  exact ⟨rfl, by first | exact hRq3 | (have hx := hRq3; simp only [List.append_assoc, List.cons_append, List.nil_append] at hx ⊢; exact hx), hwq3⟩

abbrev P_X10_tells_1 (h s : Mm) (w o : Nat) (x : Int32) (L : List Nat) : Option Value → Mm → Prop := fun r h2 => r = some (.int (vcL o 1 x (nI w) (s 119 (46 + 6 * w + 2)))) ∧ RR h2 (VS s (L ++ vcLt o 1)) ∧ h2 118 17 = nI w
theorem c_X10_tells_1 {l : Launch} (h s : Mm) (w o : Nat) (x : Int32) (L : List Nat) (hR : RR h (VS s L)) (hw : h 118 17 = nI w) (hw8 : w < 8) (ho : s 119 (46 + 6 * w + 0) = nI o) (ho7 : o < 7) (hL : L.length ≤ 27) : Con l yX10_tells cX10_tells 4 (some .int) 8 179 132 GL h [.ref 118, .int (nI 1), .int x] (P_X10_tells_1 h s w o x L) := by
  refine Con.ofV (own := "FoxRoundsModel") (nm := "tells") rfl rfl (by decide) (Nat.le_of_ble_eq_true rfl) ?_
  intro κ ρ hkl K
  subst hkl
  show V κ (QM κ (132, ρ, GL, 0, 0) (P_X10_tells_1 h s w o x L)) 4 (132, ρ, GL, 0, 0) h 0 [(0, .ref 118), (1, .int (nI 1)), (2, .int x)] []
  refine v_iload_n K dX10_tells_0 rfl ?_
  refine v_lookN (off := 120) (tgt := 121) K (by decide) 1 dX10_tells_1 rfl (by decide) rfl rfl ?_
  refine v_aload_n K dX10_tells_121 rfl ?_
  refine v_iload_n K dX10_tells_122 rfl ?_
  refine v_callS (As := [.int (nI 1)]) K (c_X10_above_1 h) lX10_277 rfl ⟨by decide, by decide⟩ (Nat.le_of_ble_eq_true rfl) dX10_tells_123 (fun r1 h1 hp1 => ?_) rfl
  obtain ⟨rfl, rfl⟩ := hp1
  refine v_some ?_
  refine v_iload_n K dX10_tells_126 rfl ?_
  refine v_callV (As := [.int (nI 0), .int x]) K (c_X10_tells_0 h s w o x (L) hR hw hw8 ho ho7 (by (try simp only [List.length_append, List.length_cons, List.length_nil]); have t1 := vcTt_len ho7; have t2 := vcSt_len ho7; have t3 := vcFt_len ho7 ho7; (try simp only [vcTt, vcSt, vcFt, vcLt, List.length_append, List.length_cons, List.length_nil] at *); omega)) lX10_292 ck_X10 rfl sh_118 pl_118 rfl ⟨by decide, by decide⟩ (Nat.le_of_ble_eq_true rfl) dX10_tells_127 (fun r2 h2 hp2 => ?_) rfl
  obtain ⟨rfl, hRq1, hwq1⟩ := hp2
  refine v_some ?_
  refine v_iret K dX10_tells_130 ?_
  exact ⟨rfl, by first | exact hRq1 | (have hx := hRq1; simp only [List.append_assoc, List.cons_append, List.nil_append] at hx ⊢; exact hx), hwq1⟩

abbrev P_X10_tells_2 (h s : Mm) (w o : Nat) (x : Int32) (L : List Nat) : Option Value → Mm → Prop := fun r h2 => r = some (.int (vcL o 2 x (nI w) (s 119 (46 + 6 * w + 2)))) ∧ RR h2 (VS s (L ++ vcLt o 2)) ∧ h2 118 17 = nI w
theorem c_X10_tells_2 {l : Launch} (h s : Mm) (w o : Nat) (x : Int32) (L : List Nat) (hR : RR h (VS s L)) (hw : h 118 17 = nI w) (hw8 : w < 8) (ho : s 119 (46 + 6 * w + 0) = nI o) (ho7 : o < 7) (hL : L.length ≤ 27) : Con l yX10_tells cX10_tells 4 (some .int) 8 179 132 GL h [.ref 118, .int (nI 2), .int x] (P_X10_tells_2 h s w o x L) := by
  refine Con.ofV (own := "FoxRoundsModel") (nm := "tells") rfl rfl (by decide) (Nat.le_of_ble_eq_true rfl) ?_
  intro κ ρ hkl K
  subst hkl
  show V κ (QM κ (132, ρ, GL, 0, 0) (P_X10_tells_2 h s w o x L)) 4 (132, ρ, GL, 0, 0) h 0 [(0, .ref 118), (1, .int (nI 2)), (2, .int x)] []
  refine v_iload_n K dX10_tells_0 rfl ?_
  refine v_lookN (off := 120) (tgt := 121) K (by decide) 2 dX10_tells_1 rfl (by decide) rfl rfl ?_
  refine v_aload_n K dX10_tells_121 rfl ?_
  refine v_iload_n K dX10_tells_122 rfl ?_
  refine v_callS (As := [.int (nI 2)]) K (c_X10_above_2 h) lX10_277 rfl ⟨by decide, by decide⟩ (Nat.le_of_ble_eq_true rfl) dX10_tells_123 (fun r1 h1 hp1 => ?_) rfl
  obtain ⟨rfl, rfl⟩ := hp1
  refine v_some ?_
  refine v_iload_n K dX10_tells_126 rfl ?_
  refine v_callV (As := [.int (nI 0), .int x]) K (c_X10_tells_0 h s w o x (L) hR hw hw8 ho ho7 (by (try simp only [List.length_append, List.length_cons, List.length_nil]); have t1 := vcTt_len ho7; have t2 := vcSt_len ho7; have t3 := vcFt_len ho7 ho7; (try simp only [vcTt, vcSt, vcFt, vcLt, List.length_append, List.length_cons, List.length_nil] at *); omega)) lX10_292 ck_X10 rfl sh_118 pl_118 rfl ⟨by decide, by decide⟩ (Nat.le_of_ble_eq_true rfl) dX10_tells_127 (fun r2 h2 hp2 => ?_) rfl
  obtain ⟨rfl, hRq1, hwq1⟩ := hp2
  refine v_some ?_
  refine v_iret K dX10_tells_130 ?_
  exact ⟨rfl, by first | exact hRq1 | (have hx := hRq1; simp only [List.append_assoc, List.cons_append, List.nil_append] at hx ⊢; exact hx), hwq1⟩

abbrev P_X10_tells_3 (h s : Mm) (w o : Nat) (x : Int32) (L : List Nat) : Option Value → Mm → Prop := fun r h2 => r = some (.int (vcL o 3 x (nI w) (s 119 (46 + 6 * w + 2)))) ∧ RR h2 (VS s (L ++ vcLt o 3)) ∧ h2 118 17 = nI w
theorem c_X10_tells_3 {l : Launch} (h s : Mm) (w o : Nat) (x : Int32) (L : List Nat) (hR : RR h (VS s L)) (hw : h 118 17 = nI w) (hw8 : w < 8) (ho : s 119 (46 + 6 * w + 0) = nI o) (ho7 : o < 7) (hL : L.length ≤ 27) : Con l yX10_tells cX10_tells 4 (some .int) 8 179 132 GL h [.ref 118, .int (nI 3), .int x] (P_X10_tells_3 h s w o x L) := by
  refine Con.ofV (own := "FoxRoundsModel") (nm := "tells") rfl rfl (by decide) (Nat.le_of_ble_eq_true rfl) ?_
  intro κ ρ hkl K
  subst hkl
  show V κ (QM κ (132, ρ, GL, 0, 0) (P_X10_tells_3 h s w o x L)) 4 (132, ρ, GL, 0, 0) h 0 [(0, .ref 118), (1, .int (nI 3)), (2, .int x)] []
  refine v_iload_n K dX10_tells_0 rfl ?_
  refine v_lookN (off := 120) (tgt := 121) K (by decide) 3 dX10_tells_1 rfl (by decide) rfl rfl ?_
  refine v_aload_n K dX10_tells_121 rfl ?_
  refine v_iload_n K dX10_tells_122 rfl ?_
  refine v_callS (As := [.int (nI 3)]) K (c_X10_above_3 h) lX10_277 rfl ⟨by decide, by decide⟩ (Nat.le_of_ble_eq_true rfl) dX10_tells_123 (fun r1 h1 hp1 => ?_) rfl
  obtain ⟨rfl, rfl⟩ := hp1
  refine v_some ?_
  refine v_iload_n K dX10_tells_126 rfl ?_
  refine v_callV (As := [.int (nI 0), .int x]) K (c_X10_tells_0 h s w o x (L) hR hw hw8 ho ho7 (by (try simp only [List.length_append, List.length_cons, List.length_nil]); have t1 := vcTt_len ho7; have t2 := vcSt_len ho7; have t3 := vcFt_len ho7 ho7; (try simp only [vcTt, vcSt, vcFt, vcLt, List.length_append, List.length_cons, List.length_nil] at *); omega)) lX10_292 ck_X10 rfl sh_118 pl_118 rfl ⟨by decide, by decide⟩ (Nat.le_of_ble_eq_true rfl) dX10_tells_127 (fun r2 h2 hp2 => ?_) rfl
  obtain ⟨rfl, hRq1, hwq1⟩ := hp2
  refine v_some ?_
  refine v_iret K dX10_tells_130 ?_
  exact ⟨rfl, by first | exact hRq1 | (have hx := hRq1; simp only [List.append_assoc, List.cons_append, List.nil_append] at hx ⊢; exact hx), hwq1⟩

abbrev P_X10_tells_4 (h s : Mm) (w o : Nat) (x : Int32) (L : List Nat) : Option Value → Mm → Prop := fun r h2 => r = some (.int (vcL o 4 x (nI w) (s 119 (46 + 6 * w + 2)))) ∧ RR h2 (VS s (L ++ vcLt o 4)) ∧ h2 118 17 = nI w
theorem c_X10_tells_4 {l : Launch} (h s : Mm) (w o : Nat) (x : Int32) (L : List Nat) (hR : RR h (VS s L)) (hw : h 118 17 = nI w) (hw8 : w < 8) (ho : s 119 (46 + 6 * w + 0) = nI o) (ho7 : o < 7) (hL : L.length ≤ 27) : Con l yX10_tells cX10_tells 4 (some .int) 9 202 132 GL h [.ref 118, .int (nI 4), .int x] (P_X10_tells_4 h s w o x L) := by
  refine Con.ofV (own := "FoxRoundsModel") (nm := "tells") rfl rfl (by decide) (Nat.le_of_ble_eq_true rfl) ?_
  intro κ ρ hkl K
  subst hkl
  show V κ (QM κ (132, ρ, GL, 0, 0) (P_X10_tells_4 h s w o x L)) 4 (132, ρ, GL, 0, 0) h 0 [(0, .ref 118), (1, .int (nI 4)), (2, .int x)] []
  refine v_iload_n K dX10_tells_0 rfl ?_
  refine v_lookN (off := 120) (tgt := 121) K (by decide) 4 dX10_tells_1 rfl (by decide) rfl rfl ?_
  refine v_aload_n K dX10_tells_121 rfl ?_
  refine v_iload_n K dX10_tells_122 rfl ?_
  refine v_callS (As := [.int (nI 4)]) K (c_X10_above_4 h) lX10_277 rfl ⟨by decide, by decide⟩ (Nat.le_of_ble_eq_true rfl) dX10_tells_123 (fun r1 h1 hp1 => ?_) rfl
  obtain ⟨rfl, rfl⟩ := hp1
  refine v_some ?_
  refine v_iload_n K dX10_tells_126 rfl ?_
  refine v_callV (As := [.int (nI 2), .int x]) K (c_X10_tells_2 h s w o x (L) hR hw hw8 ho ho7 (by (try simp only [List.length_append, List.length_cons, List.length_nil]); have t1 := vcTt_len ho7; have t2 := vcSt_len ho7; have t3 := vcFt_len ho7 ho7; (try simp only [vcTt, vcSt, vcFt, vcLt, List.length_append, List.length_cons, List.length_nil] at *); omega)) lX10_292 ck_X10 rfl sh_118 pl_118 rfl ⟨by decide, by decide⟩ (Nat.le_of_ble_eq_true rfl) dX10_tells_127 (fun r2 h2 hp2 => ?_) rfl
  obtain ⟨rfl, hRq1, hwq1⟩ := hp2
  refine v_some ?_
  refine v_iret K dX10_tells_130 ?_
  exact ⟨rfl, by first | exact hRq1 | (have hx := hRq1; simp only [List.append_assoc, List.cons_append, List.nil_append] at hx ⊢; exact hx), hwq1⟩

abbrev P_X10_tells_5 (h s : Mm) (w o : Nat) (x : Int32) (L : List Nat) : Option Value → Mm → Prop := fun r h2 => r = some (.int (vcL o 5 x (nI w) (s 119 (46 + 6 * w + 2)))) ∧ RR h2 (VS s (L ++ vcLt o 5)) ∧ h2 118 17 = nI w
theorem c_X10_tells_5 {l : Launch} (h s : Mm) (w o : Nat) (x : Int32) (L : List Nat) (hR : RR h (VS s L)) (hw : h 118 17 = nI w) (hw8 : w < 8) (ho : s 119 (46 + 6 * w + 0) = nI o) (ho7 : o < 7) (hL : L.length ≤ 22) : Con l yX10_tells cX10_tells 4 (some .int) 9 202 132 GL h [.ref 118, .int (nI 5), .int x] (P_X10_tells_5 h s w o x L) := by
  refine Con.ofV (own := "FoxRoundsModel") (nm := "tells") rfl rfl (by decide) (Nat.le_of_ble_eq_true rfl) ?_
  intro κ ρ hkl K
  subst hkl
  show V κ (QM κ (132, ρ, GL, 0, 0) (P_X10_tells_5 h s w o x L)) 4 (132, ρ, GL, 0, 0) h 0 [(0, .ref 118), (1, .int (nI 5)), (2, .int x)] []
  refine v_iload_n K dX10_tells_0 rfl ?_
  refine v_lookN (off := 63) (tgt := 64) K (by decide) 5 dX10_tells_1 rfl (by decide) rfl rfl ?_
  refine v_aload_n K dX10_tells_64 rfl ?_
  refine v_bipushN K 60 rfl dX10_tells_65 ?_
  refine v_callV (As := [.int (nI 60)]) K (c_X10_ran h s w 60 (L) hR hw (by (try simp only [List.length_append, List.length_cons, List.length_nil]); have t1 := vcTt_len ho7; have t2 := vcSt_len ho7; have t3 := vcFt_len ho7 ho7; (try simp only [vcTt, vcSt, vcFt, vcLt, List.length_append, List.length_cons, List.length_nil] at *); omega)) lX10_274 ck_X10 rfl sh_118 pl_118 rfl ⟨by decide, by decide⟩ (Nat.le_of_ble_eq_true rfl) dX10_tells_67 (fun r1 h1 hp1 => ?_) rfl
  obtain ⟨rfl, hRq1, hwq1⟩ := hp1
  refine v_none ?_
  refine v_aload_n K dX10_tells_70 rfl ?_
  refine v_iconstN K 5 rfl dX10_tells_71 ?_
  refine v_callS (As := [.int (nI 5)]) K (c_X10_above_5 h1) lX10_277 rfl ⟨by decide, by decide⟩ (Nat.le_of_ble_eq_true rfl) dX10_tells_72 (fun r2 h2 hp2 => ?_) rfl
  obtain ⟨rfl, rfl⟩ := hp2
  refine v_some ?_
  refine v_iload_n K dX10_tells_75 rfl ?_
  refine v_callV (As := [.int (nI 3), .int x]) K (c_X10_tells_3 h1 s w o x (L ++ [60]) hRq1 hwq1 hw8 ho ho7 (by (try simp only [List.length_append, List.length_cons, List.length_nil]); have t1 := vcTt_len ho7; have t2 := vcSt_len ho7; have t3 := vcFt_len ho7 ho7; (try simp only [vcTt, vcSt, vcFt, vcLt, List.length_append, List.length_cons, List.length_nil] at *); omega)) lX10_292 ck_X10 rfl sh_118 pl_118 rfl ⟨by decide, by decide⟩ (Nat.le_of_ble_eq_true rfl) dX10_tells_76 (fun r3 h3 hp3 => ?_) rfl
  obtain ⟨rfl, hRq2, hwq2⟩ := hp3
  refine v_some ?_
  refine v_istore_n (lv2 := [(3, .int (vcL o 3 x (nI w) (s 119 (46 + 6 * w + 2)))), (0, .ref 118), (1, .int (nI 5)), (2, .int x)]) K dX10_tells_79 (by decide) rfl ?_
  refine v_iload_n K dX10_tells_80 rfl ?_
  refine v_aload_n K dX10_tells_81 rfl ?_
  refine v_aload_n K dX10_tells_82 rfl ?_
  refine v_callV (As := []) K (c_X10_own h3 s w o (L ++ [60] ++ (vcLt o 3)) hRq2 hwq2 hw8 ho) lX10_283 ck_X10 rfl sh_118 pl_118 rfl ⟨by decide, by decide⟩ (Nat.le_of_ble_eq_true rfl) dX10_tells_83 (fun r4 h4 hp4 => ?_) rfl
  obtain ⟨rfl, rfl⟩ := hp4
  refine v_some ?_
  refine v_iconstN K 2 rfl dX10_tells_86 ?_
  refine v_callV (As := [.int (nI o), .int (nI 2)]) K (c_X10_triesOf h3 s w o (nI 2) (L ++ [60] ++ (vcLt o 3)) hRq2 hwq2 hw8 ho ho7 (by (try simp only [List.length_append, List.length_cons, List.length_nil]); have t1 := vcTt_len ho7; have t2 := vcSt_len ho7; have t3 := vcFt_len ho7 ho7; (try simp only [vcTt, vcSt, vcFt, vcLt, List.length_append, List.length_cons, List.length_nil] at *); omega) o (by omega)) lX10_280 ck_X10 rfl sh_118 pl_118 rfl ⟨by decide, by decide⟩ (Nat.le_of_ble_eq_true rfl) dX10_tells_87 (fun r5 h5 hp5 => ?_) rfl
  obtain ⟨rfl, hRq3, hwq3⟩ := hp5
  refine v_some ?_
  refine v_isub K dX10_tells_90 ?_
  refine v_iret K dX10_tells_91 ?_
  exact ⟨rfl, by first | exact hRq3 | (have hx := hRq3; simp only [List.append_assoc, List.cons_append, List.nil_append] at hx ⊢; exact hx), hwq3⟩

abbrev P_X10_tells_6 (h s : Mm) (w o : Nat) (x : Int32) (L : List Nat) : Option Value → Mm → Prop := fun r h2 => r = some (.int (vcL o 6 x (nI w) (s 119 (46 + 6 * w + 2)))) ∧ RR h2 (VS s (L ++ vcLt o 6)) ∧ h2 118 17 = nI w
theorem c_X10_tells_6 {l : Launch} (h s : Mm) (w o : Nat) (x : Int32) (L : List Nat) (hR : RR h (VS s L)) (hw : h 118 17 = nI w) (hw8 : w < 8) (ho : s 119 (46 + 6 * w + 0) = nI o) (ho7 : o < 7) (hL : L.length ≤ 18) : Con l yX10_tells cX10_tells 4 (some .int) 9 202 132 GL h [.ref 118, .int (nI 6), .int x] (P_X10_tells_6 h s w o x L) := by
  refine Con.ofV (own := "FoxRoundsModel") (nm := "tells") rfl rfl (by decide) (Nat.le_of_ble_eq_true rfl) ?_
  intro κ ρ hkl K
  subst hkl
  show V κ (QM κ (132, ρ, GL, 0, 0) (P_X10_tells_6 h s w o x L)) 4 (132, ρ, GL, 0, 0) h 0 [(0, .ref 118), (1, .int (nI 6)), (2, .int x)] []
  refine v_iload_n K dX10_tells_0 rfl ?_
  refine v_lookN (off := 91) (tgt := 92) K (by decide) 6 dX10_tells_1 rfl (by decide) rfl rfl ?_
  refine v_aload_n K dX10_tells_92 rfl ?_
  refine v_bipushN K 71 rfl dX10_tells_93 ?_
  refine v_callV (As := [.int (nI 71)]) K (c_X10_ran h s w 71 (L) hR hw (by (try simp only [List.length_append, List.length_cons, List.length_nil]); have t1 := vcTt_len ho7; have t2 := vcSt_len ho7; have t3 := vcFt_len ho7 ho7; (try simp only [vcTt, vcSt, vcFt, vcLt, List.length_append, List.length_cons, List.length_nil] at *); omega)) lX10_274 ck_X10 rfl sh_118 pl_118 rfl ⟨by decide, by decide⟩ (Nat.le_of_ble_eq_true rfl) dX10_tells_95 (fun r1 h1 hp1 => ?_) rfl
  obtain ⟨rfl, hRq1, hwq1⟩ := hp1
  refine v_none ?_
  refine v_aload_n K dX10_tells_98 rfl ?_
  refine v_aload_n K dX10_tells_99 rfl ?_
  refine v_callV (As := []) K (c_X10_own h1 s w o (L ++ [71]) hRq1 hwq1 hw8 ho) lX10_283 ck_X10 rfl sh_118 pl_118 rfl ⟨by decide, by decide⟩ (Nat.le_of_ble_eq_true rfl) dX10_tells_100 (fun r2 h2 hp2 => ?_) rfl
  obtain ⟨rfl, rfl⟩ := hp2
  refine v_some ?_
  refine v_iload_n K dX10_tells_103 rfl ?_
  refine v_callV (As := [.int (nI o), .int x]) K (c_X10_fears h1 s w o x (L ++ [71]) hRq1 hwq1 hw8 ho ho7 (by (try simp only [List.length_append, List.length_cons, List.length_nil]); have t1 := vcTt_len ho7; have t2 := vcSt_len ho7; have t3 := vcFt_len ho7 ho7; (try simp only [vcTt, vcSt, vcFt, vcLt, List.length_append, List.length_cons, List.length_nil] at *); omega) o (by omega)) lX10_286 ck_X10 rfl sh_118 pl_118 rfl ⟨by decide, by decide⟩ (Nat.le_of_ble_eq_true rfl) dX10_tells_104 (fun r3 h3 hp3 => ?_) rfl
  obtain ⟨rfl, hRq2, hwq2⟩ := hp3
  refine v_some ?_
  refine v_istore_n (lv2 := [(3, .int (vcF o o x (nI w) (s 119 (46 + 6 * w + 2)))), (0, .ref 118), (1, .int (nI 6)), (2, .int x)]) K dX10_tells_107 (by decide) rfl ?_
  refine v_iload_n K dX10_tells_108 rfl ?_
  refine v_aload_n K dX10_tells_109 rfl ?_
  refine v_bipushN K 6 rfl dX10_tells_110 ?_
  refine v_callS (As := [.int (nI 6)]) K (c_X10_above_6 h3) lX10_277 rfl ⟨by decide, by decide⟩ (Nat.le_of_ble_eq_true rfl) dX10_tells_112 (fun r4 h4 hp4 => ?_) rfl
  obtain ⟨rfl, rfl⟩ := hp4
  refine v_some ?_
  refine v_iload_n K dX10_tells_115 rfl ?_
  refine v_callV (As := [.int (nI 1), .int x]) K (c_X10_tells_1 h3 s w o x (L ++ [71] ++ (vcFt o o)) hRq2 hwq2 hw8 ho ho7 (by (try simp only [List.length_append, List.length_cons, List.length_nil]); have t1 := vcTt_len ho7; have t2 := vcSt_len ho7; have t3 := vcFt_len ho7 ho7; (try simp only [vcTt, vcSt, vcFt, vcLt, List.length_append, List.length_cons, List.length_nil] at *); omega)) lX10_292 ck_X10 rfl sh_118 pl_118 rfl ⟨by decide, by decide⟩ (Nat.le_of_ble_eq_true rfl) dX10_tells_116 (fun r5 h5 hp5 => ?_) rfl
  obtain ⟨rfl, hRq3, hwq3⟩ := hp5
  refine v_some ?_
  refine v_isub K dX10_tells_119 ?_
  refine v_iret K dX10_tells_120 ?_
  exact ⟨rfl, by first | exact hRq3 | (have hx := hRq3; simp only [List.append_assoc, List.cons_append, List.nil_append] at hx ⊢; exact hx), hwq3⟩

abbrev P_X10_tells_0w (h s : Mm) (w o : Nat) (x : Int32) (L : List Nat) : Option Value → Mm → Prop := fun r h2 => r = some (.int (vcL o 0 x (nI w) (s 119 (46 + 6 * w + 2)))) ∧ RR h2 (VS s (L ++ vcLt o 0)) ∧ h2 118 17 = nI w
theorem c_X10_tells_0w {l : Launch} (h s : Mm) (w o : Nat) (x : Int32) (L : List Nat) (hR : RR h (VS s L)) (hw : h 118 17 = nI w) (hw8 : w < 8) (ho : s 119 (46 + 6 * w + 0) = nI o) (ho7 : o < 7) (hL : L.length ≤ 27) : Con l yX10_tells cX10_tells 4 (some .int) 9 202 132 GL h [.ref 118, .int (nI 0), .int x] (P_X10_tells_0w h s w o x L) := by
  refine Con.ofV (own := "FoxRoundsModel") (nm := "tells") rfl rfl (by decide) (Nat.le_of_ble_eq_true rfl) ?_
  intro κ ρ hkl K
  subst hkl
  show V κ (QM κ (132, ρ, GL, 0, 0) (P_X10_tells_0w h s w o x L)) 4 (132, ρ, GL, 0, 0) h 0 [(0, .ref 118), (1, .int (nI 0)), (2, .int x)] []
  refine v_iload_n K dX10_tells_0 rfl ?_
  refine v_lookN (off := 35) (tgt := 36) K (by decide) 0 dX10_tells_1 rfl (by decide) rfl rfl ?_
  refine v_aload_n K dX10_tells_36 rfl ?_
  refine v_bipushN K 13 rfl dX10_tells_37 ?_
  refine v_callV (As := [.int (nI 13)]) K (c_X10_ran h s w 13 (L) hR hw (by (try simp only [List.length_append, List.length_cons, List.length_nil]); have t1 := vcTt_len ho7; have t2 := vcSt_len ho7; have t3 := vcFt_len ho7 ho7; (try simp only [vcTt, vcSt, vcFt, vcLt, List.length_append, List.length_cons, List.length_nil] at *); omega)) lX10_274 ck_X10 rfl sh_118 pl_118 rfl ⟨by decide, by decide⟩ (Nat.le_of_ble_eq_true rfl) dX10_tells_39 (fun r1 h1 hp1 => ?_) rfl
  obtain ⟨rfl, hRq1, hwq1⟩ := hp1
  refine v_none ?_
  refine v_aload_n K dX10_tells_42 rfl ?_
  refine v_aload_n K dX10_tells_43 rfl ?_
  refine v_callV (As := []) K (c_X10_own h1 s w o (L ++ [13]) hRq1 hwq1 hw8 ho) lX10_283 ck_X10 rfl sh_118 pl_118 rfl ⟨by decide, by decide⟩ (Nat.le_of_ble_eq_true rfl) dX10_tells_44 (fun r2 h2 hp2 => ?_) rfl
  obtain ⟨rfl, rfl⟩ := hp2
  refine v_some ?_
  refine v_iload_n K dX10_tells_47 rfl ?_
  refine v_callV (As := [.int (nI o), .int x]) K (c_X10_fears h1 s w o x (L ++ [13]) hRq1 hwq1 hw8 ho ho7 (by (try simp only [List.length_append, List.length_cons, List.length_nil]); have t1 := vcTt_len ho7; have t2 := vcSt_len ho7; have t3 := vcFt_len ho7 ho7; (try simp only [vcTt, vcSt, vcFt, vcLt, List.length_append, List.length_cons, List.length_nil] at *); omega) o (by omega)) lX10_286 ck_X10 rfl sh_118 pl_118 rfl ⟨by decide, by decide⟩ (Nat.le_of_ble_eq_true rfl) dX10_tells_48 (fun r3 h3 hp3 => ?_) rfl
  obtain ⟨rfl, hRq2, hwq2⟩ := hp3
  refine v_some ?_
  refine v_istore_n (lv2 := [(3, .int (vcF o o x (nI w) (s 119 (46 + 6 * w + 2)))), (0, .ref 118), (1, .int (nI 0)), (2, .int x)]) K dX10_tells_51 (by decide) rfl ?_
  refine v_iload_n K dX10_tells_52 rfl ?_
  refine v_aload_n K dX10_tells_53 rfl ?_
  refine v_aload_n K dX10_tells_54 rfl ?_
  refine v_callV (As := []) K (c_X10_own h3 s w o (L ++ [13] ++ (vcFt o o)) hRq2 hwq2 hw8 ho) lX10_283 ck_X10 rfl sh_118 pl_118 rfl ⟨by decide, by decide⟩ (Nat.le_of_ble_eq_true rfl) dX10_tells_55 (fun r4 h4 hp4 => ?_) rfl
  obtain ⟨rfl, rfl⟩ := hp4
  refine v_some ?_
  refine v_iload_n K dX10_tells_58 rfl ?_
  refine v_callV (As := [.int (nI o), .int x]) K (c_X10_shuts h3 s w o x (L ++ [13] ++ (vcFt o o)) hRq2 hwq2 hw8 ho ho7 (by (try simp only [List.length_append, List.length_cons, List.length_nil]); have t1 := vcTt_len ho7; have t2 := vcSt_len ho7; have t3 := vcFt_len ho7 ho7; (try simp only [vcTt, vcSt, vcFt, vcLt, List.length_append, List.length_cons, List.length_nil] at *); omega) o (by omega)) lX10_289 ck_X10 rfl sh_118 pl_118 rfl ⟨by decide, by decide⟩ (Nat.le_of_ble_eq_true rfl) dX10_tells_59 (fun r5 h5 hp5 => ?_) rfl
  obtain ⟨rfl, hRq3, hwq3⟩ := hp5
  refine v_some ?_
  refine v_ixor K dX10_tells_62 ?_
  refine v_iret K dX10_tells_63 ?_
  exact ⟨rfl, by first | exact hRq3 | (have hx := hRq3; simp only [List.append_assoc, List.cons_append, List.nil_append] at hx ⊢; exact hx), hwq3⟩

abbrev P_X10_tells_1w (h s : Mm) (w o : Nat) (x : Int32) (L : List Nat) : Option Value → Mm → Prop := fun r h2 => r = some (.int (vcL o 1 x (nI w) (s 119 (46 + 6 * w + 2)))) ∧ RR h2 (VS s (L ++ vcLt o 1)) ∧ h2 118 17 = nI w
theorem c_X10_tells_1w {l : Launch} (h s : Mm) (w o : Nat) (x : Int32) (L : List Nat) (hR : RR h (VS s L)) (hw : h 118 17 = nI w) (hw8 : w < 8) (ho : s 119 (46 + 6 * w + 0) = nI o) (ho7 : o < 7) (hL : L.length ≤ 27) : Con l yX10_tells cX10_tells 4 (some .int) 9 202 132 GL h [.ref 118, .int (nI 1), .int x] (P_X10_tells_1w h s w o x L) := by
  refine Con.ofV (own := "FoxRoundsModel") (nm := "tells") rfl rfl (by decide) (Nat.le_of_ble_eq_true rfl) ?_
  intro κ ρ hkl K
  subst hkl
  show V κ (QM κ (132, ρ, GL, 0, 0) (P_X10_tells_1w h s w o x L)) 4 (132, ρ, GL, 0, 0) h 0 [(0, .ref 118), (1, .int (nI 1)), (2, .int x)] []
  refine v_iload_n K dX10_tells_0 rfl ?_
  refine v_lookN (off := 120) (tgt := 121) K (by decide) 1 dX10_tells_1 rfl (by decide) rfl rfl ?_
  refine v_aload_n K dX10_tells_121 rfl ?_
  refine v_iload_n K dX10_tells_122 rfl ?_
  refine v_callS (As := [.int (nI 1)]) K (c_X10_above_1 h) lX10_277 rfl ⟨by decide, by decide⟩ (Nat.le_of_ble_eq_true rfl) dX10_tells_123 (fun r1 h1 hp1 => ?_) rfl
  obtain ⟨rfl, rfl⟩ := hp1
  refine v_some ?_
  refine v_iload_n K dX10_tells_126 rfl ?_
  refine v_callV (As := [.int (nI 0), .int x]) K (c_X10_tells_0 h s w o x (L) hR hw hw8 ho ho7 (by (try simp only [List.length_append, List.length_cons, List.length_nil]); have t1 := vcTt_len ho7; have t2 := vcSt_len ho7; have t3 := vcFt_len ho7 ho7; (try simp only [vcTt, vcSt, vcFt, vcLt, List.length_append, List.length_cons, List.length_nil] at *); omega)) lX10_292 ck_X10 rfl sh_118 pl_118 rfl ⟨by decide, by decide⟩ (Nat.le_of_ble_eq_true rfl) dX10_tells_127 (fun r2 h2 hp2 => ?_) rfl
  obtain ⟨rfl, hRq1, hwq1⟩ := hp2
  refine v_some ?_
  refine v_iret K dX10_tells_130 ?_
  exact ⟨rfl, by first | exact hRq1 | (have hx := hRq1; simp only [List.append_assoc, List.cons_append, List.nil_append] at hx ⊢; exact hx), hwq1⟩

abbrev P_X10_tells_2w (h s : Mm) (w o : Nat) (x : Int32) (L : List Nat) : Option Value → Mm → Prop := fun r h2 => r = some (.int (vcL o 2 x (nI w) (s 119 (46 + 6 * w + 2)))) ∧ RR h2 (VS s (L ++ vcLt o 2)) ∧ h2 118 17 = nI w
theorem c_X10_tells_2w {l : Launch} (h s : Mm) (w o : Nat) (x : Int32) (L : List Nat) (hR : RR h (VS s L)) (hw : h 118 17 = nI w) (hw8 : w < 8) (ho : s 119 (46 + 6 * w + 0) = nI o) (ho7 : o < 7) (hL : L.length ≤ 27) : Con l yX10_tells cX10_tells 4 (some .int) 9 202 132 GL h [.ref 118, .int (nI 2), .int x] (P_X10_tells_2w h s w o x L) := by
  refine Con.ofV (own := "FoxRoundsModel") (nm := "tells") rfl rfl (by decide) (Nat.le_of_ble_eq_true rfl) ?_
  intro κ ρ hkl K
  subst hkl
  show V κ (QM κ (132, ρ, GL, 0, 0) (P_X10_tells_2w h s w o x L)) 4 (132, ρ, GL, 0, 0) h 0 [(0, .ref 118), (1, .int (nI 2)), (2, .int x)] []
  refine v_iload_n K dX10_tells_0 rfl ?_
  refine v_lookN (off := 120) (tgt := 121) K (by decide) 2 dX10_tells_1 rfl (by decide) rfl rfl ?_
  refine v_aload_n K dX10_tells_121 rfl ?_
  refine v_iload_n K dX10_tells_122 rfl ?_
  refine v_callS (As := [.int (nI 2)]) K (c_X10_above_2 h) lX10_277 rfl ⟨by decide, by decide⟩ (Nat.le_of_ble_eq_true rfl) dX10_tells_123 (fun r1 h1 hp1 => ?_) rfl
  obtain ⟨rfl, rfl⟩ := hp1
  refine v_some ?_
  refine v_iload_n K dX10_tells_126 rfl ?_
  refine v_callV (As := [.int (nI 0), .int x]) K (c_X10_tells_0 h s w o x (L) hR hw hw8 ho ho7 (by (try simp only [List.length_append, List.length_cons, List.length_nil]); have t1 := vcTt_len ho7; have t2 := vcSt_len ho7; have t3 := vcFt_len ho7 ho7; (try simp only [vcTt, vcSt, vcFt, vcLt, List.length_append, List.length_cons, List.length_nil] at *); omega)) lX10_292 ck_X10 rfl sh_118 pl_118 rfl ⟨by decide, by decide⟩ (Nat.le_of_ble_eq_true rfl) dX10_tells_127 (fun r2 h2 hp2 => ?_) rfl
  obtain ⟨rfl, hRq1, hwq1⟩ := hp2
  refine v_some ?_
  refine v_iret K dX10_tells_130 ?_
  exact ⟨rfl, by first | exact hRq1 | (have hx := hRq1; simp only [List.append_assoc, List.cons_append, List.nil_append] at hx ⊢; exact hx), hwq1⟩

abbrev P_X10_tells_3w (h s : Mm) (w o : Nat) (x : Int32) (L : List Nat) : Option Value → Mm → Prop := fun r h2 => r = some (.int (vcL o 3 x (nI w) (s 119 (46 + 6 * w + 2)))) ∧ RR h2 (VS s (L ++ vcLt o 3)) ∧ h2 118 17 = nI w
theorem c_X10_tells_3w {l : Launch} (h s : Mm) (w o : Nat) (x : Int32) (L : List Nat) (hR : RR h (VS s L)) (hw : h 118 17 = nI w) (hw8 : w < 8) (ho : s 119 (46 + 6 * w + 0) = nI o) (ho7 : o < 7) (hL : L.length ≤ 27) : Con l yX10_tells cX10_tells 4 (some .int) 9 202 132 GL h [.ref 118, .int (nI 3), .int x] (P_X10_tells_3w h s w o x L) := by
  refine Con.ofV (own := "FoxRoundsModel") (nm := "tells") rfl rfl (by decide) (Nat.le_of_ble_eq_true rfl) ?_
  intro κ ρ hkl K
  subst hkl
  show V κ (QM κ (132, ρ, GL, 0, 0) (P_X10_tells_3w h s w o x L)) 4 (132, ρ, GL, 0, 0) h 0 [(0, .ref 118), (1, .int (nI 3)), (2, .int x)] []
  refine v_iload_n K dX10_tells_0 rfl ?_
  refine v_lookN (off := 120) (tgt := 121) K (by decide) 3 dX10_tells_1 rfl (by decide) rfl rfl ?_
  refine v_aload_n K dX10_tells_121 rfl ?_
  refine v_iload_n K dX10_tells_122 rfl ?_
  refine v_callS (As := [.int (nI 3)]) K (c_X10_above_3 h) lX10_277 rfl ⟨by decide, by decide⟩ (Nat.le_of_ble_eq_true rfl) dX10_tells_123 (fun r1 h1 hp1 => ?_) rfl
  obtain ⟨rfl, rfl⟩ := hp1
  refine v_some ?_
  refine v_iload_n K dX10_tells_126 rfl ?_
  refine v_callV (As := [.int (nI 0), .int x]) K (c_X10_tells_0 h s w o x (L) hR hw hw8 ho ho7 (by (try simp only [List.length_append, List.length_cons, List.length_nil]); have t1 := vcTt_len ho7; have t2 := vcSt_len ho7; have t3 := vcFt_len ho7 ho7; (try simp only [vcTt, vcSt, vcFt, vcLt, List.length_append, List.length_cons, List.length_nil] at *); omega)) lX10_292 ck_X10 rfl sh_118 pl_118 rfl ⟨by decide, by decide⟩ (Nat.le_of_ble_eq_true rfl) dX10_tells_127 (fun r2 h2 hp2 => ?_) rfl
  obtain ⟨rfl, hRq1, hwq1⟩ := hp2
  refine v_some ?_
  refine v_iret K dX10_tells_130 ?_
  exact ⟨rfl, by first | exact hRq1 | (have hx := hRq1; simp only [List.append_assoc, List.cons_append, List.nil_append] at hx ⊢; exact hx), hwq1⟩

abbrev P_X10_tells (h s : Mm) (w o : Nat) (x : Int32) (L : List Nat) (k : Nat) : Option Value → Mm → Prop := fun r h2 => r = some (.int (vcL o k x (nI w) (s 119 (46 + 6 * w + 2)))) ∧ RR h2 (VS s (L ++ vcLt o k)) ∧ h2 118 17 = nI w
theorem c_X10_tells {l : Launch} (h s : Mm) (w o : Nat) (x : Int32) (L : List Nat) (hR : RR h (VS s L)) (hw : h 118 17 = nI w) (hw8 : w < 8) (ho : s 119 (46 + 6 * w + 0) = nI o) (ho7 : o < 7) (hL : L.length ≤ 18) (k : Nat) (hk : k < 7) : Con l yX10_tells cX10_tells 4 (some .int) 9 202 132 GL h [.ref 118, .int (nI k), .int x] (P_X10_tells h s w o x L k) := by
  obtain rfl | rfl | rfl | rfl | rfl | rfl | rfl : k = 0 ∨ k = 1 ∨ k = 2 ∨ k = 3 ∨ k = 4 ∨ k = 5 ∨ k = 6 := by omega
  · exact c_X10_tells_0w h s w o x L hR hw hw8 ho ho7 (by omega)
  · exact c_X10_tells_1w h s w o x L hR hw hw8 ho ho7 (by omega)
  · exact c_X10_tells_2w h s w o x L hR hw hw8 ho ho7 (by omega)
  · exact c_X10_tells_3w h s w o x L hR hw hw8 ho ho7 (by omega)
  · exact c_X10_tells_4 h s w o x L hR hw hw8 ho ho7 (by omega)
  · exact c_X10_tells_5 h s w o x L hR hw hw8 ho ho7 (by omega)
  · exact c_X10_tells_6 h s w o x L hR hw hw8 ho ho7 (by omega)

noncomputable def Y_voice (s : Mm) (w k x : Int32) : Rs := @ite _ (¬ (ix w (nwD (s 119)) ∧ ix k 4)) (Classical.propDecidable _) (er s 1) ( (vcV (s 119 (46 + 6 * w.toNatClampNeg + 0)).toNatClampNeg k.toNatClampNeg x (nI w.toNatClampNeg) (s 119 (46 + 6 * w.toNatClampNeg + 2)), VS s (vcVt (s 119 (46 + 6 * w.toNatClampNeg + 0)).toNatClampNeg k.toNatClampNeg)))

abbrev P_X10_voice (h s : Mm) (τ τk : Nat → List Int32) (w k x : Int32) : Option Value → Mm → Prop := fun r h2 => r = some (.int (Y_voice s w k x).1) ∧ RR h2 (Y_voice s w k x).2
theorem c_X10_voice {l : Launch} (h s : Mm) (τ τk : Nat → List Int32) (w k x : Int32) (hR : RR h s) (hI : INV s τ τk) : Con l yX10_voice cX10_voice 5 (some .int) 10 225 132 GL h [.ref 118, .int w, .int k, .int x] (P_X10_voice h s τ τk w k x) := by
  refine Con.ofV (own := "FoxRoundsModel") (nm := "voice") rfl rfl (by decide) (Nat.le_of_ble_eq_true rfl) ?_
  intro κ ρ hkl K
  subst hkl
  show V κ (QM κ (132, ρ, GL, 0, 0) (P_X10_voice h s τ τk w k x)) 5 (132, ρ, GL, 0, 0) h 0 [(0, .ref 118), (1, .int w), (2, .int k), (3, .int x)] []
  have hd := hI.d
  have hn8 := hd.nw8
  have ht5 := hd.nt5
  refine v_aload_n K dX10_voice_0 rfl ?_
  refine v_iload_n K dX10_voice_1 rfl ?_
  refine v_callV (As := [.int w]) K (c_X10_isWay h w (nwD (s 119)) ((hR.at RA_119).trans hd.nw) (by omega)) lX10_174 ck_X10 rfl sh_118 pl_118 rfl ⟨by decide, by decide⟩ (Nat.le_of_ble_eq_true rfl) dX10_voice_2 (fun r1 h1 hp1 => ?_) rfl
  obtain ⟨rfl, rfl⟩ := hp1
  refine v_some ?_
  refine v_ifB_eq (tgt := 20) K dX10_voice_5 rfl (fun c1 => ?_) (fun c1 => ?_)
  · skip
    refine v_aload_n K dX10_voice_20 rfl ?_
    refine v_iconstN K 1 rfl dX10_voice_21 ?_
    refine v_callV (As := [.int (nI 1)]) K (c_X10_finds h 1 (by omega)) lX10_113 ck_X10 rfl sh_118 pl_118 rfl ⟨by decide, by decide⟩ (Nat.le_of_ble_eq_true rfl) dX10_voice_22 (fun r2 h2 hp2 => ?_) rfl
    obtain ⟨rfl, rfl⟩ := hp2
    refine v_some ?_
    have hRf1 : RR (u2 h 122 1 (h 122 1 + nI 1)) (u2 s 122 1 (s 122 1 + nI 1)) := by rw [show (h 122 1) = s 122 1 from hR.at RA_122]; exact hR.u RA_122
    refine v_iret K dX10_voice_25 ?_
    have eY : Y_voice s w k x = ((-1000000000) - nI 1, (u2 s 122 1 (s 122 1 + nI 1))) := by
      unfold Y_voice
      refine (@if_pos _ (Classical.propDecidable _) (fun q => by first | exact absurd q.1 (by assumption) | exact absurd q.2 (by assumption)) _ _ _).trans ?_
      first | rfl | (rfl)
    exact rfin eY hRf1
  · skip
    obtain ⟨j1, Hj1, rfl⟩ := c1
    refine v_iload_n K dX10_voice_8 rfl ?_
    refine v_i2l K dX10_voice_9 rfl ?_
    refine v_lconst (v := (nI 0).toInt64) K dX10_voice_10 (by decide) ?_
    refine v_ldc2 K kX10_295 dX10_voice_11 ?_
    refine v_topL (y := (nI 3).toInt64) (by decide) ?_
    refine v_callS (As := [.long k.toInt64, .long (nI 0).toInt64, .long (nI 3).toInt64]) K (c_X10_in h k (nI 0) (nI 3)) lX10_51 rfl ⟨by decide, by decide⟩ (Nat.le_of_ble_eq_true rfl) dX10_voice_14 (fun r3 h3 hp3 => ?_) rfl
    obtain ⟨rfl, rfl⟩ := hp3
    refine v_some ?_
    rw [show (nI 0 ≤ k ∧ k ≤ nI 3) = ix k 4 from in_ix (by decide)]
    refine v_ifB_ne (tgt := 26) K dX10_voice_17 rfl (fun c2 => ?_) (fun c2 => ?_)
    · skip
      obtain ⟨j2, Hj2, rfl⟩ := c2
      refine v_aload_n K dX10_voice_26 rfl ?_
      refine v_iconstN K 0 rfl dX10_voice_27 ?_
      refine v_puti K pX10_268 sh_118 pl_118 dX10_voice_28 ?_
      have hRr4 : RR (u2 h 118 16 (nI 0)) (u2 s 118 16 (nI 0)) := hR.o (by omega)
      refine v_aload_n K dX10_voice_31 rfl ?_
      refine v_iload_n K dX10_voice_32 rfl ?_
      refine v_puti K pX10_271 sh_118 pl_118 dX10_voice_33 ?_
      have hRr5 : RR (u2 (u2 h 118 16 (nI 0)) 118 17 (nI j1)) (u2 s 118 16 (nI 0)) := hRr4.n (by unfold RA; omega) (by omega)
      refine v_aload_n K dX10_voice_36 rfl ?_
      obtain ⟨o, ho7, ho⟩ := hd.kd (w := j1) (by omega)
      have hRv : RR (u2 (u2 h 118 16 (nI 0)) 118 17 (nI j1)) (VS s []) := by rw [← vs_nil]; exact hRr5
      refine v_callV (As := []) K (c_X10_own ((u2 (u2 h 118 16 (nI 0)) 118 17 (nI j1))) s j1 o [] hRv (show (u2 (u2 h 118 16 (nI 0)) 118 17 (nI j1)) 118 17 = nI j1 from u2_at) (by omega) ho) lX10_283 ck_X10 rfl sh_118 pl_118 rfl ⟨by decide, by decide⟩ (Nat.le_of_ble_eq_true rfl) dX10_voice_37 (fun r6 h4 hp4 => ?_) rfl
      obtain ⟨rfl, rfl⟩ := hp4
      refine v_some ?_
      refine v_istore (lv2 := [(4, .int (nI o)), (0, .ref 118), (1, .int (nI j1)), (2, .int (nI j2)), (3, .int x)]) K dX10_voice_40 (by decide) rfl ?_
      refine v_iload_n K dX10_voice_42 rfl ?_
      refine v_ifN_ne (tgt := 56) K (by omega) dX10_voice_43 rfl (fun c3 => ?_) (fun c3 => ?_)
      · skip
        refine v_iload_n K dX10_voice_56 rfl ?_
        refine v_iconstN K 1 rfl dX10_voice_57 ?_
        refine v_icmpN_ne (tgt := 71) K (by omega) (by omega) dX10_voice_58 rfl (fun c4 => ?_) (fun c4 => ?_)
        · skip
          refine v_iload_n K dX10_voice_71 rfl ?_
          refine v_iconstN K 2 rfl dX10_voice_72 ?_
          refine v_icmpN_ne (tgt := 86) K (by omega) (by omega) dX10_voice_73 rfl (fun c5 => ?_) (fun c5 => ?_)
          · skip
            refine v_aload_n K dX10_voice_86 rfl ?_
            refine v_iload K dX10_voice_87 rfl ?_
            refine v_iload_n K dX10_voice_89 rfl ?_
            refine v_callV (As := [.int (nI o), .int x]) K (c_X10_tells ((u2 (u2 h 118 16 (nI 0)) 118 17 (nI j1))) s j1 o x [] hRv (show (u2 (u2 h 118 16 (nI 0)) 118 17 (nI j1)) 118 17 = nI j1 from u2_at) (by omega) ho ho7 (by decide) o ho7) lX10_292 ck_X10 rfl sh_118 pl_118 rfl ⟨by decide, by decide⟩ (Nat.le_of_ble_eq_true rfl) dX10_voice_90 (fun r7 h5 hp5 => ?_) rfl
            obtain ⟨rfl, hRz, hwz⟩ := hp5
            refine v_some ?_
            refine v_iret K dX10_voice_93 ?_
            have eY : Y_voice s (nI j1) (nI j2) x = (vcL o o x (nI j1) (s 119 (46 + 6 * j1 + 2)), (VS s ([] ++ vcLt o o))) := by
              unfold Y_voice
              refine (@if_neg _ (Classical.propDecidable _) (fun q => q (by refine ⟨?_, ?_⟩ <;> (first | assumption | exact ⟨_, by assumption, rfl⟩ | exact Or.inl rfl | exact Or.inr (Or.inl rfl) | exact Or.inr (Or.inr rfl) | omega))) _ _ _).trans ?_
              rw [cl_ix (show j1 < 2 ^ 31 by omega), cl_ix (show j2 < 2 ^ 31 by omega), show s 119 (46 + 6 * j1 + 0) = nI o from ho, cl_ix (show o < 2 ^ 31 by omega), show j2 = 3 by omega, List.nil_append]; rfl
            exact rfin eY hRz
          · skip
            refine v_aload_n K dX10_voice_76 rfl ?_
            refine v_iload K dX10_voice_77 rfl ?_
            refine v_iload_n K dX10_voice_79 rfl ?_
            refine v_callV (As := [.int (nI o), .int x]) K (c_X10_shuts ((u2 (u2 h 118 16 (nI 0)) 118 17 (nI j1))) s j1 o x [] hRv (show (u2 (u2 h 118 16 (nI 0)) 118 17 (nI j1)) 118 17 = nI j1 from u2_at) (by omega) ho ho7 (by decide) o ho7) lX10_289 ck_X10 rfl sh_118 pl_118 rfl ⟨by decide, by decide⟩ (Nat.le_of_ble_eq_true rfl) dX10_voice_80 (fun r8 h6 hp6 => ?_) rfl
            obtain ⟨rfl, hRz, hwz⟩ := hp6
            refine v_some ?_
            refine v_goto (tgt := 93) K dX10_voice_83 rfl ?_
            refine v_iret K dX10_voice_93 ?_
            have eY : Y_voice s (nI j1) (nI j2) x = (vcS o x (s 119 (46 + 6 * j1 + 2)), (VS s ([] ++ vcSt o))) := by
              unfold Y_voice
              refine (@if_neg _ (Classical.propDecidable _) (fun q => q (by refine ⟨?_, ?_⟩ <;> (first | assumption | exact ⟨_, by assumption, rfl⟩ | exact Or.inl rfl | exact Or.inr (Or.inl rfl) | exact Or.inr (Or.inr rfl) | omega))) _ _ _).trans ?_
              rw [cl_ix (show j1 < 2 ^ 31 by omega), cl_ix (show j2 < 2 ^ 31 by omega), show s 119 (46 + 6 * j1 + 0) = nI o from ho, cl_ix (show o < 2 ^ 31 by omega), show j2 = 2 by omega, List.nil_append]; rfl
            exact rfin eY hRz
        · skip
          refine v_aload_n K dX10_voice_61 rfl ?_
          refine v_iload K dX10_voice_62 rfl ?_
          refine v_iload_n K dX10_voice_64 rfl ?_
          refine v_callV (As := [.int (nI o), .int x]) K (c_X10_fears ((u2 (u2 h 118 16 (nI 0)) 118 17 (nI j1))) s j1 o x [] hRv (show (u2 (u2 h 118 16 (nI 0)) 118 17 (nI j1)) 118 17 = nI j1 from u2_at) (by omega) ho ho7 (by decide) o ho7) lX10_286 ck_X10 rfl sh_118 pl_118 rfl ⟨by decide, by decide⟩ (Nat.le_of_ble_eq_true rfl) dX10_voice_65 (fun r9 h7 hp7 => ?_) rfl
          obtain ⟨rfl, hRz, hwz⟩ := hp7
          refine v_some ?_
          refine v_goto (tgt := 93) K dX10_voice_68 rfl ?_
          refine v_iret K dX10_voice_93 ?_
          have eY : Y_voice s (nI j1) (nI j2) x = (vcF o o x (nI j1) (s 119 (46 + 6 * j1 + 2)), (VS s ([] ++ vcFt o o))) := by
            unfold Y_voice
            refine (@if_neg _ (Classical.propDecidable _) (fun q => q (by refine ⟨?_, ?_⟩ <;> (first | assumption | exact ⟨_, by assumption, rfl⟩ | exact Or.inl rfl | exact Or.inr (Or.inl rfl) | exact Or.inr (Or.inr rfl) | omega))) _ _ _).trans ?_
            rw [cl_ix (show j1 < 2 ^ 31 by omega), cl_ix (show j2 < 2 ^ 31 by omega), show s 119 (46 + 6 * j1 + 0) = nI o from ho, cl_ix (show o < 2 ^ 31 by omega), show j2 = 1 by omega, List.nil_append]; rfl
          exact rfin eY hRz
      · skip
        refine v_aload_n K dX10_voice_46 rfl ?_
        refine v_iload K dX10_voice_47 rfl ?_
        refine v_iload_n K dX10_voice_49 rfl ?_
        refine v_callV (As := [.int (nI o), .int x]) K (c_X10_triesOf ((u2 (u2 h 118 16 (nI 0)) 118 17 (nI j1))) s j1 o x [] hRv (show (u2 (u2 h 118 16 (nI 0)) 118 17 (nI j1)) 118 17 = nI j1 from u2_at) (by omega) ho ho7 (by decide) o ho7) lX10_280 ck_X10 rfl sh_118 pl_118 rfl ⟨by decide, by decide⟩ (Nat.le_of_ble_eq_true rfl) dX10_voice_50 (fun r10 h8 hp8 => ?_) rfl
        obtain ⟨rfl, hRz, hwz⟩ := hp8
        refine v_some ?_
        refine v_goto (tgt := 93) K dX10_voice_53 rfl ?_
        refine v_iret K dX10_voice_93 ?_
        have eY : Y_voice s (nI j1) (nI j2) x = (vcT o x (nI j1), (VS s ([] ++ vcTt o))) := by
          unfold Y_voice
          refine (@if_neg _ (Classical.propDecidable _) (fun q => q (by refine ⟨?_, ?_⟩ <;> (first | assumption | exact ⟨_, by assumption, rfl⟩ | exact Or.inl rfl | exact Or.inr (Or.inl rfl) | exact Or.inr (Or.inr rfl) | omega))) _ _ _).trans ?_
          rw [cl_ix (show j1 < 2 ^ 31 by omega), cl_ix (show j2 < 2 ^ 31 by omega), show s 119 (46 + 6 * j1 + 0) = nI o from ho, cl_ix (show o < 2 ^ 31 by omega), show j2 = 0 by omega, List.nil_append]; rfl
        exact rfin eY hRz
    · skip
      refine v_aload_n K dX10_voice_20 rfl ?_
      refine v_iconstN K 1 rfl dX10_voice_21 ?_
      refine v_callV (As := [.int (nI 1)]) K (c_X10_finds h 1 (by omega)) lX10_113 ck_X10 rfl sh_118 pl_118 rfl ⟨by decide, by decide⟩ (Nat.le_of_ble_eq_true rfl) dX10_voice_22 (fun r11 h9 hp9 => ?_) rfl
      obtain ⟨rfl, rfl⟩ := hp9
      refine v_some ?_
      have hRf2 : RR (u2 h 122 1 (h 122 1 + nI 1)) (u2 s 122 1 (s 122 1 + nI 1)) := by rw [show (h 122 1) = s 122 1 from hR.at RA_122]; exact hR.u RA_122
      refine v_iret K dX10_voice_25 ?_
      have eY : Y_voice s (nI j1) k x = ((-1000000000) - nI 1, (u2 s 122 1 (s 122 1 + nI 1))) := by
        unfold Y_voice
        refine (@if_pos _ (Classical.propDecidable _) (fun q => by first | exact absurd q.1 (by assumption) | exact absurd q.2 (by assumption)) _ _ _).trans ?_
        first | rfl | ((try rw [cl_ix (show j1 < 2 ^ 31 by omega)]))
      exact rfin eY hRf2
