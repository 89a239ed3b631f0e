/-! the laws of the class: three TEXTS and the row of names -/
def nmv (a b c e f : Int32) : Nat → Int32 := fun k => match k with
  | 0 => a
  | 1 => b
  | 2 => c
  | 3 => e
  | 4 => f
  | _ => nI 0
def nnU (u : Nat) : Nat := match u with
  | 0 => 5
  | 1 => 3
  | _ => 2
/-- texts that come to one number, by the names of their use alone -/
def TOK (τ : Nat → List Int32) : Prop := ∀ u, u < 3 → (∀ nm, runL (τ u) nm [] = [evalR (τ u) nm]) ∧ (∀ nm nm' : Nat → Int32, (∀ k, k < nnU u → nm k = nm' k) → evalR (τ u) nm = evalR (τ u) nm')
def LX (b : Nat) (h : Mm) (τ : Nat → List Int32) : Prop := TXr h (b + 1) (τ 0) ∧ TXr h (b + 4) (τ 1) ∧ TXr h (b + 7) (τ 2)
/-- only the names and the stacks of the laws at 20 have changed -/
def FrL (h h2 : Mm) : Prop := ∀ a, a ≠ 30 → a ≠ 23 → a ≠ 26 → a ≠ 29 → h2 a = h a
theorem FrL.r {h : Mm} : FrL h h := fun _ _ _ _ _ => rfl
theorem FrL.t {h h1 h2 : Mm} (H : FrL h h1) (H2 : FrL h1 h2) : FrL h h2 := fun a a1 a2 a3 a4 => (H2 a a1 a2 a3 a4).trans (H a a1 a2 a3 a4)
theorem FrL.O {h h2 : Mm} (H : FrL h h2) : FrO 20 31 h h2 := fun a ha => H a (by omega) (by omega) (by omega) (by omega)
theorem LX.fr {h h2 : Mm} {τ : Nat → List Int32} (H : LX 20 h τ) (F : FrL h h2) : LX 20 h2 τ :=
  ⟨H.1.far (congrFun (F 21 (by omega) (by omega) (by omega) (by omega)) 1) (F 22 (by omega) (by omega) (by omega) (by omega)), H.2.1.far (congrFun (F 24 (by omega) (by omega) (by omega) (by omega)) 1) (F 25 (by omega) (by omega) (by omega) (by omega)), H.2.2.far (congrFun (F 27 (by omega) (by omega) (by omega) (by omega)) 1) (F 28 (by omega) (by omega) (by omega) (by omega))⟩
noncomputable def killsE (τ : Nat → List Int32) (a b c : Int32) : Int32 := heldX (evalR (τ 1) (nmv a b c (nI 0) (nI 0))) (nI 0) a
noncomputable def staysE (τ : Nat → List Int32) (a t : Int32) : Int32 := heldX (evalR (τ 2) (nmv a t (nI 0) (nI 0) (nI 0))) (nI 0) (nI 99)
noncomputable def entersE (τ : Nat → List Int32) (e b m w t : Int32) : Int32 := evalR (τ 0) (nmv e b m w t)

abbrev P_X2_enters (h : Mm) (τ : Nat → List Int32) (e b m w t : Int32) : Option Value → Mm → Prop := fun r h2 => r = some (.int (entersE τ e b m w t)) ∧ FrL h h2
theorem c_X2_enters {l : Launch} (h : Mm) (τ : Nat → List Int32) (e b m w t : Int32) (hτ : TOK τ) (hX : LX 20 h τ) : Con l yX2_enters cX2_enters 6 (some .int) 2 46 132 GL h [.ref 20, .int e, .int b, .int m, .int w, .int t] (P_X2_enters h τ e b m w t) := by
  refine Con.ofV (own := "FoxRounds$Laws") (nm := "enters") rfl rfl (by decide) (Nat.le_of_ble_eq_true rfl) ?_
  intro κ ρ hkl K
  subst hkl
  show V κ (QM κ (132, ρ, GL, 0, 0) (P_X2_enters h τ e b m w t)) 6 (132, ρ, GL, 0, 0) h 0 [(0, .ref 20), (1, .int e), (2, .int b), (3, .int m), (4, .int w), (5, .int t)] []
  refine v_aload_n K dX2_enters_0 rfl ?_
  refine v_getr (q := 30) K fX2_36 sh_20 pl_20 gl_20_3 dX2_enters_1 ?_
  refine v_iconstN K 0 rfl dX2_enters_4 ?_
  refine v_iload_n K dX2_enters_5 rfl ?_
  refine v_iast K sh_30 pl_30 (by omega) dX2_enters_6 ?_
  refine v_aload_n K dX2_enters_7 rfl ?_
  refine v_getr (q := 30) K fX2_36 sh_20 pl_20 gl_20_3 dX2_enters_8 ?_
  refine v_iconstN K 1 rfl dX2_enters_11 ?_
  refine v_iload_n K dX2_enters_12 rfl ?_
  refine v_iast K sh_30 pl_30 (by omega) dX2_enters_13 ?_
  refine v_aload_n K dX2_enters_14 rfl ?_
  refine v_getr (q := 30) K fX2_36 sh_20 pl_20 gl_20_3 dX2_enters_15 ?_
  refine v_iconstN K 2 rfl dX2_enters_18 ?_
  refine v_iload_n K dX2_enters_19 rfl ?_
  refine v_iast K sh_30 pl_30 (by omega) dX2_enters_20 ?_
  refine v_aload_n K dX2_enters_21 rfl ?_
  refine v_getr (q := 30) K fX2_36 sh_20 pl_20 gl_20_3 dX2_enters_22 ?_
  refine v_iconstN K 3 rfl dX2_enters_25 ?_
  refine v_iload K dX2_enters_26 rfl ?_
  refine v_iast K sh_30 pl_30 (by omega) dX2_enters_28 ?_
  refine v_aload_n K dX2_enters_29 rfl ?_
  refine v_getr (q := 30) K fX2_36 sh_20 pl_20 gl_20_3 dX2_enters_30 ?_
  refine v_iconstN K 4 rfl dX2_enters_33 ?_
  refine v_iload K dX2_enters_34 rfl ?_
  refine v_iast K sh_30 pl_30 (by omega) dX2_enters_36 ?_
  refine v_aload_n K dX2_enters_37 rfl ?_
  refine v_getr (q := 21) K fX2_18 sh_20 pl_20 gl_20_0 dX2_enters_38 ?_
  refine v_aload_n K dX2_enters_41 rfl ?_
  refine v_getr (q := 30) K fX2_36 sh_20 pl_20 gl_20_3 dX2_enters_42 ?_
  have hT1 : TXr (u2 (u2 (u2 (u2 (u2 h 30 0 e) 30 1 b) 30 2 m) 30 3 w) 30 4 t) 21 (τ 0) := hX.1.far rfl rfl
  have hv1 : runL (τ 0) ((u2 (u2 (u2 (u2 (u2 h 30 0 e) 30 1 b) 30 2 m) 30 3 w) 30 4 t) 30) [] = [evalR (τ 0) (nmv e b m w t)] := by
    rw [(hτ 0 (by omega)).1, (hτ 0 (by omega)).2 _ (nmv e b m w t) (fun k hk => ?_)]
    have hk : k < 5 := hk
    obtain rfl | rfl | rfl | rfl | rfl : k = 0 ∨ k = 1 ∨ k = 2 ∨ k = 3 ∨ k = 4 := by omega
    all_goals rfl
  refine v_callV (As := [.ref 30]) K (c_X5_value (u2 (u2 (u2 (u2 (u2 h 30 0 e) 30 1 b) 30 2 m) 30 3 w) 30 4 t) 21 (τ 0) (evalR (τ 0) (nmv e b m w t)) (Or.inl rfl) hT1 hv1) lX2_43 ck_X5 rfl sh_21 pl_21 rfl ⟨by decide, by decide⟩ (Nat.le_of_ble_eq_true rfl) dX2_enters_45 (fun r1 h1 hp1 => ?_) rfl
  obtain ⟨rfl, hF⟩ := hp1
  refine v_some ?_
  refine v_iret K dX2_enters_48 ?_
  exact ⟨rfl, fun a a1 a2 a3 a4 => by rw [hF a (by omega), u2_off a1, u2_off a1, u2_off a1, u2_off a1, u2_off a1]⟩

abbrev P_X2_kills (h : Mm) (τ : Nat → List Int32) (a b c : Int32) : Option Value → Mm → Prop := fun r h2 => r = some (.int (killsE τ a b c)) ∧ FrL h h2
theorem c_X2_kills {l : Launch} (h : Mm) (τ : Nat → List Int32) (a b c : Int32) (hτ : TOK τ) (hX : LX 20 h τ) : Con l yX2_kills cX2_kills 4 (some .int) 2 46 132 GL h [.ref 20, .int a, .int b, .int c] (P_X2_kills h τ a b c) := by
  refine Con.ofV (own := "FoxRounds$Laws") (nm := "kills") rfl rfl (by decide) (Nat.le_of_ble_eq_true rfl) ?_
  intro κ ρ hkl K
  subst hkl
  show V κ (QM κ (132, ρ, GL, 0, 0) (P_X2_kills h τ a b c)) 4 (132, ρ, GL, 0, 0) h 0 [(0, .ref 20), (1, .int a), (2, .int b), (3, .int c)] []
  refine v_aload_n K dX2_kills_0 rfl ?_
  refine v_getr (q := 30) K fX2_36 sh_20 pl_20 gl_20_3 dX2_kills_1 ?_
  refine v_iconstN K 0 rfl dX2_kills_4 ?_
  refine v_iload_n K dX2_kills_5 rfl ?_
  refine v_iast K sh_30 pl_30 (by omega) dX2_kills_6 ?_
  refine v_aload_n K dX2_kills_7 rfl ?_
  refine v_getr (q := 30) K fX2_36 sh_20 pl_20 gl_20_3 dX2_kills_8 ?_
  refine v_iconstN K 1 rfl dX2_kills_11 ?_
  refine v_iload_n K dX2_kills_12 rfl ?_
  refine v_iast K sh_30 pl_30 (by omega) dX2_kills_13 ?_
  refine v_aload_n K dX2_kills_14 rfl ?_
  refine v_getr (q := 30) K fX2_36 sh_20 pl_20 gl_20_3 dX2_kills_15 ?_
  refine v_iconstN K 2 rfl dX2_kills_18 ?_
  refine v_iload_n K dX2_kills_19 rfl ?_
  refine v_iast K sh_30 pl_30 (by omega) dX2_kills_20 ?_
  refine v_aload_n K dX2_kills_21 rfl ?_
  refine v_getr (q := 24) K fX2_27 sh_20 pl_20 gl_20_1 dX2_kills_22 ?_
  refine v_aload_n K dX2_kills_25 rfl ?_
  refine v_getr (q := 30) K fX2_36 sh_20 pl_20 gl_20_3 dX2_kills_26 ?_
  have hT1 : TXr (u2 (u2 (u2 h 30 0 a) 30 1 b) 30 2 c) 24 (τ 1) := hX.2.1.far rfl rfl
  have hv1 : runL (τ 1) ((u2 (u2 (u2 h 30 0 a) 30 1 b) 30 2 c) 30) [] = [evalR (τ 1) (nmv a b c (nI 0) (nI 0))] := by
    rw [(hτ 1 (by omega)).1, (hτ 1 (by omega)).2 _ (nmv a b c (nI 0) (nI 0)) (fun k hk => ?_)]
    have hk : k < 3 := hk
    obtain rfl | rfl | rfl : k = 0 ∨ k = 1 ∨ k = 2 := by omega
    all_goals rfl
  refine v_callV (As := [.ref 30]) K (c_X5_value (u2 (u2 (u2 h 30 0 a) 30 1 b) 30 2 c) 24 (τ 1) (evalR (τ 1) (nmv a b c (nI 0) (nI 0))) (Or.inr (Or.inl rfl)) hT1 hv1) lX2_43 ck_X5 rfl sh_24 pl_24 rfl ⟨by decide, by decide⟩ (Nat.le_of_ble_eq_true rfl) dX2_kills_29 (fun r1 h1 hp1 => ?_) rfl
  obtain ⟨rfl, hF⟩ := hp1
  refine v_some ?_
  refine v_iconstN K 0 rfl dX2_kills_32 ?_
  refine v_iload_n K dX2_kills_33 rfl ?_
  refine v_callN (As := [.int (evalR (τ 1) (nmv a b c (nI 0) (nI 0))), .int (nI 0), .int a]) K (c_X9_held h1 (evalR (τ 1) (nmv a b c (nI 0) (nI 0))) (nI 0) a) lX2_47 rfl ⟨by decide, by decide⟩ (Nat.le_of_ble_eq_true rfl) dX2_kills_34 (fun r2 h2 hp2 => ?_) rfl
  obtain ⟨rfl, rfl⟩ := hp2
  refine v_some ?_
  refine v_iret K dX2_kills_37 ?_
  exact ⟨rfl, fun q a1 a2 a3 a4 => by rw [hF q (by omega), u2_off a1, u2_off a1, u2_off a1]⟩

abbrev P_X2_stays (h : Mm) (τ : Nat → List Int32) (a t : Int32) : Option Value → Mm → Prop := fun r h2 => r = some (.int (staysE τ a t)) ∧ FrL h h2
theorem c_X2_stays {l : Launch} (h : Mm) (τ : Nat → List Int32) (a t : Int32) (hτ : TOK τ) (hX : LX 20 h τ) : Con l yX2_stays cX2_stays 3 (some .int) 2 46 132 GL h [.ref 20, .int a, .int t] (P_X2_stays h τ a t) := by
  refine Con.ofV (own := "FoxRounds$Laws") (nm := "stays") rfl rfl (by decide) (Nat.le_of_ble_eq_true rfl) ?_
  intro κ ρ hkl K
  subst hkl
  show V κ (QM κ (132, ρ, GL, 0, 0) (P_X2_stays h τ a t)) 3 (132, ρ, GL, 0, 0) h 0 [(0, .ref 20), (1, .int a), (2, .int t)] []
  refine v_aload_n K dX2_stays_0 rfl ?_
  refine v_getr (q := 30) K fX2_36 sh_20 pl_20 gl_20_3 dX2_stays_1 ?_
  refine v_iconstN K 0 rfl dX2_stays_4 ?_
  refine v_iload_n K dX2_stays_5 rfl ?_
  refine v_iast K sh_30 pl_30 (by omega) dX2_stays_6 ?_
  refine v_aload_n K dX2_stays_7 rfl ?_
  refine v_getr (q := 30) K fX2_36 sh_20 pl_20 gl_20_3 dX2_stays_8 ?_
  refine v_iconstN K 1 rfl dX2_stays_11 ?_
  refine v_iload_n K dX2_stays_12 rfl ?_
  refine v_iast K sh_30 pl_30 (by omega) dX2_stays_13 ?_
  refine v_aload_n K dX2_stays_14 rfl ?_
  refine v_getr (q := 27) K fX2_33 sh_20 pl_20 gl_20_2 dX2_stays_15 ?_
  refine v_aload_n K dX2_stays_18 rfl ?_
  refine v_getr (q := 30) K fX2_36 sh_20 pl_20 gl_20_3 dX2_stays_19 ?_
  have hT1 : TXr (u2 (u2 h 30 0 a) 30 1 t) 27 (τ 2) := hX.2.2.far rfl rfl
  have hv1 : runL (τ 2) ((u2 (u2 h 30 0 a) 30 1 t) 30) [] = [evalR (τ 2) (nmv a t (nI 0) (nI 0) (nI 0))] := by
    rw [(hτ 2 (by omega)).1, (hτ 2 (by omega)).2 _ (nmv a t (nI 0) (nI 0) (nI 0)) (fun k hk => ?_)]
    have hk : k < 2 := hk
    obtain rfl | rfl : k = 0 ∨ k = 1 := by omega
    all_goals rfl
  refine v_callV (As := [.ref 30]) K (c_X5_value (u2 (u2 h 30 0 a) 30 1 t) 27 (τ 2) (evalR (τ 2) (nmv a t (nI 0) (nI 0) (nI 0))) (Or.inr (Or.inr rfl)) hT1 hv1) lX2_43 ck_X5 rfl sh_27 pl_27 rfl ⟨by decide, by decide⟩ (Nat.le_of_ble_eq_true rfl) dX2_stays_22 (fun r1 h1 hp1 => ?_) rfl
  obtain ⟨rfl, hF⟩ := hp1
  refine v_some ?_
  refine v_iconstN K 0 rfl dX2_stays_25 ?_
  refine v_bipushN K 99 rfl dX2_stays_26 ?_
  refine v_callN (As := [.int (evalR (τ 2) (nmv a t (nI 0) (nI 0) (nI 0))), .int (nI 0), .int (nI 99)]) K (c_X9_held h1 (evalR (τ 2) (nmv a t (nI 0) (nI 0) (nI 0))) (nI 0) (nI 99)) lX2_47 rfl ⟨by decide, by decide⟩ (Nat.le_of_ble_eq_true rfl) dX2_stays_28 (fun r2 h2 hp2 => ?_) rfl
  obtain ⟨rfl, rfl⟩ := hp2
  refine v_some ?_
  refine v_iret K dX2_stays_31 ?_
  exact ⟨rfl, fun q a1 a2 a3 a4 => by rw [hF q (by omega), u2_off a1, u2_off a1]⟩
