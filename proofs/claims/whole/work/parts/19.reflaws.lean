/-! the reference works a TEXT out; its laws -/
def parseE (bt : Nat → Int32) (n u : Nat) : List Int32 × PSt := eitherP bt n (unitP bt n u 5) (0, none, 0)
def faultP (bt : Nat → Int32) (n u : Nat) : Option Nat := if (parseE bt n u).2.2.1 = none ∧ (parseE bt n u).2.1 < n then some (parseE bt n u).2.1 else (parseE bt n u).2.2.1
/-- the reading's places alone have changed -/
def FrW (h h2 : Mm) : Prop := (∀ a, a ≠ 118 → h2 a = h a) ∧ ∀ k, ¬ (5 ≤ k ∧ k ≤ 10) → h2 118 k = h 118 k
theorem FrW.t {h h1 h2 : Mm} (H : FrW h h1) (H2 : FrW h1 h2) : FrW h h2 := ⟨fun a q => (H2.1 a q).trans (H.1 a q), fun k q => (H2.2 k q).trans (H.2 k q)⟩
theorem FrP.W {h h2 : Mm} (H : FrP h h2) : FrW h h2 := ⟨fun a q => funext fun k => H a k (by omega), fun k q => H 118 k (by omega)⟩
theorem FrW.u {h h1 : Mm} {k : Nat} {v : Int32} (H : FrW h h1) (hk : 5 ≤ k ∧ k ≤ 10) : FrW h (u2 h1 118 k v) := ⟨fun a q => (u2_off q).trans (H.1 a q), fun j q => (u2_ne (by omega)).trans (H.2 j q)⟩
theorem FrW.r {h : Mm} : FrW h h := ⟨fun _ _ => rfl, fun _ _ => rfl⟩
/-- the names too, and which WAYS were tried, and one row of numbers -/
def FrG (P : Nat) (h h2 : Mm) : Prop := (∀ a, a ≠ P → a ≠ 118 → a ≠ 123 → a ≠ 124 → h2 a = h a) ∧ ∀ k, ¬ (5 ≤ k ∧ k ≤ 10) → h2 118 k = h 118 k
def FrX (h h2 : Mm) : Prop := (∀ a, a ≠ 118 → a ≠ 123 → h2 a = h a) ∧ ∀ k, ¬ (5 ≤ k ∧ k ≤ 10) → h2 118 k = h 118 k
theorem FrX.r {h : Mm} : FrX h h := ⟨fun _ _ _ => rfl, fun _ _ => rfl⟩
theorem FrX.t {h h1 h2 : Mm} (H : FrX h h1) (H2 : FrX h1 h2) : FrX h h2 := ⟨fun a q r => (H2.1 a q r).trans (H.1 a q r), fun k q => (H2.2 k q).trans (H.2 k q)⟩
theorem FrW.X {h h2 : Mm} (H : FrW h h2) : FrX h h2 := ⟨fun a q _ => H.1 a q, H.2⟩
theorem FrO.X {h h2 : Mm} (H : FrO 123 124 h h2) : FrX h h2 := ⟨fun a _ r => H a (by omega), fun k _ => by rw [H 118 (by omega)]⟩
theorem FrX.nm {h h1 : Mm} {k : Nat} {v : Int32} (H : FrX h h1) : FrX h (u2 h1 123 k v) := ⟨fun a q r => (u2_off r).trans (H.1 a q r), fun j q => (u2_ne (by omega)).trans (H.2 j q)⟩
theorem FrG.r {P : Nat} {h : Mm} : FrG P h h := ⟨fun _ _ _ _ _ => rfl, fun _ _ => rfl⟩
theorem FrG.t {P : Nat} {h h1 h2 : Mm} (H : FrG P h h1) (H2 : FrG P h1 h2) : FrG P h h2 := ⟨fun a p q r s => (H2.1 a p q r s).trans (H.1 a p q r s), fun k q => (H2.2 k q).trans (H.2 k q)⟩
theorem FrX.G {P : Nat} {h h2 : Mm} (H : FrX h h2) : FrG P h h2 := ⟨fun a _ q r _ => H.1 a q r, H.2⟩
theorem FrG.u {P k : Nat} {v : Int32} {h h1 : Mm} (H : FrG P h h1) (hP : P ≠ 118) : FrG P h (u2 h1 P k v) := ⟨fun a p q r s => (u2_off p).trans (H.1 a p q r s), fun j q => (u2_ne (by omega)).trans (H.2 j q)⟩
theorem FrG.tr {P k : Nat} {v : Int32} {h h1 : Mm} (H : FrG P h h1) : FrG P h (u2 h1 124 k v) := ⟨fun a p q r s => (u2_off s).trans (H.1 a p q r s), fun j q => (u2_ne (by omega)).trans (H.2 j q)⟩
theorem px_start {h : Mm} {bt : Nat → Int32} {n B u : Nat} {nm : Nat → Int32} (hb : ∀ i, i < n → h 119 (B + i) = bt i) (hB : B + n ≤ 340) (hn : n ≤ 50) (hu : u < 3) (hnm : ∀ j, j < 5 → h 123 j = nm j) :
    PX (u2 (u2 (u2 (u2 (u2 (u2 h 118 5 (nI B)) 118 6 (nI 0)) 118 7 (nI n)) 118 8 (-1)) 118 9 (nI 0)) 118 10 (nI u)) bt n B u nm ∧ PM (u2 (u2 (u2 (u2 (u2 (u2 h 118 5 (nI B)) 118 6 (nI 0)) 118 7 (nI n)) 118 8 (-1)) 118 9 (nI 0)) 118 10 (nI u)) n (0, none, 0) ∧ FrW h (u2 (u2 (u2 (u2 (u2 (u2 h 118 5 (nI B)) 118 6 (nI 0)) 118 7 (nI n)) 118 8 (-1)) 118 9 (nI 0)) 118 10 (nI u)) := by
  refine ⟨⟨?_, ?_, u2_at, fun i hi => ?_, hB, hn, hu, fun j hj => ?_⟩, ⟨⟨?_, ?_, ?_⟩, Nat.zero_le _, Nat.zero_le _, fun p hp => by cases hp⟩, ?_⟩
  · rw [u2_ne (by omega), u2_ne (by omega), u2_ne (by omega), u2_ne (by omega), u2_ne (by omega), u2_at]
  · rw [u2_ne (by omega), u2_ne (by omega), u2_ne (by omega), u2_at]
  · rw [u2_ne (by omega), u2_ne (by omega), u2_ne (by omega), u2_ne (by omega), u2_ne (by omega), u2_ne (by omega)]; exact hb i hi
  · rw [u2_ne (by omega), u2_ne (by omega), u2_ne (by omega), u2_ne (by omega), u2_ne (by omega), u2_ne (by omega)]; exact hnm j hj
  · rw [u2_ne (by omega), u2_ne (by omega), u2_ne (by omega), u2_ne (by omega), u2_at]
  · rw [u2_ne (by omega), u2_ne (by omega), u2_at]; rfl
  · rw [u2_ne (by omega), u2_at]
  · exact (((((FrW.r.u (by omega)).u (by omega)).u (by omega)).u (by omega)).u (by omega)).u (by omega)
theorem wrong_none {t : PSt} (e : t.2.1 = none) : (wrongP t).2.1 = some t.1 := by unfold wrongP; rw [e]
theorem run_val {c : List Int32} {nm : Nat → Int32} {v : Int32} (h : ∀ st, runL c nm st = v :: st) : v = evalR c nm := by unfold evalR; rw [h []]; rfl
theorem run_c {c : Int32} {r : List Int32} {nm : Nat → Int32} {st : List Int32} : runL (c :: r) nm st = runL r nm (stepR nm st c) := rfl
theorem run_nil {nm : Nat → Int32} {st : List Int32} : runL [] nm st = st := rfl
def firstR (u : Nat) : List Int32 := match u with
  | 0 => [(-1), (-2), (-43), nI 99, (-62)]
  | 1 => [(-2), nI 3, (-42), (-3), nI 50, (-62), nI 3, (-42), (-43)]
  | _ => [(-1), (-1), nI 30, (-47), (-45)]
theorem first_0 {nm : Nat → Int32} : evalR (firstR 0) nm = b2i (nI 99 < nm 0 + nm 1) := by
  show (runL [(-1), (-2), (-43), nI 99, (-62)] nm []).headD 0 = _
  rw [run_c, step_m (j := 0) (by decide) (by decide) (by decide) (by decide), run_c, step_m (j := 1) (by decide) (by decide) (by decide) (by decide), run_c, step_j (by decide) (by decide) (by decide), run_c, step_n (by decide), run_c, step_j (by decide) (by decide) (by decide), run_nil]
  rfl
theorem first_1 {nm : Nat → Int32} : evalR (firstR 1) nm = nm 1 * nI 3 + b2i (nI 50 < nm 2) * nI 3 := by
  show (runL [(-2), nI 3, (-42), (-3), nI 50, (-62), nI 3, (-42), (-43)] nm []).headD 0 = _
  rw [run_c, step_m (j := 1) (by decide) (by decide) (by decide) (by decide), run_c, step_n (by decide), run_c, step_j (by decide) (by decide) (by decide), run_c, step_m (j := 2) (by decide) (by decide) (by decide) (by decide), run_c, step_n (by decide), run_c, step_j (by decide) (by decide) (by decide), run_c, step_n (by decide), run_c, step_j (by decide) (by decide) (by decide), run_c, step_j (by decide) (by decide) (by decide), run_nil]
  rfl
theorem first_2 {nm : Nat → Int32} : evalR (firstR 2) nm = nm 0 - nm 0 / nI 30 := by
  show (runL [(-1), (-1), nI 30, (-47), (-45)] nm []).headD 0 = _
  rw [run_c, step_m (j := 0) (by decide) (by decide) (by decide) (by decide), run_c, step_m (j := 0) (by decide) (by decide) (by decide) (by decide), run_c, step_n (by decide), run_c, step_j (by decide) (by decide) (by decide), run_c, step_j (by decide) (by decide) (by decide), run_nil]
  show nm 0 - (joinR (nI 47) (nm 0) (nI 30)) = _
  rw [j47, if_neg (by decide)]
def bytD (d : Dm) (B n : Nat) : Nat → Int32 := fun i => if i < n then d (B + i) else nI 0
theorem byt_cong {d d2 : Dm} {B B2 n : Nat} (e : ∀ i, i < n → d2 (B2 + i) = d (B + i)) : bytD d2 B2 n = bytD d B n := by
  funext i
  unfold bytD
  by_cases q : i < n
  · rw [if_pos q, if_pos q, e i q]
  · rw [if_neg q, if_neg q]
/-- the TEXTS by the numbers -/
def TXD (d : Dm) (τ : Nat → List Int32) : Prop := ∀ u, u < 3 → (d (110 + u) = nI 0 ∧ τ u = firstR u) ∨ (∃ n, 0 < n ∧ n ≤ 50 ∧ d (110 + u) = nI n ∧ faultP (bytD d (134 + 50 * u) n) n u = none ∧ τ u = (parseE (bytD d (134 + 50 * u) n) n u).1)
theorem TXD.same {d d2 : Dm} {τ : Nat → List Int32} (H : TXD d τ) (e : ∀ i, 110 ≤ i → i < 284 → ¬ (114 ≤ i ∧ i < 134) → d2 i = d i) : TXD d2 τ := by
  intro u hu
  rcases H u hu with ⟨h1, h2⟩ | ⟨n, h0, hn, h1, h2, h3⟩
  · exact Or.inl ⟨(e _ (by omega) (by omega) (by omega)).trans h1, h2⟩
  · have key : bytD d2 (134 + 50 * u) n = bytD d (134 + 50 * u) n := byt_cong fun i hi => e _ (by omega) (by omega) (by omega)
    exact Or.inr ⟨n, h0, hn, (e _ (by omega) (by omega) (by omega)).trans h1, by rw [key]; exact h2, by rw [key]; exact h3⟩

abbrev P_X10_worked (h : Mm) (bt : Nat → Int32) (n B u : Nat) (nm : Nat → Int32) : Option Value → Mm → Prop := fun r h2 => (∃ v, r = some (.int v) ∧ (faultP bt n u = none → v = evalR (parseE bt n u).1 nm)) ∧ h2 118 8 = fltI (faultP bt n u) ∧ FrW h h2
theorem c_X10_worked {l : Launch} (h : Mm) (bt : Nat → Int32) (n B u : Nat) (nm : Nat → Int32) (hb : ∀ i, i < n → h 119 (B + i) = bt i) (hB : B + n ≤ 340) (hn50 : n ≤ 50) (hu : u < 3) (hnm : ∀ j, j < 5 → h 123 j = nm j) : Con l yX10_worked cX10_worked 5 (some .int) 37 847 132 GL h [.ref 118, .int (nI B), .int (nI n), .int (nI u)] (P_X10_worked h bt n B u nm) := by
  refine Con.ofV (own := "FoxRoundsModel") (nm := "worked") rfl rfl (by decide) (Nat.le_of_ble_eq_true rfl) ?_
  intro κ ρ hkl K
  subst hkl
  show V κ (QM κ (132, ρ, GL, 0, 0) (P_X10_worked h bt n B u nm)) 5 (132, ρ, GL, 0, 0) h 0 [(0, .ref 118), (1, .int (nI B)), (2, .int (nI n)), (3, .int (nI u))] []
  refine v_aload_n K dX10_worked_0 rfl ?_
  refine v_iload_n K dX10_worked_1 rfl ?_
  refine v_puti K pX10_65 sh_118 pl_118 dX10_worked_2 ?_
  refine v_aload_n K dX10_worked_5 rfl ?_
  refine v_iconstN K 0 rfl dX10_worked_6 ?_
  refine v_puti K pX10_55 sh_118 pl_118 dX10_worked_7 ?_
  refine v_aload_n K dX10_worked_10 rfl ?_
  refine v_iload_n K dX10_worked_11 rfl ?_
  refine v_puti K pX10_59 sh_118 pl_118 dX10_worked_12 ?_
  refine v_aload_n K dX10_worked_15 rfl ?_
  refine v_iconst (v := (-1)) K dX10_worked_16 (by decide) ?_
  refine v_puti K pX10_62 sh_118 pl_118 dX10_worked_17 ?_
  refine v_aload_n K dX10_worked_20 rfl ?_
  refine v_iconstN K 0 rfl dX10_worked_21 ?_
  refine v_puti K pX10_94 sh_118 pl_118 dX10_worked_22 ?_
  refine v_aload_n K dX10_worked_25 rfl ?_
  refine v_iload_n K dX10_worked_26 rfl ?_
  refine v_puti K pX10_72 sh_118 pl_118 dX10_worked_27 ?_
  refine v_aload_n K dX10_worked_30 rfl ?_
  obtain ⟨hX, hM, hW0⟩ := px_start hb hB hn50 hu hnm
  refine v_callV (As := []) K (c_X10_either_5 ((u2 (u2 (u2 (u2 (u2 (u2 h 118 5 (nI B)) 118 6 (nI 0)) 118 7 (nI n)) 118 8 ((-1))) 118 9 (nI 0)) 118 10 (nI u))) bt n B u nm (0, none, 0) hX hM ⟨Nat.zero_le _, rfl, rfl⟩) lX10_100 ck_X10 rfl sh_118 pl_118 rfl ⟨by decide, by decide⟩ (Nat.le_of_ble_eq_true rfl) dX10_worked_31 (fun r1 h1 hp1 => ?_) rfl
  obtain ⟨⟨v, rfl, hv⟩, hM1, hF1⟩ := hp1
  have hX1 := hX.fr hF1
  have hM1 : PM h1 n (parseE bt n u).2 := hM1
  have hat := hM1.2.1
  refine v_some ?_
  refine v_istore (lv2 := [(4, .int v), (0, .ref 118), (1, .int (nI B)), (2, .int (nI n)), (3, .int (nI u))]) K dX10_worked_34 (by decide) rfl ?_
  refine v_aload_n K dX10_worked_36 rfl ?_
  refine v_geti (x := fltI (parseE bt n u).2.2.1) K fX10_62 sh_118 pl_118 hM1.1.2.1 dX10_worked_37 ?_
  refine v_if_ge (tgt := 59) K dX10_worked_40 rfl (fun c1 => ?_) (fun c1 => ?_)
  · skip
    refine v_iload K dX10_worked_59 rfl ?_
    refine v_iret K dX10_worked_61 ?_
    have eF : faultP bt n u = (parseE bt n u).2.2.1 := if_neg (fun q => absurd c1 ((flt_neg hM1 hn50).mpr q.1))
    exact ⟨⟨_, rfl, fun q => run_val (hv (eF.symm.trans q))⟩, by rw [eF]; exact hM1.1.2.1, hW0.t hF1.W⟩
  · skip
    refine v_aload_n K dX10_worked_43 rfl ?_
    refine v_geti (x := nI ((parseE bt n u).2.1)) K fX10_55 sh_118 pl_118 hM1.1.1 dX10_worked_44 ?_
    refine v_aload_n K dX10_worked_47 rfl ?_
    refine v_geti (x := nI n) K fX10_59 sh_118 pl_118 hX1.2.1 dX10_worked_48 ?_
    refine v_icmpN_ge (tgt := 59) K (by omega) (by omega) dX10_worked_51 rfl (fun c2 => ?_) (fun c2 => ?_)
    · skip
      refine v_iload K dX10_worked_59 rfl ?_
      refine v_iret K dX10_worked_61 ?_
      have eF : faultP bt n u = (parseE bt n u).2.2.1 := if_neg (fun q => by have := q.2; omega)
      exact ⟨⟨_, rfl, fun q => run_val (hv (eF.symm.trans q))⟩, by rw [eF]; exact hM1.1.2.1, hW0.t hF1.W⟩
    · skip
      refine v_aload_n K dX10_worked_54 rfl ?_
      refine v_callV (As := []) K (c_X10_wrong h1 bt n B u nm ((parseE bt n u).2) hX1 hM1) lX10_97 ck_X10 rfl sh_118 pl_118 rfl ⟨by decide, by decide⟩ (Nat.le_of_ble_eq_true rfl) dX10_worked_55 (fun r2 h2 hp2 => ?_) rfl
      obtain ⟨rfl, hMq1, hFaq1⟩ := hp2
      have hFq1 := FrP.t hF1 hFaq1
      have hXq1 := PX.fr hX hFq1
      refine v_some ?_
      refine v_iret K dX10_worked_58 ?_
      have e1 := (flt_neg hM1 hn50).mp c1
      have eF : faultP bt n u = some (parseE bt n u).2.1 := if_pos ⟨e1, by omega⟩
      exact ⟨⟨_, rfl, fun q => absurd (eF.symm.trans q) (fun x => by cases x)⟩, by rw [eF, ← wrong_none e1]; exact hMq1.1.2.1, hW0.t hFq1.W⟩

abbrev P_X10_byText (h : Mm) (n u : Nat) (nm : Nat → Int32) : Option Value → Mm → Prop := fun r h2 => r = some (.int (evalR (parseE (bytD (h 119) (134 + 50 * u) n) n u).1 nm)) ∧ FrW h h2
theorem c_X10_byText {l : Launch} (h : Mm) (n u : Nat) (nm : Nat → Int32) (hu : u < 3) (hn50 : n ≤ 50) (hd0 : h 119 (110 + u) = nI n) (hf : faultP (bytD (h 119) (134 + 50 * u) n) n u = none) (hnm : ∀ j, j < 5 → h 123 j = nm j) : Con l yX10_byText cX10_byText 2 (some .int) 38 871 132 GL h [.ref 118, .int (nI u)] (P_X10_byText h n u nm) := by
  refine Con.ofV (own := "FoxRoundsModel") (nm := "byText") rfl rfl (by decide) (Nat.le_of_ble_eq_true rfl) ?_
  intro κ ρ hkl K
  subst hkl
  show V κ (QM κ (132, ρ, GL, 0, 0) (P_X10_byText h n u nm)) 2 (132, ρ, GL, 0, 0) h 0 [(0, .ref 118), (1, .int (nI u))] []
  refine v_aload_n K dX10_byText_0 rfl ?_
  refine v_sipushN K 134 rfl dX10_byText_1 ?_
  refine v_bipushN K 50 rfl dX10_byText_4 ?_
  refine v_iload_n K dX10_byText_6 rfl ?_
  refine v_imulN K dX10_byText_7 ?_
  refine v_iaddN K dX10_byText_8 ?_
  refine v_aload_n K dX10_byText_9 rfl ?_
  refine v_getr (q := 119) K fX10_7 sh_118 pl_118 gl_118_0 dX10_byText_10 ?_
  refine v_bipushN K 110 rfl dX10_byText_13 ?_
  refine v_iload_n K dX10_byText_15 rfl ?_
  refine v_iaddN K dX10_byText_16 ?_
  refine v_iald (x := nI n) K sh_119 pl_119 (by omega) hd0 dX10_byText_17 ?_
  refine v_iload_n K dX10_byText_18 rfl ?_
  refine v_callV (As := [.int (nI (134 + (50 * u))), .int (nI n), .int (nI u)]) K (c_X10_worked h (bytD (h 119) (134 + 50 * u) n) n (134 + 50 * u) u nm (fun i hi => by unfold bytD; rw [if_pos hi]) (by omega) hn50 hu hnm) lX10_120 ck_X10 rfl sh_118 pl_118 rfl ⟨by decide, by decide⟩ (Nat.le_of_ble_eq_true rfl) dX10_byText_19 (fun r1 h1 hp1 => ?_) rfl
  obtain ⟨⟨v, rfl, hv⟩, -, hW⟩ := hp1
  have ev := hv hf
  refine v_some ?_
  refine v_iret K dX10_byText_22 ?_
  exact ⟨some_int ev, hW⟩

abbrev P_X10_isNamed (h : Mm) (a b c : Int32) : Option Value → Mm → Prop := fun r h2 => r = none ∧ (∀ j, j < 5 → h2 123 j = nmv a b c (nI 0) (nI 0) j) ∧ FrO 123 124 h h2
theorem c_X10_isNamed {l : Launch} (h : Mm) (a b c : Int32)  : Con l yX10_isNamed cX10_isNamed 4 none 0 0 132 GL h [.ref 118, .int a, .int b, .int c] (P_X10_isNamed h a b c) := by
  refine Con.ofV (own := "FoxRoundsModel") (nm := "isNamed") rfl rfl (by decide) (Nat.le_of_ble_eq_true rfl) ?_
  intro κ ρ hkl K
  subst hkl
  show V κ (QM κ (132, ρ, GL, 0, 0) (P_X10_isNamed h a b c)) 4 (132, ρ, GL, 0, 0) h 0 [(0, .ref 118), (1, .int a), (2, .int b), (3, .int c)] []
  refine v_aload_n K dX10_isNamed_0 rfl ?_
  refine v_getr (q := 123) K fX10_22 sh_118 pl_118 gl_118_11 dX10_isNamed_1 ?_
  refine v_iconstN K 0 rfl dX10_isNamed_4 ?_
  refine v_iload_n K dX10_isNamed_5 rfl ?_
  refine v_iast K sh_123 pl_123 (by omega) dX10_isNamed_6 ?_
  refine v_aload_n K dX10_isNamed_7 rfl ?_
  refine v_getr (q := 123) K fX10_22 sh_118 pl_118 gl_118_11 dX10_isNamed_8 ?_
  refine v_iconstN K 1 rfl dX10_isNamed_11 ?_
  refine v_iload_n K dX10_isNamed_12 rfl ?_
  refine v_iast K sh_123 pl_123 (by omega) dX10_isNamed_13 ?_
  refine v_aload_n K dX10_isNamed_14 rfl ?_
  refine v_getr (q := 123) K fX10_22 sh_118 pl_118 gl_118_11 dX10_isNamed_15 ?_
  refine v_iconstN K 2 rfl dX10_isNamed_18 ?_
  refine v_iload_n K dX10_isNamed_19 rfl ?_
  refine v_iast K sh_123 pl_123 (by omega) dX10_isNamed_20 ?_
  refine v_aload_n K dX10_isNamed_21 rfl ?_
  refine v_getr (q := 123) K fX10_22 sh_118 pl_118 gl_118_11 dX10_isNamed_22 ?_
  refine v_iconstN K 3 rfl dX10_isNamed_25 ?_
  refine v_iconstN K 0 rfl dX10_isNamed_26 ?_
  refine v_iast K sh_123 pl_123 (by omega) dX10_isNamed_27 ?_
  refine v_aload_n K dX10_isNamed_28 rfl ?_
  refine v_getr (q := 123) K fX10_22 sh_118 pl_118 gl_118_11 dX10_isNamed_29 ?_
  refine v_iconstN K 4 rfl dX10_isNamed_32 ?_
  refine v_iconstN K 0 rfl dX10_isNamed_33 ?_
  refine v_iast K sh_123 pl_123 (by omega) dX10_isNamed_34 ?_
  refine v_vret K dX10_isNamed_35 ?_
  refine ⟨rfl, fun j hj => ?_, ((((FrO.r.u (by omega) (by omega)).u (by omega) (by omega)).u (by omega) (by omega)).u (by omega) (by omega)).u (by omega) (by omega)⟩
  obtain rfl | rfl | rfl | rfl | rfl : j = 0 ∨ j = 1 ∨ j = 2 ∨ j = 3 ∨ j = 4 := by omega
  all_goals rfl

theorem TXD.two {d : Dm} {τ : Nat → List Int32} {u : Nat} (H : TXD d τ) (hu : u < 3) : (d (110 + u) = nI 0 ∧ τ u = firstR u) ∨ (¬ d (110 + u) ≤ 0 ∧ ¬ d (110 + u) = 0 ∧ ∃ n, n ≤ 50 ∧ d (110 + u) = nI n ∧ faultP (bytD d (134 + 50 * u) n) n u = none ∧ τ u = (parseE (bytD d (134 + 50 * u) n) n u).1) := by
  rcases H u hu with h | ⟨n, h0, hn, h1, h2, h3⟩
  · exact Or.inl h
  · refine Or.inr ⟨?_, ?_, n, hn, h1, h2, h3⟩
    · rw [h1, i32_le, nI_toInt (by omega), Int32.toInt_zero]; omega
    · rw [h1, i32_eq, nI_toInt (by omega), Int32.toInt_zero]; omega
theorem kills_eq {v a : Int32} : (if v < 0 ∨ a < 0 then nI 0 else if a < v then a else v) = heldX v (nI 0) a := by
  unfold heldX
  by_cases h1 : v < 0
  · rw [if_pos (Or.inl h1)]
    have h1' : v < nI 0 := h1
    by_cases h2 : a < v
    · rw [if_pos h2, if_neg (fun q => ?_)]
      simp only [i32_lt] at *; omega
    · rw [if_neg h2, if_neg (fun q => ?_)]
      simp only [i32_lt] at *; omega
  · by_cases h2 : a < 0
    · rw [if_pos (Or.inr h2)]
      have h2' : a < nI 0 := h2
      by_cases h3 : a < v
      · rw [if_pos h3, if_neg (fun q => ?_)]
        simp only [i32_lt] at *; omega
      · exact absurd h1 (fun q => h3 (by simp only [i32_lt] at *; omega))
    · rw [if_neg (fun q => q.elim h1 h2)]
      by_cases h3 : a < v
      · rw [if_pos h3]
        by_cases h4 : nI 0 < a
        · rw [if_pos h4]
        · rw [if_neg h4]
          have e0 : (nI 0).toInt = 0 := rfl
          have e1 : (0 : Int32).toInt = 0 := rfl
          exact i32_eq.mpr (by simp only [i32_lt] at *; omega)
      · rw [if_neg h3]
        by_cases h4 : nI 0 < v
        · rw [if_pos h4]
        · rw [if_neg h4]
          have e0 : (nI 0).toInt = 0 := rfl
          have e1 : (0 : Int32).toInt = 0 := rfl
          exact i32_eq.mpr (by simp only [i32_lt] at *; omega)
theorem b3 {p : Prop} (h : p) : b2i p * nI 3 = nI 3 := by rw [b2i_t h]; rfl
theorem b0 {p : Prop} (h : ¬ p) : b2i p * nI 3 = nI 0 := by rw [b2i_f h]; rfl

abbrev P_X10_killsOf (h : Mm) (τ : Nat → List Int32) (a b c : Int32) : Option Value → Mm → Prop := fun r h2 => r = some (.int (killsE τ a b c)) ∧ FrX h h2
theorem c_X10_killsOf {l : Launch} (h : Mm) (τ : Nat → List Int32) (a b c : Int32) (hT : TXD (h 119) τ) : Con l yX10_killsOf cX10_killsOf 5 (some .int) 39 892 132 GL h [.ref 118, .int a, .int b, .int c] (P_X10_killsOf h τ a b c) := by
  refine Con.ofV (own := "FoxRoundsModel") (nm := "killsOf") rfl rfl (by decide) (Nat.le_of_ble_eq_true rfl) ?_
  intro κ ρ hkl K
  subst hkl
  show V κ (QM κ (132, ρ, GL, 0, 0) (P_X10_killsOf h τ a b c)) 5 (132, ρ, GL, 0, 0) h 0 [(0, .ref 118), (1, .int a), (2, .int b), (3, .int c)] []
  have L41 : ∀ (v : Int32) (h1 : Mm) (hvv : evalR (τ 1) (nmv a b c (nI 0) (nI 0)) = v) (hF : FrX h h1), V κ (QM κ (132, ρ, GL, 0, 0) (P_X10_killsOf h τ a b c)) 5 (132, ρ, GL, 0, 0) h1 41 [(0, .ref 118), (1, .int a), (2, .int b), (3, .int c), (4, .int v)] [] := by
    intro v h1 hvv hF
    refine v_iload K dX10_killsOf_41 rfl ?_
    refine v_if_lt (tgt := 50) K dX10_killsOf_43 rfl (fun c1 => ?_) (fun c1 => ?_)
    · skip
      refine v_iconstN K 0 rfl dX10_killsOf_50 ?_
      refine v_goto (tgt := 66) K dX10_killsOf_51 rfl ?_
      refine v_iret K dX10_killsOf_66 ?_
      exact ⟨some_int ((if_pos (Or.inl c1)).symm.trans (kills_eq.trans (by unfold killsE; rw [hvv]))), hF⟩
    · skip
      refine v_iload_n K dX10_killsOf_46 rfl ?_
      refine v_if_ge (tgt := 54) K dX10_killsOf_47 rfl (fun c2 => ?_) (fun c2 => ?_)
      · skip
        refine v_iload K dX10_killsOf_54 rfl ?_
        refine v_iload_n K dX10_killsOf_56 rfl ?_
        refine v_icmp_le (tgt := 64) K dX10_killsOf_57 rfl (fun c3 => ?_) (fun c3 => ?_)
        · skip
          refine v_iload K dX10_killsOf_64 rfl ?_
          refine v_iret K dX10_killsOf_66 ?_
          exact ⟨some_int (((if_neg (fun q => q.elim c1 (Int32.not_lt.mpr c2))).trans (if_neg (Int32.not_lt.mpr c3))).symm.trans (kills_eq.trans (by unfold killsE; rw [hvv]))), hF⟩
        · skip
          refine v_iload_n K dX10_killsOf_60 rfl ?_
          refine v_goto (tgt := 66) K dX10_killsOf_61 rfl ?_
          refine v_iret K dX10_killsOf_66 ?_
          exact ⟨some_int (((if_neg (fun q => q.elim c1 (Int32.not_lt.mpr c2))).trans (if_pos (Int32.not_le.mp c3))).symm.trans (kills_eq.trans (by unfold killsE; rw [hvv]))), hF⟩
      · skip
        refine v_iconstN K 0 rfl dX10_killsOf_50 ?_
        refine v_goto (tgt := 66) K dX10_killsOf_51 rfl ?_
        refine v_iret K dX10_killsOf_66 ?_
        exact ⟨some_int ((if_pos (Or.inr (Int32.not_le.mp c2))).symm.trans (kills_eq.trans (by unfold killsE; rw [hvv]))), hF⟩
  have L14 : ∀ (x : Int32) (hx : x = b2i (nI 50 < c) * nI 3), V κ (QM κ (132, ρ, GL, 0, 0) (P_X10_killsOf h τ a b c)) 5 (132, ρ, GL, 0, 0) h 14 [(0, .ref 118), (1, .int a), (2, .int b), (3, .int c)] [.int x, .int (b * nI 3)] := by
    intro x hx
    refine v_iadd K dX10_killsOf_14 ?_
    refine v_nm (fun x1 e_x1 => ?_)
    refine v_istore (lv2 := [(4, .int x1), (0, .ref 118), (1, .int a), (2, .int b), (3, .int c)]) K dX10_killsOf_15 (by decide) rfl ?_
    refine v_aload_n K dX10_killsOf_17 rfl ?_
    refine v_getr (q := 119) K fX10_7 sh_118 pl_118 gl_118_0 dX10_killsOf_18 ?_
    refine v_bipushN K 111 rfl dX10_killsOf_21 ?_
    refine v_iald (x := h 119 111) K sh_119 pl_119 (by omega) rfl dX10_killsOf_23 ?_
    refine v_if_le (tgt := 41) K dX10_killsOf_24 rfl (fun c4 => ?_) (fun c4 => ?_)
    · skip
      have hτ1 : τ 1 = firstR 1 := by
        rcases hT.two (u := 1) (by omega) with ⟨_, q⟩ | ⟨q1, q2, _⟩
        · exact q
        · exact absurd c4 q1
      refine v_sub (lv2 := [(0, .ref 118), (1, .int a), (2, .int b), (3, .int c), (4, .int x1)]) (by simp) ?_
      exact L41 x1 h (by rw [hτ1, first_1, e_x1, hx]; rfl) (by exact (FrX.r (h := h)))
    · skip
      obtain ⟨n, hn50, hd0, hf, hτu⟩ : ∃ n, n ≤ 50 ∧ h 119 (110 + 1) = nI n ∧ faultP (bytD (h 119) (134 + 50 * 1) n) n 1 = none ∧ τ 1 = (parseE (bytD (h 119) (134 + 50 * 1) n) n 1).1 := by
        rcases hT.two (u := 1) (by omega) with ⟨q, _⟩ | ⟨_, _, q⟩
        · exact absurd q (fun e => c4 (by rw [e]; decide))
        · exact q
      refine v_aload_n K dX10_killsOf_27 rfl ?_
      refine v_iload_n K dX10_killsOf_28 rfl ?_
      refine v_iload_n K dX10_killsOf_29 rfl ?_
      refine v_iload_n K dX10_killsOf_30 rfl ?_
      refine v_callV (As := [.int a, .int b, .int c]) K (c_X10_isNamed h a b c) lX10_124 ck_X10 rfl sh_118 pl_118 rfl ⟨by decide, by decide⟩ (Nat.le_of_ble_eq_true rfl) dX10_killsOf_31 (fun r1 h1 hp1 => ?_) rfl
      obtain ⟨rfl, hNq1, hOq1⟩ := hp1
      have hGq1 := (FrX.r (h := h)).t hOq1.X
      refine v_none ?_
      refine v_aload_n K dX10_killsOf_34 rfl ?_
      refine v_iconstN K 1 rfl dX10_killsOf_35 ?_
      have e119q2 : h1 119 = h 119 := hGq1.1 119 (by omega) (by omega)
      have hevq2 : evalR (parseE (bytD (h1 119) (134 + 50 * 1) n) n 1).1 (nmv a b c (nI 0) (nI 0)) = evalR (τ 1) (nmv a b c (nI 0) (nI 0)) := by rw [e119q2, hτu]
      refine v_callV (As := [.int (nI 1)]) K (c_X10_byText h1 n 1 (nmv a b c (nI 0) (nI 0)) (by omega) hn50 (by rw [e119q2]; exact hd0) (by rw [e119q2]; exact hf) hNq1) lX10_128 ck_X10 rfl sh_118 pl_118 rfl ⟨by decide, by decide⟩ (Nat.le_of_ble_eq_true rfl) dX10_killsOf_36 (fun r2 h2 hp2 => ?_) rfl
      obtain ⟨rfl, hWq2⟩ := hp2
      have hGq2 := hGq1.t hWq2.X
      refine v_some ?_
      rw [hevq2]
      refine v_nm (fun x2 e_x2 => ?_)
      refine v_istore (lv2 := [(4, .int x2), (0, .ref 118), (1, .int a), (2, .int b), (3, .int c)]) K dX10_killsOf_39 (by decide) rfl ?_
      refine v_sub (lv2 := [(0, .ref 118), (1, .int a), (2, .int b), (3, .int c), (4, .int x2)]) (by simp) ?_
      exact L41 x2 h2 (by exact (e_x2).symm) (by exact hGq2)
  refine v_iload_n K dX10_killsOf_0 rfl ?_
  refine v_iconstN K 3 rfl dX10_killsOf_1 ?_
  refine v_imul K dX10_killsOf_2 ?_
  refine v_iload_n K dX10_killsOf_3 rfl ?_
  refine v_bipushN K 50 rfl dX10_killsOf_4 ?_
  refine v_icmp_le (tgt := 13) K dX10_killsOf_6 rfl (fun c5 => ?_) (fun c5 => ?_)
  · skip
    refine v_iconstN K 0 rfl dX10_killsOf_13 ?_
    refine v_sub (lv2 := [(0, .ref 118), (1, .int a), (2, .int b), (3, .int c)]) (by simp) ?_
    exact L14 (nI 0) (by exact (b0 (Int32.not_lt.mpr c5)).symm)
  · skip
    refine v_iconstN K 3 rfl dX10_killsOf_9 ?_
    refine v_goto (tgt := 14) K dX10_killsOf_10 rfl ?_
    refine v_sub (lv2 := [(0, .ref 118), (1, .int a), (2, .int b), (3, .int c)]) (by simp) ?_
    exact L14 (nI 3) (by exact (b3 (Int32.not_le.mp c5)).symm)

abbrev P_X10_staysOf (h : Mm) (τ : Nat → List Int32) (a t : Int32) : Option Value → Mm → Prop := fun r h2 => r = some (.int (staysE τ a t)) ∧ FrX h h2
theorem c_X10_staysOf {l : Launch} (h : Mm) (τ : Nat → List Int32) (a t : Int32) (hT : TXD (h 119) τ) : Con l yX10_staysOf cX10_staysOf 4 (some .int) 39 892 132 GL h [.ref 118, .int a, .int t] (P_X10_staysOf h τ a t) := by
  refine Con.ofV (own := "FoxRoundsModel") (nm := "staysOf") rfl rfl (by decide) (Nat.le_of_ble_eq_true rfl) ?_
  intro κ ρ hkl K
  subst hkl
  show V κ (QM κ (132, ρ, GL, 0, 0) (P_X10_staysOf h τ a t)) 4 (132, ρ, GL, 0, 0) h 0 [(0, .ref 118), (1, .int a), (2, .int t)] []
  have L30 : ∀ (v : Int32) (h1 : Mm) (hvv : evalR (τ 2) (nmv a t (nI 0) (nI 0) (nI 0)) = v) (hF : FrX h h1), V κ (QM κ (132, ρ, GL, 0, 0) (P_X10_staysOf h τ a t)) 4 (132, ρ, GL, 0, 0) h1 30 [(0, .ref 118), (1, .int a), (2, .int t), (3, .int v)] [] := by
    intro v h1 hvv hF
    refine v_iload_n K dX10_staysOf_30 rfl ?_
    refine v_iconstN K 0 rfl dX10_staysOf_31 ?_
    refine v_bipushN K 99 rfl dX10_staysOf_32 ?_
    refine v_callS (As := [.int v, .int (nI 0), .int (nI 99)]) K (c_X10_held h1 v (nI 0) (nI 99)) lX10_131 rfl ⟨by decide, by decide⟩ (Nat.le_of_ble_eq_true rfl) dX10_staysOf_34 (fun r1 h1 hp1 => ?_) rfl
    obtain ⟨rfl, rfl⟩ := hp1
    refine v_some ?_
    refine v_iret K dX10_staysOf_37 ?_
    exact ⟨some_int (by unfold staysE; rw [hvv]; exact (heldX_eq (by decide)).symm), hF⟩
  refine v_iload_n K dX10_staysOf_0 rfl ?_
  refine v_iload_n K dX10_staysOf_1 rfl ?_
  refine v_bipushN K 30 rfl dX10_staysOf_2 ?_
  refine v_idiv K dX10_staysOf_4 (by decide) ?_
  refine v_isub K dX10_staysOf_5 ?_
  refine v_nm (fun x1 e_x1 => ?_)
  refine v_istore_n (lv2 := [(3, .int x1), (0, .ref 118), (1, .int a), (2, .int t)]) K dX10_staysOf_6 (by decide) rfl ?_
  refine v_aload_n K dX10_staysOf_7 rfl ?_
  refine v_getr (q := 119) K fX10_7 sh_118 pl_118 gl_118_0 dX10_staysOf_8 ?_
  refine v_bipushN K 112 rfl dX10_staysOf_11 ?_
  refine v_iald (x := h 119 112) K sh_119 pl_119 (by omega) rfl dX10_staysOf_13 ?_
  refine v_if_le (tgt := 30) K dX10_staysOf_14 rfl (fun c1 => ?_) (fun c1 => ?_)
  · skip
    have hτ1 : τ 2 = firstR 2 := by
      rcases hT.two (u := 2) (by omega) with ⟨_, q⟩ | ⟨q1, q2, _⟩
      · exact q
      · exact absurd c1 q1
    refine v_sub (lv2 := [(0, .ref 118), (1, .int a), (2, .int t), (3, .int x1)]) (by simp) ?_
    exact L30 x1 h (by rw [hτ1, first_2, e_x1]; rfl) (by exact (FrX.r (h := h)))
  · skip
    obtain ⟨n, hn50, hd0, hf, hτu⟩ : ∃ n, n ≤ 50 ∧ h 119 (110 + 2) = nI n ∧ faultP (bytD (h 119) (134 + 50 * 2) n) n 2 = none ∧ τ 2 = (parseE (bytD (h 119) (134 + 50 * 2) n) n 2).1 := by
      rcases hT.two (u := 2) (by omega) with ⟨q, _⟩ | ⟨_, _, q⟩
      · exact absurd q (fun e => c1 (by rw [e]; decide))
      · exact q
    refine v_aload_n K dX10_staysOf_17 rfl ?_
    refine v_iload_n K dX10_staysOf_18 rfl ?_
    refine v_iload_n K dX10_staysOf_19 rfl ?_
    refine v_iconstN K 0 rfl dX10_staysOf_20 ?_
    refine v_callV (As := [.int a, .int t, .int (nI 0)]) K (c_X10_isNamed h a t (nI 0)) lX10_124 ck_X10 rfl sh_118 pl_118 rfl ⟨by decide, by decide⟩ (Nat.le_of_ble_eq_true rfl) dX10_staysOf_21 (fun r2 h2 hp2 => ?_) rfl
    obtain ⟨rfl, hNq1, hOq1⟩ := hp2
    have hGq1 := (FrX.r (h := h)).t hOq1.X
    refine v_none ?_
    refine v_aload_n K dX10_staysOf_24 rfl ?_
    refine v_iconstN K 2 rfl dX10_staysOf_25 ?_
    have e119q2 : h2 119 = h 119 := hGq1.1 119 (by omega) (by omega)
    have hevq2 : evalR (parseE (bytD (h2 119) (134 + 50 * 2) n) n 2).1 (nmv a t (nI 0) (nI 0) (nI 0)) = evalR (τ 2) (nmv a t (nI 0) (nI 0) (nI 0)) := by rw [e119q2, hτu]
    refine v_callV (As := [.int (nI 2)]) K (c_X10_byText h2 n 2 (nmv a t (nI 0) (nI 0) (nI 0)) (by omega) hn50 (by rw [e119q2]; exact hd0) (by rw [e119q2]; exact hf) hNq1) lX10_128 ck_X10 rfl sh_118 pl_118 rfl ⟨by decide, by decide⟩ (Nat.le_of_ble_eq_true rfl) dX10_staysOf_26 (fun r3 h3 hp3 => ?_) rfl
    obtain ⟨rfl, hWq2⟩ := hp3
    have hGq2 := hGq1.t hWq2.X
    refine v_some ?_
    rw [hevq2]
    refine v_nm (fun x2 e_x2 => ?_)
    refine v_istore_n (lv2 := [(3, .int x2), (0, .ref 118), (1, .int a), (2, .int t)]) K dX10_staysOf_29 (by decide) rfl ?_
    refine v_sub (lv2 := [(0, .ref 118), (1, .int a), (2, .int t), (3, .int x2)]) (by simp) ?_
    exact L30 x2 h3 (by exact (e_x2).symm) (by exact hGq2)

theorem nm_set3 {h : Mm} {a b c x : Int32} (H : ∀ j, j < 5 → h 123 j = nmv a b c (nI 0) (nI 0) j) : ∀ j, j < 5 → u2 h 123 3 x 123 j = nmv a b c x (nI 0) j := by
  intro j hj
  by_cases e : j = 3
  · subst e; exact u2_at
  · rw [u2_ne (Or.inr e), H j hj]
    obtain rfl | rfl | rfl | rfl : j = 0 ∨ j = 1 ∨ j = 2 ∨ j = 4 := by omega
    all_goals rfl
theorem nm_set4 {h : Mm} {a b c e x : Int32} (H : ∀ j, j < 5 → h 123 j = nmv a b c e (nI 0) j) : ∀ j, j < 5 → u2 h 123 4 x 123 j = nmv a b c e x j := by
  intro j hj
  by_cases e : j = 4
  · subst e; exact u2_at
  · rw [u2_ne (Or.inr e), H j hj]
    obtain rfl | rfl | rfl | rfl : j = 0 ∨ j = 1 ∨ j = 2 ∨ j = 3 := by omega
    all_goals rfl
theorem mP.ne {P : Nat} (h : mP P) : P ≠ 118 ∧ P ≠ 123 := by rcases h with rfl | rfl | rfl <;> omega

abbrev P_X10_enters (h : Mm) (τ : Nat → List Int32) (P w : Nat) (ee bb : Int32) : Option Value → Mm → Prop := fun r h2 => r = some (.int (b2i (¬ entersE τ ee bb (h P (46 + 6 * w + 5)) (h P (46 + 6 * w + 4)) (h P 8) = 0))) ∧ FrX h h2
theorem c_X10_enters {l : Launch} (h : Mm) (τ : Nat → List Int32) (P w : Nat) (ee bb : Int32) (hT : TXD (h 119) τ) (hm : mP P) (hw : w < 8) : Con l yX10_enters cX10_enters 5 (some .boolean) 39 892 132 GL h [.ref 118, .ref P, .int (nI w), .int ee, .int bb] (P_X10_enters h τ P w ee bb) := by
  refine Con.ofV (own := "FoxRoundsModel") (nm := "enters") rfl rfl (by decide) (Nat.le_of_ble_eq_true rfl) ?_
  intro κ ρ hkl K
  subst hkl
  show V κ (QM κ (132, ρ, GL, 0, 0) (P_X10_enters h τ P w ee bb)) 5 (132, ρ, GL, 0, 0) h 0 [(0, .ref 118), (1, .ref P), (2, .int (nI w)), (3, .int ee), (4, .int bb)] []
  have hP := hm.ne
  refine v_aload_n K dX10_enters_0 rfl ?_
  refine v_getr (q := 119) K fX10_7 sh_118 pl_118 gl_118_0 dX10_enters_1 ?_
  refine v_bipushN K 110 rfl dX10_enters_4 ?_
  refine v_iald (x := h 119 110) K sh_119 pl_119 (by omega) rfl dX10_enters_6 ?_
  refine v_if_ne (tgt := 25) K dX10_enters_7 rfl (fun c1 => ?_) (fun c1 => ?_)
  · skip
    obtain ⟨n, hn50, hd0, hf, hτu⟩ : ∃ n, n ≤ 50 ∧ h 119 (110 + 0) = nI n ∧ faultP (bytD (h 119) (134 + 50 * 0) n) n 0 = none ∧ τ 0 = (parseE (bytD (h 119) (134 + 50 * 0) n) n 0).1 := by
      rcases hT.two (u := 0) (by omega) with ⟨q, _⟩ | ⟨_, _, q⟩
      · exact absurd q (fun e => c1 (by rw [e]; decide))
      · exact q
    refine v_aload_n K dX10_enters_25 rfl ?_
    refine v_iload_n K dX10_enters_26 rfl ?_
    refine v_iload K dX10_enters_27 rfl ?_
    refine v_aload_n K dX10_enters_29 rfl ?_
    refine v_iload_n K dX10_enters_30 rfl ?_
    refine v_iconstN K 5 rfl dX10_enters_31 ?_
    refine v_callS (As := [.ref P, .int (nI w), .int (nI 5)]) K (c_X10_of h P w 5 hm (by omega)) lX10_170 rfl ⟨by decide, by decide⟩ (Nat.le_of_ble_eq_true rfl) dX10_enters_32 (fun r1 h1 hp1 => ?_) rfl
    obtain ⟨rfl, rfl⟩ := hp1
    refine v_some ?_
    refine v_callV (As := [.int ee, .int bb, .int (h P (46 + 6 * w + 5))]) K (c_X10_isNamed h ee bb (h P (46 + 6 * w + 5))) lX10_124 ck_X10 rfl sh_118 pl_118 rfl ⟨by decide, by decide⟩ (Nat.le_of_ble_eq_true rfl) dX10_enters_35 (fun r2 h2 hp2 => ?_) rfl
    obtain ⟨rfl, hNq1, hOq1⟩ := hp2
    have hGq1 := (FrX.r (h := h)).t hOq1.X
    have hPy1 : h2 P = h P := hGq1.1 P hP.1 hP.2
    refine v_none ?_
    refine v_aload_n K dX10_enters_38 rfl ?_
    refine v_getr (q := 123) K fX10_22 sh_118 pl_118 gl_118_11 dX10_enters_39 ?_
    refine v_iconstN K 3 rfl dX10_enters_42 ?_
    refine v_aload_n K dX10_enters_43 rfl ?_
    refine v_iload_n K dX10_enters_44 rfl ?_
    refine v_iconstN K 4 rfl dX10_enters_45 ?_
    refine v_callS (As := [.ref P, .int (nI w), .int (nI 4)]) K (c_X10_of h2 P w 4 hm (by omega)) lX10_170 rfl ⟨by decide, by decide⟩ (Nat.le_of_ble_eq_true rfl) dX10_enters_46 (fun r3 h3 hp3 => ?_) rfl
    obtain ⟨rfl, rfl⟩ := hp3
    refine v_some ?_
    rw [congrFun hPy1 (46 + 6 * w + 4)]
    refine v_iast K sh_123 pl_123 (by omega) dX10_enters_49 ?_
    have hGz1 := hGq1.nm (k := 3) (v := (h P (46 + 6 * w + 4)))
    have hPz1 : (u2 h2 123 3 (h P (46 + 6 * w + 4))) P = h P := hGz1.1 P hP.1 hP.2
    have hNz1 : ∀ j, j < 5 → (u2 h2 123 3 (h P (46 + 6 * w + 4))) 123 j = nmv ee bb (h P (46 + 6 * w + 5)) (h P (46 + 6 * w + 4)) (nI 0) j := nm_set3 hNq1
    refine v_aload_n K dX10_enters_50 rfl ?_
    refine v_getr (q := 123) K fX10_22 sh_118 pl_118 gl_118_11 dX10_enters_51 ?_
    refine v_iconstN K 4 rfl dX10_enters_54 ?_
    refine v_aload_n K dX10_enters_55 rfl ?_
    refine v_bipushN K 8 rfl dX10_enters_56 ?_
    refine v_iald (x := h P 8) K hm.s hm.l (by omega) (congrFun hPz1 _) dX10_enters_58 ?_
    refine v_iast K sh_123 pl_123 (by omega) dX10_enters_59 ?_
    have hGz2 := hGz1.nm (k := 4) (v := (h P 8))
    have hPz2 : (u2 (u2 h2 123 3 (h P (46 + 6 * w + 4))) 123 4 (h P 8)) P = h P := hGz2.1 P hP.1 hP.2
    have hNz2 : ∀ j, j < 5 → (u2 (u2 h2 123 3 (h P (46 + 6 * w + 4))) 123 4 (h P 8)) 123 j = nmv ee bb (h P (46 + 6 * w + 5)) (h P (46 + 6 * w + 4)) (h P 8) j := nm_set4 hNz1
    refine v_aload_n K dX10_enters_60 rfl ?_
    refine v_iconstN K 0 rfl dX10_enters_61 ?_
    have e119q2 : ((u2 (u2 h2 123 3 (h P (46 + 6 * w + 4))) 123 4 (h P 8))) 119 = h 119 := hGz2.1 119 (by omega) (by omega)
    have hevq2 : evalR (parseE (bytD (((u2 (u2 h2 123 3 (h P (46 + 6 * w + 4))) 123 4 (h P 8))) 119) (134 + 50 * 0) n) n 0).1 (nmv ee bb (h P (46 + 6 * w + 5)) (h P (46 + 6 * w + 4)) (h P 8)) = evalR (τ 0) (nmv ee bb (h P (46 + 6 * w + 5)) (h P (46 + 6 * w + 4)) (h P 8)) := by rw [e119q2, hτu]
    refine v_callV (As := [.int (nI 0)]) K (c_X10_byText ((u2 (u2 h2 123 3 (h P (46 + 6 * w + 4))) 123 4 (h P 8))) n 0 (nmv ee bb (h P (46 + 6 * w + 5)) (h P (46 + 6 * w + 4)) (h P 8)) (by omega) hn50 (by rw [e119q2]; exact hd0) (by rw [e119q2]; exact hf) hNz2) lX10_128 ck_X10 rfl sh_118 pl_118 rfl ⟨by decide, by decide⟩ (Nat.le_of_ble_eq_true rfl) dX10_enters_62 (fun r4 h4 hp4 => ?_) rfl
    obtain ⟨rfl, hWq2⟩ := hp4
    have hGq2 := hGz2.t hWq2.X
    refine v_some ?_
    rw [hevq2]
    refine v_if_eq (tgt := 72) K dX10_enters_65 rfl (fun c2 => ?_) (fun c2 => ?_)
    · skip
      refine v_iconstN K 0 rfl dX10_enters_72 ?_
      refine v_zret K dX10_enters_73 (by decide) ?_
      exact ⟨some_int ((b2i_f (fun q => q (show evalR _ _ = 0 from c2))).symm), hGq2⟩
    · skip
      refine v_iconstN K 1 rfl dX10_enters_68 ?_
      refine v_goto (tgt := 73) K dX10_enters_69 rfl ?_
      refine v_zret K dX10_enters_73 (by decide) ?_
      exact ⟨some_int ((b2i_t (show ¬ evalR _ _ = 0 from c2)).symm), hGq2⟩
  · skip
    have hτ1 : τ 0 = firstR 0 := by
      rcases hT.two (u := 0) (by omega) with ⟨_, q⟩ | ⟨q1, q2, _⟩
      · exact q
      · exact absurd c1 q2
    refine v_iload_n K dX10_enters_10 rfl ?_
    refine v_iload K dX10_enters_11 rfl ?_
    refine v_iadd K dX10_enters_13 ?_
    refine v_bipushN K 99 rfl dX10_enters_14 ?_
    refine v_icmp_le (tgt := 23) K dX10_enters_16 rfl (fun c3 => ?_) (fun c3 => ?_)
    · skip
      refine v_iconstN K 0 rfl dX10_enters_23 ?_
      refine v_zret K dX10_enters_24 (by decide) ?_
      have e2 : entersE τ ee bb (h P (46 + 6 * w + 5)) (h P (46 + 6 * w + 4)) (h P 8) = nI 0 := by unfold entersE; rw [hτ1, first_0]; exact b2i_f (Int32.not_lt.mpr c3)
      exact ⟨some_int ((b2i_f (by rw [e2]; decide)).symm), (FrX.r (h := h))⟩
    · skip
      refine v_iconstN K 1 rfl dX10_enters_19 ?_
      refine v_goto (tgt := 24) K dX10_enters_20 rfl ?_
      refine v_zret K dX10_enters_24 (by decide) ?_
      have e2 : entersE τ ee bb (h P (46 + 6 * w + 5)) (h P (46 + 6 * w + 4)) (h P 8) = nI 1 := by unfold entersE; rw [hτ1, first_0]; exact b2i_t (Int32.not_le.mp c3)
      exact ⟨some_int ((b2i_t (by rw [e2]; decide)).symm), (FrX.r (h := h))⟩
