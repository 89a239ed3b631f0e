/-! what would be: the class's Ahead at 77, its house at 78 -/
def FrA (h h2 : Mm) : Prop := ∀ a, ¬ (a = 30 ∨ a = 23 ∨ a = 26 ∨ a = 29 ∨ (77 ≤ a ∧ a ≤ 98)) → h2 a = h a
theorem FrA.r {h : Mm} : FrA h h := fun _ _ => rfl
theorem FrA.t {h h1 h2 : Mm} (H : FrA h h1) (H2 : FrA h1 h2) : FrA h h2 := fun a q => (H2 a q).trans (H a q)
theorem FrN.A {h h2 : Mm} (H : FrN 78 h h2) : FrA h h2 := fun a q => H a (by omega) (by omega) (by omega) (by omega) (by omega)
theorem FrO.A {lo hi : Nat} {h h2 : Mm} (H : FrO lo hi h h2) (h1 : 77 ≤ lo) (h2' : hi ≤ 99) : FrA h h2 := fun a q => H a (by omega)
theorem FrA.S {h h2 : Mm} (H : FrA h h2) : FrS h h2 := ⟨fun a q => by unfold scrA at q; exact H a (by omega), fun k _ => by rw [H 2 (by omega)]⟩
theorem FrA.u {h h1 : Mm} {a k : Nat} {v : Int32} (H : FrA h h1) (h1' : 77 ≤ a) (h2' : a ≤ 98) : FrA h (u2 h1 a k v) := fun x q => (u2_off (by omega)).trans (H x q)
theorem FrA.w {h h1 : Mm} {a : Nat} {f : Nat → Int32} (H : FrA h h1) (h1' : 77 ≤ a) (h2' : a ≤ 98) : FrA h (rw2 h1 a f) := fun x q => (rw2_off (by omega)).trans (H x q)
/-- the house and the laws as they are; what Ahead needs -/
def AX (h0 h : Mm) (d : Dm) (τ : Nat → List Int32) : Prop := RH 2 h d ∧ LX 20 h τ ∧ FrN 78 h0 h
def AY (h0 h : Mm) (d : Dm) (τ : Nat → List Int32) : Prop := RH 2 h d ∧ LX 20 h τ ∧ FrA h0 h
theorem ay_ll {h h2 : Mm} {d : Dm} {τ : Nat → List Int32} (h1 : RH 2 h d) (h3 : LX 20 h τ) (F : FrA h h2) : RH 2 h2 d ∧ LX 20 h2 τ :=
  ⟨h1.far (fun a q1 q2 => F a (by omega)), h3.1.far (by rw [F 21 (by omega)]) (F 22 (by omega)), h3.2.1.far (by rw [F 24 (by omega)]) (F 25 (by omega)), h3.2.2.far (by rw [F 27 (by omega)]) (F 28 (by omega))⟩
theorem AX.a {h0 h h2 : Mm} {d : Dm} {τ : Nat → List Int32} (H : AX h0 h d τ) (F : FrN 78 h h2) : AX h0 h2 d τ := ⟨(ay_ll H.1 H.2.1 F.A).1, (ay_ll H.1 H.2.1 F.A).2, H.2.2.t F⟩
theorem AY.a {h0 h h2 : Mm} {d : Dm} {τ : Nat → List Int32} (H : AY h0 h d τ) (F : FrA h h2) : AY h0 h2 d τ := ⟨(ay_ll H.1 H.2.1 F).1, (ay_ll H.1 H.2.1 F).2, H.2.2.t F⟩
theorem AY.u {h0 h : Mm} {d : Dm} {τ : Nat → List Int32} {a k : Nat} {v : Int32} (H : AY h0 h d τ) (h1 : 77 ≤ a) (h2 : a ≤ 98) : AY h0 (u2 h a k v) d τ := H.a (FrA.r.u h1 h2)
theorem AY.w {h0 h : Mm} {d : Dm} {τ : Nat → List Int32} {a : Nat} {f : Nat → Int32} (H : AY h0 h d τ) (h1 : 77 ≤ a) (h2 : a ≤ 98) : AY h0 (rw2 h a f) d τ := H.a (FrA.r.w h1 h2)
theorem AX.mk2 {h : Mm} {d : Dm} {τ : Nat → List Int32} (h1 : RH 2 h d) (h2 : LX 20 h τ) : AX h h d τ := ⟨h1, h2, FrN.r⟩
theorem AY.mk2 {h : Mm} {d : Dm} {τ : Nat → List Int32} (h1 : RH 2 h d) (h2 : LX 20 h τ) : AY h h d τ := ⟨h1, h2, FrA.r⟩
theorem RH.A78 {h h2 : Mm} {dd : Dm} (H : RH 78 h dd) (F : FrO 96 99 h h2) : RH 78 h2 dd := H.far (fun a q1 q2 => F a (by omega))
theorem RH.B78 {h : Mm} {dd : Dm} {k : Nat} {v : Int32} (H : RH 78 h dd) : RH 78 (u2 h 77 k v) dd := H.far (fun a q1 q2 => u2_off (by omega))
def lossI (o : Option Nat) : Int32 := match o with
  | none => nI 0
  | some k => nI k
theorem stfac {i : Nat} (h : i < 5) : stV 7 i = nI (facN i) := by
  have : ∀ i, i < 5 → stV 7 i = nI (facN i) := by decide
  exact this i h
theorem nw_mend {d : Dm} {S : Nat} : ∀ w, w ≤ 8 → nwD (mendS d S w) = nwD d
  | 0, _ => rfl
  | w + 1, hw => by
    by_cases c : bitI S w
    · rw [mendS_y c]
      have : nwD (mendD (mendS d S w) w) = nwD (mendS d S w) := by unfold nwD mendD; rw [upd_ne (by omega), upd_ne (by omega)]
      rw [this]; exact nw_mend w (by omega)
    · rw [mendS_n c]; exact nw_mend w (by omega)
theorem idle_eq {d : Dm} (H : DOK d) : ∀ k, k ≤ 5 → (idleL d k).length = idleN d k
  | 0, _ => rfl
  | k + 1, hk => by
    have ih := idle_eq H k (by omega)
    obtain ⟨j, hj, e⟩ := H.hu (t := k) (by omega)
    obtain rfl | rfl : j = 0 ∨ j = 1 := by omega
    · rw [idle_y (show d (94 + 3 * k + 2) = 0 from e), List.length_append, ih]
      show idleN d k + 1 = idleN d k + _
      rw [if_neg (by rw [e]; decide)]
    · rw [idle_n (fun q => absurd (e.symm.trans q) (by decide)), ih]
      show idleN d k = idleN d k + _
      rw [if_pos e, Nat.add_zero]
theorem idlM_eq {d : Dm} (H : DOK d) : idleD d = idlM d := (idle_eq H _ H.nt5).symm
theorem idle_mono {d : Dm} {k : Nat} : ∀ n, (idleL d k).length ≤ (idleL d (k + n)).length ∧ ∀ i, i < (idleL d k).length → (idleL d (k + n)).getD i 0 = (idleL d k).getD i 0
  | 0 => ⟨Nat.le_refl _, fun _ _ => rfl⟩
  | n + 1 => by
    obtain ⟨h1, h2⟩ := idle_mono (d := d) (k := k) n
    by_cases c : d (94 + 3 * (k + n) + 2) = 0
    · rw [show k + (n + 1) = (k + n) + 1 by omega, idle_y c]
      refine ⟨by rw [List.length_append]; omega, fun i hi => ?_⟩
      rw [idleL_get (by omega)]; exact h2 i hi
    · rw [show k + (n + 1) = (k + n) + 1 by omega, idle_n c]; exact ⟨h1, h2⟩
/-- what is left of the places, row by row -/
def rmF (m w : Nat) : Nat → Nat → Nat
  | 0, p => p
  | i + 1, p => if p < (ordP m w i).1 / facN (m - i - 1) then rmF m w i p else rmF m w i (p + 1)
def rmC (m w i : Nat) : Bool := !decide (w < facN m) || (!decide (i < m) || (decide ((ordP m w i).1 / facN (m - i - 1) ≤ m - 1 - i) && decide (pmN m w i = rmF m w i ((ordP m w i).1 / facN (m - i - 1)))))
theorem rm_ok {m w i : Nat} (hm : m ≤ 4) (hw : w < facN m) (hi : i < m) : (ordP m w i).1 / facN (m - i - 1) ≤ m - 1 - i ∧ pmN m w i = rmF m w i ((ordP m w i).1 / facN (m - i - 1)) := by
  have f24 : facN m ≤ 24 := by
    have : ∀ m, m < 5 → facN m ≤ 24 := by decide
    exact this m (by omega)
  have key : ∀ m, m < 5 → ∀ w, w < 24 → ∀ i, i < 4 → rmC m w i = true := by decide +kernel
  have k2 := key m (by omega) w (by omega) i (by omega)
  unfold rmC at k2
  rw [decide_eq_true hw, decide_eq_true hi] at k2
  simp only [Bool.not_true, Bool.false_or, Bool.and_eq_true, decide_eq_true_eq] at k2
  exact k2
/-! how far apart -/
def absL (v : Int64) : Int64 := if 0 < v then v else -v
theorem w_sub {a b : Int32} : (a.toInt64 - b.toInt64).toInt = a.toInt - b.toInt := by
  have h1 := Int32.toInt_lt a
  have h2 := Int32.le_toInt a
  have h3 := Int32.toInt_lt b
  have h4 := Int32.le_toInt b
  rw [Int64.toInt_sub, Int32.toInt_toInt64, Int32.toInt_toInt64, Int.bmod_eq_of_le] <;> omega
theorem abs_eq {h n : Int32} : absL (n.toInt64 - h.toInt64) = absV (h.toInt64 - n.toInt64) := by
  have e1 : (n.toInt64 - h.toInt64).toInt = n.toInt - h.toInt := w_sub
  have e2 : (h.toInt64 - n.toInt64).toInt = h.toInt - n.toInt := w_sub
  have b1 := Int32.toInt_lt h
  have b2 := Int32.le_toInt h
  have b3 := Int32.toInt_lt n
  have b4 := Int32.le_toInt n
  have g : ∀ v : Int64, -(2 ^ 63 : Int) < v.toInt → (-v).toInt = -v.toInt := fun v hv => by
    have := Int64.toInt_lt v
    rw [Int64.toInt_neg, Int.bmod_eq_of_le] <;> omega
  have z1 : (0 : Int64).toInt = 0 := rfl
  have z2 : (nI 0).toInt64.toInt = 0 := rfl
  unfold absL absV
  apply Int64.toInt_inj.mp
  by_cases c1 : (0 : Int64) < n.toInt64 - h.toInt64
  · rw [if_pos c1]
    rw [Int64.lt_iff_toInt_lt, e1, z1] at c1
    rw [if_pos (by rw [Int64.lt_iff_toInt_lt, e2, z2]; omega), g _ (by rw [e2]; omega), e1, e2]; omega
  · rw [if_neg c1]
    rw [Int64.lt_iff_toInt_lt, e1, z1] at c1
    rw [if_neg (by rw [Int64.lt_iff_toInt_lt, e2, z2]; omega), g _ (by rw [e1]; omega), e1, e2]; omega
theorem off_eq {h n : Int32} : (if absL (n.toInt64 - h.toInt64) < (nI 1000).toInt64 then absL (n.toInt64 - h.toInt64) else (nI 1000).toInt64).toInt32 = offV h n := by
  rw [abs_eq]
  unfold offV
  generalize absV (h.toInt64 - n.toInt64) = x
  by_cases c1 : x < (nI 1000).toInt64
  · rw [if_pos c1, if_neg (fun q => Int64.lt_irrefl (Int64.lt_trans c1 q))]
  · rw [if_neg c1]
    by_cases c2 : (nI 1000).toInt64 < x
    · rw [if_pos c2]; rfl
    · rw [if_neg c2]
      have : x = (nI 1000).toInt64 := by
        apply Int64.toInt_inj.mp
        rw [Int64.lt_iff_toInt_lt] at c1 c2; omega
      rw [this]

abbrev P_X0_goOn (h : Mm) (d : Dm) (τ : Nat → List Int32) (n : Nat) : Option Value → Mm → Prop := fun r h2 => r = some (.ref 78) ∧ RH 78 h2 (nightsD τ d n) ∧ AX h h2 d τ ∧ (∀ m, n = m + 1 → h2 78 7 = byD τ (nightsD τ d m))
theorem c_X0_goOn {l : Launch} (h : Mm) (d : Dm) (τ : Nat → List Int32) (n : Nat) (hR : RH 2 h d) (hd : DOK d) (hτ : TOK τ) (hX : LX 20 h τ) (hn : n ≤ 60) : Con l yX0_goOn cX0_goOn 3 (some (FieldType.object "FoxRounds$House")) 5 120 132 GL h [.ref 77, .int (nI n)] (P_X0_goOn h d τ n) := by
  refine Con.ofV (own := "FoxRounds$Ahead") (nm := "goOn") rfl rfl (by decide) (Nat.le_of_ble_eq_true rfl) ?_
  intro κ ρ hkl K
  subst hkl
  show V κ (QM κ (132, ρ, GL, 0, 0) (P_X0_goOn h d τ n)) 3 (132, ρ, GL, 0, 0) h 0 [(0, .ref 77), (1, .int (nI n))] []
  have hA : AX h h d τ := AX.mk2 hR hX
  have hn8 := hd.nw8
  have ht5 := hd.nt5
  refine v_aload_n K dX0_goOn_0 rfl ?_
  refine v_getr (q := 78) K fX0_12 sh_77 pl_77 gl_77_2 dX0_goOn_1 ?_
  refine v_aload_n K dX0_goOn_4 rfl ?_
  refine v_getr (q := 2) K fX0_35 sh_77 pl_77 gl_77_0 dX0_goOn_5 ?_
  refine v_callV (As := [.ref 2]) K (c_X1_copyFrom h 78 2 d hB_78 hB_2 (by decide) hA.1) lX0_42 ck_X1 rfl sh_78 pl_78 rfl ⟨by decide, by decide⟩ (Nat.le_of_ble_eq_true rfl) dX0_goOn_8 (fun r1 h1 hp1 => ?_) rfl
  obtain ⟨rfl, hRq1, hFq1⟩ := hp1
  have hAq1 : AX h h1 d τ := hA.a (hFq1.N (by omega) (by omega))
  refine v_none ?_
  refine v_iconstN K 0 rfl dX0_goOn_11 ?_
  refine v_istore_n (lv2 := [(2, .int (nI 0)), (0, .ref 77), (1, .int (nI n))]) K dX0_goOn_12 (by decide) rfl ?_
  have L13 : ∀ (mm : Nat) (a : Nat) (g : Mm) (ha : a ≤ n) (hZ : RH 78 g (nightsD τ d a)) (hB : AX h g d τ) (he : ∀ m, a = m + 1 → g 78 7 = byD τ (nightsD τ d m)), n + 1 - a < mm → V κ (QM κ (132, ρ, GL, 0, 0) (P_X0_goOn h d τ n)) 3 (132, ρ, GL, 0, 0) g 13 [(0, .ref 77), (1, .int (nI n)), (2, .int (nI a))] [] := by
    intro mm
    induction mm with
    | zero => intro a g ha hZ hB he hmm; exact absurd hmm (Nat.not_lt_zero _)
    | succ mm ih13 =>
      intro a g ha hZ hB he hmm
      refine v_iload_n K dX0_goOn_13 rfl ?_
      refine v_iload_n K dX0_goOn_14 rfl ?_
      refine v_icmpN_ge (tgt := 35) K (by omega) (by omega) dX0_goOn_15 rfl (fun c1 => ?_) (fun c1 => ?_)
      · skip
        refine v_aload_n K dX0_goOn_35 rfl ?_
        refine v_getr (q := 78) K fX0_12 sh_77 pl_77 gl_77_2 dX0_goOn_36 ?_
        refine v_aret K (Or.inl ⟨_, rfl⟩) dX0_goOn_39 ?_
        obtain rfl : a = n := by omega
        exact ⟨rfl, hZ, hB, he⟩
      · skip
        refine v_aload_n K dX0_goOn_18 rfl ?_
        refine v_getr (q := 78) K fX0_12 sh_77 pl_77 gl_77_2 dX0_goOn_19 ?_
        refine v_aload_n K dX0_goOn_22 rfl ?_
        refine v_getr (q := 20) K fX0_38 sh_77 pl_77 gl_77_1 dX0_goOn_23 ?_
        refine v_callV (As := [.ref 20]) K (c_X1_passNight g 78 (nightsD τ d a) τ hB_78 hZ (hd.nights a) hτ hB.2.1) lX0_46 ck_X1 rfl sh_78 pl_78 rfl ⟨by decide, by decide⟩ (Nat.le_of_ble_eq_true rfl) dX0_goOn_26 (fun r2 h2 hp2 => ?_) rfl
        obtain ⟨rfl, hRq2, hEq2, hFq2⟩ := hp2
        have hAq2 : AX h h2 d τ := hB.a hFq2
        refine v_none ?_
        refine v_iincN (lv2 := [(2, .int (nI (a + 1))), (0, .ref 77), (1, .int (nI n))]) K 1 dX0_goOn_29 rfl rfl (by decide) rfl ?_
        refine v_goto (tgt := 13) K dX0_goOn_32 rfl ?_
        refine v_sub (lv2 := [(0, .ref 77), (1, .int (nI n)), (2, .int (nI (a + 1)))]) (by simp) ?_
        exact ih13 (a + 1) h2 (by first | assumption | omega | rfl) (by exact hRq2) (by exact hAq2) (by intro m hm; obtain rfl : a = m := (by omega); exact hEq2) (by omega)
  refine v_sub (lv2 := [(0, .ref 77), (1, .int (nI n)), (2, .int (nI 0))]) (by simp) ?_
  exact L13 (n + 1 - 0 + 1) 0 h1 (by first | assumption | omega | rfl) (by exact hRq1) (by exact hAq1) (by intro m hm; omega) (Nat.lt_succ_self _)

abbrev P_X0_firstLoss (h : Mm) (d : Dm) (τ : Nat → List Int32) (n : Nat) : Option Value → Mm → Prop := fun r h2 => r = some (.int (lossI (lossF τ d n 1))) ∧ AX h h2 d τ
theorem c_X0_firstLoss {l : Launch} (h : Mm) (d : Dm) (τ : Nat → List Int32) (n : Nat) (hR : RH 2 h d) (hd : DOK d) (hτ : TOK τ) (hX : LX 20 h τ) (hn : n ≤ 60) : Con l yX0_firstLoss cX0_firstLoss 3 (some .int) 5 120 132 GL h [.ref 77, .int (nI n)] (P_X0_firstLoss h d τ n) := by
  refine Con.ofV (own := "FoxRounds$Ahead") (nm := "firstLoss") rfl rfl (by decide) (Nat.le_of_ble_eq_true rfl) ?_
  intro κ ρ hkl K
  subst hkl
  show V κ (QM κ (132, ρ, GL, 0, 0) (P_X0_firstLoss h d τ n)) 3 (132, ρ, GL, 0, 0) h 0 [(0, .ref 77), (1, .int (nI n))] []
  have hA : AX h h d τ := AX.mk2 hR hX
  have hn8 := hd.nw8
  have ht5 := hd.nt5
  refine v_aload_n K dX0_firstLoss_0 rfl ?_
  refine v_getr (q := 78) K fX0_12 sh_77 pl_77 gl_77_2 dX0_firstLoss_1 ?_
  refine v_aload_n K dX0_firstLoss_4 rfl ?_
  refine v_getr (q := 2) K fX0_35 sh_77 pl_77 gl_77_0 dX0_firstLoss_5 ?_
  refine v_callV (As := [.ref 2]) K (c_X1_copyFrom h 78 2 d hB_78 hB_2 (by decide) hA.1) lX0_42 ck_X1 rfl sh_78 pl_78 rfl ⟨by decide, by decide⟩ (Nat.le_of_ble_eq_true rfl) dX0_firstLoss_8 (fun r1 h1 hp1 => ?_) rfl
  obtain ⟨rfl, hRq1, hFq1⟩ := hp1
  have hAq1 : AX h h1 d τ := hA.a (hFq1.N (by omega) (by omega))
  refine v_none ?_
  refine v_iconstN K 1 rfl dX0_firstLoss_11 ?_
  refine v_istore_n (lv2 := [(2, .int (nI 1)), (0, .ref 77), (1, .int (nI n))]) K dX0_firstLoss_12 (by decide) rfl ?_
  have L13 : ∀ (mm : Nat) (a : Nat) (g : Mm) (ha : 1 ≤ a ∧ a ≤ n + 1) (hZ : RH 78 g (nightsD τ d (a - 1))) (hB : AX h g d τ) (hl : lossF τ d n 1 = lossF τ d (n + 1 - a) a), n + 2 - a < mm → V κ (QM κ (132, ρ, GL, 0, 0) (P_X0_firstLoss h d τ n)) 3 (132, ρ, GL, 0, 0) g 13 [(0, .ref 77), (1, .int (nI n)), (2, .int (nI a))] [] := by
    intro mm
    induction mm with
    | zero => intro a g ha hZ hB hl hmm; exact absurd hmm (Nat.not_lt_zero _)
    | succ mm ih13 =>
      intro a g ha hZ hB hl hmm
      refine v_iload_n K dX0_firstLoss_13 rfl ?_
      refine v_iload_n K dX0_firstLoss_14 rfl ?_
      refine v_icmpN_gt (tgt := 54) K (by omega) (by omega) dX0_firstLoss_15 rfl (fun c1 => ?_) (fun c1 => ?_)
      · skip
        refine v_iconstN K 0 rfl dX0_firstLoss_54 ?_
        refine v_iret K dX0_firstLoss_55 ?_
        exact ⟨some_int (by rw [hl, show n + 1 - a = 0 by omega]; rfl), hB⟩
      · skip
        refine v_aload_n K dX0_firstLoss_18 rfl ?_
        refine v_getr (q := 78) K fX0_12 sh_77 pl_77 gl_77_2 dX0_firstLoss_19 ?_
        refine v_aload_n K dX0_firstLoss_22 rfl ?_
        refine v_getr (q := 20) K fX0_38 sh_77 pl_77 gl_77_1 dX0_firstLoss_23 ?_
        refine v_callV (As := [.ref 20]) K (c_X1_passNight g 78 (nightsD τ d (a - 1)) τ hB_78 hZ (hd.nights _) hτ hB.2.1) lX0_46 ck_X1 rfl sh_78 pl_78 rfl ⟨by decide, by decide⟩ (Nat.le_of_ble_eq_true rfl) dX0_firstLoss_26 (fun r2 h2 hp2 => ?_) rfl
        obtain ⟨rfl, hRq2, hEq2, hFq2⟩ := hp2
        have hAq2 : AX h h2 d τ := hB.a hFq2
        refine v_none ?_
        refine v_aload_n K dX0_firstLoss_29 rfl ?_
        refine v_getr (q := 78) K fX0_12 sh_77 pl_77 gl_77_2 dX0_firstLoss_30 ?_
        refine v_geti (x := (nightD τ (nightsD τ d (a - 1))) 9) K fX0_50 sh_78 pl_78 hRq2.o9 dX0_firstLoss_33 ?_
        refine v_aload_n K dX0_firstLoss_36 rfl ?_
        refine v_getr (q := 2) K fX0_35 sh_77 pl_77 gl_77_0 dX0_firstLoss_37 ?_
        refine v_geti (x := d 9) K fX0_50 sh_2 pl_2 hAq2.1.o9 dX0_firstLoss_40 ?_
        refine v_icmp_le (tgt := 48) K dX0_firstLoss_43 rfl (fun c2 => ?_) (fun c2 => ?_)
        · skip
          refine v_iincN (lv2 := [(2, .int (nI (a + 1))), (0, .ref 77), (1, .int (nI n))]) K 1 dX0_firstLoss_48 rfl rfl (by decide) rfl ?_
          refine v_goto (tgt := 13) K dX0_firstLoss_51 rfl ?_
          refine v_sub (lv2 := [(0, .ref 77), (1, .int (nI n)), (2, .int (nI (a + 1)))]) (by simp) ?_
          exact ih13 (a + 1) h2 (by omega) (by have hx := hRq2; rw [show nightD τ (nightsD τ d (a - 1)) = nightsD τ d (a + 1 - 1) from (nights_s (by omega)).trans (congrArg (nightsD τ d) (by omega))] at hx; exact hx) (by exact hAq2) (by rw [hl, show n + 1 - a = (n + 1 - (a + 1)) + 1 by omega]; exact loss_n (by rw [← nights_s (τ := τ) (d := d) (a := a) (by omega)]; exact Int32.not_lt.mpr c2)) (by omega)
        · skip
          refine v_iload_n K dX0_firstLoss_46 rfl ?_
          refine v_iret K dX0_firstLoss_47 ?_
          exact ⟨some_int (by rw [hl, show n + 1 - a = (n - a) + 1 by omega, loss_y (by rw [← nights_s (τ := τ) (d := d) (a := a) (by omega)]; exact Int32.not_le.mp c2)]; rfl), hAq2⟩
  refine v_sub (lv2 := [(0, .ref 77), (1, .int (nI n)), (2, .int (nI 1))]) (by simp) ?_
  exact L13 (n + 2 - 1 + 1) 1 h1 (by omega) (by exact hRq1) (by exact hAq1) (by rw [show n + 1 - 1 = n by omega]) (Nat.lt_succ_self _)

abbrev P_X0_firstUnlike (h : Mm) (d : Dm) (τ : Nat → List Int32) (n : Nat) (f : Nat → Int32) : Option Value → Mm → Prop := fun r h2 => r = some (.int (unlF τ d f n 0)) ∧ AX h h2 d τ
theorem c_X0_firstUnlike {l : Launch} (h : Mm) (d : Dm) (τ : Nat → List Int32) (n : Nat) (f : Nat → Int32) (hR : RH 2 h d) (hd : DOK d) (hτ : TOK τ) (hX : LX 20 h τ) (hn : n ≤ 20) (hf : ∀ k, k < n → h 37 k = f k) : Con l yX0_firstUnlike cX0_firstUnlike 4 (some .int) 5 120 132 GL h [.ref 77, .ref 37, .int (nI n)] (P_X0_firstUnlike h d τ n f) := by
  refine Con.ofV (own := "FoxRounds$Ahead") (nm := "firstUnlike") rfl rfl (by decide) (Nat.le_of_ble_eq_true rfl) ?_
  intro κ ρ hkl K
  subst hkl
  show V κ (QM κ (132, ρ, GL, 0, 0) (P_X0_firstUnlike h d τ n f)) 4 (132, ρ, GL, 0, 0) h 0 [(0, .ref 77), (1, .ref 37), (2, .int (nI n))] []
  have hA : AX h h d τ := AX.mk2 hR hX
  have hn8 := hd.nw8
  have ht5 := hd.nt5
  refine v_aload_n K dX0_firstUnlike_0 rfl ?_
  refine v_getr (q := 78) K fX0_12 sh_77 pl_77 gl_77_2 dX0_firstUnlike_1 ?_
  refine v_aload_n K dX0_firstUnlike_4 rfl ?_
  refine v_getr (q := 2) K fX0_35 sh_77 pl_77 gl_77_0 dX0_firstUnlike_5 ?_
  refine v_callV (As := [.ref 2]) K (c_X1_copyFrom h 78 2 d hB_78 hB_2 (by decide) hA.1) lX0_42 ck_X1 rfl sh_78 pl_78 rfl ⟨by decide, by decide⟩ (Nat.le_of_ble_eq_true rfl) dX0_firstUnlike_8 (fun r1 h1 hp1 => ?_) rfl
  obtain ⟨rfl, hRq1, hFq1⟩ := hp1
  have hAq1 : AX h h1 d τ := hA.a (hFq1.N (by omega) (by omega))
  refine v_none ?_
  refine v_iconstN K 0 rfl dX0_firstUnlike_11 ?_
  refine v_istore_n (lv2 := [(3, .int (nI 0)), (0, .ref 77), (1, .ref 37), (2, .int (nI n))]) K dX0_firstUnlike_12 (by decide) rfl ?_
  have L13 : ∀ (mm : Nat) (a : Nat) (g : Mm) (ha : a ≤ n) (hZ : RH 78 g (nightsD τ d a)) (hB : AX h g d τ) (hl : unlF τ d f n 0 = unlF τ d f (n - a) a), n + 1 - a < mm → V κ (QM κ (132, ρ, GL, 0, 0) (P_X0_firstUnlike h d τ n f)) 4 (132, ρ, GL, 0, 0) g 13 [(0, .ref 77), (1, .ref 37), (2, .int (nI n)), (3, .int (nI a))] [] := by
    intro mm
    induction mm with
    | zero => intro a g ha hZ hB hl hmm; exact absurd hmm (Nat.not_lt_zero _)
    | succ mm ih13 =>
      intro a g ha hZ hB hl hmm
      refine v_iload_n K dX0_firstUnlike_13 rfl ?_
      refine v_iload_n K dX0_firstUnlike_14 rfl ?_
      refine v_icmpN_ge (tgt := 58) K (by omega) (by omega) dX0_firstUnlike_15 rfl (fun c1 => ?_) (fun c1 => ?_)
      · skip
        refine v_iconstN K 0 rfl dX0_firstUnlike_58 ?_
        refine v_iret K dX0_firstUnlike_59 ?_
        exact ⟨some_int (by rw [hl, show n - a = 0 by omega]; rfl), hB⟩
      · skip
        refine v_iload_n K dX0_firstUnlike_18 rfl ?_
        refine v_aload_n K dX0_firstUnlike_19 rfl ?_
        refine v_alen (N := 20) K sh_37 (by decide) pl_37 dX0_firstUnlike_20 ?_
        refine v_icmpN_ge (tgt := 58) K (by omega) (by omega) dX0_firstUnlike_21 rfl (fun c2 => ?_) (fun c2 => ?_)
        · skip
          refine v_iconstN K 0 rfl dX0_firstUnlike_58 ?_
          refine v_iret K dX0_firstUnlike_59 ?_
          exact ⟨some_int (by rw [hl, show n - a = 0 by omega]; rfl), hB⟩
        · skip
          refine v_aload_n K dX0_firstUnlike_24 rfl ?_
          refine v_getr (q := 78) K fX0_12 sh_77 pl_77 gl_77_2 dX0_firstUnlike_25 ?_
          refine v_aload_n K dX0_firstUnlike_28 rfl ?_
          refine v_getr (q := 20) K fX0_38 sh_77 pl_77 gl_77_1 dX0_firstUnlike_29 ?_
          refine v_callV (As := [.ref 20]) K (c_X1_passNight g 78 (nightsD τ d a) τ hB_78 hZ (hd.nights a) hτ hB.2.1) lX0_46 ck_X1 rfl sh_78 pl_78 rfl ⟨by decide, by decide⟩ (Nat.le_of_ble_eq_true rfl) dX0_firstUnlike_32 (fun r2 h2 hp2 => ?_) rfl
          obtain ⟨rfl, hRq2, hEq2, hFq2⟩ := hp2
          have hAq2 : AX h h2 d τ := hB.a hFq2
          refine v_none ?_
          refine v_aload_n K dX0_firstUnlike_35 rfl ?_
          refine v_getr (q := 78) K fX0_12 sh_77 pl_77 gl_77_2 dX0_firstUnlike_36 ?_
          refine v_geti (x := byD τ (nightsD τ d a)) K fX0_53 sh_78 pl_78 hEq2 dX0_firstUnlike_39 ?_
          refine v_aload_n K dX0_firstUnlike_42 rfl ?_
          refine v_iload_n K dX0_firstUnlike_43 rfl ?_
          refine v_iald (x := f a) K sh_37 pl_37 (by omega) ((congrFun (hAq2.2.2 37 (by omega) (by omega) (by omega) (by omega) (by omega)) _).trans (hf _ (by omega))) dX0_firstUnlike_44 ?_
          refine v_icmp_eq (tgt := 52) K dX0_firstUnlike_45 rfl (fun c3 => ?_) (fun c3 => ?_)
          · skip
            refine v_iincN (lv2 := [(3, .int (nI (a + 1))), (0, .ref 77), (1, .ref 37), (2, .int (nI n))]) K 1 dX0_firstUnlike_52 rfl rfl (by decide) rfl ?_
            refine v_goto (tgt := 13) K dX0_firstUnlike_55 rfl ?_
            refine v_sub (lv2 := [(0, .ref 77), (1, .ref 37), (2, .int (nI n)), (3, .int (nI (a + 1)))]) (by simp) ?_
            exact ih13 (a + 1) h2 (by first | assumption | omega | rfl) (by exact hRq2) (by exact hAq2) (by rw [hl, show n - a = (n - (a + 1)) + 1 by omega]; exact unl_y c3) (by omega)
          · skip
            refine v_iload_n K dX0_firstUnlike_48 rfl ?_
            refine v_iconstN K 1 rfl dX0_firstUnlike_49 ?_
            refine v_iaddN K dX0_firstUnlike_50 ?_
            refine v_iret K dX0_firstUnlike_51 ?_
            exact ⟨some_int (by rw [hl, show n - a = (n - a - 1) + 1 by omega, unl_n c3]), hAq2⟩
  refine v_sub (lv2 := [(0, .ref 77), (1, .ref 37), (2, .int (nI n)), (3, .int (nI 0))]) (by simp) ?_
  exact L13 (n + 1 - 0 + 1) 0 h1 (by first | assumption | omega | rfl) (by exact hRq1) (by exact hAq1) (by rfl) (Nat.lt_succ_self _)

abbrev P_X0_costOf (h : Mm) (d : Dm) (τ : Nat → List Int32) (S : Nat) : Option Value → Mm → Prop := fun r h2 => r = some (.int (costD d S (nwD d))) ∧ h = h2
theorem c_X0_costOf {l : Launch} (h : Mm) (d : Dm) (τ : Nat → List Int32) (S : Nat) (hR : RH 2 h d) (hd : DOK d) (hτ : TOK τ) (hX : LX 20 h τ)  : Con l yX0_costOf cX0_costOf 4 (some .int) 0 0 132 GL h [.ref 77, .int (nI S)] (P_X0_costOf h d τ S) := by
  refine Con.ofV (own := "FoxRounds$Ahead") (nm := "costOf") rfl rfl (by decide) (Nat.le_of_ble_eq_true rfl) ?_
  intro κ ρ hkl K
  subst hkl
  show V κ (QM κ (132, ρ, GL, 0, 0) (P_X0_costOf h d τ S)) 4 (132, ρ, GL, 0, 0) h 0 [(0, .ref 77), (1, .int (nI S))] []
  have hA : AX h h d τ := AX.mk2 hR hX
  have hn8 := hd.nw8
  have ht5 := hd.nt5
  refine v_iconstN K 0 rfl dX0_costOf_0 ?_
  refine v_istore_n (lv2 := [(2, .int (nI 0)), (0, .ref 77), (1, .int (nI S))]) K dX0_costOf_1 (by decide) rfl ?_
  refine v_iconstN K 0 rfl dX0_costOf_2 ?_
  refine v_istore_n (lv2 := [(3, .int (nI 0)), (2, .int (nI 0)), (0, .ref 77), (1, .int (nI S))]) K dX0_costOf_3 (by decide) rfl ?_
  have L4 : ∀ (mm : Nat) (v : Int32) (w : Nat) (hw : w ≤ nwD d) (hv : costD d S w = v), nwD d + 1 - w < mm → V κ (QM κ (132, ρ, GL, 0, 0) (P_X0_costOf h d τ S)) 4 (132, ρ, GL, 0, 0) h 4 [(0, .ref 77), (1, .int (nI S)), (2, .int v), (3, .int (nI w))] [] := by
    intro mm
    induction mm with
    | zero => intro v w hw hv hmm; exact absurd hmm (Nat.not_lt_zero _)
    | succ mm ih4 =>
      intro v w hw hv hmm
      refine v_iload_n K dX0_costOf_4 rfl ?_
      refine v_aload_n K dX0_costOf_5 rfl ?_
      refine v_getr (q := 2) K fX0_35 sh_77 pl_77 gl_77_0 dX0_costOf_6 ?_
      refine v_geti (x := nI (nwD d)) K fX0_56 sh_2 pl_2 (hA.1.oA.trans hd.nw) dX0_costOf_9 ?_
      refine v_icmpN_ge (tgt := 44) K (by omega) (by omega) dX0_costOf_12 rfl (fun c1 => ?_) (fun c1 => ?_)
      · skip
        refine v_iload_n K dX0_costOf_44 rfl ?_
        refine v_iret K dX0_costOf_45 ?_
        obtain rfl : w = nwD d := by omega
        exact ⟨some_int hv.symm, rfl⟩
      · skip
        refine v_iload_n K dX0_costOf_15 rfl ?_
        refine v_iload_n K dX0_costOf_16 rfl ?_
        refine v_ishr K dX0_costOf_17 ?_
        refine v_iconstN K 1 rfl dX0_costOf_18 ?_
        refine v_iand K dX0_costOf_19 ?_
        refine v_iconstN K 1 rfl dX0_costOf_20 ?_
        refine v_icmp_ne (tgt := 38) K dX0_costOf_21 rfl (fun c2 => ?_) (fun c2 => ?_)
        · skip
          refine v_iincN (lv2 := [(3, .int (nI (w + 1))), (0, .ref 77), (1, .int (nI S)), (2, .int v)]) K 1 dX0_costOf_38 rfl rfl (by decide) rfl ?_
          refine v_goto (tgt := 4) K dX0_costOf_41 rfl ?_
          refine v_sub (lv2 := [(0, .ref 77), (1, .int (nI S)), (2, .int v), (3, .int (nI (w + 1)))]) (by simp) ?_
          exact ih4 v (w + 1) (by first | assumption | omega | rfl) (by rw [cost_n c2, hv]) (by omega)
        · skip
          refine v_iload_n K dX0_costOf_24 rfl ?_
          refine v_aload_n K dX0_costOf_25 rfl ?_
          refine v_getr (q := 2) K fX0_35 sh_77 pl_77 gl_77_0 dX0_costOf_26 ?_
          refine v_getr (q := 4) K fX0_67 sh_2 pl_2 gl_2_3 dX0_costOf_29 ?_
          refine v_iload_n K dX0_costOf_32 rfl ?_
          refine v_aald (q := 2 + 3 + w) K sh_4 (Or.inl rfl) pl_4 (by omega) (hB_2.gw (by omega)) dX0_costOf_33 ?_
          refine v_iconstN K 3 rfl dX0_costOf_34 ?_
          refine v_iald (x := d (46 + 6 * w + 3)) K (hB_2.w (by omega)) (hB_2.l3 (by omega)) (by omega) (hA.1.w (by omega) (by omega)) dX0_costOf_35 ?_
          refine v_iadd K dX0_costOf_36 ?_
          refine v_istore_n (lv2 := [(2, .int (v + (d (46 + 6 * w + 3)))), (0, .ref 77), (1, .int (nI S)), (3, .int (nI w))]) K dX0_costOf_37 (by decide) rfl ?_
          refine v_iincN (lv2 := [(3, .int (nI (w + 1))), (2, .int (v + (d (46 + 6 * w + 3)))), (0, .ref 77), (1, .int (nI S))]) K 1 dX0_costOf_38 rfl rfl (by decide) rfl ?_
          refine v_goto (tgt := 4) K dX0_costOf_41 rfl ?_
          refine v_sub (lv2 := [(0, .ref 77), (1, .int (nI S)), (2, .int (v + (d (46 + 6 * w + 3)))), (3, .int (nI (w + 1)))]) (by simp) ?_
          exact ih4 (v + (d (46 + 6 * w + 3))) (w + 1) (by first | assumption | omega | rfl) (by rw [cost_y c2, hv]) (by omega)
  refine v_sub (lv2 := [(0, .ref 77), (1, .int (nI S)), (2, .int (nI 0)), (3, .int (nI 0))]) (by simp) ?_
  exact L4 (nwD d + 1 - 0 + 1) (nI 0) 0 (by first | assumption | omega | rfl) (by rfl) (Nat.lt_succ_self _)

abbrev P_X0_hensMended (h : Mm) (d : Dm) (τ : Nat → List Int32) (S n : Nat) : Option Value → Mm → Prop := fun r h2 => r = some (.int (nightsD τ (mendS d S (nwD d)) n 0)) ∧ AX h h2 d τ
theorem c_X0_hensMended {l : Launch} (h : Mm) (d : Dm) (τ : Nat → List Int32) (S n : Nat) (hR : RH 2 h d) (hd : DOK d) (hτ : TOK τ) (hX : LX 20 h τ) (hn : n ≤ 60) : Con l yX0_hensMended cX0_hensMended 4 (some .int) 5 120 132 GL h [.ref 77, .int (nI S), .int (nI n)] (P_X0_hensMended h d τ S n) := by
  refine Con.ofV (own := "FoxRounds$Ahead") (nm := "hensMended") rfl rfl (by decide) (Nat.le_of_ble_eq_true rfl) ?_
  intro κ ρ hkl K
  subst hkl
  show V κ (QM κ (132, ρ, GL, 0, 0) (P_X0_hensMended h d τ S n)) 4 (132, ρ, GL, 0, 0) h 0 [(0, .ref 77), (1, .int (nI S)), (2, .int (nI n))] []
  have hA : AX h h d τ := AX.mk2 hR hX
  have hn8 := hd.nw8
  have ht5 := hd.nt5
  refine v_aload_n K dX0_hensMended_0 rfl ?_
  refine v_getr (q := 78) K fX0_12 sh_77 pl_77 gl_77_2 dX0_hensMended_1 ?_
  refine v_aload_n K dX0_hensMended_4 rfl ?_
  refine v_getr (q := 2) K fX0_35 sh_77 pl_77 gl_77_0 dX0_hensMended_5 ?_
  refine v_callV (As := [.ref 2]) K (c_X1_copyFrom h 78 2 d hB_78 hB_2 (by decide) hA.1) lX0_42 ck_X1 rfl sh_78 pl_78 rfl ⟨by decide, by decide⟩ (Nat.le_of_ble_eq_true rfl) dX0_hensMended_8 (fun r1 h1 hp1 => ?_) rfl
  obtain ⟨rfl, hRq1, hFq1⟩ := hp1
  have hAq1 : AX h h1 d τ := hA.a (hFq1.N (by omega) (by omega))
  refine v_none ?_
  refine v_iconstN K 0 rfl dX0_hensMended_11 ?_
  refine v_istore_n (lv2 := [(3, .int (nI 0)), (0, .ref 77), (1, .int (nI S)), (2, .int (nI n))]) K dX0_hensMended_12 (by decide) rfl ?_
  have L13 : ∀ (mm : Nat) (w : Nat) (g : Mm) (hw : w ≤ nwD d) (hZ : RH 78 g (mendS d S w)) (hB : AX h g d τ), nwD d + 1 - w < mm → V κ (QM κ (132, ρ, GL, 0, 0) (P_X0_hensMended h d τ S n)) 4 (132, ρ, GL, 0, 0) g 13 [(0, .ref 77), (1, .int (nI S)), (2, .int (nI n)), (3, .int (nI w))] [] := by
    intro mm
    induction mm with
    | zero => intro w g hw hZ hB hmm; exact absurd hmm (Nat.not_lt_zero _)
    | succ mm ih13 =>
      intro w g hw hZ hB hmm
      refine v_iload_n K dX0_hensMended_13 rfl ?_
      refine v_aload_n K dX0_hensMended_14 rfl ?_
      refine v_getr (q := 78) K fX0_12 sh_77 pl_77 gl_77_2 dX0_hensMended_15 ?_
      refine v_geti (x := nI (nwD d)) K fX0_56 sh_78 pl_78 (hZ.oA.trans ((hd.mendS w (by omega)).nw.trans (congrArg nI (nw_mend w (by omega))))) dX0_hensMended_18 ?_
      refine v_icmpN_ge (tgt := 47) K (by omega) (by omega) dX0_hensMended_21 rfl (fun c1 => ?_) (fun c1 => ?_)
      · skip
        refine v_iconstN K 0 rfl dX0_hensMended_47 ?_
        refine v_istore_n (lv2 := [(3, .int (nI 0)), (0, .ref 77), (1, .int (nI S)), (2, .int (nI n))]) K dX0_hensMended_48 (by decide) rfl ?_
        have L49 : ∀ (mm : Nat) (a : Nat) (g2 : Mm) (ha : a ≤ n) (hZ2 : RH 78 g2 (nightsD τ (mendS d S (nwD d)) a)) (hB2 : AX h g2 d τ), n + 1 - a < mm → V κ (QM κ (132, ρ, GL, 0, 0) (P_X0_hensMended h d τ S n)) 4 (132, ρ, GL, 0, 0) g2 49 [(0, .ref 77), (1, .int (nI S)), (2, .int (nI n)), (3, .int (nI a))] [] := by
          intro mm
          induction mm with
          | zero => intro a g2 ha hZ2 hB2 hmm; exact absurd hmm (Nat.not_lt_zero _)
          | succ mm ih49 =>
            intro a g2 ha hZ2 hB2 hmm
            refine v_iload_n K dX0_hensMended_49 rfl ?_
            refine v_iload_n K dX0_hensMended_50 rfl ?_
            refine v_icmpN_ge (tgt := 71) K (by omega) (by omega) dX0_hensMended_51 rfl (fun c2 => ?_) (fun c2 => ?_)
            · skip
              refine v_aload_n K dX0_hensMended_71 rfl ?_
              refine v_getr (q := 78) K fX0_12 sh_77 pl_77 gl_77_2 dX0_hensMended_72 ?_
              refine v_getr (q := 79) K fX0_75 sh_78 pl_78 gl_78_0 dX0_hensMended_75 ?_
              refine v_iconstN K 0 rfl dX0_hensMended_78 ?_
              refine v_iald (x := (nightsD τ (mendS d S (nwD d)) a) 0) K sh_79 pl_79 (by omega) (hZ2.n (by decide)) dX0_hensMended_79 ?_
              refine v_iret K dX0_hensMended_80 ?_
              obtain rfl : a = n := by omega
              exact ⟨rfl, hB2⟩
            · skip
              refine v_aload_n K dX0_hensMended_54 rfl ?_
              refine v_getr (q := 78) K fX0_12 sh_77 pl_77 gl_77_2 dX0_hensMended_55 ?_
              refine v_aload_n K dX0_hensMended_58 rfl ?_
              refine v_getr (q := 20) K fX0_38 sh_77 pl_77 gl_77_1 dX0_hensMended_59 ?_
              refine v_callV (As := [.ref 20]) K (c_X1_passNight g2 78 (nightsD τ (mendS d S (nwD d)) a) τ hB_78 hZ2 ((hd.mendS _ (by omega)).nights a) hτ hB2.2.1) lX0_46 ck_X1 rfl sh_78 pl_78 rfl ⟨by decide, by decide⟩ (Nat.le_of_ble_eq_true rfl) dX0_hensMended_62 (fun r2 h2 hp2 => ?_) rfl
              obtain ⟨rfl, hRq2, hEq2, hFq2⟩ := hp2
              have hAq2 : AX h h2 d τ := hB2.a hFq2
              refine v_none ?_
              refine v_iincN (lv2 := [(3, .int (nI (a + 1))), (0, .ref 77), (1, .int (nI S)), (2, .int (nI n))]) K 1 dX0_hensMended_65 rfl rfl (by decide) rfl ?_
              refine v_goto (tgt := 49) K dX0_hensMended_68 rfl ?_
              refine v_sub (lv2 := [(0, .ref 77), (1, .int (nI S)), (2, .int (nI n)), (3, .int (nI (a + 1)))]) (by simp) ?_
              exact ih49 (a + 1) h2 (by first | assumption | omega | rfl) (by exact hRq2) (by exact hAq2) (by omega)
        refine v_sub (lv2 := [(0, .ref 77), (1, .int (nI S)), (2, .int (nI n)), (3, .int (nI 0))]) (by simp) ?_
        exact L49 (n + 1 - 0 + 1) 0 g (by first | assumption | omega | rfl) (by obtain rfl : w = nwD d := (by omega); exact hZ) (by exact hB) (Nat.lt_succ_self _)
      · skip
        refine v_iload_n K dX0_hensMended_24 rfl ?_
        refine v_iload_n K dX0_hensMended_25 rfl ?_
        refine v_ishr K dX0_hensMended_26 ?_
        refine v_iconstN K 1 rfl dX0_hensMended_27 ?_
        refine v_iand K dX0_hensMended_28 ?_
        refine v_iconstN K 1 rfl dX0_hensMended_29 ?_
        refine v_icmp_ne (tgt := 41) K dX0_hensMended_30 rfl (fun c3 => ?_) (fun c3 => ?_)
        · skip
          refine v_iincN (lv2 := [(3, .int (nI (w + 1))), (0, .ref 77), (1, .int (nI S)), (2, .int (nI n))]) K 1 dX0_hensMended_41 rfl rfl (by decide) rfl ?_
          refine v_goto (tgt := 13) K dX0_hensMended_44 rfl ?_
          refine v_sub (lv2 := [(0, .ref 77), (1, .int (nI S)), (2, .int (nI n)), (3, .int (nI (w + 1)))]) (by simp) ?_
          exact ih13 (w + 1) g (by first | assumption | omega | rfl) (by rw [mendS_n c3]; exact hZ) (by exact hB) (by omega)
        · skip
          refine v_aload_n K dX0_hensMended_33 rfl ?_
          refine v_getr (q := 78) K fX0_12 sh_77 pl_77 gl_77_2 dX0_hensMended_34 ?_
          refine v_iload_n K dX0_hensMended_37 rfl ?_
          refine v_callV (As := [.int (nI w)]) K (c_X1_mendWay g 78 (mendS d S w) w hB_78 hZ (hd.mendS w (by omega)) (by omega)) lX0_71 ck_X1 rfl sh_78 pl_78 rfl ⟨by decide, by decide⟩ (Nat.le_of_ble_eq_true rfl) dX0_hensMended_38 (fun r3 h3 hp3 => ?_) rfl
          obtain ⟨rfl, hRq3, hFq3⟩ := hp3
          have hAq3 : AX h h3 d τ := hB.a (hFq3.N (by omega) (by omega))
          refine v_none ?_
          refine v_iincN (lv2 := [(3, .int (nI (w + 1))), (0, .ref 77), (1, .int (nI S)), (2, .int (nI n))]) K 1 dX0_hensMended_41 rfl rfl (by decide) rfl ?_
          refine v_goto (tgt := 13) K dX0_hensMended_44 rfl ?_
          refine v_sub (lv2 := [(0, .ref 77), (1, .int (nI S)), (2, .int (nI n)), (3, .int (nI (w + 1)))]) (by simp) ?_
          exact ih13 (w + 1) h3 (by first | assumption | omega | rfl) (by rw [mendS_y c3]; exact hRq3) (by exact hAq3) (by omega)
  refine v_sub (lv2 := [(0, .ref 77), (1, .int (nI S)), (2, .int (nI n)), (3, .int (nI 0))]) (by simp) ?_
  exact L13 (nwD d + 1 - 0 + 1) 0 h1 (by first | assumption | omega | rfl) (by exact hRq1) (by exact hAq1) (Nat.lt_succ_self _)
