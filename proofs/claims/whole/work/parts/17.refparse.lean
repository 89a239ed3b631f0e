/-! the reference reads a TEXT -/
def fltI (o : Option Nat) : Int32 := match o with
  | none => (-1)
  | some p => nI p
def PM (h : Mm) (n : Nat) (s : PSt) : Prop := (h 118 6 = nI s.1 ∧ h 118 8 = fltI s.2.1 ∧ h 118 9 = nI s.2.2) ∧ s.1 ≤ n ∧ s.2.2 ≤ 5 ∧ (∀ p, s.2.1 = some p → p ≤ n)
def PX (h : Mm) (bt : Nat → Int32) (n B u : Nat) (nm : Nat → Int32) : Prop := h 118 5 = nI B ∧ h 118 7 = nI n ∧ h 118 10 = nI u ∧ (∀ i, i < n → h 119 (B + i) = bt i) ∧ B + n ≤ 340 ∧ n ≤ 50 ∧ u < 3 ∧ (∀ j, j < 5 → h 123 j = nm j)
/-- only place, fault and open have changed -/
def FrP (h h2 : Mm) : Prop := ∀ a k, ¬ (a = 118 ∧ (k = 6 ∨ k = 8 ∨ k = 9)) → h2 a k = h a k
theorem FrP.r {h : Mm} : FrP h h := fun _ _ _ => rfl
theorem FrP.t {h h1 h2 : Mm} (H : FrP h h1) (H2 : FrP h1 h2) : FrP h h2 := fun a k q => (H2 a k q).trans (H a k q)
theorem FrP.u {h h1 : Mm} {k : Nat} {v : Int32} (H : FrP h h1) (hk : k = 6 ∨ k = 8 ∨ k = 9) : FrP h (u2 h1 118 k v) := fun a j q => by rw [u2_ne (by omega)]; exact H a j q
theorem PX.fr {h h2 : Mm} {bt nm : Nat → Int32} {n B u : Nat} (H : PX h bt n B u nm) (F : FrP h h2) : PX h2 bt n B u nm :=
  ⟨(F _ _ (by omega)).trans H.1, (F _ _ (by omega)).trans H.2.1, (F _ _ (by omega)).trans H.2.2.1, fun i hi => (F _ _ (by omega)).trans (H.2.2.2.1 i hi), H.2.2.2.2.1, H.2.2.2.2.2.1, H.2.2.2.2.2.2.1, fun j hj => (F _ _ (by omega)).trans (H.2.2.2.2.2.2.2 j hj)⟩
theorem PM.adv {h : Mm} {n : Nat} {s : PSt} (H : PM h n s) (hl : s.1 < n) : PM (u2 h 118 6 (nI (s.1 + 1))) n (advP s) :=
  ⟨⟨u2_at, by rw [u2_ne (by omega)]; exact H.1.2.1, by rw [u2_ne (by omega)]; exact H.1.2.2⟩, hl, H.2.2.1, H.2.2.2⟩
theorem PM.opn {h : Mm} {n : Nat} {s : PSt} (H : PM h n s) (hl : s.2.2 < 5) : PM (u2 h 118 9 (nI (s.2.2 + 1))) n (openP s) :=
  ⟨⟨by rw [u2_ne (by omega)]; exact H.1.1, by rw [u2_ne (by omega)]; exact H.1.2.1, u2_at⟩, H.2.1, hl, H.2.2.2⟩
theorem PM.cls {h : Mm} {n : Nat} {s : PSt} (H : PM h n s) : PM (u2 h 118 9 (nI (s.2.2 - 1))) n (closeP s) :=
  ⟨⟨by rw [u2_ne (by omega)]; exact H.1.1, by rw [u2_ne (by omega)]; exact H.1.2.1, u2_at⟩, H.2.1, by have := H.2.2.1; show s.2.2 - 1 ≤ 5; omega, H.2.2.2⟩
theorem PM.wr0 {h : Mm} {n : Nat} {s : PSt} (H : PM h n s) (e : s.2.1 = none) : PM (u2 h 118 8 (nI s.1)) n (wrongP s) := by
  refine ⟨⟨by rw [u2_ne (by omega)]; exact H.1.1, ?_, by rw [u2_ne (by omega)]; exact H.1.2.2⟩, H.2.1, H.2.2.1, fun p hp => ?_⟩
  · rw [u2_at]; unfold wrongP; rw [e]; rfl
  · unfold wrongP at hp; rw [e] at hp; simp at hp; have := H.2.1; omega
theorem PM.wr1 {h : Mm} {n : Nat} {s : PSt} (H : PM h n s) (e : s.2.1 ≠ none) : PM (u2 h 118 8 (fltI s.2.1)) n (wrongP s) := by
  cases q : s.2.1 with
  | none => exact absurd q e
  | some p0 =>
    refine ⟨⟨by rw [u2_ne (by omega)]; exact H.1.1, ?_, by rw [u2_ne (by omega)]; exact H.1.2.2⟩, H.2.1, H.2.2.1, fun p hp => ?_⟩
    · rw [u2_at]; unfold wrongP; rw [q]
    · unfold wrongP at hp; rw [q] at hp; simp at hp; have := H.2.2.2 p0 q; omega
theorem flt_neg {h : Mm} {n : Nat} {s : PSt} (H : PM h n s) (hn : n ≤ 50) : ¬ 0 ≤ fltI s.2.1 ↔ s.2.1 = none := by
  cases q : s.2.1 with
  | none => exact ⟨fun _ => rfl, fun _ => by decide⟩
  | some p =>
    have := H.2.2.2 p q
    refine ⟨fun r => absurd ?_ r, fun r => by cases r⟩
    show (0 : Int32) ≤ nI p
    rw [i32_le, Int32.toInt_zero, nI_toInt (by omega)]; omega
theorem tk_y {bt : Nat → Int32} {n c : Nat} {s : PSt} (h : hereP bt n s = nI c) : tkP bt n c s = advP s := if_pos h
theorem tk_n {bt : Nat → Int32} {n c : Nat} {s : PSt} (h : ¬ hereP bt n s = nI c) : tkP bt n c s = s := if_neg h
theorem nI_m1 {c : Nat} (h : c < 1000) : nI c ≠ (-1) := fun q => by
  have := i32_eq.mp q
  rw [nI_toInt (by omega), show (-1 : Int32).toInt = -1 from rfl] at this
  omega
theorem nm_some {o : Option Nat} (h : ¬ nmI o < 0) : ∃ j, o = some j := by
  cases o with
  | none => exact absurd (by decide) h
  | some j => exact ⟨j, rfl⟩
theorem nm_none {o : Option Nat} (hb : ∀ j, o = some j → j < 5) (h : nmI o < 0) : o = none := by
  cases o with
  | none => rfl
  | some j =>
    have := hb j rfl
    rw [show nmI (some j) = nI j from rfl, i32_lt, Int32.toInt_zero, nI_toInt (by omega)] at h
    omega
theorem j38 {a b : Int32} : joinR (nI 38) a b = b2i (¬ a = 0 ∧ ¬ b = 0) := rfl
theorem j124 {a b : Int32} : joinR (nI 124) a b = b2i (¬ a = 0 ∨ ¬ b = 0) := rfl
theorem j43 {a b : Int32} : joinR (nI 43) a b = a + b := rfl
theorem j45 {a b : Int32} : joinR (nI 45) a b = a - b := rfl
theorem j42 {a b : Int32} : joinR (nI 42) a b = a * b := rfl
theorem j47 {a b : Int32} : joinR (nI 47) a b = if b = 0 then nI 0 else a / b := rfl
theorem j37 {a b : Int32} : joinR (nI 37) a b = if b = 0 then nI 0 else a - a / b * b := rfl
theorem j60 {a b : Int32} : joinR (nI 60) a b = b2i (a < b) := rfl
theorem j61 {a b : Int32} : joinR (nI 61) a b = b2i (a = b) := rfl
theorem j62 {a b : Int32} : joinR (nI 62) a b = b2i (b < a) := rfl
theorem run_sign {c : Int32} (hc : c ∈ [nI 38, nI 42, nI 43, nI 45, nI 47, nI 60, nI 61, nI 62, nI 124, nI 37]) {nm : Nat → Int32} {st : List Int32} {v w : Int32} : runL [-c] nm (w :: v :: st) = joinR c v w :: st := by
  have key : ∀ c ∈ [nI 38, nI 42, nI 43, nI 45, nI 47, nI 60, nI 61, nI 62, nI 124, nI 37], ¬ (0 : Int32) ≤ -c ∧ ¬ (-5 : Int32) ≤ -c ∧ ¬ -c = (-33) ∧ -(-c) = c := by decide
  obtain ⟨h1, h2, h3, h4⟩ := key c hc
  unfold runL
  rw [List.foldl_cons, List.foldl_nil, step_j h1 h2 h3, h4]
theorem run_bang {nm : Nat → Int32} {st : List Int32} {v : Int32} : runL [(-33)] nm (v :: st) = b2i (v = 0) :: st := by
  unfold runL
  rw [List.foldl_cons, List.foldl_nil, step_b (by decide) (by decide) rfl]
/-- one part more -/
theorem val_on {a b : List Int32} {c : Int32} (hc : c ∈ [nI 38, nI 42, nI 43, nI 45, nI 47, nI 60, nI 61, nI 62, nI 124, nI 37]) {nm : Nat → Int32} {v w x : Int32} (ha : ∀ st, runL a nm st = v :: st) (hb : ∀ st, runL b nm st = w :: st) (hx : x = joinR c v w) : ∀ st, runL (a ++ b ++ [-c]) nm st = x :: st := by
  intro st
  rw [runL_app, runL_app, ha, hb, run_sign hc, hx]
theorem loop_on {bt : Nat → Int32} {n f : Nat} {ops : List Int32} {F : PF} {c : List Int32} {t : PSt} (h : hereP bt n t ∈ ops) : loopP bt n ops F (f + 1) c t = loopP bt n ops F f (c ++ (F (advP t)).1 ++ [-hereP bt n t]) (F (advP t)).2 := by rw [loopP, if_pos h]
theorem loop_off {bt : Nat → Int32} {n f : Nat} {ops : List Int32} {F : PF} {c : List Int32} {t : PSt} (h : ¬ hereP bt n t ∈ ops) : loopP bt n ops F (f + 1) c t = (c, t) := by rw [loopP, if_neg h]

abbrev P_X10_here (h : Mm) (bt : Nat → Int32) (n B u : Nat) (nm : Nat → Int32) (s : PSt) : Option Value → Mm → Prop := fun r h2 => r = some (.int (hereP bt n s)) ∧ h = h2
theorem c_X10_here {l : Launch} (h : Mm) (bt : Nat → Int32) (n B u : Nat) (nm : Nat → Int32) (s : PSt) (hX : PX h bt n B u nm) (hM : PM h n s)  : Con l yX10_here cX10_here 1 (some .int) 0 0 132 GL h [.ref 118] (P_X10_here h bt n B u nm s) := by
  refine Con.ofV (own := "FoxRoundsModel") (nm := "here") rfl rfl (by decide) (Nat.le_of_ble_eq_true rfl) ?_
  intro κ ρ hkl K
  subst hkl
  show V κ (QM κ (132, ρ, GL, 0, 0) (P_X10_here h bt n B u nm s)) 1 (132, ρ, GL, 0, 0) h 0 [(0, .ref 118)] []
  have hn50 := hX.2.2.2.2.2.1
  have hBn := hX.2.2.2.2.1
  have hsn := hM.2.1
  have hs5 := hM.2.2.1
  refine v_aload_n K dX10_here_0 rfl ?_
  refine v_geti (x := nI s.1) K fX10_55 sh_118 pl_118 hM.1.1 dX10_here_1 ?_
  refine v_aload_n K dX10_here_4 rfl ?_
  refine v_geti (x := nI n) K fX10_59 sh_118 pl_118 hX.2.1 dX10_here_5 ?_
  refine v_icmpN_ge (tgt := 35) K (by omega) (by omega) dX10_here_8 rfl (fun c1 => ?_) (fun c1 => ?_)
  · skip
    refine v_iconst (v := (-1)) K dX10_here_35 (by decide) ?_
    refine v_iret K dX10_here_36 ?_
    exact ⟨some_int (by unfold hereP; rw [if_neg (fun q => by have := q.1; omega)]), rfl⟩
  · skip
    refine v_aload_n K dX10_here_11 rfl ?_
    refine v_geti (x := fltI s.2.1) K fX10_62 sh_118 pl_118 hM.1.2.1 dX10_here_12 ?_
    refine v_if_ge (tgt := 35) K dX10_here_15 rfl (fun c2 => ?_) (fun c2 => ?_)
    · skip
      refine v_iconst (v := (-1)) K dX10_here_35 (by decide) ?_
      refine v_iret K dX10_here_36 ?_
      exact ⟨some_int (by unfold hereP; rw [if_neg (fun q => absurd c2 ((flt_neg hM hn50).mpr q.2))]), rfl⟩
    · skip
      refine v_aload_n K dX10_here_18 rfl ?_
      refine v_getr (q := 119) K fX10_7 sh_118 pl_118 gl_118_0 dX10_here_19 ?_
      refine v_aload_n K dX10_here_22 rfl ?_
      refine v_geti (x := nI B) K fX10_65 sh_118 pl_118 hX.1 dX10_here_23 ?_
      refine v_aload_n K dX10_here_26 rfl ?_
      refine v_geti (x := nI s.1) K fX10_55 sh_118 pl_118 hM.1.1 dX10_here_27 ?_
      refine v_iaddN K dX10_here_30 ?_
      refine v_iald (x := bt s.1) K sh_119 pl_119 (by omega) (hX.2.2.2.1 _ (by assumption)) dX10_here_31 ?_
      refine v_goto (tgt := 36) K dX10_here_32 rfl ?_
      refine v_iret K dX10_here_36 ?_
      exact ⟨some_int (by unfold hereP; rw [if_pos ⟨c1, (flt_neg hM hn50).mp c2⟩]), rfl⟩

abbrev P_X10_wrong (h : Mm) (bt : Nat → Int32) (n B u : Nat) (nm : Nat → Int32) (s : PSt) : Option Value → Mm → Prop := fun r h2 => r = some (.int (nI 0)) ∧ PM h2 n (wrongP s) ∧ FrP h h2
theorem c_X10_wrong {l : Launch} (h : Mm) (bt : Nat → Int32) (n B u : Nat) (nm : Nat → Int32) (s : PSt) (hX : PX h bt n B u nm) (hM : PM h n s)  : Con l yX10_wrong cX10_wrong 1 (some .int) 0 0 132 GL h [.ref 118] (P_X10_wrong h bt n B u nm s) := by
  refine Con.ofV (own := "FoxRoundsModel") (nm := "wrong") rfl rfl (by decide) (Nat.le_of_ble_eq_true rfl) ?_
  intro κ ρ hkl K
  subst hkl
  show V κ (QM κ (132, ρ, GL, 0, 0) (P_X10_wrong h bt n B u nm s)) 1 (132, ρ, GL, 0, 0) h 0 [(0, .ref 118)] []
  have hn50 := hX.2.2.2.2.2.1
  have hBn := hX.2.2.2.2.1
  have hsn := hM.2.1
  have hs5 := hM.2.2.1
  refine v_aload_n K dX10_wrong_0 rfl ?_
  refine v_aload_n K dX10_wrong_1 rfl ?_
  refine v_geti (x := fltI s.2.1) K fX10_62 sh_118 pl_118 hM.1.2.1 dX10_wrong_2 ?_
  refine v_if_ge (tgt := 15) K dX10_wrong_5 rfl (fun c1 => ?_) (fun c1 => ?_)
  · skip
    refine v_aload_n K dX10_wrong_15 rfl ?_
    refine v_geti (x := fltI s.2.1) K fX10_62 sh_118 pl_118 hM.1.2.1 dX10_wrong_16 ?_
    refine v_puti K pX10_62 sh_118 pl_118 dX10_wrong_19 ?_
    have hMm1 : PM (u2 h 118 8 (fltI s.2.1)) n (wrongP s) := hM.wr1 (fun q => absurd c1 ((flt_neg hM hn50).mpr q))
    have hFm1 : FrP h (u2 h 118 8 (fltI s.2.1)) := FrP.u (FrP.r (h := h)) (by omega)
    have hXm1 := PX.fr hX hFm1
    refine v_iconstN K 0 rfl dX10_wrong_22 ?_
    refine v_iret K dX10_wrong_23 ?_
    exact ⟨rfl, hMm1, hFm1⟩
  · skip
    refine v_aload_n K dX10_wrong_8 rfl ?_
    refine v_geti (x := nI s.1) K fX10_55 sh_118 pl_118 hM.1.1 dX10_wrong_9 ?_
    refine v_goto (tgt := 19) K dX10_wrong_12 rfl ?_
    refine v_puti K pX10_62 sh_118 pl_118 dX10_wrong_19 ?_
    have hMm2 : PM (u2 h 118 8 (nI s.1)) n (wrongP s) := hM.wr0 ((flt_neg hM hn50).mp c1)
    have hFm2 : FrP h (u2 h 118 8 (nI s.1)) := FrP.u (FrP.r (h := h)) (by omega)
    have hXm2 := PX.fr hX hFm2
    refine v_iconstN K 0 rfl dX10_wrong_22 ?_
    refine v_iret K dX10_wrong_23 ?_
    exact ⟨rfl, hMm2, hFm2⟩

abbrev P_X10_takes (h : Mm) (bt : Nat → Int32) (n B u : Nat) (nm : Nat → Int32) (s : PSt) (c : Nat) : Option Value → Mm → Prop := fun r h2 => r = some (.int (b2i (hereP bt n s = nI c))) ∧ PM h2 n (tkP bt n c s) ∧ FrP h h2
theorem c_X10_takes {l : Launch} (h : Mm) (bt : Nat → Int32) (n B u : Nat) (nm : Nat → Int32) (s : PSt) (c : Nat) (hX : PX h bt n B u nm) (hM : PM h n s) (hc : c < 1000) : Con l yX10_takes cX10_takes 2 (some .boolean) 1 20 132 GL h [.ref 118, .int (nI c)] (P_X10_takes h bt n B u nm s c) := by
  refine Con.ofV (own := "FoxRoundsModel") (nm := "takes") rfl rfl (by decide) (Nat.le_of_ble_eq_true rfl) ?_
  intro κ ρ hkl K
  subst hkl
  show V κ (QM κ (132, ρ, GL, 0, 0) (P_X10_takes h bt n B u nm s c)) 2 (132, ρ, GL, 0, 0) h 0 [(0, .ref 118), (1, .int (nI c))] []
  have hn50 := hX.2.2.2.2.2.1
  have hBn := hX.2.2.2.2.1
  have hsn := hM.2.1
  have hs5 := hM.2.2.1
  refine v_aload_n K dX10_takes_0 rfl ?_
  refine v_callV (As := []) K (c_X10_here h bt n B u nm s hX hM) lX10_68 ck_X10 rfl sh_118 pl_118 rfl ⟨by decide, by decide⟩ (Nat.le_of_ble_eq_true rfl) dX10_takes_1 (fun r1 h1 hp1 => ?_) rfl
  obtain ⟨rfl, rfl⟩ := hp1
  refine v_some ?_
  refine v_iload_n K dX10_takes_4 rfl ?_
  refine v_icmp_eq (tgt := 10) K dX10_takes_5 rfl (fun c1 => ?_) (fun c1 => ?_)
  · skip
    refine v_aload_n K dX10_takes_10 rfl ?_
    refine v_dup K dX10_takes_11 rfl ?_
    refine v_geti (x := nI s.1) K fX10_55 sh_118 pl_118 hM.1.1 dX10_takes_12 ?_
    refine v_iconstN K 1 rfl dX10_takes_15 ?_
    refine v_iaddN K dX10_takes_16 ?_
    refine v_puti K pX10_55 sh_118 pl_118 dX10_takes_17 ?_
    have hMm1 : PM (u2 h 118 6 (nI (s.1 + 1))) n (advP s) := hM.adv (hereP_lt c1 (nI_m1 hc)).1
    have hFm1 : FrP h (u2 h 118 6 (nI (s.1 + 1))) := FrP.u (FrP.r (h := h)) (by omega)
    have hXm1 := PX.fr hX hFm1
    refine v_iconstN K 1 rfl dX10_takes_20 ?_
    refine v_zret K dX10_takes_21 (by decide) ?_
    exact ⟨some_int (b2i_t c1).symm, by rw [tk_y c1]; exact hMm1, hFm1⟩
  · skip
    refine v_iconstN K 0 rfl dX10_takes_8 ?_
    refine v_zret K dX10_takes_9 (by decide) ?_
    exact ⟨some_int (b2i_f c1).symm, by rw [tk_n c1]; exact hM, (FrP.r (h := h))⟩

abbrev P_X10_nameOf (h : Mm) (bt : Nat → Int32) (n B u : Nat) (nm : Nat → Int32) (s : PSt) (c : Int32) : Option Value → Mm → Prop := fun r h2 => r = some (.int (nmI (nameP u c))) ∧ h = h2
theorem c_X10_nameOf {l : Launch} (h : Mm) (bt : Nat → Int32) (n B u : Nat) (nm : Nat → Int32) (s : PSt) (c : Int32) (hX : PX h bt n B u nm) (hM : PM h n s)  : Con l yX10_nameOf cX10_nameOf 2 (some .int) 0 0 132 GL h [.ref 118, .int c] (P_X10_nameOf h bt n B u nm s c) := by
  refine Con.ofV (own := "FoxRoundsModel") (nm := "nameOf") rfl rfl (by decide) (Nat.le_of_ble_eq_true rfl) ?_
  intro κ ρ hkl K
  subst hkl
  show V κ (QM κ (132, ρ, GL, 0, 0) (P_X10_nameOf h bt n B u nm s c)) 2 (132, ρ, GL, 0, 0) h 0 [(0, .ref 118), (1, .int c)] []
  have hn50 := hX.2.2.2.2.2.1
  have hBn := hX.2.2.2.2.1
  have hsn := hM.2.1
  have hs5 := hM.2.2.1
  have hu := hX.2.2.2.2.2.2.1
  refine v_aload_n K dX10_nameOf_0 rfl ?_
  refine v_geti (x := nI u) K fX10_72 sh_118 pl_118 hX.2.2.1 dX10_nameOf_1 ?_
  refine v_ifN_ne (tgt := 59) K (by omega) dX10_nameOf_4 rfl (fun c1 => ?_) (fun c1 => ?_)
  · skip
    refine v_aload_n K dX10_nameOf_59 rfl ?_
    refine v_geti (x := nI u) K fX10_72 sh_118 pl_118 hX.2.2.1 dX10_nameOf_60 ?_
    refine v_iconstN K 1 rfl dX10_nameOf_63 ?_
    refine v_icmpN_ne (tgt := 99) K (by omega) (by omega) dX10_nameOf_64 rfl (fun c2 => ?_) (fun c2 => ?_)
    · skip
      refine v_iload_n K dX10_nameOf_99 rfl ?_
      refine v_bipushN K 97 rfl dX10_nameOf_100 ?_
      refine v_icmp_ne (tgt := 109) K dX10_nameOf_102 rfl (fun c3 => ?_) (fun c3 => ?_)
      · skip
        refine v_iload_n K dX10_nameOf_109 rfl ?_
        refine v_bipushN K 116 rfl dX10_nameOf_110 ?_
        refine v_icmp_ne (tgt := 119) K dX10_nameOf_112 rfl (fun c4 => ?_) (fun c4 => ?_)
        · skip
          refine v_iconst (v := (-1)) K dX10_nameOf_119 (by decide) ?_
          refine v_iret K dX10_nameOf_120 ?_
          exact ⟨some_int (by unfold nameP; rw [if_neg (by omega), if_neg c2, if_neg c3, if_neg c4]; rfl), rfl⟩
        · skip
          refine v_iconstN K 1 rfl dX10_nameOf_115 ?_
          refine v_goto (tgt := 120) K dX10_nameOf_116 rfl ?_
          refine v_iret K dX10_nameOf_120 ?_
          exact ⟨some_int (by unfold nameP; rw [if_neg (by omega), if_neg c2, if_neg c3, if_pos c4]; rfl), rfl⟩
      · skip
        refine v_iconstN K 0 rfl dX10_nameOf_105 ?_
        refine v_goto (tgt := 120) K dX10_nameOf_106 rfl ?_
        refine v_iret K dX10_nameOf_120 ?_
        exact ⟨some_int (by unfold nameP; rw [if_neg (by omega), if_neg c2, if_pos c3]; rfl), rfl⟩
    · skip
      refine v_iload_n K dX10_nameOf_67 rfl ?_
      refine v_bipushN K 104 rfl dX10_nameOf_68 ?_
      refine v_icmp_ne (tgt := 77) K dX10_nameOf_70 rfl (fun c5 => ?_) (fun c5 => ?_)
      · skip
        refine v_iload_n K dX10_nameOf_77 rfl ?_
        refine v_bipushN K 102 rfl dX10_nameOf_78 ?_
        refine v_icmp_ne (tgt := 87) K dX10_nameOf_80 rfl (fun c6 => ?_) (fun c6 => ?_)
        · skip
          refine v_iload_n K dX10_nameOf_87 rfl ?_
          refine v_bipushN K 103 rfl dX10_nameOf_88 ?_
          refine v_icmp_ne (tgt := 97) K dX10_nameOf_90 rfl (fun c7 => ?_) (fun c7 => ?_)
          · skip
            refine v_iconst (v := (-1)) K dX10_nameOf_97 (by decide) ?_
            refine v_iret K dX10_nameOf_98 ?_
            exact ⟨some_int (by unfold nameP; rw [if_neg (by omega), if_pos c2, if_neg c5, if_neg c6, if_neg c7]; rfl), rfl⟩
          · skip
            refine v_iconstN K 2 rfl dX10_nameOf_93 ?_
            refine v_goto (tgt := 98) K dX10_nameOf_94 rfl ?_
            refine v_iret K dX10_nameOf_98 ?_
            exact ⟨some_int (by unfold nameP; rw [if_neg (by omega), if_pos c2, if_neg c5, if_neg c6, if_pos c7]; rfl), rfl⟩
        · skip
          refine v_iconstN K 1 rfl dX10_nameOf_83 ?_
          refine v_goto (tgt := 98) K dX10_nameOf_84 rfl ?_
          refine v_iret K dX10_nameOf_98 ?_
          exact ⟨some_int (by unfold nameP; rw [if_neg (by omega), if_pos c2, if_neg c5, if_pos c6]; rfl), rfl⟩
      · skip
        refine v_iconstN K 0 rfl dX10_nameOf_73 ?_
        refine v_goto (tgt := 98) K dX10_nameOf_74 rfl ?_
        refine v_iret K dX10_nameOf_98 ?_
        exact ⟨some_int (by unfold nameP; rw [if_neg (by omega), if_pos c2, if_pos c5]; rfl), rfl⟩
  · skip
    refine v_iload_n K dX10_nameOf_7 rfl ?_
    refine v_bipushN K 101 rfl dX10_nameOf_8 ?_
    refine v_icmp_ne (tgt := 17) K dX10_nameOf_10 rfl (fun c8 => ?_) (fun c8 => ?_)
    · skip
      refine v_iload_n K dX10_nameOf_17 rfl ?_
      refine v_bipushN K 98 rfl dX10_nameOf_18 ?_
      refine v_icmp_ne (tgt := 27) K dX10_nameOf_20 rfl (fun c9 => ?_) (fun c9 => ?_)
      · skip
        refine v_iload_n K dX10_nameOf_27 rfl ?_
        refine v_bipushN K 109 rfl dX10_nameOf_28 ?_
        refine v_icmp_ne (tgt := 37) K dX10_nameOf_30 rfl (fun c10 => ?_) (fun c10 => ?_)
        · skip
          refine v_iload_n K dX10_nameOf_37 rfl ?_
          refine v_bipushN K 119 rfl dX10_nameOf_38 ?_
          refine v_icmp_ne (tgt := 47) K dX10_nameOf_40 rfl (fun c11 => ?_) (fun c11 => ?_)
          · skip
            refine v_iload_n K dX10_nameOf_47 rfl ?_
            refine v_bipushN K 116 rfl dX10_nameOf_48 ?_
            refine v_icmp_ne (tgt := 57) K dX10_nameOf_50 rfl (fun c12 => ?_) (fun c12 => ?_)
            · skip
              refine v_iconst (v := (-1)) K dX10_nameOf_57 (by decide) ?_
              refine v_iret K dX10_nameOf_58 ?_
              exact ⟨some_int (by unfold nameP; rw [if_pos c1, if_neg c8, if_neg c9, if_neg c10, if_neg c11, if_neg c12]; rfl), rfl⟩
            · skip
              refine v_iconstN K 4 rfl dX10_nameOf_53 ?_
              refine v_goto (tgt := 58) K dX10_nameOf_54 rfl ?_
              refine v_iret K dX10_nameOf_58 ?_
              exact ⟨some_int (by unfold nameP; rw [if_pos c1, if_neg c8, if_neg c9, if_neg c10, if_neg c11, if_pos c12]; rfl), rfl⟩
          · skip
            refine v_iconstN K 3 rfl dX10_nameOf_43 ?_
            refine v_goto (tgt := 58) K dX10_nameOf_44 rfl ?_
            refine v_iret K dX10_nameOf_58 ?_
            exact ⟨some_int (by unfold nameP; rw [if_pos c1, if_neg c8, if_neg c9, if_neg c10, if_pos c11]; rfl), rfl⟩
        · skip
          refine v_iconstN K 2 rfl dX10_nameOf_33 ?_
          refine v_goto (tgt := 58) K dX10_nameOf_34 rfl ?_
          refine v_iret K dX10_nameOf_58 ?_
          exact ⟨some_int (by unfold nameP; rw [if_pos c1, if_neg c8, if_neg c9, if_pos c10]; rfl), rfl⟩
      · skip
        refine v_iconstN K 1 rfl dX10_nameOf_23 ?_
        refine v_goto (tgt := 58) K dX10_nameOf_24 rfl ?_
        refine v_iret K dX10_nameOf_58 ?_
        exact ⟨some_int (by unfold nameP; rw [if_pos c1, if_neg c8, if_pos c9]; rfl), rfl⟩
    · skip
      refine v_iconstN K 0 rfl dX10_nameOf_13 ?_
      refine v_goto (tgt := 58) K dX10_nameOf_14 rfl ?_
      refine v_iret K dX10_nameOf_58 ?_
      exact ⟨some_int (by unfold nameP; rw [if_pos c1, if_pos c8]; rfl), rfl⟩
