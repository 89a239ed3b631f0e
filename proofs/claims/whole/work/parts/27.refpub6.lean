theorem RR.X {h h2 s : Mm} (H : RR h s) (F : FrX h h2) : RR h2 s := H.fr (fun a ha => F.1 a (by unfold RA at ha; omega) (by unfold RA at ha; omega)) (F.2 3 (by omega)) (F.2 16 (by omega))
theorem RR.W {h h2 s : Mm} (H : RR h s) (F : FrW h h2) : RR h2 s := H.X F.X
theorem flt_lt {o : Option Nat} (hb : ∀ p, o = some p → p ≤ 50) (c : fltI o < 0) : o = none := by
  cases o with
  | none => rfl
  | some p =>
    have := hb p rfl
    rw [show fltI (some p) = nI p from rfl, i32_lt, Int32.toInt_zero, nI_toInt (by omega)] at c
    omega
theorem flt_ge {o : Option Nat} (c : ¬ fltI o < 0) : ∃ p, o = some p := by
  cases o with
  | none => exact absurd (by decide) c
  | some p => exact ⟨p, rfl⟩
theorem fault_le {bt : Nat → Int32} {n u : Nat} (hn : n ≤ 50) : ∀ p, faultP bt n u = some p → p ≤ 50 := by
  intro p hp
  have G := either_good (bt := bt) (n := n) (unit_good (bt := bt) (n := n) (u := u) 5) (0, none, 0) ⟨Nat.zero_le _, rfl, rfl⟩
  have g2 : (parseE bt n u).2.1 ≤ n := G.2.1
  have g3 : ∀ p, (parseE bt n u).2.2.1 = some p → p ≤ n := G.2.2.2.2.2
  unfold faultP at hp
  split at hp
  · have := Option.some.inj hp; omega
  · have := g3 p hp; omega
/-- a TEXT of a use from the tape: its first i bytes are there -/
def txtR (d : Dm) (u n i : Nat) : Dm := fun k => if 134 + 50 * u ≤ k ∧ k < 134 + 50 * u + i then d (284 + (k - (134 + 50 * u))) else if k = 110 + u then nI n else if k = 13 then nI 0 else d k
theorem txt_0 {d : Dm} {u n : Nat} : upd (upd d 13 (nI 0)) (110 + u) (nI n) = txtR d u n 0 := by
  funext k
  unfold txtR
  rw [if_neg (by omega)]
  by_cases e : k = 110 + u
  · subst e; rw [upd_at, if_pos rfl]
  · rw [upd_ne e, if_neg e]
    by_cases e2 : k = 13
    · subst e2; rw [upd_at, if_pos rfl]
    · rw [upd_ne e2, if_neg e2]
theorem txt_s {d : Dm} {u n i : Nat} (hu : u < 3) (hi : i < 50) : upd (txtR d u n i) (134 + 50 * u + i) (d (284 + i)) = txtR d u n (i + 1) := by
  funext k
  by_cases e : k = 134 + 50 * u + i
  · subst e; unfold txtR; rw [upd_at, if_pos (by omega)]; congr 1; omega
  · rw [upd_ne e]
    unfold txtR
    by_cases c : 134 + 50 * u ≤ k ∧ k < 134 + 50 * u + i
    · rw [if_pos c, if_pos (by omega)]
    · rw [if_neg c, if_neg (show ¬ (134 + 50 * u ≤ k ∧ k < 134 + 50 * u + (i + 1)) by omega)]
theorem txt_t {d : Dm} {u n i j : Nat} (hu : u < 3) (hi : i ≤ 50) : txtR d u n i (284 + j) = d (284 + j) := by
  unfold txtR; rw [if_neg (by omega), if_neg (by omega), if_neg (by omega)]
noncomputable def textY (s : Mm) (u n : Nat) (o : Option Nat) : Rs := match o with
  | some p => ((-10) - nI p, u2 s 119 13 (nI 0))
  | none => (nI 1, rw2 s 119 (txtR (s 119) u n n))

noncomputable def Y_law (s : Mm) (τ : Nat → List Int32) (w a b c : Int32) : Rs := @ite _ (w = nI 0) (Classical.propDecidable _) (entersE τ a b c (nI 0) (nI 0), s) ( @ite _ (w = nI 1) (Classical.propDecidable _) (killsE τ a b c, s) ( @ite _ (w = nI 2) (Classical.propDecidable _) (staysE τ a b, s) ( er s 1)))

noncomputable def Y_text (s : Mm) (w : Int32) : Rs := @ite _ (¬ (ix w 3)) (Classical.propDecidable _) (er s 1) ( textY s w.toNatClampNeg (s 119 13).toNatClampNeg (faultP (bytD (s 119) 284 (s 119 13).toNatClampNeg) (s 119 13).toNatClampNeg w.toNatClampNeg))

abbrev P_X10_law (h s : Mm) (τ τk : Nat → List Int32) (w a b c : Int32) : Option Value → Mm → Prop := fun r h2 => r = some (.int (Y_law s τ w a b c).1) ∧ RR h2 (Y_law s τ w a b c).2
theorem c_X10_law {l : Launch} (h s : Mm) (τ τk : Nat → List Int32) (w a b c : Int32) (hR : RR h s) (hI : INV s τ τk) : Con l yX10_law cX10_law 5 (some .int) 40 916 132 GL h [.ref 118, .int w, .int a, .int b, .int c] (P_X10_law h s τ τk w a b c) := by
  refine Con.ofV (own := "FoxRoundsModel") (nm := "law") rfl rfl (by decide) (Nat.le_of_ble_eq_true rfl) ?_
  intro κ ρ hkl K
  subst hkl
  show V κ (QM κ (132, ρ, GL, 0, 0) (P_X10_law h s τ τk w a b c)) 5 (132, ρ, GL, 0, 0) h 0 [(0, .ref 118), (1, .int w), (2, .int a), (3, .int b), (4, .int c)] []
  have hd := hI.d
  have hn8 := hd.nw8
  have ht5 := hd.nt5
  have hT : TXD (h 119) τ := by rw [hR.1 119 RA_119]; exact hI.x
  refine v_iload_n K dX10_law_0 rfl ?_
  rcases ixo_3 w with rfl | rfl | rfl | hout
  · skip
    refine v_tinN (off := 27) (tgt := 28) K (by decide) 0 dX10_law_1 (by decide) (by decide) (by decide) rfl rfl ?_
    refine v_aload_n K dX10_law_28 rfl ?_
    refine v_getr (q := 119) K fX10_7 sh_118 pl_118 gl_118_0 dX10_law_29 ?_
    refine v_bipushN K 110 rfl dX10_law_32 ?_
    refine v_iald (x := h 119 110) K sh_119 pl_119 (by omega) rfl dX10_law_34 ?_
    refine v_if_ne (tgt := 52) K dX10_law_35 rfl (fun c1 => ?_) (fun c1 => ?_)
    · skip
      obtain ⟨n, hn50, hd0, hf, hτu⟩ : ∃ n, n ≤ 50 ∧ h 119 (110 + 0) = nI n ∧ faultP (bytD (h 119) (134 + 50 * 0) n) n 0 = none ∧ τ 0 = (parseE (bytD (h 119) (134 + 50 * 0) n) n 0).1 := by
        rcases hT.two (u := 0) (by omega) with ⟨q, _⟩ | ⟨_, _, q⟩
        · exact absurd q (fun e => c1 (by rw [e]; decide))
        · exact q
      refine v_aload_n K dX10_law_52 rfl ?_
      refine v_iload_n K dX10_law_53 rfl ?_
      refine v_iload_n K dX10_law_54 rfl ?_
      refine v_iload K dX10_law_55 rfl ?_
      refine v_callV (As := [.int a, .int b, .int c]) K (c_X10_isNamed h a b c) lX10_124 ck_X10 rfl sh_118 pl_118 rfl ⟨by decide, by decide⟩ (Nat.le_of_ble_eq_true rfl) dX10_law_57 (fun r1 h1 hp1 => ?_) rfl
      obtain ⟨rfl, hNq1, hOq1⟩ := hp1
      have hGq1 := (FrX.r (h := h)).t hOq1.X
      have hRxw1 := hR.X hGq1
      refine v_none ?_
      refine v_aload_n K dX10_law_60 rfl ?_
      refine v_iconstN K 0 rfl dX10_law_61 ?_
      have e119q2 : h1 119 = h 119 := hGq1.1 119 (by omega) (by omega)
      have hevq2 : evalR (parseE (bytD (h1 119) (134 + 50 * 0) n) n 0).1 (nmv a b c (nI 0) (nI 0)) = evalR (τ 0) (nmv a b c (nI 0) (nI 0)) := by rw [e119q2, hτu]
      refine v_callV (As := [.int (nI 0)]) K (c_X10_byText h1 n 0 (nmv a b c (nI 0) (nI 0)) (by omega) hn50 (by rw [e119q2]; exact hd0) (by rw [e119q2]; exact hf) hNq1) lX10_128 ck_X10 rfl sh_118 pl_118 rfl ⟨by decide, by decide⟩ (Nat.le_of_ble_eq_true rfl) dX10_law_62 (fun r2 h2 hp2 => ?_) rfl
      obtain ⟨rfl, hWq2⟩ := hp2
      have hGq2 := hGq1.t hWq2.X
      have hRxw2 := hR.X hGq2
      refine v_some ?_
      rw [hevq2]
      refine v_iret K dX10_law_65 ?_
      have eY : Y_law s τ (nI 0) a b c = (evalR (τ 0) (nmv a b c (nI 0) (nI 0)), s) := by
        unfold Y_law
        refine (@if_pos _ (Classical.propDecidable _) rfl _ _ _).trans ?_
        first | rfl | ((try rw [cl_ix (show 0 < 2 ^ 31 by omega)]))
      exact rfin eY hRxw2
    · skip
      have hτ1 : τ 0 = firstR 0 := by
        rcases hT.two (u := 0) (by omega) with ⟨_, q⟩ | ⟨q1, q2, _⟩
        · exact q
        · exact absurd c1 q2
      refine v_iload_n K dX10_law_38 rfl ?_
      refine v_iload_n K dX10_law_39 rfl ?_
      refine v_iadd K dX10_law_40 ?_
      refine v_bipushN K 99 rfl dX10_law_41 ?_
      refine v_icmp_le (tgt := 50) K dX10_law_43 rfl (fun c2 => ?_) (fun c2 => ?_)
      · skip
        refine v_iconstN K 0 rfl dX10_law_50 ?_
        refine v_iret K dX10_law_51 ?_
        have eY : Y_law s τ (nI 0) a b c = (nI 0, s) := by
          unfold Y_law
          refine (@if_pos _ (Classical.propDecidable _) rfl _ _ _).trans ?_
          refine Prod.ext ?_ rfl; show evalR (τ 0) (nmv a b c (nI 0) (nI 0)) = _; rw [hτ1, first_0]; exact b2i_f (Int32.not_lt.mpr c2)
        exact rfin eY hR
      · skip
        refine v_iconstN K 1 rfl dX10_law_46 ?_
        refine v_goto (tgt := 51) K dX10_law_47 rfl ?_
        refine v_iret K dX10_law_51 ?_
        have eY : Y_law s τ (nI 0) a b c = (nI 1, s) := by
          unfold Y_law
          refine (@if_pos _ (Classical.propDecidable _) rfl _ _ _).trans ?_
          refine Prod.ext ?_ rfl; show evalR (τ 0) (nmv a b c (nI 0) (nI 0)) = _; rw [hτ1, first_0]; exact b2i_t (Int32.not_le.mp c2)
        exact rfin eY hR
  · skip
    refine v_tinN (off := 65) (tgt := 66) K (by decide) 1 dX10_law_1 (by decide) (by decide) (by decide) rfl rfl ?_
    refine v_aload_n K dX10_law_66 rfl ?_
    refine v_iload_n K dX10_law_67 rfl ?_
    refine v_iload_n K dX10_law_68 rfl ?_
    refine v_iload K dX10_law_69 rfl ?_
    refine v_callV (As := [.int a, .int b, .int c]) K (c_X10_killsOf h τ a b c hT) lX10_134 ck_X10 rfl sh_118 pl_118 rfl ⟨by decide, by decide⟩ (Nat.le_of_ble_eq_true rfl) dX10_law_71 (fun r3 h3 hp3 => ?_) rfl
    obtain ⟨rfl, hXq3⟩ := hp3
    have hRxw3 := hR.X hXq3
    refine v_some ?_
    refine v_iret K dX10_law_74 ?_
    have eY : Y_law s τ (nI 1) a b c = (killsE τ a b c, s) := by
      unfold Y_law
      refine (@if_neg _ (Classical.propDecidable _) (by decide) _ _ _).trans ?_
      refine (@if_pos _ (Classical.propDecidable _) rfl _ _ _).trans ?_
      first | rfl | ((try rw [cl_ix (show 1 < 2 ^ 31 by omega)]))
    exact rfin eY hRxw3
  · skip
    refine v_tinN (off := 74) (tgt := 75) K (by decide) 2 dX10_law_1 (by decide) (by decide) (by decide) rfl rfl ?_
    refine v_aload_n K dX10_law_75 rfl ?_
    refine v_iload_n K dX10_law_76 rfl ?_
    refine v_iload_n K dX10_law_77 rfl ?_
    refine v_callV (As := [.int a, .int b]) K (c_X10_staysOf h τ a b hT) lX10_137 ck_X10 rfl sh_118 pl_118 rfl ⟨by decide, by decide⟩ (Nat.le_of_ble_eq_true rfl) dX10_law_78 (fun r4 h4 hp4 => ?_) rfl
    obtain ⟨rfl, hXq4⟩ := hp4
    have hRxw4 := hR.X hXq4
    refine v_some ?_
    refine v_iret K dX10_law_81 ?_
    have eY : Y_law s τ (nI 2) a b c = (staysE τ a b, s) := by
      unfold Y_law
      refine (@if_neg _ (Classical.propDecidable _) (by decide) _ _ _).trans ?_
      refine (@if_neg _ (Classical.propDecidable _) (by decide) _ _ _).trans ?_
      refine (@if_pos _ (Classical.propDecidable _) rfl _ _ _).trans ?_
      first | rfl | ((try rw [cl_ix (show 2 < 2 ^ 31 by omega)]))
    exact rfin eY hRxw4
  · skip
    refine v_tout (tgt := 82) K dX10_law_1 (by exact hout) rfl ?_
    refine v_aload_n K dX10_law_82 rfl ?_
    refine v_iconstN K 1 rfl dX10_law_83 ?_
    refine v_callV (As := [.int (nI 1)]) K (c_X10_finds h 1 (by omega)) lX10_113 ck_X10 rfl sh_118 pl_118 rfl ⟨by decide, by decide⟩ (Nat.le_of_ble_eq_true rfl) dX10_law_84 (fun r5 h5 hp5 => ?_) rfl
    obtain ⟨rfl, rfl⟩ := hp5
    refine v_some ?_
    have hRf1 : RR (u2 h 122 1 (h 122 1 + nI 1)) (u2 s 122 1 (s 122 1 + nI 1)) := by rw [show (h 122 1) = s 122 1 from hR.at RA_122]; exact hR.u RA_122
    refine v_iret K dX10_law_87 ?_
    have eY : Y_law s τ w a b c = ((-1000000000) - nI 1, (u2 s 122 1 (s 122 1 + nI 1))) := by
      unfold Y_law
      refine (@if_neg _ (Classical.propDecidable _) (fun q => by subst q; rw [nI_toInt (by decide)] at hout; omega) _ _ _).trans ?_
      refine (@if_neg _ (Classical.propDecidable _) (fun q => by subst q; rw [nI_toInt (by decide)] at hout; omega) _ _ _).trans ?_
      refine (@if_neg _ (Classical.propDecidable _) (fun q => by subst q; rw [nI_toInt (by decide)] at hout; omega) _ _ _).trans ?_
      first | rfl | (rfl)
    exact rfin eY hRf1
