theorem RR.X {h h2 s : Mm} (H : RR h s) (F : FrX h h2) : RR h2 s := H.fr (fun a ha => F.1 a (by unfold RA at ha; omega) (by unfold RA at ha; omega)) (F.2 3 (by omega)) (F.2 16 (by omega))
theorem RR.W {h h2 s : Mm} (H : RR h s) (F : FrW h h2) : RR h2 s := H.X F.X
theorem flt_lt {o : Option Nat} (hb : ∀ p, o = some p → p ≤ 50) (c : fltI o < 0) : o = none := by
  cases o with
  | none => rfl
  | some p =>
    have := hb p rfl
    rw [show fltI (some p) = nI p from rfl, i32_lt, Int32.toInt_zero, nI_toInt (by omega)] at c
    omega
theorem flt_ge {o : Option Nat} (c : ¬ fltI o < 0) : ∃ p, o = some p := by
  cases o with
  | none => exact absurd (by decide) c
  | some p => exact ⟨p, rfl⟩
theorem fault_le {bt : Nat → Int32} {n u : Nat} (hn : n ≤ 50) : ∀ p, faultP bt n u = some p → p ≤ 50 := by
  intro p hp
  have G := either_good (bt := bt) (n := n) (unit_good (bt := bt) (n := n) (u := u) 5) (0, none, 0) ⟨Nat.zero_le _, rfl, rfl⟩
  have g2 : (parseE bt n u).2.1 ≤ n := G.2.1
  have g3 : ∀ p, (parseE bt n u).2.2.1 = some p → p ≤ n := G.2.2.2.2.2
  unfold faultP at hp
  split at hp
  · have := Option.some.inj hp; omega
  · have := g3 p hp; omega
/-- a TEXT of a use from the tape: its first i bytes are there -/
def txtR (d : Dm) (u n i : Nat) : Dm := fun k => if 134 + 50 * u ≤ k ∧ k < 134 + 50 * u + i then d (284 + (k - (134 + 50 * u))) else if k = 110 + u then nI n else if k = 13 then nI 0 else d k
theorem txt_0 {d : Dm} {u n : Nat} : upd (upd d 13 (nI 0)) (110 + u) (nI n) = txtR d u n 0 := by
  funext k
  unfold txtR
  rw [if_neg (by omega)]
  by_cases e : k = 110 + u
  · subst e; rw [upd_at, if_pos rfl]
  · rw [upd_ne e, if_neg e]
    by_cases e2 : k = 13
    · subst e2; rw [upd_at, if_pos rfl]
    · rw [upd_ne e2, if_neg e2]
theorem txt_s {d : Dm} {u n i : Nat} (hu : u < 3) (hi : i < 50) : upd (txtR d u n i) (134 + 50 * u + i) (d (284 + i)) = txtR d u n (i + 1) := by
  funext k
  by_cases e : k = 134 + 50 * u + i
  · subst e; unfold txtR; rw [upd_at, if_pos (by omega)]; congr 1; omega
  · rw [upd_ne e]
    unfold txtR
    by_cases c : 134 + 50 * u ≤ k ∧ k < 134 + 50 * u + i
    · rw [if_pos c, if_pos (by omega)]
    · rw [if_neg c, if_neg (show ¬ (134 + 50 * u ≤ k ∧ k < 134 + 50 * u + (i + 1)) by omega)]
theorem txt_t {d : Dm} {u n i j : Nat} (hu : u < 3) (hi : i ≤ 50) : txtR d u n i (284 + j) = d (284 + j) := by
  unfold txtR; rw [if_neg (by omega), if_neg (by omega), if_neg (by omega)]
noncomputable def textY (s : Mm) (u n : Nat) (o : Option Nat) : Rs := match o with
  | some p => ((-10) - nI p, u2 s 119 13 (nI 0))
  | none => (nI 1, rw2 s 119 (txtR (s 119) u n n))

noncomputable def Y_law (s : Mm) (τ : Nat → List Int32) (w a b c : Int32) : Rs := @ite _ (w = nI 0) (Classical.propDecidable _) (entersE τ a b c (nI 0) (nI 0), s) ( @ite _ (w = nI 1) (Classical.propDecidable _) (killsE τ a b c, s) ( @ite _ (w = nI 2) (Classical.propDecidable _) (staysE τ a b, s) ( er s 1)))

noncomputable def Y_text (s : Mm) (w : Int32) : Rs := @ite _ (¬ (ix w 3)) (Classical.propDecidable _) (er s 1) ( textY s w.toNatClampNeg (s 119 13).toNatClampNeg (faultP (bytD (s 119) 284 (s 119 13).toNatClampNeg) (s 119 13).toNatClampNeg w.toNatClampNeg))

abbrev P_X10_law (h s : Mm) (τ τk : Nat → List Int32) (w a b c : Int32) : Option Value → Mm → Prop := fun r h2 => r = some (.int (Y_law s τ w a b c).1) ∧ RR h2 (Y_law s τ w a b c).2
theorem c_X10_law {l : Launch} (h s : Mm) (τ τk : Nat → List Int32) (w a b c : Int32) (hR : RR h s) (hI : INV s τ τk) : Con l yX10_law cX10_law 5 (some .int) 40 916 132 GL h [.ref 118, .int w, .int a, .int b, .int c] (P_X10_law h s τ τk w a b c) := by
  refine Con.ofV (own := "FoxRoundsModel") (nm := "law") rfl rfl (by decide) (Nat.le_of_ble_eq_true rfl) ?_
  intro κ ρ hkl K
  subst hkl
  show V κ (QM κ (132, ρ, GL, 0, 0) (P_X10_law h s τ τk w a b c)) 5 (132, ρ, GL, 0, 0) h 0 [(0, .ref 118), (1, .int w), (2, .int a), (3, .int b), (4, .int c)] []
  have hd := hI.d
  have hn8 := hd.nw8
  have ht5 := hd.nt5
  have hT : TXD (h 119) τ := by rw [hR.1 119 RA_119]; exact hI.x
  refine v_iload_n K dX10_law_0 rfl ?_
  rcases ixo_3 w with rfl | rfl | rfl | hout
  · skip
    refine v_tinN (off := 27) (tgt := 28) K (by decide) 0 dX10_law_1 (by decide) (by decide) (by decide) rfl rfl ?_
    refine v_aload_n K dX10_law_28 rfl ?_
    refine v_getr (q := 119) K fX10_7 sh_118 pl_118 gl_118_0 dX10_law_29 ?_
    refine v_bipushN K 110 rfl dX10_law_32 ?_
    refine v_iald (x := h 119 110) K sh_119 pl_119 (by omega) rfl dX10_law_34 ?_
    refine v_if_ne (tgt := 52) K dX10_law_35 rfl (fun c1 => ?_) (fun c1 => ?_)
    · skip
      obtain ⟨n, hn50, hd0, hf, hτu⟩ : ∃ n, n ≤ 50 ∧ h 119 (110 + 0) = nI n ∧ faultP (bytD (h 119) (134 + 50 * 0) n) n 0 = none ∧ τ 0 = (parseE (bytD (h 119) (134 + 50 * 0) n) n 0).1 := by
        rcases hT.two (u := 0) (by omega) with ⟨q, _⟩ | ⟨_, _, q⟩
        · exact absurd q (fun e => c1 (by rw [e]; decide))
        · exact q
      refine v_aload_n K dX10_law_52 rfl ?_
      refine v_iload_n K dX10_law_53 rfl ?_
      refine v_iload_n K dX10_law_54 rfl ?_
      refine v_iload K dX10_law_55 rfl ?_
      refine v_callV (As := [.int a, .int b, .int c]) K (c_X10_isNamed h a b c) lX10_124 ck_X10 rfl sh_118 pl_118 rfl ⟨by decide, by decide⟩ (Nat.le_of_ble_eq_true rfl) dX10_law_57 (fun r1 h1 hp1 => ?_) rfl
      obtain ⟨rfl, hNq1, hOq1⟩ := hp1
      have hGq1 := (FrX.r (h := h)).t hOq1.X
      have hRxw1 := hR.X hGq1
      refine v_none ?_
      refine v_aload_n K dX10_law_60 rfl ?_
      refine v_iconstN K 0 rfl dX10_law_61 ?_
      have e119q2 : h1 119 = h 119 := hGq1.1 119 (by omega) (by omega)
      have hevq2 : evalR (parseE (bytD (h1 119) (134 + 50 * 0) n) n 0).1 (nmv a b c (nI 0) (nI 0)) = evalR (τ 0) (nmv a b c (nI 0) (nI 0)) := by rw [e119q2, hτu]
      refine v_callV (As := [.int (nI 0)]) K (c_X10_byText h1 n 0 (nmv a b c (nI 0) (nI 0)) (by omega) hn50 (by rw [e119q2]; exact hd0) (by rw [e119q2]; exact hf) hNq1) lX10_128 ck_X10 rfl sh_118 pl_118 rfl ⟨by decide, by decide⟩ (Nat.le_of_ble_eq_true rfl) dX10_law_62 (fun r2 h2 hp2 => ?_) rfl
      obtain ⟨rfl, hWq2⟩ := hp2
      have hGq2 := hGq1.t hWq2.X
      have hRxw2 := hR.X hGq2
      refine v_some ?_
      rw [hevq2]
      refine v_iret K dX10_law_65 ?_
      have eY : Y_law s τ (nI 0) a b c = (evalR (τ 0) (nmv a b c (nI 0) (nI 0)), s) := by
        unfold Y_law
        refine (@if_pos _ (Classical.propDecidable _) rfl _ _ _).trans ?_
        first | rfl | ((try rw [cl_ix (show 0 < 2 ^ 31 by omega)]))
      exact rfin eY hRxw2
    · skip
      have hτ1 : τ 0 = firstR 0 := by
        rcases hT.two (u := 0) (by omega) with ⟨_, q⟩ | ⟨q1, q2, _⟩
        · exact q
        · exact absurd c1 q2
      refine v_iload_n K dX10_law_38 rfl ?_
      refine v_iload_n K dX10_law_39 rfl ?_
      refine v_iadd K dX10_law_40 ?_
      refine v_bipushN K 99 rfl dX10_law_41 ?_
      refine v_icmp_le (tgt := 50) K dX10_law_43 rfl (fun c2 => ?_) (fun c2 => ?_)
      · skip
        refine v_iconstN K 0 rfl dX10_law_50 ?_
        refine v_iret K dX10_law_51 ?_
        have eY : Y_law s τ (nI 0) a b c = (nI 0, s) := by
          unfold Y_law
          refine (@if_pos _ (Classical.propDecidable _) rfl _ _ _).trans ?_
          refine Prod.ext ?_ rfl; show evalR (τ 0) (nmv a b c (nI 0) (nI 0)) = _; rw [hτ1, first_0]; exact b2i_f (Int32.not_lt.mpr c2)
        exact rfin eY hR
      · skip
        refine v_iconstN K 1 rfl dX10_law_46 ?_
        refine v_goto (tgt := 51) K dX10_law_47 rfl ?_
        refine v_iret K dX10_law_51 ?_
        have eY : Y_law s τ (nI 0) a b c = (nI 1, s) := by
          unfold Y_law
          refine (@if_pos _ (Classical.propDecidable _) rfl _ _ _).trans ?_
          refine Prod.ext ?_ rfl; show evalR (τ 0) (nmv a b c (nI 0) (nI 0)) = _; rw [hτ1, first_0]; exact b2i_t (Int32.not_le.mp c2)
        exact rfin eY hR
  · skip
    refine v_tinN (off := 65) (tgt := 66) K (by decide) 1 dX10_law_1 (by decide) (by decide) (by decide) rfl rfl ?_
    refine v_aload_n K dX10_law_66 rfl ?_
    refine v_iload_n K dX10_law_67 rfl ?_
    refine v_iload_n K dX10_law_68 rfl ?_
    refine v_iload K dX10_law_69 rfl ?_
    refine v_callV (As := [.int a, .int b, .int c]) K (c_X10_killsOf h τ a b c hT) lX10_134 ck_X10 rfl sh_118 pl_118 rfl ⟨by decide, by decide⟩ (Nat.le_of_ble_eq_true rfl) dX10_law_71 (fun r3 h3 hp3 => ?_) rfl
    obtain ⟨rfl, hXq3⟩ := hp3
    have hRxw3 := hR.X hXq3
    refine v_some ?_
    refine v_iret K dX10_law_74 ?_
    have eY : Y_law s τ (nI 1) a b c = (killsE τ a b c, s) := by
      unfold Y_law
      refine (@if_neg _ (Classical.propDecidable _) (by decide) _ _ _).trans ?_
      refine (@if_pos _ (Classical.propDecidable _) rfl _ _ _).trans ?_
      first | rfl | ((try rw [cl_ix (show 1 < 2 ^ 31 by omega)]))
    exact rfin eY hRxw3
  · skip
    refine v_tinN (off := 74) (tgt := 75) K (by decide) 2 dX10_law_1 (by decide) (by decide) (by decide) rfl rfl ?_
    refine v_aload_n K dX10_law_75 rfl ?_
    refine v_iload_n K dX10_law_76 rfl ?_
    refine v_iload_n K dX10_law_77 rfl ?_
    refine v_callV (As := [.int a, .int b]) K (c_X10_staysOf h τ a b hT) lX10_137 ck_X10 rfl sh_118 pl_118 rfl ⟨by decide, by decide⟩ (Nat.le_of_ble_eq_true rfl) dX10_law_78 (fun r4 h4 hp4 => ?_) rfl
    obtain ⟨rfl, hXq4⟩ := hp4
    have hRxw4 := hR.X hXq4
    refine v_some ?_
    refine v_iret K dX10_law_81 ?_
    have eY : Y_law s τ (nI 2) a b c = (staysE τ a b, s) := by
      unfold Y_law
      refine (@if_neg _ (Classical.propDecidable _) (by decide) _ _ _).trans ?_
      refine (@if_neg _ (Classical.propDecidable _) (by decide) _ _ _).trans ?_
      refine (@if_pos _ (Classical.propDecidable _) rfl _ _ _).trans ?_
      first | rfl | ((try rw [cl_ix (show 2 < 2 ^ 31 by omega)]))
    exact rfin eY hRxw4
  · skip
    refine v_tout (tgt := 82) K dX10_law_1 (by exact hout) rfl ?_
    refine v_aload_n K dX10_law_82 rfl ?_
    refine v_iconstN K 1 rfl dX10_law_83 ?_
    refine v_callV (As := [.int (nI 1)]) K (c_X10_finds h 1 (by omega)) lX10_113 ck_X10 rfl sh_118 pl_118 rfl ⟨by decide, by decide⟩ (Nat.le_of_ble_eq_true rfl) dX10_law_84 (fun r5 h5 hp5 => ?_) rfl
    obtain ⟨rfl, rfl⟩ := hp5
    refine v_some ?_
    have hRf1 : RR (u2 h 122 1 (h 122 1 + nI 1)) (u2 s 122 1 (s 122 1 + nI 1)) := by rw [show (h 122 1) = s 122 1 from hR.at RA_122]; exact hR.u RA_122
    refine v_iret K dX10_law_87 ?_
    have eY : Y_law s τ w a b c = ((-1000000000) - nI 1, (u2 s 122 1 (s 122 1 + nI 1))) := by
      unfold Y_law
      refine (@if_neg _ (Classical.propDecidable _) (fun q => by subst q; rw [nI_toInt (by decide)] at hout; omega) _ _ _).trans ?_
      refine (@if_neg _ (Classical.propDecidable _) (fun q => by subst q; rw [nI_toInt (by decide)] at hout; omega) _ _ _).trans ?_
      refine (@if_neg _ (Classical.propDecidable _) (fun q => by subst q; rw [nI_toInt (by decide)] at hout; omega) _ _ _).trans ?_
      first | rfl | (rfl)
    exact rfin eY hRf1

abbrev P_X10_text (h s : Mm) (τ τk : Nat → List Int32) (w : Int32) : Option Value → Mm → Prop := fun r h2 => r = some (.int (Y_text s w).1) ∧ RR h2 (Y_text s w).2
theorem c_X10_text {l : Launch} (h s : Mm) (τ τk : Nat → List Int32) (w : Int32) (hR : RR h s) (hI : INV s τ τk) : Con l yX10_text cX10_text 5 (some .int) 38 871 132 GL h [.ref 118, .int w] (P_X10_text h s τ τk w) := by
  refine Con.ofV (own := "FoxRoundsModel") (nm := "text") rfl rfl (by decide) (Nat.le_of_ble_eq_true rfl) ?_
  intro κ ρ hkl K
  subst hkl
  show V κ (QM κ (132, ρ, GL, 0, 0) (P_X10_text h s τ τk w)) 5 (132, ρ, GL, 0, 0) h 0 [(0, .ref 118), (1, .int w)] []
  have hd := hI.d
  have hn8 := hd.nw8
  have ht5 := hd.nt5
  obtain ⟨t13, h13, e13⟩ := hI.t13
  refine v_iload_n K dX10_text_0 rfl ?_
  refine v_i2l K dX10_text_1 rfl ?_
  refine v_lconst (v := (nI 0).toInt64) K dX10_text_2 (by decide) ?_
  refine v_ldc2 K kX10_118 dX10_text_3 ?_
  refine v_topL (y := (nI 2).toInt64) (by decide) ?_
  refine v_callS (As := [.long w.toInt64, .long (nI 0).toInt64, .long (nI 2).toInt64]) K (c_X10_in h w (nI 0) (nI 2)) lX10_51 rfl ⟨by decide, by decide⟩ (Nat.le_of_ble_eq_true rfl) dX10_text_6 (fun r1 h1 hp1 => ?_) rfl
  obtain ⟨rfl, rfl⟩ := hp1
  refine v_some ?_
  rw [show (nI 0 ≤ w ∧ w ≤ nI 2) = ix w 3 from in_ix (by decide)]
  refine v_ifB_ne (tgt := 18) K dX10_text_9 rfl (fun c1 => ?_) (fun c1 => ?_)
  · skip
    obtain ⟨j1, Hj1, rfl⟩ := c1
    refine v_aload_n K dX10_text_18 rfl ?_
    refine v_getr (q := 119) K fX10_7 sh_118 pl_118 gl_118_0 dX10_text_19 ?_
    refine v_bipushN K 13 rfl dX10_text_22 ?_
    refine v_iald (x := nI t13) K sh_119 pl_119 (by omega) ((hR.at RA_119).trans e13) dX10_text_24 ?_
    refine v_istore_n (lv2 := [(2, .int (nI t13)), (0, .ref 118), (1, .int (nI j1))]) K dX10_text_25 (by decide) rfl ?_
    refine v_aload_n K dX10_text_26 rfl ?_
    refine v_getr (q := 119) K fX10_7 sh_118 pl_118 gl_118_0 dX10_text_27 ?_
    refine v_bipushN K 13 rfl dX10_text_30 ?_
    refine v_iconstN K 0 rfl dX10_text_32 ?_
    refine v_iast K sh_119 pl_119 (by omega) dX10_text_33 ?_
    have hRr2 : RR (u2 h 119 13 (nI 0)) (u2 s 119 13 (nI 0)) := hR.u RA_119
    refine v_aload_n K dX10_text_34 rfl ?_
    refine v_sipushN K 284 rfl dX10_text_35 ?_
    refine v_iload_n K dX10_text_38 rfl ?_
    refine v_iload_n K dX10_text_39 rfl ?_
    refine v_callV (As := [.int (nI 284), .int (nI t13), .int (nI j1)]) K (c_X10_worked ((u2 h 119 13 (nI 0))) (bytD (s 119) 284 t13) t13 284 j1 (fun j => ((u2 h 119 13 (nI 0))) 123 j) (fun i hi => by unfold bytD; rw [if_pos hi, u2_ne (by omega), hR.at RA_119]) (by omega) h13 (by omega) (fun _ _ => rfl)) lX10_120 ck_X10 rfl sh_118 pl_118 rfl ⟨by decide, by decide⟩ (Nat.le_of_ble_eq_true rfl) dX10_text_40 (fun r3 h2 hp2 => ?_) rfl
    obtain ⟨⟨v, rfl, hv⟩, hflt, hW⟩ := hp2
    have hRw := hRr2.W hW
    refine v_some ?_
    refine v_istore_n (lv2 := [(3, .int v), (2, .int (nI t13)), (0, .ref 118), (1, .int (nI j1))]) K dX10_text_43 (by decide) rfl ?_
    refine v_aload_n K dX10_text_44 rfl ?_
    refine v_geti (x := fltI (faultP (bytD (s 119) 284 t13) t13 j1)) K fX10_62 sh_118 pl_118 hflt dX10_text_45 ?_
    refine v_if_lt (tgt := 59) K dX10_text_48 rfl (fun c2 => ?_) (fun c2 => ?_)
    · skip
      have eF := flt_lt (fault_le h13) c2
      refine v_aload_n K dX10_text_59 rfl ?_
      refine v_getr (q := 119) K fX10_7 sh_118 pl_118 gl_118_0 dX10_text_60 ?_
      refine v_bipushN K 110 rfl dX10_text_63 ?_
      refine v_iload_n K dX10_text_65 rfl ?_
      refine v_iaddN K dX10_text_66 ?_
      refine v_iload_n K dX10_text_67 rfl ?_
      refine v_iast K sh_119 pl_119 (by omega) dX10_text_68 ?_
      have hRr4 : RR (u2 h2 119 (110 + j1) (nI t13)) (u2 (u2 s 119 13 (nI 0)) 119 (110 + j1) (nI t13)) := hRw.u RA_119
      refine v_iconstN K 0 rfl dX10_text_69 ?_
      refine v_istore (lv2 := [(4, .int (nI 0)), (3, .int v), (2, .int (nI t13)), (0, .ref 118), (1, .int (nI j1))]) K dX10_text_70 (by decide) rfl ?_
      have L72 : ∀ (mm : Nat) (a : Nat) (g1 : Mm) (ha : a ≤ t13) (hZ : RR g1 (rw2 s 119 (txtR (s 119) j1 t13 a))), t13 + 1 - a < mm → V κ (QM κ (132, ρ, GL, 0, 0) (P_X10_text h s τ τk (nI j1))) 5 (132, ρ, GL, 0, 0) g1 72 [(0, .ref 118), (1, .int (nI j1)), (2, .int (nI t13)), (4, .int (nI a))] [] := by
        intro mm
        induction mm with
        | zero => intro a g1 ha hZ hmm; exact absurd hmm (Nat.not_lt_zero _)
        | succ mm ih72 =>
          intro a g1 ha hZ hmm
          refine v_iload K dX10_text_72 rfl ?_
          refine v_iload_n K dX10_text_74 rfl ?_
          refine v_icmpN_ge (tgt := 111) K (by omega) (by omega) dX10_text_75 rfl (fun c3 => ?_) (fun c3 => ?_)
          · skip
            refine v_iconstN K 1 rfl dX10_text_111 ?_
            refine v_iret K dX10_text_112 ?_
            have eY : Y_text s (nI j1) = (nI 1, (rw2 s 119 (txtR (s 119) j1 t13 a))) := by
              unfold Y_text
              refine (@if_neg _ (Classical.propDecidable _) (fun q => q (by first | assumption | exact ⟨_, by assumption, rfl⟩ | exact Or.inl rfl | exact Or.inr (Or.inl rfl) | exact Or.inr (Or.inr rfl) | omega)) _ _ _).trans ?_
              rw [cl_ix (show j1 < 2 ^ 31 by omega), e13, cl_ix (show t13 < 2 ^ 31 by omega), eF]; obtain rfl : a = t13 := (by omega); rfl
            exact rfin eY hZ
          · skip
            refine v_aload_n K dX10_text_78 rfl ?_
            refine v_getr (q := 119) K fX10_7 sh_118 pl_118 gl_118_0 dX10_text_79 ?_
            refine v_sipushN K 134 rfl dX10_text_82 ?_
            refine v_bipushN K 50 rfl dX10_text_85 ?_
            refine v_iload_n K dX10_text_87 rfl ?_
            refine v_imulN K dX10_text_88 ?_
            refine v_iaddN K dX10_text_89 ?_
            refine v_iload K dX10_text_90 rfl ?_
            refine v_iaddN K dX10_text_92 ?_
            refine v_aload_n K dX10_text_93 rfl ?_
            refine v_getr (q := 119) K fX10_7 sh_118 pl_118 gl_118_0 dX10_text_94 ?_
            refine v_sipushN K 284 rfl dX10_text_97 ?_
            refine v_iload K dX10_text_100 rfl ?_
            refine v_iaddN K dX10_text_102 ?_
            refine v_iald (x := s 119 (284 + a)) K sh_119 pl_119 (by omega) ((hZ.at RA_119).trans ((congrFun rw2_at _).trans (txt_t (by omega) (by omega)))) dX10_text_103 ?_
            refine v_iast K sh_119 pl_119 (by omega) dX10_text_104 ?_
            have hRt : RR (u2 g1 119 (134 + (50 * j1) + a) (s 119 (284 + a))) (rw2 s 119 (txtR (s 119) j1 t13 (a + 1))) := by have hx := hZ.u (k := 134 + (50 * j1) + a) (v := s 119 (284 + a)) RA_119; rw [u2_rw (h := rw2 s 119 _), rw2_rw2, rw2_at, txt_s (by omega) (by omega)] at hx; exact hx
            refine v_iincN (lv2 := [(4, .int (nI (a + 1))), (0, .ref 118), (1, .int (nI j1)), (2, .int (nI t13))]) K 1 dX10_text_105 rfl rfl (by decide) rfl ?_
            refine v_goto (tgt := 72) K dX10_text_108 rfl ?_
            refine v_sub (lv2 := [(0, .ref 118), (1, .int (nI j1)), (2, .int (nI t13)), (4, .int (nI (a + 1)))]) (by simp) ?_
            exact ih72 (a + 1) ((u2 g1 119 (134 + (50 * j1) + a) (s 119 (284 + a)))) (by first | assumption | omega | rfl) (by exact hRt) (by omega)
      refine v_sub (lv2 := [(0, .ref 118), (1, .int (nI j1)), (2, .int (nI t13)), (4, .int (nI 0))]) (by simp) ?_
      exact L72 (t13 + 1 - 0 + 1) 0 ((u2 h2 119 (110 + j1) (nI t13))) (by first | assumption | omega | rfl) (by have hx := hRr4; simp only [u2_rw, rw2_rw2, rw2_at, txt_0] at hx ⊢; exact hx) (Nat.lt_succ_self _)
    · skip
      obtain ⟨p, hp⟩ := flt_ge c2
      refine v_bipush (v := (-10)) K dX10_text_51 (by decide) ?_
      refine v_aload_n K dX10_text_53 rfl ?_
      refine v_geti (x := fltI (faultP (bytD (s 119) 284 t13) t13 j1)) K fX10_62 sh_118 pl_118 hflt dX10_text_54 ?_
      refine v_isub K dX10_text_57 ?_
      refine v_iret K dX10_text_58 ?_
      have eY : Y_text s (nI j1) = (((-10)) - (fltI (faultP (bytD (s 119) 284 t13) t13 j1)), (u2 s 119 13 (nI 0))) := by
        unfold Y_text
        refine (@if_neg _ (Classical.propDecidable _) (fun q => q (by first | assumption | exact ⟨_, by assumption, rfl⟩ | exact Or.inl rfl | exact Or.inr (Or.inl rfl) | exact Or.inr (Or.inr rfl) | omega)) _ _ _).trans ?_
        rw [cl_ix (show j1 < 2 ^ 31 by omega), e13, cl_ix (show t13 < 2 ^ 31 by omega), hp]; rfl
      exact rfin eY hRw
  · skip
    refine v_aload_n K dX10_text_12 rfl ?_
    refine v_iconstN K 1 rfl dX10_text_13 ?_
    refine v_callV (As := [.int (nI 1)]) K (c_X10_finds h 1 (by omega)) lX10_113 ck_X10 rfl sh_118 pl_118 rfl ⟨by decide, by decide⟩ (Nat.le_of_ble_eq_true rfl) dX10_text_14 (fun r5 h3 hp3 => ?_) rfl
    obtain ⟨rfl, rfl⟩ := hp3
    refine v_some ?_
    have hRf1 : RR (u2 h 122 1 (h 122 1 + nI 1)) (u2 s 122 1 (s 122 1 + nI 1)) := by rw [show (h 122 1) = s 122 1 from hR.at RA_122]; exact hR.u RA_122
    refine v_iret K dX10_text_17 ?_
    have eY : Y_text s w = ((-1000000000) - nI 1, (u2 s 122 1 (s 122 1 + nI 1))) := by
      unfold Y_text
      refine (@if_pos _ (Classical.propDecidable _) (fun q => absurd q (by assumption)) _ _ _).trans ?_
      first | rfl | (rfl)
    exact rfin eY hRf1
