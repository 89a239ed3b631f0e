abbrev P_X3_pushSign (h : Mm) (w k : List Int32) (a o b : Nat) (e : Bool) (v : Int32) : Option Value → Mm → Prop := fun r h2 => r = none ∧ RQM h2 w (v :: k) a o b e ∧ FrQ h h2
theorem c_X3_pushSign {l : Launch} (h : Mm) (w k : List Int32) (a o b : Nat) (e : Bool) (v : Int32) (hR : RQM h w k a o b e) (hl : k.length < 50) : Con l yX3_pushSign cX3_pushSign 2 none 0 0 132 GL h [.ref 99, .int v] (P_X3_pushSign h w k a o b e v) := by
  refine Con.ofV (own := "FoxRounds$Reader") (nm := "pushSign") rfl rfl (by decide) (Nat.le_of_ble_eq_true rfl) ?_
  intro κ ρ hkl K
  subst hkl
  show V κ (QM κ (132, ρ, GL, 0, 0) (P_X3_pushSign h w k a o b e v)) 2 (132, ρ, GL, 0, 0) h 0 [(0, .ref 99), (1, .int v)] []
  refine v_aload_n K dX3_pushSign_0 rfl ?_
  refine v_geti (x := nI k.length) K fX3_41 sh_99 pl_99 hR.k1 dX3_pushSign_1 ?_
  refine v_bipushN K 50 rfl dX3_pushSign_4 ?_
  refine v_icmpN_ge (tgt := 29) K (by omega) (by omega) dX3_pushSign_6 rfl (fun c1 => ?_) (fun c1 => ?_)
  · skip
    omega
  · skip
    refine v_aload_n K dX3_pushSign_9 rfl ?_
    refine v_getr (q := 105) K fX3_37 sh_99 pl_99 gl_99_5 dX3_pushSign_10 ?_
    refine v_aload_n K dX3_pushSign_13 rfl ?_
    refine v_geti (x := nI k.length) K fX3_41 sh_99 pl_99 hR.k1 dX3_pushSign_14 ?_
    refine v_iload_n K dX3_pushSign_17 rfl ?_
    refine v_iast K sh_105 pl_105 (by omega) dX3_pushSign_18 ?_
    have hFz1 : FrQ h (u2 h 105 k.length v) := FrQ.r.u (by omega)
    refine v_aload_n K dX3_pushSign_19 rfl ?_
    refine v_dup K dX3_pushSign_20 rfl ?_
    refine v_geti (x := nI k.length) K fX3_41 sh_99 pl_99 hR.k1 dX3_pushSign_21 ?_
    refine v_iconstN K 1 rfl dX3_pushSign_24 ?_
    refine v_iaddN K dX3_pushSign_25 ?_
    refine v_puti K pX3_41 sh_99 pl_99 dX3_pushSign_26 ?_
    have hQz2 : RQM (u2 (u2 h 105 k.length v) 99 6 (nI (k.length + 1))) w (v :: k) a o b e := hR.push
    have hFz2 : FrQ h (u2 (u2 h 105 k.length v) 99 6 (nI (k.length + 1))) := hFz1.u (by omega)
    refine v_vret K dX3_pushSign_29 ?_
    exact ⟨rfl, hQz2, hFz2⟩

abbrev P_X3_popDownTo (h : Mm) (w k : List Int32) (a o b : Nat) (e : Bool) (g : Nat) : Option Value → Mm → Prop := fun r h2 => r = none ∧ RQM h2 ((popQ g w k).1) ((popQ g w k).2) a o b e ∧ FrQ h h2
theorem c_X3_popDownTo {l : Launch} (h : Mm) (w k : List Int32) (a o b : Nat) (e : Bool) (g : Nat) (hR : RQM h w k a o b e) (hl : w.length + k.length ≤ 50) (hl5 : g < 100) : Con l yX3_popDownTo cX3_popDownTo 2 none 1 21 132 GL h [.ref 99, .int (nI g)] (P_X3_popDownTo h w k a o b e g) := by
  refine Con.ofV (own := "FoxRounds$Reader") (nm := "popDownTo") rfl rfl (by decide) (Nat.le_of_ble_eq_true rfl) ?_
  intro κ ρ hkl K
  subst hkl
  show V κ (QM κ (132, ρ, GL, 0, 0) (P_X3_popDownTo h w k a o b e g)) 2 (132, ρ, GL, 0, 0) h 0 [(0, .ref 99), (1, .int (nI g))] []
  have L0 : ∀ (mm : Nat) (hm : Mm) (w1 : List Int32) (k1 : List Int32) (hR1 : RQM hm w1 k1 a o b e) (hF1 : FrQ h hm) (hl1 : w1.length + k1.length ≤ 50) (hP : popQ g w1 k1 = popQ g w k), k1.length < mm → V κ (QM κ (132, ρ, GL, 0, 0) (P_X3_popDownTo h w k a o b e g)) 2 (132, ρ, GL, 0, 0) hm 0 [(0, .ref 99), (1, .int (nI g))] [] := by
    intro mm
    induction mm with
    | zero => intro hm w1 k1 hR1 hF1 hl1 hP hmm; exact absurd hmm (Nat.not_lt_zero _)
    | succ mm ih0 =>
      intro hm w1 k1 hR1 hF1 hl1 hP hmm
      rcases k1 with _ | ⟨x1, q1⟩
      · skip
        refine v_aload_n K dX3_popDownTo_0 rfl ?_
        refine v_geti (x := nI 0) K fX3_41 sh_99 pl_99 hR1.k1 dX3_popDownTo_1 ?_
        refine v_ifN_le (tgt := 55) K (by omega) dX3_popDownTo_4 rfl (fun c1 => ?_) (fun c1 => ?_)
        · skip
          refine v_vret K dX3_popDownTo_55 ?_
          have e0 : popQ g w k = (w1, ([])) := hP.symm
          exact ⟨rfl, by rw [e0]; exact hR1, hF1⟩
        · exact absurd c1 (by decide)
      · skip
        have hlen : (x1 :: q1).length = q1.length + 1 := rfl
        refine v_aload_n K dX3_popDownTo_0 rfl ?_
        refine v_geti (x := nI (q1.length + 1)) K fX3_41 sh_99 pl_99 hR1.k1 dX3_popDownTo_1 ?_
        refine v_ifN_le (tgt := 55) K (by omega) dX3_popDownTo_4 rfl (fun c2 => ?_) (fun c2 => ?_)
        · skip
          refine v_vret K dX3_popDownTo_55 ?_
          have e0 : popQ g w k = (w1, (x1 :: q1)) := by rw [← hP, popQ, if_neg (by omega)]
          exact ⟨rfl, by rw [e0]; exact hR1, hF1⟩
        · skip
          refine v_aload_n K dX3_popDownTo_7 rfl ?_
          refine v_getr (q := 105) K fX3_37 sh_99 pl_99 gl_99_5 dX3_popDownTo_8 ?_
          refine v_aload_n K dX3_popDownTo_11 rfl ?_
          refine v_geti (x := nI (q1.length + 1)) K fX3_41 sh_99 pl_99 hR1.k1 dX3_popDownTo_12 ?_
          refine v_iconstN K 1 rfl dX3_popDownTo_15 ?_
          refine v_isubN K (by omega) dX3_popDownTo_16 ?_
          refine v_iald (x := x1) K sh_105 pl_105 (by omega) hR1.top dX3_popDownTo_17 ?_
          refine v_callS (As := [.int x1]) K (c_X3_levelOf hm x1) lX3_105 rfl ⟨by decide, by decide⟩ (Nat.le_of_ble_eq_true rfl) dX3_popDownTo_18 (fun r1 h1 hp1 => ?_) rfl
          obtain ⟨rfl, rfl⟩ := hp1
          refine v_some ?_
          refine v_iload_n K dX3_popDownTo_21 rfl ?_
          have hv5 := lv_le (b := x1)
          refine v_icmpN_lt (tgt := 55) K (by omega) (by omega) dX3_popDownTo_22 rfl (fun c3 => ?_) (fun c3 => ?_)
          · skip
            refine v_vret K dX3_popDownTo_55 ?_
            have e0 : popQ g w k = (w1, (x1 :: q1)) := by rw [← hP, popQ, if_neg (by omega)]
            exact ⟨rfl, by rw [e0]; exact hR1, hF1⟩
          · skip
            refine v_aload_n K dX3_popDownTo_25 rfl ?_
            refine v_dup K dX3_popDownTo_26 rfl ?_
            refine v_geti (x := nI (q1.length + 1)) K fX3_41 sh_99 pl_99 hR1.k1 dX3_popDownTo_27 ?_
            refine v_iconstN K 1 rfl dX3_popDownTo_30 ?_
            refine v_isubN K (by omega) dX3_popDownTo_31 ?_
            refine v_puti K pX3_41 sh_99 pl_99 dX3_popDownTo_32 ?_
            have hTz1 : (u2 hm 99 6 (nI (q1.length + 1 - 1))) 105 q1.length = x1 := (u2_ne (by omega)).trans hR1.top
            have hQz1 : RQM (u2 hm 99 6 (nI (q1.length + 1 - 1))) w1 q1 a o b e := hR1.pop
            have hFz1 : FrQ h (u2 hm 99 6 (nI (q1.length + 1 - 1))) := hF1.u (by omega)
            refine v_aload_n K dX3_popDownTo_35 rfl ?_
            refine v_getr (q := 100) K fX3_14 sh_99 pl_99 gl_99_0 dX3_popDownTo_36 ?_
            refine v_aload_n K dX3_popDownTo_39 rfl ?_
            refine v_getr (q := 105) K fX3_37 sh_99 pl_99 gl_99_5 dX3_popDownTo_40 ?_
            refine v_aload_n K dX3_popDownTo_43 rfl ?_
            refine v_geti (x := nI q1.length) K fX3_41 sh_99 pl_99 hQz1.k1 dX3_popDownTo_44 ?_
            refine v_iald (x := x1) K sh_105 pl_105 (by omega) hTz1 dX3_popDownTo_47 ?_
            refine v_ineg K dX3_popDownTo_48 ?_
            refine v_callV (As := [.int (-x1)]) K (c_X5_add ((u2 hm 99 6 (nI (q1.length + 1 - 1)))) w1 (-x1) hQz1.w1 (by omega)) lX3_86 ck_X5 rfl sh_100 pl_100 rfl ⟨by decide, by decide⟩ (Nat.le_of_ble_eq_true rfl) dX3_popDownTo_49 (fun r2 h2 hp2 => ?_) rfl
            obtain ⟨rfl, rfl⟩ := hp2
            refine v_none ?_
            have hQz2 : RQM (u2 (u2 (u2 hm 99 6 (nI (q1.length + 1 - 1))) 102 w1.length (-x1)) 100 1 (nI (w1.length + 1))) (w1 ++ [-x1]) q1 a o b e := hQz1.add
            have hFz2 : FrQ h (u2 (u2 (u2 hm 99 6 (nI (q1.length + 1 - 1))) 102 w1.length (-x1)) 100 1 (nI (w1.length + 1))) := (hFz1.u (by omega)).u (by omega)
            have hlw : (w1 ++ [-x1]).length = w1.length + 1 := by rw [List.length_append]; rfl
            refine v_goto (tgt := 0) K dX3_popDownTo_52 rfl ?_
            refine v_sub (lv2 := [(0, .ref 99), (1, .int (nI g))]) (by simp) ?_
            exact ih0 ((u2 (u2 (u2 hm 99 6 (nI (q1.length + 1 - 1))) 102 w1.length (-x1)) 100 1 (nI (w1.length + 1)))) (w1 ++ [-x1]) q1 (by exact hQz2) (by exact hFz2) (by omega) (by rw [← hP, popQ, if_pos (by omega)]) (by omega)
  refine v_sub (lv2 := [(0, .ref 99), (1, .int (nI g))]) (by simp) ?_
  exact L0 (k.length + 1) h w k (by exact hR) (by exact FrQ.r) (by exact hl) (by rfl) (Nat.lt_succ_self _)

abbrev P_X3_endOperand (h : Mm) (w k : List Int32) (a o b : Nat) (e : Bool) : Option Value → Mm → Prop := fun r h2 => r = none ∧ RQM h2 ((bngQ w k o).1) ((bngQ w k o).2.1) a ((bngQ w k o).2.2) b false ∧ FrQ h h2
theorem c_X3_endOperand {l : Launch} (h : Mm) (w k : List Int32) (a o b : Nat) (e : Bool) (hR : RQM h w k a o b e) (hl : w.length + k.length ≤ 50) (hc : c33 k ≤ o) (ho : o ≤ 5) : Con l yX3_endOperand cX3_endOperand 1 none 1 21 132 GL h [.ref 99] (P_X3_endOperand h w k a o b e) := by
  refine Con.ofV (own := "FoxRounds$Reader") (nm := "endOperand") rfl rfl (by decide) (Nat.le_of_ble_eq_true rfl) ?_
  intro κ ρ hkl K
  subst hkl
  show V κ (QM κ (132, ρ, GL, 0, 0) (P_X3_endOperand h w k a o b e)) 1 (132, ρ, GL, 0, 0) h 0 [(0, .ref 99)] []
  have L0 : ∀ (mm : Nat) (hm : Mm) (w1 : List Int32) (k1 : List Int32) (o1 : Nat) (hR1 : RQM hm w1 k1 a o1 b e) (hF1 : FrQ h hm) (hl1 : w1.length + k1.length ≤ 50) (hc1 : c33 k1 ≤ o1) (ho1 : o1 ≤ 5) (hP : bngQ w1 k1 o1 = bngQ w k o), k1.length < mm → V κ (QM κ (132, ρ, GL, 0, 0) (P_X3_endOperand h w k a o b e)) 1 (132, ρ, GL, 0, 0) hm 0 [(0, .ref 99)] [] := by
    intro mm
    induction mm with
    | zero => intro hm w1 k1 o1 hR1 hF1 hl1 hc1 ho1 hP hmm; exact absurd hmm (Nat.not_lt_zero _)
    | succ mm ih0 =>
      intro hm w1 k1 o1 hR1 hF1 hl1 hc1 ho1 hP hmm
      rcases k1 with _ | ⟨x1, q1⟩
      · skip
        refine v_aload_n K dX3_endOperand_0 rfl ?_
        refine v_geti (x := nI 0) K fX3_41 sh_99 pl_99 hR1.k1 dX3_endOperand_1 ?_
        refine v_ifN_le (tgt := 55) K (by omega) dX3_endOperand_4 rfl (fun c1 => ?_) (fun c1 => ?_)
        · skip
          refine v_aload_n K dX3_endOperand_55 rfl ?_
          refine v_iconstN K 0 rfl dX3_endOperand_56 ?_
          refine v_putz K pX3_50 sh_99 pl_99 (by decide) dX3_endOperand_57 ?_
          have hQz1 : RQM (u2 hm 99 9 (nI 0)) w1 (([])) a o1 b false := (hR1.sd (b2i_f (fun q => by cases q)).symm)
          have hFz1 : FrQ h (u2 hm 99 9 (nI 0)) := hF1.u (by omega)
          refine v_vret K dX3_endOperand_60 ?_
          have e0 : bngQ w k o = (w1, ([]), o1) := hP.symm
          exact ⟨rfl, by rw [e0]; exact hQz1, hFz1⟩
        · exact absurd c1 (by decide)
      · skip
        have hlen : (x1 :: q1).length = q1.length + 1 := rfl
        refine v_aload_n K dX3_endOperand_0 rfl ?_
        refine v_geti (x := nI (q1.length + 1)) K fX3_41 sh_99 pl_99 hR1.k1 dX3_endOperand_1 ?_
        refine v_ifN_le (tgt := 55) K (by omega) dX3_endOperand_4 rfl (fun c2 => ?_) (fun c2 => ?_)
        · skip
          refine v_aload_n K dX3_endOperand_55 rfl ?_
          refine v_iconstN K 0 rfl dX3_endOperand_56 ?_
          refine v_putz K pX3_50 sh_99 pl_99 (by decide) dX3_endOperand_57 ?_
          have hQz2 : RQM (u2 hm 99 9 (nI 0)) w1 ((x1 :: q1)) a o1 b false := (hR1.sd (b2i_f (fun q => by cases q)).symm)
          have hFz2 : FrQ h (u2 hm 99 9 (nI 0)) := hF1.u (by omega)
          refine v_vret K dX3_endOperand_60 ?_
          have e0 : bngQ w k o = (w1, (x1 :: q1), o1) := by rw [← hP, bngQ, if_neg (by simpa using c2)]
          exact ⟨rfl, by rw [e0]; exact hQz2, hFz2⟩
        · skip
          refine v_aload_n K dX3_endOperand_7 rfl ?_
          refine v_getr (q := 105) K fX3_37 sh_99 pl_99 gl_99_5 dX3_endOperand_8 ?_
          refine v_aload_n K dX3_endOperand_11 rfl ?_
          refine v_geti (x := nI (q1.length + 1)) K fX3_41 sh_99 pl_99 hR1.k1 dX3_endOperand_12 ?_
          refine v_iconstN K 1 rfl dX3_endOperand_15 ?_
          refine v_isubN K (by omega) dX3_endOperand_16 ?_
          refine v_iald (x := x1) K sh_105 pl_105 (by omega) hR1.top dX3_endOperand_17 ?_
          refine v_bipushN K 33 rfl dX3_endOperand_18 ?_
          refine v_icmp_ne (tgt := 55) K dX3_endOperand_20 rfl (fun c3 => ?_) (fun c3 => ?_)
          · skip
            refine v_aload_n K dX3_endOperand_55 rfl ?_
            refine v_iconstN K 0 rfl dX3_endOperand_56 ?_
            refine v_putz K pX3_50 sh_99 pl_99 (by decide) dX3_endOperand_57 ?_
            have hQz3 : RQM (u2 hm 99 9 (nI 0)) w1 ((x1 :: q1)) a o1 b false := (hR1.sd (b2i_f (fun q => by cases q)).symm)
            have hFz3 : FrQ h (u2 hm 99 9 (nI 0)) := hF1.u (by omega)
            refine v_vret K dX3_endOperand_60 ?_
            have e0 : bngQ w k o = (w1, (x1 :: q1), o1) := by rw [← hP, bngQ, if_neg (by simpa using c3)]
            exact ⟨rfl, by rw [e0]; exact hQz3, hFz3⟩
          · skip
            rw [c33_cons, if_pos (by simpa using c3)] at hc1
            refine v_aload_n K dX3_endOperand_23 rfl ?_
            refine v_dup K dX3_endOperand_24 rfl ?_
            refine v_geti (x := nI (q1.length + 1)) K fX3_41 sh_99 pl_99 hR1.k1 dX3_endOperand_25 ?_
            refine v_iconstN K 1 rfl dX3_endOperand_28 ?_
            refine v_isubN K (by omega) dX3_endOperand_29 ?_
            refine v_puti K pX3_41 sh_99 pl_99 dX3_endOperand_30 ?_
            have hTz4 : (u2 hm 99 6 (nI (q1.length + 1 - 1))) 105 q1.length = x1 := (u2_ne (by omega)).trans hR1.top
            have hQz4 : RQM (u2 hm 99 6 (nI (q1.length + 1 - 1))) w1 q1 a o1 b e := hR1.pop
            have hFz4 : FrQ h (u2 hm 99 6 (nI (q1.length + 1 - 1))) := hF1.u (by omega)
            refine v_aload_n K dX3_endOperand_33 rfl ?_
            refine v_dup K dX3_endOperand_34 rfl ?_
            refine v_geti (x := nI o1) K fX3_44 sh_99 pl_99 hQz4.op dX3_endOperand_35 ?_
            refine v_iconstN K 1 rfl dX3_endOperand_38 ?_
            refine v_isubN K (by omega) dX3_endOperand_39 ?_
            refine v_puti K pX3_44 sh_99 pl_99 dX3_endOperand_40 ?_
            have hQz5 : RQM (u2 (u2 hm 99 6 (nI (q1.length + 1 - 1))) 99 7 (nI (o1 - 1))) w1 q1 a (o1 - 1) b e := hQz4.so
            have hFz5 : FrQ h (u2 (u2 hm 99 6 (nI (q1.length + 1 - 1))) 99 7 (nI (o1 - 1))) := hFz4.u (by omega)
            refine v_aload_n K dX3_endOperand_43 rfl ?_
            refine v_getr (q := 100) K fX3_14 sh_99 pl_99 gl_99_0 dX3_endOperand_44 ?_
            refine v_bipush (v := (-33)) K dX3_endOperand_47 (by decide) ?_
            refine v_callV (As := [.int ((-33))]) K (c_X5_add ((u2 (u2 hm 99 6 (nI (q1.length + 1 - 1))) 99 7 (nI (o1 - 1)))) w1 ((-33)) hQz5.w1 (by omega)) lX3_86 ck_X5 rfl sh_100 pl_100 rfl ⟨by decide, by decide⟩ (Nat.le_of_ble_eq_true rfl) dX3_endOperand_49 (fun r1 h1 hp1 => ?_) rfl
            obtain ⟨rfl, rfl⟩ := hp1
            refine v_none ?_
            have hQz6 : RQM (u2 (u2 (u2 (u2 hm 99 6 (nI (q1.length + 1 - 1))) 99 7 (nI (o1 - 1))) 102 w1.length ((-33))) 100 1 (nI (w1.length + 1))) (w1 ++ [(-33)]) q1 a (o1 - 1) b e := hQz5.add
            have hFz6 : FrQ h (u2 (u2 (u2 (u2 hm 99 6 (nI (q1.length + 1 - 1))) 99 7 (nI (o1 - 1))) 102 w1.length ((-33))) 100 1 (nI (w1.length + 1))) := (hFz5.u (by omega)).u (by omega)
            have hlw : (w1 ++ [(-33)]).length = w1.length + 1 := by rw [List.length_append]; rfl
            refine v_goto (tgt := 0) K dX3_endOperand_52 rfl ?_
            refine v_sub (lv2 := [(0, .ref 99)]) (by simp) ?_
            exact ih0 ((u2 (u2 (u2 (u2 hm 99 6 (nI (q1.length + 1 - 1))) 99 7 (nI (o1 - 1))) 102 w1.length ((-33))) 100 1 (nI (w1.length + 1)))) (w1 ++ [(-33)]) q1 (o1 - 1) (by exact hQz6) (by exact hFz6) (by omega) (by omega) (by omega) (by rw [← hP, bngQ, if_pos (by simpa using c3)]) (by omega)
  refine v_sub (lv2 := [(0, .ref 99)]) (by simp) ?_
  exact L0 (k.length + 1) h w k o (by exact hR) (by exact FrQ.r) (by exact hl) (by exact hc) (by exact ho) (by rfl) (Nat.lt_succ_self _)
