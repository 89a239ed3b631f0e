abbrev P_X3_takeNumber (h : Mm) (w k : List Int32) (a o b : Nat) (e : Bool) (bt : Nat → Int32) (n u : Nat) : Option Value → Mm → Prop := fun r h2 => r = none ∧ RQM h2 (w ++ [(digP bt n 4 (nI 0) (a, none, o)).1]) k ((digP bt n 4 (nI 0) (a, none, o)).2.2.1) o b e ∧ FrQ h h2
theorem c_X3_takeNumber {l : Launch} (h : Mm) (w k : List Int32) (a o b : Nat) (e : Bool) (bt : Nat → Int32) (n u : Nat) (hR : RQM h w k a o b e) (hS : RSM h bt n u) (hn : n ≤ 50) (hl : w.length + k.length < 50) (ha : a ≤ n) : Con l yX3_takeNumber cX3_takeNumber 3 none 1 21 132 GL h [.ref 99] (P_X3_takeNumber h w k a o b e bt n u) := by
  refine Con.ofV (own := "FoxRounds$Reader") (nm := "takeNumber") rfl rfl (by decide) (Nat.le_of_ble_eq_true rfl) ?_
  intro κ ρ hkl K
  subst hkl
  show V κ (QM κ (132, ρ, GL, 0, 0) (P_X3_takeNumber h w k a o b e bt n u)) 3 (132, ρ, GL, 0, 0) h 0 [(0, .ref 99)] []
  refine v_iconstN K 0 rfl dX3_takeNumber_0 ?_
  refine v_istore_n (lv2 := [(1, .int (nI 0)), (0, .ref 99)]) K dX3_takeNumber_1 (by decide) rfl ?_
  refine v_aload_n K dX3_takeNumber_2 rfl ?_
  refine v_geti (x := nI n) K fX3_24 sh_99 pl_99 (hS.fr FrQ.r).2.1 dX3_takeNumber_3 ?_
  refine v_aload_n K dX3_takeNumber_6 rfl ?_
  refine v_geti (x := nI a) K fX3_34 sh_99 pl_99 hR.at_ dX3_takeNumber_7 ?_
  refine v_iconstN K 4 rfl dX3_takeNumber_10 ?_
  refine v_iaddN K dX3_takeNumber_11 ?_
  refine v_min K jX3_54 jst_min jin_math jco_min ⟨by decide, by decide, Nat.zero_le _, Nat.zero_le _⟩ (Nat.le_of_ble_eq_true rfl) dX3_takeNumber_12 ?_
  refine v_top (y := nI (min n (a + 4))) (min_nn (by omega) (by omega)) ?_
  refine v_istore_n (lv2 := [(2, .int (nI (min n (a + 4)))), (1, .int (nI 0)), (0, .ref 99)]) K dX3_takeNumber_15 (by decide) rfl ?_
  have L16 : ∀ (mm : Nat) (hm : Mm) (v : Int32) (f : Nat) (z : Nat) (hR1 : RQM hm w k z o b e) (hF1 : FrQ h hm) (hz : z + f = a + 4) (hz2 : z ≤ n) (hD : (digP bt n f v (z, none, o)).1 = (digP bt n 4 (nI 0) (a, none, o)).1 ∧ (digP bt n f v (z, none, o)).2.2.1 = (digP bt n 4 (nI 0) (a, none, o)).2.2.1), f < mm → V κ (QM κ (132, ρ, GL, 0, 0) (P_X3_takeNumber h w k a o b e bt n u)) 3 (132, ρ, GL, 0, 0) hm 16 [(0, .ref 99), (1, .int v), (2, .int (nI (min n (a + 4))))] [] := by
    intro mm
    induction mm with
    | zero => intro hm v f z hR1 hF1 hz hz2 hD hmm; exact absurd hmm (Nat.not_lt_zero _)
    | succ mm ih16 =>
      intro hm v f z hR1 hF1 hz hz2 hD hmm
      refine v_aload_n K dX3_takeNumber_16 rfl ?_
      refine v_geti (x := nI z) K fX3_34 sh_99 pl_99 hR1.at_ dX3_takeNumber_17 ?_
      refine v_iload_n K dX3_takeNumber_20 rfl ?_
      refine v_icmpN_ge (tgt := 70) K (by omega) (by omega) dX3_takeNumber_21 rfl (fun c1 => ?_) (fun c1 => ?_)
      · skip
        have e0 : digP bt n f v (z, none, o) = (v, 0, (z, none, o)) := dig_no (by omega)
        have e1 : v = (digP bt n 4 (nI 0) (a, none, o)).1 := by rw [← hD.1, e0]
        have e2 : z = (digP bt n 4 (nI 0) (a, none, o)).2.2.1 := by rw [← hD.2, e0]
        have hz50 : z ≤ 50 := by omega
        rw [e2] at hR1
        refine v_aload_n K dX3_takeNumber_70 rfl ?_
        refine v_getr (q := 100) K fX3_14 sh_99 pl_99 gl_99_0 dX3_takeNumber_71 ?_
        refine v_iload_n K dX3_takeNumber_74 rfl ?_
        refine v_callV (As := [.int v]) K (c_X5_add hm w v hR1.w1 (by omega)) lX3_86 ck_X5 rfl sh_100 pl_100 rfl ⟨by decide, by decide⟩ (Nat.le_of_ble_eq_true rfl) dX3_takeNumber_75 (fun r1 h1 hp1 => ?_) rfl
        obtain ⟨rfl, rfl⟩ := hp1
        refine v_none ?_
        have hQz1 : RQM (u2 (u2 hm 102 w.length v) 100 1 (nI (w.length + 1))) (w ++ [v]) k ((digP bt n 4 (nI 0) (a, none, o)).2.2.1) o b e := hR1.add
        have hFz1 : FrQ h (u2 (u2 hm 102 w.length v) 100 1 (nI (w.length + 1))) := (hF1.u (by omega)).u (by omega)
        refine v_vret K dX3_takeNumber_78 ?_
        exact ⟨rfl, by rw [← e1]; exact hQz1, hFz1⟩
      · skip
        refine v_aload_n K dX3_takeNumber_24 rfl ?_
        refine v_getd (q := 36) K fX3_20 sh_99 pl_99 (hS.fr hF1).1 (by omega) dX3_takeNumber_25 ?_
        refine v_aload_n K dX3_takeNumber_28 rfl ?_
        refine v_geti (x := nI z) K fX3_34 sh_99 pl_99 hR1.at_ dX3_takeNumber_29 ?_
        refine v_bald (x := bt z) K sh_36 pl_36 (by omega) ((hS.fr hF1).2.2.2 _ (by omega)) dX3_takeNumber_32 ?_
        refine v_callS (As := [.int (bt z)]) K (c_X3_isDigit hm (bt z)) lX3_89 rfl ⟨by decide, by decide⟩ (Nat.le_of_ble_eq_true rfl) dX3_takeNumber_33 (fun r2 h2 hp2 => ?_) rfl
        obtain ⟨rfl, rfl⟩ := hp2
        refine v_some ?_
        refine v_ifB_eq (tgt := 70) K dX3_takeNumber_36 rfl (fun c2 => ?_) (fun c2 => ?_)
        · skip
          have e0 : digP bt n f v (z, none, o) = (v, 0, (z, none, o)) := dig_no (Or.inr (Or.inr c2))
          have e1 : v = (digP bt n 4 (nI 0) (a, none, o)).1 := by rw [← hD.1, e0]
          have e2 : z = (digP bt n 4 (nI 0) (a, none, o)).2.2.1 := by rw [← hD.2, e0]
          have hz50 : z ≤ 50 := by omega
          rw [e2] at hR1
          refine v_aload_n K dX3_takeNumber_70 rfl ?_
          refine v_getr (q := 100) K fX3_14 sh_99 pl_99 gl_99_0 dX3_takeNumber_71 ?_
          refine v_iload_n K dX3_takeNumber_74 rfl ?_
          refine v_callV (As := [.int v]) K (c_X5_add hm w v hR1.w1 (by omega)) lX3_86 ck_X5 rfl sh_100 pl_100 rfl ⟨by decide, by decide⟩ (Nat.le_of_ble_eq_true rfl) dX3_takeNumber_75 (fun r3 h3 hp3 => ?_) rfl
          obtain ⟨rfl, rfl⟩ := hp3
          refine v_none ?_
          have hQz2 : RQM (u2 (u2 hm 102 w.length v) 100 1 (nI (w.length + 1))) (w ++ [v]) k ((digP bt n 4 (nI 0) (a, none, o)).2.2.1) o b e := hR1.add
          have hFz2 : FrQ h (u2 (u2 hm 102 w.length v) 100 1 (nI (w.length + 1))) := (hF1.u (by omega)).u (by omega)
          refine v_vret K dX3_takeNumber_78 ?_
          exact ⟨rfl, by rw [← e1]; exact hQz2, hFz2⟩
        · skip
          refine v_iload_n K dX3_takeNumber_39 rfl ?_
          refine v_bipushN K 10 rfl dX3_takeNumber_40 ?_
          refine v_imul K dX3_takeNumber_42 ?_
          refine v_aload_n K dX3_takeNumber_43 rfl ?_
          refine v_getd (q := 36) K fX3_20 sh_99 pl_99 (hS.fr hF1).1 (by omega) dX3_takeNumber_44 ?_
          refine v_aload_n K dX3_takeNumber_47 rfl ?_
          refine v_geti (x := nI z) K fX3_34 sh_99 pl_99 hR1.at_ dX3_takeNumber_48 ?_
          refine v_bald (x := bt z) K sh_36 pl_36 (by omega) ((hS.fr hF1).2.2.2 _ (by omega)) dX3_takeNumber_51 ?_
          refine v_iadd K dX3_takeNumber_52 ?_
          refine v_bipushN K 48 rfl dX3_takeNumber_53 ?_
          refine v_isub K dX3_takeNumber_55 ?_
          refine v_nm (fun x1 e_x1 => ?_)
          refine v_istore_n (lv2 := [(1, .int x1), (0, .ref 99), (2, .int (nI (min n (a + 4))))]) K dX3_takeNumber_56 (by decide) rfl ?_
          refine v_aload_n K dX3_takeNumber_57 rfl ?_
          refine v_dup K dX3_takeNumber_58 rfl ?_
          refine v_geti (x := nI z) K fX3_34 sh_99 pl_99 hR1.at_ dX3_takeNumber_59 ?_
          refine v_iconstN K 1 rfl dX3_takeNumber_62 ?_
          refine v_iaddN K dX3_takeNumber_63 ?_
          refine v_puti K pX3_34 sh_99 pl_99 dX3_takeNumber_64 ?_
          have hQz3 : RQM (u2 hm 99 4 (nI (z + 1))) w k (z + 1) o b e := hR1.sa
          have hFz3 : FrQ h (u2 hm 99 4 (nI (z + 1))) := hF1.u (by omega)
          refine v_goto (tgt := 16) K dX3_takeNumber_67 rfl ?_
          refine v_sub (lv2 := [(0, .ref 99), (1, .int x1), (2, .int (nI (min n (a + 4))))]) (by simp) ?_
          exact ih16 ((u2 hm 99 4 (nI (z + 1)))) x1 (f - 1) (z + 1) (by exact hQz3) (by exact hFz3) (by first | assumption | omega | rfl) (by first | assumption | omega | rfl) (by have g := dig_go (bt := bt) (n := n) (f := f - 1) (a := z) (o := o) (v := v) (by omega) c2; rw [show f - 1 + 1 = f by omega] at g; rw [e_x1]; exact ⟨g.1.symm.trans hD.1, g.2.symm.trans hD.2⟩) (by omega)
  refine v_sub (lv2 := [(0, .ref 99), (1, .int (nI 0)), (2, .int (nI (min n (a + 4))))]) (by simp) ?_
  exact L16 (4 + 1) h (nI 0) 4 a (by exact hR) (by exact FrQ.r) (by first | assumption | omega | rfl) (by first | assumption | omega | rfl) (by exact ⟨rfl, rfl⟩) (Nat.lt_succ_self _)

abbrev P_X3_takeOperand (h : Mm) (w k : List Int32) (a o b : Nat) (bt : Nat → Int32) (n u : Nat) : Option Value → Mm → Prop := fun r h2 => r = some (.int (outI (opdQ bt n u (w, k, a, o, b, true)))) ∧ OutQ (opdQ bt n u (w, k, a, o, b, true)) a h2 ∧ FrQ h h2
theorem c_X3_takeOperand {l : Launch} (h : Mm) (w k : List Int32) (a o b : Nat) (bt : Nat → Int32) (n u : Nat) (hR : RQM h w k a o b true) (hS : RSM h bt n u) (hn : n ≤ 50) (hB : BYQ bt) (hu : u < 3) (hl : w.length + k.length ≤ a) (ha : a < n) (hb : b + c33 k ≤ o) (ho : o ≤ 5) : Con l yX3_takeOperand cX3_takeOperand 3 (some .boolean) 4 91 132 GL h [.ref 99, .int (bt a)] (P_X3_takeOperand h w k a o b bt n u) := by
  refine Con.ofV (own := "FoxRounds$Reader") (nm := "takeOperand") rfl rfl (by decide) (Nat.le_of_ble_eq_true rfl) ?_
  intro κ ρ hkl K
  subst hkl
  show V κ (QM κ (132, ρ, GL, 0, 0) (P_X3_takeOperand h w k a o b bt n u)) 3 (132, ρ, GL, 0, 0) h 0 [(0, .ref 99), (1, .int (bt a))] []
  refine v_iload_n K dX3_takeOperand_0 rfl ?_
  refine v_bipushN K 33 rfl dX3_takeOperand_1 ?_
  refine v_icmp_eq (tgt := 12) K dX3_takeOperand_3 rfl (fun c1 => ?_) (fun c1 => ?_)
  · skip
    refine v_aload_n K dX3_takeOperand_12 rfl ?_
    refine v_iload_n K dX3_takeOperand_13 rfl ?_
    refine v_callV (As := [.int (bt a)]) K (c_X3_takeOpening h w k a o b (bt a)  hR (by omega) (by omega)) lX3_77 ck_X3 rfl sh_99 pl_99 rfl ⟨by decide, by decide⟩ (Nat.le_of_ble_eq_true rfl) dX3_takeOperand_14 (fun r1 h1 hp1 => ?_) rfl
    obtain ⟨rfl, hOy1, hGy1⟩ := hp1
    have hFy1 := FrQ.r.t hGy1
    refine v_some ?_
    refine v_zret K dX3_takeOperand_17 (outI_01 _) ?_
    have e0 : opdQ bt n u (w, k, a, o, b, true) = opnQ (bt a) w k a o b := opd_open (Or.inl (by simpa using c1))
    exact ⟨by rw [e0], by rw [e0]; exact hOy1, hFy1⟩
  · skip
    refine v_iload_n K dX3_takeOperand_6 rfl ?_
    refine v_bipushN K 40 rfl dX3_takeOperand_7 ?_
    refine v_icmp_ne (tgt := 18) K dX3_takeOperand_9 rfl (fun c2 => ?_) (fun c2 => ?_)
    · skip
      refine v_iload_n K dX3_takeOperand_18 rfl ?_
      refine v_if_le (tgt := 34) K dX3_takeOperand_19 rfl (fun c3 => ?_) (fun c3 => ?_)
      · skip
        refine v_iconst (v := (-1)) K dX3_takeOperand_34 (by decide) ?_
        refine v_top (y := nmI (nameP u (bt a))) (by rw [name_pos c3]; rfl) ?_
        rcases hj : nameP u (bt a) with _ | j
        · skip
          refine v_top (y := (-1)) (by rfl) ?_
          refine v_istore_n (lv2 := [(2, .int ((-1))), (0, .ref 99), (1, .int (bt a))]) K dX3_takeOperand_35 (by decide) rfl ?_
          refine v_iload_n K dX3_takeOperand_36 rfl ?_
          refine v_if_lt (tgt := 63) K dX3_takeOperand_37 rfl (fun c4 => ?_) (fun c4 => ?_)
          · skip
            refine v_iload_n K dX3_takeOperand_63 rfl ?_
            refine v_callS (As := [.int (bt a)]) K (c_X3_isDigit h (bt a)) lX3_89 rfl ⟨by decide, by decide⟩ (Nat.le_of_ble_eq_true rfl) dX3_takeOperand_64 (fun r2 h2 hp2 => ?_) rfl
            obtain ⟨rfl, rfl⟩ := hp2
            refine v_some ?_
            refine v_ifB_eq (tgt := 77) K dX3_takeOperand_67 rfl (fun c5 => ?_) (fun c5 => ?_)
            · skip
              refine v_iconstN K 0 rfl dX3_takeOperand_77 ?_
              refine v_zret K dX3_takeOperand_78 (by decide) ?_
              have e0 : opdQ bt n u (w, k, a, o, b, true) = none := opd_none (by rintro (q | q); exact absurd q (by simpa using c1); exact absurd q (by simpa using c2)) hj (by simpa using c5)
              exact ⟨by rw [e0]; rfl, OutQ.n e0 hR.at_, FrQ.r⟩
            · skip
              refine v_aload_n K dX3_takeOperand_70 rfl ?_
              refine v_callV (As := []) K (c_X3_takeNumber h w k a o b true bt n u  hR (hS.fr FrQ.r) hn (by omega) (by omega)) lX3_92 ck_X3 rfl sh_99 pl_99 rfl ⟨by decide, by decide⟩ (Nat.le_of_ble_eq_true rfl) dX3_takeOperand_71 (fun r3 h3 hp3 => ?_) rfl
              obtain ⟨rfl, hQy2, hGy2⟩ := hp3
              have hFy2 := FrQ.r.t hGy2
              refine v_none ?_
              refine v_goto (tgt := 79) K dX3_takeOperand_74 rfl ?_
              refine v_aload_n K dX3_takeOperand_79 rfl ?_
              have hlw : (w ++ [(digP bt n 4 (nI 0) (a, none, o)).1]).length = w.length + 1 := by rw [List.length_append]; rfl
              refine v_callV (As := []) K (c_X3_endOperand h3 (w ++ [(digP bt n 4 (nI 0) (a, none, o)).1]) k ((digP bt n 4 (nI 0) (a, none, o)).2.2.1) o b true hQy2 (by omega) (by omega) (by omega)) lX3_95 ck_X3 rfl sh_99 pl_99 rfl ⟨by decide, by decide⟩ (Nat.le_of_ble_eq_true rfl) dX3_takeOperand_80 (fun r4 h4 hp4 => ?_) rfl
              obtain ⟨rfl, hQy3, hGy3⟩ := hp4
              have hFy3 := hFy2.t hGy3
              refine v_none ?_
              refine v_iconstN K 1 rfl dX3_takeOperand_83 ?_
              refine v_zret K dX3_takeOperand_84 (by decide) ?_
              have e0 : opdQ bt n u (w, k, a, o, b, true) = some ((bngQ (w ++ [(digP bt n 4 (nI 0) (a, none, o)).1]) k o).1, (bngQ (w ++ [(digP bt n 4 (nI 0) (a, none, o)).1]) k o).2.1, (digP bt n 4 (nI 0) (a, none, o)).2.2.1, (bngQ (w ++ [(digP bt n 4 (nI 0) (a, none, o)).1]) k o).2.2, b, false) := opd_dig (by rintro (q | q); exact absurd q (by simpa using c1); exact absurd q (by simpa using c2)) hj (by simpa using c5)
              exact ⟨by rw [e0]; rfl, OutQ.s e0 hQy3, hFy3⟩
          · skip
            exact absurd c4 (by decide)
        · skip
          have hj5 := name_lt5 hj
          refine v_top (y := nI j) (by rfl) ?_
          refine v_istore_n (lv2 := [(2, .int (nI j)), (0, .ref 99), (1, .int (bt a))]) K dX3_takeOperand_35 (by decide) rfl ?_
          refine v_iload_n K dX3_takeOperand_36 rfl ?_
          refine v_if_lt (tgt := 63) K dX3_takeOperand_37 rfl (fun c6 => ?_) (fun c6 => ?_)
          · skip
            exact absurd c6 (nn_lt (by omega))
          · skip
            refine v_aload_n K dX3_takeOperand_40 rfl ?_
            refine v_getr (q := 100) K fX3_14 sh_99 pl_99 gl_99_0 dX3_takeOperand_41 ?_
            refine v_iconst (v := (-1)) K dX3_takeOperand_44 (by decide) ?_
            refine v_iload_n K dX3_takeOperand_45 rfl ?_
            refine v_isub K dX3_takeOperand_46 ?_
            refine v_callV (As := [.int (((-1)) - (nI j))]) K (c_X5_add h w (((-1)) - (nI j)) hR.w1 (by omega)) lX3_86 ck_X5 rfl sh_100 pl_100 rfl ⟨by decide, by decide⟩ (Nat.le_of_ble_eq_true rfl) dX3_takeOperand_47 (fun r5 h5 hp5 => ?_) rfl
            obtain ⟨rfl, rfl⟩ := hp5
            refine v_none ?_
            have hQz1 : RQM (u2 (u2 h 102 w.length (((-1)) - (nI j))) 100 1 (nI (w.length + 1))) (w ++ [((-1)) - (nI j)]) k a o b true := hR.add
            have hFz1 : FrQ h (u2 (u2 h 102 w.length (((-1)) - (nI j))) 100 1 (nI (w.length + 1))) := (FrQ.r.u (by omega)).u (by omega)
            refine v_aload_n K dX3_takeOperand_50 rfl ?_
            refine v_dup K dX3_takeOperand_51 rfl ?_
            refine v_geti (x := nI a) K fX3_34 sh_99 pl_99 hQz1.at_ dX3_takeOperand_52 ?_
            refine v_iconstN K 1 rfl dX3_takeOperand_55 ?_
            refine v_iaddN K dX3_takeOperand_56 ?_
            refine v_puti K pX3_34 sh_99 pl_99 dX3_takeOperand_57 ?_
            have hQz2 : RQM (u2 (u2 (u2 h 102 w.length (((-1)) - (nI j))) 100 1 (nI (w.length + 1))) 99 4 (nI (a + 1))) (w ++ [((-1)) - (nI j)]) k (a + 1) o b true := hQz1.sa
            have hFz2 : FrQ h (u2 (u2 (u2 h 102 w.length (((-1)) - (nI j))) 100 1 (nI (w.length + 1))) 99 4 (nI (a + 1))) := hFz1.u (by omega)
            refine v_goto (tgt := 79) K dX3_takeOperand_60 rfl ?_
            refine v_aload_n K dX3_takeOperand_79 rfl ?_
            have hlw : (w ++ [((-1)) - (nI j)]).length = w.length + 1 := by rw [List.length_append]; rfl
            refine v_callV (As := []) K (c_X3_endOperand ((u2 (u2 (u2 h 102 w.length (((-1)) - (nI j))) 100 1 (nI (w.length + 1))) 99 4 (nI (a + 1)))) (w ++ [((-1)) - (nI j)]) k (a + 1) o b true hQz2 (by omega) (by omega) (by omega)) lX3_95 ck_X3 rfl sh_99 pl_99 rfl ⟨by decide, by decide⟩ (Nat.le_of_ble_eq_true rfl) dX3_takeOperand_80 (fun r6 h6 hp6 => ?_) rfl
            obtain ⟨rfl, hQy4, hGy4⟩ := hp6
            have hFy4 := hFz2.t hGy4
            refine v_none ?_
            refine v_iconstN K 1 rfl dX3_takeOperand_83 ?_
            refine v_zret K dX3_takeOperand_84 (by decide) ?_
            have e0 : opdQ bt n u (w, k, a, o, b, true) = some ((bngQ (w ++ [((-1)) - (nI j)]) k o).1, (bngQ (w ++ [((-1)) - (nI j)]) k o).2.1, a + 1, (bngQ (w ++ [((-1)) - (nI j)]) k o).2.2, b, false) := opd_name (by rintro (q | q); exact absurd q (by simpa using c1); exact absurd q (by simpa using c2)) hj
            exact ⟨by rw [e0]; rfl, OutQ.s e0 hQy4, hFy4⟩
      · skip
        refine v_aload_n K dX3_takeOperand_22 rfl ?_
        refine v_getd (q := 1020 + (u + 1)) K fX3_30 sh_99 pl_99 (hS.fr FrQ.r).2.2.1 (by omega) dX3_takeOperand_23 ?_
        refine v_iload_n K dX3_takeOperand_26 rfl ?_
        obtain ⟨m, hm, em⟩ := by_pos hB c3
        refine v_top (y := nI m) em ?_
        refine v_i2c K dX3_takeOperand_27 rfl ?_
        refine v_top (y := nI m) (i2c_n hm) ?_
        refine v_callT (i := (u + 1)) (As := [.int (nI m)]) K (c_J0_indexOf_0f7a4 h ((u + 1)) m (by omega) (by omega)) lX3_80 rfl (by omega) rfl ⟨by decide, by decide⟩ (Nat.le_of_ble_eq_true rfl) dX3_takeOperand_28 (fun r7 h7 hp7 => ?_) rfl
        obtain ⟨rfl, rfl⟩ := hp7
        refine v_some ?_
        refine v_top (y := nmI (nameP u (bt a))) (by rw [em]; exact idx_name hu hm) ?_
        refine v_goto (tgt := 35) K dX3_takeOperand_31 rfl ?_
        rcases hj : nameP u (bt a) with _ | j
        · skip
          refine v_top (y := (-1)) (by rfl) ?_
          refine v_istore_n (lv2 := [(2, .int ((-1))), (0, .ref 99), (1, .int (bt a))]) K dX3_takeOperand_35 (by decide) rfl ?_
          refine v_iload_n K dX3_takeOperand_36 rfl ?_
          refine v_if_lt (tgt := 63) K dX3_takeOperand_37 rfl (fun c7 => ?_) (fun c7 => ?_)
          · skip
            refine v_iload_n K dX3_takeOperand_63 rfl ?_
            refine v_callS (As := [.int (bt a)]) K (c_X3_isDigit h (bt a)) lX3_89 rfl ⟨by decide, by decide⟩ (Nat.le_of_ble_eq_true rfl) dX3_takeOperand_64 (fun r8 h8 hp8 => ?_) rfl
            obtain ⟨rfl, rfl⟩ := hp8
            refine v_some ?_
            refine v_ifB_eq (tgt := 77) K dX3_takeOperand_67 rfl (fun c8 => ?_) (fun c8 => ?_)
            · skip
              refine v_iconstN K 0 rfl dX3_takeOperand_77 ?_
              refine v_zret K dX3_takeOperand_78 (by decide) ?_
              have e0 : opdQ bt n u (w, k, a, o, b, true) = none := opd_none (by rintro (q | q); exact absurd q (by simpa using c1); exact absurd q (by simpa using c2)) hj (by simpa using c8)
              exact ⟨by rw [e0]; rfl, OutQ.n e0 hR.at_, FrQ.r⟩
            · skip
              refine v_aload_n K dX3_takeOperand_70 rfl ?_
              refine v_callV (As := []) K (c_X3_takeNumber h w k a o b true bt n u  hR (hS.fr FrQ.r) hn (by omega) (by omega)) lX3_92 ck_X3 rfl sh_99 pl_99 rfl ⟨by decide, by decide⟩ (Nat.le_of_ble_eq_true rfl) dX3_takeOperand_71 (fun r9 h9 hp9 => ?_) rfl
              obtain ⟨rfl, hQy5, hGy5⟩ := hp9
              have hFy5 := FrQ.r.t hGy5
              refine v_none ?_
              refine v_goto (tgt := 79) K dX3_takeOperand_74 rfl ?_
              refine v_aload_n K dX3_takeOperand_79 rfl ?_
              have hlw : (w ++ [(digP bt n 4 (nI 0) (a, none, o)).1]).length = w.length + 1 := by rw [List.length_append]; rfl
              refine v_callV (As := []) K (c_X3_endOperand h9 (w ++ [(digP bt n 4 (nI 0) (a, none, o)).1]) k ((digP bt n 4 (nI 0) (a, none, o)).2.2.1) o b true hQy5 (by omega) (by omega) (by omega)) lX3_95 ck_X3 rfl sh_99 pl_99 rfl ⟨by decide, by decide⟩ (Nat.le_of_ble_eq_true rfl) dX3_takeOperand_80 (fun r10 h10 hp10 => ?_) rfl
              obtain ⟨rfl, hQy6, hGy6⟩ := hp10
              have hFy6 := hFy5.t hGy6
              refine v_none ?_
              refine v_iconstN K 1 rfl dX3_takeOperand_83 ?_
              refine v_zret K dX3_takeOperand_84 (by decide) ?_
              have e0 : opdQ bt n u (w, k, a, o, b, true) = some ((bngQ (w ++ [(digP bt n 4 (nI 0) (a, none, o)).1]) k o).1, (bngQ (w ++ [(digP bt n 4 (nI 0) (a, none, o)).1]) k o).2.1, (digP bt n 4 (nI 0) (a, none, o)).2.2.1, (bngQ (w ++ [(digP bt n 4 (nI 0) (a, none, o)).1]) k o).2.2, b, false) := opd_dig (by rintro (q | q); exact absurd q (by simpa using c1); exact absurd q (by simpa using c2)) hj (by simpa using c8)
              exact ⟨by rw [e0]; rfl, OutQ.s e0 hQy6, hFy6⟩
          · skip
            exact absurd c7 (by decide)
        · skip
          have hj5 := name_lt5 hj
          refine v_top (y := nI j) (by rfl) ?_
          refine v_istore_n (lv2 := [(2, .int (nI j)), (0, .ref 99), (1, .int (bt a))]) K dX3_takeOperand_35 (by decide) rfl ?_
          refine v_iload_n K dX3_takeOperand_36 rfl ?_
          refine v_if_lt (tgt := 63) K dX3_takeOperand_37 rfl (fun c9 => ?_) (fun c9 => ?_)
          · skip
            exact absurd c9 (nn_lt (by omega))
          · skip
            refine v_aload_n K dX3_takeOperand_40 rfl ?_
            refine v_getr (q := 100) K fX3_14 sh_99 pl_99 gl_99_0 dX3_takeOperand_41 ?_
            refine v_iconst (v := (-1)) K dX3_takeOperand_44 (by decide) ?_
            refine v_iload_n K dX3_takeOperand_45 rfl ?_
            refine v_isub K dX3_takeOperand_46 ?_
            refine v_callV (As := [.int (((-1)) - (nI j))]) K (c_X5_add h w (((-1)) - (nI j)) hR.w1 (by omega)) lX3_86 ck_X5 rfl sh_100 pl_100 rfl ⟨by decide, by decide⟩ (Nat.le_of_ble_eq_true rfl) dX3_takeOperand_47 (fun r11 h11 hp11 => ?_) rfl
            obtain ⟨rfl, rfl⟩ := hp11
            refine v_none ?_
            have hQz3 : RQM (u2 (u2 h 102 w.length (((-1)) - (nI j))) 100 1 (nI (w.length + 1))) (w ++ [((-1)) - (nI j)]) k a o b true := hR.add
            have hFz3 : FrQ h (u2 (u2 h 102 w.length (((-1)) - (nI j))) 100 1 (nI (w.length + 1))) := (FrQ.r.u (by omega)).u (by omega)
            refine v_aload_n K dX3_takeOperand_50 rfl ?_
            refine v_dup K dX3_takeOperand_51 rfl ?_
            refine v_geti (x := nI a) K fX3_34 sh_99 pl_99 hQz3.at_ dX3_takeOperand_52 ?_
            refine v_iconstN K 1 rfl dX3_takeOperand_55 ?_
            refine v_iaddN K dX3_takeOperand_56 ?_
            refine v_puti K pX3_34 sh_99 pl_99 dX3_takeOperand_57 ?_
            have hQz4 : RQM (u2 (u2 (u2 h 102 w.length (((-1)) - (nI j))) 100 1 (nI (w.length + 1))) 99 4 (nI (a + 1))) (w ++ [((-1)) - (nI j)]) k (a + 1) o b true := hQz3.sa
            have hFz4 : FrQ h (u2 (u2 (u2 h 102 w.length (((-1)) - (nI j))) 100 1 (nI (w.length + 1))) 99 4 (nI (a + 1))) := hFz3.u (by omega)
            refine v_goto (tgt := 79) K dX3_takeOperand_60 rfl ?_
            refine v_aload_n K dX3_takeOperand_79 rfl ?_
            have hlw : (w ++ [((-1)) - (nI j)]).length = w.length + 1 := by rw [List.length_append]; rfl
            refine v_callV (As := []) K (c_X3_endOperand ((u2 (u2 (u2 h 102 w.length (((-1)) - (nI j))) 100 1 (nI (w.length + 1))) 99 4 (nI (a + 1)))) (w ++ [((-1)) - (nI j)]) k (a + 1) o b true hQz4 (by omega) (by omega) (by omega)) lX3_95 ck_X3 rfl sh_99 pl_99 rfl ⟨by decide, by decide⟩ (Nat.le_of_ble_eq_true rfl) dX3_takeOperand_80 (fun r12 h12 hp12 => ?_) rfl
            obtain ⟨rfl, hQy7, hGy7⟩ := hp12
            have hFy7 := hFz4.t hGy7
            refine v_none ?_
            refine v_iconstN K 1 rfl dX3_takeOperand_83 ?_
            refine v_zret K dX3_takeOperand_84 (by decide) ?_
            have e0 : opdQ bt n u (w, k, a, o, b, true) = some ((bngQ (w ++ [((-1)) - (nI j)]) k o).1, (bngQ (w ++ [((-1)) - (nI j)]) k o).2.1, a + 1, (bngQ (w ++ [((-1)) - (nI j)]) k o).2.2, b, false) := opd_name (by rintro (q | q); exact absurd q (by simpa using c1); exact absurd q (by simpa using c2)) hj
            exact ⟨by rw [e0]; rfl, OutQ.s e0 hQy7, hFy7⟩
    · skip
      refine v_aload_n K dX3_takeOperand_12 rfl ?_
      refine v_iload_n K dX3_takeOperand_13 rfl ?_
      refine v_callV (As := [.int (bt a)]) K (c_X3_takeOpening h w k a o b (bt a)  hR (by omega) (by omega)) lX3_77 ck_X3 rfl sh_99 pl_99 rfl ⟨by decide, by decide⟩ (Nat.le_of_ble_eq_true rfl) dX3_takeOperand_14 (fun r13 h13 hp13 => ?_) rfl
      obtain ⟨rfl, hOy8, hGy8⟩ := hp13
      have hFy8 := FrQ.r.t hGy8
      refine v_some ?_
      refine v_zret K dX3_takeOperand_17 (outI_01 _) ?_
      have e0 : opdQ bt n u (w, k, a, o, b, true) = opnQ (bt a) w k a o b := opd_open (Or.inr (by simpa using c2))
      exact ⟨by rw [e0], by rw [e0]; exact hOy8, hFy8⟩

abbrev P_X3_takeFollower (h : Mm) (w k : List Int32) (a o b : Nat) (bt : Nat → Int32) (n u : Nat) : Option Value → Mm → Prop := fun r h2 => r = some (.int (outI (folQ bt (w, k, a, o, b, false)))) ∧ OutQ (folQ bt (w, k, a, o, b, false)) a h2 ∧ FrQ h h2
theorem c_X3_takeFollower {l : Launch} (h : Mm) (w k : List Int32) (a o b : Nat) (bt : Nat → Int32) (n u : Nat) (hR : RQM h w k a o b false) (hS : RSM h bt n u) (hn : n ≤ 50) (hl : w.length + k.length ≤ a) (ha : a < n) (hb : b + c33 k ≤ o) (ho : o ≤ 5) : Con l yX3_takeFollower cX3_takeFollower 3 (some .boolean) 3 62 132 GL h [.ref 99, .int (bt a)] (P_X3_takeFollower h w k a o b bt n u) := by
  refine Con.ofV (own := "FoxRounds$Reader") (nm := "takeFollower") rfl rfl (by decide) (Nat.le_of_ble_eq_true rfl) ?_
  intro κ ρ hkl K
  subst hkl
  show V κ (QM κ (132, ρ, GL, 0, 0) (P_X3_takeFollower h w k a o b bt n u)) 3 (132, ρ, GL, 0, 0) h 0 [(0, .ref 99), (1, .int (bt a))] []
  have hv := lv_le (b := bt a)
  refine v_iload_n K dX3_takeFollower_0 rfl ?_
  refine v_bipushN K 41 rfl dX3_takeFollower_1 ?_
  refine v_icmp_ne (tgt := 11) K dX3_takeFollower_3 rfl (fun c1 => ?_) (fun c1 => ?_)
  · skip
    refine v_iload_n K dX3_takeFollower_11 rfl ?_
    refine v_callS (As := [.int (bt a)]) K (c_X3_levelOf h (bt a)) lX3_105 rfl ⟨by decide, by decide⟩ (Nat.le_of_ble_eq_true rfl) dX3_takeFollower_12 (fun r1 h1 hp1 => ?_) rfl
    obtain ⟨rfl, rfl⟩ := hp1
    refine v_some ?_
    refine v_istore_n (lv2 := [(2, .int (nI (lvQ (bt a)))), (0, .ref 99), (1, .int (bt a))]) K dX3_takeFollower_15 (by decide) rfl ?_
    refine v_iload_n K dX3_takeFollower_16 rfl ?_
    refine v_ifN_ne (tgt := 22) K (by omega) dX3_takeFollower_17 rfl (fun c2 => ?_) (fun c2 => ?_)
    · skip
      refine v_aload_n K dX3_takeFollower_22 rfl ?_
      refine v_iload_n K dX3_takeFollower_23 rfl ?_
      refine v_iconstN K 3 rfl dX3_takeFollower_24 ?_
      refine v_icmpN_ne (tgt := 32) K (by omega) (by omega) dX3_takeFollower_25 rfl (fun c3 => ?_) (fun c3 => ?_)
      · skip
        refine v_iload_n K dX3_takeFollower_32 rfl ?_
        refine v_callV (As := [.int (nI (lvQ (bt a)))]) K (c_X3_popDownTo h w k a o b false (lvQ (bt a)) hR (by omega) (by omega)) lX3_70 ck_X3 rfl sh_99 pl_99 rfl ⟨by decide, by decide⟩ (Nat.le_of_ble_eq_true rfl) dX3_takeFollower_33 (fun r2 h2 hp2 => ?_) rfl
        obtain ⟨rfl, hQy1, hGy1⟩ := hp2
        have hFy1 := FrQ.r.t hGy1
        have hPy1 := pop_len (l := lvQ (bt a)) (k := k) (w := w)
        have hCy1 := pop_c33 (l := lvQ (bt a)) (by omega) (k := k) (w := w)
        refine v_none ?_
        refine v_iload_n K dX3_takeFollower_36 rfl ?_
        refine v_iconstN K 3 rfl dX3_takeFollower_37 ?_
        refine v_icmpN_ne (tgt := 68) K (by omega) (by omega) dX3_takeFollower_38 rfl (fun c4 => ?_) (fun c4 => ?_)
        · skip
          refine v_aload_n K dX3_takeFollower_68 rfl ?_
          refine v_iload_n K dX3_takeFollower_69 rfl ?_
          refine v_callV (As := [.int (bt a)]) K (c_X3_pushSign h2 ((popQ (lvQ (bt a)) w k).1) ((popQ (lvQ (bt a)) w k).2) a o b false (bt a) hQy1 (by omega)) lX3_98 ck_X3 rfl sh_99 pl_99 rfl ⟨by decide, by decide⟩ (Nat.le_of_ble_eq_true rfl) dX3_takeFollower_70 (fun r3 h3 hp3 => ?_) rfl
          obtain ⟨rfl, hQy2, hGy2⟩ := hp3
          have hFy2 := hFy1.t hGy2
          refine v_none ?_
          refine v_aload_n K dX3_takeFollower_73 rfl ?_
          refine v_iconstN K 1 rfl dX3_takeFollower_74 ?_
          refine v_putz K pX3_50 sh_99 pl_99 (by decide) dX3_takeFollower_75 ?_
          have hQz1 : RQM (u2 h3 99 9 (nI 1)) ((popQ (lvQ (bt a)) w k).1) ((bt a) :: ((popQ (lvQ (bt a)) w k).2)) a o b true := (hQy2.sd (b2i_t rfl).symm)
          have hFz1 : FrQ h (u2 h3 99 9 (nI 1)) := hFy2.u (by omega)
          refine v_aload_n K dX3_takeFollower_78 rfl ?_
          refine v_dup K dX3_takeFollower_79 rfl ?_
          refine v_geti (x := nI a) K fX3_34 sh_99 pl_99 hQz1.at_ dX3_takeFollower_80 ?_
          refine v_iconstN K 1 rfl dX3_takeFollower_83 ?_
          refine v_iaddN K dX3_takeFollower_84 ?_
          refine v_puti K pX3_34 sh_99 pl_99 dX3_takeFollower_85 ?_
          have hQz2 : RQM (u2 (u2 h3 99 9 (nI 1)) 99 4 (nI (a + 1))) ((popQ (lvQ (bt a)) w k).1) ((bt a) :: ((popQ (lvQ (bt a)) w k).2)) (a + 1) o b true := hQz1.sa
          have hFz2 : FrQ h (u2 (u2 h3 99 9 (nI 1)) 99 4 (nI (a + 1))) := hFz1.u (by omega)
          refine v_iconstN K 1 rfl dX3_takeFollower_88 ?_
          refine v_zret K dX3_takeFollower_89 (by decide) ?_
          have e0 : folQ bt (w, k, a, o, b, false) = some ((popQ (lvQ (bt a)) w k).1, (bt a) :: ((popQ (lvQ (bt a)) w k).2), a + 1, o, b, true) := fol_go (by simpa using c1) (by omega) (by omega)
          exact ⟨by rw [e0]; rfl, OutQ.s e0 hQz2, hFz2⟩
        · skip
          omega
      · skip
        refine v_iconstN K 4 rfl dX3_takeFollower_28 ?_
        refine v_goto (tgt := 33) K dX3_takeFollower_29 rfl ?_
        refine v_callV (As := [.int (nI 4)]) K (c_X3_popDownTo h w k a o b false 4 hR (by omega) (by omega)) lX3_70 ck_X3 rfl sh_99 pl_99 rfl ⟨by decide, by decide⟩ (Nat.le_of_ble_eq_true rfl) dX3_takeFollower_33 (fun r4 h4 hp4 => ?_) rfl
        obtain ⟨rfl, hQy3, hGy3⟩ := hp4
        have hFy3 := FrQ.r.t hGy3
        have hPy3 := pop_len (l := 4) (k := k) (w := w)
        have hCy3 := pop_c33 (l := 4) (by omega) (k := k) (w := w)
        refine v_none ?_
        refine v_iload_n K dX3_takeFollower_36 rfl ?_
        refine v_iconstN K 3 rfl dX3_takeFollower_37 ?_
        refine v_icmpN_ne (tgt := 68) K (by omega) (by omega) dX3_takeFollower_38 rfl (fun c5 => ?_) (fun c5 => ?_)
        · skip
          omega
        · skip
          obtain ⟨w2, k2, hk2⟩ : ∃ w2 k2, popQ 4 w k = (w2, k2) := ⟨_, _, rfl⟩
          have hQ2 : RQM h4 w2 k2 a o b false := by have := hQy3; rw [hk2] at this; exact this
          have hl2 : w2.length + k2.length = w.length + k.length := by have := pop_len (l := 4) (k := k) (w := w); rw [hk2] at this; exact this
          rcases k2 with _ | ⟨x1, q1⟩
          · skip
            refine v_aload_n K dX3_takeFollower_41 rfl ?_
            refine v_geti (x := nI 0) K fX3_41 sh_99 pl_99 hQ2.k1 dX3_takeFollower_42 ?_
            refine v_ifN_le (tgt := 68) K (by omega) dX3_takeFollower_45 rfl (fun c6 => ?_) (fun c6 => ?_)
            · skip
              refine v_aload_n K dX3_takeFollower_68 rfl ?_
              refine v_iload_n K dX3_takeFollower_69 rfl ?_
              refine v_callV (As := [.int (bt a)]) K (c_X3_pushSign h4 w2 ([]) a o b false (bt a) hQ2 (by omega)) lX3_98 ck_X3 rfl sh_99 pl_99 rfl ⟨by decide, by decide⟩ (Nat.le_of_ble_eq_true rfl) dX3_takeFollower_70 (fun r5 h5 hp5 => ?_) rfl
              obtain ⟨rfl, hQy4, hGy4⟩ := hp5
              have hFy4 := hFy3.t hGy4
              refine v_none ?_
              refine v_aload_n K dX3_takeFollower_73 rfl ?_
              refine v_iconstN K 1 rfl dX3_takeFollower_74 ?_
              refine v_putz K pX3_50 sh_99 pl_99 (by decide) dX3_takeFollower_75 ?_
              have hQz3 : RQM (u2 h5 99 9 (nI 1)) w2 ((bt a) :: ([])) a o b true := (hQy4.sd (b2i_t rfl).symm)
              have hFz3 : FrQ h (u2 h5 99 9 (nI 1)) := hFy4.u (by omega)
              refine v_aload_n K dX3_takeFollower_78 rfl ?_
              refine v_dup K dX3_takeFollower_79 rfl ?_
              refine v_geti (x := nI a) K fX3_34 sh_99 pl_99 hQz3.at_ dX3_takeFollower_80 ?_
              refine v_iconstN K 1 rfl dX3_takeFollower_83 ?_
              refine v_iaddN K dX3_takeFollower_84 ?_
              refine v_puti K pX3_34 sh_99 pl_99 dX3_takeFollower_85 ?_
              have hQz4 : RQM (u2 (u2 h5 99 9 (nI 1)) 99 4 (nI (a + 1))) w2 ((bt a) :: ([])) (a + 1) o b true := hQz3.sa
              have hFz4 : FrQ h (u2 (u2 h5 99 9 (nI 1)) 99 4 (nI (a + 1))) := hFz3.u (by omega)
              refine v_iconstN K 1 rfl dX3_takeFollower_88 ?_
              refine v_zret K dX3_takeFollower_89 (by decide) ?_
              have e1 : folQ bt (w, k, a, o, b, false) = some ((popQ 4 w k).1, bt a :: (popQ 4 w k).2, a + 1, o, b, true) := fol_go3 (by simpa using c1) (by omega) (by rw [hk2]; show ¬ 0 = 3; omega)
              rw [hk2] at e1
              have e0 : folQ bt (w, k, a, o, b, false) = some (w2, bt a :: [], a + 1, o, b, true) := e1
              exact ⟨by rw [e0]; rfl, OutQ.s e0 hQz4, hFz4⟩
            · exact absurd c6 (by decide)
          · skip
            have hlen : (x1 :: q1).length = q1.length + 1 := rfl
            have hv5 := lv_le (b := x1)
            refine v_aload_n K dX3_takeFollower_41 rfl ?_
            refine v_geti (x := nI (q1.length + 1)) K fX3_41 sh_99 pl_99 hQ2.k1 dX3_takeFollower_42 ?_
            refine v_ifN_le (tgt := 68) K (by omega) dX3_takeFollower_45 rfl (fun c7 => ?_) (fun c7 => ?_)
            · skip
              refine v_aload_n K dX3_takeFollower_68 rfl ?_
              refine v_iload_n K dX3_takeFollower_69 rfl ?_
              refine v_callV (As := [.int (bt a)]) K (c_X3_pushSign h4 w2 (x1 :: q1) a o b false (bt a) hQ2 (by omega)) lX3_98 ck_X3 rfl sh_99 pl_99 rfl ⟨by decide, by decide⟩ (Nat.le_of_ble_eq_true rfl) dX3_takeFollower_70 (fun r6 h6 hp6 => ?_) rfl
              obtain ⟨rfl, hQy5, hGy5⟩ := hp6
              have hFy5 := hFy3.t hGy5
              refine v_none ?_
              refine v_aload_n K dX3_takeFollower_73 rfl ?_
              refine v_iconstN K 1 rfl dX3_takeFollower_74 ?_
              refine v_putz K pX3_50 sh_99 pl_99 (by decide) dX3_takeFollower_75 ?_
              have hQz5 : RQM (u2 h6 99 9 (nI 1)) w2 ((bt a) :: (x1 :: q1)) a o b true := (hQy5.sd (b2i_t rfl).symm)
              have hFz5 : FrQ h (u2 h6 99 9 (nI 1)) := hFy5.u (by omega)
              refine v_aload_n K dX3_takeFollower_78 rfl ?_
              refine v_dup K dX3_takeFollower_79 rfl ?_
              refine v_geti (x := nI a) K fX3_34 sh_99 pl_99 hQz5.at_ dX3_takeFollower_80 ?_
              refine v_iconstN K 1 rfl dX3_takeFollower_83 ?_
              refine v_iaddN K dX3_takeFollower_84 ?_
              refine v_puti K pX3_34 sh_99 pl_99 dX3_takeFollower_85 ?_
              have hQz6 : RQM (u2 (u2 h6 99 9 (nI 1)) 99 4 (nI (a + 1))) w2 ((bt a) :: (x1 :: q1)) (a + 1) o b true := hQz5.sa
              have hFz6 : FrQ h (u2 (u2 h6 99 9 (nI 1)) 99 4 (nI (a + 1))) := hFz5.u (by omega)
              refine v_iconstN K 1 rfl dX3_takeFollower_88 ?_
              refine v_zret K dX3_takeFollower_89 (by decide) ?_
              have e1 : folQ bt (w, k, a, o, b, false) = some ((popQ 4 w k).1, bt a :: (popQ 4 w k).2, a + 1, o, b, true) := fol_go3 (by simpa using c1) (by omega) (by rw [hk2]; show ¬ lvQ x1 = 3; omega)
              rw [hk2] at e1
              have e0 : folQ bt (w, k, a, o, b, false) = some (w2, bt a :: (x1 :: q1), a + 1, o, b, true) := e1
              exact ⟨by rw [e0]; rfl, OutQ.s e0 hQz6, hFz6⟩
            · skip
              refine v_aload_n K dX3_takeFollower_48 rfl ?_
              refine v_getr (q := 105) K fX3_37 sh_99 pl_99 gl_99_5 dX3_takeFollower_49 ?_
              refine v_aload_n K dX3_takeFollower_52 rfl ?_
              refine v_geti (x := nI (q1.length + 1)) K fX3_41 sh_99 pl_99 hQ2.k1 dX3_takeFollower_53 ?_
              refine v_iconstN K 1 rfl dX3_takeFollower_56 ?_
              refine v_isubN K (by omega) dX3_takeFollower_57 ?_
              refine v_iald (x := x1) K sh_105 pl_105 (by omega) hQ2.top dX3_takeFollower_58 ?_
              refine v_callS (As := [.int x1]) K (c_X3_levelOf h4 x1) lX3_105 rfl ⟨by decide, by decide⟩ (Nat.le_of_ble_eq_true rfl) dX3_takeFollower_59 (fun r7 h7 hp7 => ?_) rfl
              obtain ⟨rfl, rfl⟩ := hp7
              refine v_some ?_
              refine v_iconstN K 3 rfl dX3_takeFollower_62 ?_
              refine v_icmpN_ne (tgt := 68) K (by omega) (by omega) dX3_takeFollower_63 rfl (fun c8 => ?_) (fun c8 => ?_)
              · skip
                refine v_aload_n K dX3_takeFollower_68 rfl ?_
                refine v_iload_n K dX3_takeFollower_69 rfl ?_
                refine v_callV (As := [.int (bt a)]) K (c_X3_pushSign h4 w2 (x1 :: q1) a o b false (bt a) hQ2 (by omega)) lX3_98 ck_X3 rfl sh_99 pl_99 rfl ⟨by decide, by decide⟩ (Nat.le_of_ble_eq_true rfl) dX3_takeFollower_70 (fun r8 h8 hp8 => ?_) rfl
                obtain ⟨rfl, hQy6, hGy6⟩ := hp8
                have hFy6 := hFy3.t hGy6
                refine v_none ?_
                refine v_aload_n K dX3_takeFollower_73 rfl ?_
                refine v_iconstN K 1 rfl dX3_takeFollower_74 ?_
                refine v_putz K pX3_50 sh_99 pl_99 (by decide) dX3_takeFollower_75 ?_
                have hQz7 : RQM (u2 h8 99 9 (nI 1)) w2 ((bt a) :: (x1 :: q1)) a o b true := (hQy6.sd (b2i_t rfl).symm)
                have hFz7 : FrQ h (u2 h8 99 9 (nI 1)) := hFy6.u (by omega)
                refine v_aload_n K dX3_takeFollower_78 rfl ?_
                refine v_dup K dX3_takeFollower_79 rfl ?_
                refine v_geti (x := nI a) K fX3_34 sh_99 pl_99 hQz7.at_ dX3_takeFollower_80 ?_
                refine v_iconstN K 1 rfl dX3_takeFollower_83 ?_
                refine v_iaddN K dX3_takeFollower_84 ?_
                refine v_puti K pX3_34 sh_99 pl_99 dX3_takeFollower_85 ?_
                have hQz8 : RQM (u2 (u2 h8 99 9 (nI 1)) 99 4 (nI (a + 1))) w2 ((bt a) :: (x1 :: q1)) (a + 1) o b true := hQz7.sa
                have hFz8 : FrQ h (u2 (u2 h8 99 9 (nI 1)) 99 4 (nI (a + 1))) := hFz7.u (by omega)
                refine v_iconstN K 1 rfl dX3_takeFollower_88 ?_
                refine v_zret K dX3_takeFollower_89 (by decide) ?_
                have e1 : folQ bt (w, k, a, o, b, false) = some ((popQ 4 w k).1, bt a :: (popQ 4 w k).2, a + 1, o, b, true) := fol_go3 (by simpa using c1) (by omega) (by rw [hk2]; show ¬ lvQ x1 = 3; omega)
                rw [hk2] at e1
                have e0 : folQ bt (w, k, a, o, b, false) = some (w2, bt a :: (x1 :: q1), a + 1, o, b, true) := e1
                exact ⟨by rw [e0]; rfl, OutQ.s e0 hQz8, hFz8⟩
              · skip
                refine v_iconstN K 0 rfl dX3_takeFollower_66 ?_
                refine v_zret K dX3_takeFollower_67 (by decide) ?_
                have e0 : folQ bt (w, k, a, o, b, false) = none := fol_no3 (by simpa using c1) (by omega) (by rw [hk2]; show lvQ x1 = 3; omega)
                exact ⟨by rw [e0]; rfl, OutQ.n e0 hQ2.at_, hFy3⟩
    · skip
      refine v_iconstN K 0 rfl dX3_takeFollower_20 ?_
      refine v_zret K dX3_takeFollower_21 (by decide) ?_
      have e0 : folQ bt (w, k, a, o, b, false) = none := fol_no (by simpa using c1) (by omega)
      exact ⟨by rw [e0]; rfl, OutQ.n e0 hR.at_, FrQ.r⟩
  · skip
    refine v_aload_n K dX3_takeFollower_6 rfl ?_
    refine v_callV (As := []) K (c_X3_takeClosing h w k a o b  hR (by omega) (by omega) (by omega)) lX3_101 ck_X3 rfl sh_99 pl_99 rfl ⟨by decide, by decide⟩ (Nat.le_of_ble_eq_true rfl) dX3_takeFollower_7 (fun r9 h9 hp9 => ?_) rfl
    obtain ⟨rfl, hOy7, hGy7⟩ := hp9
    have hFy7 := FrQ.r.t hGy7
    refine v_some ?_
    refine v_zret K dX3_takeFollower_10 (outI_01 _) ?_
    have e0 : folQ bt (w, k, a, o, b, false) = clsQ w k a o b := fol_close (by simpa using c1)
    exact ⟨by rw [e0], by rw [e0]; exact hOy7, hFy7⟩
