/-- how the reading ends -/
theorem fo_bad {bt b0 : Nat → Int32} {n u : Nat} {x : QS} (H : ∀ i, ix (b0 i) 256) (hbt : bt = sgB b0) (hn : n ≤ 50) (hr : RchQ bt n u xQ0 x) (hs : StkQ bt n u x x.2.2.1) : faultP b0 n u = some x.2.2.1 := by
  subst hbt
  refine end_bad (c := (parseE b0 n u).1) hr hs (fun p hp => sg_fail H (read_fault hn hp)) (fun hq => ?_)
  obtain ⟨w', pd, r1, r2⟩ := read_good hn hq
  exact ⟨w', pd, (sg_rch H).mpr r1, r2⟩
theorem fo_ok {bt b0 : Nat → Int32} {n u : Nat} {w k : List Int32} {o : Nat} (H : ∀ i, ix (b0 i) 256) (hbt : bt = sgB b0) (hn : n ≤ 50) (hr : RchQ bt n u xQ0 (w, k, n, o, 0, false)) : faultP b0 n u = none ∧ popQ 1 w k = ((parseE b0 n u).1, []) := by
  subst hbt
  refine end_ok hr (fun p hp => sg_fail H (read_fault hn hp)) (fun hq => ?_)
  obtain ⟨w', pd, r1, r2⟩ := read_good hn hq
  exact ⟨w', pd, (sg_rch H).mpr r1, r2⟩
theorem fo_1 {o : Option Nat} {p : Nat} {h2 : Mm} {c : List Int32} {F : Prop} (e : o = some p) (hF : F) : ((∀ q, o = some q → some (Value.int (nI p)) = some (.int (nI q))) ∧ (o = none → some (Value.int (nI p)) = some (.int (-1)) ∧ TXg h2 100 102 c)) ∧ F :=
  ⟨⟨fun q hq => by cases e.symm.trans hq; rfl, fun hq => nomatch e.symm.trans hq⟩, hF⟩
theorem fo_2 {o : Option Nat} {h2 : Mm} {c : List Int32} {F : Prop} (e : o = none) (hT : TXg h2 100 102 c) (hF : F) : ((∀ q, o = some q → some (Value.int (-1)) = some (.int (nI q))) ∧ (o = none → some (Value.int (-1)) = some (.int (-1)) ∧ TXg h2 100 102 c)) ∧ F :=
  ⟨⟨fun q hq => (nomatch e.symm.trans hq), fun _ => ⟨rfl, hT⟩⟩, hF⟩
theorem wf_0 {n : Nat} : WfQ n xQ0 := ⟨Nat.le_refl _, Nat.zero_le _, Nat.le_refl _, Nat.zero_le _⟩
theorem FrQ.h {h0 h hb : Mm} {n m : Nat} (e : hb = u2 (u2 (u2 h0 99 1 (nI 37)) 99 2 (nI n)) 99 3 (nI m)) (F : FrQ hb h) : ∀ a, a ≠ 99 → a ≠ 100 → a ≠ 102 → a ≠ 105 → h a = h0 a := fun a a1 a2 a3 a4 => by
  rw [F.1 a a1 a2 a3 a4, e, u2_off a1, u2_off a1, u2_off a1]

abbrev P_X3_faultOf (h : Mm) (b0 : Nat → Int32) (n u : Nat) : Option Value → Mm → Prop := fun r h2 => ((∀ p, faultP b0 n u = some p → r = some (.int (nI p))) ∧ (faultP b0 n u = none → r = some (.int (-1)) ∧ TXg h2 100 102 (parseE b0 n u).1)) ∧ ∀ a, a ≠ 99 → a ≠ 100 → a ≠ 102 → a ≠ 105 → h2 a = h a
theorem c_X3_faultOf {l : Launch} (h : Mm) (b0 : Nat → Int32) (n u : Nat) (hB0 : ∀ i, ix (b0 i) 256) (hn : n ≤ 50) (hu : u < 3) (hm : ∀ i, i < n → h 36 i = (b0 i).toInt8.toInt32) : Con l yX3_faultOf cX3_faultOf 5 (some .int) 5 113 132 GL h [.ref 99, .ref 36, .int (nI n), .ref (1020 + (u + 1))] (P_X3_faultOf h b0 n u) := by
  refine Con.ofV (own := "FoxRounds$Reader") (nm := "faultOf") rfl rfl (by decide) (Nat.le_of_ble_eq_true rfl) ?_
  intro κ ρ hkl K
  subst hkl
  show V κ (QM κ (132, ρ, GL, 0, 0) (P_X3_faultOf h b0 n u)) 5 (132, ρ, GL, 0, 0) h 0 [(0, .ref 99), (1, .ref 36), (2, .int (nI n)), (3, .ref (1020 + (u + 1)))] []
  obtain ⟨bt, hbt⟩ : ∃ bt, bt = sgB b0 := ⟨_, rfl⟩
  have hB : BYQ bt := by rw [hbt]; exact BYQ.sg hB0
  refine v_aload_n K dX3_faultOf_0 rfl ?_
  refine v_aload_n K dX3_faultOf_1 rfl ?_
  refine v_putd K pX3_20 (Or.inr ⟨_, rfl⟩) sh_99 pl_99 (by omega) dX3_faultOf_2 ?_
  refine v_aload_n K dX3_faultOf_5 rfl ?_
  refine v_iload_n K dX3_faultOf_6 rfl ?_
  refine v_aload_n K dX3_faultOf_7 rfl ?_
  refine v_alen (N := 50) K sh_36 (by decide) pl_36 dX3_faultOf_8 ?_
  refine v_min K jX3_54 jst_min jin_math jco_min ⟨by decide, by decide, Nat.zero_le _, Nat.zero_le _⟩ (Nat.le_of_ble_eq_true rfl) dX3_faultOf_9 ?_
  refine v_top (y := nI n) ((min_nn (by omega) (by omega)).trans (by rw [Nat.min_eq_left hn])) ?_
  refine v_puti K pX3_24 sh_99 pl_99 dX3_faultOf_12 ?_
  refine v_aload_n K dX3_faultOf_15 rfl ?_
  refine v_aload_n K dX3_faultOf_16 rfl ?_
  refine v_putd K pX3_30 (Or.inl ⟨_, rfl⟩) sh_99 pl_99 (by omega) dX3_faultOf_17 ?_
  refine v_mem (fun hb ehb => ?_)
  have hS : RSM hb bt n u := by
    rw [ehb]
    refine ⟨(u2_ne (by omega)).trans ((u2_ne (by omega)).trans u2_at), (u2_ne (by omega)).trans u2_at, u2_at, fun i hi => ?_⟩
    rw [u2_ne (by omega), u2_ne (by omega), u2_ne (by omega), hm i hi, hbt]; rfl
  refine v_aload_n K dX3_faultOf_20 rfl ?_
  refine v_callV (As := []) K (c_X3_begin hb) lX3_60 ck_X3 rfl sh_99 pl_99 rfl ⟨by decide, by decide⟩ (Nat.le_of_ble_eq_true rfl) dX3_faultOf_21 (fun r1 h1 hp1 => ?_) rfl
  obtain ⟨rfl, hQb, hFb⟩ := hp1
  refine v_none ?_
  refine v_iconstN K 0 rfl dX3_faultOf_24 ?_
  refine v_istore (lv2 := [(4, .int (nI 0)), (0, .ref 99), (1, .ref 36), (2, .int (nI n)), (3, .ref (1020 + (u + 1)))]) K dX3_faultOf_25 (by decide) rfl ?_
  have L27 : ∀ (mm : Nat) (hm2 : Mm) (w : List Int32) (k : List Int32) (a : Nat) (o : Nat) (b : Nat) (e : Bool) (i : Nat) (hR1 : RQM hm2 w k a o b e) (hF1 : FrQ hb hm2) (hW : WfQ n (w, k, a, o, b, e)) (hC : RchQ bt n u xQ0 (w, k, a, o, b, e)) (hi : i ≤ a), n - i < mm → V κ (QM κ (132, ρ, GL, 0, 0) (P_X3_faultOf h b0 n u)) 5 (132, ρ, GL, 0, 0) hm2 27 [(0, .ref 99), (1, .ref 36), (2, .int (nI n)), (3, .ref (1020 + (u + 1))), (4, .int (nI i))] [] := by
    intro mm
    induction mm with
    | zero => intro hm2 w k a o b e i hR1 hF1 hW hC hi hmm; exact absurd hmm (Nat.not_lt_zero _)
    | succ mm ih27 =>
      intro hm2 w k a o b e i hR1 hF1 hW hC hi hmm
      obtain ⟨w1, w2, w3, w4⟩ : w.length + k.length ≤ a ∧ a ≤ n ∧ b + c33 k ≤ o ∧ o ≤ 5 := id hW
      refine v_iload K dX3_faultOf_27 rfl ?_
      refine v_aload_n K dX3_faultOf_29 rfl ?_
      refine v_geti (x := nI n) K fX3_24 sh_99 pl_99 (hS.fr hF1).2.1 dX3_faultOf_30 ?_
      refine v_icmpN_ge (tgt := 94) K (by omega) (by omega) dX3_faultOf_33 rfl (fun c1 => ?_) (fun c1 => ?_)
      · skip
        refine v_aload_n K dX3_faultOf_94 rfl ?_
        refine v_geti (x := b2i (e = true)) K fX3_50 sh_99 pl_99 hR1.du dX3_faultOf_95 ?_
        refine v_ifB_ne (tgt := 108) K dX3_faultOf_98 rfl (fun c2 => ?_) (fun c2 => ?_)
        · skip
          refine v_aload_n K dX3_faultOf_108 rfl ?_
          refine v_geti (x := nI n) K fX3_24 sh_99 pl_99 (hS.fr hF1).2.1 dX3_faultOf_109 ?_
          refine v_iret K dX3_faultOf_112 ?_
          have ea : a = n := by have q1 : a ≤ n := hW.2.1; omega
          exact fo_1 ((fo_bad hB0 hbt hn hC ⟨rfl, Or.inr ⟨ea, Or.inl (by simpa using c2)⟩⟩).trans (congrArg some ea)) (FrQ.h ehb hF1)
        · skip
          have cdu : ¬ e = true := c2
          refine v_aload_n K dX3_faultOf_101 rfl ?_
          refine v_geti (x := nI b) K fX3_47 sh_99 pl_99 hR1.br dX3_faultOf_102 ?_
          refine v_ifN_le (tgt := 113) K (by omega) dX3_faultOf_105 rfl (fun c3 => ?_) (fun c3 => ?_)
          · skip
            refine v_aload_n K dX3_faultOf_113 rfl ?_
            refine v_iconstN K 1 rfl dX3_faultOf_114 ?_
            refine v_callV (As := [.int (nI 1)]) K (c_X3_popDownTo hm2 w k a o b e 1 hR1 (by omega) (by omega)) lX3_70 ck_X3 rfl sh_99 pl_99 rfl ⟨by decide, by decide⟩ (Nat.le_of_ble_eq_true rfl) dX3_faultOf_115 (fun r2 h2 hp2 => ?_) rfl
            obtain ⟨rfl, hQy1, hGy1⟩ := hp2
            have hFy1 := hF1.t hGy1
            have hPy1 := pop_len (l := 1) (k := k) (w := w)
            have hCy1 := pop_c33 (l := 1) (by omega) (k := k) (w := w)
            refine v_none ?_
            refine v_iconst (v := (-1)) K dX3_faultOf_118 (by decide) ?_
            refine v_iret K dX3_faultOf_119 ?_
            have ea : a = n := by have q1 : a ≤ n := hW.2.1; omega
            have eb : b = 0 := by omega
            have ee : e = false := by simpa using cdu
            subst ea
            subst eb
            subst ee
            obtain ⟨f1, f2⟩ := fo_ok hB0 hbt hn hC
            have hT := hQy1
            rw [f2] at hT
            have hP2 := pop_len (l := 1) (k := k) (w := w)
            rw [f2] at hP2
            have hP2 : (parseE b0 a u).1.length + 0 = w.length + k.length := hP2
            have hW1 : w.length + k.length ≤ a := hW.1
            exact fo_2 f1 ⟨hT.w1, by omega, hT.w2⟩ (FrQ.h ehb hFy1)
          · skip
            refine v_aload_n K dX3_faultOf_108 rfl ?_
            refine v_geti (x := nI n) K fX3_24 sh_99 pl_99 (hS.fr hF1).2.1 dX3_faultOf_109 ?_
            refine v_iret K dX3_faultOf_112 ?_
            have ea : a = n := by have q1 : a ≤ n := hW.2.1; omega
            exact fo_1 ((fo_bad hB0 hbt hn hC ⟨rfl, Or.inr ⟨ea, Or.inr (by show 0 < b; omega)⟩⟩).trans (congrArg some ea)) (FrQ.h ehb hF1)
      · skip
        refine v_aload_n K dX3_faultOf_36 rfl ?_
        refine v_geti (x := nI a) K fX3_34 sh_99 pl_99 hR1.at_ dX3_faultOf_37 ?_
        refine v_aload_n K dX3_faultOf_40 rfl ?_
        refine v_geti (x := nI n) K fX3_24 sh_99 pl_99 (hS.fr hF1).2.1 dX3_faultOf_41 ?_
        refine v_icmpN_ge (tgt := 94) K (by omega) (by omega) dX3_faultOf_44 rfl (fun c4 => ?_) (fun c4 => ?_)
        · skip
          refine v_aload_n K dX3_faultOf_94 rfl ?_
          refine v_geti (x := b2i (e = true)) K fX3_50 sh_99 pl_99 hR1.du dX3_faultOf_95 ?_
          refine v_ifB_ne (tgt := 108) K dX3_faultOf_98 rfl (fun c5 => ?_) (fun c5 => ?_)
          · skip
            refine v_aload_n K dX3_faultOf_108 rfl ?_
            refine v_geti (x := nI n) K fX3_24 sh_99 pl_99 (hS.fr hF1).2.1 dX3_faultOf_109 ?_
            refine v_iret K dX3_faultOf_112 ?_
            have ea : a = n := by have q1 : a ≤ n := hW.2.1; omega
            exact fo_1 ((fo_bad hB0 hbt hn hC ⟨rfl, Or.inr ⟨ea, Or.inl (by simpa using c5)⟩⟩).trans (congrArg some ea)) (FrQ.h ehb hF1)
          · skip
            have cdu : ¬ e = true := c5
            refine v_aload_n K dX3_faultOf_101 rfl ?_
            refine v_geti (x := nI b) K fX3_47 sh_99 pl_99 hR1.br dX3_faultOf_102 ?_
            refine v_ifN_le (tgt := 113) K (by omega) dX3_faultOf_105 rfl (fun c6 => ?_) (fun c6 => ?_)
            · skip
              refine v_aload_n K dX3_faultOf_113 rfl ?_
              refine v_iconstN K 1 rfl dX3_faultOf_114 ?_
              refine v_callV (As := [.int (nI 1)]) K (c_X3_popDownTo hm2 w k a o b e 1 hR1 (by omega) (by omega)) lX3_70 ck_X3 rfl sh_99 pl_99 rfl ⟨by decide, by decide⟩ (Nat.le_of_ble_eq_true rfl) dX3_faultOf_115 (fun r3 h3 hp3 => ?_) rfl
              obtain ⟨rfl, hQy2, hGy2⟩ := hp3
              have hFy2 := hF1.t hGy2
              have hPy2 := pop_len (l := 1) (k := k) (w := w)
              have hCy2 := pop_c33 (l := 1) (by omega) (k := k) (w := w)
              refine v_none ?_
              refine v_iconst (v := (-1)) K dX3_faultOf_118 (by decide) ?_
              refine v_iret K dX3_faultOf_119 ?_
              have ea : a = n := by have q1 : a ≤ n := hW.2.1; omega
              have eb : b = 0 := by omega
              have ee : e = false := by simpa using cdu
              subst ea
              subst eb
              subst ee
              obtain ⟨f1, f2⟩ := fo_ok hB0 hbt hn hC
              have hT := hQy2
              rw [f2] at hT
              have hP2 := pop_len (l := 1) (k := k) (w := w)
              rw [f2] at hP2
              have hP2 : (parseE b0 a u).1.length + 0 = w.length + k.length := hP2
              have hW1 : w.length + k.length ≤ a := hW.1
              exact fo_2 f1 ⟨hT.w1, by omega, hT.w2⟩ (FrQ.h ehb hFy2)
            · skip
              refine v_aload_n K dX3_faultOf_108 rfl ?_
              refine v_geti (x := nI n) K fX3_24 sh_99 pl_99 (hS.fr hF1).2.1 dX3_faultOf_109 ?_
              refine v_iret K dX3_faultOf_112 ?_
              have ea : a = n := by have q1 : a ≤ n := hW.2.1; omega
              exact fo_1 ((fo_bad hB0 hbt hn hC ⟨rfl, Or.inr ⟨ea, Or.inr (by show 0 < b; omega)⟩⟩).trans (congrArg some ea)) (FrQ.h ehb hF1)
        · skip
          refine v_aload_n K dX3_faultOf_47 rfl ?_
          refine v_geti (x := b2i (e = true)) K fX3_50 sh_99 pl_99 hR1.du dX3_faultOf_48 ?_
          refine v_ifB_eq (tgt := 70) K dX3_faultOf_51 rfl (fun c7 => ?_) (fun c7 => ?_)
          · skip
            obtain rfl : e = false := by simpa using c7
            refine v_aload_n K dX3_faultOf_70 rfl ?_
            refine v_aload_n K dX3_faultOf_71 rfl ?_
            refine v_aload_n K dX3_faultOf_72 rfl ?_
            refine v_geti (x := nI a) K fX3_34 sh_99 pl_99 hR1.at_ dX3_faultOf_73 ?_
            refine v_bald (x := bt a) K sh_36 pl_36 (by omega) ((hS.fr hF1).2.2.2 _ (by omega)) dX3_faultOf_76 ?_
            refine v_callV (As := [.int (bt a)]) K (c_X3_takeFollower hm2 w k a o b bt n u hR1 (hS.fr hF1) hn (by omega) (by omega) (by omega) (by omega)) lX3_67 ck_X3 rfl sh_99 pl_99 rfl ⟨by decide, by decide⟩ (Nat.le_of_ble_eq_true rfl) dX3_faultOf_77 (fun r4 h4 hp4 => ?_) rfl
            obtain ⟨rfl, hOy3, hGy3⟩ := hp4
            have hFy3 := hF1.t hGy3
            refine v_some ?_
            refine v_if_ne (tgt := 88) K dX3_faultOf_80 rfl (fun c8 => ?_) (fun c8 => ?_)
            · skip
              obtain ⟨y, hy⟩ := outI_1 (by simpa using c8)
              have hRy := hOy3.1 y hy
              obtain ⟨yw, yk, ya, yo, yb, ye⟩ := y
              have hst : stepQ bt n u (w, k, a, o, b, false) = some (yw, yk, ya, yo, yb, ye) := hy
              have hgo := wf_step hW (show a < n by omega) hst
              have hga : a < ya := hgo.2
              have hCy := hC.t (RchQ.s (show a < n by omega) hst)
              refine v_iincN (lv2 := [(4, .int (nI (i + 1))), (0, .ref 99), (1, .ref 36), (2, .int (nI n)), (3, .ref (1020 + (u + 1)))]) K 1 dX3_faultOf_88 rfl rfl (by decide) rfl ?_
              refine v_goto (tgt := 27) K dX3_faultOf_91 rfl ?_
              refine v_sub (lv2 := [(0, .ref 99), (1, .ref 36), (2, .int (nI n)), (3, .ref (1020 + (u + 1))), (4, .int (nI (i + 1)))]) (by simp) ?_
              exact ih27 h4 yw yk ya yo yb ye (i + 1) (by exact hRy) (by exact hFy3) (by exact hgo.1) (by exact hCy) (by omega) (by omega)
            · skip
              have hno := outI_0 (by simpa using c8)
              have hat := hOy3.2 hno
              have hst : stepQ bt n u (w, k, a, o, b, false) = none := hno
              refine v_aload_n K dX3_faultOf_83 rfl ?_
              refine v_geti (x := nI a) K fX3_34 sh_99 pl_99 hat dX3_faultOf_84 ?_
              refine v_iret K dX3_faultOf_87 ?_
              exact fo_1 (fo_bad hB0 hbt hn hC ⟨rfl, Or.inl ⟨show a < n by omega, hst⟩⟩) (FrQ.h ehb hFy3)
          · skip
            obtain rfl : e = true := by simpa using c7
            refine v_aload_n K dX3_faultOf_54 rfl ?_
            refine v_aload_n K dX3_faultOf_55 rfl ?_
            refine v_aload_n K dX3_faultOf_56 rfl ?_
            refine v_geti (x := nI a) K fX3_34 sh_99 pl_99 hR1.at_ dX3_faultOf_57 ?_
            refine v_bald (x := bt a) K sh_36 pl_36 (by omega) ((hS.fr hF1).2.2.2 _ (by omega)) dX3_faultOf_60 ?_
            refine v_callV (As := [.int (bt a)]) K (c_X3_takeOperand hm2 w k a o b bt n u hR1 (hS.fr hF1) hn hB hu (by omega) (by omega) (by omega) (by omega)) lX3_63 ck_X3 rfl sh_99 pl_99 rfl ⟨by decide, by decide⟩ (Nat.le_of_ble_eq_true rfl) dX3_faultOf_61 (fun r5 h5 hp5 => ?_) rfl
            obtain ⟨rfl, hOy4, hGy4⟩ := hp5
            have hFy4 := hF1.t hGy4
            refine v_some ?_
            refine v_if_eq (tgt := 83) K dX3_faultOf_64 rfl (fun c9 => ?_) (fun c9 => ?_)
            · skip
              have hno := outI_0 (by simpa using c9)
              have hat := hOy4.2 hno
              have hst : stepQ bt n u (w, k, a, o, b, true) = none := hno
              refine v_aload_n K dX3_faultOf_83 rfl ?_
              refine v_geti (x := nI a) K fX3_34 sh_99 pl_99 hat dX3_faultOf_84 ?_
              refine v_iret K dX3_faultOf_87 ?_
              exact fo_1 (fo_bad hB0 hbt hn hC ⟨rfl, Or.inl ⟨show a < n by omega, hst⟩⟩) (FrQ.h ehb hFy4)
            · skip
              obtain ⟨y, hy⟩ := outI_1 (by simpa using c9)
              have hRy := hOy4.1 y hy
              obtain ⟨yw, yk, ya, yo, yb, ye⟩ := y
              have hst : stepQ bt n u (w, k, a, o, b, true) = some (yw, yk, ya, yo, yb, ye) := hy
              have hgo := wf_step hW (show a < n by omega) hst
              have hga : a < ya := hgo.2
              have hCy := hC.t (RchQ.s (show a < n by omega) hst)
              refine v_goto (tgt := 88) K dX3_faultOf_67 rfl ?_
              refine v_iincN (lv2 := [(4, .int (nI (i + 1))), (0, .ref 99), (1, .ref 36), (2, .int (nI n)), (3, .ref (1020 + (u + 1)))]) K 1 dX3_faultOf_88 rfl rfl (by decide) rfl ?_
              refine v_goto (tgt := 27) K dX3_faultOf_91 rfl ?_
              refine v_sub (lv2 := [(0, .ref 99), (1, .ref 36), (2, .int (nI n)), (3, .ref (1020 + (u + 1))), (4, .int (nI (i + 1)))]) (by simp) ?_
              exact ih27 h5 yw yk ya yo yb ye (i + 1) (by exact hRy) (by exact hFy4) (by exact hgo.1) (by exact hCy) (by omega) (by omega)
  refine v_sub (lv2 := [(0, .ref 99), (1, .ref 36), (2, .int (nI n)), (3, .ref (1020 + (u + 1))), (4, .int (nI 0))]) (by simp) ?_
  exact L27 (n - 0 + 1) h1 ([]) ([]) 0 0 0 true 0 (by exact hQb) (by exact hFb) (by exact wf_0) (by exact RchQ.r) (by omega) (Nat.lt_succ_self _)
