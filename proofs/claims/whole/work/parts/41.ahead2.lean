theorem hgH_ix {τ : Nat → List Int32} {d : Dm} (H : DOK d) {n w : Nat} (hm : idlM d ≤ 4) (hw : w < facN (idlM d)) : (-1) < hgH τ d n w := by
  obtain ⟨j, hj, e⟩ := (DOK.hg (τ := τ) H (f := ordT d w) (m := idlM d) (fun i hi => ordT_lt H hm hw hi) n).2.2.1.1
  unfold hgH
  rw [e, i32_lt, nI_toInt (by omega), show (-1 : Int32).toInt = -1 from rfl]; omega
theorem ordT_rm {d : Dm} {w i : Nat} (hm : idlM d ≤ 4) (hw : w < facN (idlM d)) (hi : i < idlM d) : ordT d w i = (idleL d (ntD d)).getD (rmF (idlM d) w i ((ordP (idlM d) w i).1 / facN (idlM d - i - 1))) 0 := by
  unfold ordT; rw [(rm_ok hm hw hi).2]
theorem ordP_s {m w i : Nat} : (ordP m w (i + 1)).1 = (ordP m w i).1 % facN (m - i - 1) := rfl
theorem rm_lt {m w i p : Nat} (h : p < (ordP m w i).1 / facN (m - i - 1)) : rmF m w (i + 1) p = rmF m w i p := if_pos h
theorem rm_ge {m w i p : Nat} (h : ¬ p < (ordP m w i).1 / facN (m - i - 1)) : rmF m w (i + 1) p = rmF m w i (p + 1) := if_neg h
theorem ordP_lt {m w : Nat} (hm : m ≤ 4) (hw : w < facN m) : ∀ i, i < m → (ordP m w i).1 < 24 := fun i hi => (pm_ok hm hw hi).1

abbrev P_X0_chooseMends (h : Mm) (d : Dm) (τ : Nat → List Int32) (cc : Int32) (n : Nat) : Option Value → Mm → Prop := fun r h2 => r = none ∧ h2 77 4 = (mdF τ d cc n (2 ^ nwD d)).1 ∧ h2 77 3 = (mdF τ d cc n (2 ^ nwD d)).2.1 ∧ AY h h2 d τ
theorem c_X0_chooseMends {l : Launch} (h : Mm) (d : Dm) (τ : Nat → List Int32) (cc : Int32) (n : Nat) (hR : RH 2 h d) (hd : DOK d) (hτ : TOK τ) (hX : LX 20 h τ) (hn : n ≤ 60) : Con l yX0_chooseMends cX0_chooseMends 7 none 6 143 132 GL h [.ref 77, .int cc, .int (nI n)] (P_X0_chooseMends h d τ cc n) := by
  refine Con.ofV (own := "FoxRounds$Ahead") (nm := "chooseMends") rfl rfl (by decide) (Nat.le_of_ble_eq_true rfl) ?_
  intro κ ρ hkl K
  subst hkl
  show V κ (QM κ (132, ρ, GL, 0, 0) (P_X0_chooseMends h d τ cc n)) 7 (132, ρ, GL, 0, 0) h 0 [(0, .ref 77), (1, .int cc), (2, .int (nI n))] []
  have hA : AY h h d τ := AY.mk2 hR hX
  have hn8 := hd.nw8
  have ht5 := hd.nt5
  obtain ⟨pw, hpw⟩ : ∃ pw, pw = 2 ^ nwD d := ⟨_, rfl⟩
  have hp8 : pw ≤ 256 := by rw [hpw]; exact (shl_pw hn8).2
  refine v_iconstN K 0 rfl dX0_chooseMends_0 ?_
  refine v_istore_n (lv2 := [(3, .int (nI 0)), (0, .ref 77), (1, .int cc), (2, .int (nI n))]) K dX0_chooseMends_1 (by decide) rfl ?_
  refine v_aload_n K dX0_chooseMends_2 rfl ?_
  refine v_iconstN K 0 rfl dX0_chooseMends_3 ?_
  refine v_puti K pX0_22 sh_77 pl_77 dX0_chooseMends_4 ?_
  have hAu1 : AY h (u2 h 77 4 (nI 0)) d τ := hA.u (by omega) (by omega)
  refine v_aload_n K dX0_chooseMends_7 rfl ?_
  refine v_iconst (v := (-1)) K dX0_chooseMends_8 (by decide) ?_
  refine v_puti K pX0_18 sh_77 pl_77 dX0_chooseMends_9 ?_
  have hAu2 : AY h (u2 (u2 h 77 4 (nI 0)) 77 3 ((-1))) d τ := hAu1.u (by omega) (by omega)
  refine v_iconstN K 0 rfl dX0_chooseMends_12 ?_
  refine v_istore (lv2 := [(4, .int (nI 0)), (3, .int (nI 0)), (0, .ref 77), (1, .int cc), (2, .int (nI n))]) K dX0_chooseMends_13 (by decide) rfl ?_
  have L15 : ∀ (mm : Nat) (bs : Int32) (bh : Int32) (bc : Int32) (S : Nat) (g : Mm) (hS : S ≤ pw) (e74 : g 77 4 = bs) (e73 : g 77 3 = bh) (hl : mdF τ d cc n S = (bs, bh, bc)) (hB : AY h g d τ), pw + 1 - S < mm → V κ (QM κ (132, ρ, GL, 0, 0) (P_X0_chooseMends h d τ cc n)) 7 (132, ρ, GL, 0, 0) g 15 [(0, .ref 77), (1, .int cc), (2, .int (nI n)), (3, .int bc), (4, .int (nI S))] [] := by
    intro mm
    induction mm with
    | zero => intro bs bh bc S g hS e74 e73 hl hB hmm; exact absurd hmm (Nat.not_lt_zero _)
    | succ mm ih15 =>
      intro bs bh bc S g hS e74 e73 hl hB hmm
      refine v_iload K dX0_chooseMends_15 rfl ?_
      refine v_iconstN K 1 rfl dX0_chooseMends_17 ?_
      refine v_aload_n K dX0_chooseMends_18 rfl ?_
      refine v_getr (q := 2) K fX0_35 sh_77 pl_77 gl_77_0 dX0_chooseMends_19 ?_
      refine v_geti (x := nI (nwD d)) K fX0_56 sh_2 pl_2 (hB.1.oA.trans hd.nw) dX0_chooseMends_22 ?_
      refine v_ishl K dX0_chooseMends_25 ?_
      refine v_top (y := nI pw) (by rw [hpw]; exact (shl_pw hn8).1) ?_
      refine v_icmpN_ge (tgt := 100) K (by omega) (by omega) dX0_chooseMends_26 rfl (fun c1 => ?_) (fun c1 => ?_)
      · skip
        refine v_vret K dX0_chooseMends_100 ?_
        obtain rfl : S = pw := by omega
        exact ⟨rfl, by rw [← hpw, hl, e74], by rw [← hpw, hl, e73], hB⟩
      · skip
        refine v_aload_n K dX0_chooseMends_29 rfl ?_
        refine v_iload K dX0_chooseMends_30 rfl ?_
        refine v_callV (As := [.int (nI S)]) K (c_X0_costOf g d τ S hB.1 hd hτ hB.2.1) lX0_59 ck_X0 rfl sh_77 pl_77 rfl ⟨by decide, by decide⟩ (Nat.le_of_ble_eq_true rfl) dX0_chooseMends_32 (fun r1 h1 hp1 => ?_) rfl
        obtain ⟨rfl, rfl⟩ := hp1
        refine v_some ?_
        refine v_istore (lv2 := [(5, .int (costD d S (nwD d))), (0, .ref 77), (1, .int cc), (2, .int (nI n)), (3, .int bc), (4, .int (nI S))]) K dX0_chooseMends_35 (by decide) rfl ?_
        refine v_iload K dX0_chooseMends_37 rfl ?_
        refine v_iload_n K dX0_chooseMends_39 rfl ?_
        refine v_icmp_le (tgt := 46) K dX0_chooseMends_40 rfl (fun c2 => ?_) (fun c2 => ?_)
        · skip
          refine v_aload_n K dX0_chooseMends_46 rfl ?_
          refine v_iload K dX0_chooseMends_47 rfl ?_
          refine v_iload_n K dX0_chooseMends_49 rfl ?_
          refine v_callV (As := [.int (nI S), .int (nI n)]) K (c_X0_hensMended g d τ S n hB.1 hd hτ hB.2.1 (by omega)) lX0_63 ck_X0 rfl sh_77 pl_77 rfl ⟨by decide, by decide⟩ (Nat.le_of_ble_eq_true rfl) dX0_chooseMends_50 (fun r2 h2 hp2 => ?_) rfl
          obtain ⟨rfl, hxq1⟩ := hp2
          have hAq1 : AY h h2 d τ := hB.a hxq1.2.2.A
          refine v_some ?_
          refine v_istore (lv2 := [(6, .int (nightsD τ (mendS d S (nwD d)) n 0)), (5, .int (costD d S (nwD d))), (0, .ref 77), (1, .int cc), (2, .int (nI n)), (3, .int bc), (4, .int (nI S))]) K dX0_chooseMends_53 (by decide) rfl ?_
          refine v_iload K dX0_chooseMends_55 rfl ?_
          refine v_aload_n K dX0_chooseMends_57 rfl ?_
          refine v_geti (x := bh) K fX0_18 sh_77 pl_77 ((congrFun (hxq1.2.2 77 (by omega) (by omega) (by omega) (by omega) (by omega)) 3).trans e73) dX0_chooseMends_58 ?_
          refine v_icmp_gt (tgt := 79) K dX0_chooseMends_61 rfl (fun c3 => ?_) (fun c3 => ?_)
          · skip
            refine v_aload_n K dX0_chooseMends_79 rfl ?_
            refine v_iload K dX0_chooseMends_80 rfl ?_
            refine v_puti K pX0_22 sh_77 pl_77 dX0_chooseMends_82 ?_
            have hAu3 : AY h (u2 h2 77 4 (nI S)) d τ := hAq1.u (by omega) (by omega)
            refine v_aload_n K dX0_chooseMends_85 rfl ?_
            refine v_iload K dX0_chooseMends_86 rfl ?_
            refine v_puti K pX0_18 sh_77 pl_77 dX0_chooseMends_88 ?_
            have hAu4 : AY h (u2 (u2 h2 77 4 (nI S)) 77 3 (nightsD τ (mendS d S (nwD d)) n 0)) d τ := hAu3.u (by omega) (by omega)
            refine v_iload K dX0_chooseMends_91 rfl ?_
            refine v_istore_n (lv2 := [(3, .int (costD d S (nwD d))), (6, .int (nightsD τ (mendS d S (nwD d)) n 0)), (5, .int (costD d S (nwD d))), (0, .ref 77), (1, .int cc), (2, .int (nI n)), (4, .int (nI S))]) K dX0_chooseMends_93 (by decide) rfl ?_
            refine v_iincN (lv2 := [(4, .int (nI (S + 1))), (3, .int (costD d S (nwD d))), (6, .int (nightsD τ (mendS d S (nwD d)) n 0)), (5, .int (costD d S (nwD d))), (0, .ref 77), (1, .int cc), (2, .int (nI n))]) K 1 dX0_chooseMends_94 rfl rfl (by decide) rfl ?_
            refine v_goto (tgt := 15) K dX0_chooseMends_97 rfl ?_
            refine v_sub (lv2 := [(0, .ref 77), (1, .int cc), (2, .int (nI n)), (3, .int (costD d S (nwD d))), (4, .int (nI (S + 1)))]) (by simp) ?_
            exact ih15 (nI S) (nightsD τ (mendS d S (nwD d)) n 0) (costD d S (nwD d)) (S + 1) ((u2 (u2 h2 77 4 (nI S)) 77 3 (nightsD τ (mendS d S (nwD d)) n 0))) (by first | assumption | omega | rfl) (by exact ((u2_ne (by omega)).trans u2_at)) (by exact u2_at) (by exact md_y hl ⟨c2, Or.inl c3⟩) (by exact hAu4) (by omega)
          · skip
            refine v_iload K dX0_chooseMends_64 rfl ?_
            refine v_aload_n K dX0_chooseMends_66 rfl ?_
            refine v_geti (x := bh) K fX0_18 sh_77 pl_77 ((congrFun (hxq1.2.2 77 (by omega) (by omega) (by omega) (by omega) (by omega)) 3).trans e73) dX0_chooseMends_67 ?_
            refine v_icmp_ne (tgt := 94) K dX0_chooseMends_70 rfl (fun c4 => ?_) (fun c4 => ?_)
            · skip
              refine v_iincN (lv2 := [(4, .int (nI (S + 1))), (6, .int (nightsD τ (mendS d S (nwD d)) n 0)), (5, .int (costD d S (nwD d))), (0, .ref 77), (1, .int cc), (2, .int (nI n)), (3, .int bc)]) K 1 dX0_chooseMends_94 rfl rfl (by decide) rfl ?_
              refine v_goto (tgt := 15) K dX0_chooseMends_97 rfl ?_
              refine v_sub (lv2 := [(0, .ref 77), (1, .int cc), (2, .int (nI n)), (3, .int bc), (4, .int (nI (S + 1)))]) (by simp) ?_
              exact ih15 bs bh bc (S + 1) h2 (by first | assumption | omega | rfl) (by exact ((congrFun (hxq1.2.2 77 (by omega) (by omega) (by omega) (by omega) (by omega)) 4).trans e74)) (by exact ((congrFun (hxq1.2.2 77 (by omega) (by omega) (by omega) (by omega) (by omega)) 3).trans e73)) (by exact md_n hl (fun q => q.2.elim c3 (fun z => c4 z.1))) (by exact hAq1) (by omega)
            · skip
              refine v_iload K dX0_chooseMends_73 rfl ?_
              refine v_iload_n K dX0_chooseMends_75 rfl ?_
              refine v_icmp_ge (tgt := 94) K dX0_chooseMends_76 rfl (fun c5 => ?_) (fun c5 => ?_)
              · skip
                refine v_iincN (lv2 := [(4, .int (nI (S + 1))), (6, .int (nightsD τ (mendS d S (nwD d)) n 0)), (5, .int (costD d S (nwD d))), (0, .ref 77), (1, .int cc), (2, .int (nI n)), (3, .int bc)]) K 1 dX0_chooseMends_94 rfl rfl (by decide) rfl ?_
                refine v_goto (tgt := 15) K dX0_chooseMends_97 rfl ?_
                refine v_sub (lv2 := [(0, .ref 77), (1, .int cc), (2, .int (nI n)), (3, .int bc), (4, .int (nI (S + 1)))]) (by simp) ?_
                exact ih15 bs bh bc (S + 1) h2 (by first | assumption | omega | rfl) (by exact ((congrFun (hxq1.2.2 77 (by omega) (by omega) (by omega) (by omega) (by omega)) 4).trans e74)) (by exact ((congrFun (hxq1.2.2 77 (by omega) (by omega) (by omega) (by omega) (by omega)) 3).trans e73)) (by exact md_n hl (fun q => q.2.elim c3 (fun z => absurd z.2 (Int32.not_lt.mpr c5)))) (by exact hAq1) (by omega)
              · skip
                refine v_aload_n K dX0_chooseMends_79 rfl ?_
                refine v_iload K dX0_chooseMends_80 rfl ?_
                refine v_puti K pX0_22 sh_77 pl_77 dX0_chooseMends_82 ?_
                have hAu5 : AY h (u2 h2 77 4 (nI S)) d τ := hAq1.u (by omega) (by omega)
                refine v_aload_n K dX0_chooseMends_85 rfl ?_
                refine v_iload K dX0_chooseMends_86 rfl ?_
                refine v_puti K pX0_18 sh_77 pl_77 dX0_chooseMends_88 ?_
                have hAu6 : AY h (u2 (u2 h2 77 4 (nI S)) 77 3 (nightsD τ (mendS d S (nwD d)) n 0)) d τ := hAu5.u (by omega) (by omega)
                refine v_iload K dX0_chooseMends_91 rfl ?_
                refine v_istore_n (lv2 := [(3, .int (costD d S (nwD d))), (6, .int (nightsD τ (mendS d S (nwD d)) n 0)), (5, .int (costD d S (nwD d))), (0, .ref 77), (1, .int cc), (2, .int (nI n)), (4, .int (nI S))]) K dX0_chooseMends_93 (by decide) rfl ?_
                refine v_iincN (lv2 := [(4, .int (nI (S + 1))), (3, .int (costD d S (nwD d))), (6, .int (nightsD τ (mendS d S (nwD d)) n 0)), (5, .int (costD d S (nwD d))), (0, .ref 77), (1, .int cc), (2, .int (nI n))]) K 1 dX0_chooseMends_94 rfl rfl (by decide) rfl ?_
                refine v_goto (tgt := 15) K dX0_chooseMends_97 rfl ?_
                refine v_sub (lv2 := [(0, .ref 77), (1, .int cc), (2, .int (nI n)), (3, .int (costD d S (nwD d))), (4, .int (nI (S + 1)))]) (by simp) ?_
                exact ih15 (nI S) (nightsD τ (mendS d S (nwD d)) n 0) (costD d S (nwD d)) (S + 1) ((u2 (u2 h2 77 4 (nI S)) 77 3 (nightsD τ (mendS d S (nwD d)) n 0))) (by first | assumption | omega | rfl) (by exact ((u2_ne (by omega)).trans u2_at)) (by exact u2_at) (by exact md_y hl ⟨c2, Or.inr ⟨c4, Int32.not_le.mp c5⟩⟩) (by exact hAu6) (by omega)
        · skip
          refine v_goto (tgt := 94) K dX0_chooseMends_43 rfl ?_
          refine v_iincN (lv2 := [(4, .int (nI (S + 1))), (5, .int (costD d S (nwD d))), (0, .ref 77), (1, .int cc), (2, .int (nI n)), (3, .int bc)]) K 1 dX0_chooseMends_94 rfl rfl (by decide) rfl ?_
          refine v_goto (tgt := 15) K dX0_chooseMends_97 rfl ?_
          refine v_sub (lv2 := [(0, .ref 77), (1, .int cc), (2, .int (nI n)), (3, .int bc), (4, .int (nI (S + 1)))]) (by simp) ?_
          exact ih15 bs bh bc (S + 1) g (by first | assumption | omega | rfl) (by exact e74) (by exact e73) (by exact md_n hl (fun q => c2 q.1)) (by exact hB) (by omega)
  refine v_sub (lv2 := [(0, .ref 77), (1, .int cc), (2, .int (nI n)), (3, .int (nI 0)), (4, .int (nI 0))]) (by simp) ?_
  exact L15 (pw + 1 - 0 + 1) (nI 0) ((-1)) (nI 0) 0 ((u2 (u2 h 77 4 (nI 0)) 77 3 ((-1)))) (by first | assumption | omega | rfl) (by exact ((u2_ne (by omega)).trans u2_at)) (by exact u2_at) (by rfl) (by exact hAu2) (Nat.lt_succ_self _)

abbrev P_X0_listIdle (h : Mm) (d : Dm) (τ : Nat → List Int32) : Option Value → Mm → Prop := fun r h2 => r = none ∧ (∀ i, i < idlM d → h2 98 i = nI ((idleL d (ntD d)).getD i 0)) ∧ FrO 98 99 h h2
theorem c_X0_listIdle {l : Launch} (h : Mm) (d : Dm) (τ : Nat → List Int32) (hR : RH 2 h d) (hd : DOK d) (hτ : TOK τ) (hX : LX 20 h τ) (hm4 : idlM d ≤ 4) : Con l yX0_listIdle cX0_listIdle 3 none 0 0 132 GL h [.ref 77] (P_X0_listIdle h d τ) := by
  refine Con.ofV (own := "FoxRounds$Ahead") (nm := "listIdle") rfl rfl (by decide) (Nat.le_of_ble_eq_true rfl) ?_
  intro κ ρ hkl K
  subst hkl
  show V κ (QM κ (132, ρ, GL, 0, 0) (P_X0_listIdle h d τ)) 3 (132, ρ, GL, 0, 0) h 0 [(0, .ref 77)] []
  have hA : AY h h d τ := AY.mk2 hR hX
  have hn8 := hd.nw8
  have ht5 := hd.nt5
  refine v_iconstN K 0 rfl dX0_listIdle_0 ?_
  refine v_istore_n (lv2 := [(1, .int (nI 0)), (0, .ref 77)]) K dX0_listIdle_1 (by decide) rfl ?_
  refine v_iconstN K 0 rfl dX0_listIdle_2 ?_
  refine v_istore_n (lv2 := [(2, .int (nI 0)), (1, .int (nI 0)), (0, .ref 77)]) K dX0_listIdle_3 (by decide) rfl ?_
  have L4 : ∀ (mm : Nat) (kk : Nat) (t : Nat) (g : Mm) (ht : t ≤ ntD d) (hk : kk = (idleL d t).length) (hl : ∀ i, i < kk → g 98 i = nI ((idleL d t).getD i 0)) (hk4 : kk ≤ 4) (hB : AY h g d τ) (hO : FrO 98 99 h g), ntD d + 1 - t < mm → V κ (QM κ (132, ρ, GL, 0, 0) (P_X0_listIdle h d τ)) 3 (132, ρ, GL, 0, 0) g 4 [(0, .ref 77), (1, .int (nI kk)), (2, .int (nI t))] [] := by
    intro mm
    induction mm with
    | zero => intro kk t g ht hk hl hk4 hB hO hmm; exact absurd hmm (Nat.not_lt_zero _)
    | succ mm ih4 =>
      intro kk t g ht hk hl hk4 hB hO hmm
      refine v_iload_n K dX0_listIdle_4 rfl ?_
      refine v_aload_n K dX0_listIdle_5 rfl ?_
      refine v_getr (q := 2) K fX0_35 sh_77 pl_77 gl_77_0 dX0_listIdle_6 ?_
      refine v_geti (x := nI (ntD d)) K fX0_109 sh_2 pl_2 (hB.1.oB.trans hd.nt) dX0_listIdle_9 ?_
      refine v_icmpN_ge (tgt := 50) K (by omega) (by omega) dX0_listIdle_12 rfl (fun c1 => ?_) (fun c1 => ?_)
      · skip
        refine v_vret K dX0_listIdle_50 ?_
        obtain ⟨w, hw⟩ : ∃ w, ntD d = t + w := ⟨ntD d - t, by omega⟩
        obtain ⟨m1, m2⟩ := idle_mono (d := d) (k := t) w
        rw [← hw] at m1 m2
        have m3 : (idleL d (ntD d)).length = idlM d := rfl
        obtain rfl : t = ntD d := by omega
        exact ⟨rfl, fun i hi => hl i (by omega), hO⟩
      · skip
        refine v_iload_n K dX0_listIdle_15 rfl ?_
        refine v_iconstN K 4 rfl dX0_listIdle_16 ?_
        refine v_icmpN_ge (tgt := 50) K (by omega) (by omega) dX0_listIdle_17 rfl (fun c2 => ?_) (fun c2 => ?_)
        · skip
          refine v_vret K dX0_listIdle_50 ?_
          obtain ⟨w, hw⟩ : ∃ w, ntD d = t + w := ⟨ntD d - t, by omega⟩
          obtain ⟨m1, m2⟩ := idle_mono (d := d) (k := t) w
          rw [← hw] at m1 m2
          have m3 : (idleL d (ntD d)).length = idlM d := rfl
          exact ⟨rfl, fun i hi => by rw [m2 i (by omega)]; exact hl i (by omega), hO⟩
        · skip
          refine v_aload_n K dX0_listIdle_20 rfl ?_
          refine v_getr (q := 2) K fX0_35 sh_77 pl_77 gl_77_0 dX0_listIdle_21 ?_
          refine v_getr (q := 13) K fX0_112 sh_2 pl_2 gl_2_5 dX0_listIdle_24 ?_
          refine v_iload_n K dX0_listIdle_27 rfl ?_
          refine v_aald (q := 2 + 12 + t) K sh_13 (Or.inl rfl) pl_13 (by omega) (hB_2.gt (by omega)) dX0_listIdle_28 ?_
          refine v_iconstN K 2 rfl dX0_listIdle_29 ?_
          refine v_iald (x := d (94 + 3 * t + 2)) K (hB_2.t (by omega)) (hB_2.l12 (by omega)) (by omega) (hB.1.t (by omega) (by omega)) dX0_listIdle_30 ?_
          refine v_if_ne (tgt := 44) K dX0_listIdle_31 rfl (fun c3 => ?_) (fun c3 => ?_)
          · skip
            refine v_iincN (lv2 := [(2, .int (nI (t + 1))), (0, .ref 77), (1, .int (nI kk))]) K 1 dX0_listIdle_44 rfl rfl (by decide) rfl ?_
            refine v_goto (tgt := 4) K dX0_listIdle_47 rfl ?_
            refine v_sub (lv2 := [(0, .ref 77), (1, .int (nI kk)), (2, .int (nI (t + 1)))]) (by simp) ?_
            exact ih4 kk (t + 1) g (by first | assumption | omega | rfl) (by rw [idle_n c3]; exact hk) (by rw [idle_n c3]; exact hl) (by first | assumption | omega | rfl) (by exact hB) (by exact hO) (by omega)
          · skip
            refine v_aload_n K dX0_listIdle_34 rfl ?_
            refine v_getr (q := 98) K fX0_32 sh_77 pl_77 gl_77_7 dX0_listIdle_35 ?_
            refine v_iload_n K dX0_listIdle_38 rfl ?_
            refine v_iload_n K dX0_listIdle_39 rfl ?_
            refine v_iast K sh_98 pl_98 (by omega) dX0_listIdle_40 ?_
            have hAu1 : AY h (u2 g 98 kk (nI t)) d τ := hB.u (by omega) (by omega)
            refine v_iincN (lv2 := [(1, .int (nI (kk + 1))), (0, .ref 77), (2, .int (nI t))]) K 1 dX0_listIdle_41 rfl rfl (by decide) rfl ?_
            refine v_iincN (lv2 := [(2, .int (nI (t + 1))), (1, .int (nI (kk + 1))), (0, .ref 77)]) K 1 dX0_listIdle_44 rfl rfl (by decide) rfl ?_
            refine v_goto (tgt := 4) K dX0_listIdle_47 rfl ?_
            refine v_sub (lv2 := [(0, .ref 77), (1, .int (nI (kk + 1))), (2, .int (nI (t + 1)))]) (by simp) ?_
            exact ih4 (kk + 1) (t + 1) ((u2 g 98 kk (nI t))) (by first | assumption | omega | rfl) (by rw [idle_y c3, List.length_append, ← hk]; rfl) (by rw [idle_y c3]; intro i hi; by_cases q : i = kk; (rw [q, u2_at, hk, idleL_last]); rw [u2_ne (Or.inr q), idleL_get (by omega)]; exact hl i (by omega)) (by first | assumption | omega | rfl) (by exact hAu1) (by exact hO.u (by omega) (by omega)) (by omega)
  refine v_sub (lv2 := [(0, .ref 77), (1, .int (nI 0)), (2, .int (nI 0))]) (by simp) ?_
  exact L4 (ntD d + 1 - 0 + 1) 0 0 h (by first | assumption | omega | rfl) (by rfl) (by intro i hi; exact absurd hi (Nat.not_lt_zero _)) (by first | assumption | omega | rfl) (by exact hA) (by exact FrO.r) (Nat.lt_succ_self _)

abbrev P_X0_arrange (h : Mm) (d : Dm) (τ : Nat → List Int32) (w : Nat) : Option Value → Mm → Prop := fun r h2 => r = none ∧ (∀ j, j < idlM d → h2 97 j = nI (ordT d w j)) ∧ FrO 97 99 h h2
theorem c_X0_arrange {l : Launch} (h : Mm) (d : Dm) (τ : Nat → List Int32) (w : Nat) (hR : RH 2 h d) (hd : DOK d) (hτ : TOK τ) (hX : LX 20 h τ) (hm4 : idlM d ≤ 4) (hw : w < facN (idlM d)) : Con l yX0_arrange cX0_arrange 7 none 1 60 132 GL h [.ref 77, .int (nI w), .int (nI ((idlM d)))] (P_X0_arrange h d τ w) := by
  refine Con.ofV (own := "FoxRounds$Ahead") (nm := "arrange") rfl rfl (by decide) (Nat.le_of_ble_eq_true rfl) ?_
  intro κ ρ hkl K
  subst hkl
  show V κ (QM κ (132, ρ, GL, 0, 0) (P_X0_arrange h d τ w)) 7 (132, ρ, GL, 0, 0) h 0 [(0, .ref 77), (1, .int (nI w)), (2, .int (nI ((idlM d))))] []
  have hA : AY h h d τ := AY.mk2 hR hX
  have hn8 := hd.nw8
  have ht5 := hd.nt5
  refine v_aload_n K dX0_arrange_0 rfl ?_
  refine v_callV (As := []) K (c_X0_listIdle h d τ hA.1 hd hτ hA.2.1 hm4) lX0_103 ck_X0 rfl sh_77 pl_77 rfl ⟨by decide, by decide⟩ (Nat.le_of_ble_eq_true rfl) dX0_arrange_1 (fun r1 h1 hp1 => ?_) rfl
  obtain ⟨rfl, hl0, hOq1⟩ := hp1
  have hAq1 : AY h h1 d τ := hA.a (hOq1.A (by omega) (by omega))
  have hO0 := hOq1.w (lo := 97) (hi := 99) (by omega) (by omega)
  refine v_none ?_
  refine v_iload_n K dX0_arrange_4 rfl ?_
  refine v_istore_n (lv2 := [(3, .int (nI w)), (0, .ref 77), (1, .int (nI w)), (2, .int (nI ((idlM d))))]) K dX0_arrange_5 (by decide) rfl ?_
  refine v_iconstN K 0 rfl dX0_arrange_6 ?_
  refine v_istore (lv2 := [(4, .int (nI 0)), (3, .int (nI w)), (0, .ref 77), (1, .int (nI w)), (2, .int (nI ((idlM d))))]) K dX0_arrange_7 (by decide) rfl ?_
  have L9 : ∀ (mm : Nat) (rest : Nat) (i : Nat) (g : Mm) (hi : i ≤ idlM d) (hrest : rest = (ordP (idlM d) w i).1) (hrm : ∀ p, p < idlM d - i → g 98 p = nI ((idleL d (ntD d)).getD (rmF (idlM d) w i p) 0)) (hro : ∀ j, j < i → g 97 j = nI (ordT d w j)) (hB : AY h g d τ) (hO : FrO 97 99 h g), idlM d + 1 - i < mm → V κ (QM κ (132, ρ, GL, 0, 0) (P_X0_arrange h d τ w)) 7 (132, ρ, GL, 0, 0) g 9 [(0, .ref 77), (1, .int (nI w)), (2, .int (nI ((idlM d)))), (3, .int (nI rest)), (4, .int (nI i))] [] := by
    intro mm
    induction mm with
    | zero => intro rest i g hi hrest hrm hro hB hO hmm; exact absurd hmm (Nat.not_lt_zero _)
    | succ mm ih9 =>
      intro rest i g hi hrest hrm hro hB hO hmm
      refine v_iload K dX0_arrange_9 rfl ?_
      refine v_iload_n K dX0_arrange_11 rfl ?_
      refine v_icmpN_ge (tgt := 92) K (by omega) (by omega) dX0_arrange_12 rfl (fun c1 => ?_) (fun c1 => ?_)
      · skip
        refine v_vret K dX0_arrange_92 ?_
        obtain rfl : i = idlM d := by omega
        exact ⟨rfl, hro, hO⟩
      · skip
        obtain ⟨hr1, hr2⟩ := rm_ok (m := idlM d) (w := w) (i := i) hm4 hw (by omega)
        have hr3 := ordP_lt hm4 hw i (by omega)
        rw [← hrest] at hr1 hr2 hr3
        have hfp := fac_pos (k := idlM d - i - 1)
        refine v_iconstN K 1 rfl dX0_arrange_15 ?_
        refine v_getsN (j := 7) K (by decide) sX0_87 dX0_arrange_16 ?_
        refine v_iload_n K dX0_arrange_19 rfl ?_
        refine v_iconstN K 1 rfl dX0_arrange_20 ?_
        refine v_isubN K (by omega) dX0_arrange_21 ?_
        refine v_iload K dX0_arrange_22 rfl ?_
        refine v_isubN K (by omega) dX0_arrange_24 ?_
        refine v_sald (j := 7) (x := nI (facN (idlM d - i - 1))) K (by decide) (by show _ < 5; omega) (by rw [show (idlM d) - 1 - i = idlM d - i - 1 by omega]; exact stfac (by omega)) dX0_arrange_25 ?_
        refine v_max K jX0_106 jst_max jin_math jco_max ⟨by decide, by decide, Nat.zero_le _, Nat.zero_le _⟩ (Nat.le_of_ble_eq_true rfl) dX0_arrange_26 ?_
        refine v_top (max1 hfp.1 (by have := hfp.2; omega)) ?_
        refine v_istore (lv2 := [(5, .int (nI (facN (idlM d - i - 1)))), (0, .ref 77), (1, .int (nI w)), (2, .int (nI ((idlM d)))), (3, .int (nI rest)), (4, .int (nI i))]) K dX0_arrange_29 (by decide) rfl ?_
        refine v_iload_n K dX0_arrange_31 rfl ?_
        refine v_iload K dX0_arrange_32 rfl ?_
        refine v_idivN K (by omega) (by exact hfp.1) (by omega) dX0_arrange_34 ?_
        refine v_iload_n K dX0_arrange_35 rfl ?_
        refine v_iconstN K 1 rfl dX0_arrange_36 ?_
        refine v_isubN K (by omega) dX0_arrange_37 ?_
        refine v_iload K dX0_arrange_38 rfl ?_
        refine v_isubN K (by omega) dX0_arrange_40 ?_
        refine v_min K jX0_82 jst_min jin_math jco_min ⟨by decide, by decide, Nat.zero_le _, Nat.zero_le _⟩ (Nat.le_of_ble_eq_true rfl) dX0_arrange_41 ?_
        refine v_top (y := nI (rest / facN (idlM d - i - 1))) (if_neg (fun q => absurd ((nI_ltI (by omega) (by have := Nat.div_le_self rest (facN (idlM d - i - 1)); omega)).mp q) (by omega))) ?_
        refine v_istore (lv2 := [(6, .int (nI (rest / facN (idlM d - i - 1)))), (5, .int (nI (facN (idlM d - i - 1)))), (0, .ref 77), (1, .int (nI w)), (2, .int (nI ((idlM d)))), (3, .int (nI rest)), (4, .int (nI i))]) K dX0_arrange_44 (by decide) rfl ?_
        refine v_iload_n K dX0_arrange_46 rfl ?_
        refine v_iload K dX0_arrange_47 rfl ?_
        refine v_iremN K (by omega) (by exact hfp.1) (by omega) dX0_arrange_49 ?_
        refine v_istore_n (lv2 := [(3, .int (nI (rest % (facN (idlM d - i - 1))))), (6, .int (nI (rest / facN (idlM d - i - 1)))), (5, .int (nI (facN (idlM d - i - 1)))), (0, .ref 77), (1, .int (nI w)), (2, .int (nI ((idlM d)))), (4, .int (nI i))]) K dX0_arrange_50 (by decide) rfl ?_
        refine v_aload_n K dX0_arrange_51 rfl ?_
        refine v_getr (q := 97) K fX0_29 sh_77 pl_77 gl_77_6 dX0_arrange_52 ?_
        refine v_iload K dX0_arrange_55 rfl ?_
        refine v_aload_n K dX0_arrange_57 rfl ?_
        refine v_getr (q := 98) K fX0_32 sh_77 pl_77 gl_77_7 dX0_arrange_58 ?_
        refine v_iload K dX0_arrange_61 rfl ?_
        refine v_iald (x := nI (ordT d w i)) K sh_98 pl_98 (by omega) ((hrm _ (by omega)).trans (congrArg nI (by rw [ordT_rm hm4 hw (by omega), ← hrest]))) dX0_arrange_63 ?_
        refine v_iast K sh_97 pl_97 (by omega) dX0_arrange_64 ?_
        have hAu1 : AY h (u2 g 97 i (nI (ordT d w i))) d τ := hB.u (by omega) (by omega)
        refine v_aload_n K dX0_arrange_65 rfl ?_
        refine v_getr (q := 98) K fX0_32 sh_77 pl_77 gl_77_7 dX0_arrange_66 ?_
        refine v_iload K dX0_arrange_69 rfl ?_
        refine v_iconstN K 1 rfl dX0_arrange_71 ?_
        refine v_iaddN K dX0_arrange_72 ?_
        refine v_aload_n K dX0_arrange_73 rfl ?_
        refine v_getr (q := 98) K fX0_32 sh_77 pl_77 gl_77_7 dX0_arrange_74 ?_
        refine v_iload K dX0_arrange_77 rfl ?_
        refine v_iconstN K 3 rfl dX0_arrange_79 ?_
        refine v_iload K dX0_arrange_80 rfl ?_
        refine v_isubN K (by omega) dX0_arrange_82 ?_
        refine v_copy K jX0_97 jna_copy jst_copy jin_sys sh_98 sh_98 (Or.inl rfl) pl_98 pl_98 (by omega) (by omega) ⟨by decide, by decide⟩ (Nat.le_of_ble_eq_true rfl) dX0_arrange_83 ?_
        have hAc : AY h (rw2 (u2 g 97 i (nI (ordT d w i))) 98 (va_cpy ((u2 g 97 i (nI (ordT d w i))) 98) ((u2 g 97 i (nI (ordT d w i))) 98) (rest / facN (idlM d - i - 1) + 1) (rest / facN (idlM d - i - 1)) (3 - (rest / facN (idlM d - i - 1))))) d τ := hAu1.w (by omega) (by omega)
        refine v_iincN (lv2 := [(4, .int (nI (i + 1))), (3, .int (nI (rest % (facN (idlM d - i - 1))))), (6, .int (nI (rest / facN (idlM d - i - 1)))), (5, .int (nI (facN (idlM d - i - 1)))), (0, .ref 77), (1, .int (nI w)), (2, .int (nI ((idlM d))))]) K 1 dX0_arrange_86 rfl rfl (by decide) rfl ?_
        refine v_goto (tgt := 9) K dX0_arrange_89 rfl ?_
        refine v_sub (lv2 := [(0, .ref 77), (1, .int (nI w)), (2, .int (nI ((idlM d)))), (3, .int (nI (rest % (facN (idlM d - i - 1))))), (4, .int (nI (i + 1)))]) (by simp) ?_
        exact ih9 (rest % (facN (idlM d - i - 1))) (i + 1) ((rw2 (u2 g 97 i (nI (ordT d w i))) 98 (va_cpy ((u2 g 97 i (nI (ordT d w i))) 98) ((u2 g 97 i (nI (ordT d w i))) 98) (rest / facN (idlM d - i - 1) + 1) (rest / facN (idlM d - i - 1)) (3 - (rest / facN (idlM d - i - 1)))))) (by first | assumption | omega | rfl) (by rw [ordP_s, hrest]) (by intro p hp; rw [rw2_at]; unfold va_cpy; by_cases q : p < rest / facN (idlM d - i - 1); (rw [if_neg (by omega), u2_off (by omega), rm_lt (by rw [← hrest]; exact q)]; exact hrm p (by omega)); rw [if_pos (by omega), u2_off (by omega), rm_ge (by rw [← hrest]; exact q), show rest / facN (idlM d - i - 1) + 1 + (p - (rest / facN (idlM d - i - 1))) = p + 1 by omega]; exact hrm (p + 1) (by omega)) (by intro j hj; rw [rw2_off (by omega)]; by_cases q : j = i; (rw [q, u2_at]); rw [u2_ne (Or.inr q)]; exact hro j (by omega)) (by exact hAc) (by exact FrO.rw (hO.u (by omega) (by omega)) (by omega) (by omega)) (by omega)
  refine v_sub (lv2 := [(0, .ref 77), (1, .int (nI w)), (2, .int (nI ((idlM d)))), (3, .int (nI w)), (4, .int (nI 0))]) (by simp) ?_
  exact L9 (idlM d + 1 - 0 + 1) w 0 h1 (by first | assumption | omega | rfl) (by rfl) (by intro p hp; exact hl0 p (by omega)) (by intro j hj; exact absurd hj (Nat.not_lt_zero _)) (by exact hAq1) (by exact hO0) (Nat.lt_succ_self _)

abbrev P_X0_hensHung (h : Mm) (d : Dm) (τ : Nat → List Int32) (n m : Nat) (f : Nat → Nat) : Option Value → Mm → Prop := fun r h2 => r = some (.int (hgF τ d f m n 0)) ∧ AX h h2 d τ
theorem c_X0_hensHung {l : Launch} (h : Mm) (d : Dm) (τ : Nat → List Int32) (n m : Nat) (f : Nat → Nat) (hR : RH 2 h d) (hd : DOK d) (hτ : TOK τ) (hX : LX 20 h τ) (hn : n ≤ 60) (hm4 : m ≤ 4) (hf : ∀ i, i < m → h 97 i = nI (f i)) (hf5 : ∀ i, i < m → f i < 5) : Con l yX0_hensHung cX0_hensHung 4 (some .int) 5 120 132 GL h [.ref 77, .int (nI n), .int (nI m)] (P_X0_hensHung h d τ n m f) := by
  refine Con.ofV (own := "FoxRounds$Ahead") (nm := "hensHung") rfl rfl (by decide) (Nat.le_of_ble_eq_true rfl) ?_
  intro κ ρ hkl K
  subst hkl
  show V κ (QM κ (132, ρ, GL, 0, 0) (P_X0_hensHung h d τ n m f)) 4 (132, ρ, GL, 0, 0) h 0 [(0, .ref 77), (1, .int (nI n)), (2, .int (nI m))] []
  have hA : AX h h d τ := AX.mk2 hR hX
  have hn8 := hd.nw8
  have ht5 := hd.nt5
  refine v_aload_n K dX0_hensHung_0 rfl ?_
  refine v_getr (q := 78) K fX0_12 sh_77 pl_77 gl_77_2 dX0_hensHung_1 ?_
  refine v_aload_n K dX0_hensHung_4 rfl ?_
  refine v_getr (q := 2) K fX0_35 sh_77 pl_77 gl_77_0 dX0_hensHung_5 ?_
  refine v_callV (As := [.ref 2]) K (c_X1_copyFrom h 78 2 d hB_78 hB_2 (by decide) hA.1) lX0_42 ck_X1 rfl sh_78 pl_78 rfl ⟨by decide, by decide⟩ (Nat.le_of_ble_eq_true rfl) dX0_hensHung_8 (fun r1 h1 hp1 => ?_) rfl
  obtain ⟨rfl, hRq1, hFq1⟩ := hp1
  have hAq1 : AX h h1 d τ := hA.a (hFq1.N (by omega) (by omega))
  refine v_none ?_
  refine v_iconstN K 0 rfl dX0_hensHung_11 ?_
  refine v_istore_n (lv2 := [(3, .int (nI 0)), (0, .ref 77), (1, .int (nI n)), (2, .int (nI m))]) K dX0_hensHung_12 (by decide) rfl ?_
  have L13 : ∀ (mm : Nat) (a : Nat) (g : Mm) (ha : a ≤ n) (hZ : RH 78 g (hgF τ d f m a)) (hB : AX h g d τ), n + 1 - a < mm → V κ (QM κ (132, ρ, GL, 0, 0) (P_X0_hensHung h d τ n m f)) 4 (132, ρ, GL, 0, 0) g 13 [(0, .ref 77), (1, .int (nI n)), (2, .int (nI m)), (3, .int (nI a))] [] := by
    intro mm
    induction mm with
    | zero => intro a g ha hZ hB hmm; exact absurd hmm (Nat.not_lt_zero _)
    | succ mm ih13 =>
      intro a g ha hZ hB hmm
      have hfa : a < m → f a < 5 := hf5 a
      refine v_iload_n K dX0_hensHung_13 rfl ?_
      refine v_iload_n K dX0_hensHung_14 rfl ?_
      refine v_icmpN_ge (tgt := 57) K (by omega) (by omega) dX0_hensHung_15 rfl (fun c1 => ?_) (fun c1 => ?_)
      · skip
        refine v_aload_n K dX0_hensHung_57 rfl ?_
        refine v_getr (q := 78) K fX0_12 sh_77 pl_77 gl_77_2 dX0_hensHung_58 ?_
        refine v_getr (q := 79) K fX0_75 sh_78 pl_78 gl_78_0 dX0_hensHung_61 ?_
        refine v_iconstN K 0 rfl dX0_hensHung_64 ?_
        refine v_iald (x := (hgF τ d f m a) 0) K sh_79 pl_79 (by omega) (hZ.n (by decide)) dX0_hensHung_65 ?_
        refine v_iret K dX0_hensHung_66 ?_
        obtain rfl : a = n := by omega
        exact ⟨rfl, hB⟩
      · skip
        refine v_iload_n K dX0_hensHung_18 rfl ?_
        refine v_iload_n K dX0_hensHung_19 rfl ?_
        refine v_icmpN_ge (tgt := 40) K (by omega) (by omega) dX0_hensHung_20 rfl (fun c2 => ?_) (fun c2 => ?_)
        · skip
          refine v_aload_n K dX0_hensHung_40 rfl ?_
          refine v_getr (q := 78) K fX0_12 sh_77 pl_77 gl_77_2 dX0_hensHung_41 ?_
          refine v_aload_n K dX0_hensHung_44 rfl ?_
          refine v_getr (q := 20) K fX0_38 sh_77 pl_77 gl_77_1 dX0_hensHung_45 ?_
          refine v_callV (As := [.ref 20]) K (c_X1_passNight g 78 (hgF τ d f m a) τ hB_78 hZ (hd.hg hf5 a) hτ hB.2.1) lX0_46 ck_X1 rfl sh_78 pl_78 rfl ⟨by decide, by decide⟩ (Nat.le_of_ble_eq_true rfl) dX0_hensHung_48 (fun r2 h2 hp2 => ?_) rfl
          obtain ⟨rfl, hRq2, hEq2, hFq2⟩ := hp2
          have hAq2 : AX h h2 d τ := hB.a hFq2
          refine v_none ?_
          refine v_iincN (lv2 := [(3, .int (nI (a + 1))), (0, .ref 77), (1, .int (nI n)), (2, .int (nI m))]) K 1 dX0_hensHung_51 rfl rfl (by decide) rfl ?_
          refine v_goto (tgt := 13) K dX0_hensHung_54 rfl ?_
          refine v_sub (lv2 := [(0, .ref 77), (1, .int (nI n)), (2, .int (nI m)), (3, .int (nI (a + 1)))]) (by simp) ?_
          exact ih13 (a + 1) h2 (by first | assumption | omega | rfl) (by rw [hg_n (by omega)]; exact hRq2) (by exact hAq2) (by omega)
        · skip
          refine v_aload_n K dX0_hensHung_23 rfl ?_
          refine v_getr (q := 78) K fX0_12 sh_77 pl_77 gl_77_2 dX0_hensHung_24 ?_
          refine v_getr (q := 89) K fX0_112 sh_78 pl_78 gl_78_5 dX0_hensHung_27 ?_
          refine v_aload_n K dX0_hensHung_30 rfl ?_
          refine v_getr (q := 97) K fX0_29 sh_77 pl_77 gl_77_6 dX0_hensHung_31 ?_
          refine v_iload_n K dX0_hensHung_34 rfl ?_
          refine v_iald (x := nI (f a)) K sh_97 pl_97 (by omega) ((congrFun (hB.2.2 97 (by omega) (by omega) (by omega) (by omega) (by omega)) _).trans (hf _ (by omega))) dX0_hensHung_35 ?_
          refine v_aald (q := 78 + 12 + f a) K sh_89 (Or.inl rfl) pl_89 (by omega) (hB_78.gt (by omega)) dX0_hensHung_36 ?_
          refine v_iconstN K 2 rfl dX0_hensHung_37 ?_
          refine v_iconstN K 1 rfl dX0_hensHung_38 ?_
          refine v_iast K (hB_78.t (by omega)) (hB_78.l12 (by omega)) (by omega) dX0_hensHung_39 ?_
          have hRh : RH 78 (u2 g (78 + 12 + f a) 2 (nI 1)) (hungD (hgF τ d f m a) (f a)) := RH.sett hZ (hf5 a (by omega)) (by omega)
          have hAh : AX h (u2 g (78 + 12 + f a) 2 (nI 1)) d τ := hB.a (FrN.r.u (by omega) (by have := hf5 a (by omega); omega))
          refine v_aload_n K dX0_hensHung_40 rfl ?_
          refine v_getr (q := 78) K fX0_12 sh_77 pl_77 gl_77_2 dX0_hensHung_41 ?_
          refine v_aload_n K dX0_hensHung_44 rfl ?_
          refine v_getr (q := 20) K fX0_38 sh_77 pl_77 gl_77_1 dX0_hensHung_45 ?_
          refine v_callV (As := [.ref 20]) K (c_X1_passNight ((u2 g (78 + 12 + f a) 2 (nI 1))) 78 (hungD (hgF τ d f m a) (f a)) τ hB_78 hRh ((hd.hg hf5 a).hangD (hf5 a (by omega))) hτ hAh.2.1) lX0_46 ck_X1 rfl sh_78 pl_78 rfl ⟨by decide, by decide⟩ (Nat.le_of_ble_eq_true rfl) dX0_hensHung_48 (fun r3 h3 hp3 => ?_) rfl
          obtain ⟨rfl, hRq3, hEq3, hFq3⟩ := hp3
          have hAq3 : AX h h3 d τ := hAh.a hFq3
          refine v_none ?_
          refine v_iincN (lv2 := [(3, .int (nI (a + 1))), (0, .ref 77), (1, .int (nI n)), (2, .int (nI m))]) K 1 dX0_hensHung_51 rfl rfl (by decide) rfl ?_
          refine v_goto (tgt := 13) K dX0_hensHung_54 rfl ?_
          refine v_sub (lv2 := [(0, .ref 77), (1, .int (nI n)), (2, .int (nI m)), (3, .int (nI (a + 1)))]) (by simp) ?_
          exact ih13 (a + 1) h3 (by first | assumption | omega | rfl) (by rw [hg_y (by omega)]; exact hRq3) (by exact hAq3) (by omega)
  refine v_sub (lv2 := [(0, .ref 77), (1, .int (nI n)), (2, .int (nI m)), (3, .int (nI 0))]) (by simp) ?_
  exact L13 (n + 1 - 0 + 1) 0 h1 (by first | assumption | omega | rfl) (by exact hRq1) (by exact hAq1) (Nat.lt_succ_self _)

abbrev P_X0_chooseHangs (h : Mm) (d : Dm) (τ : Nat → List Int32) (n : Nat) : Option Value → Mm → Prop := fun r h2 => r = none ∧ h2 77 3 = (hbF τ d n (facN (idlM d))).2 ∧ (∀ i, i < idlM d → h2 96 i = nI (ordT d (hbF τ d n (facN (idlM d))).1 i)) ∧ AY h h2 d τ
theorem c_X0_chooseHangs {l : Launch} (h : Mm) (d : Dm) (τ : Nat → List Int32) (n : Nat) (hR : RH 2 h d) (hd : DOK d) (hτ : TOK τ) (hX : LX 20 h τ) (hn : n ≤ 60) (hm4 : idlM d ≤ 4) : Con l yX0_chooseHangs cX0_chooseHangs 5 none 6 143 132 GL h [.ref 77, .int (nI n)] (P_X0_chooseHangs h d τ n) := by
  refine Con.ofV (own := "FoxRounds$Ahead") (nm := "chooseHangs") rfl rfl (by decide) (Nat.le_of_ble_eq_true rfl) ?_
  intro κ ρ hkl K
  subst hkl
  show V κ (QM κ (132, ρ, GL, 0, 0) (P_X0_chooseHangs h d τ n)) 5 (132, ρ, GL, 0, 0) h 0 [(0, .ref 77), (1, .int (nI n))] []
  have hA : AY h h d τ := AY.mk2 hR hX
  have hn8 := hd.nw8
  have ht5 := hd.nt5
  have hfp := fac_pos (k := idlM d)
  refine v_aload_n K dX0_chooseHangs_0 rfl ?_
  refine v_getr (q := 2) K fX0_35 sh_77 pl_77 gl_77_0 dX0_chooseHangs_1 ?_
  refine v_callV (As := []) K (c_X1_idleThings h 2 d hB_2 hA.1 hd) lX0_78 ck_X1 rfl sh_2 pl_2 rfl ⟨by decide, by decide⟩ (Nat.le_of_ble_eq_true rfl) dX0_chooseHangs_4 (fun r1 h1 hp1 => ?_) rfl
  obtain ⟨rfl, rfl⟩ := hp1
  refine v_some ?_
  refine v_iconstN K 4 rfl dX0_chooseHangs_7 ?_
  refine v_min K jX0_82 jst_min jin_math jco_min ⟨by decide, by decide, Nat.zero_le _, Nat.zero_le _⟩ (Nat.le_of_ble_eq_true rfl) dX0_chooseHangs_8 ?_
  refine v_top (y := nI (idlM d)) (by rw [idlM_eq hd]; exact if_neg (fun q => absurd ((nI_ltI (by omega) (by omega)).mp q) (by omega))) ?_
  refine v_istore_n (lv2 := [(2, .int (nI ((idlM d)))), (0, .ref 77), (1, .int (nI n))]) K dX0_chooseHangs_11 (by decide) rfl ?_
  refine v_aload_n K dX0_chooseHangs_12 rfl ?_
  refine v_iconst (v := (-1)) K dX0_chooseHangs_13 (by decide) ?_
  refine v_puti K pX0_18 sh_77 pl_77 dX0_chooseHangs_14 ?_
  have hAu1 : AY h (u2 h 77 3 ((-1))) d τ := hA.u (by omega) (by omega)
  refine v_iconstN K 0 rfl dX0_chooseHangs_17 ?_
  refine v_istore_n (lv2 := [(3, .int (nI 0)), (2, .int (nI ((idlM d)))), (0, .ref 77), (1, .int (nI n))]) K dX0_chooseHangs_18 (by decide) rfl ?_
  have L19 : ∀ (mm : Nat) (bt : Nat) (bh : Int32) (w : Nat) (g : Mm) (hw : w ≤ facN (idlM d)) (e73 : g 77 3 = bh) (hl : hbF τ d n w = (bt, bh)) (hrw : w = 0 ∨ ∀ i, i < idlM d → g 96 i = nI (ordT d bt i)) (hB : AY h g d τ), facN (idlM d) + 1 - w < mm → V κ (QM κ (132, ρ, GL, 0, 0) (P_X0_chooseHangs h d τ n)) 5 (132, ρ, GL, 0, 0) g 19 [(0, .ref 77), (1, .int (nI n)), (2, .int (nI ((idlM d)))), (3, .int (nI w))] [] := by
    intro mm
    induction mm with
    | zero => intro bt bh w g hw e73 hl hrw hB hmm; exact absurd hmm (Nat.not_lt_zero _)
    | succ mm ih19 =>
      intro bt bh w g hw e73 hl hrw hB hmm
      refine v_iload_n K dX0_chooseHangs_19 rfl ?_
      refine v_getsN (j := 7) K (by decide) sX0_87 dX0_chooseHangs_20 ?_
      refine v_iload_n K dX0_chooseHangs_23 rfl ?_
      refine v_sald (j := 7) (x := nI (facN ((idlM d)))) K (by decide) (by show _ < 5; omega) (stfac (by omega)) dX0_chooseHangs_24 ?_
      refine v_icmpN_ge (tgt := 77) K (by omega) (by omega) dX0_chooseHangs_25 rfl (fun c1 => ?_) (fun c1 => ?_)
      · skip
        refine v_vret K dX0_chooseHangs_77 ?_
        obtain rfl : w = facN (idlM d) := by omega
        exact ⟨rfl, by rw [hl, e73], by rw [hl]; exact hrw.resolve_left (by omega), hB⟩
      · skip
        refine v_aload_n K dX0_chooseHangs_28 rfl ?_
        refine v_iload_n K dX0_chooseHangs_29 rfl ?_
        refine v_iload_n K dX0_chooseHangs_30 rfl ?_
        refine v_callV (As := [.int (nI w), .int (nI ((idlM d)))]) K (c_X0_arrange g d τ w hB.1 hd hτ hB.2.1 hm4 (by omega)) lX0_90 ck_X0 rfl sh_77 pl_77 rfl ⟨by decide, by decide⟩ (Nat.le_of_ble_eq_true rfl) dX0_chooseHangs_31 (fun r2 h2 hp2 => ?_) rfl
        obtain ⟨rfl, hro, hOq1⟩ := hp2
        have hAq1 : AY h h2 d τ := hB.a (hOq1.A (by omega) (by omega))
        have h96q1 : h2 96 = g 96 := hOq1 96 (by omega)
        refine v_none ?_
        refine v_aload_n K dX0_chooseHangs_34 rfl ?_
        refine v_iload_n K dX0_chooseHangs_35 rfl ?_
        refine v_iload_n K dX0_chooseHangs_36 rfl ?_
        refine v_callV (As := [.int (nI n), .int (nI ((idlM d)))]) K (c_X0_hensHung h2 d τ n (idlM d) (ordT d w) hAq1.1 hd hτ hAq1.2.1 (by omega) hm4 hro (fun i hi => ordT_lt hd hm4 (by omega) hi)) lX0_94 ck_X0 rfl sh_77 pl_77 rfl ⟨by decide, by decide⟩ (Nat.le_of_ble_eq_true rfl) dX0_chooseHangs_37 (fun r3 h3 hp3 => ?_) rfl
        obtain ⟨rfl, hxq2⟩ := hp3
        have hAq2 : AY h h3 d τ := hAq1.a hxq2.2.2.A
        have h96b : h3 96 = g 96 := (hxq2.2.2 96 (by omega) (by omega) (by omega) (by omega) (by omega)).trans h96q1
        have hro2 : ∀ j, j < idlM d → h3 97 j = nI (ordT d w j) := fun j hj => by rw [hxq2.2.2 97 (by omega) (by omega) (by omega) (by omega) (by omega)]; exact hro j hj
        refine v_some ?_
        refine v_istore (lv2 := [(4, .int (hgH τ d n w)), (0, .ref 77), (1, .int (nI n)), (2, .int (nI ((idlM d)))), (3, .int (nI w))]) K dX0_chooseHangs_40 (by decide) rfl ?_
        refine v_iload K dX0_chooseHangs_42 rfl ?_
        refine v_aload_n K dX0_chooseHangs_44 rfl ?_
        refine v_geti (x := bh) K fX0_18 sh_77 pl_77 ((congrFun (hxq2.2.2 77 (by omega) (by omega) (by omega) (by omega) (by omega)) 3).trans ((congrFun (hOq1 77 (by omega)) 3).trans e73)) dX0_chooseHangs_45 ?_
        refine v_icmp_le (tgt := 71) K dX0_chooseHangs_48 rfl (fun c2 => ?_) (fun c2 => ?_)
        · skip
          refine v_iincN (lv2 := [(3, .int (nI (w + 1))), (4, .int (hgH τ d n w)), (0, .ref 77), (1, .int (nI n)), (2, .int (nI ((idlM d))))]) K 1 dX0_chooseHangs_71 rfl rfl (by decide) rfl ?_
          refine v_goto (tgt := 19) K dX0_chooseHangs_74 rfl ?_
          refine v_sub (lv2 := [(0, .ref 77), (1, .int (nI n)), (2, .int (nI ((idlM d)))), (3, .int (nI (w + 1)))]) (by simp) ?_
          exact ih19 bt bh (w + 1) h3 (by first | assumption | omega | rfl) (by exact ((congrFun (hxq2.2.2 77 (by omega) (by omega) (by omega) (by omega) (by omega)) 3).trans ((congrFun (hOq1 77 (by omega)) 3).trans e73))) (by exact hb_n hl (Int32.not_lt.mpr c2)) (by refine Or.inr (fun i hi => ?_); rcases hrw with q | q; (exfalso; subst q; have e : (0, (-1)) = (bt, bh) := hl; obtain ⟨-, rfl⟩ := Prod.mk.inj e; exact absurd (hgH_ix (τ := τ) hd (n := n) hm4 (by omega)) (Int32.not_lt.mpr c2)); rw [h96b]; exact q i hi) (by exact hAq2) (by omega)
        · skip
          refine v_aload_n K dX0_chooseHangs_51 rfl ?_
          refine v_iload K dX0_chooseHangs_52 rfl ?_
          refine v_puti K pX0_18 sh_77 pl_77 dX0_chooseHangs_54 ?_
          have hAu2 : AY h (u2 h3 77 3 (hgH τ d n w)) d τ := hAq2.u (by omega) (by omega)
          refine v_aload_n K dX0_chooseHangs_57 rfl ?_
          refine v_getr (q := 97) K fX0_29 sh_77 pl_77 gl_77_6 dX0_chooseHangs_58 ?_
          refine v_iconstN K 0 rfl dX0_chooseHangs_61 ?_
          refine v_aload_n K dX0_chooseHangs_62 rfl ?_
          refine v_getr (q := 96) K fX0_25 sh_77 pl_77 gl_77_5 dX0_chooseHangs_63 ?_
          refine v_iconstN K 0 rfl dX0_chooseHangs_66 ?_
          refine v_iload_n K dX0_chooseHangs_67 rfl ?_
          refine v_copy K jX0_97 jna_copy jst_copy jin_sys sh_97 sh_96 (Or.inl rfl) pl_97 pl_96 (by omega) (by omega) ⟨by decide, by decide⟩ (Nat.le_of_ble_eq_true rfl) dX0_chooseHangs_68 ?_
          have hAc : AY h (rw2 (u2 h3 77 3 (hgH τ d n w)) 96 (va_cpy ((u2 h3 77 3 (hgH τ d n w)) 97) ((u2 h3 77 3 (hgH τ d n w)) 96) 0 0 (idlM d))) d τ := hAu2.w (by omega) (by omega)
          refine v_iincN (lv2 := [(3, .int (nI (w + 1))), (4, .int (hgH τ d n w)), (0, .ref 77), (1, .int (nI n)), (2, .int (nI ((idlM d))))]) K 1 dX0_chooseHangs_71 rfl rfl (by decide) rfl ?_
          refine v_goto (tgt := 19) K dX0_chooseHangs_74 rfl ?_
          refine v_sub (lv2 := [(0, .ref 77), (1, .int (nI n)), (2, .int (nI ((idlM d)))), (3, .int (nI (w + 1)))]) (by simp) ?_
          exact ih19 w (hgH τ d n w) (w + 1) ((rw2 (u2 h3 77 3 (hgH τ d n w)) 96 (va_cpy ((u2 h3 77 3 (hgH τ d n w)) 97) ((u2 h3 77 3 (hgH τ d n w)) 96) 0 0 (idlM d)))) (by first | assumption | omega | rfl) (by exact ((congrFun (rw2_off (by omega)) 3).trans u2_at)) (by exact hb_y hl (Int32.not_le.mp c2)) (by refine Or.inr (fun i hi => ?_); rw [rw2_at, sb_cpy0 hi, u2_off (by omega)]; exact hro2 i hi) (by exact hAc) (by omega)
  refine v_sub (lv2 := [(0, .ref 77), (1, .int (nI n)), (2, .int (nI ((idlM d)))), (3, .int (nI 0))]) (by simp) ?_
  exact L19 (facN (idlM d) + 1 - 0 + 1) 0 ((-1)) 0 ((u2 h 77 3 ((-1)))) (by first | assumption | omega | rfl) (by exact u2_at) (by rfl) (by exact Or.inl rfl) (by exact hAu1) (Nat.lt_succ_self _)

abbrev P_X0_offBy (h : Mm) (d : Dm) (τ : Nat → List Int32) (j sz : Nat) (f : Nat → Int32) (v : Int32) : Option Value → Mm → Prop := fun r h2 => r = some (.int (offF τ (upd d 2 v) f sz)) ∧ AX h h2 d τ
theorem c_X0_offBy {l : Launch} (h : Mm) (d : Dm) (τ : Nat → List Int32) (j sz : Nat) (f : Nat → Int32) (v : Int32) (hR : RH 2 h d) (hd : DOK d) (hτ : TOK τ) (hX : LX 20 h τ) (hj : j < 4) (hsz : sz ≤ 40) (hL : h (110 + 2 * j) 1 = nI sz) (hf : ∀ k, k < sz → h (111 + 2 * j) k = f k) (hv : DOK (upd d 2 v)) : Con l yX0_offBy cX0_offBy 7 (some .int) 5 120 132 GL h [.ref 77, .ref (110 + 2 * j), .int v] (P_X0_offBy h d τ j sz f v) := by
  refine Con.ofV (own := "FoxRounds$Ahead") (nm := "offBy") rfl rfl (by decide) (Nat.le_of_ble_eq_true rfl) ?_
  intro κ ρ hkl K
  subst hkl
  show V κ (QM κ (132, ρ, GL, 0, 0) (P_X0_offBy h d τ j sz f v)) 7 (132, ρ, GL, 0, 0) h 0 [(0, .ref 77), (1, .ref (110 + 2 * j)), (2, .int v)] []
  have hA : AX h h d τ := AX.mk2 hR hX
  have hn8 := hd.nw8
  have ht5 := hd.nt5
  refine v_aload_n K dX0_offBy_0 rfl ?_
  refine v_getr (q := 78) K fX0_12 sh_77 pl_77 gl_77_2 dX0_offBy_1 ?_
  refine v_aload_n K dX0_offBy_4 rfl ?_
  refine v_getr (q := 2) K fX0_35 sh_77 pl_77 gl_77_0 dX0_offBy_5 ?_
  refine v_callV (As := [.ref 2]) K (c_X1_copyFrom h 78 2 d hB_78 hB_2 (by decide) hA.1) lX0_42 ck_X1 rfl sh_78 pl_78 rfl ⟨by decide, by decide⟩ (Nat.le_of_ble_eq_true rfl) dX0_offBy_8 (fun r1 h1 hp1 => ?_) rfl
  obtain ⟨rfl, hRq1, hFq1⟩ := hp1
  have hAq1 : AX h h1 d τ := hA.a (hFq1.N (by omega) (by omega))
  refine v_none ?_
  refine v_aload_n K dX0_offBy_11 rfl ?_
  refine v_getr (q := 78) K fX0_12 sh_77 pl_77 gl_77_2 dX0_offBy_12 ?_
  refine v_getr (q := 79) K fX0_75 sh_78 pl_78 gl_78_0 dX0_offBy_15 ?_
  refine v_iconstN K 2 rfl dX0_offBy_18 ?_
  refine v_iload_n K dX0_offBy_19 rfl ?_
  refine v_iast K sh_79 pl_79 (by omega) dX0_offBy_20 ?_
  have hRo : RH 78 (u2 h1 79 2 v) (upd d 2 v) := RH.setn hRq1 (by omega)
  have hAo : AX h (u2 h1 79 2 v) d τ := hAq1.a (FrN.r.u (by omega) (by omega))
  refine v_iconstN K 0 rfl dX0_offBy_21 ?_
  refine v_istore_n (lv2 := [(3, .int (nI 0)), (0, .ref 77), (1, .ref (110 + 2 * j)), (2, .int v)]) K dX0_offBy_22 (by decide) rfl ?_
  refine v_iconstN K 0 rfl dX0_offBy_23 ?_
  refine v_istore (lv2 := [(4, .int (nI 0)), (3, .int (nI 0)), (0, .ref 77), (1, .ref (110 + 2 * j)), (2, .int v)]) K dX0_offBy_24 (by decide) rfl ?_
  have L26 : ∀ (mm : Nat) (off : Int32) (a : Nat) (g : Mm) (ha : a ≤ sz) (hZ : RH 78 g (nightsD τ (upd d 2 v) a)) (hB : AX h g d τ) (ho : offF τ (upd d 2 v) f a = off), sz + 1 - a < mm → V κ (QM κ (132, ρ, GL, 0, 0) (P_X0_offBy h d τ j sz f v)) 7 (132, ρ, GL, 0, 0) g 26 [(0, .ref 77), (1, .ref (110 + 2 * j)), (2, .int v), (3, .int off), (4, .int (nI a))] [] := by
    intro mm
    induction mm with
    | zero => intro off a g ha hZ hB ho hmm; exact absurd hmm (Nat.not_lt_zero _)
    | succ mm ih26 =>
      intro off a g ha hZ hB ho hmm
      refine v_iload K dX0_offBy_26 rfl ?_
      refine v_aload_n K dX0_offBy_28 rfl ?_
      refine v_geti (x := nI sz) K fX0_115 (sh_S (by omega)) (pl_S (by omega)) ((congrFun (hB.2.2 _ (by omega) (by omega) (by omega) (by omega) (by omega)) 1).trans hL) dX0_offBy_29 ?_
      refine v_icmpN_ge (tgt := 88) K (by omega) (by omega) dX0_offBy_32 rfl (fun c1 => ?_) (fun c1 => ?_)
      · skip
        refine v_iload_n K dX0_offBy_88 rfl ?_
        refine v_iret K dX0_offBy_89 ?_
        obtain rfl : a = sz := by omega
        exact ⟨some_int ho.symm, hB⟩
      · skip
        refine v_aload_n K dX0_offBy_35 rfl ?_
        refine v_getr (q := 78) K fX0_12 sh_77 pl_77 gl_77_2 dX0_offBy_36 ?_
        refine v_aload_n K dX0_offBy_39 rfl ?_
        refine v_getr (q := 20) K fX0_38 sh_77 pl_77 gl_77_1 dX0_offBy_40 ?_
        refine v_callV (As := [.ref 20]) K (c_X1_passNight g 78 (nightsD τ (upd d 2 v) a) τ hB_78 hZ (hv.nights a) hτ hB.2.1) lX0_46 ck_X1 rfl sh_78 pl_78 rfl ⟨by decide, by decide⟩ (Nat.le_of_ble_eq_true rfl) dX0_offBy_43 (fun r2 h2 hp2 => ?_) rfl
        obtain ⟨rfl, hRq2, hEq2, hFq2⟩ := hp2
        have hAq2 : AX h h2 d τ := hB.a hFq2
        refine v_none ?_
        refine v_aload_n K dX0_offBy_46 rfl ?_
        refine v_getr (q := 111 + 2 * j) K fX0_120 (sh_S (by omega)) (pl_S (by omega)) (gl_Sr (by omega)) dX0_offBy_47 ?_
        refine v_iload K dX0_offBy_50 rfl ?_
        refine v_iald (x := f a) K (sh_Sr (by omega)) (pl_S (by omega)) (by omega) ((congrFun (hAq2.2.2 _ (by omega) (by omega) (by omega) (by omega) (by omega)) _).trans (hf _ (by omega))) dX0_offBy_52 ?_
        refine v_i2l K dX0_offBy_53 rfl ?_
        refine v_aload_n K dX0_offBy_54 rfl ?_
        refine v_getr (q := 78) K fX0_12 sh_77 pl_77 gl_77_2 dX0_offBy_55 ?_
        refine v_getr (q := 79) K fX0_75 sh_78 pl_78 gl_78_0 dX0_offBy_58 ?_
        refine v_iconstN K 0 rfl dX0_offBy_61 ?_
        refine v_iald (x := (nightD τ (nightsD τ (upd d 2 v) a)) 0) K sh_79 pl_79 (by omega) (hRq2.n (by decide)) dX0_offBy_62 ?_
        refine v_i2l K dX0_offBy_63 rfl ?_
        refine v_lsub K dX0_offBy_64 ?_
        refine v_absL K jX0_121 jst_absL jin_math jco_absL ⟨by decide, by decide, Nat.zero_le _, Nat.zero_le _⟩ (Nat.le_of_ble_eq_true rfl) dX0_offBy_65 ?_
        refine v_topL (y := absL ((f a).toInt64 - (nightD τ (nightsD τ (upd d 2 v) a) 0).toInt64)) rfl ?_
        refine v_lstore (lv2 := [(5, .long (absL ((f a).toInt64 - (nightD τ (nightsD τ (upd d 2 v) a) 0).toInt64))), (0, .ref 77), (1, .ref (110 + 2 * j)), (2, .int v), (3, .int off), (4, .int (nI a))]) K dX0_offBy_68 (by decide) rfl ?_
        refine v_iload_n K dX0_offBy_70 rfl ?_
        refine v_ldc2 K kX0_125 dX0_offBy_71 ?_
        refine v_topL (y := (nI 1000).toInt64) (by decide) ?_
        refine v_lload K dX0_offBy_74 rfl ?_
        refine v_minL K jX0_127 jst_minL jin_math jco_minL ⟨by decide, by decide, Nat.zero_le _, Nat.zero_le _⟩ (Nat.le_of_ble_eq_true rfl) dX0_offBy_76 ?_
        refine v_l2i K dX0_offBy_79 rfl ?_
        refine v_top (y := offV (nightD τ (nightsD τ (upd d 2 v) a) 0) (f a)) off_eq ?_
        refine v_iadd K dX0_offBy_80 ?_
        refine v_istore_n (lv2 := [(3, .int (off + (offV (nightD τ (nightsD τ (upd d 2 v) a) 0) (f a)))), (5, .long (absL ((f a).toInt64 - (nightD τ (nightsD τ (upd d 2 v) a) 0).toInt64))), (0, .ref 77), (1, .ref (110 + 2 * j)), (2, .int v), (4, .int (nI a))]) K dX0_offBy_81 (by decide) rfl ?_
        refine v_iincN (lv2 := [(4, .int (nI (a + 1))), (3, .int (off + (offV (nightD τ (nightsD τ (upd d 2 v) a) 0) (f a)))), (5, .long (absL ((f a).toInt64 - (nightD τ (nightsD τ (upd d 2 v) a) 0).toInt64))), (0, .ref 77), (1, .ref (110 + 2 * j)), (2, .int v)]) K 1 dX0_offBy_82 rfl rfl (by decide) rfl ?_
        refine v_goto (tgt := 26) K dX0_offBy_85 rfl ?_
        refine v_sub (lv2 := [(0, .ref 77), (1, .ref (110 + 2 * j)), (2, .int v), (3, .int (off + (offV (nightD τ (nightsD τ (upd d 2 v) a) 0) (f a)))), (4, .int (nI (a + 1)))]) (by simp) ?_
        exact ih26 (off + (offV (nightD τ (nightsD τ (upd d 2 v) a) 0) (f a))) (a + 1) h2 (by first | assumption | omega | rfl) (by exact hRq2) (by exact hAq2) (by rw [offF, ho]; rfl) (by omega)
  refine v_sub (lv2 := [(0, .ref 77), (1, .ref (110 + 2 * j)), (2, .int v), (3, .int (nI 0)), (4, .int (nI 0))]) (by simp) ?_
  exact L26 (sz + 1 - 0 + 1) (nI 0) 0 ((u2 h1 79 2 v)) (by first | assumption | omega | rfl) (by exact hRo) (by exact hAo) (by rfl) (Nat.lt_succ_self _)

abbrev P_X0_hungerBy (h : Mm) (d : Dm) (τ : Nat → List Int32) (j sz : Nat) (f : Nat → Int32) : Option Value → Mm → Prop := fun r h2 => r = some (.int (nI (hunF τ d f sz 99).1)) ∧ AX h h2 d τ
theorem c_X0_hungerBy {l : Launch} (h : Mm) (d : Dm) (τ : Nat → List Int32) (j sz : Nat) (f : Nat → Int32) (hR : RH 2 h d) (hd : DOK d) (hτ : TOK τ) (hX : LX 20 h τ) (hj : j < 4) (hsz : sz ≤ 40) (hL : h (110 + 2 * j) 1 = nI sz) (hf : ∀ k, k < sz → h (111 + 2 * j) k = f k)  : Con l yX0_hungerBy cX0_hungerBy 6 (some .int) 6 146 132 GL h [.ref 77, .ref (110 + 2 * j)] (P_X0_hungerBy h d τ j sz f) := by
  refine Con.ofV (own := "FoxRounds$Ahead") (nm := "hungerBy") rfl rfl (by decide) (Nat.le_of_ble_eq_true rfl) ?_
  intro κ ρ hkl K
  subst hkl
  show V κ (QM κ (132, ρ, GL, 0, 0) (P_X0_hungerBy h d τ j sz f)) 6 (132, ρ, GL, 0, 0) h 0 [(0, .ref 77), (1, .ref (110 + 2 * j))] []
  have hA : AX h h d τ := AX.mk2 hR hX
  have hn8 := hd.nw8
  have ht5 := hd.nt5
  refine v_iconstN K 0 rfl dX0_hungerBy_0 ?_
  refine v_istore_n (lv2 := [(2, .int (nI 0)), (0, .ref 77), (1, .ref (110 + 2 * j))]) K dX0_hungerBy_1 (by decide) rfl ?_
  refine v_aload_n K dX0_hungerBy_2 rfl ?_
  refine v_aload_n K dX0_hungerBy_3 rfl ?_
  refine v_iconstN K 0 rfl dX0_hungerBy_4 ?_
  refine v_callV (As := [.ref (110 + 2 * j), .int (nI 0)]) K (c_X0_offBy h d τ j sz f (nI 0) hA.1 hd hτ hA.2.1 hj hsz ((congrFun (hA.2.2 _ (by omega) (by omega) (by omega) (by omega) (by omega)) 1).trans hL) (fun k hk => ((congrFun (hA.2.2 _ (by omega) (by omega) (by omega) (by omega) (by omega)) k).trans (hf k hk))) (hd.hung (by omega))) lX0_130 ck_X0 rfl sh_77 pl_77 rfl ⟨by decide, by decide⟩ (Nat.le_of_ble_eq_true rfl) dX0_hungerBy_5 (fun r1 h1 hp1 => ?_) rfl
  obtain ⟨rfl, hxq1⟩ := hp1
  have hAq1 : AX h h1 d τ := hA.a hxq1.2.2
  refine v_some ?_
  refine v_istore_n (lv2 := [(3, .int (offF τ (upd d 2 (nI 0)) f sz)), (2, .int (nI 0)), (0, .ref 77), (1, .ref (110 + 2 * j))]) K dX0_hungerBy_8 (by decide) rfl ?_
  refine v_iconstN K 1 rfl dX0_hungerBy_9 ?_
  refine v_istore (lv2 := [(4, .int (nI 1)), (3, .int (offF τ (upd d 2 (nI 0)) f sz)), (2, .int (nI 0)), (0, .ref 77), (1, .ref (110 + 2 * j))]) K dX0_hungerBy_10 (by decide) rfl ?_
  have L12 : ∀ (mm : Nat) (bt : Nat) (lt : Int32) (a : Nat) (g : Mm) (ha : 1 ≤ a ∧ a ≤ 100) (hl : hunF τ d f sz (a - 1) = (bt, lt)) (hB : AX h g d τ), 101 - a < mm → V κ (QM κ (132, ρ, GL, 0, 0) (P_X0_hungerBy h d τ j sz f)) 6 (132, ρ, GL, 0, 0) g 12 [(0, .ref 77), (1, .ref (110 + 2 * j)), (2, .int (nI bt)), (3, .int lt), (4, .int (nI a))] [] := by
    intro mm
    induction mm with
    | zero => intro bt lt a g ha hl hB hmm; exact absurd hmm (Nat.not_lt_zero _)
    | succ mm ih12 =>
      intro bt lt a g ha hl hB hmm
      refine v_iload K dX0_hungerBy_12 rfl ?_
      refine v_bipushN K 99 rfl dX0_hungerBy_14 ?_
      refine v_icmpN_gt (tgt := 46) K (by omega) (by omega) dX0_hungerBy_16 rfl (fun c1 => ?_) (fun c1 => ?_)
      · skip
        refine v_iload_n K dX0_hungerBy_46 rfl ?_
        refine v_iret K dX0_hungerBy_47 ?_
        exact ⟨some_int (by rw [show (99 : Nat) = a - 1 by omega, hl]), hB⟩
      · skip
        refine v_aload_n K dX0_hungerBy_19 rfl ?_
        refine v_aload_n K dX0_hungerBy_20 rfl ?_
        refine v_iload K dX0_hungerBy_21 rfl ?_
        refine v_callV (As := [.ref (110 + 2 * j), .int (nI a)]) K (c_X0_offBy g d τ j sz f (nI a) hB.1 hd hτ hB.2.1 hj hsz ((congrFun (hB.2.2 _ (by omega) (by omega) (by omega) (by omega) (by omega)) 1).trans hL) (fun k hk => ((congrFun (hB.2.2 _ (by omega) (by omega) (by omega) (by omega) (by omega)) k).trans (hf k hk))) (hd.hung (by omega))) lX0_130 ck_X0 rfl sh_77 pl_77 rfl ⟨by decide, by decide⟩ (Nat.le_of_ble_eq_true rfl) dX0_hungerBy_23 (fun r2 h2 hp2 => ?_) rfl
        obtain ⟨rfl, hxq2⟩ := hp2
        have hAq2 : AX h h2 d τ := hB.a hxq2.2.2
        refine v_some ?_
        refine v_istore (lv2 := [(5, .int (offF τ (upd d 2 (nI a)) f sz)), (0, .ref 77), (1, .ref (110 + 2 * j)), (2, .int (nI bt)), (3, .int lt), (4, .int (nI a))]) K dX0_hungerBy_26 (by decide) rfl ?_
        refine v_iload K dX0_hungerBy_28 rfl ?_
        refine v_iload_n K dX0_hungerBy_30 rfl ?_
        refine v_icmp_ge (tgt := 40) K dX0_hungerBy_31 rfl (fun c2 => ?_) (fun c2 => ?_)
        · skip
          refine v_iincN (lv2 := [(4, .int (nI (a + 1))), (5, .int (offF τ (upd d 2 (nI a)) f sz)), (0, .ref 77), (1, .ref (110 + 2 * j)), (2, .int (nI bt)), (3, .int lt)]) K 1 dX0_hungerBy_40 rfl rfl (by decide) rfl ?_
          refine v_goto (tgt := 12) K dX0_hungerBy_43 rfl ?_
          refine v_sub (lv2 := [(0, .ref 77), (1, .ref (110 + 2 * j)), (2, .int (nI bt)), (3, .int lt), (4, .int (nI (a + 1)))]) (by simp) ?_
          exact ih12 bt lt (a + 1) h2 (by omega) (by rw [hun_a (by omega), hl]; exact if_neg (Int32.not_lt.mpr c2)) (by exact hAq2) (by omega)
        · skip
          refine v_iload K dX0_hungerBy_34 rfl ?_
          refine v_istore_n (lv2 := [(2, .int (nI a)), (5, .int (offF τ (upd d 2 (nI a)) f sz)), (0, .ref 77), (1, .ref (110 + 2 * j)), (3, .int lt), (4, .int (nI a))]) K dX0_hungerBy_36 (by decide) rfl ?_
          refine v_iload K dX0_hungerBy_37 rfl ?_
          refine v_istore_n (lv2 := [(3, .int (offF τ (upd d 2 (nI a)) f sz)), (2, .int (nI a)), (5, .int (offF τ (upd d 2 (nI a)) f sz)), (0, .ref 77), (1, .ref (110 + 2 * j)), (4, .int (nI a))]) K dX0_hungerBy_39 (by decide) rfl ?_
          refine v_iincN (lv2 := [(4, .int (nI (a + 1))), (3, .int (offF τ (upd d 2 (nI a)) f sz)), (2, .int (nI a)), (5, .int (offF τ (upd d 2 (nI a)) f sz)), (0, .ref 77), (1, .ref (110 + 2 * j))]) K 1 dX0_hungerBy_40 rfl rfl (by decide) rfl ?_
          refine v_goto (tgt := 12) K dX0_hungerBy_43 rfl ?_
          refine v_sub (lv2 := [(0, .ref 77), (1, .ref (110 + 2 * j)), (2, .int (nI a)), (3, .int (offF τ (upd d 2 (nI a)) f sz)), (4, .int (nI (a + 1)))]) (by simp) ?_
          exact ih12 a (offF τ (upd d 2 (nI a)) f sz) (a + 1) h2 (by omega) (by rw [hun_a (by omega), hl]; exact if_pos (Int32.not_le.mp c2)) (by exact hAq2) (by omega)
  refine v_sub (lv2 := [(0, .ref 77), (1, .ref (110 + 2 * j)), (2, .int (nI 0)), (3, .int (offF τ (upd d 2 (nI 0)) f sz)), (4, .int (nI 1))]) (by simp) ?_
  exact L12 (101 - 1 + 1) 0 (offF τ (upd d 2 (nI 0)) f sz) 1 h1 (by omega) (by rfl) (by exact hAq1) (Nat.lt_succ_self _)
