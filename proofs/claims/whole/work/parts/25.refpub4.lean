theorem careD_ok {c : Int32} {d : Dm} (H : DOK d) : DOK (careD c d) := by
  have key : DOK (upd d 12 (d 12 * 1103515245 + nI 12345)) := H.set (by omega) (by omega) (fun q => by omega) (fun q => by omega) (fun w hw => ⟨fun q => by omega, fun q => by omega, fun q => by omega, fun q => by omega⟩) (fun t ht => ⟨fun q => by omega, fun q => by omega, fun q => by omega⟩)
  unfold careD
  split
  · exact key.set (by omega) (by omega) (fun q => by omega) (fun _ => ⟨1, by omega, rfl⟩) (fun w hw => ⟨fun q => by omega, fun q => by omega, fun q => by omega, fun q => by omega⟩) (fun t ht => ⟨fun q => by omega, fun q => by omega, fun q => by omega⟩)
  · exact key
theorem careD_tx {c : Int32} {d : Dm} {τ : Nat → List Int32} (H : TXD d τ) : TXD (careD c d) τ := by
  refine H.same fun i h1 h2 _ => ?_
  unfold careD
  split
  · rw [upd_ne (by omega), upd_ne (by omega)]
  · rw [upd_ne (by omega)]
theorem care_n {d : Dm} {z : Int32} : upd (upd d 12 z) 4 (d 4) = upd d 12 z := by
  have := upd_id (f := upd d 12 z) (i := 4)
  rwa [upd_ne (by omega)] at this
noncomputable def lossY (s : Mm) (o : Option Nat) : Rs := match o with
  | none => er s 2
  | some k => (nI k, s)

noncomputable def Y_careless (s : Mm) (τ : Nat → List Int32) (n v : Int32) : Rs := @ite _ (¬ ((nI 1 ≤ n ∧ n ≤ nI 60) ∧ ix v 101)) (Classical.propDecidable _) (er s 1) ( @ite _ (999 < (s 119 8).toNatClampNeg + n.toNatClampNeg) (Classical.propDecidable _) (er s 3) ( (carD τ v (s 119) n.toNatClampNeg 0, rw2 s 119 (carD τ v (s 119) n.toNatClampNeg))))

noncomputable def Y_loss (s : Mm) (τ : Nat → List Int32) (n : Int32) : Rs := @ite _ (¬ (nI 1 ≤ n ∧ n ≤ nI 60)) (Classical.propDecidable _) (er s 1) ( lossY s (lossF τ (s 119) n.toNatClampNeg 1))

noncomputable def Y_check (s : Mm) (τ : Nat → List Int32) : Rs := (unlF τ (upd (s 119) 14 (nI 0)) (fun i => s 119 (114 + i)) (s 119 14).toNatClampNeg 0, u2 s 119 14 (nI 0))

abbrev P_X10_careless (h s : Mm) (τ τk : Nat → List Int32) (n v : Int32) : Option Value → Mm → Prop := fun r h2 => r = some (.int (Y_careless s τ n v).1) ∧ RR h2 (Y_careless s τ n v).2
theorem c_X10_careless {l : Launch} (h s : Mm) (τ τk : Nat → List Int32) (n v : Int32) (hR : RR h s) (hI : INV s τ τk) : Con l yX10_careless cX10_careless 4 (some .int) 44 1013 132 GL h [.ref 118, .int n, .int v] (P_X10_careless h s τ τk n v) := by
  refine Con.ofV (own := "FoxRoundsModel") (nm := "careless") rfl rfl (by decide) (Nat.le_of_ble_eq_true rfl) ?_
  intro κ ρ hkl K
  subst hkl
  show V κ (QM κ (132, ρ, GL, 0, 0) (P_X10_careless h s τ τk n v)) 4 (132, ρ, GL, 0, 0) h 0 [(0, .ref 118), (1, .int n), (2, .int v)] []
  have hd := hI.d
  have hn8 := hd.nw8
  have ht5 := hd.nt5
  obtain ⟨tn, htn, etn⟩ := hI.t8
  refine v_iload_n K dX10_careless_0 rfl ?_
  refine v_i2l K dX10_careless_1 rfl ?_
  refine v_lconst (v := (nI 1).toInt64) K dX10_careless_2 (by decide) ?_
  refine v_ldc2 K kX10_145 dX10_careless_3 ?_
  refine v_topL (y := (nI 60).toInt64) (by decide) ?_
  refine v_callS (As := [.long n.toInt64, .long (nI 1).toInt64, .long (nI 60).toInt64]) K (c_X10_in h n (nI 1) (nI 60)) lX10_51 rfl ⟨by decide, by decide⟩ (Nat.le_of_ble_eq_true rfl) dX10_careless_6 (fun r1 h1 hp1 => ?_) rfl
  obtain ⟨rfl, rfl⟩ := hp1
  refine v_some ?_
  refine v_ifB_eq (tgt := 24) K dX10_careless_9 rfl (fun c1 => ?_) (fun c1 => ?_)
  · skip
    refine v_aload_n K dX10_careless_24 rfl ?_
    refine v_iconstN K 1 rfl dX10_careless_25 ?_
    refine v_callV (As := [.int (nI 1)]) K (c_X10_finds h 1 (by omega)) lX10_113 ck_X10 rfl sh_118 pl_118 rfl ⟨by decide, by decide⟩ (Nat.le_of_ble_eq_true rfl) dX10_careless_26 (fun r2 h2 hp2 => ?_) rfl
    obtain ⟨rfl, rfl⟩ := hp2
    refine v_some ?_
    have hRf1 : RR (u2 h 122 1 (h 122 1 + nI 1)) (u2 s 122 1 (s 122 1 + nI 1)) := by rw [show (h 122 1) = s 122 1 from hR.at RA_122]; exact hR.u RA_122
    refine v_iret K dX10_careless_29 ?_
    have eY : Y_careless s τ n v = ((-1000000000) - nI 1, (u2 s 122 1 (s 122 1 + nI 1))) := by
      unfold Y_careless
      refine (@if_pos _ (Classical.propDecidable _) (fun q => absurd q.1 (by assumption)) _ _ _).trans ?_
      first | rfl | (rfl)
    exact rfin eY hRf1
  · skip
    have c0 := c1
    obtain ⟨j, hj1, hjn, rfl⟩ := in_lo (n := 60) (by decide) c1
    refine v_iload_n K dX10_careless_12 rfl ?_
    refine v_i2l K dX10_careless_13 rfl ?_
    refine v_lconst (v := (nI 0).toInt64) K dX10_careless_14 (by decide) ?_
    refine v_ldc2 K kX10_225 dX10_careless_15 ?_
    refine v_topL (y := (nI 100).toInt64) (by decide) ?_
    refine v_callS (As := [.long v.toInt64, .long (nI 0).toInt64, .long (nI 100).toInt64]) K (c_X10_in h v (nI 0) (nI 100)) lX10_51 rfl ⟨by decide, by decide⟩ (Nat.le_of_ble_eq_true rfl) dX10_careless_18 (fun r3 h3 hp3 => ?_) rfl
    obtain ⟨rfl, rfl⟩ := hp3
    refine v_some ?_
    rw [show (nI 0 ≤ v ∧ v ≤ nI 100) = ix v 101 from in_ix (by decide)]
    refine v_ifB_ne (tgt := 30) K dX10_careless_21 rfl (fun c2 => ?_) (fun c2 => ?_)
    · skip
      have hv101 := c2
      refine v_aload_n K dX10_careless_30 rfl ?_
      refine v_getr (q := 119) K fX10_7 sh_118 pl_118 gl_118_0 dX10_careless_31 ?_
      refine v_bipushN K 8 rfl dX10_careless_34 ?_
      refine v_iald (x := nI tn) K sh_119 pl_119 (by omega) ((hR.at RA_119).trans etn) dX10_careless_36 ?_
      refine v_iload_n K dX10_careless_37 rfl ?_
      refine v_iaddN K dX10_careless_38 ?_
      refine v_sipushN K 999 rfl dX10_careless_39 ?_
      refine v_icmpN_le (tgt := 51) K (by omega) (by omega) dX10_careless_42 rfl (fun c3 => ?_) (fun c3 => ?_)
      · skip
        refine v_iconstN K 0 rfl dX10_careless_51 ?_
        refine v_istore_n (lv2 := [(3, .int (nI 0)), (0, .ref 118), (1, .int (nI j)), (2, .int v)]) K dX10_careless_52 (by decide) rfl ?_
        have L53 : ∀ (mm : Nat) (a : Nat) (dd : Dm) (g1 : Mm) (ha : a ≤ j) (hdd : dd = carD τ v (s 119) a) (hdC : DOK dd) (hTx : TXD dd τ) (hZ : RR g1 (rw2 s 119 dd)), j + 1 - a < mm → V κ (QM κ (132, ρ, GL, 0, 0) (P_X10_careless h s τ τk (nI j) v)) 4 (132, ρ, GL, 0, 0) g1 53 [(0, .ref 118), (1, .int (nI j)), (2, .int v), (3, .int (nI a))] [] := by
          intro mm
          induction mm with
          | zero => intro a dd g1 ha hdd hdC hTx hZ hmm; exact absurd hmm (Nat.not_lt_zero _)
          | succ mm ih53 =>
            intro a dd g1 ha hdd hdC hTx hZ hmm
            refine v_iload_n K dX10_careless_53 rfl ?_
            refine v_iload_n K dX10_careless_54 rfl ?_
            refine v_icmpN_ge (tgt := 127) K (by omega) (by omega) dX10_careless_55 rfl (fun c4 => ?_) (fun c4 => ?_)
            · skip
              refine v_aload_n K dX10_careless_127 rfl ?_
              refine v_getr (q := 119) K fX10_7 sh_118 pl_118 gl_118_0 dX10_careless_128 ?_
              refine v_iconstN K 0 rfl dX10_careless_131 ?_
              refine v_iald (x := dd 0) K sh_119 pl_119 (by omega) ((hZ.at RA_119).trans (congrFun rw2_at _)) dX10_careless_132 ?_
              refine v_iret K dX10_careless_133 ?_
              have eY : Y_careless s τ (nI j) v = (dd 0, (rw2 s 119 dd)) := by
                unfold Y_careless
                refine (@if_neg _ (Classical.propDecidable _) (fun q => q ⟨c0, hv101⟩) _ _ _).trans ?_
                refine (@if_neg _ (Classical.propDecidable _) (by rw [etn, cl_ix (show tn < 2 ^ 31 by omega), cl_ix (show j < 2 ^ 31 by omega)]; omega) _ _ _).trans ?_
                obtain rfl : a = j := (by omega); subst hdd; rw [cl_ix (show a < 2 ^ 31 by omega)]
              exact rfin eY hZ
            · skip
              refine v_aload_n K dX10_careless_58 rfl ?_
              refine v_getr (q := 119) K fX10_7 sh_118 pl_118 gl_118_0 dX10_careless_59 ?_
              refine v_bipushN K 12 rfl dX10_careless_62 ?_
              refine v_aload_n K dX10_careless_64 rfl ?_
              refine v_getr (q := 119) K fX10_7 sh_118 pl_118 gl_118_0 dX10_careless_65 ?_
              refine v_bipushN K 12 rfl dX10_careless_68 ?_
              refine v_iald (x := dd 12) K sh_119 pl_119 (by omega) ((hZ.at RA_119).trans (congrFun rw2_at _)) dX10_careless_70 ?_
              refine v_ldc K kX10_227 dX10_careless_71 ?_
              refine v_imul K dX10_careless_73 ?_
              refine v_sipushN K 12345 rfl dX10_careless_74 ?_
              refine v_iadd K dX10_careless_77 ?_
              refine v_iast K sh_119 pl_119 (by omega) dX10_careless_78 ?_
              have hRr4 : RR (u2 g1 119 12 (((dd 12) * ((1103515245))) + (nI 12345))) (u2 (rw2 s 119 dd) 119 12 (((dd 12) * ((1103515245))) + (nI 12345))) := hZ.u RA_119
              refine v_aload_n K dX10_careless_79 rfl ?_
              refine v_getr (q := 119) K fX10_7 sh_118 pl_118 gl_118_0 dX10_careless_80 ?_
              refine v_iconstN K 4 rfl dX10_careless_83 ?_
              refine v_aload_n K dX10_careless_84 rfl ?_
              refine v_getr (q := 119) K fX10_7 sh_118 pl_118 gl_118_0 dX10_careless_85 ?_
              refine v_bipushN K 12 rfl dX10_careless_88 ?_
              refine v_iald (x := ((dd 12) * ((1103515245))) + (nI 12345)) K sh_119 pl_119 (by omega) ((hRr4.at RA_119).trans u2_at) dX10_careless_90 ?_
              refine v_bipushN K 8 rfl dX10_careless_91 ?_
              refine v_iushr K dX10_careless_93 rfl ?_
              refine v_bipushN K 100 rfl dX10_careless_94 ?_
              refine v_irem K dX10_careless_96 (by decide) ?_
              refine v_iload_n K dX10_careless_97 rfl ?_
              refine v_icmp_ge (tgt := 105) K dX10_careless_98 rfl (fun c5 => ?_) (fun c5 => ?_)
              · skip
                refine v_aload_n K dX10_careless_105 rfl ?_
                refine v_getr (q := 119) K fX10_7 sh_118 pl_118 gl_118_0 dX10_careless_106 ?_
                refine v_iconstN K 4 rfl dX10_careless_109 ?_
                refine v_iald (x := dd 4) K sh_119 pl_119 (by omega) (((hRr4.at RA_119).trans (u2_ne (by omega))).trans (congrFun rw2_at _)) dX10_careless_110 ?_
                refine v_iast K sh_119 pl_119 (by omega) dX10_careless_111 ?_
                have hRr5 : RR (u2 (u2 g1 119 12 (((dd 12) * ((1103515245))) + (nI 12345))) 119 4 (dd 4)) (u2 (u2 (rw2 s 119 dd) 119 12 (((dd 12) * ((1103515245))) + (nI 12345))) 119 4 (dd 4)) := hRr4.u RA_119
                have hS : (u2 (u2 (rw2 s 119 dd) 119 12 (((dd 12) * ((1103515245))) + (nI 12345))) 119 4 (dd 4)) 119 = careD v dd := by rw [u2_row, u2_row, rw2_at]; unfold careD drwV; rw [if_neg (Int32.not_lt.mpr c5)]; exact care_n
                refine v_aload_n K dX10_careless_112 rfl ?_
                refine v_aload_n K dX10_careless_113 rfl ?_
                refine v_getr (q := 119) K fX10_7 sh_118 pl_118 gl_118_0 dX10_careless_114 ?_
                refine v_iconstN K 1 rfl dX10_careless_117 ?_
                refine v_callV (As := [.ref 119, .int (nI 1)]) K (c_X10_goesOn ((u2 (u2 g1 119 12 (((dd 12) * ((1103515245))) + (nI 12345))) 119 4 (dd 4))) τ 119 1 mP_119 (by rw [hRr5.1 119 RA_119, hS]; exact careD_ok hdC) (by rw [hRr5.1 119 RA_119, hS]; exact careD_tx hTx) (by omega)) lX10_222 ck_X10 rfl sh_118 pl_118 rfl ⟨by decide, by decide⟩ (Nat.le_of_ble_eq_true rfl) dX10_careless_118 (fun r6 h4 hp4 => ?_) rfl
                obtain ⟨rfl, hDc, hTc, hGc⟩ := hp4
                have hDc : h4 119 = nightD τ (careD v dd) := by rw [hDc, hRr5.1 119 RA_119, hS]; rfl
                have hRc : RR h4 (rw2 s 119 (nightD τ (careD v dd))) := by have hx := RR.G119 hRr5 hGc; rw [hDc] at hx; simpa only [u2_rw, rw2_rw2] using hx
                rw [hDc] at hTc
                refine v_none ?_
                refine v_iincN (lv2 := [(3, .int (nI (a + 1))), (0, .ref 118), (1, .int (nI j)), (2, .int v)]) K 1 dX10_careless_121 rfl rfl (by decide) rfl ?_
                refine v_goto (tgt := 53) K dX10_careless_124 rfl ?_
                refine v_sub (lv2 := [(0, .ref 118), (1, .int (nI j)), (2, .int v), (3, .int (nI (a + 1)))]) (by simp) ?_
                exact ih53 (a + 1) ((nightD τ (careD v dd))) h4 (by first | assumption | omega | rfl) (by rw [hdd]; rfl) (by exact (careD_ok hdC).night) (by exact hTc) (by exact hRc) (by omega)
              · skip
                refine v_iconstN K 1 rfl dX10_careless_101 ?_
                refine v_goto (tgt := 111) K dX10_careless_102 rfl ?_
                refine v_iast K sh_119 pl_119 (by omega) dX10_careless_111 ?_
                have hRr7 : RR (u2 (u2 g1 119 12 (((dd 12) * ((1103515245))) + (nI 12345))) 119 4 (nI 1)) (u2 (u2 (rw2 s 119 dd) 119 12 (((dd 12) * ((1103515245))) + (nI 12345))) 119 4 (nI 1)) := hRr4.u RA_119
                have hS : (u2 (u2 (rw2 s 119 dd) 119 12 (((dd 12) * ((1103515245))) + (nI 12345))) 119 4 (nI 1)) 119 = careD v dd := by rw [u2_row, u2_row, rw2_at]; unfold careD drwV; rw [if_pos (Int32.not_le.mp c5)]
                refine v_aload_n K dX10_careless_112 rfl ?_
                refine v_aload_n K dX10_careless_113 rfl ?_
                refine v_getr (q := 119) K fX10_7 sh_118 pl_118 gl_118_0 dX10_careless_114 ?_
                refine v_iconstN K 1 rfl dX10_careless_117 ?_
                refine v_callV (As := [.ref 119, .int (nI 1)]) K (c_X10_goesOn ((u2 (u2 g1 119 12 (((dd 12) * ((1103515245))) + (nI 12345))) 119 4 (nI 1))) τ 119 1 mP_119 (by rw [hRr7.1 119 RA_119, hS]; exact careD_ok hdC) (by rw [hRr7.1 119 RA_119, hS]; exact careD_tx hTx) (by omega)) lX10_222 ck_X10 rfl sh_118 pl_118 rfl ⟨by decide, by decide⟩ (Nat.le_of_ble_eq_true rfl) dX10_careless_118 (fun r8 h5 hp5 => ?_) rfl
                obtain ⟨rfl, hDc, hTc, hGc⟩ := hp5
                have hDc : h5 119 = nightD τ (careD v dd) := by rw [hDc, hRr7.1 119 RA_119, hS]; rfl
                have hRc : RR h5 (rw2 s 119 (nightD τ (careD v dd))) := by have hx := RR.G119 hRr7 hGc; rw [hDc] at hx; simpa only [u2_rw, rw2_rw2] using hx
                rw [hDc] at hTc
                refine v_none ?_
                refine v_iincN (lv2 := [(3, .int (nI (a + 1))), (0, .ref 118), (1, .int (nI j)), (2, .int v)]) K 1 dX10_careless_121 rfl rfl (by decide) rfl ?_
                refine v_goto (tgt := 53) K dX10_careless_124 rfl ?_
                refine v_sub (lv2 := [(0, .ref 118), (1, .int (nI j)), (2, .int v), (3, .int (nI (a + 1)))]) (by simp) ?_
                exact ih53 (a + 1) ((nightD τ (careD v dd))) h5 (by first | assumption | omega | rfl) (by rw [hdd]; rfl) (by exact (careD_ok hdC).night) (by exact hTc) (by exact hRc) (by omega)
        refine v_sub (lv2 := [(0, .ref 118), (1, .int (nI j)), (2, .int v), (3, .int (nI 0))]) (by simp) ?_
        exact L53 (j + 1 - 0 + 1) 0 ((s 119)) h (by first | assumption | omega | rfl) (by rfl) (by exact hd) (by exact hI.x) (by rw [rw2_self]; exact hR) (Nat.lt_succ_self _)
      · skip
        refine v_aload_n K dX10_careless_45 rfl ?_
        refine v_iconstN K 3 rfl dX10_careless_46 ?_
        refine v_callV (As := [.int (nI 3)]) K (c_X10_finds h 3 (by omega)) lX10_113 ck_X10 rfl sh_118 pl_118 rfl ⟨by decide, by decide⟩ (Nat.le_of_ble_eq_true rfl) dX10_careless_47 (fun r9 h6 hp6 => ?_) rfl
        obtain ⟨rfl, rfl⟩ := hp6
        refine v_some ?_
        have hRf2 : RR (u2 h 122 3 (h 122 3 + nI 1)) (u2 s 122 3 (s 122 3 + nI 1)) := by rw [show (h 122 3) = s 122 3 from hR.at RA_122]; exact hR.u RA_122
        refine v_iret K dX10_careless_50 ?_
        have eY : Y_careless s τ (nI j) v = ((-1000000000) - nI 3, (u2 s 122 3 (s 122 3 + nI 1))) := by
          unfold Y_careless
          refine (@if_neg _ (Classical.propDecidable _) (fun q => q ⟨c0, hv101⟩) _ _ _).trans ?_
          refine (@if_pos _ (Classical.propDecidable _) (by rw [etn, cl_ix (show tn < 2 ^ 31 by omega), cl_ix (show j < 2 ^ 31 by omega)]; omega) _ _ _).trans ?_
          first | rfl | ((try rw [cl_ix (show j < 2 ^ 31 by omega)]))
        exact rfin eY hRf2
    · skip
      refine v_aload_n K dX10_careless_24 rfl ?_
      refine v_iconstN K 1 rfl dX10_careless_25 ?_
      refine v_callV (As := [.int (nI 1)]) K (c_X10_finds h 1 (by omega)) lX10_113 ck_X10 rfl sh_118 pl_118 rfl ⟨by decide, by decide⟩ (Nat.le_of_ble_eq_true rfl) dX10_careless_26 (fun r10 h7 hp7 => ?_) rfl
      obtain ⟨rfl, rfl⟩ := hp7
      refine v_some ?_
      have hRf3 : RR (u2 h 122 1 (h 122 1 + nI 1)) (u2 s 122 1 (s 122 1 + nI 1)) := by rw [show (h 122 1) = s 122 1 from hR.at RA_122]; exact hR.u RA_122
      refine v_iret K dX10_careless_29 ?_
      have eY : Y_careless s τ (nI j) v = ((-1000000000) - nI 1, (u2 s 122 1 (s 122 1 + nI 1))) := by
        unfold Y_careless
        refine (@if_pos _ (Classical.propDecidable _) (fun q => absurd q.2 (by assumption)) _ _ _).trans ?_
        first | rfl | ((try rw [cl_ix (show j < 2 ^ 31 by omega)]))
      exact rfin eY hRf3

theorem loss_y {τ : Nat → List Int32} {d : Dm} {m k : Nat} (h : d 9 < nightsD τ d k 9) : lossF τ d (m + 1) k = some k := by rw [lossF, if_pos h]
theorem loss_n {τ : Nat → List Int32} {d : Dm} {m k : Nat} (h : ¬ d 9 < nightsD τ d k 9) : lossF τ d (m + 1) k = lossF τ d m (k + 1) := by rw [lossF, if_neg h]
theorem unl_y {τ : Nat → List Int32} {d : Dm} {f : Nat → Int32} {m k : Nat} (h : byD τ (nightsD τ d k) = f k) : unlF τ d f (m + 1) k = unlF τ d f m (k + 1) := by rw [unlF, if_pos h]
theorem unl_n {τ : Nat → List Int32} {d : Dm} {f : Nat → Int32} {m k : Nat} (h : ¬ byD τ (nightsD τ d k) = f k) : unlF τ d f (m + 1) k = nI (k + 1) := by rw [unlF, if_neg h]

theorem nights_s {τ : Nat → List Int32} {d : Dm} {a : Nat} (h : 1 ≤ a) : nightsD τ (nightsD τ d (a - 1)) 1 = nightsD τ d a := by
  obtain ⟨b, rfl⟩ : ∃ b, a = b + 1 := ⟨a - 1, by omega⟩
  rfl

abbrev P_X10_loss (h s : Mm) (τ τk : Nat → List Int32) (n : Int32) : Option Value → Mm → Prop := fun r h2 => r = some (.int (Y_loss s τ n).1) ∧ RR h2 (Y_loss s τ n).2
theorem c_X10_loss {l : Launch} (h s : Mm) (τ τk : Nat → List Int32) (n : Int32) (hR : RR h s) (hI : INV s τ τk) : Con l yX10_loss cX10_loss 3 (some .int) 44 1013 132 GL h [.ref 118, .int n] (P_X10_loss h s τ τk n) := by
  refine Con.ofV (own := "FoxRoundsModel") (nm := "loss") rfl rfl (by decide) (Nat.le_of_ble_eq_true rfl) ?_
  intro κ ρ hkl K
  subst hkl
  show V κ (QM κ (132, ρ, GL, 0, 0) (P_X10_loss h s τ τk n)) 3 (132, ρ, GL, 0, 0) h 0 [(0, .ref 118), (1, .int n)] []
  have hd := hI.d
  have hn8 := hd.nw8
  have ht5 := hd.nt5
  refine v_iload_n K dX10_loss_0 rfl ?_
  refine v_i2l K dX10_loss_1 rfl ?_
  refine v_lconst (v := (nI 1).toInt64) K dX10_loss_2 (by decide) ?_
  refine v_ldc2 K kX10_145 dX10_loss_3 ?_
  refine v_topL (y := (nI 60).toInt64) (by decide) ?_
  refine v_callS (As := [.long n.toInt64, .long (nI 1).toInt64, .long (nI 60).toInt64]) K (c_X10_in h n (nI 1) (nI 60)) lX10_51 rfl ⟨by decide, by decide⟩ (Nat.le_of_ble_eq_true rfl) dX10_loss_6 (fun r1 h1 hp1 => ?_) rfl
  obtain ⟨rfl, rfl⟩ := hp1
  refine v_some ?_
  refine v_ifB_ne (tgt := 18) K dX10_loss_9 rfl (fun c1 => ?_) (fun c1 => ?_)
  · skip
    have c0 := c1
    obtain ⟨j, hj1, hjn, rfl⟩ := in_lo (n := 60) (by decide) c1
    refine v_aload_n K dX10_loss_18 rfl ?_
    refine v_getr (q := 119) K fX10_7 sh_118 pl_118 gl_118_0 dX10_loss_19 ?_
    refine v_aload_n K dX10_loss_22 rfl ?_
    refine v_getr (q := 120) K fX10_13 sh_118 pl_118 gl_118_1 dX10_loss_23 ?_
    refine v_callS (As := [.ref 119, .ref 120]) K (c_X10_copies2 h 119 120 mP_119 mP_120 (by decide)) lX10_228 rfl ⟨by decide, by decide⟩ (Nat.le_of_ble_eq_true rfl) dX10_loss_26 (fun r2 h2 hp2 => ?_) rfl
    obtain ⟨rfl, rfl⟩ := hp2
    refine v_none ?_
    have hRq1 : RR (rw2 h 120 (h 119)) s := hR.rwn
    have hEq1 : (rw2 h 120 (h 119)) 120 = s 119 := rw2_at.trans ((hR.1 119 RA_119))
    refine v_iconstN K 1 rfl dX10_loss_29 ?_
    refine v_istore_n (lv2 := [(2, .int (nI 1)), (0, .ref 118), (1, .int (nI j))]) K dX10_loss_30 (by decide) rfl ?_
    have L31 : ∀ (mm : Nat) (a : Nat) (g1 : Mm) (ha : 1 ≤ a ∧ a ≤ j + 1) (hE : g1 120 = nightsD τ (s 119) (a - 1)) (hZ : RR g1 s) (hl : lossF τ (s 119) j 1 = lossF τ (s 119) (j + 1 - a) a), j + 2 - a < mm → V κ (QM κ (132, ρ, GL, 0, 0) (P_X10_loss h s τ τk (nI j))) 3 (132, ρ, GL, 0, 0) g1 31 [(0, .ref 118), (1, .int (nI j)), (2, .int (nI a))] [] := by
      intro mm
      induction mm with
      | zero => intro a g1 ha hE hZ hl hmm; exact absurd hmm (Nat.not_lt_zero _)
      | succ mm ih31 =>
        intro a g1 ha hE hZ hl hmm
        refine v_iload_n K dX10_loss_31 rfl ?_
        refine v_iload_n K dX10_loss_32 rfl ?_
        refine v_icmpN_gt (tgt := 70) K (by omega) (by omega) dX10_loss_33 rfl (fun c2 => ?_) (fun c2 => ?_)
        · skip
          refine v_aload_n K dX10_loss_70 rfl ?_
          refine v_iconstN K 2 rfl dX10_loss_71 ?_
          refine v_callV (As := [.int (nI 2)]) K (c_X10_finds g1 2 (by omega)) lX10_113 ck_X10 rfl sh_118 pl_118 rfl ⟨by decide, by decide⟩ (Nat.le_of_ble_eq_true rfl) dX10_loss_72 (fun r3 h3 hp3 => ?_) rfl
          obtain ⟨rfl, rfl⟩ := hp3
          refine v_some ?_
          have hRf1 : RR (u2 g1 122 2 (g1 122 2 + nI 1)) (u2 s 122 2 (s 122 2 + nI 1)) := by rw [show (g1 122 2) = s 122 2 from hZ.at RA_122]; exact hZ.u RA_122
          refine v_iret K dX10_loss_75 ?_
          have eY : Y_loss s τ (nI j) = ((-1000000000) - nI 2, (u2 s 122 2 (s 122 2 + nI 1))) := by
            unfold Y_loss
            refine (@if_neg _ (Classical.propDecidable _) (fun q => q c0) _ _ _).trans ?_
            rw [cl_ix (show j < 2 ^ 31 by omega), hl, show j + 1 - a = 0 by omega]; rfl
          exact rfin eY hRf1
        · skip
          refine v_aload_n K dX10_loss_36 rfl ?_
          refine v_aload_n K dX10_loss_37 rfl ?_
          refine v_getr (q := 120) K fX10_13 sh_118 pl_118 gl_118_1 dX10_loss_38 ?_
          refine v_iconstN K 1 rfl dX10_loss_41 ?_
          refine v_callV (As := [.ref 120, .int (nI 1)]) K (c_X10_goesOn g1 τ 120 1 mP_120 (by rw [hE]; exact (hd.nights _)) (by rw [hZ.1 119 RA_119]; exact hI.x) (by omega)) lX10_222 ck_X10 rfl sh_118 pl_118 rfl ⟨by decide, by decide⟩ (Nat.le_of_ble_eq_true rfl) dX10_loss_42 (fun r4 h4 hp4 => ?_) rfl
          obtain ⟨rfl, hDq2, hTq2, hGq2⟩ := hp4
          rw [hE] at hDq2
          have hRq2 := hZ.G (by unfold RA; omega) hGq2
          refine v_none ?_
          refine v_aload_n K dX10_loss_45 rfl ?_
          refine v_getr (q := 120) K fX10_13 sh_118 pl_118 gl_118_1 dX10_loss_46 ?_
          refine v_bipushN K 9 rfl dX10_loss_49 ?_
          refine v_iald (x := nightsD τ (nightsD τ (s 119) (a - 1)) 1 9) K sh_120 pl_120 (by omega) (congrFun hDq2 _) dX10_loss_51 ?_
          refine v_aload_n K dX10_loss_52 rfl ?_
          refine v_getr (q := 119) K fX10_7 sh_118 pl_118 gl_118_0 dX10_loss_53 ?_
          refine v_bipushN K 9 rfl dX10_loss_56 ?_
          refine v_iald (x := s 119 9) K sh_119 pl_119 (by omega) (hRq2.at RA_119) dX10_loss_58 ?_
          refine v_icmp_le (tgt := 64) K dX10_loss_59 rfl (fun c3 => ?_) (fun c3 => ?_)
          · skip
            refine v_iincN (lv2 := [(2, .int (nI (a + 1))), (0, .ref 118), (1, .int (nI j))]) K 1 dX10_loss_64 rfl rfl (by decide) rfl ?_
            refine v_goto (tgt := 31) K dX10_loss_67 rfl ?_
            refine v_sub (lv2 := [(0, .ref 118), (1, .int (nI j)), (2, .int (nI (a + 1)))]) (by simp) ?_
            exact ih31 (a + 1) h4 (by omega) (by rw [hDq2]; exact (nights_s (by omega)).trans (congrArg (nightsD τ (s 119)) (by omega))) (by exact hRq2) (by rw [hl, show j + 1 - a = (j + 1 - (a + 1)) + 1 by omega]; exact loss_n (by rw [← nights_s (τ := τ) (d := s 119) (a := a) (by omega)]; exact Int32.not_lt.mpr c3)) (by omega)
          · skip
            refine v_iload_n K dX10_loss_62 rfl ?_
            refine v_iret K dX10_loss_63 ?_
            have eY : Y_loss s τ (nI j) = (nI a, s) := by
              unfold Y_loss
              refine (@if_neg _ (Classical.propDecidable _) (fun q => q c0) _ _ _).trans ?_
              rw [cl_ix (show j < 2 ^ 31 by omega), hl, show j + 1 - a = (j - a) + 1 by omega, loss_y (by rw [← nights_s (τ := τ) (d := s 119) (a := a) (by omega)]; exact Int32.not_le.mp c3)]; rfl
            exact rfin eY hRq2
    refine v_sub (lv2 := [(0, .ref 118), (1, .int (nI j)), (2, .int (nI 1))]) (by simp) ?_
    exact L31 (j + 2 - 1 + 1) 1 ((rw2 h 120 (h 119))) (by omega) (by exact hEq1) (by exact hRq1) (by rw [show j + 1 - 1 = j by omega]) (Nat.lt_succ_self _)
  · skip
    refine v_aload_n K dX10_loss_12 rfl ?_
    refine v_iconstN K 1 rfl dX10_loss_13 ?_
    refine v_callV (As := [.int (nI 1)]) K (c_X10_finds h 1 (by omega)) lX10_113 ck_X10 rfl sh_118 pl_118 rfl ⟨by decide, by decide⟩ (Nat.le_of_ble_eq_true rfl) dX10_loss_14 (fun r5 h5 hp5 => ?_) rfl
    obtain ⟨rfl, rfl⟩ := hp5
    refine v_some ?_
    have hRf2 : RR (u2 h 122 1 (h 122 1 + nI 1)) (u2 s 122 1 (s 122 1 + nI 1)) := by rw [show (h 122 1) = s 122 1 from hR.at RA_122]; exact hR.u RA_122
    refine v_iret K dX10_loss_17 ?_
    have eY : Y_loss s τ n = ((-1000000000) - nI 1, (u2 s 122 1 (s 122 1 + nI 1))) := by
      unfold Y_loss
      refine (@if_pos _ (Classical.propDecidable _) (by assumption) _ _ _).trans ?_
      first | rfl | (rfl)
    exact rfin eY hRf2

abbrev P_X10_check (h s : Mm) (τ τk : Nat → List Int32) : Option Value → Mm → Prop := fun r h2 => r = some (.int (Y_check s τ).1) ∧ RR h2 (Y_check s τ).2
theorem c_X10_check {l : Launch} (h s : Mm) (τ τk : Nat → List Int32) (hR : RR h s) (hI : INV s τ τk) : Con l yX10_check cX10_check 3 (some .int) 43 989 132 GL h [.ref 118] (P_X10_check h s τ τk) := by
  refine Con.ofV (own := "FoxRoundsModel") (nm := "check") rfl rfl (by decide) (Nat.le_of_ble_eq_true rfl) ?_
  intro κ ρ hkl K
  subst hkl
  show V κ (QM κ (132, ρ, GL, 0, 0) (P_X10_check h s τ τk)) 3 (132, ρ, GL, 0, 0) h 0 [(0, .ref 118)] []
  have hd := hI.d
  have hn8 := hd.nw8
  have ht5 := hd.nt5
  obtain ⟨t14, h14, e14⟩ := hI.t14
  obtain ⟨d0, hd00⟩ : ∃ d0, d0 = upd (s 119) 14 (nI 0) := ⟨_, rfl⟩
  obtain ⟨ff, hff0⟩ : ∃ ff : Nat → Int32, ff = fun i => s 119 (114 + i) := ⟨_, rfl⟩
  have hff : ∀ i, ff i = s 119 (114 + i) := fun i => by rw [hff0]
  have hd0 : DOK d0 := by rw [hd00]; exact hd.set (by omega) (by omega) (fun q => by omega) (fun q => by omega) (fun w hw => ⟨fun q => by omega, fun q => by omega, fun q => by omega, fun q => by omega⟩) (fun t ht => ⟨fun q => by omega, fun q => by omega, fun q => by omega⟩)
  have htx0 : TXD (u2 s 119 14 (nI 0) 119) τ := by rw [u2_row]; exact hI.x.same fun i h1 h2 _ => upd_ne (by omega)
  refine v_aload_n K dX10_check_0 rfl ?_
  refine v_getr (q := 119) K fX10_7 sh_118 pl_118 gl_118_0 dX10_check_1 ?_
  refine v_bipushN K 14 rfl dX10_check_4 ?_
  refine v_iald (x := nI t14) K sh_119 pl_119 (by omega) ((hR.at RA_119).trans e14) dX10_check_6 ?_
  refine v_istore_n (lv2 := [(1, .int (nI t14)), (0, .ref 118)]) K dX10_check_7 (by decide) rfl ?_
  refine v_aload_n K dX10_check_8 rfl ?_
  refine v_getr (q := 119) K fX10_7 sh_118 pl_118 gl_118_0 dX10_check_9 ?_
  refine v_bipushN K 14 rfl dX10_check_12 ?_
  refine v_iconstN K 0 rfl dX10_check_14 ?_
  refine v_iast K sh_119 pl_119 (by omega) dX10_check_15 ?_
  have hRr1 : RR (u2 h 119 14 (nI 0)) (u2 s 119 14 (nI 0)) := hR.u RA_119
  refine v_aload_n K dX10_check_16 rfl ?_
  refine v_getr (q := 119) K fX10_7 sh_118 pl_118 gl_118_0 dX10_check_17 ?_
  refine v_aload_n K dX10_check_20 rfl ?_
  refine v_getr (q := 120) K fX10_13 sh_118 pl_118 gl_118_1 dX10_check_21 ?_
  refine v_callS (As := [.ref 119, .ref 120]) K (c_X10_copies2 ((u2 h 119 14 (nI 0))) 119 120 mP_119 mP_120 (by decide)) lX10_228 rfl ⟨by decide, by decide⟩ (Nat.le_of_ble_eq_true rfl) dX10_check_24 (fun r2 h1 hp1 => ?_) rfl
  obtain ⟨rfl, rfl⟩ := hp1
  refine v_none ?_
  have hRq1 : RR (rw2 ((u2 h 119 14 (nI 0))) 120 (((u2 h 119 14 (nI 0))) 119)) (u2 s 119 14 (nI 0)) := hRr1.rwn
  have hEq1 : (rw2 ((u2 h 119 14 (nI 0))) 120 (((u2 h 119 14 (nI 0))) 119)) 120 = d0 := rw2_at.trans ((hRr1.1 119 RA_119).trans (by rw [u2_row]; exact hd00.symm))
  refine v_iconstN K 0 rfl dX10_check_27 ?_
  refine v_istore_n (lv2 := [(2, .int (nI 0)), (1, .int (nI t14)), (0, .ref 118)]) K dX10_check_28 (by decide) rfl ?_
  have L29 : ∀ (mm : Nat) (a : Nat) (g1 : Mm) (ha : a ≤ t14) (hE : g1 120 = nightsD τ d0 a) (hZ : RR g1 (u2 s 119 14 (nI 0))) (hl : unlF τ d0 ff t14 0 = unlF τ d0 ff (t14 - a) a), t14 + 1 - a < mm → V κ (QM κ (132, ρ, GL, 0, 0) (P_X10_check h s τ τk)) 3 (132, ρ, GL, 0, 0) g1 29 [(0, .ref 118), (1, .int (nI t14)), (2, .int (nI a))] [] := by
    intro mm
    induction mm with
    | zero => intro a g1 ha hE hZ hl hmm; exact absurd hmm (Nat.not_lt_zero _)
    | succ mm ih29 =>
      intro a g1 ha hE hZ hl hmm
      refine v_iload_n K dX10_check_29 rfl ?_
      refine v_iload_n K dX10_check_30 rfl ?_
      refine v_icmpN_ge (tgt := 64) K (by omega) (by omega) dX10_check_31 rfl (fun c1 => ?_) (fun c1 => ?_)
      · skip
        refine v_iconstN K 0 rfl dX10_check_64 ?_
        refine v_iret K dX10_check_65 ?_
        have eY : Y_check s τ = (nI 0, (u2 s 119 14 (nI 0))) := by
          unfold Y_check
          rw [e14, cl_ix (show t14 < 2 ^ 31 by omega), ← hd00, ← hff0, hl, show t14 - a = 0 by omega]; rfl
        exact rfin eY hZ
      · skip
        refine v_aload_n K dX10_check_34 rfl ?_
        refine v_aload_n K dX10_check_35 rfl ?_
        refine v_getr (q := 120) K fX10_13 sh_118 pl_118 gl_118_1 dX10_check_36 ?_
        refine v_callV (As := [.ref 120]) K (c_X10_goesBy g1 τ 120 mP_120 (by rw [hE]; exact (hd0.nights _)) (by rw [hZ.1 119 RA_119]; exact htx0)) lX10_219 ck_X10 rfl sh_118 pl_118 rfl ⟨by decide, by decide⟩ (Nat.le_of_ble_eq_true rfl) dX10_check_39 (fun r3 h2 hp2 => ?_) rfl
        obtain ⟨rfl, hDq2, hTq2, hGq2⟩ := hp2
        rw [hE] at hDq2
        have hRq2 := hZ.G (by unfold RA; omega) hGq2
        refine v_some ?_
        rw [hE]
        refine v_aload_n K dX10_check_42 rfl ?_
        refine v_getr (q := 119) K fX10_7 sh_118 pl_118 gl_118_0 dX10_check_43 ?_
        refine v_bipushN K 114 rfl dX10_check_46 ?_
        refine v_iload_n K dX10_check_48 rfl ?_
        refine v_iaddN K dX10_check_49 ?_
        refine v_iald (x := s 119 (114 + a)) K sh_119 pl_119 (by omega) ((hRq2.at RA_119).trans (u2_ne (by omega))) dX10_check_50 ?_
        refine v_icmp_eq (tgt := 58) K dX10_check_51 rfl (fun c2 => ?_) (fun c2 => ?_)
        · skip
          refine v_iincN (lv2 := [(2, .int (nI (a + 1))), (0, .ref 118), (1, .int (nI t14))]) K 1 dX10_check_58 rfl rfl (by decide) rfl ?_
          refine v_goto (tgt := 29) K dX10_check_61 rfl ?_
          refine v_sub (lv2 := [(0, .ref 118), (1, .int (nI t14)), (2, .int (nI (a + 1)))]) (by simp) ?_
          exact ih29 (a + 1) h2 (by first | assumption | omega | rfl) (by exact hDq2) (by exact hRq2) (by rw [hl, show t14 - a = (t14 - (a + 1)) + 1 by omega]; exact unl_y (by rw [hff]; exact c2)) (by omega)
        · skip
          refine v_iconstN K 1 rfl dX10_check_54 ?_
          refine v_iload_n K dX10_check_55 rfl ?_
          refine v_iaddN K dX10_check_56 ?_
          refine v_iret K dX10_check_57 ?_
          have eY : Y_check s τ = (nI (1 + a), (u2 s 119 14 (nI 0))) := by
            unfold Y_check
            rw [e14, cl_ix (show t14 < 2 ^ 31 by omega), ← hd00, ← hff0, hl, show t14 - a = (t14 - a - 1) + 1 by omega, unl_n (by rw [hff]; exact c2)]; exact Prod.ext (congrArg nI (by omega)) rfl
          exact rfin eY hRq2
  refine v_sub (lv2 := [(0, .ref 118), (1, .int (nI t14)), (2, .int (nI 0))]) (by simp) ?_
  exact L29 (t14 + 1 - 0 + 1) 0 ((rw2 ((u2 h 119 14 (nI 0))) 120 (((u2 h 119 14 (nI 0))) 119))) (by first | assumption | omega | rfl) (by exact hEq1) (by exact hRq1) (by rfl) (Nat.lt_succ_self _)
