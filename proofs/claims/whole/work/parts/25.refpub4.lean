theorem careD_ok {c : Int32} {d : Dm} (H : DOK d) : DOK (careD c d) := by
  have key : DOK (upd d 12 (d 12 * 1103515245 + nI 12345)) := H.set (by omega) (by omega) (fun q => by omega) (fun q => by omega) (fun w hw => ⟨fun q => by omega, fun q => by omega, fun q => by omega, fun q => by omega⟩) (fun t ht => ⟨fun q => by omega, fun q => by omega, fun q => by omega⟩)
  unfold careD
  split
  · exact key.set (by omega) (by omega) (fun q => by omega) (fun _ => ⟨1, by omega, rfl⟩) (fun w hw => ⟨fun q => by omega, fun q => by omega, fun q => by omega, fun q => by omega⟩) (fun t ht => ⟨fun q => by omega, fun q => by omega, fun q => by omega⟩)
  · exact key
theorem careD_tx {c : Int32} {d : Dm} {τ : Nat → List Int32} (H : TXD d τ) : TXD (careD c d) τ := by
  refine H.same fun i h1 h2 _ => ?_
  unfold careD
  split
  · rw [upd_ne (by omega), upd_ne (by omega)]
  · rw [upd_ne (by omega)]
theorem care_n {d : Dm} {z : Int32} : upd (upd d 12 z) 4 (d 4) = upd d 12 z := by
  have := upd_id (f := upd d 12 z) (i := 4)
  rwa [upd_ne (by omega)] at this
noncomputable def lossY (s : Mm) (o : Option Nat) : Rs := match o with
  | none => er s 2
  | some k => (nI k, s)

noncomputable def Y_careless (s : Mm) (τ : Nat → List Int32) (n v : Int32) : Rs := @ite _ (¬ ((nI 1 ≤ n ∧ n ≤ nI 60) ∧ ix v 101)) (Classical.propDecidable _) (er s 1) ( @ite _ (999 < (s 119 8).toNatClampNeg + n.toNatClampNeg) (Classical.propDecidable _) (er s 3) ( (carD τ v (s 119) n.toNatClampNeg 0, rw2 s 119 (carD τ v (s 119) n.toNatClampNeg))))

noncomputable def Y_loss (s : Mm) (τ : Nat → List Int32) (n : Int32) : Rs := @ite _ (¬ (nI 1 ≤ n ∧ n ≤ nI 60)) (Classical.propDecidable _) (er s 1) ( lossY s (lossF τ (s 119) n.toNatClampNeg 1))

noncomputable def Y_check (s : Mm) (τ : Nat → List Int32) : Rs := (unlF τ (upd (s 119) 14 (nI 0)) (fun i => s 119 (114 + i)) (s 119 14).toNatClampNeg 0, u2 s 119 14 (nI 0))

abbrev P_X10_careless (h s : Mm) (τ τk : Nat → List Int32) (n v : Int32) : Option Value → Mm → Prop := fun r h2 => r = some (.int (Y_careless s τ n v).1) ∧ RR h2 (Y_careless s τ n v).2
theorem c_X10_careless {l : Launch} (h s : Mm) (τ τk : Nat → List Int32) (n v : Int32) (hR : RR h s) (hI : INV s τ τk) : Con l yX10_careless cX10_careless 4 (some .int) 44 1013 132 GL h [.ref 118, .int n, .int v] (P_X10_careless h s τ τk n v) := by
  refine Con.ofV (own := "FoxRoundsModel") (nm := "careless") rfl rfl (by decide) (Nat.le_of_ble_eq_true rfl) ?_
  intro κ ρ hkl K
  subst hkl
  show V κ (QM κ (132, ρ, GL, 0, 0) (P_X10_careless h s τ τk n v)) 4 (132, ρ, GL, 0, 0) h 0 [(0, .ref 118), (1, .int n), (2, .int v)] []
  have hd := hI.d
  have hn8 := hd.nw8
  have ht5 := hd.nt5
  obtain ⟨tn, htn, etn⟩ := hI.t8
  refine v_iload_n K dX10_careless_0 rfl ?_
  refine v_i2l K dX10_careless_1 rfl ?_
  refine v_lconst (v := (nI 1).toInt64) K dX10_careless_2 (by decide) ?_
  refine v_ldc2 K kX10_145 dX10_careless_3 ?_
  refine v_topL (y := (nI 60).toInt64) (by decide) ?_
  refine v_callS (As := [.long n.toInt64, .long (nI 1).toInt64, .long (nI 60).toInt64]) K (c_X10_in h n (nI 1) (nI 60)) lX10_51 rfl ⟨by decide, by decide⟩ (Nat.le_of_ble_eq_true rfl) dX10_careless_6 (fun r1 h1 hp1 => ?_) rfl
  obtain ⟨rfl, rfl⟩ := hp1
  refine v_some ?_
  refine v_ifB_eq (tgt := 24) K dX10_careless_9 rfl (fun c1 => ?_) (fun c1 => ?_)
  · skip
    refine v_aload_n K dX10_careless_24 rfl ?_
    refine v_iconstN K 1 rfl dX10_careless_25 ?_
    refine v_callV (As := [.int (nI 1)]) K (c_X10_finds h 1 (by omega)) lX10_113 ck_X10 rfl sh_118 pl_118 rfl ⟨by decide, by decide⟩ (Nat.le_of_ble_eq_true rfl) dX10_careless_26 (fun r2 h2 hp2 => ?_) rfl
    obtain ⟨rfl, rfl⟩ := hp2
    refine v_some ?_
    have hRf1 : RR (u2 h 122 1 (h 122 1 + nI 1)) (u2 s 122 1 (s 122 1 + nI 1)) := by rw [show (h 122 1) = s 122 1 from hR.at RA_122]; exact hR.u RA_122
    refine v_iret K dX10_careless_29 ?_
    have eY : Y_careless s τ n v = ((-1000000000) - nI 1, (u2 s 122 1 (s 122 1 + nI 1))) := by
      unfold Y_careless
      refine (@if_pos _ (Classical.propDecidable _) (fun q => absurd q.1 (by assumption)) _ _ _).trans ?_
      first | rfl | (rfl)
    exact rfin eY hRf1
  · skip
    have c0 := c1
    obtain ⟨j, hj1, hjn, rfl⟩ := in_lo (n := 60) (by decide) c1
    refine v_iload_n K dX10_careless_12 rfl ?_
    refine v_i2l K dX10_careless_13 rfl ?_
    refine v_lconst (v := (nI 0).toInt64) K dX10_careless_14 (by decide) ?_
    refine v_ldc2 K kX10_225 dX10_careless_15 ?_
    refine v_topL (y := (nI 100).toInt64) (by decide) ?_
    refine v_callS (As := [.long v.toInt64, .long (nI 0).toInt64, .long (nI 100).toInt64]) K (c_X10_in h v (nI 0) (nI 100)) lX10_51 rfl ⟨by decide, by decide⟩ (Nat.le_of_ble_eq_true rfl) dX10_careless_18 (fun r3 h3 hp3 => ?_) rfl
    obtain ⟨rfl, rfl⟩ := hp3
    refine v_some ?_
    rw [show (nI 0 ≤ v ∧ v ≤ nI 100) = ix v 101 from in_ix (by decide)]
    refine v_ifB_ne (tgt := 30) K dX10_careless_21 rfl (fun c2 => ?_) (fun c2 => ?_)
    · skip
      have hv101 := c2
      refine v_aload_n K dX10_careless_30 rfl ?_
      refine v_getr (q := 119) K fX10_7 sh_118 pl_118 gl_118_0 dX10_careless_31 ?_
      refine v_bipushN K 8 rfl dX10_careless_34 ?_
      refine v_iald (x := nI tn) K sh_119 pl_119 (by omega) ((hR.at RA_119).trans etn) dX10_careless_36 ?_
      refine v_iload_n K dX10_careless_37 rfl ?_
      refine v_iaddN K dX10_careless_38 ?_
      refine v_sipushN K 999 rfl dX10_careless_39 ?_
      refine v_icmpN_le (tgt := 51) K (by omega) (by omega) dX10_careless_42 rfl (fun c3 => ?_) (fun c3 => ?_)
      · skip
        refine v_iconstN K 0 rfl dX10_careless_51 ?_
        refine v_istore_n (lv2 := [(3, .int (nI 0)), (0, .ref 118), (1, .int (nI j)), (2, .int v)]) K dX10_careless_52 (by decide) rfl ?_
        have L53 : ∀ (mm : Nat) (a : Nat) (dd : Dm) (g1 : Mm) (ha : a ≤ j) (hdd : dd = carD τ v (s 119) a) (hdC : DOK dd) (hTx : TXD dd τ) (hZ : RR g1 (rw2 s 119 dd)), j + 1 - a < mm → V κ (QM κ (132, ρ, GL, 0, 0) (P_X10_careless h s τ τk (nI j) v)) 4 (132, ρ, GL, 0, 0) g1 53 [(0, .ref 118), (1, .int (nI j)), (2, .int v), (3, .int (nI a))] [] := by
          intro mm
          induction mm with
          | zero => intro a dd g1 ha hdd hdC hTx hZ hmm; exact absurd hmm (Nat.not_lt_zero _)
          | succ mm ih53 =>
            intro a dd g1 ha hdd hdC hTx hZ hmm
            refine v_iload_n K dX10_careless_53 rfl ?_
            refine v_iload_n K dX10_careless_54 rfl ?_
            refine v_icmpN_ge (tgt := 127) K (by omega) (by omega) dX10_careless_55 rfl (fun c4 => ?_) (fun c4 => ?_)
            · skip
              refine v_aload_n K dX10_careless_127 rfl ?_
              refine v_getr (q := 119) K fX10_7 sh_118 pl_118 gl_118_0 dX10_careless_128 ?_
              refine v_iconstN K 0 rfl dX10_careless_131 ?_
              refine v_iald (x := dd 0) K sh_119 pl_119 (by omega) ((hZ.at RA_119).trans (congrFun rw2_at _)) dX10_careless_132 ?_
              refine v_iret K dX10_careless_133 ?_
              have eY : Y_careless s τ (nI j) v = (dd 0, (rw2 s 119 dd)) := by
                unfold Y_careless
                refine (@if_neg _ (Classical.propDecidable _) (fun q => q ⟨c0, hv101⟩) _ _ _).trans ?_
                refine (@if_neg _ (Classical.propDecidable _) (by rw [etn, cl_ix (show tn < 2 ^ 31 by omega), cl_ix (show j < 2 ^ 31 by omega)]; omega) _ _ _).trans ?_
                obtain rfl : a = j := (by omega); subst hdd; rw [cl_ix (show a < 2 ^ 31 by omega)]
              exact rfin eY hZ
            · skip
              refine v_aload_n K dX10_careless_58 rfl ?_
              refine v_getr (q := 119) K fX10_7 sh_118 pl_118 gl_118_0 dX10_careless_59 ?_
              refine v_bipushN K 12 rfl dX10_careless_62 ?_
              refine v_aload_n K dX10_careless_64 rfl ?_
              refine v_getr (q := 119) K fX10_7 sh_118 pl_118 gl_118_0 dX10_careless_65 ?_
              refine v_bipushN K 12 rfl dX10_careless_68 ?_
              refine v_iald (x := dd 12) K sh_119 pl_119 (by omega) ((hZ.at RA_119).trans (congrFun rw2_at _)) dX10_careless_70 ?_
              refine v_ldc K kX10_227 dX10_careless_71 ?_
              refine v_imul K dX10_careless_73 ?_
              refine v_sipushN K 12345 rfl dX10_careless_74 ?_
              refine v_iadd K dX10_careless_77 ?_
              refine v_iast K sh_119 pl_119 (by omega) dX10_careless_78 ?_
              have hRr4 : RR (u2 g1 119 12 (((dd 12) * ((1103515245))) + (nI 12345))) (u2 (rw2 s 119 dd) 119 12 (((dd 12) * ((1103515245))) + (nI 12345))) := hZ.u RA_119
              refine v_aload_n K dX10_careless_79 rfl ?_
              refine v_getr (q := 119) K fX10_7 sh_118 pl_118 gl_118_0 dX10_careless_80 ?_
              refine v_iconstN K 4 rfl dX10_careless_83 ?_
              refine v_aload_n K dX10_careless_84 rfl ?_
              refine v_getr (q := 119) K fX10_7 sh_118 pl_118 gl_118_0 dX10_careless_85 ?_
              refine v_bipushN K 12 rfl dX10_careless_88 ?_
              refine v_iald (x := ((dd 12) * ((1103515245))) + (nI 12345)) K sh_119 pl_119 (by omega) ((hRr4.at RA_119).trans u2_at) dX10_careless_90 ?_
              refine v_bipushN K 8 rfl dX10_careless_91 ?_
              refine v_iushr K dX10_careless_93 rfl ?_
              refine v_bipushN K 100 rfl dX10_careless_94 ?_
              refine v_irem K dX10_careless_96 (by decide) ?_
              refine v_iload_n K dX10_careless_97 rfl ?_
              refine v_icmp_ge (tgt := 105) K dX10_careless_98 rfl (fun c5 => ?_) (fun c5 => ?_)
              · skip
                refine v_aload_n K dX10_careless_105 rfl ?_
                refine v_getr (q := 119) K fX10_7 sh_118 pl_118 gl_118_0 dX10_careless_106 ?_
                refine v_iconstN K 4 rfl dX10_careless_109 ?_
                refine v_iald (x := dd 4) K sh_119 pl_119 (by omega) (((hRr4.at RA_119).trans (u2_ne (by omega))).trans (congrFun rw2_at _)) dX10_careless_110 ?_
                refine v_iast K sh_119 pl_119 (by omega) dX10_careless_111 ?_
                have hRr5 : RR (u2 (u2 g1 119 12 (((dd 12) * ((1103515245))) + (nI 12345))) 119 4 (dd 4)) (u2 (u2 (rw2 s 119 dd) 119 12 (((dd 12) * ((1103515245))) + (nI 12345))) 119 4 (dd 4)) := hRr4.u RA_119
                have hS : (u2 (u2 (rw2 s 119 dd) 119 12 (((dd 12) * ((1103515245))) + (nI 12345))) 119 4 (dd 4)) 119 = careD v dd := by rw [u2_row, u2_row, rw2_at]; unfold careD drwV; rw [if_neg (Int32.not_lt.mpr c5)]; exact care_n
                refine v_aload_n K dX10_careless_112 rfl ?_
                refine v_aload_n K dX10_careless_113 rfl ?_
                refine v_getr (q := 119) K fX10_7 sh_118 pl_118 gl_118_0 dX10_careless_114 ?_
                refine v_iconstN K 1 rfl dX10_careless_117 ?_
                refine v_callV (As := [.ref 119, .int (nI 1)]) K (c_X10_goesOn ((u2 (u2 g1 119 12 (((dd 12) * ((1103515245))) + (nI 12345))) 119 4 (dd 4))) τ 119 1 mP_119 (by rw [hRr5.1 119 RA_119, hS]; exact careD_ok hdC) (by rw [hRr5.1 119 RA_119, hS]; exact careD_tx hTx) (by omega)) lX10_222 ck_X10 rfl sh_118 pl_118 rfl ⟨by decide, by decide⟩ (Nat.le_of_ble_eq_true rfl) dX10_careless_118 (fun r6 h4 hp4 => ?_) rfl
                obtain ⟨rfl, hDc, hTc, hGc⟩ := hp4
                have hDc : h4 119 = nightD τ (careD v dd) := by rw [hDc, hRr5.1 119 RA_119, hS]; rfl
                have hRc : RR h4 (rw2 s 119 (nightD τ (careD v dd))) := by have hx := RR.G119 hRr5 hGc; rw [hDc] at hx; simpa only [u2_rw, rw2_rw2] using hx
                rw [hDc] at hTc
                refine v_none ?_
                refine v_iincN (lv2 := [(3, .int (nI (a + 1))), (0, .ref 118), (1, .int (nI j)), (2, .int v)]) K 1 dX10_careless_121 rfl rfl (by decide) rfl ?_
                refine v_goto (tgt := 53) K dX10_careless_124 rfl ?_
                refine v_sub (lv2 := [(0, .ref 118), (1, .int (nI j)), (2, .int v), (3, .int (nI (a + 1)))]) (by simp) ?_
                exact ih53 (a + 1) ((nightD τ (careD v dd))) h4 (by first | assumption | omega | rfl) (by rw [hdd]; rfl) (by exact (careD_ok hdC).night) (by exact hTc) (by exact hRc) (by omega)
              · skip
                refine v_iconstN K 1 rfl dX10_careless_101 ?_
                refine v_goto (tgt := 111) K dX10_careless_102 rfl ?_
                refine v_iast K sh_119 pl_119 (by omega) dX10_careless_111 ?_
                have hRr7 : RR (u2 (u2 g1 119 12 (((dd 12) * ((1103515245))) + (nI 12345))) 119 4 (nI 1)) (u2 (u2 (rw2 s 119 dd) 119 12 (((dd 12) * ((1103515245))) + (nI 12345))) 119 4 (nI 1)) := hRr4.u RA_119
                have hS : (u2 (u2 (rw2 s 119 dd) 119 12 (((dd 12) * ((1103515245))) + (nI 12345))) 119 4 (nI 1)) 119 = careD v dd := by rw [u2_row, u2_row, rw2_at]; unfold careD drwV; rw [if_pos (Int32.not_le.mp c5)]
                refine v_aload_n K dX10_careless_112 rfl ?_
                refine v_aload_n K dX10_careless_113 rfl ?_
                refine v_getr (q := 119) K fX10_7 sh_118 pl_118 gl_118_0 dX10_careless_114 ?_
                refine v_iconstN K 1 rfl dX10_careless_117 ?_
                refine v_callV (As := [.ref 119, .int (nI 1)]) K (c_X10_goesOn ((u2 (u2 g1 119 12 (((dd 12) * ((1103515245))) + (nI 12345))) 119 4 (nI 1))) τ 119 1 mP_119 (by rw [hRr7.1 119 RA_119, hS]; exact careD_ok hdC) (by rw [hRr7.1 119 RA_119, hS]; exact careD_tx hTx) (by omega)) lX10_222 ck_X10 rfl sh_118 pl_118 rfl ⟨by decide, by decide⟩ (Nat.le_of_ble_eq_true rfl) dX10_careless_118 (fun r8 h5 hp5 => ?_) rfl
                obtain ⟨rfl, hDc, hTc, hGc⟩ := hp5
                have hDc : h5 119 = nightD τ (careD v dd) := by rw [hDc, hRr7.1 119 RA_119, hS]; rfl
                have hRc : RR h5 (rw2 s 119 (nightD τ (careD v dd))) := by have hx := RR.G119 hRr7 hGc; rw [hDc] at hx; simpa only [u2_rw, rw2_rw2] using hx
                rw [hDc] at hTc
                refine v_none ?_
                refine v_iincN (lv2 := [(3, .int (nI (a + 1))), (0, .ref 118), (1, .int (nI j)), (2, .int v)]) K 1 dX10_careless_121 rfl rfl (by decide) rfl ?_
                refine v_goto (tgt := 53) K dX10_careless_124 rfl ?_
                refine v_sub (lv2 := [(0, .ref 118), (1, .int (nI j)), (2, .int v), (3, .int (nI (a + 1)))]) (by simp) ?_
                exact ih53 (a + 1) ((nightD τ (careD v dd))) h5 (by first | assumption | omega | rfl) (by rw [hdd]; rfl) (by exact (careD_ok hdC).night) (by exact hTc) (by exact hRc) (by omega)
        refine v_sub (lv2 := [(0, .ref 118), (1, .int (nI j)), (2, .int v), (3, .int (nI 0))]) (by simp) ?_
        exact L53 (j + 1 - 0 + 1) 0 ((s 119)) h (by first | assumption | omega | rfl) (by rfl) (by exact hd) (by exact hI.x) (by rw [rw2_self]; exact hR) (Nat.lt_succ_self _)
      · skip
        refine v_aload_n K dX10_careless_45 rfl ?_
        refine v_iconstN K 3 rfl dX10_careless_46 ?_
        refine v_callV (As := [.int (nI 3)]) K (c_X10_finds h 3 (by omega)) lX10_113 ck_X10 rfl sh_118 pl_118 rfl ⟨by decide, by decide⟩ (Nat.le_of_ble_eq_true rfl) dX10_careless_47 (fun r9 h6 hp6 => ?_) rfl
        obtain ⟨rfl, rfl⟩ := hp6
        refine v_some ?_
        have hRf2 : RR (u2 h 122 3 (h 122 3 + nI 1)) (u2 s 122 3 (s 122 3 + nI 1)) := by rw [show (h 122 3) = s 122 3 from hR.at RA_122]; exact hR.u RA_122
        refine v_iret K dX10_careless_50 ?_
        have eY : Y_careless s τ (nI j) v = ((-1000000000) - nI 3, (u2 s 122 3 (s 122 3 + nI 1))) := by
          unfold Y_careless
          refine (@if_neg _ (Classical.propDecidable _) (fun q => q ⟨c0, hv101⟩) _ _ _).trans ?_
          refine (@if_pos _ (Classical.propDecidable _) (by rw [etn, cl_ix (show tn < 2 ^ 31 by omega), cl_ix (show j < 2 ^ 31 by omega)]; omega) _ _ _).trans ?_
          first | rfl | ((try rw [cl_ix (show j < 2 ^ 31 by omega)]))
        exact rfin eY hRf2
    · skip
      refine v_aload_n K dX10_careless_24 rfl ?_
      refine v_iconstN K 1 rfl dX10_careless_25 ?_
      refine v_callV (As := [.int (nI 1)]) K (c_X10_finds h 1 (by omega)) lX10_113 ck_X10 rfl sh_118 pl_118 rfl ⟨by decide, by decide⟩ (Nat.le_of_ble_eq_true rfl) dX10_careless_26 (fun r10 h7 hp7 => ?_) rfl
      obtain ⟨rfl, rfl⟩ := hp7
      refine v_some ?_
      have hRf3 : RR (u2 h 122 1 (h 122 1 + nI 1)) (u2 s 122 1 (s 122 1 + nI 1)) := by rw [show (h 122 1) = s 122 1 from hR.at RA_122]; exact hR.u RA_122
      refine v_iret K dX10_careless_29 ?_
      have eY : Y_careless s τ (nI j) v = ((-1000000000) - nI 1, (u2 s 122 1 (s 122 1 + nI 1))) := by
        unfold Y_careless
        refine (@if_pos _ (Classical.propDecidable _) (fun q => absurd q.2 (by assumption)) _ _ _).trans ?_
        first | rfl | ((try rw [cl_ix (show j < 2 ^ 31 by omega)]))
      exact rfin eY hRf3
