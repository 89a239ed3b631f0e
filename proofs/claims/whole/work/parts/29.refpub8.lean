def bytV (w : Int64) (k : Nat) : Int32 := ((w >>> ((nI (8 * k)).toInt64 &&& 63)) &&& (nI 255).toInt64).toInt32
/-- i bytes of a word behind the t of the tape -/
def fedR (d : Dm) (t : Nat) (w : Int64) (i : Nat) : Dm := fun k => if 284 + t ≤ k ∧ k < 284 + t + i then bytV w (k - (284 + t)) else if k = 13 then nI (t + i) else d k
theorem fed_0 {d : Dm} {t : Nat} {w : Int64} (e : d 13 = nI t) : fedR d t w 0 = d := by
  funext k
  unfold fedR
  rw [if_neg (by omega)]
  by_cases c : k = 13
  · subst c; rw [if_pos rfl, e]; rfl
  · rw [if_neg c]
theorem fed_13 {d : Dm} {t i : Nat} {w : Int64} : fedR d t w i 13 = nI (t + i) := by unfold fedR; rw [if_neg (by omega), if_pos rfl]
theorem fed_s {d : Dm} {t i : Nat} {w : Int64} : upd (upd (fedR d t w i) (284 + (t + i)) (bytV w i)) 13 (nI (t + i + 1)) = fedR d t w (i + 1) := by
  funext k
  by_cases c : k = 13
  · subst c; rw [upd_at, fed_13]; rfl
  · rw [upd_ne c]
    by_cases e : k = 284 + (t + i)
    · subst e; unfold fedR; rw [upd_at, if_pos (by omega)]; congr 1; omega
    · rw [upd_ne e]
      unfold fedR
      by_cases g : 284 + t ≤ k ∧ k < 284 + t + i
      · rw [if_pos g, if_pos (by omega)]
      · rw [if_neg g, if_neg (show ¬ (284 + t ≤ k ∧ k < 284 + t + (i + 1)) by omega), if_neg c, if_neg c]

noncomputable def Y_feed (s : Mm) (w : Int64) (n : Int32) : Rs := @ite _ (¬ (nI 1 ≤ n ∧ n ≤ nI 8)) (Classical.propDecidable _) (er s 1) ( @ite _ (50 < (s 119 13).toNatClampNeg + n.toNatClampNeg) (Classical.propDecidable _) (er s 4) ( (nI ((s 119 13).toNatClampNeg + n.toNatClampNeg), rw2 s 119 (fedR (s 119) (s 119 13).toNatClampNeg w n.toNatClampNeg))))

abbrev P_X10_feed (h s : Mm) (τ τk : Nat → List Int32) (w : Int64) (n : Int32) : Option Value → Mm → Prop := fun r h2 => r = some (.int (Y_feed s w n).1) ∧ RR h2 (Y_feed s w n).2
theorem c_X10_feed {l : Launch} (h s : Mm) (τ τk : Nat → List Int32) (w : Int64) (n : Int32) (hR : RR h s) (hI : INV s τ τk) : Con l yX10_feed cX10_feed 5 (some .int) 1 25 132 GL h [.ref 118, .long w, .int n] (P_X10_feed h s τ τk w n) := by
  refine Con.ofV (own := "FoxRoundsModel") (nm := "feed") rfl rfl (by decide) (Nat.le_of_ble_eq_true rfl) ?_
  intro κ ρ hkl K
  subst hkl
  show V κ (QM κ (132, ρ, GL, 0, 0) (P_X10_feed h s τ τk w n)) 5 (132, ρ, GL, 0, 0) h 0 [(0, .ref 118), (1, .long w), (3, .int n)] []
  have hd := hI.d
  have hn8 := hd.nw8
  have ht5 := hd.nt5
  obtain ⟨t13, h13, e13⟩ := hI.t13
  refine v_iload_n K dX10_feed_0 rfl ?_
  refine v_i2l K dX10_feed_1 rfl ?_
  refine v_lconst (v := (nI 1).toInt64) K dX10_feed_2 (by decide) ?_
  refine v_ldc2 K kX10_111 dX10_feed_3 ?_
  refine v_topL (y := (nI 8).toInt64) (by decide) ?_
  refine v_callS (As := [.long n.toInt64, .long (nI 1).toInt64, .long (nI 8).toInt64]) K (c_X10_in h n (nI 1) (nI 8)) lX10_51 rfl ⟨by decide, by decide⟩ (Nat.le_of_ble_eq_true rfl) dX10_feed_6 (fun r1 h1 hp1 => ?_) rfl
  obtain ⟨rfl, rfl⟩ := hp1
  refine v_some ?_
  refine v_ifB_ne (tgt := 18) K dX10_feed_9 rfl (fun c1 => ?_) (fun c1 => ?_)
  · skip
    have c0 := c1
    obtain ⟨j, hj1, hjn, rfl⟩ := in_lo (n := 8) (by decide) c1
    refine v_aload_n K dX10_feed_18 rfl ?_
    refine v_getr (q := 119) K fX10_7 sh_118 pl_118 gl_118_0 dX10_feed_19 ?_
    refine v_bipushN K 13 rfl dX10_feed_22 ?_
    refine v_iald (x := nI t13) K sh_119 pl_119 (by omega) ((hR.at RA_119).trans e13) dX10_feed_24 ?_
    refine v_iload_n K dX10_feed_25 rfl ?_
    refine v_iaddN K dX10_feed_26 ?_
    refine v_bipushN K 50 rfl dX10_feed_27 ?_
    refine v_icmpN_le (tgt := 38) K (by omega) (by omega) dX10_feed_29 rfl (fun c2 => ?_) (fun c2 => ?_)
    · skip
      refine v_iconstN K 0 rfl dX10_feed_38 ?_
      refine v_istore (lv2 := [(4, .int (nI 0)), (0, .ref 118), (1, .long w), (3, .int (nI j))]) K dX10_feed_39 (by decide) rfl ?_
      have L41 : ∀ (mm : Nat) (a : Nat) (g1 : Mm) (ha : a ≤ j) (hZ : RR g1 (rw2 s 119 (fedR (s 119) t13 w a))), j + 1 - a < mm → V κ (QM κ (132, ρ, GL, 0, 0) (P_X10_feed h s τ τk w (nI j))) 5 (132, ρ, GL, 0, 0) g1 41 [(0, .ref 118), (1, .long w), (3, .int (nI j)), (4, .int (nI a))] [] := by
        intro mm
        induction mm with
        | zero => intro a g1 ha hZ hmm; exact absurd hmm (Nat.not_lt_zero _)
        | succ mm ih41 =>
          intro a g1 ha hZ hmm
          refine v_iload K dX10_feed_41 rfl ?_
          refine v_iload_n K dX10_feed_43 rfl ?_
          refine v_icmpN_ge (tgt := 92) K (by omega) (by omega) dX10_feed_44 rfl (fun c3 => ?_) (fun c3 => ?_)
          · skip
            refine v_aload_n K dX10_feed_92 rfl ?_
            refine v_getr (q := 119) K fX10_7 sh_118 pl_118 gl_118_0 dX10_feed_93 ?_
            refine v_bipushN K 13 rfl dX10_feed_96 ?_
            refine v_iald (x := nI (t13 + a)) K sh_119 pl_119 (by omega) ((hZ.at RA_119).trans ((congrFun rw2_at _).trans fed_13)) dX10_feed_98 ?_
            refine v_iret K dX10_feed_99 ?_
            have eY : Y_feed s w (nI j) = (nI (t13 + a), (rw2 s 119 (fedR (s 119) t13 w a))) := by
              unfold Y_feed
              refine (@if_neg _ (Classical.propDecidable _) (fun q => q c0) _ _ _).trans ?_
              refine (@if_neg _ (Classical.propDecidable _) (by rw [e13, cl_ix (show t13 < 2 ^ 31 by omega), cl_ix (show j < 2 ^ 31 by omega)]; omega) _ _ _).trans ?_
              obtain rfl : a = j := (by omega); rw [e13, cl_ix (show t13 < 2 ^ 31 by omega), cl_ix (show a < 2 ^ 31 by omega)]
            exact rfin eY hZ
          · skip
            refine v_aload_n K dX10_feed_47 rfl ?_
            refine v_getr (q := 119) K fX10_7 sh_118 pl_118 gl_118_0 dX10_feed_48 ?_
            refine v_sipushN K 284 rfl dX10_feed_51 ?_
            refine v_aload_n K dX10_feed_54 rfl ?_
            refine v_getr (q := 119) K fX10_7 sh_118 pl_118 gl_118_0 dX10_feed_55 ?_
            refine v_bipushN K 13 rfl dX10_feed_58 ?_
            refine v_iald (x := nI (t13 + a)) K sh_119 pl_119 (by omega) ((hZ.at RA_119).trans ((congrFun rw2_at _).trans fed_13)) dX10_feed_60 ?_
            refine v_iaddN K dX10_feed_61 ?_
            refine v_lload_n K dX10_feed_62 rfl ?_
            refine v_bipushN K 8 rfl dX10_feed_63 ?_
            refine v_iload K dX10_feed_65 rfl ?_
            refine v_imulN K dX10_feed_67 ?_
            refine v_lshr K dX10_feed_68 rfl ?_
            refine v_ldc2 K kX10_116 dX10_feed_69 ?_
            refine v_topL (y := (nI 255).toInt64) (by decide) ?_
            refine v_land K dX10_feed_72 ?_
            refine v_l2i K dX10_feed_73 rfl ?_
            refine v_top (y := bytV w a) rfl ?_
            refine v_iast K sh_119 pl_119 (by omega) dX10_feed_74 ?_
            have hRr2 : RR (u2 g1 119 (284 + (t13 + a)) (bytV w a)) (u2 (rw2 s 119 (fedR (s 119) t13 w a)) 119 (284 + (t13 + a)) (bytV w a)) := hZ.u RA_119
            refine v_aload_n K dX10_feed_75 rfl ?_
            refine v_getr (q := 119) K fX10_7 sh_118 pl_118 gl_118_0 dX10_feed_76 ?_
            refine v_bipushN K 13 rfl dX10_feed_79 ?_
            refine v_dup2 K dX10_feed_81 rfl rfl ?_
            refine v_iald (x := nI (t13 + a)) K sh_119 pl_119 (by omega) ((hRr2.at RA_119).trans ((u2_ne (by omega)).trans ((congrFun rw2_at _).trans fed_13))) dX10_feed_82 ?_
            refine v_iconstN K 1 rfl dX10_feed_83 ?_
            refine v_iaddN K dX10_feed_84 ?_
            refine v_iast K sh_119 pl_119 (by omega) dX10_feed_85 ?_
            have hRr3 : RR (u2 (u2 g1 119 (284 + (t13 + a)) (bytV w a)) 119 13 (nI (t13 + a + 1))) (u2 (u2 (rw2 s 119 (fedR (s 119) t13 w a)) 119 (284 + (t13 + a)) (bytV w a)) 119 13 (nI (t13 + a + 1))) := hRr2.u RA_119
            refine v_iincN (lv2 := [(4, .int (nI (a + 1))), (0, .ref 118), (1, .long w), (3, .int (nI j))]) K 1 dX10_feed_86 rfl rfl (by decide) rfl ?_
            refine v_goto (tgt := 41) K dX10_feed_89 rfl ?_
            refine v_sub (lv2 := [(0, .ref 118), (1, .long w), (3, .int (nI j)), (4, .int (nI (a + 1)))]) (by simp) ?_
            exact ih41 (a + 1) ((u2 (u2 g1 119 (284 + (t13 + a)) (bytV w a)) 119 13 (nI (t13 + a + 1)))) (by first | assumption | omega | rfl) (by have hx := hRr3; rw [show (u2 (u2 (rw2 s 119 (fedR (s 119) t13 w a)) 119 (284 + (t13 + a)) (bytV w a)) 119 13 (nI (t13 + a + 1))) = rw2 s 119 (fedR (s 119) t13 w (a + 1)) from by simp only [u2_rw, rw2_rw2, rw2_at, fed_s]] at hx; exact hx) (by omega)
      refine v_sub (lv2 := [(0, .ref 118), (1, .long w), (3, .int (nI j)), (4, .int (nI 0))]) (by simp) ?_
      exact L41 (j + 1 - 0 + 1) 0 h (by first | assumption | omega | rfl) (by rw [fed_0 e13, rw2_self]; exact hR) (Nat.lt_succ_self _)
    · skip
      refine v_aload_n K dX10_feed_32 rfl ?_
      refine v_iconstN K 4 rfl dX10_feed_33 ?_
      refine v_callV (As := [.int (nI 4)]) K (c_X10_finds h 4 (by omega)) lX10_113 ck_X10 rfl sh_118 pl_118 rfl ⟨by decide, by decide⟩ (Nat.le_of_ble_eq_true rfl) dX10_feed_34 (fun r4 h2 hp2 => ?_) rfl
      obtain ⟨rfl, rfl⟩ := hp2
      refine v_some ?_
      have hRf1 : RR (u2 h 122 4 (h 122 4 + nI 1)) (u2 s 122 4 (s 122 4 + nI 1)) := by rw [show (h 122 4) = s 122 4 from hR.at RA_122]; exact hR.u RA_122
      refine v_iret K dX10_feed_37 ?_
      have eY : Y_feed s w (nI j) = ((-1000000000) - nI 4, (u2 s 122 4 (s 122 4 + nI 1))) := by
        unfold Y_feed
        refine (@if_neg _ (Classical.propDecidable _) (fun q => q c0) _ _ _).trans ?_
        refine (@if_pos _ (Classical.propDecidable _) (by rw [e13, cl_ix (show t13 < 2 ^ 31 by omega), cl_ix (show j < 2 ^ 31 by omega)]; omega) _ _ _).trans ?_
        first | rfl | ((try rw [cl_ix (show j < 2 ^ 31 by omega)]))
      exact rfin eY hRf1
  · skip
    refine v_aload_n K dX10_feed_12 rfl ?_
    refine v_iconstN K 1 rfl dX10_feed_13 ?_
    refine v_callV (As := [.int (nI 1)]) K (c_X10_finds h 1 (by omega)) lX10_113 ck_X10 rfl sh_118 pl_118 rfl ⟨by decide, by decide⟩ (Nat.le_of_ble_eq_true rfl) dX10_feed_14 (fun r5 h3 hp3 => ?_) rfl
    obtain ⟨rfl, rfl⟩ := hp3
    refine v_some ?_
    have hRf2 : RR (u2 h 122 1 (h 122 1 + nI 1)) (u2 s 122 1 (s 122 1 + nI 1)) := by rw [show (h 122 1) = s 122 1 from hR.at RA_122]; exact hR.u RA_122
    refine v_iret K dX10_feed_17 ?_
    have eY : Y_feed s w n = ((-1000000000) - nI 1, (u2 s 122 1 (s 122 1 + nI 1))) := by
      unfold Y_feed
      refine (@if_pos _ (Classical.propDecidable _) (by assumption) _ _ _).trans ?_
      first | rfl | (rfl)
    exact rfin eY hRf2
