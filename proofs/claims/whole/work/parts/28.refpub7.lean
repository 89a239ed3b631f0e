theorem DOK.s10 {d : Dm} (H : DOK d) {m : Nat} (hm : m ≤ 8) : DOK (upd d 10 (nI m)) := by
  have e : nwD (upd d 10 (nI m)) = m := by unfold nwD; rw [upd_at, nI_clamp (by omega)]
  have e11 : ntD (upd d 10 (nI m)) = ntD d := by unfold ntD; rw [upd_ne (by omega)]
  refine ⟨⟨by rw [e, upd_at], by rw [e]; exact hm⟩, ⟨by rw [e11, upd_ne (by omega)]; exact H.nt, by rw [e11]; exact H.nt5⟩, ⟨?_, ?_, ?_, ?_⟩, fun w hw => ?_, fun t ht => ?_⟩
  · rw [upd_ne (by omega)]; exact H.2.2.1.1
  · rw [upd_ne (by omega)]; exact H.2.2.1.2.1
  · rw [upd_ne (by omega)]; exact H.2.2.1.2.2.1
  · rw [upd_ne (by omega)]; exact H.2.2.1.2.2.2
  · rw [upd_ne (by omega), upd_ne (by omega), upd_ne (by omega), upd_ne (by omega)]; exact H.2.2.2.1 w hw
  · rw [upd_ne (by omega), upd_ne (by omega), upd_ne (by omega)]; exact H.2.2.2.2 t ht
theorem DOK.s11 {d : Dm} (H : DOK d) {m : Nat} (hm : m ≤ 5) : DOK (upd d 11 (nI m)) := by
  have e : ntD (upd d 11 (nI m)) = m := by unfold ntD; rw [upd_at, nI_clamp (by omega)]
  have e11 : nwD (upd d 11 (nI m)) = nwD d := by unfold nwD; rw [upd_ne (by omega)]
  refine ⟨⟨by rw [e11, upd_ne (by omega)]; exact H.nw, by rw [e11]; exact H.nw8⟩, ⟨by rw [e, upd_at], by rw [e]; exact hm⟩, ⟨?_, ?_, ?_, ?_⟩, fun w hw => ?_, fun t ht => ?_⟩
  · rw [upd_ne (by omega)]; exact H.2.2.1.1
  · rw [upd_ne (by omega)]; exact H.2.2.1.2.1
  · rw [upd_ne (by omega)]; exact H.2.2.1.2.2.1
  · rw [upd_ne (by omega)]; exact H.2.2.1.2.2.2
  · rw [upd_ne (by omega), upd_ne (by omega), upd_ne (by omega), upd_ne (by omega)]; exact H.2.2.2.1 w hw
  · rw [upd_ne (by omega), upd_ne (by omega), upd_ne (by omega)]; exact H.2.2.2.2 t ht
theorem sm_ix {m : Int32} (h : nI 0 ≤ m ∧ m ≤ nI 9999) : ix (m / nI 100) 100 := by
  rw [in_ix (by decide)] at h
  obtain ⟨j, hj, rfl⟩ := h
  refine ⟨j / 100, by omega, ?_⟩
  rw [i32_eq, Int32.toInt_div_of_ne_right _ _ (by decide), nI_toInt (by omega), nI_toInt (by omega), nI_toInt (by omega)]
  show (j : Int).tdiv 100 = _
  rw [Int.tdiv_eq_ediv_of_nonneg (by omega)]; rfl
theorem DOK.addw {d : Dm} (H : DOK d) {k m c : Int32} (hn8 : nwD d < 8) (hw : isWayP k m c) : DOK (addWD d k m c) := by
  unfold addWD
  have hk : ix k 7 := by rw [← in_ix (by decide)]; exact hw.1
  have hm : ix (m / nI 100) 100 := sm_ix hw.2.1
  generalize nwD d = n at *
  exact DOK.s10 ((((((H.set (i := 46 + 6 * n + 0) (by omega) (by omega) (fun q => by omega) (fun q => by omega) (fun w2 h2 => ⟨fun _ => hk, fun q => by omega, fun q => by omega, fun q => by omega⟩) (fun t ht => ⟨fun q => by omega, fun q => by omega, fun q => by omega⟩)).set (i := 46 + 6 * n + 1) (by omega) (by omega) (fun q => by omega) (fun q => by omega) (fun w2 h2 => ⟨fun q => by omega, fun _ => hm, fun q => by omega, fun q => by omega⟩) (fun t ht => ⟨fun q => by omega, fun q => by omega, fun q => by omega⟩)).set (i := 46 + 6 * n + 2) (by omega) (by omega) (fun q => by omega) (fun q => by omega) (fun w2 h2 => ⟨fun q => by omega, fun q => by omega, fun q => by omega, fun q => by omega⟩) (fun t ht => ⟨fun q => by omega, fun q => by omega, fun q => by omega⟩)).set (i := 46 + 6 * n + 3) (by omega) (by omega) (fun q => by omega) (fun q => by omega) (fun w2 h2 => ⟨fun q => by omega, fun q => by omega, fun q => by omega, fun q => by omega⟩) (fun t ht => ⟨fun q => by omega, fun q => by omega, fun q => by omega⟩)).set (i := 46 + 6 * n + 4) (by omega) (by omega) (fun q => by omega) (fun q => by omega) (fun w2 h2 => ⟨fun q => by omega, fun q => by omega, fun _ => ⟨0, by omega, rfl⟩, fun q => by omega⟩) (fun t ht => ⟨fun q => by omega, fun q => by omega, fun q => by omega⟩)).set (i := 46 + 6 * n + 5) (by omega) (by omega) (fun q => by omega) (fun q => by omega) (fun w2 h2 => ⟨fun q => by omega, fun q => by omega, fun q => by omega, fun _ => ⟨0, by omega, rfl⟩⟩) (fun t ht => ⟨fun q => by omega, fun q => by omega, fun q => by omega⟩)) (by omega)
/-- the WAYS that a SHEET brings: how many, and the numbers then -/
noncomputable def wysF (f : Nat → Int32) (sz : Nat) : Nat → Nat → Dm → Nat × Dm
  | 0, a, d => (a, d)
  | m + 1, a, d => @ite _ (3 * a + 3 ≤ sz ∧ nwD d < 8 ∧ isWayP (f (3 * a)) (f (3 * a + 1)) (f (3 * a + 2))) (Classical.propDecidable _) (wysF f sz m (a + 1) (addWD d (f (3 * a)) (f (3 * a + 1)) (f (3 * a + 2)))) (a, d)
theorem wys_y {f : Nat → Int32} {sz m a : Nat} {d : Dm} (h1 : 3 * a + 3 ≤ sz) (h2 : nwD d < 8) (h3 : isWayP (f (3 * a)) (f (3 * a + 1)) (f (3 * a + 2))) : wysF f sz (m + 1) a d = wysF f sz m (a + 1) (addWD d (f (3 * a)) (f (3 * a + 1)) (f (3 * a + 2))) := @if_pos _ (Classical.propDecidable _) ⟨h1, h2, h3⟩ _ _ _
theorem wys_n {f : Nat → Int32} {sz m a : Nat} {d : Dm} (h : ¬ (3 * a + 3 ≤ sz ∧ nwD d < 8 ∧ isWayP (f (3 * a)) (f (3 * a + 1)) (f (3 * a + 2)))) : wysF f sz (m + 1) a d = (a, d) := @if_neg _ (Classical.propDecidable _) h _ _ _
def movR (f : Nat → Int32) (a b n : Nat) : Nat → Int32 := fun k => if b ≤ k ∧ k < b + n then f (a + (k - b)) else f k
theorem mov_0 {f : Nat → Int32} {a b : Nat} : movR f a b 0 = f := by funext k; unfold movR; rw [if_neg (by omega)]
theorem mov_s {f : Nat → Int32} {a b n : Nat} : upd (movR f a b n) (b + n) (f (a + n)) = movR f a b (n + 1) := by
  funext k
  by_cases e : k = b + n
  · subst e; unfold movR; rw [upd_at, if_pos (by omega)]; congr 1; omega
  · rw [upd_ne e]
    unfold movR
    by_cases c : b ≤ k ∧ k < b + n
    · rw [if_pos c, if_pos (by omega)]
    · rw [if_neg c, if_neg (show ¬ (b ≤ k ∧ k < b + (n + 1)) by omega)]

noncomputable def Y_ways (s : Mm) (w : Int32) : Rs := @ite _ (¬ (ix w 4)) (Classical.propDecidable _) (er s 1) ( @ite _ (s 128 w.toNatClampNeg = nI 0) (Classical.propDecidable _) (er s 2) ( (nI (wysF (fun k => s 130 (40 * w.toNatClampNeg + k)) (s 129 w.toNatClampNeg).toNatClampNeg 14 0 (s 119)).1, rw2 s 119 (wysF (fun k => s 130 (40 * w.toNatClampNeg + k)) (s 129 w.toNatClampNeg).toNatClampNeg 14 0 (s 119)).2)))

noncomputable def Y_move (s : Mm) (w i o j n : Int32) : Rs := @ite _ (¬ (ix w 4 ∧ ix o 4)) (Classical.propDecidable _) (er s 1) ( @ite _ (s 128 w.toNatClampNeg = nI 0 ∨ s 128 o.toNatClampNeg = nI 0) (Classical.propDecidable _) (er s 2) ( @ite _ (¬ s 128 w.toNatClampNeg = s 128 o.toNatClampNeg) (Classical.propDecidable _) (er s 5) ( @ite _ (¬ (nI 0 ≤ n ∧ nI 0 ≤ i ∧ nI 0 ≤ j ∧ n ≤ s 129 w.toNatClampNeg - i ∧ n ≤ s 129 o.toNatClampNeg - j)) (Classical.propDecidable _) (er s 1) ( (n, rw2 s 130 (movR (s 130) (40 * w.toNatClampNeg + i.toNatClampNeg) (40 * o.toNatClampNeg + j.toNatClampNeg) n.toNatClampNeg))))))

abbrev P_X10_ways (h s : Mm) (τ τk : Nat → List Int32) (w : Int32) : Option Value → Mm → Prop := fun r h2 => r = some (.int (Y_ways s w).1) ∧ RR h2 (Y_ways s w).2
theorem c_X10_ways {l : Launch} (h s : Mm) (τ τk : Nat → List Int32) (w : Int32) (hR : RR h s) (hI : INV s τ τk) : Con l yX10_ways cX10_ways 5 (some .int) 2 47 132 GL h [.ref 118, .int w] (P_X10_ways h s τ τk w) := by
  refine Con.ofV (own := "FoxRoundsModel") (nm := "ways") rfl rfl (by decide) (Nat.le_of_ble_eq_true rfl) ?_
  intro κ ρ hkl K
  subst hkl
  show V κ (QM κ (132, ρ, GL, 0, 0) (P_X10_ways h s τ τk w)) 5 (132, ρ, GL, 0, 0) h 0 [(0, .ref 118), (1, .int w)] []
  have hd := hI.d
  have hn8 := hd.nw8
  have ht5 := hd.nt5
  refine v_iload_n K dX10_ways_0 rfl ?_
  refine v_callS (As := [.int w]) K (c_X10_isSheet h w) lX10_186 rfl ⟨by decide, by decide⟩ (Nat.le_of_ble_eq_true rfl) dX10_ways_1 (fun r1 h1 hp1 => ?_) rfl
  obtain ⟨rfl, rfl⟩ := hp1
  refine v_some ?_
  refine v_ifB_ne (tgt := 13) K dX10_ways_4 rfl (fun c1 => ?_) (fun c1 => ?_)
  · skip
    obtain ⟨j1, Hj1, rfl⟩ := c1
    refine v_aload_n K dX10_ways_13 rfl ?_
    refine v_getr (q := 128) K fX10_38 sh_118 pl_118 gl_118_18 dX10_ways_14 ?_
    refine v_iload_n K dX10_ways_17 rfl ?_
    refine v_iald (x := s 128 j1) K sh_128 pl_128 (by omega) (hR.at RA_128) dX10_ways_18 ?_
    refine v_if_ne (tgt := 28) K dX10_ways_19 rfl (fun c2 => ?_) (fun c2 => ?_)
    · skip
      have hb0 : ¬ s 128 j1 = nI 0 := c2
      obtain ⟨-, sz, hsz, esz, -⟩ := hI.2.2.1 j1 (by omega)
      refine v_iconstN K 0 rfl dX10_ways_28 ?_
      refine v_istore_n (lv2 := [(2, .int (nI 0)), (0, .ref 118), (1, .int (nI j1))]) K dX10_ways_29 (by decide) rfl ?_
      refine v_bipushN K 40 rfl dX10_ways_30 ?_
      refine v_iload_n K dX10_ways_32 rfl ?_
      refine v_imulN K dX10_ways_33 ?_
      refine v_istore_n (lv2 := [(3, .int (nI (40 * j1))), (2, .int (nI 0)), (0, .ref 118), (1, .int (nI j1))]) K dX10_ways_34 (by decide) rfl ?_
      have L35 : ∀ (mm : Nat) (a : Nat) (dd : Dm) (g1 : Mm) (ha : 3 * a ≤ sz) (hdd : DOK dd) (hZ : RR g1 (rw2 s 119 dd)) (hl : wysF (fun k => s 130 (40 * j1 + k)) sz 14 0 (s 119) = wysF (fun k => s 130 (40 * j1 + k)) sz (14 - a) a dd), 14 - a < mm → V κ (QM κ (132, ρ, GL, 0, 0) (P_X10_ways h s τ τk (nI j1))) 5 (132, ρ, GL, 0, 0) g1 35 [(0, .ref 118), (1, .int (nI j1)), (2, .int (nI a)), (3, .int (nI (40 * j1 + 3 * a)))] [] := by
        intro mm
        induction mm with
        | zero => intro a dd g1 ha hdd hZ hl hmm; exact absurd hmm (Nat.not_lt_zero _)
        | succ mm ih35 =>
          intro a dd g1 ha hdd hZ hl hmm
          have hdn := hdd.nw8
          refine v_iconstN K 3 rfl dX10_ways_35 ?_
          refine v_iload_n K dX10_ways_36 rfl ?_
          refine v_imulN K dX10_ways_37 ?_
          refine v_iconstN K 3 rfl dX10_ways_38 ?_
          refine v_iaddN K dX10_ways_39 ?_
          refine v_aload_n K dX10_ways_40 rfl ?_
          refine v_getr (q := 129) K fX10_41 sh_118 pl_118 gl_118_19 dX10_ways_41 ?_
          refine v_iload_n K dX10_ways_44 rfl ?_
          refine v_iald (x := nI sz) K sh_129 pl_129 (by omega) ((hZ.at RA_129).trans ((congrFun (rw2_off (by omega)) _).trans esz)) dX10_ways_45 ?_
          refine v_icmpN_gt (tgt := 126) K (by omega) (by omega) dX10_ways_46 rfl (fun c3 => ?_) (fun c3 => ?_)
          · skip
            refine v_iload_n K dX10_ways_126 rfl ?_
            refine v_iret K dX10_ways_127 ?_
            have eY : Y_ways s (nI j1) = (nI a, (rw2 s 119 dd)) := by
              unfold Y_ways
              refine (@if_neg _ (Classical.propDecidable _) (fun q => q (by first | assumption | exact ⟨_, by assumption, rfl⟩ | exact Or.inl rfl | exact Or.inr (Or.inl rfl) | exact Or.inr (Or.inr rfl) | omega)) _ _ _).trans ?_
              refine (@if_neg _ (Classical.propDecidable _) (by rw [cl_ix (show j1 < 2 ^ 31 by omega)]; exact hb0) _ _ _).trans ?_
              rw [cl_ix (show j1 < 2 ^ 31 by omega), esz, cl_ix (show sz < 2 ^ 31 by omega), hl, show 14 - a = (14 - a - 1) + 1 by omega, wys_n (fun q => absurd q.1 (by omega))]
            exact rfin eY hZ
          · skip
            refine v_aload_n K dX10_ways_49 rfl ?_
            refine v_getr (q := 119) K fX10_7 sh_118 pl_118 gl_118_0 dX10_ways_50 ?_
            refine v_bipushN K 10 rfl dX10_ways_53 ?_
            refine v_iald (x := nI (nwD dd)) K sh_119 pl_119 (by omega) ((hZ.at RA_119).trans ((congrFun rw2_at _).trans hdd.nw)) dX10_ways_55 ?_
            refine v_bipushN K 8 rfl dX10_ways_56 ?_
            refine v_icmpN_ge (tgt := 126) K (by omega) (by omega) dX10_ways_58 rfl (fun c4 => ?_) (fun c4 => ?_)
            · skip
              refine v_iload_n K dX10_ways_126 rfl ?_
              refine v_iret K dX10_ways_127 ?_
              have eY : Y_ways s (nI j1) = (nI a, (rw2 s 119 dd)) := by
                unfold Y_ways
                refine (@if_neg _ (Classical.propDecidable _) (fun q => q (by first | assumption | exact ⟨_, by assumption, rfl⟩ | exact Or.inl rfl | exact Or.inr (Or.inl rfl) | exact Or.inr (Or.inr rfl) | omega)) _ _ _).trans ?_
                refine (@if_neg _ (Classical.propDecidable _) (by rw [cl_ix (show j1 < 2 ^ 31 by omega)]; exact hb0) _ _ _).trans ?_
                rw [cl_ix (show j1 < 2 ^ 31 by omega), esz, cl_ix (show sz < 2 ^ 31 by omega), hl, show 14 - a = (14 - a - 1) + 1 by omega, wys_n (fun q => absurd q.2.1 (by omega))]
              exact rfin eY hZ
            · skip
              refine v_aload_n K dX10_ways_61 rfl ?_
              refine v_getr (q := 130) K fX10_44 sh_118 pl_118 gl_118_20 dX10_ways_62 ?_
              refine v_iload_n K dX10_ways_65 rfl ?_
              refine v_iald (x := s 130 (40 * j1 + 3 * a)) K sh_130 pl_130 (by omega) ((hZ.at RA_130).trans (congrFun (rw2_off (by omega)) _)) dX10_ways_66 ?_
              refine v_aload_n K dX10_ways_67 rfl ?_
              refine v_getr (q := 130) K fX10_44 sh_118 pl_118 gl_118_20 dX10_ways_68 ?_
              refine v_iload_n K dX10_ways_71 rfl ?_
              refine v_iconstN K 1 rfl dX10_ways_72 ?_
              refine v_iaddN K dX10_ways_73 ?_
              refine v_iald (x := s 130 (40 * j1 + 3 * a + 1)) K sh_130 pl_130 (by omega) ((hZ.at RA_130).trans (congrFun (rw2_off (by omega)) _)) dX10_ways_74 ?_
              refine v_aload_n K dX10_ways_75 rfl ?_
              refine v_getr (q := 130) K fX10_44 sh_118 pl_118 gl_118_20 dX10_ways_76 ?_
              refine v_iload_n K dX10_ways_79 rfl ?_
              refine v_iconstN K 2 rfl dX10_ways_80 ?_
              refine v_iaddN K dX10_ways_81 ?_
              refine v_iald (x := s 130 (40 * j1 + 3 * a + 2)) K sh_130 pl_130 (by omega) ((hZ.at RA_130).trans (congrFun (rw2_off (by omega)) _)) dX10_ways_82 ?_
              refine v_callS (As := [.int (s 130 (40 * j1 + 3 * a)), .int (s 130 (40 * j1 + 3 * a + 1)), .int (s 130 (40 * j1 + 3 * a + 2))]) K (c_X10_isRight g1 (s 130 (40 * j1 + 3 * a)) (s 130 (40 * j1 + 3 * a + 1)) (s 130 (40 * j1 + 3 * a + 2))) lX10_163 rfl ⟨by decide, by decide⟩ (Nat.le_of_ble_eq_true rfl) dX10_ways_83 (fun r2 h2 hp2 => ?_) rfl
              obtain ⟨rfl, rfl⟩ := hp2
              refine v_some ?_
              refine v_ifB_eq (tgt := 126) K dX10_ways_86 rfl (fun c5 => ?_) (fun c5 => ?_)
              · skip
                refine v_iload_n K dX10_ways_126 rfl ?_
                refine v_iret K dX10_ways_127 ?_
                have eY : Y_ways s (nI j1) = (nI a, (rw2 s 119 dd)) := by
                  unfold Y_ways
                  refine (@if_neg _ (Classical.propDecidable _) (fun q => q (by first | assumption | exact ⟨_, by assumption, rfl⟩ | exact Or.inl rfl | exact Or.inr (Or.inl rfl) | exact Or.inr (Or.inr rfl) | omega)) _ _ _).trans ?_
                  refine (@if_neg _ (Classical.propDecidable _) (by rw [cl_ix (show j1 < 2 ^ 31 by omega)]; exact hb0) _ _ _).trans ?_
                  rw [cl_ix (show j1 < 2 ^ 31 by omega), esz, cl_ix (show sz < 2 ^ 31 by omega), hl, show 14 - a = (14 - a - 1) + 1 by omega, wys_n (fun q => absurd q.2.2 c5)]
                exact rfin eY hZ
              · skip
                refine v_aload_n K dX10_ways_89 rfl ?_
                refine v_aload_n K dX10_ways_90 rfl ?_
                refine v_getr (q := 130) K fX10_44 sh_118 pl_118 gl_118_20 dX10_ways_91 ?_
                refine v_iload_n K dX10_ways_94 rfl ?_
                refine v_iald (x := s 130 (40 * j1 + 3 * a)) K sh_130 pl_130 (by omega) ((hZ.at RA_130).trans (congrFun (rw2_off (by omega)) _)) dX10_ways_95 ?_
                refine v_aload_n K dX10_ways_96 rfl ?_
                refine v_getr (q := 130) K fX10_44 sh_118 pl_118 gl_118_20 dX10_ways_97 ?_
                refine v_iload_n K dX10_ways_100 rfl ?_
                refine v_iconstN K 1 rfl dX10_ways_101 ?_
                refine v_iaddN K dX10_ways_102 ?_
                refine v_iald (x := s 130 (40 * j1 + 3 * a + 1)) K sh_130 pl_130 (by omega) ((hZ.at RA_130).trans (congrFun (rw2_off (by omega)) _)) dX10_ways_103 ?_
                refine v_aload_n K dX10_ways_104 rfl ?_
                refine v_getr (q := 130) K fX10_44 sh_118 pl_118 gl_118_20 dX10_ways_105 ?_
                refine v_iload_n K dX10_ways_108 rfl ?_
                refine v_iconstN K 2 rfl dX10_ways_109 ?_
                refine v_iaddN K dX10_ways_110 ?_
                refine v_iald (x := s 130 (40 * j1 + 3 * a + 2)) K sh_130 pl_130 (by omega) ((hZ.at RA_130).trans (congrFun (rw2_off (by omega)) _)) dX10_ways_111 ?_
                refine v_callV (As := [.int (s 130 (40 * j1 + 3 * a)), .int (s 130 (40 * j1 + 3 * a + 1)), .int (s 130 (40 * j1 + 3 * a + 2))]) K (c_X10_comes g1 (rw2 s 119 dd) (s 130 (40 * j1 + 3 * a)) (s 130 (40 * j1 + 3 * a + 1)) (s 130 (40 * j1 + 3 * a + 2)) hZ (by rw [rw2_at]; exact hdd) (by rw [rw2_at]; omega)) lX10_167 ck_X10 rfl sh_118 pl_118 rfl ⟨by decide, by decide⟩ (Nat.le_of_ble_eq_true rfl) dX10_ways_112 (fun r3 h3 hp3 => ?_) rfl
                obtain ⟨rfl, hRq1⟩ := hp3
                have hRq1 : RR h3 (rw2 s 119 (addWD dd (s 130 (40 * j1 + 3 * a)) (s 130 (40 * j1 + 3 * a + 1)) (s 130 (40 * j1 + 3 * a + 2)))) := by have hx := hRq1; rw [rw2_at, rw2_rw2] at hx; exact hx
                refine v_some ?_
                refine v_istore (lv2 := [(4, .int (nI (nwD ((rw2 s 119 dd) 119)))), (0, .ref 118), (1, .int (nI j1)), (2, .int (nI a)), (3, .int (nI (40 * j1 + 3 * a)))]) K dX10_ways_115 (by decide) rfl ?_
                refine v_iincN (lv2 := [(2, .int (nI (a + 1))), (4, .int (nI (nwD ((rw2 s 119 dd) 119)))), (0, .ref 118), (1, .int (nI j1)), (3, .int (nI (40 * j1 + 3 * a)))]) K 1 dX10_ways_117 rfl rfl (by decide) rfl ?_
                refine v_iincN (lv2 := [(3, .int (nI (40 * j1 + 3 * a + 3))), (2, .int (nI (a + 1))), (4, .int (nI (nwD ((rw2 s 119 dd) 119)))), (0, .ref 118), (1, .int (nI j1))]) K 3 dX10_ways_120 rfl rfl (by decide) rfl ?_
                rw [show 40 * j1 + 3 * a + 3 = 40 * j1 + 3 * (a + 1) by omega]
                refine v_goto (tgt := 35) K dX10_ways_123 rfl ?_
                refine v_sub (lv2 := [(0, .ref 118), (1, .int (nI j1)), (2, .int (nI (a + 1))), (3, .int (nI (40 * j1 + 3 * (a + 1))))]) (by simp) ?_
                exact ih35 (a + 1) ((addWD dd (s 130 (40 * j1 + 3 * a)) (s 130 (40 * j1 + 3 * a + 1)) (s 130 (40 * j1 + 3 * a + 2)))) h3 (by omega) (by exact hdd.addw (by omega) (by assumption)) (by exact hRq1) (by rw [hl, show 14 - a = (14 - (a + 1)) + 1 by omega]; exact wys_y (by omega) (by omega) (by assumption)) (by omega)
      refine v_sub (lv2 := [(0, .ref 118), (1, .int (nI j1)), (2, .int (nI 0)), (3, .int (nI (40 * j1)))]) (by simp) ?_
      exact L35 (14 - 0 + 1) 0 ((s 119)) h (by omega) (by exact hd) (by rw [rw2_self]; exact hR) (by rfl) (Nat.lt_succ_self _)
    · skip
      refine v_aload_n K dX10_ways_22 rfl ?_
      refine v_iconstN K 2 rfl dX10_ways_23 ?_
      refine v_callV (As := [.int (nI 2)]) K (c_X10_finds h 2 (by omega)) lX10_113 ck_X10 rfl sh_118 pl_118 rfl ⟨by decide, by decide⟩ (Nat.le_of_ble_eq_true rfl) dX10_ways_24 (fun r4 h4 hp4 => ?_) rfl
      obtain ⟨rfl, rfl⟩ := hp4
      refine v_some ?_
      have hRf1 : RR (u2 h 122 2 (h 122 2 + nI 1)) (u2 s 122 2 (s 122 2 + nI 1)) := by rw [show (h 122 2) = s 122 2 from hR.at RA_122]; exact hR.u RA_122
      refine v_iret K dX10_ways_27 ?_
      have eY : Y_ways s (nI j1) = ((-1000000000) - nI 2, (u2 s 122 2 (s 122 2 + nI 1))) := by
        unfold Y_ways
        refine (@if_neg _ (Classical.propDecidable _) (fun q => q (by first | assumption | exact ⟨_, by assumption, rfl⟩ | exact Or.inl rfl | exact Or.inr (Or.inl rfl) | exact Or.inr (Or.inr rfl) | omega)) _ _ _).trans ?_
        refine (@if_pos _ (Classical.propDecidable _) (by rw [cl_ix (show j1 < 2 ^ 31 by omega)]; exact c2) _ _ _).trans ?_
        first | rfl | ((try rw [cl_ix (show j1 < 2 ^ 31 by omega)]))
      exact rfin eY hRf1
  · skip
    refine v_aload_n K dX10_ways_7 rfl ?_
    refine v_iconstN K 1 rfl dX10_ways_8 ?_
    refine v_callV (As := [.int (nI 1)]) K (c_X10_finds h 1 (by omega)) lX10_113 ck_X10 rfl sh_118 pl_118 rfl ⟨by decide, by decide⟩ (Nat.le_of_ble_eq_true rfl) dX10_ways_9 (fun r5 h5 hp5 => ?_) rfl
    obtain ⟨rfl, rfl⟩ := hp5
    refine v_some ?_
    have hRf2 : RR (u2 h 122 1 (h 122 1 + nI 1)) (u2 s 122 1 (s 122 1 + nI 1)) := by rw [show (h 122 1) = s 122 1 from hR.at RA_122]; exact hR.u RA_122
    refine v_iret K dX10_ways_12 ?_
    have eY : Y_ways s w = ((-1000000000) - nI 1, (u2 s 122 1 (s 122 1 + nI 1))) := by
      unfold Y_ways
      refine (@if_pos _ (Classical.propDecidable _) (fun q => absurd q (by assumption)) _ _ _).trans ?_
      first | rfl | (rfl)
    exact rfin eY hRf2

theorem mv_ix {n i : Int32} {sz : Nat} (hsz : sz ≤ 40) (h1 : ¬ n < 0) (h2 : ¬ i < 0) (h3 : ¬ nI sz - i < n) : ∃ a b, n = nI a ∧ i = nI b ∧ a + b ≤ sz := by
  rw [i32_lt, Int32.toInt_zero] at h1 h2
  have e2 : i.toInt ≤ 2147483647 := by have := Int32.toInt_lt i; omega
  have e : (nI sz - i).toInt = (sz : Int) - i.toInt := by
    rw [Int32.toInt_sub, nI_toInt (by omega)]
    exact Int.bmod_eq_of_le (by omega) (by omega)
  rw [i32_lt, e] at h3
  refine ⟨n.toInt.toNat, i.toInt.toNat, i32_eq.mpr ?_, i32_eq.mpr ?_, by omega⟩ <;> rw [nI_toInt (by omega)] <;> omega

abbrev P_X10_move (h s : Mm) (τ τk : Nat → List Int32) (w i o j n : Int32) : Option Value → Mm → Prop := fun r h2 => r = some (.int (Y_move s w i o j n).1) ∧ RR h2 (Y_move s w i o j n).2
theorem c_X10_move {l : Launch} (h s : Mm) (τ τk : Nat → List Int32) (w i o j n : Int32) (hR : RR h s) (hI : INV s τ τk) : Con l yX10_move cX10_move 7 (some .int) 2 45 132 GL h [.ref 118, .int w, .int i, .int o, .int j, .int n] (P_X10_move h s τ τk w i o j n) := by
  refine Con.ofV (own := "FoxRoundsModel") (nm := "move") rfl rfl (by decide) (Nat.le_of_ble_eq_true rfl) ?_
  intro κ ρ hkl K
  subst hkl
  show V κ (QM κ (132, ρ, GL, 0, 0) (P_X10_move h s τ τk w i o j n)) 7 (132, ρ, GL, 0, 0) h 0 [(0, .ref 118), (1, .int w), (2, .int i), (3, .int o), (4, .int j), (5, .int n)] []
  have hd := hI.d
  have hn8 := hd.nw8
  have ht5 := hd.nt5
  refine v_iload_n K dX10_move_0 rfl ?_
  refine v_callS (As := [.int w]) K (c_X10_isSheet h w) lX10_186 rfl ⟨by decide, by decide⟩ (Nat.le_of_ble_eq_true rfl) dX10_move_1 (fun r1 h1 hp1 => ?_) rfl
  obtain ⟨rfl, rfl⟩ := hp1
  refine v_some ?_
  refine v_ifB_eq (tgt := 14) K dX10_move_4 rfl (fun c1 => ?_) (fun c1 => ?_)
  · skip
    refine v_aload_n K dX10_move_14 rfl ?_
    refine v_iconstN K 1 rfl dX10_move_15 ?_
    refine v_callV (As := [.int (nI 1)]) K (c_X10_finds h 1 (by omega)) lX10_113 ck_X10 rfl sh_118 pl_118 rfl ⟨by decide, by decide⟩ (Nat.le_of_ble_eq_true rfl) dX10_move_16 (fun r2 h2 hp2 => ?_) rfl
    obtain ⟨rfl, rfl⟩ := hp2
    refine v_some ?_
    have hRf1 : RR (u2 h 122 1 (h 122 1 + nI 1)) (u2 s 122 1 (s 122 1 + nI 1)) := by rw [show (h 122 1) = s 122 1 from hR.at RA_122]; exact hR.u RA_122
    refine v_iret K dX10_move_19 ?_
    have eY : Y_move s w i o j n = ((-1000000000) - nI 1, (u2 s 122 1 (s 122 1 + nI 1))) := by
      unfold Y_move
      refine (@if_pos _ (Classical.propDecidable _) (fun q => by first | exact absurd q.1 (by assumption) | exact absurd q.2 (by assumption)) _ _ _).trans ?_
      first | rfl | (rfl)
    exact rfin eY hRf1
  · skip
    obtain ⟨j1, Hj1, rfl⟩ := c1
    refine v_iload_n K dX10_move_7 rfl ?_
    refine v_callS (As := [.int o]) K (c_X10_isSheet h o) lX10_186 rfl ⟨by decide, by decide⟩ (Nat.le_of_ble_eq_true rfl) dX10_move_8 (fun r3 h3 hp3 => ?_) rfl
    obtain ⟨rfl, rfl⟩ := hp3
    refine v_some ?_
    refine v_ifB_ne (tgt := 20) K dX10_move_11 rfl (fun c2 => ?_) (fun c2 => ?_)
    · skip
      obtain ⟨j2, Hj2, rfl⟩ := c2
      refine v_aload_n K dX10_move_20 rfl ?_
      refine v_getr (q := 128) K fX10_38 sh_118 pl_118 gl_118_18 dX10_move_21 ?_
      refine v_iload_n K dX10_move_24 rfl ?_
      refine v_iald (x := s 128 j1) K sh_128 pl_128 (by omega) (hR.at RA_128) dX10_move_25 ?_
      refine v_if_eq (tgt := 38) K dX10_move_26 rfl (fun c3 => ?_) (fun c3 => ?_)
      · skip
        refine v_aload_n K dX10_move_38 rfl ?_
        refine v_iconstN K 2 rfl dX10_move_39 ?_
        refine v_callV (As := [.int (nI 2)]) K (c_X10_finds h 2 (by omega)) lX10_113 ck_X10 rfl sh_118 pl_118 rfl ⟨by decide, by decide⟩ (Nat.le_of_ble_eq_true rfl) dX10_move_40 (fun r4 h4 hp4 => ?_) rfl
        obtain ⟨rfl, rfl⟩ := hp4
        refine v_some ?_
        have hRf2 : RR (u2 h 122 2 (h 122 2 + nI 1)) (u2 s 122 2 (s 122 2 + nI 1)) := by rw [show (h 122 2) = s 122 2 from hR.at RA_122]; exact hR.u RA_122
        refine v_iret K dX10_move_43 ?_
        have eY : Y_move s (nI j1) i (nI j2) j n = ((-1000000000) - nI 2, (u2 s 122 2 (s 122 2 + nI 1))) := by
          unfold Y_move
          refine (@if_neg _ (Classical.propDecidable _) (fun q => q ⟨⟨_, by assumption, rfl⟩, ⟨_, by assumption, rfl⟩⟩) _ _ _).trans ?_
          refine (@if_pos _ (Classical.propDecidable _) (by rw [cl_ix (show j1 < 2 ^ 31 by omega), cl_ix (show j2 < 2 ^ 31 by omega)]; exact Or.inl c3) _ _ _).trans ?_
          first | rfl | ((try rw [cl_ix (show j1 < 2 ^ 31 by omega)]) ; (try rw [cl_ix (show j2 < 2 ^ 31 by omega)]))
        exact rfin eY hRf2
      · skip
        refine v_aload_n K dX10_move_29 rfl ?_
        refine v_getr (q := 128) K fX10_38 sh_118 pl_118 gl_118_18 dX10_move_30 ?_
        refine v_iload_n K dX10_move_33 rfl ?_
        refine v_iald (x := s 128 j2) K sh_128 pl_128 (by omega) (hR.at RA_128) dX10_move_34 ?_
        refine v_if_ne (tgt := 44) K dX10_move_35 rfl (fun c4 => ?_) (fun c4 => ?_)
        · skip
          refine v_aload_n K dX10_move_44 rfl ?_
          refine v_getr (q := 128) K fX10_38 sh_118 pl_118 gl_118_18 dX10_move_45 ?_
          refine v_iload_n K dX10_move_48 rfl ?_
          refine v_iald (x := s 128 j1) K sh_128 pl_128 (by omega) (hR.at RA_128) dX10_move_49 ?_
          refine v_aload_n K dX10_move_50 rfl ?_
          refine v_getr (q := 128) K fX10_38 sh_118 pl_118 gl_118_18 dX10_move_51 ?_
          refine v_iload_n K dX10_move_54 rfl ?_
          refine v_iald (x := s 128 j2) K sh_128 pl_128 (by omega) (hR.at RA_128) dX10_move_55 ?_
          refine v_icmp_eq (tgt := 65) K dX10_move_56 rfl (fun c5 => ?_) (fun c5 => ?_)
          · skip
            refine v_iload K dX10_move_65 rfl ?_
            refine v_if_lt (tgt := 106) K dX10_move_67 rfl (fun c6 => ?_) (fun c6 => ?_)
            · skip
              refine v_aload_n K dX10_move_106 rfl ?_
              refine v_iconstN K 1 rfl dX10_move_107 ?_
              refine v_callV (As := [.int (nI 1)]) K (c_X10_finds h 1 (by omega)) lX10_113 ck_X10 rfl sh_118 pl_118 rfl ⟨by decide, by decide⟩ (Nat.le_of_ble_eq_true rfl) dX10_move_108 (fun r5 h5 hp5 => ?_) rfl
              obtain ⟨rfl, rfl⟩ := hp5
              refine v_some ?_
              have hRf3 : RR (u2 h 122 1 (h 122 1 + nI 1)) (u2 s 122 1 (s 122 1 + nI 1)) := by rw [show (h 122 1) = s 122 1 from hR.at RA_122]; exact hR.u RA_122
              refine v_iret K dX10_move_111 ?_
              have eY : Y_move s (nI j1) i (nI j2) j n = ((-1000000000) - nI 1, (u2 s 122 1 (s 122 1 + nI 1))) := by
                unfold Y_move
                refine (@if_neg _ (Classical.propDecidable _) (fun q => q ⟨⟨_, by assumption, rfl⟩, ⟨_, by assumption, rfl⟩⟩) _ _ _).trans ?_
                refine (@if_neg _ (Classical.propDecidable _) (by rw [cl_ix (show j1 < 2 ^ 31 by omega), cl_ix (show j2 < 2 ^ 31 by omega)]; exact fun q => q.elim c3 c4) _ _ _).trans ?_
                refine (@if_neg _ (Classical.propDecidable _) (by rw [cl_ix (show j1 < 2 ^ 31 by omega), cl_ix (show j2 < 2 ^ 31 by omega)]; exact fun q => q c5) _ _ _).trans ?_
                refine (@if_pos _ (Classical.propDecidable _) (fun q => absurd q.1 (Int32.not_le.mpr c6)) _ _ _).trans ?_
                first | rfl | ((try rw [cl_ix (show j1 < 2 ^ 31 by omega)]) ; (try rw [cl_ix (show j2 < 2 ^ 31 by omega)]))
              exact rfin eY hRf3
            · skip
              refine v_iload_n K dX10_move_70 rfl ?_
              refine v_if_lt (tgt := 106) K dX10_move_71 rfl (fun c7 => ?_) (fun c7 => ?_)
              · skip
                refine v_aload_n K dX10_move_106 rfl ?_
                refine v_iconstN K 1 rfl dX10_move_107 ?_
                refine v_callV (As := [.int (nI 1)]) K (c_X10_finds h 1 (by omega)) lX10_113 ck_X10 rfl sh_118 pl_118 rfl ⟨by decide, by decide⟩ (Nat.le_of_ble_eq_true rfl) dX10_move_108 (fun r6 h6 hp6 => ?_) rfl
                obtain ⟨rfl, rfl⟩ := hp6
                refine v_some ?_
                have hRf4 : RR (u2 h 122 1 (h 122 1 + nI 1)) (u2 s 122 1 (s 122 1 + nI 1)) := by rw [show (h 122 1) = s 122 1 from hR.at RA_122]; exact hR.u RA_122
                refine v_iret K dX10_move_111 ?_
                have eY : Y_move s (nI j1) i (nI j2) j n = ((-1000000000) - nI 1, (u2 s 122 1 (s 122 1 + nI 1))) := by
                  unfold Y_move
                  refine (@if_neg _ (Classical.propDecidable _) (fun q => q ⟨⟨_, by assumption, rfl⟩, ⟨_, by assumption, rfl⟩⟩) _ _ _).trans ?_
                  refine (@if_neg _ (Classical.propDecidable _) (by rw [cl_ix (show j1 < 2 ^ 31 by omega), cl_ix (show j2 < 2 ^ 31 by omega)]; exact fun q => q.elim c3 c4) _ _ _).trans ?_
                  refine (@if_neg _ (Classical.propDecidable _) (by rw [cl_ix (show j1 < 2 ^ 31 by omega), cl_ix (show j2 < 2 ^ 31 by omega)]; exact fun q => q c5) _ _ _).trans ?_
                  refine (@if_pos _ (Classical.propDecidable _) (fun q => absurd q.2.1 (Int32.not_le.mpr c7)) _ _ _).trans ?_
                  first | rfl | ((try rw [cl_ix (show j1 < 2 ^ 31 by omega)]) ; (try rw [cl_ix (show j2 < 2 ^ 31 by omega)]))
                exact rfin eY hRf4
              · skip
                refine v_iload K dX10_move_74 rfl ?_
                refine v_if_lt (tgt := 106) K dX10_move_76 rfl (fun c8 => ?_) (fun c8 => ?_)
                · skip
                  refine v_aload_n K dX10_move_106 rfl ?_
                  refine v_iconstN K 1 rfl dX10_move_107 ?_
                  refine v_callV (As := [.int (nI 1)]) K (c_X10_finds h 1 (by omega)) lX10_113 ck_X10 rfl sh_118 pl_118 rfl ⟨by decide, by decide⟩ (Nat.le_of_ble_eq_true rfl) dX10_move_108 (fun r7 h7 hp7 => ?_) rfl
                  obtain ⟨rfl, rfl⟩ := hp7
                  refine v_some ?_
                  have hRf5 : RR (u2 h 122 1 (h 122 1 + nI 1)) (u2 s 122 1 (s 122 1 + nI 1)) := by rw [show (h 122 1) = s 122 1 from hR.at RA_122]; exact hR.u RA_122
                  refine v_iret K dX10_move_111 ?_
                  have eY : Y_move s (nI j1) i (nI j2) j n = ((-1000000000) - nI 1, (u2 s 122 1 (s 122 1 + nI 1))) := by
                    unfold Y_move
                    refine (@if_neg _ (Classical.propDecidable _) (fun q => q ⟨⟨_, by assumption, rfl⟩, ⟨_, by assumption, rfl⟩⟩) _ _ _).trans ?_
                    refine (@if_neg _ (Classical.propDecidable _) (by rw [cl_ix (show j1 < 2 ^ 31 by omega), cl_ix (show j2 < 2 ^ 31 by omega)]; exact fun q => q.elim c3 c4) _ _ _).trans ?_
                    refine (@if_neg _ (Classical.propDecidable _) (by rw [cl_ix (show j1 < 2 ^ 31 by omega), cl_ix (show j2 < 2 ^ 31 by omega)]; exact fun q => q c5) _ _ _).trans ?_
                    refine (@if_pos _ (Classical.propDecidable _) (fun q => absurd q.2.2.1 (Int32.not_le.mpr c8)) _ _ _).trans ?_
                    first | rfl | ((try rw [cl_ix (show j1 < 2 ^ 31 by omega)]) ; (try rw [cl_ix (show j2 < 2 ^ 31 by omega)]))
                  exact rfin eY hRf5
                · skip
                  obtain ⟨-, sz1, hsz1, esz1, -⟩ := hI.2.2.1 j1 (by omega)
                  obtain ⟨-, sz2, hsz2, esz2, -⟩ := hI.2.2.1 j2 (by omega)
                  refine v_iload K dX10_move_79 rfl ?_
                  refine v_aload_n K dX10_move_81 rfl ?_
                  refine v_getr (q := 129) K fX10_41 sh_118 pl_118 gl_118_19 dX10_move_82 ?_
                  refine v_iload_n K dX10_move_85 rfl ?_
                  refine v_iald (x := nI sz1) K sh_129 pl_129 (by omega) ((hR.at RA_129).trans esz1) dX10_move_86 ?_
                  refine v_iload_n K dX10_move_87 rfl ?_
                  refine v_isub K dX10_move_88 ?_
                  refine v_icmp_gt (tgt := 106) K dX10_move_89 rfl (fun c9 => ?_) (fun c9 => ?_)
                  · skip
                    refine v_aload_n K dX10_move_106 rfl ?_
                    refine v_iconstN K 1 rfl dX10_move_107 ?_
                    refine v_callV (As := [.int (nI 1)]) K (c_X10_finds h 1 (by omega)) lX10_113 ck_X10 rfl sh_118 pl_118 rfl ⟨by decide, by decide⟩ (Nat.le_of_ble_eq_true rfl) dX10_move_108 (fun r8 h8 hp8 => ?_) rfl
                    obtain ⟨rfl, rfl⟩ := hp8
                    refine v_some ?_
                    have hRf6 : RR (u2 h 122 1 (h 122 1 + nI 1)) (u2 s 122 1 (s 122 1 + nI 1)) := by rw [show (h 122 1) = s 122 1 from hR.at RA_122]; exact hR.u RA_122
                    refine v_iret K dX10_move_111 ?_
                    have eY : Y_move s (nI j1) i (nI j2) j n = ((-1000000000) - nI 1, (u2 s 122 1 (s 122 1 + nI 1))) := by
                      unfold Y_move
                      refine (@if_neg _ (Classical.propDecidable _) (fun q => q ⟨⟨_, by assumption, rfl⟩, ⟨_, by assumption, rfl⟩⟩) _ _ _).trans ?_
                      refine (@if_neg _ (Classical.propDecidable _) (by rw [cl_ix (show j1 < 2 ^ 31 by omega), cl_ix (show j2 < 2 ^ 31 by omega)]; exact fun q => q.elim c3 c4) _ _ _).trans ?_
                      refine (@if_neg _ (Classical.propDecidable _) (by rw [cl_ix (show j1 < 2 ^ 31 by omega), cl_ix (show j2 < 2 ^ 31 by omega)]; exact fun q => q c5) _ _ _).trans ?_
                      refine (@if_pos _ (Classical.propDecidable _) (by intro q; rw [cl_ix (show j1 < 2 ^ 31 by omega), cl_ix (show j2 < 2 ^ 31 by omega), esz1, esz2] at q; exact absurd q.2.2.2.1 (Int32.not_le.mpr c9)) _ _ _).trans ?_
                      first | rfl | ((try rw [cl_ix (show j1 < 2 ^ 31 by omega)]) ; (try rw [cl_ix (show j2 < 2 ^ 31 by omega)]))
                    exact rfin eY hRf6
                  · skip
                    refine v_iload K dX10_move_92 rfl ?_
                    refine v_aload_n K dX10_move_94 rfl ?_
                    refine v_getr (q := 129) K fX10_41 sh_118 pl_118 gl_118_19 dX10_move_95 ?_
                    refine v_iload_n K dX10_move_98 rfl ?_
                    refine v_iald (x := nI sz2) K sh_129 pl_129 (by omega) ((hR.at RA_129).trans esz2) dX10_move_99 ?_
                    refine v_iload K dX10_move_100 rfl ?_
                    refine v_isub K dX10_move_102 ?_
                    refine v_icmp_le (tgt := 112) K dX10_move_103 rfl (fun c10 => ?_) (fun c10 => ?_)
                    · skip
                      have mY : nI 0 ≤ n ∧ nI 0 ≤ i ∧ nI 0 ≤ j ∧ n ≤ s 129 (nI j1).toNatClampNeg - i ∧ n ≤ s 129 (nI j2).toNatClampNeg - j := by rw [cl_ix (show j1 < 2 ^ 31 by omega), cl_ix (show j2 < 2 ^ 31 by omega), esz1, esz2]; exact ⟨Int32.not_lt.mp c6, Int32.not_lt.mp c7, Int32.not_lt.mp c8, Int32.not_lt.mp c9, c10⟩
                      obtain ⟨nn, ii, en1, ei, hn1⟩ := mv_ix hsz1 c6 c7 c9
                      obtain ⟨n2, jj, en2, ej, hn2⟩ := mv_ix hsz2 c6 c8 (Int32.not_lt.mpr c10)
                      obtain rfl : nn = n2 := nI_inj (by omega) (by omega) (en1.symm.trans en2)
                      subst en1
                      subst ei
                      subst ej
                      refine v_iconstN K 0 rfl dX10_move_112 ?_
                      refine v_istore (lv2 := [(6, .int (nI 0)), (0, .ref 118), (1, .int (nI j1)), (2, .int (nI ii)), (3, .int (nI j2)), (4, .int (nI jj)), (5, .int (nI nn))]) K dX10_move_113 (by decide) rfl ?_
                      have L115 : ∀ (mm : Nat) (a : Nat) (g1 : Mm) (ha : a ≤ nn) (hZ : RR g1 s) (hL : ∀ x, x < a → g1 131 x = s 130 ((40 * j1 + ii) + x)), nn + 1 - a < mm → V κ (QM κ (132, ρ, GL, 0, 0) (P_X10_move h s τ τk (nI j1) (nI ii) (nI j2) (nI jj) (nI nn))) 7 (132, ρ, GL, 0, 0) g1 115 [(0, .ref 118), (1, .int (nI j1)), (2, .int (nI ii)), (3, .int (nI j2)), (4, .int (nI jj)), (5, .int (nI nn)), (6, .int (nI a))] [] := by
                        intro mm
                        induction mm with
                        | zero => intro a g1 ha hZ hL hmm; exact absurd hmm (Nat.not_lt_zero _)
                        | succ mm ih115 =>
                          intro a g1 ha hZ hL hmm
                          refine v_iload K dX10_move_115 rfl ?_
                          refine v_iload K dX10_move_117 rfl ?_
                          refine v_icmpN_ge (tgt := 149) K (by omega) (by omega) dX10_move_119 rfl (fun c11 => ?_) (fun c11 => ?_)
                          · skip
                            refine v_iconstN K 0 rfl dX10_move_149 ?_
                            refine v_istore (lv2 := [(6, .int (nI 0)), (0, .ref 118), (1, .int (nI j1)), (2, .int (nI ii)), (3, .int (nI j2)), (4, .int (nI jj)), (5, .int (nI nn))]) K dX10_move_150 (by decide) rfl ?_
                            have L152 : ∀ (mm : Nat) (a : Nat) (g2 : Mm) (ha : a ≤ nn) (hZ2 : RR g2 (rw2 s 130 (movR (s 130) (40 * j1 + ii) (40 * j2 + jj) a))) (hL2 : ∀ x, x < nn → g2 131 x = s 130 ((40 * j1 + ii) + x)), nn + 1 - a < mm → V κ (QM κ (132, ρ, GL, 0, 0) (P_X10_move h s τ τk (nI j1) (nI ii) (nI j2) (nI jj) (nI nn))) 7 (132, ρ, GL, 0, 0) g2 152 [(0, .ref 118), (1, .int (nI j1)), (2, .int (nI ii)), (3, .int (nI j2)), (4, .int (nI jj)), (5, .int (nI nn)), (6, .int (nI a))] [] := by
                              intro mm
                              induction mm with
                              | zero => intro a g2 ha hZ2 hL2 hmm; exact absurd hmm (Nat.not_lt_zero _)
                              | succ mm ih152 =>
                                intro a g2 ha hZ2 hL2 hmm
                                refine v_iload K dX10_move_152 rfl ?_
                                refine v_iload K dX10_move_154 rfl ?_
                                refine v_icmpN_ge (tgt := 187) K (by omega) (by omega) dX10_move_156 rfl (fun c12 => ?_) (fun c12 => ?_)
                                · skip
                                  refine v_iload K dX10_move_187 rfl ?_
                                  refine v_iret K dX10_move_189 ?_
                                  have eY : Y_move s (nI j1) (nI ii) (nI j2) (nI jj) (nI nn) = (nI nn, (rw2 s 130 (movR (s 130) (40 * j1 + ii) (40 * j2 + jj) a))) := by
                                    unfold Y_move
                                    refine (@if_neg _ (Classical.propDecidable _) (fun q => q ⟨⟨_, by assumption, rfl⟩, ⟨_, by assumption, rfl⟩⟩) _ _ _).trans ?_
                                    refine (@if_neg _ (Classical.propDecidable _) (by rw [cl_ix (show j1 < 2 ^ 31 by omega), cl_ix (show j2 < 2 ^ 31 by omega)]; exact fun q => q.elim c3 c4) _ _ _).trans ?_
                                    refine (@if_neg _ (Classical.propDecidable _) (by rw [cl_ix (show j1 < 2 ^ 31 by omega), cl_ix (show j2 < 2 ^ 31 by omega)]; exact fun q => q c5) _ _ _).trans ?_
                                    refine (@if_neg _ (Classical.propDecidable _) (fun q => q mY) _ _ _).trans ?_
                                    obtain rfl : a = nn := (by omega); rw [cl_ix (show j1 < 2 ^ 31 by omega), cl_ix (show j2 < 2 ^ 31 by omega), cl_ix (show ii < 2 ^ 31 by omega), cl_ix (show jj < 2 ^ 31 by omega), cl_ix (show a < 2 ^ 31 by omega)]
                                  exact rfin eY hZ2
                                · skip
                                  refine v_aload_n K dX10_move_159 rfl ?_
                                  refine v_getr (q := 130) K fX10_44 sh_118 pl_118 gl_118_20 dX10_move_160 ?_
                                  refine v_bipushN K 40 rfl dX10_move_163 ?_
                                  refine v_iload_n K dX10_move_165 rfl ?_
                                  refine v_imulN K dX10_move_166 ?_
                                  refine v_iload K dX10_move_167 rfl ?_
                                  refine v_iaddN K dX10_move_169 ?_
                                  refine v_iload K dX10_move_170 rfl ?_
                                  refine v_iaddN K dX10_move_172 ?_
                                  refine v_aload_n K dX10_move_173 rfl ?_
                                  refine v_getr (q := 131) K fX10_47 sh_118 pl_118 gl_118_21 dX10_move_174 ?_
                                  refine v_iload K dX10_move_177 rfl ?_
                                  refine v_iald (x := s 130 ((40 * j1 + ii) + a)) K sh_131 pl_131 (by omega) (hL2 a (by omega)) dX10_move_179 ?_
                                  refine v_iast K sh_130 pl_130 (by omega) dX10_move_180 ?_
                                  have hRt : RR (u2 g2 130 (40 * j2 + jj + a) (s 130 ((40 * j1 + ii) + a))) (rw2 s 130 (movR (s 130) (40 * j1 + ii) (40 * j2 + jj) (a + 1))) := by have hx := hZ2.u (k := 40 * j2 + jj + a) (v := s 130 ((40 * j1 + ii) + a)) RA_130; rw [u2_rw (h := rw2 s 130 _), rw2_rw2, rw2_at, mov_s] at hx; exact hx
                                  refine v_iincN (lv2 := [(6, .int (nI (a + 1))), (0, .ref 118), (1, .int (nI j1)), (2, .int (nI ii)), (3, .int (nI j2)), (4, .int (nI jj)), (5, .int (nI nn))]) K 1 dX10_move_181 rfl rfl (by decide) rfl ?_
                                  refine v_goto (tgt := 152) K dX10_move_184 rfl ?_
                                  refine v_sub (lv2 := [(0, .ref 118), (1, .int (nI j1)), (2, .int (nI ii)), (3, .int (nI j2)), (4, .int (nI jj)), (5, .int (nI nn)), (6, .int (nI (a + 1)))]) (by simp) ?_
                                  exact ih152 (a + 1) ((u2 g2 130 (40 * j2 + jj + a) (s 130 ((40 * j1 + ii) + a)))) (by first | assumption | omega | rfl) (by exact hRt) (by intro x hx; rw [u2_off (by omega)]; exact hL2 x hx) (by omega)
                            refine v_sub (lv2 := [(0, .ref 118), (1, .int (nI j1)), (2, .int (nI ii)), (3, .int (nI j2)), (4, .int (nI jj)), (5, .int (nI nn)), (6, .int (nI 0))]) (by simp) ?_
                            exact L152 (nn + 1 - 0 + 1) 0 g1 (by first | assumption | omega | rfl) (by rw [mov_0, rw2_self]; exact hZ) (by intro x hx; exact hL x (by omega)) (Nat.lt_succ_self _)
                          · skip
                            refine v_aload_n K dX10_move_122 rfl ?_
                            refine v_getr (q := 131) K fX10_47 sh_118 pl_118 gl_118_21 dX10_move_123 ?_
                            refine v_iload K dX10_move_126 rfl ?_
                            refine v_aload_n K dX10_move_128 rfl ?_
                            refine v_getr (q := 130) K fX10_44 sh_118 pl_118 gl_118_20 dX10_move_129 ?_
                            refine v_bipushN K 40 rfl dX10_move_132 ?_
                            refine v_iload_n K dX10_move_134 rfl ?_
                            refine v_imulN K dX10_move_135 ?_
                            refine v_iload_n K dX10_move_136 rfl ?_
                            refine v_iaddN K dX10_move_137 ?_
                            refine v_iload K dX10_move_138 rfl ?_
                            refine v_iaddN K dX10_move_140 ?_
                            refine v_iald (x := s 130 (40 * j1 + ii + a)) K sh_130 pl_130 (by omega) (hZ.at RA_130) dX10_move_141 ?_
                            refine v_iast K sh_131 pl_131 (by omega) dX10_move_142 ?_
                            have hRr9 : RR (u2 g1 131 a (s 130 (40 * j1 + ii + a))) s := hZ.n (by unfold RA; omega) (by omega)
                            refine v_iincN (lv2 := [(6, .int (nI (a + 1))), (0, .ref 118), (1, .int (nI j1)), (2, .int (nI ii)), (3, .int (nI j2)), (4, .int (nI jj)), (5, .int (nI nn))]) K 1 dX10_move_143 rfl rfl (by decide) rfl ?_
                            refine v_goto (tgt := 115) K dX10_move_146 rfl ?_
                            refine v_sub (lv2 := [(0, .ref 118), (1, .int (nI j1)), (2, .int (nI ii)), (3, .int (nI j2)), (4, .int (nI jj)), (5, .int (nI nn)), (6, .int (nI (a + 1)))]) (by simp) ?_
                            exact ih115 (a + 1) ((u2 g1 131 a (s 130 (40 * j1 + ii + a)))) (by first | assumption | omega | rfl) (by exact hRr9) (by intro x hx; by_cases q : x = a; (subst q; exact u2_at); rw [u2_ne (Or.inr q)]; exact hL x (by omega)) (by omega)
                      refine v_sub (lv2 := [(0, .ref 118), (1, .int (nI j1)), (2, .int (nI ii)), (3, .int (nI j2)), (4, .int (nI jj)), (5, .int (nI nn)), (6, .int (nI 0))]) (by simp) ?_
                      exact L115 (nn + 1 - 0 + 1) 0 h (by first | assumption | omega | rfl) (by exact hR) (by intro x hx; exact absurd hx (Nat.not_lt_zero _)) (Nat.lt_succ_self _)
                    · skip
                      refine v_aload_n K dX10_move_106 rfl ?_
                      refine v_iconstN K 1 rfl dX10_move_107 ?_
                      refine v_callV (As := [.int (nI 1)]) K (c_X10_finds h 1 (by omega)) lX10_113 ck_X10 rfl sh_118 pl_118 rfl ⟨by decide, by decide⟩ (Nat.le_of_ble_eq_true rfl) dX10_move_108 (fun r10 h9 hp9 => ?_) rfl
                      obtain ⟨rfl, rfl⟩ := hp9
                      refine v_some ?_
                      have hRf7 : RR (u2 h 122 1 (h 122 1 + nI 1)) (u2 s 122 1 (s 122 1 + nI 1)) := by rw [show (h 122 1) = s 122 1 from hR.at RA_122]; exact hR.u RA_122
                      refine v_iret K dX10_move_111 ?_
                      have eY : Y_move s (nI j1) i (nI j2) j n = ((-1000000000) - nI 1, (u2 s 122 1 (s 122 1 + nI 1))) := by
                        unfold Y_move
                        refine (@if_neg _ (Classical.propDecidable _) (fun q => q ⟨⟨_, by assumption, rfl⟩, ⟨_, by assumption, rfl⟩⟩) _ _ _).trans ?_
                        refine (@if_neg _ (Classical.propDecidable _) (by rw [cl_ix (show j1 < 2 ^ 31 by omega), cl_ix (show j2 < 2 ^ 31 by omega)]; exact fun q => q.elim c3 c4) _ _ _).trans ?_
                        refine (@if_neg _ (Classical.propDecidable _) (by rw [cl_ix (show j1 < 2 ^ 31 by omega), cl_ix (show j2 < 2 ^ 31 by omega)]; exact fun q => q c5) _ _ _).trans ?_
                        refine (@if_pos _ (Classical.propDecidable _) (by intro q; rw [cl_ix (show j1 < 2 ^ 31 by omega), cl_ix (show j2 < 2 ^ 31 by omega), esz1, esz2] at q; exact absurd q.2.2.2.2 c10) _ _ _).trans ?_
                        first | rfl | ((try rw [cl_ix (show j1 < 2 ^ 31 by omega)]) ; (try rw [cl_ix (show j2 < 2 ^ 31 by omega)]))
                      exact rfin eY hRf7
          · skip
            refine v_aload_n K dX10_move_59 rfl ?_
            refine v_iconstN K 5 rfl dX10_move_60 ?_
            refine v_callV (As := [.int (nI 5)]) K (c_X10_finds h 5 (by omega)) lX10_113 ck_X10 rfl sh_118 pl_118 rfl ⟨by decide, by decide⟩ (Nat.le_of_ble_eq_true rfl) dX10_move_61 (fun r11 h10 hp10 => ?_) rfl
            obtain ⟨rfl, rfl⟩ := hp10
            refine v_some ?_
            have hRf8 : RR (u2 h 122 5 (h 122 5 + nI 1)) (u2 s 122 5 (s 122 5 + nI 1)) := by rw [show (h 122 5) = s 122 5 from hR.at RA_122]; exact hR.u RA_122
            refine v_iret K dX10_move_64 ?_
            have eY : Y_move s (nI j1) i (nI j2) j n = ((-1000000000) - nI 5, (u2 s 122 5 (s 122 5 + nI 1))) := by
              unfold Y_move
              refine (@if_neg _ (Classical.propDecidable _) (fun q => q ⟨⟨_, by assumption, rfl⟩, ⟨_, by assumption, rfl⟩⟩) _ _ _).trans ?_
              refine (@if_neg _ (Classical.propDecidable _) (by rw [cl_ix (show j1 < 2 ^ 31 by omega), cl_ix (show j2 < 2 ^ 31 by omega)]; exact fun q => q.elim c3 c4) _ _ _).trans ?_
              refine (@if_pos _ (Classical.propDecidable _) (by rw [cl_ix (show j1 < 2 ^ 31 by omega), cl_ix (show j2 < 2 ^ 31 by omega)]; exact c5) _ _ _).trans ?_
              first | rfl | ((try rw [cl_ix (show j1 < 2 ^ 31 by omega)]) ; (try rw [cl_ix (show j2 < 2 ^ 31 by omega)]))
            exact rfin eY hRf8
        · skip
          refine v_aload_n K dX10_move_38 rfl ?_
          refine v_iconstN K 2 rfl dX10_move_39 ?_
          refine v_callV (As := [.int (nI 2)]) K (c_X10_finds h 2 (by omega)) lX10_113 ck_X10 rfl sh_118 pl_118 rfl ⟨by decide, by decide⟩ (Nat.le_of_ble_eq_true rfl) dX10_move_40 (fun r12 h11 hp11 => ?_) rfl
          obtain ⟨rfl, rfl⟩ := hp11
          refine v_some ?_
          have hRf9 : RR (u2 h 122 2 (h 122 2 + nI 1)) (u2 s 122 2 (s 122 2 + nI 1)) := by rw [show (h 122 2) = s 122 2 from hR.at RA_122]; exact hR.u RA_122
          refine v_iret K dX10_move_43 ?_
          have eY : Y_move s (nI j1) i (nI j2) j n = ((-1000000000) - nI 2, (u2 s 122 2 (s 122 2 + nI 1))) := by
            unfold Y_move
            refine (@if_neg _ (Classical.propDecidable _) (fun q => q ⟨⟨_, by assumption, rfl⟩, ⟨_, by assumption, rfl⟩⟩) _ _ _).trans ?_
            refine (@if_pos _ (Classical.propDecidable _) (by rw [cl_ix (show j1 < 2 ^ 31 by omega), cl_ix (show j2 < 2 ^ 31 by omega)]; exact Or.inr c4) _ _ _).trans ?_
            first | rfl | ((try rw [cl_ix (show j1 < 2 ^ 31 by omega)]) ; (try rw [cl_ix (show j2 < 2 ^ 31 by omega)]))
          exact rfin eY hRf9
    · skip
      refine v_aload_n K dX10_move_14 rfl ?_
      refine v_iconstN K 1 rfl dX10_move_15 ?_
      refine v_callV (As := [.int (nI 1)]) K (c_X10_finds h 1 (by omega)) lX10_113 ck_X10 rfl sh_118 pl_118 rfl ⟨by decide, by decide⟩ (Nat.le_of_ble_eq_true rfl) dX10_move_16 (fun r13 h12 hp12 => ?_) rfl
      obtain ⟨rfl, rfl⟩ := hp12
      refine v_some ?_
      have hRf10 : RR (u2 h 122 1 (h 122 1 + nI 1)) (u2 s 122 1 (s 122 1 + nI 1)) := by rw [show (h 122 1) = s 122 1 from hR.at RA_122]; exact hR.u RA_122
      refine v_iret K dX10_move_19 ?_
      have eY : Y_move s (nI j1) i o j n = ((-1000000000) - nI 1, (u2 s 122 1 (s 122 1 + nI 1))) := by
        unfold Y_move
        refine (@if_pos _ (Classical.propDecidable _) (fun q => by first | exact absurd q.1 (by assumption) | exact absurd q.2 (by assumption)) _ _ _).trans ?_
        first | rfl | ((try rw [cl_ix (show j1 < 2 ^ 31 by omega)]))
      exact rfin eY hRf10
