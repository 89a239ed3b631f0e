def absV (v : Int64) : Int64 := if v < (nI 0).toInt64 then -v else v
def offV (h n : Int32) : Int32 := if (nI 1000).toInt64 < absV (h.toInt64 - n.toInt64) then nI 1000 else (absV (h.toInt64 - n.toInt64)).toInt32
noncomputable def offF (τ : Nat → List Int32) (x : Dm) (f : Nat → Int32) : Nat → Int32
  | 0 => nI 0
  | k + 1 => offF τ x f k + offV (nightsD τ x (k + 1) 0) (f k)
noncomputable def hunF (τ : Nat → List Int32) (d : Dm) (f : Nat → Int32) (n : Nat) : Nat → Nat × Int32
  | 0 => (0, offF τ (upd d 2 (nI 0)) f n)
  | k + 1 => if offF τ (upd d 2 (nI (k + 1))) f n < (hunF τ d f n k).2 then (k + 1, offF τ (upd d 2 (nI (k + 1))) f n) else hunF τ d f n k
theorem hun_le {τ : Nat → List Int32} {d : Dm} {f : Nat → Int32} {n : Nat} : ∀ k, (hunF τ d f n k).1 ≤ k
  | 0 => Nat.le_refl _
  | k + 1 => by
    unfold hunF
    split
    · exact Nat.le_refl _
    · exact Nat.le_succ_of_le (hun_le k)
theorem lgc_1 {x y : Int64} (c : ¬ 0 ≤ lg_cmp x y) : x < y := lg_lt.mp (Int32.not_le.mp c)
theorem lgc_2 {x y : Int64} (c : 0 ≤ lg_cmp x y) : ¬ x < y := fun q => absurd (lg_lt.mpr q) (Int32.not_lt.mpr c)
theorem lgc_3 {x y : Int64} (c : ¬ lg_cmp x y ≤ 0) : y < x := lg_gt.mp (Int32.not_le.mp c)
theorem lgc_4 {x y : Int64} (c : lg_cmp x y ≤ 0) : ¬ y < x := fun q => absurd (lg_gt.mpr q) (Int32.not_lt.mpr c)
def WHYP (s : Mm) (w : Int32) (k : Nat) : Prop := (k = 1 ∧ ¬ ix w 4) ∨ (k = 2 ∧ ∃ j, j < 4 ∧ w = nI j ∧ s 128 j = nI 0) ∨ (k = 0 ∧ ∃ j, j < 4 ∧ w = nI j ∧ ¬ s 128 j = nI 0)
theorem DOK.hung {d : Dm} (H : DOK d) {v : Nat} (hv : v < 100) : DOK (upd d 2 (nI v)) := H.set (by omega) (by omega) (fun _ => ⟨v, hv, rfl⟩) (fun q => by omega) (fun w hw => ⟨fun q => by omega, fun q => by omega, fun q => by omega, fun q => by omega⟩) (fun t ht => ⟨fun q => by omega, fun q => by omega, fun q => by omega⟩)

noncomputable def Y_off (s : Mm) (τ : Nat → List Int32) (w : Int32) : Rs := @ite _ (¬ (ix w 4)) (Classical.propDecidable _) (er s 1) ( @ite _ (s 128 w.toNatClampNeg = nI 0) (Classical.propDecidable _) (er s 2) ( (offF τ (s 119) (fun k => s 130 (40 * w.toNatClampNeg + k)) (s 129 w.toNatClampNeg).toNatClampNeg, s)))

noncomputable def Y_hungry (s : Mm) (τ : Nat → List Int32) (w : Int32) : Rs := @ite _ (¬ (ix w 4)) (Classical.propDecidable _) (er s 1) ( @ite _ (s 128 w.toNatClampNeg = nI 0) (Classical.propDecidable _) (er s 2) ( (nI (hunF τ (s 119) (fun k => s 130 (40 * w.toNatClampNeg + k)) (s 129 w.toNatClampNeg).toNatClampNeg 99).1, s)))

abbrev P_X10_whyNoSigns (h s : Mm) (w : Int32) : Option Value → Mm → Prop := fun r h2 => (∃ k, r = some (.int (nI k)) ∧ WHYP s w k) ∧ h = h2
theorem c_X10_whyNoSigns {l : Launch} (h s : Mm) (w : Int32) (hR : RR h s) : Con l yX10_whyNoSigns cX10_whyNoSigns 2 (some .int) 2 45 132 GL h [.ref 118, .int w] (P_X10_whyNoSigns h s w) := by
  refine Con.ofV (own := "FoxRoundsModel") (nm := "whyNoSigns") rfl rfl (by decide) (Nat.le_of_ble_eq_true rfl) ?_
  intro κ ρ hkl K
  subst hkl
  show V κ (QM κ (132, ρ, GL, 0, 0) (P_X10_whyNoSigns h s w)) 2 (132, ρ, GL, 0, 0) h 0 [(0, .ref 118), (1, .int w)] []
  refine v_iload_n K dX10_whyNoSigns_0 rfl ?_
  refine v_callS (As := [.int w]) K (c_X10_isSheet h w) lX10_186 rfl ⟨by decide, by decide⟩ (Nat.le_of_ble_eq_true rfl) dX10_whyNoSigns_1 (fun r1 h1 hp1 => ?_) rfl
  obtain ⟨rfl, rfl⟩ := hp1
  refine v_some ?_
  refine v_ifB_ne (tgt := 11) K dX10_whyNoSigns_4 rfl (fun c1 => ?_) (fun c1 => ?_)
  · skip
    obtain ⟨j1, Hj1, rfl⟩ := c1
    refine v_aload_n K dX10_whyNoSigns_11 rfl ?_
    refine v_getr (q := 128) K fX10_38 sh_118 pl_118 gl_118_18 dX10_whyNoSigns_12 ?_
    refine v_iload_n K dX10_whyNoSigns_15 rfl ?_
    refine v_iald (x := s 128 j1) K sh_128 pl_128 (by omega) (hR.at RA_128) dX10_whyNoSigns_16 ?_
    refine v_if_ne (tgt := 24) K dX10_whyNoSigns_17 rfl (fun c2 => ?_) (fun c2 => ?_)
    · skip
      refine v_iconstN K 0 rfl dX10_whyNoSigns_24 ?_
      refine v_iret K dX10_whyNoSigns_25 ?_
      exact ⟨⟨0, rfl, Or.inr (Or.inr ⟨rfl, j1, Hj1, rfl, c2⟩)⟩, rfl⟩
    · skip
      refine v_iconstN K 2 rfl dX10_whyNoSigns_20 ?_
      refine v_goto (tgt := 25) K dX10_whyNoSigns_21 rfl ?_
      refine v_iret K dX10_whyNoSigns_25 ?_
      exact ⟨⟨2, rfl, Or.inr (Or.inl ⟨rfl, j1, Hj1, rfl, c2⟩)⟩, rfl⟩
  · skip
    refine v_iconstN K 1 rfl dX10_whyNoSigns_7 ?_
    refine v_goto (tgt := 25) K dX10_whyNoSigns_8 rfl ?_
    refine v_iret K dX10_whyNoSigns_25 ?_
    exact ⟨⟨1, rfl, Or.inl ⟨rfl, c1⟩⟩, rfl⟩

abbrev P_X10_offIn (h s : Mm) (τ : Nat → List Int32) (x : Dm) (j sz : Nat) : Option Value → Mm → Prop := fun r h2 => r = some (.int (offF τ x (fun k => s 130 (40 * j + k)) sz)) ∧ RR h2 s
theorem c_X10_offIn {l : Launch} (h s : Mm) (τ : Nat → List Int32) (x : Dm) (j sz : Nat) (hR : RR h s) (hx0 : h 120 = x) (hx : DOK x) (hT : TXD (s 119) τ) (hj : j < 4) (hsz : sz ≤ 40) (esz : s 129 j = nI sz) : Con l yX10_offIn cX10_offIn 7 (some .int) 44 1013 132 GL h [.ref 118, .ref 120, .int (nI j)] (P_X10_offIn h s τ x j sz) := by
  refine Con.ofV (own := "FoxRoundsModel") (nm := "offIn") rfl rfl (by decide) (Nat.le_of_ble_eq_true rfl) ?_
  intro κ ρ hkl K
  subst hkl
  show V κ (QM κ (132, ρ, GL, 0, 0) (P_X10_offIn h s τ x j sz)) 7 (132, ρ, GL, 0, 0) h 0 [(0, .ref 118), (1, .ref 120), (2, .int (nI j))] []
  refine v_iconstN K 0 rfl dX10_offIn_0 ?_
  refine v_istore_n (lv2 := [(3, .int (nI 0)), (0, .ref 118), (1, .ref 120), (2, .int (nI j))]) K dX10_offIn_1 (by decide) rfl ?_
  refine v_iconstN K 0 rfl dX10_offIn_2 ?_
  refine v_istore (lv2 := [(4, .int (nI 0)), (3, .int (nI 0)), (0, .ref 118), (1, .ref 120), (2, .int (nI j))]) K dX10_offIn_3 (by decide) rfl ?_
  have L5 : ∀ (mm : Nat) (v : Int32) (a : Nat) (g1 : Mm) (ha : a ≤ sz) (hE : g1 120 = nightsD τ x a) (hZ : RR g1 s) (hv : offF τ x (fun k => s 130 (40 * j + k)) a = v), sz + 1 - a < mm → V κ (QM κ (132, ρ, GL, 0, 0) (P_X10_offIn h s τ x j sz)) 7 (132, ρ, GL, 0, 0) g1 5 [(0, .ref 118), (1, .ref 120), (2, .int (nI j)), (3, .int v), (4, .int (nI a))] [] := by
    intro mm
    induction mm with
    | zero => intro v a g1 ha hE hZ hv hmm; exact absurd hmm (Nat.not_lt_zero _)
    | succ mm ih5 =>
      intro v a g1 ha hE hZ hv hmm
      refine v_iload K dX10_offIn_5 rfl ?_
      refine v_aload_n K dX10_offIn_7 rfl ?_
      refine v_getr (q := 129) K fX10_41 sh_118 pl_118 gl_118_19 dX10_offIn_8 ?_
      refine v_iload_n K dX10_offIn_11 rfl ?_
      refine v_iald (x := nI sz) K sh_129 pl_129 (by omega) ((hZ.at RA_129).trans esz) dX10_offIn_12 ?_
      refine v_icmpN_ge (tgt := 86) K (by omega) (by omega) dX10_offIn_13 rfl (fun c1 => ?_) (fun c1 => ?_)
      · skip
        refine v_iload_n K dX10_offIn_86 rfl ?_
        refine v_iret K dX10_offIn_87 ?_
        obtain rfl : a = sz := (by omega)
        exact ⟨some_int hv.symm, hZ⟩
      · skip
        refine v_aload_n K dX10_offIn_16 rfl ?_
        refine v_aload_n K dX10_offIn_17 rfl ?_
        refine v_iconstN K 1 rfl dX10_offIn_18 ?_
        refine v_callV (As := [.ref 120, .int (nI 1)]) K (c_X10_goesOn g1 τ 120 1 mP_120 (by rw [hE]; exact hx.nights _) (by rw [hZ.1 119 RA_119]; exact hT) (by omega)) lX10_222 ck_X10 rfl sh_118 pl_118 rfl ⟨by decide, by decide⟩ (Nat.le_of_ble_eq_true rfl) dX10_offIn_19 (fun r1 h1 hp1 => ?_) rfl
        obtain ⟨rfl, hDn, hTn, hGn⟩ := hp1
        have hDn : h1 120 = nightsD τ x (a + 1) := by rw [hDn, hE]; rfl
        have hRn := hZ.G (by unfold RA; omega) hGn
        refine v_none ?_
        refine v_aload_n K dX10_offIn_22 rfl ?_
        refine v_iconstN K 0 rfl dX10_offIn_23 ?_
        refine v_iald (x := nightsD τ x (a + 1) 0) K sh_120 pl_120 (by omega) (congrFun hDn _) dX10_offIn_24 ?_
        refine v_i2l K dX10_offIn_25 rfl ?_
        refine v_aload_n K dX10_offIn_26 rfl ?_
        refine v_getr (q := 130) K fX10_44 sh_118 pl_118 gl_118_20 dX10_offIn_27 ?_
        refine v_bipushN K 40 rfl dX10_offIn_30 ?_
        refine v_iload_n K dX10_offIn_32 rfl ?_
        refine v_imulN K dX10_offIn_33 ?_
        refine v_iload K dX10_offIn_34 rfl ?_
        refine v_iaddN K dX10_offIn_36 ?_
        refine v_iald (x := s 130 (40 * j + a)) K sh_130 pl_130 (by omega) (hRn.at RA_130) dX10_offIn_37 ?_
        refine v_i2l K dX10_offIn_38 rfl ?_
        refine v_lsub K dX10_offIn_39 ?_
        refine v_lstore (lv2 := [(5, .long (((nightsD τ x (a + 1) 0).toInt64) - ((s 130 (40 * j + a)).toInt64))), (0, .ref 118), (1, .ref 120), (2, .int (nI j)), (3, .int v), (4, .int (nI a))]) K dX10_offIn_40 (by decide) rfl ?_
        refine v_lload K dX10_offIn_42 rfl ?_
        refine v_lconst (v := (nI 0).toInt64) K dX10_offIn_44 (by decide) ?_
        refine v_lcmp K dX10_offIn_45 ?_
        refine v_if_ge (tgt := 55) K dX10_offIn_46 rfl (fun c2 => ?_) (fun c2 => ?_)
        · skip
          refine v_lload K dX10_offIn_55 rfl ?_
          refine v_topL (y := absV ((nightsD τ x (a + 1) 0).toInt64 - (s 130 (40 * j + a)).toInt64)) (if_neg (lgc_2 c2)).symm ?_
          refine v_lstore (lv2 := [(5, .long (absV ((nightsD τ x (a + 1) 0).toInt64 - (s 130 (40 * j + a)).toInt64))), (0, .ref 118), (1, .ref 120), (2, .int (nI j)), (3, .int v), (4, .int (nI a))]) K dX10_offIn_57 (by decide) rfl ?_
          refine v_iload_n K dX10_offIn_59 rfl ?_
          refine v_lload K dX10_offIn_60 rfl ?_
          refine v_ldc2 K kX10_260 dX10_offIn_62 ?_
          refine v_topL (y := (nI 1000).toInt64) (by decide) ?_
          refine v_lcmp K dX10_offIn_65 ?_
          refine v_if_le (tgt := 75) K dX10_offIn_66 rfl (fun c3 => ?_) (fun c3 => ?_)
          · skip
            refine v_lload K dX10_offIn_75 rfl ?_
            refine v_l2i K dX10_offIn_77 rfl ?_
            refine v_top (y := offV (nightsD τ x (a + 1) 0) (s 130 (40 * j + a))) (if_neg (lgc_4 c3)).symm ?_
            refine v_iadd K dX10_offIn_78 ?_
            refine v_istore_n (lv2 := [(3, .int (v + (offV (nightsD τ x (a + 1) 0) (s 130 (40 * j + a))))), (5, .long (absV ((nightsD τ x (a + 1) 0).toInt64 - (s 130 (40 * j + a)).toInt64))), (0, .ref 118), (1, .ref 120), (2, .int (nI j)), (4, .int (nI a))]) K dX10_offIn_79 (by decide) rfl ?_
            refine v_iincN (lv2 := [(4, .int (nI (a + 1))), (3, .int (v + (offV (nightsD τ x (a + 1) 0) (s 130 (40 * j + a))))), (5, .long (absV ((nightsD τ x (a + 1) 0).toInt64 - (s 130 (40 * j + a)).toInt64))), (0, .ref 118), (1, .ref 120), (2, .int (nI j))]) K 1 dX10_offIn_80 rfl rfl (by decide) rfl ?_
            refine v_goto (tgt := 5) K dX10_offIn_83 rfl ?_
            refine v_sub (lv2 := [(0, .ref 118), (1, .ref 120), (2, .int (nI j)), (3, .int (v + (offV (nightsD τ x (a + 1) 0) (s 130 (40 * j + a))))), (4, .int (nI (a + 1)))]) (by simp) ?_
            exact ih5 (v + (offV (nightsD τ x (a + 1) 0) (s 130 (40 * j + a)))) (a + 1) h1 (by first | assumption | omega | rfl) (by exact hDn) (by exact hRn) (by rw [offF, hv]) (by omega)
          · skip
            refine v_sipushN K 1000 rfl dX10_offIn_69 ?_
            refine v_goto (tgt := 78) K dX10_offIn_72 rfl ?_
            refine v_top (y := offV (nightsD τ x (a + 1) 0) (s 130 (40 * j + a))) (if_pos (lgc_3 c3)).symm ?_
            refine v_iadd K dX10_offIn_78 ?_
            refine v_istore_n (lv2 := [(3, .int (v + (offV (nightsD τ x (a + 1) 0) (s 130 (40 * j + a))))), (5, .long (absV ((nightsD τ x (a + 1) 0).toInt64 - (s 130 (40 * j + a)).toInt64))), (0, .ref 118), (1, .ref 120), (2, .int (nI j)), (4, .int (nI a))]) K dX10_offIn_79 (by decide) rfl ?_
            refine v_iincN (lv2 := [(4, .int (nI (a + 1))), (3, .int (v + (offV (nightsD τ x (a + 1) 0) (s 130 (40 * j + a))))), (5, .long (absV ((nightsD τ x (a + 1) 0).toInt64 - (s 130 (40 * j + a)).toInt64))), (0, .ref 118), (1, .ref 120), (2, .int (nI j))]) K 1 dX10_offIn_80 rfl rfl (by decide) rfl ?_
            refine v_goto (tgt := 5) K dX10_offIn_83 rfl ?_
            refine v_sub (lv2 := [(0, .ref 118), (1, .ref 120), (2, .int (nI j)), (3, .int (v + (offV (nightsD τ x (a + 1) 0) (s 130 (40 * j + a))))), (4, .int (nI (a + 1)))]) (by simp) ?_
            exact ih5 (v + (offV (nightsD τ x (a + 1) 0) (s 130 (40 * j + a)))) (a + 1) h1 (by first | assumption | omega | rfl) (by exact hDn) (by exact hRn) (by rw [offF, hv]) (by omega)
        · skip
          refine v_lload K dX10_offIn_49 rfl ?_
          refine v_lneg K dX10_offIn_51 ?_
          refine v_goto (tgt := 57) K dX10_offIn_52 rfl ?_
          refine v_topL (y := absV ((nightsD τ x (a + 1) 0).toInt64 - (s 130 (40 * j + a)).toInt64)) (if_pos (lgc_1 c2)).symm ?_
          refine v_lstore (lv2 := [(5, .long (absV ((nightsD τ x (a + 1) 0).toInt64 - (s 130 (40 * j + a)).toInt64))), (0, .ref 118), (1, .ref 120), (2, .int (nI j)), (3, .int v), (4, .int (nI a))]) K dX10_offIn_57 (by decide) rfl ?_
          refine v_iload_n K dX10_offIn_59 rfl ?_
          refine v_lload K dX10_offIn_60 rfl ?_
          refine v_ldc2 K kX10_260 dX10_offIn_62 ?_
          refine v_topL (y := (nI 1000).toInt64) (by decide) ?_
          refine v_lcmp K dX10_offIn_65 ?_
          refine v_if_le (tgt := 75) K dX10_offIn_66 rfl (fun c4 => ?_) (fun c4 => ?_)
          · skip
            refine v_lload K dX10_offIn_75 rfl ?_
            refine v_l2i K dX10_offIn_77 rfl ?_
            refine v_top (y := offV (nightsD τ x (a + 1) 0) (s 130 (40 * j + a))) (if_neg (lgc_4 c4)).symm ?_
            refine v_iadd K dX10_offIn_78 ?_
            refine v_istore_n (lv2 := [(3, .int (v + (offV (nightsD τ x (a + 1) 0) (s 130 (40 * j + a))))), (5, .long (absV ((nightsD τ x (a + 1) 0).toInt64 - (s 130 (40 * j + a)).toInt64))), (0, .ref 118), (1, .ref 120), (2, .int (nI j)), (4, .int (nI a))]) K dX10_offIn_79 (by decide) rfl ?_
            refine v_iincN (lv2 := [(4, .int (nI (a + 1))), (3, .int (v + (offV (nightsD τ x (a + 1) 0) (s 130 (40 * j + a))))), (5, .long (absV ((nightsD τ x (a + 1) 0).toInt64 - (s 130 (40 * j + a)).toInt64))), (0, .ref 118), (1, .ref 120), (2, .int (nI j))]) K 1 dX10_offIn_80 rfl rfl (by decide) rfl ?_
            refine v_goto (tgt := 5) K dX10_offIn_83 rfl ?_
            refine v_sub (lv2 := [(0, .ref 118), (1, .ref 120), (2, .int (nI j)), (3, .int (v + (offV (nightsD τ x (a + 1) 0) (s 130 (40 * j + a))))), (4, .int (nI (a + 1)))]) (by simp) ?_
            exact ih5 (v + (offV (nightsD τ x (a + 1) 0) (s 130 (40 * j + a)))) (a + 1) h1 (by first | assumption | omega | rfl) (by exact hDn) (by exact hRn) (by rw [offF, hv]) (by omega)
          · skip
            refine v_sipushN K 1000 rfl dX10_offIn_69 ?_
            refine v_goto (tgt := 78) K dX10_offIn_72 rfl ?_
            refine v_top (y := offV (nightsD τ x (a + 1) 0) (s 130 (40 * j + a))) (if_pos (lgc_3 c4)).symm ?_
            refine v_iadd K dX10_offIn_78 ?_
            refine v_istore_n (lv2 := [(3, .int (v + (offV (nightsD τ x (a + 1) 0) (s 130 (40 * j + a))))), (5, .long (absV ((nightsD τ x (a + 1) 0).toInt64 - (s 130 (40 * j + a)).toInt64))), (0, .ref 118), (1, .ref 120), (2, .int (nI j)), (4, .int (nI a))]) K dX10_offIn_79 (by decide) rfl ?_
            refine v_iincN (lv2 := [(4, .int (nI (a + 1))), (3, .int (v + (offV (nightsD τ x (a + 1) 0) (s 130 (40 * j + a))))), (5, .long (absV ((nightsD τ x (a + 1) 0).toInt64 - (s 130 (40 * j + a)).toInt64))), (0, .ref 118), (1, .ref 120), (2, .int (nI j))]) K 1 dX10_offIn_80 rfl rfl (by decide) rfl ?_
            refine v_goto (tgt := 5) K dX10_offIn_83 rfl ?_
            refine v_sub (lv2 := [(0, .ref 118), (1, .ref 120), (2, .int (nI j)), (3, .int (v + (offV (nightsD τ x (a + 1) 0) (s 130 (40 * j + a))))), (4, .int (nI (a + 1)))]) (by simp) ?_
            exact ih5 (v + (offV (nightsD τ x (a + 1) 0) (s 130 (40 * j + a)))) (a + 1) h1 (by first | assumption | omega | rfl) (by exact hDn) (by exact hRn) (by rw [offF, hv]) (by omega)
  refine v_sub (lv2 := [(0, .ref 118), (1, .ref 120), (2, .int (nI j)), (3, .int (nI 0)), (4, .int (nI 0))]) (by simp) ?_
  exact L5 (sz + 1 - 0 + 1) (nI 0) 0 h (by first | assumption | omega | rfl) (by exact hx0) (by exact hR) (by rfl) (Nat.lt_succ_self _)

abbrev P_X10_off (h s : Mm) (τ τk : Nat → List Int32) (w : Int32) : Option Value → Mm → Prop := fun r h2 => r = some (.int (Y_off s τ w).1) ∧ RR h2 (Y_off s τ w).2
theorem c_X10_off {l : Launch} (h s : Mm) (τ τk : Nat → List Int32) (w : Int32) (hR : RR h s) (hI : INV s τ τk) : Con l yX10_off cX10_off 3 (some .int) 45 1039 132 GL h [.ref 118, .int w] (P_X10_off h s τ τk w) := by
  refine Con.ofV (own := "FoxRoundsModel") (nm := "off") rfl rfl (by decide) (Nat.le_of_ble_eq_true rfl) ?_
  intro κ ρ hkl K
  subst hkl
  show V κ (QM κ (132, ρ, GL, 0, 0) (P_X10_off h s τ τk w)) 3 (132, ρ, GL, 0, 0) h 0 [(0, .ref 118), (1, .int w)] []
  have hd := hI.d
  have hn8 := hd.nw8
  have ht5 := hd.nt5
  refine v_aload_n K dX10_off_0 rfl ?_
  refine v_iload_n K dX10_off_1 rfl ?_
  refine v_callV (As := [.int w]) K (c_X10_whyNoSigns h s w hR) lX10_262 ck_X10 rfl sh_118 pl_118 rfl ⟨by decide, by decide⟩ (Nat.le_of_ble_eq_true rfl) dX10_off_2 (fun r1 h1 hp1 => ?_) rfl
  obtain ⟨⟨k, rfl, hk⟩, rfl⟩ := hp1
  refine v_some ?_
  rcases hk with ⟨rfl, hw⟩ | ⟨rfl, j, hj, rfl, hb⟩ | ⟨rfl, j, hj, rfl, hb⟩
  · skip
    skip
    refine v_istore_n (lv2 := [(2, .int (nI 1)), (0, .ref 118), (1, .int w)]) K dX10_off_5 (by decide) rfl ?_
    refine v_iload_n K dX10_off_6 rfl ?_
    refine v_ifN_eq (tgt := 16) K (by omega) dX10_off_7 rfl (fun c1 => ?_) (fun c1 => ?_)
    · exact absurd c1 (by decide)
    · skip
      refine v_aload_n K dX10_off_10 rfl ?_
      refine v_iload_n K dX10_off_11 rfl ?_
      refine v_callV (As := [.int (nI 1)]) K (c_X10_finds h 1 (by omega)) lX10_113 ck_X10 rfl sh_118 pl_118 rfl ⟨by decide, by decide⟩ (Nat.le_of_ble_eq_true rfl) dX10_off_12 (fun r2 h2 hp2 => ?_) rfl
      obtain ⟨rfl, rfl⟩ := hp2
      refine v_some ?_
      have hRf1 : RR (u2 h 122 1 (h 122 1 + nI 1)) (u2 s 122 1 (s 122 1 + nI 1)) := by rw [show (h 122 1) = s 122 1 from hR.at RA_122]; exact hR.u RA_122
      refine v_iret K dX10_off_15 ?_
      have eY : Y_off s τ w = ((-1000000000) - nI 1, (u2 s 122 1 (s 122 1 + nI 1))) := by
        unfold Y_off
        refine (@if_pos _ (Classical.propDecidable _) hw _ _ _).trans ?_
        first | rfl | (rfl)
      exact rfin eY hRf1
  · skip
    skip
    refine v_istore_n (lv2 := [(2, .int (nI 2)), (0, .ref 118), (1, .int (nI j))]) K dX10_off_5 (by decide) rfl ?_
    refine v_iload_n K dX10_off_6 rfl ?_
    refine v_ifN_eq (tgt := 16) K (by omega) dX10_off_7 rfl (fun c2 => ?_) (fun c2 => ?_)
    · exact absurd c2 (by decide)
    · skip
      refine v_aload_n K dX10_off_10 rfl ?_
      refine v_iload_n K dX10_off_11 rfl ?_
      refine v_callV (As := [.int (nI 2)]) K (c_X10_finds h 2 (by omega)) lX10_113 ck_X10 rfl sh_118 pl_118 rfl ⟨by decide, by decide⟩ (Nat.le_of_ble_eq_true rfl) dX10_off_12 (fun r3 h3 hp3 => ?_) rfl
      obtain ⟨rfl, rfl⟩ := hp3
      refine v_some ?_
      have hRf2 : RR (u2 h 122 2 (h 122 2 + nI 1)) (u2 s 122 2 (s 122 2 + nI 1)) := by rw [show (h 122 2) = s 122 2 from hR.at RA_122]; exact hR.u RA_122
      refine v_iret K dX10_off_15 ?_
      have eY : Y_off s τ (nI j) = ((-1000000000) - nI 2, (u2 s 122 2 (s 122 2 + nI 1))) := by
        unfold Y_off
        refine (@if_neg _ (Classical.propDecidable _) (fun q => q ⟨j, hj, rfl⟩) _ _ _).trans ?_
        refine (@if_pos _ (Classical.propDecidable _) (by rw [cl_ix (show j < 2 ^ 31 by omega)]; exact hb) _ _ _).trans ?_
        first | rfl | ((try rw [cl_ix (show j < 2 ^ 31 by omega)]))
      exact rfin eY hRf2
  · skip
    obtain ⟨-, sz, hsz, esz, -⟩ := hI.2.2.1 j hj
    refine v_istore_n (lv2 := [(2, .int (nI 0)), (0, .ref 118), (1, .int (nI j))]) K dX10_off_5 (by decide) rfl ?_
    refine v_iload_n K dX10_off_6 rfl ?_
    refine v_ifN_eq (tgt := 16) K (by omega) dX10_off_7 rfl (fun c3 => ?_) (fun c3 => ?_)
    · skip
      refine v_aload_n K dX10_off_16 rfl ?_
      refine v_getr (q := 119) K fX10_7 sh_118 pl_118 gl_118_0 dX10_off_17 ?_
      refine v_aload_n K dX10_off_20 rfl ?_
      refine v_getr (q := 120) K fX10_13 sh_118 pl_118 gl_118_1 dX10_off_21 ?_
      refine v_callS (As := [.ref 119, .ref 120]) K (c_X10_copies2 h 119 120 mP_119 mP_120 (by decide)) lX10_228 rfl ⟨by decide, by decide⟩ (Nat.le_of_ble_eq_true rfl) dX10_off_24 (fun r4 h4 hp4 => ?_) rfl
      obtain ⟨rfl, rfl⟩ := hp4
      refine v_none ?_
      have hRq1 : RR (rw2 h 120 (h 119)) s := hR.rwn
      have hEq1 : (rw2 h 120 (h 119)) 120 = s 119 := rw2_at.trans ((hR.1 119 RA_119))
      refine v_aload_n K dX10_off_27 rfl ?_
      refine v_aload_n K dX10_off_28 rfl ?_
      refine v_getr (q := 120) K fX10_13 sh_118 pl_118 gl_118_1 dX10_off_29 ?_
      refine v_iload_n K dX10_off_32 rfl ?_
      refine v_callV (As := [.ref 120, .int (nI j)]) K (c_X10_offIn ((rw2 h 120 (h 119))) s τ (s 119) j sz hRq1 hEq1 (hd) hI.x (by omega) hsz esz) lX10_265 ck_X10 rfl sh_118 pl_118 rfl ⟨by decide, by decide⟩ (Nat.le_of_ble_eq_true rfl) dX10_off_33 (fun r5 h5 hp5 => ?_) rfl
      obtain ⟨rfl, hRq2⟩ := hp5
      refine v_some ?_
      refine v_iret K dX10_off_36 ?_
      have eY : Y_off s τ (nI j) = (offF τ (s 119) (fun k => s 130 (40 * j + k)) sz, s) := by
        unfold Y_off
        refine (@if_neg _ (Classical.propDecidable _) (fun q => q ⟨j, hj, rfl⟩) _ _ _).trans ?_
        refine (@if_neg _ (Classical.propDecidable _) (by rw [cl_ix (show j < 2 ^ 31 by omega)]; exact hb) _ _ _).trans ?_
        rw [cl_ix (show j < 2 ^ 31 by omega), esz, cl_ix (show sz < 2 ^ 31 by omega)]
      exact rfin eY hRq2
    · exact absurd c3 (by decide)

theorem hun_a {τ : Nat → List Int32} {d : Dm} {f : Nat → Int32} {n a : Nat} (h : 1 ≤ a) : hunF τ d f n (a + 1 - 1) = if offF τ (upd d 2 (nI a)) f n < (hunF τ d f n (a - 1)).2 then (a, offF τ (upd d 2 (nI a)) f n) else hunF τ d f n (a - 1) := by
  obtain ⟨b, rfl⟩ : ∃ b, a = b + 1 := ⟨a - 1, by omega⟩
  rfl

abbrev P_X10_hungry (h s : Mm) (τ τk : Nat → List Int32) (w : Int32) : Option Value → Mm → Prop := fun r h2 => r = some (.int (Y_hungry s τ w).1) ∧ RR h2 (Y_hungry s τ w).2
theorem c_X10_hungry {l : Launch} (h s : Mm) (τ τk : Nat → List Int32) (w : Int32) (hR : RR h s) (hI : INV s τ τk) : Con l yX10_hungry cX10_hungry 7 (some .int) 45 1039 132 GL h [.ref 118, .int w] (P_X10_hungry h s τ τk w) := by
  refine Con.ofV (own := "FoxRoundsModel") (nm := "hungry") rfl rfl (by decide) (Nat.le_of_ble_eq_true rfl) ?_
  intro κ ρ hkl K
  subst hkl
  show V κ (QM κ (132, ρ, GL, 0, 0) (P_X10_hungry h s τ τk w)) 7 (132, ρ, GL, 0, 0) h 0 [(0, .ref 118), (1, .int w)] []
  have hd := hI.d
  have hn8 := hd.nw8
  have ht5 := hd.nt5
  refine v_aload_n K dX10_hungry_0 rfl ?_
  refine v_iload_n K dX10_hungry_1 rfl ?_
  refine v_callV (As := [.int w]) K (c_X10_whyNoSigns h s w hR) lX10_262 ck_X10 rfl sh_118 pl_118 rfl ⟨by decide, by decide⟩ (Nat.le_of_ble_eq_true rfl) dX10_hungry_2 (fun r1 h1 hp1 => ?_) rfl
  obtain ⟨⟨k, rfl, hk⟩, rfl⟩ := hp1
  refine v_some ?_
  rcases hk with ⟨rfl, hw⟩ | ⟨rfl, j, hj, rfl, hb⟩ | ⟨rfl, j, hj, rfl, hb⟩
  · skip
    skip
    refine v_istore_n (lv2 := [(2, .int (nI 1)), (0, .ref 118), (1, .int w)]) K dX10_hungry_5 (by decide) rfl ?_
    refine v_iload_n K dX10_hungry_6 rfl ?_
    refine v_ifN_eq (tgt := 16) K (by omega) dX10_hungry_7 rfl (fun c1 => ?_) (fun c1 => ?_)
    · exact absurd c1 (by decide)
    · skip
      refine v_aload_n K dX10_hungry_10 rfl ?_
      refine v_iload_n K dX10_hungry_11 rfl ?_
      refine v_callV (As := [.int (nI 1)]) K (c_X10_finds h 1 (by omega)) lX10_113 ck_X10 rfl sh_118 pl_118 rfl ⟨by decide, by decide⟩ (Nat.le_of_ble_eq_true rfl) dX10_hungry_12 (fun r2 h2 hp2 => ?_) rfl
      obtain ⟨rfl, rfl⟩ := hp2
      refine v_some ?_
      have hRf1 : RR (u2 h 122 1 (h 122 1 + nI 1)) (u2 s 122 1 (s 122 1 + nI 1)) := by rw [show (h 122 1) = s 122 1 from hR.at RA_122]; exact hR.u RA_122
      refine v_iret K dX10_hungry_15 ?_
      have eY : Y_hungry s τ w = ((-1000000000) - nI 1, (u2 s 122 1 (s 122 1 + nI 1))) := by
        unfold Y_hungry
        refine (@if_pos _ (Classical.propDecidable _) hw _ _ _).trans ?_
        first | rfl | (rfl)
      exact rfin eY hRf1
  · skip
    skip
    refine v_istore_n (lv2 := [(2, .int (nI 2)), (0, .ref 118), (1, .int (nI j))]) K dX10_hungry_5 (by decide) rfl ?_
    refine v_iload_n K dX10_hungry_6 rfl ?_
    refine v_ifN_eq (tgt := 16) K (by omega) dX10_hungry_7 rfl (fun c2 => ?_) (fun c2 => ?_)
    · exact absurd c2 (by decide)
    · skip
      refine v_aload_n K dX10_hungry_10 rfl ?_
      refine v_iload_n K dX10_hungry_11 rfl ?_
      refine v_callV (As := [.int (nI 2)]) K (c_X10_finds h 2 (by omega)) lX10_113 ck_X10 rfl sh_118 pl_118 rfl ⟨by decide, by decide⟩ (Nat.le_of_ble_eq_true rfl) dX10_hungry_12 (fun r3 h3 hp3 => ?_) rfl
      obtain ⟨rfl, rfl⟩ := hp3
      refine v_some ?_
      have hRf2 : RR (u2 h 122 2 (h 122 2 + nI 1)) (u2 s 122 2 (s 122 2 + nI 1)) := by rw [show (h 122 2) = s 122 2 from hR.at RA_122]; exact hR.u RA_122
      refine v_iret K dX10_hungry_15 ?_
      have eY : Y_hungry s τ (nI j) = ((-1000000000) - nI 2, (u2 s 122 2 (s 122 2 + nI 1))) := by
        unfold Y_hungry
        refine (@if_neg _ (Classical.propDecidable _) (fun q => q ⟨j, hj, rfl⟩) _ _ _).trans ?_
        refine (@if_pos _ (Classical.propDecidable _) (by rw [cl_ix (show j < 2 ^ 31 by omega)]; exact hb) _ _ _).trans ?_
        first | rfl | ((try rw [cl_ix (show j < 2 ^ 31 by omega)]))
      exact rfin eY hRf2
  · skip
    obtain ⟨-, sz, hsz, esz, -⟩ := hI.2.2.1 j hj
    refine v_istore_n (lv2 := [(2, .int (nI 0)), (0, .ref 118), (1, .int (nI j))]) K dX10_hungry_5 (by decide) rfl ?_
    refine v_iload_n K dX10_hungry_6 rfl ?_
    refine v_ifN_eq (tgt := 16) K (by omega) dX10_hungry_7 rfl (fun c3 => ?_) (fun c3 => ?_)
    · skip
      refine v_iconst (v := (-1)) K dX10_hungry_16 (by decide) ?_
      refine v_istore_n (lv2 := [(3, .int ((-1))), (2, .int (nI 0)), (0, .ref 118), (1, .int (nI j))]) K dX10_hungry_17 (by decide) rfl ?_
      refine v_iconstN K 0 rfl dX10_hungry_18 ?_
      refine v_istore (lv2 := [(4, .int (nI 0)), (3, .int ((-1))), (2, .int (nI 0)), (0, .ref 118), (1, .int (nI j))]) K dX10_hungry_19 (by decide) rfl ?_
      refine v_iconstN K 0 rfl dX10_hungry_21 ?_
      refine v_istore (lv2 := [(5, .int (nI 0)), (4, .int (nI 0)), (3, .int ((-1))), (2, .int (nI 0)), (0, .ref 118), (1, .int (nI j))]) K dX10_hungry_22 (by decide) rfl ?_
      have L24 : ∀ (mm : Nat) (bst : Int32) (lst : Int32) (a : Nat) (g1 : Mm) (ha : a ≤ 100) (hZ : RR g1 s) (hb2 : (a = 0 ∧ bst = (-1)) ∨ (1 ≤ a ∧ bst = nI (hunF τ (s 119) (fun k => s 130 (40 * j + k)) sz (a - 1)).1 ∧ lst = (hunF τ (s 119) (fun k => s 130 (40 * j + k)) sz (a - 1)).2)), 101 - a < mm → V κ (QM κ (132, ρ, GL, 0, 0) (P_X10_hungry h s τ τk (nI j))) 7 (132, ρ, GL, 0, 0) g1 24 [(0, .ref 118), (1, .int (nI j)), (3, .int bst), (4, .int lst), (5, .int (nI a))] [] := by
        intro mm
        induction mm with
        | zero => intro bst lst a g1 ha hZ hb2 hmm; exact absurd hmm (Nat.not_lt_zero _)
        | succ mm ih24 =>
          intro bst lst a g1 ha hZ hb2 hmm
          refine v_iload K dX10_hungry_24 rfl ?_
          refine v_bipushN K 100 rfl dX10_hungry_26 ?_
          refine v_icmpN_ge (tgt := 85) K (by omega) (by omega) dX10_hungry_28 rfl (fun c4 => ?_) (fun c4 => ?_)
          · skip
            rcases hb2 with ⟨h0, _⟩ | ⟨ha1, rfl, rfl⟩
            · exfalso; omega
            refine v_iload_n K dX10_hungry_85 rfl ?_
            refine v_iret K dX10_hungry_86 ?_
            have eY : Y_hungry s τ (nI j) = (nI ((hunF τ (s 119) (fun k => s 130 (40 * j + k)) sz (a - 1)).1), s) := by
              unfold Y_hungry
              refine (@if_neg _ (Classical.propDecidable _) (fun q => q ⟨j, hj, rfl⟩) _ _ _).trans ?_
              refine (@if_neg _ (Classical.propDecidable _) (by rw [cl_ix (show j < 2 ^ 31 by omega)]; exact hb) _ _ _).trans ?_
              rw [cl_ix (show j < 2 ^ 31 by omega), esz, cl_ix (show sz < 2 ^ 31 by omega), show (99 : Nat) = a - 1 by omega]
            exact rfin eY hZ
          · skip
            refine v_aload_n K dX10_hungry_31 rfl ?_
            refine v_getr (q := 119) K fX10_7 sh_118 pl_118 gl_118_0 dX10_hungry_32 ?_
            refine v_aload_n K dX10_hungry_35 rfl ?_
            refine v_getr (q := 120) K fX10_13 sh_118 pl_118 gl_118_1 dX10_hungry_36 ?_
            refine v_callS (As := [.ref 119, .ref 120]) K (c_X10_copies2 g1 119 120 mP_119 mP_120 (by decide)) lX10_228 rfl ⟨by decide, by decide⟩ (Nat.le_of_ble_eq_true rfl) dX10_hungry_39 (fun r4 h4 hp4 => ?_) rfl
            obtain ⟨rfl, rfl⟩ := hp4
            refine v_none ?_
            have hRq1 : RR (rw2 g1 120 (g1 119)) s := hZ.rwn
            have hEq1 : (rw2 g1 120 (g1 119)) 120 = s 119 := rw2_at.trans ((hZ.1 119 RA_119))
            refine v_aload_n K dX10_hungry_42 rfl ?_
            refine v_getr (q := 120) K fX10_13 sh_118 pl_118 gl_118_1 dX10_hungry_43 ?_
            refine v_iconstN K 2 rfl dX10_hungry_46 ?_
            refine v_iload K dX10_hungry_47 rfl ?_
            refine v_iast K sh_120 pl_120 (by omega) dX10_hungry_49 ?_
            have hEs1 : (u2 (rw2 g1 120 (g1 119)) 120 2 (nI a)) 120 = upd (s 119) 2 (nI a) := by rw [u2_row, hEq1]
            have hRs1 : RR (u2 (rw2 g1 120 (g1 119)) 120 2 (nI a)) s := hRq1.n (by unfold RA; omega) (by omega)
            refine v_aload_n K dX10_hungry_50 rfl ?_
            refine v_aload_n K dX10_hungry_51 rfl ?_
            refine v_getr (q := 120) K fX10_13 sh_118 pl_118 gl_118_1 dX10_hungry_52 ?_
            refine v_iload_n K dX10_hungry_55 rfl ?_
            refine v_callV (As := [.ref 120, .int (nI j)]) K (c_X10_offIn ((u2 (rw2 g1 120 (g1 119)) 120 2 (nI a))) s τ (upd (s 119) 2 (nI a)) j sz hRs1 hEs1 (hd.hung (by omega)) hI.x (by omega) hsz esz) lX10_265 ck_X10 rfl sh_118 pl_118 rfl ⟨by decide, by decide⟩ (Nat.le_of_ble_eq_true rfl) dX10_hungry_56 (fun r5 h5 hp5 => ?_) rfl
            obtain ⟨rfl, hRq2⟩ := hp5
            refine v_some ?_
            refine v_istore (lv2 := [(6, .int (offF τ (upd (s 119) 2 (nI a)) (fun k => s 130 (40 * j + k)) sz)), (0, .ref 118), (1, .int (nI j)), (3, .int bst), (4, .int lst), (5, .int (nI a))]) K dX10_hungry_59 (by decide) rfl ?_
            rcases hb2 with ⟨rfl, rfl⟩ | ⟨ha1, rfl, rfl⟩
            · skip
              skip
              refine v_iload_n K dX10_hungry_61 rfl ?_
              refine v_if_lt (tgt := 72) K dX10_hungry_62 rfl (fun c5 => ?_) (fun c5 => ?_)
              · skip
                refine v_iload K dX10_hungry_72 rfl ?_
                refine v_istore_n (lv2 := [(3, .int (nI 0)), (6, .int (offF τ (upd (s 119) 2 (nI 0)) (fun k => s 130 (40 * j + k)) sz)), (0, .ref 118), (1, .int (nI j)), (4, .int lst), (5, .int (nI 0))]) K dX10_hungry_74 (by decide) rfl ?_
                refine v_iload K dX10_hungry_75 rfl ?_
                refine v_istore (lv2 := [(4, .int (offF τ (upd (s 119) 2 (nI 0)) (fun k => s 130 (40 * j + k)) sz)), (3, .int (nI 0)), (6, .int (offF τ (upd (s 119) 2 (nI 0)) (fun k => s 130 (40 * j + k)) sz)), (0, .ref 118), (1, .int (nI j)), (5, .int (nI 0))]) K dX10_hungry_77 (by decide) rfl ?_
                refine v_iincN (lv2 := [(5, .int (nI (0 + 1))), (4, .int (offF τ (upd (s 119) 2 (nI 0)) (fun k => s 130 (40 * j + k)) sz)), (3, .int (nI 0)), (6, .int (offF τ (upd (s 119) 2 (nI 0)) (fun k => s 130 (40 * j + k)) sz)), (0, .ref 118), (1, .int (nI j))]) K 1 dX10_hungry_79 rfl rfl (by decide) rfl ?_
                refine v_goto (tgt := 24) K dX10_hungry_82 rfl ?_
                refine v_sub (lv2 := [(0, .ref 118), (1, .int (nI j)), (3, .int (nI 0)), (4, .int (offF τ (upd (s 119) 2 (nI 0)) (fun k => s 130 (40 * j + k)) sz)), (5, .int (nI (0 + 1)))]) (by simp) ?_
                exact ih24 (nI 0) (offF τ (upd (s 119) 2 (nI 0)) (fun k => s 130 (40 * j + k)) sz) (0 + 1) h5 (by first | assumption | omega | rfl) (by exact hRq2) (by exact Or.inr ⟨by omega, rfl, rfl⟩) (by omega)
              · skip
                exact absurd (by decide) c5
            · skip
              skip
              refine v_iload_n K dX10_hungry_61 rfl ?_
              refine v_if_lt (tgt := 72) K dX10_hungry_62 rfl (fun c6 => ?_) (fun c6 => ?_)
              · skip
                exact absurd c6 (nlt0 (by have := hun_le (τ := τ) (d := s 119) (f := fun k => s 130 (40 * j + k)) (n := sz) (a - 1); omega))
              · skip
                refine v_iload K dX10_hungry_65 rfl ?_
                refine v_iload K dX10_hungry_67 rfl ?_
                refine v_icmp_ge (tgt := 79) K dX10_hungry_69 rfl (fun c7 => ?_) (fun c7 => ?_)
                · skip
                  refine v_iincN (lv2 := [(5, .int (nI (a + 1))), (6, .int (offF τ (upd (s 119) 2 (nI a)) (fun k => s 130 (40 * j + k)) sz)), (0, .ref 118), (1, .int (nI j)), (3, .int (nI ((hunF τ (s 119) (fun k => s 130 (40 * j + k)) sz (a - 1)).1))), (4, .int ((hunF τ (s 119) (fun k => s 130 (40 * j + k)) sz (a - 1)).2))]) K 1 dX10_hungry_79 rfl rfl (by decide) rfl ?_
                  refine v_goto (tgt := 24) K dX10_hungry_82 rfl ?_
                  refine v_sub (lv2 := [(0, .ref 118), (1, .int (nI j)), (3, .int (nI ((hunF τ (s 119) (fun k => s 130 (40 * j + k)) sz (a - 1)).1))), (4, .int ((hunF τ (s 119) (fun k => s 130 (40 * j + k)) sz (a - 1)).2)), (5, .int (nI (a + 1)))]) (by simp) ?_
                  exact ih24 (nI ((hunF τ (s 119) (fun k => s 130 (40 * j + k)) sz (a - 1)).1)) ((hunF τ (s 119) (fun k => s 130 (40 * j + k)) sz (a - 1)).2) (a + 1) h5 (by first | assumption | omega | rfl) (by exact hRq2) (by exact Or.inr ⟨by omega, by rw [hun_a ha1, if_neg (Int32.not_lt.mpr c7)], by rw [hun_a ha1, if_neg (Int32.not_lt.mpr c7)]⟩) (by omega)
                · skip
                  refine v_iload K dX10_hungry_72 rfl ?_
                  refine v_istore_n (lv2 := [(3, .int (nI a)), (6, .int (offF τ (upd (s 119) 2 (nI a)) (fun k => s 130 (40 * j + k)) sz)), (0, .ref 118), (1, .int (nI j)), (4, .int ((hunF τ (s 119) (fun k => s 130 (40 * j + k)) sz (a - 1)).2)), (5, .int (nI a))]) K dX10_hungry_74 (by decide) rfl ?_
                  refine v_iload K dX10_hungry_75 rfl ?_
                  refine v_istore (lv2 := [(4, .int (offF τ (upd (s 119) 2 (nI a)) (fun k => s 130 (40 * j + k)) sz)), (3, .int (nI a)), (6, .int (offF τ (upd (s 119) 2 (nI a)) (fun k => s 130 (40 * j + k)) sz)), (0, .ref 118), (1, .int (nI j)), (5, .int (nI a))]) K dX10_hungry_77 (by decide) rfl ?_
                  refine v_iincN (lv2 := [(5, .int (nI (a + 1))), (4, .int (offF τ (upd (s 119) 2 (nI a)) (fun k => s 130 (40 * j + k)) sz)), (3, .int (nI a)), (6, .int (offF τ (upd (s 119) 2 (nI a)) (fun k => s 130 (40 * j + k)) sz)), (0, .ref 118), (1, .int (nI j))]) K 1 dX10_hungry_79 rfl rfl (by decide) rfl ?_
                  refine v_goto (tgt := 24) K dX10_hungry_82 rfl ?_
                  refine v_sub (lv2 := [(0, .ref 118), (1, .int (nI j)), (3, .int (nI a)), (4, .int (offF τ (upd (s 119) 2 (nI a)) (fun k => s 130 (40 * j + k)) sz)), (5, .int (nI (a + 1)))]) (by simp) ?_
                  exact ih24 (nI a) (offF τ (upd (s 119) 2 (nI a)) (fun k => s 130 (40 * j + k)) sz) (a + 1) h5 (by first | assumption | omega | rfl) (by exact hRq2) (by exact Or.inr ⟨by omega, by rw [hun_a ha1, if_pos (Int32.not_le.mp c7)], by rw [hun_a ha1, if_pos (Int32.not_le.mp c7)]⟩) (by omega)
      refine v_sub (lv2 := [(0, .ref 118), (1, .int (nI j)), (3, .int ((-1))), (4, .int (nI 0)), (5, .int (nI 0))]) (by simp) ?_
      exact L24 (101 - 0 + 1) ((-1)) (nI 0) 0 h (by first | assumption | omega | rfl) (by exact hR) (by exact Or.inl ⟨rfl, rfl⟩) (Nat.lt_succ_self _)
    · exact absurd c3 (by decide)
