def thenV (x : Dm) (k : Nat) : Int32 := match k with
  | 0 => x 0
  | 1 => x 9
  | 2 => x 2
  | 3 => x 3
  | 4 => fearD x
  | _ => boldD x
def drwV (z : Int32) : Int32 := (z.toUInt32 >>> ((nI 8).toUInt32 &&& Int32.toUInt32 31)).toInt32
def careD (c : Int32) (d : Dm) : Dm := if drwV (d 12 * 1103515245 + nI 12345) - drwV (d 12 * 1103515245 + nI 12345) / nI 100 * nI 100 < c then upd (upd d 12 (d 12 * 1103515245 + nI 12345)) 4 (nI 1) else upd d 12 (d 12 * 1103515245 + nI 12345)
noncomputable def carD (τ : Nat → List Int32) (c : Int32) (d : Dm) : Nat → Dm
  | 0 => d
  | k + 1 => nightD τ (careD c (carD τ c d k))
/-- the first night from the k-th on with a loss, within so many -/
noncomputable def lossF (τ : Nat → List Int32) (d : Dm) : Nat → Nat → Option Nat
  | 0, _ => none
  | m + 1, k => if d 9 < nightsD τ d k 9 then some k else lossF τ d m (k + 1)
noncomputable def unlF (τ : Nat → List Int32) (d : Dm) (f : Nat → Int32) : Nat → Nat → Int32
  | 0, _ => nI 0
  | m + 1, k => if byD τ (nightsD τ d k) = f k then unlF τ d f m (k + 1) else nI (k + 1)
theorem INV.t8 {s : Mm} {τ τk : Nat → List Int32} (H : INV s τ τk) : ∃ n, n < 1000 ∧ s 119 8 = nI n := H.1.1.2.2.2.1

noncomputable def Y_nights (s : Mm) (τ : Nat → List Int32) (n : Int32) : Rs := @ite _ (¬ (nI 1 ≤ n ∧ n ≤ nI 60)) (Classical.propDecidable _) (er s 1) ( @ite _ (999 < (s 119 8).toNatClampNeg + n.toNatClampNeg) (Classical.propDecidable _) (er s 3) ( (nightsD τ (s 119) n.toNatClampNeg 0, rw2 s 119 (nightsD τ (s 119) n.toNatClampNeg))))

noncomputable def Y_then (s : Mm) (τ : Nat → List Int32) (n k : Int32) : Rs := @ite _ (ix n 61 ∧ ix k 6) (Classical.propDecidable _) (thenV (nightsD τ (s 119) n.toNatClampNeg) k.toNatClampNeg, s) ( er s 1)

noncomputable def Y_thenWay (s : Mm) (τ : Nat → List Int32) (n w k : Int32) : Rs := @ite _ (ix n 61 ∧ ix w (nwD (s 119)) ∧ ix k 7) (Classical.propDecidable _) (partD (nightsD τ (s 119) n.toNatClampNeg) w.toNatClampNeg k.toNatClampNeg, s) ( er s 1)

noncomputable def Y_by (s : Mm) (τ : Nat → List Int32) : Rs := (byD τ (s 119), s)

abbrev P_X10_nights (h s : Mm) (τ τk : Nat → List Int32) (n : Int32) : Option Value → Mm → Prop := fun r h2 => r = some (.int (Y_nights s τ n).1) ∧ RR h2 (Y_nights s τ n).2
theorem c_X10_nights {l : Launch} (h s : Mm) (τ τk : Nat → List Int32) (n : Int32) (hR : RR h s) (hI : INV s τ τk) : Con l yX10_nights cX10_nights 2 (some .int) 44 1013 132 GL h [.ref 118, .int n] (P_X10_nights h s τ τk n) := by
  refine Con.ofV (own := "FoxRoundsModel") (nm := "nights") rfl rfl (by decide) (Nat.le_of_ble_eq_true rfl) ?_
  intro κ ρ hkl K
  subst hkl
  show V κ (QM κ (132, ρ, GL, 0, 0) (P_X10_nights h s τ τk n)) 2 (132, ρ, GL, 0, 0) h 0 [(0, .ref 118), (1, .int n)] []
  have hd := hI.d
  have hn8 := hd.nw8
  have ht5 := hd.nt5
  obtain ⟨tn, htn, etn⟩ := hI.t8
  refine v_iload_n K dX10_nights_0 rfl ?_
  refine v_i2l K dX10_nights_1 rfl ?_
  refine v_lconst (v := (nI 1).toInt64) K dX10_nights_2 (by decide) ?_
  refine v_ldc2 K kX10_145 dX10_nights_3 ?_
  refine v_topL (y := (nI 60).toInt64) (by decide) ?_
  refine v_callS (As := [.long n.toInt64, .long (nI 1).toInt64, .long (nI 60).toInt64]) K (c_X10_in h n (nI 1) (nI 60)) lX10_51 rfl ⟨by decide, by decide⟩ (Nat.le_of_ble_eq_true rfl) dX10_nights_6 (fun r1 h1 hp1 => ?_) rfl
  obtain ⟨rfl, rfl⟩ := hp1
  refine v_some ?_
  refine v_ifB_ne (tgt := 18) K dX10_nights_9 rfl (fun c1 => ?_) (fun c1 => ?_)
  · skip
    have c0 := c1
    obtain ⟨j, hj1, hjn, rfl⟩ := in_lo (n := 60) (by decide) c1
    refine v_aload_n K dX10_nights_18 rfl ?_
    refine v_getr (q := 119) K fX10_7 sh_118 pl_118 gl_118_0 dX10_nights_19 ?_
    refine v_bipushN K 8 rfl dX10_nights_22 ?_
    refine v_iald (x := nI tn) K sh_119 pl_119 (by omega) ((hR.at RA_119).trans etn) dX10_nights_24 ?_
    refine v_iload_n K dX10_nights_25 rfl ?_
    refine v_iaddN K dX10_nights_26 ?_
    refine v_sipushN K 999 rfl dX10_nights_27 ?_
    refine v_icmpN_le (tgt := 39) K (by omega) (by omega) dX10_nights_30 rfl (fun c2 => ?_) (fun c2 => ?_)
    · skip
      refine v_aload_n K dX10_nights_39 rfl ?_
      refine v_aload_n K dX10_nights_40 rfl ?_
      refine v_getr (q := 119) K fX10_7 sh_118 pl_118 gl_118_0 dX10_nights_41 ?_
      refine v_iload_n K dX10_nights_44 rfl ?_
      refine v_callV (As := [.ref 119, .int (nI j)]) K (c_X10_goesOn h τ 119 j mP_119 (by rw [hR.1 119 RA_119]; exact hd) (by rw [hR.1 119 RA_119]; exact hI.x) (by omega)) lX10_222 ck_X10 rfl sh_118 pl_118 rfl ⟨by decide, by decide⟩ (Nat.le_of_ble_eq_true rfl) dX10_nights_45 (fun r2 h2 hp2 => ?_) rfl
      obtain ⟨rfl, hDq1, hTq1, hGq1⟩ := hp2
      have hRq1 : RR h2 (rw2 s 119 (nightsD τ (s 119) j)) := by have hx := RR.G119 hR hGq1; rw [hDq1, hR.1 119 RA_119] at hx; exact hx
      refine v_none ?_
      refine v_aload_n K dX10_nights_48 rfl ?_
      refine v_getr (q := 119) K fX10_7 sh_118 pl_118 gl_118_0 dX10_nights_49 ?_
      refine v_iconstN K 0 rfl dX10_nights_52 ?_
      refine v_iald (x := (rw2 s 119 (nightsD τ (s 119) j)) 119 0) K sh_119 pl_119 (by omega) (hRq1.at RA_119) dX10_nights_53 ?_
      refine v_iret K dX10_nights_54 ?_
      have eY : Y_nights s τ (nI j) = ((rw2 s 119 (nightsD τ (s 119) j)) 119 0, (rw2 s 119 (nightsD τ (s 119) j))) := by
        unfold Y_nights
        refine (@if_neg _ (Classical.propDecidable _) (fun q => q c0) _ _ _).trans ?_
        refine (@if_neg _ (Classical.propDecidable _) (by rw [etn, cl_ix (show tn < 2 ^ 31 by omega), cl_ix (show j < 2 ^ 31 by omega)]; omega) _ _ _).trans ?_
        (rw [cl_ix (show j < 2 ^ 31 by omega)]; rfl)
      exact rfin eY hRq1
    · skip
      refine v_aload_n K dX10_nights_33 rfl ?_
      refine v_iconstN K 3 rfl dX10_nights_34 ?_
      refine v_callV (As := [.int (nI 3)]) K (c_X10_finds h 3 (by omega)) lX10_113 ck_X10 rfl sh_118 pl_118 rfl ⟨by decide, by decide⟩ (Nat.le_of_ble_eq_true rfl) dX10_nights_35 (fun r3 h3 hp3 => ?_) rfl
      obtain ⟨rfl, rfl⟩ := hp3
      refine v_some ?_
      have hRf1 : RR (u2 h 122 3 (h 122 3 + nI 1)) (u2 s 122 3 (s 122 3 + nI 1)) := by rw [show (h 122 3) = s 122 3 from hR.at RA_122]; exact hR.u RA_122
      refine v_iret K dX10_nights_38 ?_
      have eY : Y_nights s τ (nI j) = ((-1000000000) - nI 3, (u2 s 122 3 (s 122 3 + nI 1))) := by
        unfold Y_nights
        refine (@if_neg _ (Classical.propDecidable _) (fun q => q c0) _ _ _).trans ?_
        refine (@if_pos _ (Classical.propDecidable _) (by rw [etn, cl_ix (show tn < 2 ^ 31 by omega), cl_ix (show j < 2 ^ 31 by omega)]; omega) _ _ _).trans ?_
        first | rfl | ((try rw [cl_ix (show j < 2 ^ 31 by omega)]))
      exact rfin eY hRf1
  · skip
    refine v_aload_n K dX10_nights_12 rfl ?_
    refine v_iconstN K 1 rfl dX10_nights_13 ?_
    refine v_callV (As := [.int (nI 1)]) K (c_X10_finds h 1 (by omega)) lX10_113 ck_X10 rfl sh_118 pl_118 rfl ⟨by decide, by decide⟩ (Nat.le_of_ble_eq_true rfl) dX10_nights_14 (fun r4 h4 hp4 => ?_) rfl
    obtain ⟨rfl, rfl⟩ := hp4
    refine v_some ?_
    have hRf2 : RR (u2 h 122 1 (h 122 1 + nI 1)) (u2 s 122 1 (s 122 1 + nI 1)) := by rw [show (h 122 1) = s 122 1 from hR.at RA_122]; exact hR.u RA_122
    refine v_iret K dX10_nights_17 ?_
    have eY : Y_nights s τ n = ((-1000000000) - nI 1, (u2 s 122 1 (s 122 1 + nI 1))) := by
      unfold Y_nights
      refine (@if_pos _ (Classical.propDecidable _) (by assumption) _ _ _).trans ?_
      first | rfl | (rfl)
    exact rfin eY hRf2

abbrev P_X10_then (h s : Mm) (τ τk : Nat → List Int32) (n k : Int32) : Option Value → Mm → Prop := fun r h2 => r = some (.int (Y_then s τ n k).1) ∧ RR h2 (Y_then s τ n k).2
theorem c_X10_then {l : Launch} (h s : Mm) (τ τk : Nat → List Int32) (n k : Int32) (hR : RR h s) (hI : INV s τ τk) : Con l yX10_then cX10_then 3 (some .int) 45 1034 132 GL h [.ref 118, .int n, .int k] (P_X10_then h s τ τk n k) := by
  refine Con.ofV (own := "FoxRoundsModel") (nm := "then") rfl rfl (by decide) (Nat.le_of_ble_eq_true rfl) ?_
  intro κ ρ hkl K
  subst hkl
  show V κ (QM κ (132, ρ, GL, 0, 0) (P_X10_then h s τ τk n k)) 3 (132, ρ, GL, 0, 0) h 0 [(0, .ref 118), (1, .int n), (2, .int k)] []
  have hd := hI.d
  have hn8 := hd.nw8
  have ht5 := hd.nt5
  refine v_iload_n K dX10_then_0 rfl ?_
  refine v_callS (As := [.int n]) K (c_X10_isAhead h n) lX10_232 rfl ⟨by decide, by decide⟩ (Nat.le_of_ble_eq_true rfl) dX10_then_1 (fun r1 h1 hp1 => ?_) rfl
  obtain ⟨rfl, rfl⟩ := hp1
  refine v_some ?_
  refine v_ifB_eq (tgt := 19) K dX10_then_4 rfl (fun c1 => ?_) (fun c1 => ?_)
  · skip
    refine v_aload_n K dX10_then_19 rfl ?_
    refine v_iconstN K 1 rfl dX10_then_20 ?_
    refine v_callV (As := [.int (nI 1)]) K (c_X10_finds h 1 (by omega)) lX10_113 ck_X10 rfl sh_118 pl_118 rfl ⟨by decide, by decide⟩ (Nat.le_of_ble_eq_true rfl) dX10_then_21 (fun r2 h2 hp2 => ?_) rfl
    obtain ⟨rfl, rfl⟩ := hp2
    refine v_some ?_
    have hRf1 : RR (u2 h 122 1 (h 122 1 + nI 1)) (u2 s 122 1 (s 122 1 + nI 1)) := by rw [show (h 122 1) = s 122 1 from hR.at RA_122]; exact hR.u RA_122
    refine v_iret K dX10_then_24 ?_
    have eY : Y_then s τ n k = ((-1000000000) - nI 1, (u2 s 122 1 (s 122 1 + nI 1))) := by
      unfold Y_then
      refine (@if_neg _ (Classical.propDecidable _) (fun q => by first | exact absurd q.1 (by assumption) | exact absurd q.2 (by assumption)) _ _ _).trans ?_
      first | rfl | (rfl)
    exact rfin eY hRf1
  · skip
    obtain ⟨j1, Hj1, rfl⟩ := c1
    refine v_iload_n K dX10_then_7 rfl ?_
    refine v_i2l K dX10_then_8 rfl ?_
    refine v_lconst (v := (nI 0).toInt64) K dX10_then_9 (by decide) ?_
    refine v_ldc2 K kX10_235 dX10_then_10 ?_
    refine v_topL (y := (nI 5).toInt64) (by decide) ?_
    refine v_callS (As := [.long k.toInt64, .long (nI 0).toInt64, .long (nI 5).toInt64]) K (c_X10_in h k (nI 0) (nI 5)) lX10_51 rfl ⟨by decide, by decide⟩ (Nat.le_of_ble_eq_true rfl) dX10_then_13 (fun r3 h3 hp3 => ?_) rfl
    obtain ⟨rfl, rfl⟩ := hp3
    refine v_some ?_
    rw [show (nI 0 ≤ k ∧ k ≤ nI 5) = ix k 6 from in_ix (by decide)]
    refine v_ifB_ne (tgt := 25) K dX10_then_16 rfl (fun c2 => ?_) (fun c2 => ?_)
    · skip
      obtain ⟨j2, Hj2, rfl⟩ := c2
      refine v_aload_n K dX10_then_25 rfl ?_
      refine v_iload_n K dX10_then_26 rfl ?_
      refine v_callV (As := [.int (nI j1)]) K (c_X10_ahead h τ j1 (by rw [hR.1 119 RA_119]; exact hd) (by rw [hR.1 119 RA_119]; exact hI.x) (by omega)) lX10_237 ck_X10 rfl sh_118 pl_118 rfl ⟨by decide, by decide⟩ (Nat.le_of_ble_eq_true rfl) dX10_then_27 (fun r4 h4 hp4 => ?_) rfl
      obtain ⟨rfl, hDq1, hGq1⟩ := hp4
      rw [hR.1 119 RA_119] at hDq1
      have hRq1 := hR.G (by unfold RA; omega) hGq1
      have hde : DOK (nightsD τ (s 119) j1) := hd.nights _
      refine v_none ?_
      refine v_iload_n K dX10_then_30 rfl ?_
      obtain rfl | rfl | rfl | rfl | rfl | rfl : j2 = 0 ∨ j2 = 1 ∨ j2 = 2 ∨ j2 = 3 ∨ j2 = 4 ∨ j2 = 5 := by omega
      · skip
        refine v_tinN (off := 33) (tgt := 64) K (by decide) 0 dX10_then_31 (by decide) (by decide) (by decide) rfl rfl ?_
        refine v_aload_n K dX10_then_64 rfl ?_
        refine v_getr (q := 120) K fX10_13 sh_118 pl_118 gl_118_1 dX10_then_65 ?_
        refine v_iconstN K 0 rfl dX10_then_68 ?_
        refine v_iald (x := nightsD τ (s 119) j1 0) K sh_120 pl_120 (by omega) (congrFun hDq1 _) dX10_then_69 ?_
        refine v_iret K dX10_then_70 ?_
        have eY : Y_then s τ (nI j1) (nI 0) = (nightsD τ (s 119) j1 0, s) := by
          unfold Y_then
          refine (@if_pos _ (Classical.propDecidable _) (by refine ⟨?_, ?_⟩ <;> (first | assumption | exact ⟨_, by assumption, rfl⟩ | exact Or.inl rfl | exact Or.inr (Or.inl rfl) | exact Or.inr (Or.inr rfl) | omega)) _ _ _).trans ?_
          (rw [cl_ix (show j1 < 2 ^ 31 by omega)]; rfl)
        exact rfin eY hRq1
      · skip
        refine v_tinN (off := 40) (tgt := 71) K (by decide) 1 dX10_then_31 (by decide) (by decide) (by decide) rfl rfl ?_
        refine v_aload_n K dX10_then_71 rfl ?_
        refine v_getr (q := 120) K fX10_13 sh_118 pl_118 gl_118_1 dX10_then_72 ?_
        refine v_bipushN K 9 rfl dX10_then_75 ?_
        refine v_iald (x := nightsD τ (s 119) j1 9) K sh_120 pl_120 (by omega) (congrFun hDq1 _) dX10_then_77 ?_
        refine v_iret K dX10_then_78 ?_
        have eY : Y_then s τ (nI j1) (nI 1) = (nightsD τ (s 119) j1 9, s) := by
          unfold Y_then
          refine (@if_pos _ (Classical.propDecidable _) (by refine ⟨?_, ?_⟩ <;> (first | assumption | exact ⟨_, by assumption, rfl⟩ | exact Or.inl rfl | exact Or.inr (Or.inl rfl) | exact Or.inr (Or.inr rfl) | omega)) _ _ _).trans ?_
          (rw [cl_ix (show j1 < 2 ^ 31 by omega)]; rfl)
        exact rfin eY hRq1
      · skip
        refine v_tinN (off := 48) (tgt := 79) K (by decide) 2 dX10_then_31 (by decide) (by decide) (by decide) rfl rfl ?_
        refine v_aload_n K dX10_then_79 rfl ?_
        refine v_getr (q := 120) K fX10_13 sh_118 pl_118 gl_118_1 dX10_then_80 ?_
        refine v_iconstN K 2 rfl dX10_then_83 ?_
        refine v_iald (x := nightsD τ (s 119) j1 2) K sh_120 pl_120 (by omega) (congrFun hDq1 _) dX10_then_84 ?_
        refine v_iret K dX10_then_85 ?_
        have eY : Y_then s τ (nI j1) (nI 2) = (nightsD τ (s 119) j1 2, s) := by
          unfold Y_then
          refine (@if_pos _ (Classical.propDecidable _) (by refine ⟨?_, ?_⟩ <;> (first | assumption | exact ⟨_, by assumption, rfl⟩ | exact Or.inl rfl | exact Or.inr (Or.inl rfl) | exact Or.inr (Or.inr rfl) | omega)) _ _ _).trans ?_
          (rw [cl_ix (show j1 < 2 ^ 31 by omega)]; rfl)
        exact rfin eY hRq1
      · skip
        refine v_tinN (off := 55) (tgt := 86) K (by decide) 3 dX10_then_31 (by decide) (by decide) (by decide) rfl rfl ?_
        refine v_aload_n K dX10_then_86 rfl ?_
        refine v_getr (q := 120) K fX10_13 sh_118 pl_118 gl_118_1 dX10_then_87 ?_
        refine v_iconstN K 3 rfl dX10_then_90 ?_
        refine v_iald (x := nightsD τ (s 119) j1 3) K sh_120 pl_120 (by omega) (congrFun hDq1 _) dX10_then_91 ?_
        refine v_iret K dX10_then_92 ?_
        have eY : Y_then s τ (nI j1) (nI 3) = (nightsD τ (s 119) j1 3, s) := by
          unfold Y_then
          refine (@if_pos _ (Classical.propDecidable _) (by refine ⟨?_, ?_⟩ <;> (first | assumption | exact ⟨_, by assumption, rfl⟩ | exact Or.inl rfl | exact Or.inr (Or.inl rfl) | exact Or.inr (Or.inr rfl) | omega)) _ _ _).trans ?_
          (rw [cl_ix (show j1 < 2 ^ 31 by omega)]; rfl)
        exact rfin eY hRq1
      · skip
        refine v_tinN (off := 62) (tgt := 93) K (by decide) 4 dX10_then_31 (by decide) (by decide) (by decide) rfl rfl ?_
        refine v_aload_n K dX10_then_93 rfl ?_
        refine v_getr (q := 120) K fX10_13 sh_118 pl_118 gl_118_1 dX10_then_94 ?_
        refine v_callS (As := [.ref 120]) K (c_X10_fearOf h4 120 mP_120 (by rw [hDq1]; exact hde)) lX10_198 rfl ⟨by decide, by decide⟩ (Nat.le_of_ble_eq_true rfl) dX10_then_97 (fun r5 h5 hp5 => ?_) rfl
        obtain ⟨rfl, rfl⟩ := hp5
        refine v_some ?_
        rw [hDq1]
        refine v_iret K dX10_then_100 ?_
        have eY : Y_then s τ (nI j1) (nI 4) = (fearD (nightsD τ (s 119) j1), s) := by
          unfold Y_then
          refine (@if_pos _ (Classical.propDecidable _) (by refine ⟨?_, ?_⟩ <;> (first | assumption | exact ⟨_, by assumption, rfl⟩ | exact Or.inl rfl | exact Or.inr (Or.inl rfl) | exact Or.inr (Or.inr rfl) | omega)) _ _ _).trans ?_
          (rw [cl_ix (show j1 < 2 ^ 31 by omega)]; rfl)
        exact rfin eY hRq1
      · skip
        refine v_toutN (tgt := 101) K (by decide) dX10_then_31 (by decide) rfl ?_
        refine v_aload_n K dX10_then_101 rfl ?_
        refine v_getr (q := 120) K fX10_13 sh_118 pl_118 gl_118_1 dX10_then_102 ?_
        refine v_callS (As := [.ref 120]) K (c_X10_boldOf h4 120 mP_120 (by rw [hDq1]; exact hde)) lX10_202 rfl ⟨by decide, by decide⟩ (Nat.le_of_ble_eq_true rfl) dX10_then_105 (fun r6 h6 hp6 => ?_) rfl
        obtain ⟨rfl, rfl⟩ := hp6
        refine v_some ?_
        rw [hDq1]
        refine v_iret K dX10_then_108 ?_
        have eY : Y_then s τ (nI j1) (nI 5) = (boldD (nightsD τ (s 119) j1), s) := by
          unfold Y_then
          refine (@if_pos _ (Classical.propDecidable _) (by refine ⟨?_, ?_⟩ <;> (first | assumption | exact ⟨_, by assumption, rfl⟩ | exact Or.inl rfl | exact Or.inr (Or.inl rfl) | exact Or.inr (Or.inr rfl) | omega)) _ _ _).trans ?_
          (rw [cl_ix (show j1 < 2 ^ 31 by omega)]; rfl)
        exact rfin eY hRq1
    · skip
      refine v_aload_n K dX10_then_19 rfl ?_
      refine v_iconstN K 1 rfl dX10_then_20 ?_
      refine v_callV (As := [.int (nI 1)]) K (c_X10_finds h 1 (by omega)) lX10_113 ck_X10 rfl sh_118 pl_118 rfl ⟨by decide, by decide⟩ (Nat.le_of_ble_eq_true rfl) dX10_then_21 (fun r7 h7 hp7 => ?_) rfl
      obtain ⟨rfl, rfl⟩ := hp7
      refine v_some ?_
      have hRf2 : RR (u2 h 122 1 (h 122 1 + nI 1)) (u2 s 122 1 (s 122 1 + nI 1)) := by rw [show (h 122 1) = s 122 1 from hR.at RA_122]; exact hR.u RA_122
      refine v_iret K dX10_then_24 ?_
      have eY : Y_then s τ (nI j1) k = ((-1000000000) - nI 1, (u2 s 122 1 (s 122 1 + nI 1))) := by
        unfold Y_then
        refine (@if_neg _ (Classical.propDecidable _) (fun q => by first | exact absurd q.1 (by assumption) | exact absurd q.2 (by assumption)) _ _ _).trans ?_
        first | rfl | ((try rw [cl_ix (show j1 < 2 ^ 31 by omega)]))
      exact rfin eY hRf2

abbrev P_X10_thenWay (h s : Mm) (τ τk : Nat → List Int32) (n w k : Int32) : Option Value → Mm → Prop := fun r h2 => r = some (.int (Y_thenWay s τ n w k).1) ∧ RR h2 (Y_thenWay s τ n w k).2
theorem c_X10_thenWay {l : Launch} (h s : Mm) (τ τk : Nat → List Int32) (n w k : Int32) (hR : RR h s) (hI : INV s τ τk) : Con l yX10_thenWay cX10_thenWay 4 (some .int) 45 1034 132 GL h [.ref 118, .int n, .int w, .int k] (P_X10_thenWay h s τ τk n w k) := by
  refine Con.ofV (own := "FoxRoundsModel") (nm := "thenWay") rfl rfl (by decide) (Nat.le_of_ble_eq_true rfl) ?_
  intro κ ρ hkl K
  subst hkl
  show V κ (QM κ (132, ρ, GL, 0, 0) (P_X10_thenWay h s τ τk n w k)) 4 (132, ρ, GL, 0, 0) h 0 [(0, .ref 118), (1, .int n), (2, .int w), (3, .int k)] []
  have hd := hI.d
  have hn8 := hd.nw8
  have ht5 := hd.nt5
  refine v_iload_n K dX10_thenWay_0 rfl ?_
  refine v_callS (As := [.int n]) K (c_X10_isAhead h n) lX10_232 rfl ⟨by decide, by decide⟩ (Nat.le_of_ble_eq_true rfl) dX10_thenWay_1 (fun r1 h1 hp1 => ?_) rfl
  obtain ⟨rfl, rfl⟩ := hp1
  refine v_some ?_
  refine v_ifB_eq (tgt := 27) K dX10_thenWay_4 rfl (fun c1 => ?_) (fun c1 => ?_)
  · skip
    refine v_aload_n K dX10_thenWay_27 rfl ?_
    refine v_iconstN K 1 rfl dX10_thenWay_28 ?_
    refine v_callV (As := [.int (nI 1)]) K (c_X10_finds h 1 (by omega)) lX10_113 ck_X10 rfl sh_118 pl_118 rfl ⟨by decide, by decide⟩ (Nat.le_of_ble_eq_true rfl) dX10_thenWay_29 (fun r2 h2 hp2 => ?_) rfl
    obtain ⟨rfl, rfl⟩ := hp2
    refine v_some ?_
    have hRf1 : RR (u2 h 122 1 (h 122 1 + nI 1)) (u2 s 122 1 (s 122 1 + nI 1)) := by rw [show (h 122 1) = s 122 1 from hR.at RA_122]; exact hR.u RA_122
    refine v_iret K dX10_thenWay_32 ?_
    have eY : Y_thenWay s τ n w k = ((-1000000000) - nI 1, (u2 s 122 1 (s 122 1 + nI 1))) := by
      unfold Y_thenWay
      refine (@if_neg _ (Classical.propDecidable _) (fun q => by first | exact absurd q.1 (by assumption) | exact absurd q.2.1 (by assumption) | exact absurd q.2.2 (by assumption)) _ _ _).trans ?_
      first | rfl | (rfl)
    exact rfin eY hRf1
  · skip
    obtain ⟨j1, Hj1, rfl⟩ := c1
    refine v_aload_n K dX10_thenWay_7 rfl ?_
    refine v_iload_n K dX10_thenWay_8 rfl ?_
    refine v_callV (As := [.int w]) K (c_X10_isWay h w (nwD (s 119)) ((hR.at RA_119).trans hd.nw) (by omega)) lX10_174 ck_X10 rfl sh_118 pl_118 rfl ⟨by decide, by decide⟩ (Nat.le_of_ble_eq_true rfl) dX10_thenWay_9 (fun r3 h3 hp3 => ?_) rfl
    obtain ⟨rfl, rfl⟩ := hp3
    refine v_some ?_
    refine v_ifB_eq (tgt := 27) K dX10_thenWay_12 rfl (fun c2 => ?_) (fun c2 => ?_)
    · skip
      refine v_aload_n K dX10_thenWay_27 rfl ?_
      refine v_iconstN K 1 rfl dX10_thenWay_28 ?_
      refine v_callV (As := [.int (nI 1)]) K (c_X10_finds h 1 (by omega)) lX10_113 ck_X10 rfl sh_118 pl_118 rfl ⟨by decide, by decide⟩ (Nat.le_of_ble_eq_true rfl) dX10_thenWay_29 (fun r4 h4 hp4 => ?_) rfl
      obtain ⟨rfl, rfl⟩ := hp4
      refine v_some ?_
      have hRf2 : RR (u2 h 122 1 (h 122 1 + nI 1)) (u2 s 122 1 (s 122 1 + nI 1)) := by rw [show (h 122 1) = s 122 1 from hR.at RA_122]; exact hR.u RA_122
      refine v_iret K dX10_thenWay_32 ?_
      have eY : Y_thenWay s τ (nI j1) w k = ((-1000000000) - nI 1, (u2 s 122 1 (s 122 1 + nI 1))) := by
        unfold Y_thenWay
        refine (@if_neg _ (Classical.propDecidable _) (fun q => by first | exact absurd q.1 (by assumption) | exact absurd q.2.1 (by assumption) | exact absurd q.2.2 (by assumption)) _ _ _).trans ?_
        first | rfl | ((try rw [cl_ix (show j1 < 2 ^ 31 by omega)]))
      exact rfin eY hRf2
    · skip
      obtain ⟨j2, Hj2, rfl⟩ := c2
      refine v_iload_n K dX10_thenWay_15 rfl ?_
      refine v_i2l K dX10_thenWay_16 rfl ?_
      refine v_lconst (v := (nI 0).toInt64) K dX10_thenWay_17 (by decide) ?_
      refine v_ldc2 K kX10_159 dX10_thenWay_18 ?_
      refine v_topL (y := (nI 6).toInt64) (by decide) ?_
      refine v_callS (As := [.long k.toInt64, .long (nI 0).toInt64, .long (nI 6).toInt64]) K (c_X10_in h k (nI 0) (nI 6)) lX10_51 rfl ⟨by decide, by decide⟩ (Nat.le_of_ble_eq_true rfl) dX10_thenWay_21 (fun r5 h5 hp5 => ?_) rfl
      obtain ⟨rfl, rfl⟩ := hp5
      refine v_some ?_
      rw [show (nI 0 ≤ k ∧ k ≤ nI 6) = ix k 7 from in_ix (by decide)]
      refine v_ifB_ne (tgt := 33) K dX10_thenWay_24 rfl (fun c3 => ?_) (fun c3 => ?_)
      · skip
        obtain ⟨j3, Hj3, rfl⟩ := c3
        refine v_aload_n K dX10_thenWay_33 rfl ?_
        refine v_iload_n K dX10_thenWay_34 rfl ?_
        refine v_callV (As := [.int (nI j1)]) K (c_X10_ahead h τ j1 (by rw [hR.1 119 RA_119]; exact hd) (by rw [hR.1 119 RA_119]; exact hI.x) (by omega)) lX10_237 ck_X10 rfl sh_118 pl_118 rfl ⟨by decide, by decide⟩ (Nat.le_of_ble_eq_true rfl) dX10_thenWay_35 (fun r6 h6 hp6 => ?_) rfl
        obtain ⟨rfl, hDq1, hGq1⟩ := hp6
        rw [hR.1 119 RA_119] at hDq1
        have hRq1 := hR.G (by unfold RA; omega) hGq1
        have hde : DOK (nightsD τ (s 119) j1) := hd.nights _
        refine v_none ?_
        refine v_iload_n K dX10_thenWay_38 rfl ?_
        refine v_bipushN K 6 rfl dX10_thenWay_39 ?_
        refine v_icmpN_ne (tgt := 55) K (by omega) (by omega) dX10_thenWay_41 rfl (fun c4 => ?_) (fun c4 => ?_)
        · skip
          refine v_aload_n K dX10_thenWay_55 rfl ?_
          refine v_getr (q := 120) K fX10_13 sh_118 pl_118 gl_118_1 dX10_thenWay_56 ?_
          refine v_iload_n K dX10_thenWay_59 rfl ?_
          refine v_iload_n K dX10_thenWay_60 rfl ?_
          refine v_callS (As := [.ref 120, .int (nI j2), .int (nI j3)]) K (c_X10_of h6 120 j2 j3 mP_120 (by omega)) lX10_170 rfl ⟨by decide, by decide⟩ (Nat.le_of_ble_eq_true rfl) dX10_thenWay_61 (fun r7 h7 hp7 => ?_) rfl
          obtain ⟨rfl, rfl⟩ := hp7
          refine v_some ?_
          rw [hDq1]
          refine v_iret K dX10_thenWay_64 ?_
          have eY : Y_thenWay s τ (nI j1) (nI j2) (nI j3) = (nightsD τ (s 119) j1 (46 + 6 * j2 + j3), s) := by
            unfold Y_thenWay
            refine (@if_pos _ (Classical.propDecidable _) (by refine ⟨?_, ?_, ?_⟩ <;> (first | assumption | exact ⟨_, by assumption, rfl⟩ | exact Or.inl rfl | exact Or.inr (Or.inl rfl) | exact Or.inr (Or.inr rfl) | omega)) _ _ _).trans ?_
            (rw [cl_ix (show j1 < 2 ^ 31 by omega), cl_ix (show j2 < 2 ^ 31 by omega), cl_ix (show j3 < 2 ^ 31 by omega)]; unfold partD; first | rw [if_pos (by assumption)] | rw [if_neg (by assumption)])
          exact rfin eY hRq1
        · skip
          refine v_aload_n K dX10_thenWay_44 rfl ?_
          refine v_getr (q := 120) K fX10_13 sh_118 pl_118 gl_118_1 dX10_thenWay_45 ?_
          refine v_iload_n K dX10_thenWay_48 rfl ?_
          refine v_callS (As := [.ref 120, .int (nI j2)]) K (c_X10_easeOf h6 120 j2 mP_120 (by omega) (by rw [hDq1]; exact hde.kd (by omega))) lX10_177 rfl ⟨by decide, by decide⟩ (Nat.le_of_ble_eq_true rfl) dX10_thenWay_49 (fun r8 h8 hp8 => ?_) rfl
          obtain ⟨rfl, rfl⟩ := hp8
          refine v_some ?_
          rw [hDq1]
          refine v_goto (tgt := 64) K dX10_thenWay_52 rfl ?_
          refine v_iret K dX10_thenWay_64 ?_
          have eY : Y_thenWay s τ (nI j1) (nI j2) (nI j3) = (easeD (nightsD τ (s 119) j1) j2, s) := by
            unfold Y_thenWay
            refine (@if_pos _ (Classical.propDecidable _) (by refine ⟨?_, ?_, ?_⟩ <;> (first | assumption | exact ⟨_, by assumption, rfl⟩ | exact Or.inl rfl | exact Or.inr (Or.inl rfl) | exact Or.inr (Or.inr rfl) | omega)) _ _ _).trans ?_
            (rw [cl_ix (show j1 < 2 ^ 31 by omega), cl_ix (show j2 < 2 ^ 31 by omega), cl_ix (show j3 < 2 ^ 31 by omega)]; unfold partD; first | rw [if_pos (by assumption)] | rw [if_neg (by assumption)])
          exact rfin eY hRq1
      · skip
        refine v_aload_n K dX10_thenWay_27 rfl ?_
        refine v_iconstN K 1 rfl dX10_thenWay_28 ?_
        refine v_callV (As := [.int (nI 1)]) K (c_X10_finds h 1 (by omega)) lX10_113 ck_X10 rfl sh_118 pl_118 rfl ⟨by decide, by decide⟩ (Nat.le_of_ble_eq_true rfl) dX10_thenWay_29 (fun r9 h9 hp9 => ?_) rfl
        obtain ⟨rfl, rfl⟩ := hp9
        refine v_some ?_
        have hRf3 : RR (u2 h 122 1 (h 122 1 + nI 1)) (u2 s 122 1 (s 122 1 + nI 1)) := by rw [show (h 122 1) = s 122 1 from hR.at RA_122]; exact hR.u RA_122
        refine v_iret K dX10_thenWay_32 ?_
        have eY : Y_thenWay s τ (nI j1) (nI j2) k = ((-1000000000) - nI 1, (u2 s 122 1 (s 122 1 + nI 1))) := by
          unfold Y_thenWay
          refine (@if_neg _ (Classical.propDecidable _) (fun q => by first | exact absurd q.1 (by assumption) | exact absurd q.2.1 (by assumption) | exact absurd q.2.2 (by assumption)) _ _ _).trans ?_
          first | rfl | ((try rw [cl_ix (show j1 < 2 ^ 31 by omega)]) ; (try rw [cl_ix (show j2 < 2 ^ 31 by omega)]))
        exact rfin eY hRf3

abbrev P_X10_by (h s : Mm) (τ τk : Nat → List Int32) : Option Value → Mm → Prop := fun r h2 => r = some (.int (Y_by s τ).1) ∧ RR h2 (Y_by s τ).2
theorem c_X10_by {l : Launch} (h s : Mm) (τ τk : Nat → List Int32) (hR : RR h s) (hI : INV s τ τk) : Con l yX10_by cX10_by 1 (some .int) 42 965 132 GL h [.ref 118] (P_X10_by h s τ τk) := by
  refine Con.ofV (own := "FoxRoundsModel") (nm := "by") rfl rfl (by decide) (Nat.le_of_ble_eq_true rfl) ?_
  intro κ ρ hkl K
  subst hkl
  show V κ (QM κ (132, ρ, GL, 0, 0) (P_X10_by h s τ τk)) 1 (132, ρ, GL, 0, 0) h 0 [(0, .ref 118)] []
  have hd := hI.d
  have hn8 := hd.nw8
  have ht5 := hd.nt5
  refine v_aload_n K dX10_by_0 rfl ?_
  refine v_getr (q := 119) K fX10_7 sh_118 pl_118 gl_118_0 dX10_by_1 ?_
  refine v_aload_n K dX10_by_4 rfl ?_
  refine v_getr (q := 120) K fX10_13 sh_118 pl_118 gl_118_1 dX10_by_5 ?_
  refine v_callS (As := [.ref 119, .ref 120]) K (c_X10_copies2 h 119 120 mP_119 mP_120 (by decide)) lX10_228 rfl ⟨by decide, by decide⟩ (Nat.le_of_ble_eq_true rfl) dX10_by_8 (fun r1 h1 hp1 => ?_) rfl
  obtain ⟨rfl, rfl⟩ := hp1
  refine v_none ?_
  have hRq1 : RR (rw2 h 120 (h 119)) s := hR.rwn
  have hEq1 : (rw2 h 120 (h 119)) 120 = s 119 := rw2_at.trans (hR.1 119 RA_119)
  refine v_aload_n K dX10_by_11 rfl ?_
  refine v_aload_n K dX10_by_12 rfl ?_
  refine v_getr (q := 120) K fX10_13 sh_118 pl_118 gl_118_1 dX10_by_13 ?_
  refine v_callV (As := [.ref 120]) K (c_X10_goesRound ((rw2 h 120 (h 119))) τ 120 mP_120 (by rw [hEq1]; exact hd) (by rw [hRq1.1 119 RA_119]; exact hI.x)) lX10_216 ck_X10 rfl sh_118 pl_118 rfl ⟨by decide, by decide⟩ (Nat.le_of_ble_eq_true rfl) dX10_by_16 (fun r2 h2 hp2 => ?_) rfl
  obtain ⟨rfl, hDg, hTg, hGg⟩ := hp2
  have hRg := hRq1.G (by unfold RA; omega) hGg
  refine v_some ?_
  rw [hEq1]
  skip
  refine v_iret K dX10_by_19 ?_
  have eY : Y_by s τ = (byD τ (s 119), s) := by
    unfold Y_by
    first | rfl | (rfl)
  exact rfin eY hRg
