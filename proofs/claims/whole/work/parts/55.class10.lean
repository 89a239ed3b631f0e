abbrev P_X9_namesOf (h : Mm) (u : Nat) : Option Value → Mm → Prop := fun r h2 => r = some (.ref (1020 + (u + 1))) ∧ h = h2
theorem c_X9_namesOf {l : Launch} (h : Mm) (u : Nat) (hu : u < 3) : Con l yX9_namesOf cX9_namesOf 1 (some (FieldType.object "java/lang/String")) 0 0 132 GL h [.int (nI u)] (P_X9_namesOf h u) := by
  refine Con.ofV (own := "FoxRounds") (nm := "namesOf") rfl rfl (by decide) (Nat.le_of_ble_eq_true rfl) ?_
  intro κ ρ hkl K
  subst hkl
  show V κ (QM κ (132, ρ, GL, 0, 0) (P_X9_namesOf h u)) 1 (132, ρ, GL, 0, 0) h 0 [(0, .int (nI u))] []
  refine v_iload_n K dX9_namesOf_0 rfl ?_
  obtain rfl | rfl | rfl : u = 0 ∨ u = 1 ∨ u = 2 := by omega
  · skip
    refine v_lookN (off := 27) (tgt := 28) K (by decide) 0 dX9_namesOf_1 rfl (by decide) rfl rfl ?_
    refine v_ldcS (i := 1) K (fun _ _ _ _ q => q.2.2.2.2.2.1.2.1) dX9_namesOf_28 ?_
    refine v_aret K (Or.inl ⟨_, rfl⟩) dX9_namesOf_31 ?_
    exact ⟨rfl, rfl⟩
  · skip
    refine v_lookN (off := 31) (tgt := 32) K (by decide) 1 dX9_namesOf_1 rfl (by decide) rfl rfl ?_
    refine v_ldcS (i := 2) K (fun _ _ _ _ q => q.2.2.2.2.2.1.2.2.1) dX9_namesOf_32 ?_
    refine v_aret K (Or.inl ⟨_, rfl⟩) dX9_namesOf_35 ?_
    exact ⟨rfl, rfl⟩
  · skip
    refine v_lookN (off := 35) (tgt := 36) K (by decide) 2 dX9_namesOf_1 rfl (by decide) rfl rfl ?_
    refine v_ldcS (i := 3) K (fun _ _ _ _ q => q.2.2.2.2.2.1.2.2.2) dX9_namesOf_36 ?_
    refine v_aret K (Or.inl ⟨_, rfl⟩) dX9_namesOf_39 ?_
    exact ⟨rfl, rfl⟩

abbrev P_X2_textOf (h : Mm) (u : Nat) : Option Value → Mm → Prop := fun r h2 => r = some (.ref (21 + 3 * u)) ∧ h = h2
theorem c_X2_textOf {l : Launch} (h : Mm) (u : Nat) (hu : u < 3) : Con l yX2_textOf cX2_textOf 2 (some (FieldType.object "FoxRounds$Text")) 0 0 132 GL h [.ref 20, .int (nI u)] (P_X2_textOf h u) := by
  refine Con.ofV (own := "FoxRounds$Laws") (nm := "textOf") rfl rfl (by decide) (Nat.le_of_ble_eq_true rfl) ?_
  intro κ ρ hkl K
  subst hkl
  show V κ (QM κ (132, ρ, GL, 0, 0) (P_X2_textOf h u)) 2 (132, ρ, GL, 0, 0) h 0 [(0, .ref 20), (1, .int (nI u))] []
  refine v_iload_n K dX2_textOf_0 rfl ?_
  obtain rfl | rfl | rfl : u = 0 ∨ u = 1 ∨ u = 2 := by omega
  · skip
    refine v_lookN (off := 27) (tgt := 28) K (by decide) 0 dX2_textOf_1 rfl (by decide) rfl rfl ?_
    refine v_aload_n K dX2_textOf_28 rfl ?_
    refine v_getr (q := 21) K fX2_18 sh_20 pl_20 gl_20_0 dX2_textOf_29 ?_
    refine v_aret K (Or.inl ⟨_, rfl⟩) dX2_textOf_32 ?_
    exact ⟨rfl, rfl⟩
  · skip
    refine v_lookN (off := 32) (tgt := 33) K (by decide) 1 dX2_textOf_1 rfl (by decide) rfl rfl ?_
    refine v_aload_n K dX2_textOf_33 rfl ?_
    refine v_getr (q := 24) K fX2_27 sh_20 pl_20 gl_20_1 dX2_textOf_34 ?_
    refine v_aret K (Or.inl ⟨_, rfl⟩) dX2_textOf_37 ?_
    exact ⟨rfl, rfl⟩
  · skip
    refine v_lookN (off := 37) (tgt := 38) K (by decide) 2 dX2_textOf_1 rfl (by decide) rfl rfl ?_
    refine v_aload_n K dX2_textOf_38 rfl ?_
    refine v_getr (q := 27) K fX2_33 sh_20 pl_20 gl_20_2 dX2_textOf_39 ?_
    refine v_aret K (Or.inl ⟨_, rfl⟩) dX2_textOf_42 ?_
    exact ⟨rfl, rfl⟩

theorem tA_u {u : Nat} (hu : u < 3) : tA (21 + 3 * u) := by
  obtain rfl | rfl | rfl : u = 0 ∨ u = 1 ∨ u = 2 := by omega
  · exact Or.inl rfl
  · exact Or.inr (Or.inl rfl)
  · exact Or.inr (Or.inr (Or.inl rfl))
theorem pl_u {u : Nat} (hu : u < 3) : 21 + 3 * u < 132 := by omega
theorem TXr.at {h h2 : Mm} {t t2 : Nat} {c : List Int32} (H : TXr h t c) (e : t2 = t) : TXr h t2 c := e ▸ H
/-- a TEXT taken over from the reading -/
theorem WX.tx {h : Mm} {d : Dm} {τ : Nat → List Int32} (H : WX 1 h d τ) {u : Nat} (hu : u < 3) {c : List Int32} (hT : TXg h 100 102 c) : WX 1 (cpyT h 100 102 (21 + 3 * u)) d (fun v => if v = u then c else τ v) := by
  obtain ⟨h1, hL, hV, ⟨h4, h5, h6⟩, h7, h8, h9⟩ := H
  have F := cpyT_fr (h := h) (s := 100) (sc := 102) (t := 21 + 3 * u)
  have f : ∀ a, (a < 21 + 3 * u ∨ 21 + 3 * u + 2 ≤ a) → cpyT h 100 102 (21 + 3 * u) a = h a := fun a ha => F a (by omega)
  have key : ∀ v, v < 3 → TXr h (21 + 3 * v) (τ v) → TXr (cpyT h 100 102 (21 + 3 * u)) (21 + 3 * v) (if v = u then c else τ v) := by
    intro v hv hX
    by_cases e : v = u
    · subst e; rw [if_pos rfl]; exact cpyT_tx hT
    · rw [if_neg e]; exact hX.far (congrFun (f _ (by omega)) 1) (f _ (by omega))
  refine ⟨h1.far (fun a q1 q2 => f a (by omega)), ⟨key 0 (by omega) hL.1, key 1 (by omega) hL.2.1, key 2 (by omega) hL.2.2⟩, hV.far (fun a q1 q2 => f a (by omega)), ⟨fun k hk => ?_, fun k hk => ?_, fun k hk => ?_⟩, ?_, ?_, ?_⟩
  · rw [f _ (by omega)]; exact h4 k hk
  · rw [f _ (by omega)]; exact h5 k hk
  · rw [f _ (by omega)]; exact h6 k hk
  · rw [f _ (by omega)]; exact h7
  · rw [f _ (by omega)]; exact h8
  · rw [f _ (by omega)]; exact h9
theorem WX.dd {h : Mm} {d d2 : Dm} {τ : Nat → List Int32} (H : WX 1 h d τ) (e : ∀ i, i < 110 ∨ (114 ≤ i ∧ i < 134) ∨ 284 ≤ i → d2 i = d i) : WX 1 h d2 τ := by
  obtain ⟨h1, hL, hV, ⟨h4, h5, h6⟩, h7, h8, h9⟩ := H
  exact ⟨h1.dd (fun i hi => e i (by omega)), hL, hV.dd (fun i hi => e i (by omega)), ⟨fun k hk => by rw [e _ (by omega)]; exact h4 k hk, fun k hk => by rw [e _ (by omega)]; exact h5 k hk, fun k hk => by rw [e _ (by omega)]; exact h6 k hk⟩, by rw [e _ (by omega)]; exact h7, by rw [e _ (by omega)]; exact h8, by rw [e _ (by omega)]; exact h9⟩
theorem CX.tx {c h h1 s : Mm} {τ τk : Nat → List Int32} {u n : Nat} {l : List Int32} (H : CX c h s τ τk) (hu : u < 3) (hn : n ≤ 50) (hT : TXg h 100 102 l) : CX c (cpyT (u2 h 1 4 (nI 0)) 100 102 (21 + 3 * u)) (rw2 s 119 (txtR (s 119) u n n)) (fun v => if v = u then l else τ v) τk := by
  have W0 : WX 1 (u2 h 1 4 (nI 0)) (upd (s 119) 13 (nI 0)) τ := WX.o H.1 (Or.inl ⟨rfl, rfl⟩)
  have T0 : TXg (u2 h 1 4 (nI 0)) 100 102 l := ⟨(u2_ne (by omega)).trans hT.1, hT.2.1, fun k hk => (u2_ne (by omega)).trans (hT.2.2 k hk)⟩
  have W1 := (W0.tx hu T0).dd (d2 := txtR (s 119) u n n) (fun i hi => by
    unfold txtR
    rw [if_neg (by omega), if_neg (by omega)]
    by_cases e : i = 13
    · subst e; rw [if_pos rfl, upd_at]
    · rw [if_neg e, upd_ne (by omega)])
  refine CX.wr H W1 (fun a ha => ?_)
  rw [cpyT_fr a (by omega), u2_off (by omega)]
/-- the TEXTS when text has been asked -/
noncomputable def tauT (s : Mm) (τ : Nat → List Int32) (w : Int32) : Nat → List Int32 := @ite _ (ix w 3 ∧ faultP (bytD (s 119) 284 (s 119 13).toNatClampNeg) (s 119 13).toNatClampNeg w.toNatClampNeg = none) (Classical.propDecidable _) (fun v => if v = w.toNatClampNeg then (parseE (bytD (s 119) 284 (s 119 13).toNatClampNeg) (s 119 13).toNatClampNeg w.toNatClampNeg).1 else τ v) τ
theorem tauT_e {s : Mm} {τ : Nat → List Int32} {w : Int32} (h : ¬ ix w 3) : tauT s τ w = τ := @if_neg _ (Classical.propDecidable _) (fun q => h q.1) _ _ _
theorem tauT_f {s : Mm} {τ : Nat → List Int32} {j n p : Nat} (hj : j < 3) (hn : n ≤ 50) (e : s 119 13 = nI n) (h : faultP (bytD (s 119) 284 n) n j = some p) : tauT s τ (nI j) = τ := by
  refine @if_neg _ (Classical.propDecidable _) (fun q => ?_) _ _ _
  have q := q.2
  rw [e, cl_ix (by omega), cl_ix (by omega), h] at q
  cases q
theorem tauT_g {s : Mm} {τ : Nat → List Int32} {j n : Nat} (hj : j < 3) (hn : n ≤ 50) (e : s 119 13 = nI n) (h : faultP (bytD (s 119) 284 n) n j = none) : tauT s τ (nI j) = fun v => if v = j then (parseE (bytD (s 119) 284 n) n j).1 else τ v := by
  unfold tauT
  rw [e, cl_ix (show n < 2 ^ 31 by omega), cl_ix (show j < 2 ^ 31 by omega)]
  exact @if_pos _ (Classical.propDecidable _) ⟨⟨j, hj, rfl⟩, h⟩ _ _ _
theorem byt_ix {d : Dm} {n : Nat} (H : DX d) (hn : n ≤ 50) : ∀ i, ix (bytD d 284 n i) 256 := fun i => by
  unfold bytD
  split
  · exact H.2.2.2.2.2 i (by omega)
  · exact ⟨0, by omega, rfl⟩
theorem nn_p {p : Nat} (h : p ≤ 50) : ¬ nI p < 0 := nn_lt (by omega)

abbrev P_X9_text (cM h s : Mm) (τ τk : Nat → List Int32) (w : Int32) : Option Value → Mm → Prop := fun r h2 => r = some (.int (Y_text s w).1) ∧ CX cM h2 (Y_text s w).2 (tauT s τ w) τk
theorem c_X9_text {l : Launch} (cM h s : Mm) (τ τk : Nat → List Int32) (w : Int32) (hC : CX cM h s τ τk) (hI : INV s τ τk) : Con l yX9_text cX9_text 3 (some .int) 6 137 132 GL h [.ref 0, .int w] (P_X9_text cM h s τ τk w) := by
  refine Con.ofV (own := "FoxRounds") (nm := "text") rfl rfl (by decide) (Nat.le_of_ble_eq_true rfl) ?_
  intro κ ρ hkl K
  subst hkl
  show V κ (QM κ (132, ρ, GL, 0, 0) (P_X9_text cM h s τ τk w)) 3 (132, ρ, GL, 0, 0) h 0 [(0, .ref 0), (1, .int w)] []
  have hd := hI.d
  have hn8 := hd.nw8
  have ht5 := hd.nt5
  obtain ⟨t13, h13, e13⟩ := hI.t13
  refine v_iload_n K dX9_text_0 rfl ?_
  refine v_iconstN K 0 rfl dX9_text_1 ?_
  refine v_iconstN K 2 rfl dX9_text_2 ?_
  refine v_callS (As := [.int w, .int (nI 0), .int (nI 2)]) K (c_X9_within h w (nI 0) (nI 2)) lX9_65 rfl ⟨by decide, by decide⟩ (Nat.le_of_ble_eq_true rfl) dX9_text_3 (fun r1 h1 hp1 => ?_) rfl
  obtain ⟨rfl, rfl⟩ := hp1
  refine v_some ?_
  rw [show (nI 0 ≤ w ∧ w ≤ nI 2) = ix w 3 from in_ix (by decide)]
  refine v_ifB_ne (tgt := 15) K dX9_text_6 rfl (fun c1 => ?_) (fun c1 => ?_)
  · skip
    obtain ⟨j1, Hj1, rfl⟩ := c1
    refine v_aload_n K dX9_text_15 rfl ?_
    refine v_getr (q := 99) K fX9_43 sh_0 pl_0 gl_0_4 dX9_text_16 ?_
    refine v_aload_n K dX9_text_19 rfl ?_
    refine v_getr (q := 1) K fX9_10 sh_0 pl_0 gl_0_0 dX9_text_20 ?_
    refine v_getr (q := 36) K fX9_142 sh_1 pl_1 gl_1_3 dX9_text_23 ?_
    refine v_aload_n K dX9_text_26 rfl ?_
    refine v_getr (q := 1) K fX9_10 sh_0 pl_0 gl_0_0 dX9_text_27 ?_
    refine v_geti (x := nI t13) K fX9_139 sh_1 pl_1 (hC.W.2.2.2.2.1.trans e13) dX9_text_30 ?_
    refine v_iload_n K dX9_text_33 rfl ?_
    refine v_callS (As := [.int (nI j1)]) K (c_X9_namesOf h j1 (by omega)) lX9_146 rfl ⟨by decide, by decide⟩ (Nat.le_of_ble_eq_true rfl) dX9_text_34 (fun r2 h2 hp2 => ?_) rfl
    obtain ⟨rfl, rfl⟩ := hp2
    refine v_some ?_
    have hj3 : j1 < 3 := by omega
    rcases hF : faultP (bytD (s 119) 284 t13) t13 j1 with _ | p
    · skip
      refine v_callV (As := [.ref 36, .int (nI t13), .ref (1020 + (j1 + 1))]) K (c_X3_faultOf h (bytD (s 119) 284 t13) t13 j1 (byt_ix hI.1.1 h13) h13 hj3 (fun i hi => by unfold bytD; rw [if_pos hi]; exact hC.W.2.2.2.1.1 i (by omega))) lX9_150 ck_X3 rfl sh_99 pl_99 rfl ⟨by decide, by decide⟩ (Nat.le_of_ble_eq_true rfl) dX9_text_37 (fun r3 h3 hp3 => ?_) rfl
      have hfr := hp3.2
      obtain ⟨rfl, hTX⟩ := hp3.1.2 hF
      have hCs : CX cM h3 s τ τk := hC.sc ⟨fun a q => by unfold scrA at q; exact hfr a (by omega) (by omega) (by omega) (by omega), fun k q => by rw [hfr 2 (by omega) (by omega) (by omega) (by omega)]⟩
      refine v_some ?_
      refine v_istore_n (lv2 := [(2, .int ((-1))), (0, .ref 0), (1, .int (nI j1))]) K dX9_text_40 (by decide) rfl ?_
      refine v_aload_n K dX9_text_41 rfl ?_
      refine v_getr (q := 1) K fX9_10 sh_0 pl_0 gl_0_0 dX9_text_42 ?_
      refine v_iconstN K 0 rfl dX9_text_45 ?_
      refine v_puti K pX9_139 sh_1 pl_1 dX9_text_46 ?_
      have hCx1 : CX cM (u2 h3 1 4 (nI 0)) (u2 s 119 13 (nI 0)) τ τk := CX.w2 hCs (WX.o hCs.W (by omega)) (by omega) (by omega)
      refine v_iload_n K dX9_text_49 rfl ?_
      refine v_if_lt (tgt := 58) K dX9_text_50 rfl (fun c2 => ?_) (fun c2 => ?_)
      · skip
        refine v_aload_n K dX9_text_58 rfl ?_
        refine v_getr (q := 1) K fX9_10 sh_0 pl_0 gl_0_0 dX9_text_59 ?_
        refine v_getr (q := 20) K fX9_29 sh_1 pl_1 gl_1_1 dX9_text_62 ?_
        refine v_iload_n K dX9_text_65 rfl ?_
        refine v_callV (As := [.int (nI j1)]) K (c_X2_textOf ((u2 h3 1 4 (nI 0))) j1 (by omega)) lX9_154 ck_X2 rfl sh_20 pl_20 rfl ⟨by decide, by decide⟩ (Nat.le_of_ble_eq_true rfl) dX9_text_66 (fun r4 h4 hp4 => ?_) rfl
        obtain ⟨rfl, rfl⟩ := hp4
        refine v_some ?_
        refine v_aload_n K dX9_text_69 rfl ?_
        refine v_getr (q := 99) K fX9_43 sh_0 pl_0 gl_0_4 dX9_text_70 ?_
        refine v_getr (q := 100) K fX9_160 sh_99 pl_99 gl_99_0 dX9_text_73 ?_
        refine v_callV (As := [.ref 100]) K (c_X5_copyFrom ((u2 h3 1 4 (nI 0))) (21 + 3 * j1) 100 102 (tA_u hj3) (Or.inr ⟨rfl, rfl⟩) (by omega)) lX9_164 ck_X5 rfl (tA_u (by omega)).o (pl_u (by omega)) rfl ⟨by decide, by decide⟩ (Nat.le_of_ble_eq_true rfl) dX9_text_76 (fun r5 h5 hp5 => ?_) rfl
        obtain ⟨rfl, rfl⟩ := hp5
        refine v_none ?_
        have hCt : CX cM (cpyT (u2 h3 1 4 (nI 0)) 100 102 (21 + 3 * j1)) (rw2 s 119 (txtR (s 119) j1 t13 t13)) (fun v => if v = j1 then (parseE (bytD (s 119) 284 t13) t13 j1).1 else τ v) τk := CX.tx (h1 := h3) hCs hj3 h13 hTX
        refine v_iconstN K 1 rfl dX9_text_79 ?_
        refine v_iret K dX9_text_80 ?_
        have eY : Y_text s (nI j1) = (nI 1, (rw2 s 119 (txtR (s 119) j1 t13 t13))) := by
          unfold Y_text
          refine (@if_neg _ (Classical.propDecidable _) (fun q => q (by first | assumption | exact ⟨_, by assumption, rfl⟩ | exact Or.inl rfl | exact Or.inr (Or.inl rfl) | exact Or.inr (Or.inr rfl) | omega)) _ _ _).trans ?_
          rw [cl_ix (show j1 < 2 ^ 31 by omega), e13, cl_ix (show t13 < 2 ^ 31 by omega), hF]; rfl
        unfold P_X9_text
        rw [tauT_g hj3 h13 e13 hF]
        exact xfin eY hCt
      · skip
        exact absurd c2 (by decide)
    · skip
      have hp50 := fault_le h13 p hF
      refine v_callV (As := [.ref 36, .int (nI t13), .ref (1020 + (j1 + 1))]) K (c_X3_faultOf h (bytD (s 119) 284 t13) t13 j1 (byt_ix hI.1.1 h13) h13 hj3 (fun i hi => by unfold bytD; rw [if_pos hi]; exact hC.W.2.2.2.1.1 i (by omega))) lX9_150 ck_X3 rfl sh_99 pl_99 rfl ⟨by decide, by decide⟩ (Nat.le_of_ble_eq_true rfl) dX9_text_37 (fun r6 h6 hp6 => ?_) rfl
      have hfr := hp6.2
      obtain rfl := hp6.1.1 p hF
      have hCs : CX cM h6 s τ τk := hC.sc ⟨fun a q => by unfold scrA at q; exact hfr a (by omega) (by omega) (by omega) (by omega), fun k q => by rw [hfr 2 (by omega) (by omega) (by omega) (by omega)]⟩
      refine v_some ?_
      refine v_istore_n (lv2 := [(2, .int (nI p)), (0, .ref 0), (1, .int (nI j1))]) K dX9_text_40 (by decide) rfl ?_
      refine v_aload_n K dX9_text_41 rfl ?_
      refine v_getr (q := 1) K fX9_10 sh_0 pl_0 gl_0_0 dX9_text_42 ?_
      refine v_iconstN K 0 rfl dX9_text_45 ?_
      refine v_puti K pX9_139 sh_1 pl_1 dX9_text_46 ?_
      have hCx2 : CX cM (u2 h6 1 4 (nI 0)) (u2 s 119 13 (nI 0)) τ τk := CX.w2 hCs (WX.o hCs.W (by omega)) (by omega) (by omega)
      refine v_iload_n K dX9_text_49 rfl ?_
      refine v_if_lt (tgt := 58) K dX9_text_50 rfl (fun c3 => ?_) (fun c3 => ?_)
      · skip
        exact absurd c3 (nn_p hp50)
      · skip
        refine v_bipush (v := (-10)) K dX9_text_53 (by decide) ?_
        refine v_iload_n K dX9_text_55 rfl ?_
        refine v_isub K dX9_text_56 ?_
        refine v_iret K dX9_text_57 ?_
        have eY : Y_text s (nI j1) = (((-10)) - (nI p), (u2 s 119 13 (nI 0))) := by
          unfold Y_text
          refine (@if_neg _ (Classical.propDecidable _) (fun q => q (by first | assumption | exact ⟨_, by assumption, rfl⟩ | exact Or.inl rfl | exact Or.inr (Or.inl rfl) | exact Or.inr (Or.inr rfl) | omega)) _ _ _).trans ?_
          rw [cl_ix (show j1 < 2 ^ 31 by omega), e13, cl_ix (show t13 < 2 ^ 31 by omega), hF]; rfl
        unfold P_X9_text
        rw [tauT_f hj3 h13 e13 hF]
        exact xfin eY hCx2
  · skip
    refine v_aload_n K dX9_text_9 rfl ?_
    refine v_iconstN K 1 rfl dX9_text_10 ?_
    refine v_callV (As := [.int (nI 1)]) K (c_X9_error h 1 (by omega)) lX9_75 ck_X9 rfl sh_0 pl_0 rfl ⟨by decide, by decide⟩ (Nat.le_of_ble_eq_true rfl) dX9_text_11 (fun r7 h7 hp7 => ?_) rfl
    obtain ⟨rfl, rfl⟩ := hp7
    refine v_some ?_
    have hCe1 : CX cM (u2 h 109 1 (h 109 1 + nI 1)) (u2 s 122 1 (s 122 1 + nI 1)) τ τk := CX.er hC (by omega) (by omega)
    refine v_iret K dX9_text_14 ?_
    have eY : Y_text s w = ((-1000000000) - nI 1, (u2 s 122 1 (s 122 1 + nI 1))) := by
      unfold Y_text
      refine (@if_pos _ (Classical.propDecidable _) (fun q => absurd q (by assumption)) _ _ _).trans ?_
      first | rfl | (rfl)
    unfold P_X9_text
    rw [tauT_e (by first | assumption)]
    exact xfin eY hCe1
