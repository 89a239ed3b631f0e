noncomputable def tauR (s : Mm) (τ τk : Nat → List Int32) : Nat → List Int32 := if s 118 3 = nI 0 then τ else τk
theorem tauR_0 {s : Mm} {τ τk : Nat → List Int32} (h : s 118 3 = nI 0) : tauR s τ τk = τ := if_pos h
theorem tauR_1 {s : Mm} {τ τk : Nat → List Int32} (h : ¬ s 118 3 = nI 0) : tauR s τ τk = τk := if_neg h
/-! what a night leaves as it is -/
def keepI (i : Nat) : Prop := (12 ≤ i ∧ i < 46) ∨ 109 ≤ i
theorem turn_off {d : Dm} {w i : Nat} {up : Prop} (hw : w < 8) (hi : keepI i) : turnD d w up i = d i := by unfold keepI at hi; unfold turnD; rw [upd_ne (by omega), upd_ne (by omega)]
theorem come_off {τ : Nat → List Int32} {d : Dm} {w i : Nat} (hw : w < 8) (hi : keepI i) : comeD τ d w i = d i := by unfold keepI at hi; unfold comeD; rw [upd_ne (by omega), upd_ne (by omega), upd_ne (by omega), upd_ne (by omega)]
theorem roundF_off {τ : Nat → List Int32} {f : Nat → Nat} {n i : Nat} (hf : ∀ j, j < n → f j < 8) (hi : keepI i) : ∀ (k j : Nat) (tk : Int32) (d : Dm), j + k ≤ n → (roundF τ f k j tk d).2 i = d i
  | 0, _, _, _, _ => rfl
  | k + 1, j, tk, d, hk => by
    by_cases h : tk + (nI 20 + d (46 + 6 * f j + 1) / nI 2) ≤ d 5
    · by_cases h2 : entersE τ (easeD d (f j)) (boldD d) (d (46 + 6 * f j + 5)) (d (46 + 6 * f j + 4)) (d 8) = 0
      · rw [roundF_on h h2, roundF_off hf hi k (j + 1) _ _ (by omega)]; exact turn_off (hf j (by omega)) hi
      · rw [roundF_in h h2]
    · rw [roundF_out h]
theorem rD_off {τ : Nat → List Int32} {d : Dm} {i : Nat} (H : DOK d) (hi : keepI i) : (rD τ d).2 i = d i := by
  unfold rD
  split
  · rfl
  · obtain ⟨f, ho⟩ := ord_ex (memD d) (nwD d)
    rw [roundD_eq ho]
    have h8 := H.nw8
    exact roundF_off (n := nwD d) (fun j hj => by have := ho.1 j hj; omega) hi _ _ _ _ (by omega)
theorem in_off {τ : Nat → List Int32} {d : Dm} {i : Nat} (H : DOK d) (hi : keepI i) : inD τ d i = d i := by
  have hr := rD_off (τ := τ) H hi
  unfold inD
  split
  · unfold keepI at hi; rw [upd_ne (by omega)]; exact hr
  · rename_i c
    obtain ⟨w, hw, e⟩ := rD_in H rfl c
    rw [e, nI_clamp (by omega), come_off hw hi]; exact hr
theorem decay_off {d : Dm} {i : Nat} (hi : keepI i) : ∀ k, k ≤ 5 → decayD d k i = d i
  | 0, _ => rfl
  | k + 1, hk => by
    have hi2 := hi
    unfold keepI at hi2
    show upd _ _ _ _ = _
    rw [upd_ne (by omega)]; exact decay_off hi k (by omega)
theorem night_off {τ : Nat → List Int32} {d : Dm} {i : Nat} (H : DOK d) (hi : keepI i) : nightD τ d i = d i := by
  have hi2 := hi
  unfold keepI at hi2
  unfold nightD endD
  rw [upd_ne (by omega), upd_ne (by omega), upd_ne (by omega), decay_off hi _ (H.inn (τ := τ)).nt5, in_off H hi]
theorem nights_off {τ : Nat → List Int32} {d : Dm} {i : Nat} (H : DOK d) (hi : keepI i) : ∀ n, nightsD τ d n i = d i
  | 0 => rfl
  | n + 1 => (night_off (H.nights n) hi).trans (nights_off H hi n)

def NERR (tn : Nat) (n : Int32) (k : Nat) : Prop := (k = 1 ∧ ¬ (nI 1 ≤ n ∧ n ≤ nI 60)) ∨ (k = 3 ∧ ∃ j, 1 ≤ j ∧ j ≤ 60 ∧ n = nI j ∧ 999 < tn + j) ∨ (k = 0 ∧ ∃ j, 1 ≤ j ∧ j ≤ 60 ∧ n = nI j ∧ tn + j ≤ 999)

abbrev P_X9_nightsError (cM h s : Mm) (τ τk : Nat → List Int32) (tn : Nat) (n : Int32) : Option Value → Mm → Prop := fun r h2 => (∃ k, r = some (.int (nI k)) ∧ NERR tn n k) ∧ h = h2
theorem c_X9_nightsError {l : Launch} (cM h s : Mm) (τ τk : Nat → List Int32) (tn : Nat) (n : Int32) (hC : CX cM h s τ τk) (htn : tn < 1000) (etn : s 119 8 = nI tn) : Con l yX9_nightsError cX9_nightsError 2 (some .int) 1 22 132 GL h [.ref 0, .int n] (P_X9_nightsError cM h s τ τk tn n) := by
  refine Con.ofV (own := "FoxRounds") (nm := "nightsError") rfl rfl (by decide) (Nat.le_of_ble_eq_true rfl) ?_
  intro κ ρ hkl K
  subst hkl
  show V κ (QM κ (132, ρ, GL, 0, 0) (P_X9_nightsError cM h s τ τk tn n)) 2 (132, ρ, GL, 0, 0) h 0 [(0, .ref 0), (1, .int n)] []
  refine v_iload_n K dX9_nightsError_0 rfl ?_
  refine v_iconstN K 1 rfl dX9_nightsError_1 ?_
  refine v_bipushN K 60 rfl dX9_nightsError_2 ?_
  refine v_callS (As := [.int n, .int (nI 1), .int (nI 60)]) K (c_X9_within h n (nI 1) (nI 60)) lX9_65 rfl ⟨by decide, by decide⟩ (Nat.le_of_ble_eq_true rfl) dX9_nightsError_4 (fun r1 h1 hp1 => ?_) rfl
  obtain ⟨rfl, rfl⟩ := hp1
  refine v_some ?_
  refine v_ifB_ne (tgt := 12) K dX9_nightsError_7 rfl (fun c1 => ?_) (fun c1 => ?_)
  · skip
    have c0 := c1
    obtain ⟨j, hj1, hjn, rfl⟩ := in_lo (n := 60) (by decide) c1
    refine v_aload_n K dX9_nightsError_12 rfl ?_
    refine v_getr (q := 1) K fX9_10 sh_0 pl_0 gl_0_0 dX9_nightsError_13 ?_
    refine v_getr (q := 2) K fX9_25 sh_1 pl_1 gl_1_0 dX9_nightsError_16 ?_
    refine v_geti (x := nI tn) K fX9_315 sh_2 pl_2 (hC.W.1.o8.trans etn) dX9_nightsError_19 ?_
    refine v_iload_n K dX9_nightsError_22 rfl ?_
    refine v_iaddN K dX9_nightsError_23 ?_
    refine v_sipushN K 999 rfl dX9_nightsError_24 ?_
    refine v_icmpN_le (tgt := 34) K (by omega) (by omega) dX9_nightsError_27 rfl (fun c2 => ?_) (fun c2 => ?_)
    · skip
      refine v_iconstN K 0 rfl dX9_nightsError_34 ?_
      refine v_iret K dX9_nightsError_35 ?_
      exact ⟨⟨0, rfl, Or.inr (Or.inr ⟨rfl, j, hj1, hjn, rfl, by omega⟩)⟩, rfl⟩
    · skip
      refine v_iconstN K 3 rfl dX9_nightsError_30 ?_
      refine v_goto (tgt := 35) K dX9_nightsError_31 rfl ?_
      refine v_iret K dX9_nightsError_35 ?_
      exact ⟨⟨3, rfl, Or.inr (Or.inl ⟨rfl, j, hj1, hjn, rfl, by omega⟩)⟩, rfl⟩
  · skip
    refine v_iconstN K 1 rfl dX9_nightsError_10 ?_
    refine v_iret K dX9_nightsError_11 ?_
    exact ⟨⟨1, rfl, Or.inl ⟨rfl, c1⟩⟩, rfl⟩

abbrev P_X8_draw (cM h s : Mm) (τ τk : Nat → List Int32) : Option Value → Mm → Prop := fun r h2 => r = some (.int (drwV (s 119 12 * 1103515245 + nI 12345))) ∧ CX cM h2 (u2 s 119 12 (s 119 12 * 1103515245 + nI 12345)) τ τk
theorem c_X8_draw {l : Launch} (cM h s : Mm) (τ τk : Nat → List Int32) (hC : CX cM h s τ τk) : Con l yX8_draw cX8_draw 1 (some .int) 0 0 132 GL h [.ref 1] (P_X8_draw cM h s τ τk) := by
  refine Con.ofV (own := "FoxRounds$World") (nm := "draw") rfl rfl (by decide) (Nat.le_of_ble_eq_true rfl) ?_
  intro κ ρ hkl K
  subst hkl
  show V κ (QM κ (132, ρ, GL, 0, 0) (P_X8_draw cM h s τ τk)) 1 (132, ρ, GL, 0, 0) h 0 [(0, .ref 1)] []
  refine v_aload_n K dX8_draw_0 rfl ?_
  refine v_aload_n K dX8_draw_1 rfl ?_
  refine v_geti (x := s 119 12) K fX8_50 sh_1 pl_1 hC.W.2.2.2.2.2.2 dX8_draw_2 ?_
  refine v_ldc K kX8_69 dX8_draw_5 ?_
  refine v_imul K dX8_draw_7 ?_
  refine v_sipushN K 12345 rfl dX8_draw_8 ?_
  refine v_iadd K dX8_draw_11 ?_
  refine v_puti K pX8_50 sh_1 pl_1 dX8_draw_12 ?_
  have hCx1 : CX cM (u2 h 1 8 (((s 119 12) * ((1103515245))) + (nI 12345))) (u2 s 119 12 (((s 119 12) * ((1103515245))) + (nI 12345))) τ τk := CX.w2 hC (WX.o hC.W (by omega)) (by omega) (by omega)
  refine v_aload_n K dX8_draw_15 rfl ?_
  refine v_geti (x := ((s 119 12) * ((1103515245))) + (nI 12345)) K fX8_50 sh_1 pl_1 (hCx1.W.2.2.2.2.2.2.trans u2_at) dX8_draw_16 ?_
  refine v_bipushN K 8 rfl dX8_draw_19 ?_
  refine v_iushr K dX8_draw_21 rfl ?_
  refine v_iret K dX8_draw_22 ?_
  exact ⟨rfl, hCx1⟩

abbrev P_X9_image (cM h s : Mm) (τ τk : Nat → List Int32) : Option Value → Mm → Prop := fun r h2 => r = some (.int (Y_image s ).1) ∧ CX cM h2 (Y_image s ).2 τ τ
theorem c_X9_image {l : Launch} (cM h s : Mm) (τ τk : Nat → List Int32) (hC : CX cM h s τ τk) (hI : INV s τ τk) : Con l yX9_image cX9_image 1 (some .int) 4 123 132 GL h [.ref 0] (P_X9_image cM h s τ τk) := by
  refine Con.ofV (own := "FoxRounds") (nm := "image") rfl rfl (by decide) (Nat.le_of_ble_eq_true rfl) ?_
  intro κ ρ hkl K
  subst hkl
  show V κ (QM κ (132, ρ, GL, 0, 0) (P_X9_image cM h s τ τk)) 1 (132, ρ, GL, 0, 0) h 0 [(0, .ref 0)] []
  have hd := hI.d
  have hn8 := hd.nw8
  have ht5 := hd.nt5
  refine v_aload_n K dX9_image_0 rfl ?_
  refine v_getr (q := 39) K fX9_16 sh_0 pl_0 gl_0_1 dX9_image_1 ?_
  refine v_aload_n K dX9_image_4 rfl ?_
  refine v_getr (q := 1) K fX9_10 sh_0 pl_0 gl_0_0 dX9_image_5 ?_
  refine v_callV (As := [.ref 1]) K (c_X8_copyFrom_39 h (s 119) τ hC.W) lX9_312 ck_X8 rfl sh_39 pl_39 rfl ⟨by decide, by decide⟩ (Nat.le_of_ble_eq_true rfl) dX9_image_8 (fun r1 h1 hp1 => ?_) rfl
  obtain ⟨rfl, hWi, hFi⟩ := hp1
  refine v_none ?_
  refine v_aload_n K dX9_image_11 rfl ?_
  refine v_dup K dX9_image_12 rfl ?_
  refine v_geti (x := s 118 3) K fX9_19 sh_0 pl_0 ((congrFun (hFi 0 (by omega)) 2).trans hC.2.1.1) dX9_image_13 ?_
  refine v_iconstN K 1 rfl dX9_image_16 ?_
  refine v_iadd K dX9_image_17 ?_
  refine v_puti K pX9_19 sh_0 pl_0 dX9_image_18 ?_
  have hCi : CX cM (u2 h1 0 2 ((s 118 3) + (nI 1))) (u2 (rw2 s 121 (s 119)) 118 3 ((s 118 3) + (nI 1))) τ τ := CX.im hC hWi hFi
  refine v_aload_n K dX9_image_21 rfl ?_
  refine v_geti (x := (s 118 3) + (nI 1)) K fX9_19 sh_0 pl_0 (hCi.2.1.1.trans u2_at) dX9_image_22 ?_
  refine v_iret K dX9_image_25 ?_
  have eY : Y_image s  = ((s 118 3) + (nI 1), (u2 (rw2 s 121 (s 119)) 118 3 ((s 118 3) + (nI 1)))) := by
    unfold Y_image
    rfl
  exact xfin eY hCi

abbrev P_X9_restore (cM h s : Mm) (τ τk : Nat → List Int32) : Option Value → Mm → Prop := fun r h2 => r = some (.int (Y_restore s ).1) ∧ CX cM h2 (Y_restore s ).2 (tauR s τ τk) τk
theorem c_X9_restore {l : Launch} (cM h s : Mm) (τ τk : Nat → List Int32) (hC : CX cM h s τ τk) (hI : INV s τ τk) : Con l yX9_restore cX9_restore 1 (some .int) 4 123 132 GL h [.ref 0] (P_X9_restore cM h s τ τk) := by
  refine Con.ofV (own := "FoxRounds") (nm := "restore") rfl rfl (by decide) (Nat.le_of_ble_eq_true rfl) ?_
  intro κ ρ hkl K
  subst hkl
  show V κ (QM κ (132, ρ, GL, 0, 0) (P_X9_restore cM h s τ τk)) 1 (132, ρ, GL, 0, 0) h 0 [(0, .ref 0)] []
  have hd := hI.d
  have hn8 := hd.nw8
  have ht5 := hd.nt5
  refine v_aload_n K dX9_restore_0 rfl ?_
  refine v_geti (x := s 118 3) K fX9_19 sh_0 pl_0 hC.2.1.1 dX9_restore_1 ?_
  refine v_if_ne (tgt := 13) K dX9_restore_4 rfl (fun c1 => ?_) (fun c1 => ?_)
  · skip
    have hK : WX 39 h (s 121) τk := hC.2.1.2.resolve_left c1
    refine v_aload_n K dX9_restore_13 rfl ?_
    refine v_getr (q := 1) K fX9_10 sh_0 pl_0 gl_0_0 dX9_restore_14 ?_
    refine v_aload_n K dX9_restore_17 rfl ?_
    refine v_getr (q := 39) K fX9_16 sh_0 pl_0 gl_0_1 dX9_restore_18 ?_
    refine v_callV (As := [.ref 39]) K (c_X8_copyFrom_1 h (s 121) τk hK) lX9_312 ck_X8 rfl sh_1 pl_1 rfl ⟨by decide, by decide⟩ (Nat.le_of_ble_eq_true rfl) dX9_restore_21 (fun r1 h1 hp1 => ?_) rfl
    obtain ⟨rfl, hWr, hFr⟩ := hp1
    have hCr : CX cM h1 (rw2 s 119 (s 121)) τk τk := CX.re hC hWr hFr
    refine v_none ?_
    refine v_aload_n K dX9_restore_24 rfl ?_
    refine v_getr (q := 1) K fX9_10 sh_0 pl_0 gl_0_0 dX9_restore_25 ?_
    refine v_getr (q := 2) K fX9_25 sh_1 pl_1 gl_1_0 dX9_restore_28 ?_
    refine v_geti (x := s 121 8) K fX9_315 sh_2 pl_2 (hCr.W.1.o8.trans (congrFun rw2_at _)) dX9_restore_31 ?_
    refine v_iret K dX9_restore_34 ?_
    have eY : Y_restore s  = (s 121 8, (rw2 s 119 (s 121))) := by
      unfold Y_restore
      refine (@if_neg _ (Classical.propDecidable _) (fun q => absurd q (by assumption)) _ _ _).trans ?_
      rfl
    unfold P_X9_restore
    rw [tauR_1 (show ¬ s 118 3 = nI 0 from c1)]
    exact xfin eY hCr
  · skip
    refine v_aload_n K dX9_restore_7 rfl ?_
    refine v_iconstN K 2 rfl dX9_restore_8 ?_
    refine v_callV (As := [.int (nI 2)]) K (c_X9_error h 2 (by omega)) lX9_75 ck_X9 rfl sh_0 pl_0 rfl ⟨by decide, by decide⟩ (Nat.le_of_ble_eq_true rfl) dX9_restore_9 (fun r2 h2 hp2 => ?_) rfl
    obtain ⟨rfl, rfl⟩ := hp2
    refine v_some ?_
    have hCe1 : CX cM (u2 h 109 2 (h 109 2 + nI 1)) (u2 s 122 2 (s 122 2 + nI 1)) τ τk := CX.er hC (by omega) (by omega)
    refine v_iret K dX9_restore_12 ?_
    have eY : Y_restore s  = ((-1000000000) - nI 2, (u2 s 122 2 (s 122 2 + nI 1))) := by
      unfold Y_restore
      refine (@if_pos _ (Classical.propDecidable _) (by first | assumption | exact ⟨_, by assumption, rfl⟩ | exact Or.inl rfl | exact Or.inr (Or.inl rfl) | exact Or.inr (Or.inr rfl) | omega) _ _ _).trans ?_
      first | rfl | (rfl)
    unfold P_X9_restore
    rw [tauR_0 (show s 118 3 = nI 0 from c1)]
    exact xfin eY hCe1

abbrev P_X9_move (cM h s : Mm) (τ τk : Nat → List Int32) (w i o j n : Int32) : Option Value → Mm → Prop := fun r h2 => r = some (.int (Y_move s w i o j n).1) ∧ CX cM h2 (Y_move s w i o j n).2 τ τk
theorem c_X9_move {l : Launch} (cM h s : Mm) (τ τk : Nat → List Int32) (w i o j n : Int32) (hC : CX cM h s τ τk) (hI : INV s τ τk) : Con l yX9_move cX9_move 8 (some .int) 2 60 132 GL h [.ref 0, .int w, .int i, .int o, .int j, .int n] (P_X9_move cM h s τ τk w i o j n) := by
  refine Con.ofV (own := "FoxRounds") (nm := "move") rfl rfl (by decide) (Nat.le_of_ble_eq_true rfl) ?_
  intro κ ρ hkl K
  subst hkl
  show V κ (QM κ (132, ρ, GL, 0, 0) (P_X9_move cM h s τ τk w i o j n)) 8 (132, ρ, GL, 0, 0) h 0 [(0, .ref 0), (1, .int w), (2, .int i), (3, .int o), (4, .int j), (5, .int n)] []
  have hd := hI.d
  have hn8 := hd.nw8
  have ht5 := hd.nt5
  refine v_iload_n K dX9_move_0 rfl ?_
  refine v_callS (As := [.int w]) K (c_X9_isSheet h w) lX9_287 rfl ⟨by decide, by decide⟩ (Nat.le_of_ble_eq_true rfl) dX9_move_1 (fun r1 h1 hp1 => ?_) rfl
  obtain ⟨rfl, rfl⟩ := hp1
  refine v_some ?_
  refine v_ifB_eq (tgt := 14) K dX9_move_4 rfl (fun c1 => ?_) (fun c1 => ?_)
  · skip
    refine v_aload_n K dX9_move_14 rfl ?_
    refine v_iconstN K 1 rfl dX9_move_15 ?_
    refine v_callV (As := [.int (nI 1)]) K (c_X9_error h 1 (by omega)) lX9_75 ck_X9 rfl sh_0 pl_0 rfl ⟨by decide, by decide⟩ (Nat.le_of_ble_eq_true rfl) dX9_move_16 (fun r2 h2 hp2 => ?_) rfl
    obtain ⟨rfl, rfl⟩ := hp2
    refine v_some ?_
    have hCe1 : CX cM (u2 h 109 1 (h 109 1 + nI 1)) (u2 s 122 1 (s 122 1 + nI 1)) τ τk := CX.er hC (by omega) (by omega)
    refine v_iret K dX9_move_19 ?_
    have eY : Y_move s w i o j n = ((-1000000000) - nI 1, (u2 s 122 1 (s 122 1 + nI 1))) := by
      unfold Y_move
      refine (@if_pos _ (Classical.propDecidable _) (fun q => by first | exact absurd q.1 (by assumption) | exact absurd q.2 (by assumption)) _ _ _).trans ?_
      first | rfl | (rfl)
    exact xfin eY hCe1
  · skip
    obtain ⟨j1, Hj1, rfl⟩ := c1
    refine v_iload_n K dX9_move_7 rfl ?_
    refine v_callS (As := [.int o]) K (c_X9_isSheet h o) lX9_287 rfl ⟨by decide, by decide⟩ (Nat.le_of_ble_eq_true rfl) dX9_move_8 (fun r3 h3 hp3 => ?_) rfl
    obtain ⟨rfl, rfl⟩ := hp3
    refine v_some ?_
    refine v_ifB_ne (tgt := 20) K dX9_move_11 rfl (fun c2 => ?_) (fun c2 => ?_)
    · skip
      obtain ⟨j2, Hj2, rfl⟩ := c2
      refine v_aload_n K dX9_move_20 rfl ?_
      refine v_getr (q := 108) K fX9_56 sh_0 pl_0 gl_0_6 dX9_move_21 ?_
      refine v_iload_n K dX9_move_24 rfl ?_
      refine v_aald (q := 110 + 2 * j1) K sh_108 (Or.inr rfl) pl_108 (by omega) (gl_S (by omega)) dX9_move_25 ?_
      refine v_astore (lv2 := [(6, .ref (110 + 2 * j1)), (0, .ref 0), (1, .int (nI j1)), (2, .int i), (3, .int (nI j2)), (4, .int j), (5, .int n)]) K dX9_move_26 (by decide) rfl ?_
      refine v_aload_n K dX9_move_28 rfl ?_
      refine v_getr (q := 108) K fX9_56 sh_0 pl_0 gl_0_6 dX9_move_29 ?_
      refine v_iload_n K dX9_move_32 rfl ?_
      refine v_aald (q := 110 + 2 * j2) K sh_108 (Or.inr rfl) pl_108 (by omega) (gl_S (by omega)) dX9_move_33 ?_
      refine v_astore (lv2 := [(7, .ref (110 + 2 * j2)), (6, .ref (110 + 2 * j1)), (0, .ref 0), (1, .int (nI j1)), (2, .int i), (3, .int (nI j2)), (4, .int j), (5, .int n)]) K dX9_move_34 (by decide) rfl ?_
      refine v_aload K dX9_move_36 rfl ?_
      refine v_callV (As := []) K (c_X4_isMissing h j1 (by omega)) lX9_296 ck_X4 rfl (sh_S (by omega)) (pl_S (by omega)) rfl ⟨by decide, by decide⟩ (Nat.le_of_ble_eq_true rfl) dX9_move_38 (fun r4 h4 hp4 => ?_) rfl
      obtain ⟨rfl, rfl⟩ := hp4
      refine v_some ?_
      rw [show h (110 + 2 * j1) 0 = s 128 j1 from (hC.2.2.2.2.1 _ (by omega)).1]
      refine v_ifB_ne (tgt := 52) K dX9_move_41 rfl (fun c3 => ?_) (fun c3 => ?_)
      · skip
        refine v_aload_n K dX9_move_52 rfl ?_
        refine v_iconstN K 2 rfl dX9_move_53 ?_
        refine v_callV (As := [.int (nI 2)]) K (c_X9_error h 2 (by omega)) lX9_75 ck_X9 rfl sh_0 pl_0 rfl ⟨by decide, by decide⟩ (Nat.le_of_ble_eq_true rfl) dX9_move_54 (fun r5 h5 hp5 => ?_) rfl
        obtain ⟨rfl, rfl⟩ := hp5
        refine v_some ?_
        have hCe2 : CX cM (u2 h 109 2 (h 109 2 + nI 1)) (u2 s 122 2 (s 122 2 + nI 1)) τ τk := CX.er hC (by omega) (by omega)
        refine v_iret K dX9_move_57 ?_
        have eY : Y_move s (nI j1) i (nI j2) j n = ((-1000000000) - nI 2, (u2 s 122 2 (s 122 2 + nI 1))) := by
          unfold Y_move
          refine (@if_neg _ (Classical.propDecidable _) (fun q => q ⟨⟨_, by assumption, rfl⟩, ⟨_, by assumption, rfl⟩⟩) _ _ _).trans ?_
          refine (@if_pos _ (Classical.propDecidable _) (by rw [cl_ix (show j1 < 2 ^ 31 by omega), cl_ix (show j2 < 2 ^ 31 by omega)]; exact Or.inl c3) _ _ _).trans ?_
          first | rfl | ((try rw [cl_ix (show j1 < 2 ^ 31 by omega)]) ; (try rw [cl_ix (show j2 < 2 ^ 31 by omega)]))
        exact xfin eY hCe2
      · skip
        refine v_aload K dX9_move_44 rfl ?_
        refine v_callV (As := []) K (c_X4_isMissing h j2 (by omega)) lX9_296 ck_X4 rfl (sh_S (by omega)) (pl_S (by omega)) rfl ⟨by decide, by decide⟩ (Nat.le_of_ble_eq_true rfl) dX9_move_46 (fun r6 h6 hp6 => ?_) rfl
        obtain ⟨rfl, rfl⟩ := hp6
        refine v_some ?_
        rw [show h (110 + 2 * j2) 0 = s 128 j2 from (hC.2.2.2.2.1 _ (by omega)).1]
        refine v_ifB_eq (tgt := 58) K dX9_move_49 rfl (fun c4 => ?_) (fun c4 => ?_)
        · skip
          refine v_aload K dX9_move_58 rfl ?_
          refine v_geti (x := s 128 j1) K fX9_300 (sh_S (by omega)) (pl_S (by omega)) (hC.2.2.2.2.1 _ (by omega)).1 dX9_move_60 ?_
          refine v_aload K dX9_move_63 rfl ?_
          refine v_geti (x := s 128 j2) K fX9_300 (sh_S (by omega)) (pl_S (by omega)) (hC.2.2.2.2.1 _ (by omega)).1 dX9_move_65 ?_
          refine v_icmp_eq (tgt := 77) K dX9_move_68 rfl (fun c5 => ?_) (fun c5 => ?_)
          · skip
            obtain ⟨-, sz1, hsz1, esz1, -⟩ := hI.2.2.1 j1 (by omega)
            obtain ⟨-, sz2, hsz2, esz2, -⟩ := hI.2.2.1 j2 (by omega)
            refine v_aload K dX9_move_77 rfl ?_
            refine v_iload_n K dX9_move_79 rfl ?_
            refine v_iload K dX9_move_80 rfl ?_
            refine v_callV (As := [.int i, .int n]) K (c_X4_holds h j1 sz1 i n (by omega) (by omega) ((hC.2.2.2.2.1 _ (by omega)).2.1.trans esz1)) lX9_303 ck_X4 rfl (sh_S (by omega)) (pl_S (by omega)) rfl ⟨by decide, by decide⟩ (Nat.le_of_ble_eq_true rfl) dX9_move_82 (fun r7 h7 hp7 => ?_) rfl
            obtain ⟨rfl, rfl⟩ := hp7
            refine v_some ?_
            refine v_ifB_eq (tgt := 100) K dX9_move_85 rfl (fun c6 => ?_) (fun c6 => ?_)
            · skip
              refine v_aload_n K dX9_move_100 rfl ?_
              refine v_iconstN K 1 rfl dX9_move_101 ?_
              refine v_callV (As := [.int (nI 1)]) K (c_X9_error h 1 (by omega)) lX9_75 ck_X9 rfl sh_0 pl_0 rfl ⟨by decide, by decide⟩ (Nat.le_of_ble_eq_true rfl) dX9_move_102 (fun r8 h8 hp8 => ?_) rfl
              obtain ⟨rfl, rfl⟩ := hp8
              refine v_some ?_
              have hCe3 : CX cM (u2 h 109 1 (h 109 1 + nI 1)) (u2 s 122 1 (s 122 1 + nI 1)) τ τk := CX.er hC (by omega) (by omega)
              refine v_iret K dX9_move_105 ?_
              have eY : Y_move s (nI j1) i (nI j2) j n = ((-1000000000) - nI 1, (u2 s 122 1 (s 122 1 + nI 1))) := by
                unfold Y_move
                refine (@if_neg _ (Classical.propDecidable _) (fun q => q ⟨⟨_, by assumption, rfl⟩, ⟨_, by assumption, rfl⟩⟩) _ _ _).trans ?_
                refine (@if_neg _ (Classical.propDecidable _) (by rw [cl_ix (show j1 < 2 ^ 31 by omega), cl_ix (show j2 < 2 ^ 31 by omega)]; exact fun q => q.elim c3 c4) _ _ _).trans ?_
                refine (@if_neg _ (Classical.propDecidable _) (by rw [cl_ix (show j1 < 2 ^ 31 by omega), cl_ix (show j2 < 2 ^ 31 by omega)]; exact fun q => q c5) _ _ _).trans ?_
                refine (@if_pos _ (Classical.propDecidable _) (by rw [cl_ix (show j1 < 2 ^ 31 by omega), cl_ix (show j2 < 2 ^ 31 by omega), esz1, esz2, ← hold_mv hsz1 hsz2]; exact fun q => c6 q.1) _ _ _).trans ?_
                first | rfl | ((try rw [cl_ix (show j1 < 2 ^ 31 by omega)]) ; (try rw [cl_ix (show j2 < 2 ^ 31 by omega)]))
              exact xfin eY hCe3
            · skip
              refine v_aload K dX9_move_88 rfl ?_
              refine v_iload K dX9_move_90 rfl ?_
              refine v_iload K dX9_move_92 rfl ?_
              refine v_callV (As := [.int j, .int n]) K (c_X4_holds h j2 sz2 j n (by omega) (by omega) ((hC.2.2.2.2.1 _ (by omega)).2.1.trans esz2)) lX9_303 ck_X4 rfl (sh_S (by omega)) (pl_S (by omega)) rfl ⟨by decide, by decide⟩ (Nat.le_of_ble_eq_true rfl) dX9_move_94 (fun r9 h9 hp9 => ?_) rfl
              obtain ⟨rfl, rfl⟩ := hp9
              refine v_some ?_
              refine v_ifB_ne (tgt := 106) K dX9_move_97 rfl (fun c7 => ?_) (fun c7 => ?_)
              · skip
                have hh1 := c6
                have hh2 := c7
                obtain ⟨aa, nn, rfl, rfl, hsa⟩ := c6
                obtain ⟨bb, n2, rfl, en2, hsb⟩ := c7
                obtain rfl := nI_inj (show nn < 2 ^ 31 by omega) (show n2 < 2 ^ 31 by omega) en2
                refine v_aload K dX9_move_106 rfl ?_
                refine v_getr (q := 111 + 2 * j1) K fX9_116 (sh_S (by omega)) (pl_S (by omega)) (gl_Sr (by omega)) dX9_move_108 ?_
                refine v_iload_n K dX9_move_111 rfl ?_
                refine v_aload K dX9_move_112 rfl ?_
                refine v_getr (q := 111 + 2 * j2) K fX9_116 (sh_S (by omega)) (pl_S (by omega)) (gl_Sr (by omega)) dX9_move_114 ?_
                refine v_iload K dX9_move_117 rfl ?_
                refine v_iload K dX9_move_119 rfl ?_
                refine v_copy K jX9_306 jna_copy jst_copy jin_sys (sh_Sr (by omega)) (sh_Sr (by omega)) (Or.inl rfl) (pl_S (by omega)) (pl_S (by omega)) (by omega) (by omega) ⟨by decide, by decide⟩ (Nat.le_of_ble_eq_true rfl) dX9_move_121 ?_
                have hCm : CX cM (rw2 h (111 + 2 * j2) (va_cpy (h (111 + 2 * j1)) (h (111 + 2 * j2)) aa bb nn)) (rw2 s 130 (movR (s 130) (40 * j1 + aa) (40 * j2 + bb) nn)) τ τk := CX.sx hC (hC.2.2.2.2.1.mv (by omega) (by omega) (by omega) (by omega)) (fun a ha => rw2_off (by omega)) (fun a a1 a2 a3 => rw2_off a3)
                refine v_iload K dX9_move_124 rfl ?_
                refine v_iret K dX9_move_126 ?_
                have eY : Y_move s (nI j1) (nI aa) (nI j2) (nI bb) (nI nn) = (nI nn, (rw2 s 130 (movR (s 130) (40 * j1 + aa) (40 * j2 + bb) nn))) := by
                  unfold Y_move
                  refine (@if_neg _ (Classical.propDecidable _) (fun q => q ⟨⟨_, by assumption, rfl⟩, ⟨_, by assumption, rfl⟩⟩) _ _ _).trans ?_
                  refine (@if_neg _ (Classical.propDecidable _) (by rw [cl_ix (show j1 < 2 ^ 31 by omega), cl_ix (show j2 < 2 ^ 31 by omega)]; exact fun q => q.elim c3 c4) _ _ _).trans ?_
                  refine (@if_neg _ (Classical.propDecidable _) (by rw [cl_ix (show j1 < 2 ^ 31 by omega), cl_ix (show j2 < 2 ^ 31 by omega)]; exact fun q => q c5) _ _ _).trans ?_
                  refine (@if_neg _ (Classical.propDecidable _) (by rw [cl_ix (show j1 < 2 ^ 31 by omega), cl_ix (show j2 < 2 ^ 31 by omega), esz1, esz2, ← hold_mv hsz1 hsz2]; exact fun q => q ⟨hh1, hh2⟩) _ _ _).trans ?_
                  rw [cl_ix (show j1 < 2 ^ 31 by omega), cl_ix (show j2 < 2 ^ 31 by omega), cl_ix (show aa < 2 ^ 31 by omega), cl_ix (show bb < 2 ^ 31 by omega), cl_ix (show nn < 2 ^ 31 by omega)]
                exact xfin eY hCm
              · skip
                refine v_aload_n K dX9_move_100 rfl ?_
                refine v_iconstN K 1 rfl dX9_move_101 ?_
                refine v_callV (As := [.int (nI 1)]) K (c_X9_error h 1 (by omega)) lX9_75 ck_X9 rfl sh_0 pl_0 rfl ⟨by decide, by decide⟩ (Nat.le_of_ble_eq_true rfl) dX9_move_102 (fun r10 h10 hp10 => ?_) rfl
                obtain ⟨rfl, rfl⟩ := hp10
                refine v_some ?_
                have hCe4 : CX cM (u2 h 109 1 (h 109 1 + nI 1)) (u2 s 122 1 (s 122 1 + nI 1)) τ τk := CX.er hC (by omega) (by omega)
                refine v_iret K dX9_move_105 ?_
                have eY : Y_move s (nI j1) i (nI j2) j n = ((-1000000000) - nI 1, (u2 s 122 1 (s 122 1 + nI 1))) := by
                  unfold Y_move
                  refine (@if_neg _ (Classical.propDecidable _) (fun q => q ⟨⟨_, by assumption, rfl⟩, ⟨_, by assumption, rfl⟩⟩) _ _ _).trans ?_
                  refine (@if_neg _ (Classical.propDecidable _) (by rw [cl_ix (show j1 < 2 ^ 31 by omega), cl_ix (show j2 < 2 ^ 31 by omega)]; exact fun q => q.elim c3 c4) _ _ _).trans ?_
                  refine (@if_neg _ (Classical.propDecidable _) (by rw [cl_ix (show j1 < 2 ^ 31 by omega), cl_ix (show j2 < 2 ^ 31 by omega)]; exact fun q => q c5) _ _ _).trans ?_
                  refine (@if_pos _ (Classical.propDecidable _) (by rw [cl_ix (show j1 < 2 ^ 31 by omega), cl_ix (show j2 < 2 ^ 31 by omega), esz1, esz2, ← hold_mv hsz1 hsz2]; exact fun q => c7 q.2) _ _ _).trans ?_
                  first | rfl | ((try rw [cl_ix (show j1 < 2 ^ 31 by omega)]) ; (try rw [cl_ix (show j2 < 2 ^ 31 by omega)]))
                exact xfin eY hCe4
          · skip
            refine v_aload_n K dX9_move_71 rfl ?_
            refine v_iconstN K 5 rfl dX9_move_72 ?_
            refine v_callV (As := [.int (nI 5)]) K (c_X9_error h 5 (by omega)) lX9_75 ck_X9 rfl sh_0 pl_0 rfl ⟨by decide, by decide⟩ (Nat.le_of_ble_eq_true rfl) dX9_move_73 (fun r11 h11 hp11 => ?_) rfl
            obtain ⟨rfl, rfl⟩ := hp11
            refine v_some ?_
            have hCe5 : CX cM (u2 h 109 5 (h 109 5 + nI 1)) (u2 s 122 5 (s 122 5 + nI 1)) τ τk := CX.er hC (by omega) (by omega)
            refine v_iret K dX9_move_76 ?_
            have eY : Y_move s (nI j1) i (nI j2) j n = ((-1000000000) - nI 5, (u2 s 122 5 (s 122 5 + nI 1))) := by
              unfold Y_move
              refine (@if_neg _ (Classical.propDecidable _) (fun q => q ⟨⟨_, by assumption, rfl⟩, ⟨_, by assumption, rfl⟩⟩) _ _ _).trans ?_
              refine (@if_neg _ (Classical.propDecidable _) (by rw [cl_ix (show j1 < 2 ^ 31 by omega), cl_ix (show j2 < 2 ^ 31 by omega)]; exact fun q => q.elim c3 c4) _ _ _).trans ?_
              refine (@if_pos _ (Classical.propDecidable _) (by rw [cl_ix (show j1 < 2 ^ 31 by omega), cl_ix (show j2 < 2 ^ 31 by omega)]; exact c5) _ _ _).trans ?_
              first | rfl | ((try rw [cl_ix (show j1 < 2 ^ 31 by omega)]) ; (try rw [cl_ix (show j2 < 2 ^ 31 by omega)]))
            exact xfin eY hCe5
        · skip
          refine v_aload_n K dX9_move_52 rfl ?_
          refine v_iconstN K 2 rfl dX9_move_53 ?_
          refine v_callV (As := [.int (nI 2)]) K (c_X9_error h 2 (by omega)) lX9_75 ck_X9 rfl sh_0 pl_0 rfl ⟨by decide, by decide⟩ (Nat.le_of_ble_eq_true rfl) dX9_move_54 (fun r12 h12 hp12 => ?_) rfl
          obtain ⟨rfl, rfl⟩ := hp12
          refine v_some ?_
          have hCe6 : CX cM (u2 h 109 2 (h 109 2 + nI 1)) (u2 s 122 2 (s 122 2 + nI 1)) τ τk := CX.er hC (by omega) (by omega)
          refine v_iret K dX9_move_57 ?_
          have eY : Y_move s (nI j1) i (nI j2) j n = ((-1000000000) - nI 2, (u2 s 122 2 (s 122 2 + nI 1))) := by
            unfold Y_move
            refine (@if_neg _ (Classical.propDecidable _) (fun q => q ⟨⟨_, by assumption, rfl⟩, ⟨_, by assumption, rfl⟩⟩) _ _ _).trans ?_
            refine (@if_pos _ (Classical.propDecidable _) (by rw [cl_ix (show j1 < 2 ^ 31 by omega), cl_ix (show j2 < 2 ^ 31 by omega)]; exact Or.inr c4) _ _ _).trans ?_
            first | rfl | ((try rw [cl_ix (show j1 < 2 ^ 31 by omega)]) ; (try rw [cl_ix (show j2 < 2 ^ 31 by omega)]))
          exact xfin eY hCe6
    · skip
      refine v_aload_n K dX9_move_14 rfl ?_
      refine v_iconstN K 1 rfl dX9_move_15 ?_
      refine v_callV (As := [.int (nI 1)]) K (c_X9_error h 1 (by omega)) lX9_75 ck_X9 rfl sh_0 pl_0 rfl ⟨by decide, by decide⟩ (Nat.le_of_ble_eq_true rfl) dX9_move_16 (fun r13 h13 hp13 => ?_) rfl
      obtain ⟨rfl, rfl⟩ := hp13
      refine v_some ?_
      have hCe7 : CX cM (u2 h 109 1 (h 109 1 + nI 1)) (u2 s 122 1 (s 122 1 + nI 1)) τ τk := CX.er hC (by omega) (by omega)
      refine v_iret K dX9_move_19 ?_
      have eY : Y_move s (nI j1) i o j n = ((-1000000000) - nI 1, (u2 s 122 1 (s 122 1 + nI 1))) := by
        unfold Y_move
        refine (@if_pos _ (Classical.propDecidable _) (fun q => by first | exact absurd q.1 (by assumption) | exact absurd q.2 (by assumption)) _ _ _).trans ?_
        first | rfl | ((try rw [cl_ix (show j1 < 2 ^ 31 by omega)]))
      exact xfin eY hCe7

abbrev P_X9_nights (cM h s : Mm) (τ τk : Nat → List Int32) (n : Int32) : Option Value → Mm → Prop := fun r h2 => r = some (.int (Y_nights s τ n).1) ∧ CX cM h2 (Y_nights s τ n).2 τ τk
theorem c_X9_nights {l : Launch} (cM h s : Mm) (τ τk : Nat → List Int32) (n : Int32) (hC : CX cM h s τ τk) (hI : INV s τ τk) : Con l yX9_nights cX9_nights 4 (some .int) 5 120 132 GL h [.ref 0, .int n] (P_X9_nights cM h s τ τk n) := by
  refine Con.ofV (own := "FoxRounds") (nm := "nights") rfl rfl (by decide) (Nat.le_of_ble_eq_true rfl) ?_
  intro κ ρ hkl K
  subst hkl
  show V κ (QM κ (132, ρ, GL, 0, 0) (P_X9_nights cM h s τ τk n)) 4 (132, ρ, GL, 0, 0) h 0 [(0, .ref 0), (1, .int n)] []
  have hd := hI.d
  have hn8 := hd.nw8
  have ht5 := hd.nt5
  obtain ⟨tn, htn, etn⟩ := hI.t8
  refine v_aload_n K dX9_nights_0 rfl ?_
  refine v_iload_n K dX9_nights_1 rfl ?_
  refine v_callV (As := [.int n]) K (c_X9_nightsError cM h s τ τk tn n hC htn etn) lX9_180 ck_X9 rfl sh_0 pl_0 rfl ⟨by decide, by decide⟩ (Nat.le_of_ble_eq_true rfl) dX9_nights_2 (fun r1 h1 hp1 => ?_) rfl
  obtain ⟨⟨k, rfl, hk⟩, rfl⟩ := hp1
  refine v_some ?_
  refine v_istore_n (lv2 := [(2, .int (nI k)), (0, .ref 0), (1, .int n)]) K dX9_nights_5 (by decide) rfl ?_
  rcases hk with ⟨rfl, hw⟩ | ⟨rfl, j, hj1, hjn, rfl, hb⟩ | ⟨rfl, j, hj1, hjn, rfl, hb⟩
  · skip
    skip
    refine v_iload_n K dX9_nights_6 rfl ?_
    refine v_ifN_eq (tgt := 16) K (by omega) dX9_nights_7 rfl (fun c1 => ?_) (fun c1 => ?_)
    · exact absurd c1 (by decide)
    · skip
      refine v_aload_n K dX9_nights_10 rfl ?_
      refine v_iload_n K dX9_nights_11 rfl ?_
      refine v_callV (As := [.int (nI 1)]) K (c_X9_error h 1 (by omega)) lX9_75 ck_X9 rfl sh_0 pl_0 rfl ⟨by decide, by decide⟩ (Nat.le_of_ble_eq_true rfl) dX9_nights_12 (fun r2 h2 hp2 => ?_) rfl
      obtain ⟨rfl, rfl⟩ := hp2
      refine v_some ?_
      have hCe1 : CX cM (u2 h 109 1 (h 109 1 + nI 1)) (u2 s 122 1 (s 122 1 + nI 1)) τ τk := CX.er hC (by omega) (by omega)
      refine v_iret K dX9_nights_15 ?_
      have eY : Y_nights s τ n = ((-1000000000) - nI 1, (u2 s 122 1 (s 122 1 + nI 1))) := by
        unfold Y_nights
        refine (@if_pos _ (Classical.propDecidable _) hw _ _ _).trans ?_
        first | rfl | (rfl)
      exact xfin eY hCe1
  · skip
    skip
    refine v_iload_n K dX9_nights_6 rfl ?_
    refine v_ifN_eq (tgt := 16) K (by omega) dX9_nights_7 rfl (fun c2 => ?_) (fun c2 => ?_)
    · exact absurd c2 (by decide)
    · skip
      refine v_aload_n K dX9_nights_10 rfl ?_
      refine v_iload_n K dX9_nights_11 rfl ?_
      refine v_callV (As := [.int (nI 3)]) K (c_X9_error h 3 (by omega)) lX9_75 ck_X9 rfl sh_0 pl_0 rfl ⟨by decide, by decide⟩ (Nat.le_of_ble_eq_true rfl) dX9_nights_12 (fun r3 h3 hp3 => ?_) rfl
      obtain ⟨rfl, rfl⟩ := hp3
      refine v_some ?_
      have hCe2 : CX cM (u2 h 109 3 (h 109 3 + nI 1)) (u2 s 122 3 (s 122 3 + nI 1)) τ τk := CX.er hC (by omega) (by omega)
      refine v_iret K dX9_nights_15 ?_
      have eY : Y_nights s τ (nI j) = ((-1000000000) - nI 3, (u2 s 122 3 (s 122 3 + nI 1))) := by
        unfold Y_nights
        refine (@if_neg _ (Classical.propDecidable _) (fun q => q ⟨(nI_leI (by omega) (by omega)).mpr hj1, (nI_leI (by omega) (by omega)).mpr hjn⟩) _ _ _).trans ?_
        refine (@if_pos _ (Classical.propDecidable _) (by rw [etn, cl_ix (show tn < 2 ^ 31 by omega), cl_ix (show j < 2 ^ 31 by omega)]; omega) _ _ _).trans ?_
        first | rfl | ((try rw [cl_ix (show j < 2 ^ 31 by omega)]))
      exact xfin eY hCe2
  · skip
    skip
    refine v_iload_n K dX9_nights_6 rfl ?_
    refine v_ifN_eq (tgt := 16) K (by omega) dX9_nights_7 rfl (fun c3 => ?_) (fun c3 => ?_)
    · skip
      refine v_iconstN K 0 rfl dX9_nights_16 ?_
      refine v_istore_n (lv2 := [(3, .int (nI 0)), (2, .int (nI 0)), (0, .ref 0), (1, .int (nI j))]) K dX9_nights_17 (by decide) rfl ?_
      have L18 : ∀ (mm : Nat) (a : Nat) (g : Mm) (ha : a ≤ j) (hZ : CX cM g (rw2 s 119 (nightsD τ (s 119) a)) τ τk), j + 1 - a < mm → V κ (QM κ (132, ρ, GL, 0, 0) (P_X9_nights cM h s τ τk (nI j))) 4 (132, ρ, GL, 0, 0) g 18 [(0, .ref 0), (1, .int (nI j)), (3, .int (nI a))] [] := by
        intro mm
        induction mm with
        | zero => intro a g ha hZ hmm; exact absurd hmm (Nat.not_lt_zero _)
        | succ mm ih18 =>
          intro a g ha hZ hmm
          refine v_iload_n K dX9_nights_18 rfl ?_
          refine v_iload_n K dX9_nights_19 rfl ?_
          refine v_icmpN_ge (tgt := 46) K (by omega) (by omega) dX9_nights_20 rfl (fun c4 => ?_) (fun c4 => ?_)
          · skip
            refine v_aload_n K dX9_nights_46 rfl ?_
            refine v_getr (q := 1) K fX9_10 sh_0 pl_0 gl_0_0 dX9_nights_47 ?_
            refine v_getr (q := 2) K fX9_25 sh_1 pl_1 gl_1_0 dX9_nights_50 ?_
            refine v_getr (q := 3) K fX9_79 sh_2 pl_2 gl_2_0 dX9_nights_53 ?_
            refine v_iconstN K 0 rfl dX9_nights_56 ?_
            refine v_iald (x := nightsD τ (s 119) a 0) K sh_3 pl_3 (by omega) ((hZ.W.1.n (by decide)).trans (congrFun rw2_at _)) dX9_nights_57 ?_
            refine v_iret K dX9_nights_58 ?_
            have eY : Y_nights s τ (nI j) = (nightsD τ (s 119) a 0, (rw2 s 119 (nightsD τ (s 119) a))) := by
              unfold Y_nights
              refine (@if_neg _ (Classical.propDecidable _) (fun q => q ⟨(nI_leI (by omega) (by omega)).mpr hj1, (nI_leI (by omega) (by omega)).mpr hjn⟩) _ _ _).trans ?_
              refine (@if_neg _ (Classical.propDecidable _) (by rw [etn, cl_ix (show tn < 2 ^ 31 by omega), cl_ix (show j < 2 ^ 31 by omega)]; omega) _ _ _).trans ?_
              (obtain rfl : a = j := (by omega); rw [cl_ix (show a < 2 ^ 31 by omega)])
            exact xfin eY hZ
          · skip
            refine v_aload_n K dX9_nights_23 rfl ?_
            refine v_getr (q := 1) K fX9_10 sh_0 pl_0 gl_0_0 dX9_nights_24 ?_
            refine v_getr (q := 2) K fX9_25 sh_1 pl_1 gl_1_0 dX9_nights_27 ?_
            refine v_aload_n K dX9_nights_30 rfl ?_
            refine v_getr (q := 1) K fX9_10 sh_0 pl_0 gl_0_0 dX9_nights_31 ?_
            refine v_getr (q := 20) K fX9_29 sh_1 pl_1 gl_1_1 dX9_nights_34 ?_
            refine v_callV (As := [.ref 20]) K (c_X1_passNight g 2 (nightsD τ (s 119) a) τ hB_2 (by have hx := hZ.W.1; rw [rw2_at] at hx; exact hx) (hd.nights a) hI.1.2.2 hZ.W.2.1) lX9_183 ck_X1 rfl sh_2 pl_2 rfl ⟨by decide, by decide⟩ (Nat.le_of_ble_eq_true rfl) dX9_nights_37 (fun r4 h4 hp4 => ?_) rfl
            obtain ⟨rfl, hRn, -, hFn⟩ := hp4
            have hCn : CX cM h4 (rw2 s 119 (nightD τ (nightsD τ (s 119) a))) τ τk := by have hx := CX.lo hZ (d := nightD τ (nightsD τ (s 119) a)) hRn hFn (fun i hi => by rw [rw2_at]; exact night_off (hd.nights a) hi); rw [rw2_rw2] at hx; exact hx
            refine v_none ?_
            refine v_iincN (lv2 := [(3, .int (nI (a + 1))), (0, .ref 0), (1, .int (nI j))]) K 1 dX9_nights_40 rfl rfl (by decide) rfl ?_
            refine v_goto (tgt := 18) K dX9_nights_43 rfl ?_
            refine v_sub (lv2 := [(0, .ref 0), (1, .int (nI j)), (3, .int (nI (a + 1)))]) (by simp) ?_
            exact ih18 (a + 1) h4 (by first | assumption | omega | rfl) (by exact hCn) (by omega)
      refine v_sub (lv2 := [(0, .ref 0), (1, .int (nI j)), (3, .int (nI 0))]) (by simp) ?_
      exact L18 (j + 1 - 0 + 1) 0 h (by first | assumption | omega | rfl) (by rw [show nightsD τ (s 119) 0 = s 119 from rfl, rw2_self]; exact hC) (Nat.lt_succ_self _)
    · exact absurd c3 (by decide)

abbrev P_X9_careless (cM h s : Mm) (τ τk : Nat → List Int32) (n v : Int32) : Option Value → Mm → Prop := fun r h2 => r = some (.int (Y_careless s τ n v).1) ∧ CX cM h2 (Y_careless s τ n v).2 τ τk
theorem c_X9_careless {l : Launch} (cM h s : Mm) (τ τk : Nat → List Int32) (n v : Int32) (hC : CX cM h s τ τk) (hI : INV s τ τk) : Con l yX9_careless cX9_careless 5 (some .int) 5 120 132 GL h [.ref 0, .int n, .int v] (P_X9_careless cM h s τ τk n v) := by
  refine Con.ofV (own := "FoxRounds") (nm := "careless") rfl rfl (by decide) (Nat.le_of_ble_eq_true rfl) ?_
  intro κ ρ hkl K
  subst hkl
  show V κ (QM κ (132, ρ, GL, 0, 0) (P_X9_careless cM h s τ τk n v)) 5 (132, ρ, GL, 0, 0) h 0 [(0, .ref 0), (1, .int n), (2, .int v)] []
  have hd := hI.d
  have hn8 := hd.nw8
  have ht5 := hd.nt5
  obtain ⟨tn, htn, etn⟩ := hI.t8
  refine v_iload_n K dX9_careless_0 rfl ?_
  refine v_iconstN K 0 rfl dX9_careless_1 ?_
  refine v_bipushN K 100 rfl dX9_careless_2 ?_
  refine v_callS (As := [.int v, .int (nI 0), .int (nI 100)]) K (c_X9_within h v (nI 0) (nI 100)) lX9_65 rfl ⟨by decide, by decide⟩ (Nat.le_of_ble_eq_true rfl) dX9_careless_4 (fun r1 h1 hp1 => ?_) rfl
  obtain ⟨rfl, rfl⟩ := hp1
  refine v_some ?_
  rw [show (nI 0 ≤ v ∧ v ≤ nI 100) = ix v 101 from in_ix (by decide)]
  refine v_ifB_eq (tgt := 18) K dX9_careless_7 rfl (fun c1 => ?_) (fun c1 => ?_)
  · skip
    refine v_iconstN K 1 rfl dX9_careless_18 ?_
    refine v_istore_n (lv2 := [(3, .int (nI 1)), (0, .ref 0), (1, .int n), (2, .int v)]) K dX9_careless_19 (by decide) rfl ?_
    refine v_iload_n K dX9_careless_20 rfl ?_
    refine v_ifN_eq (tgt := 30) K (by omega) dX9_careless_21 rfl (fun c2 => ?_) (fun c2 => ?_)
    · exact absurd c2 (by decide)
    · skip
      refine v_aload_n K dX9_careless_24 rfl ?_
      refine v_iload_n K dX9_careless_25 rfl ?_
      refine v_callV (As := [.int (nI 1)]) K (c_X9_error h 1 (by omega)) lX9_75 ck_X9 rfl sh_0 pl_0 rfl ⟨by decide, by decide⟩ (Nat.le_of_ble_eq_true rfl) dX9_careless_26 (fun r2 h2 hp2 => ?_) rfl
      obtain ⟨rfl, rfl⟩ := hp2
      refine v_some ?_
      have hCe1 : CX cM (u2 h 109 1 (h 109 1 + nI 1)) (u2 s 122 1 (s 122 1 + nI 1)) τ τk := CX.er hC (by omega) (by omega)
      refine v_iret K dX9_careless_29 ?_
      have eY : Y_careless s τ n v = ((-1000000000) - nI 1, (u2 s 122 1 (s 122 1 + nI 1))) := by
        unfold Y_careless
        refine (@if_pos _ (Classical.propDecidable _) (fun q => absurd q.2 (by assumption)) _ _ _).trans ?_
        first | rfl | (rfl)
      exact xfin eY hCe1
  · skip
    have hv101 := c1
    refine v_aload_n K dX9_careless_10 rfl ?_
    refine v_iload_n K dX9_careless_11 rfl ?_
    refine v_callV (As := [.int n]) K (c_X9_nightsError cM h s τ τk tn n hC htn etn) lX9_180 ck_X9 rfl sh_0 pl_0 rfl ⟨by decide, by decide⟩ (Nat.le_of_ble_eq_true rfl) dX9_careless_12 (fun r3 h3 hp3 => ?_) rfl
    obtain ⟨⟨k, rfl, hk⟩, rfl⟩ := hp3
    refine v_some ?_
    refine v_goto (tgt := 19) K dX9_careless_15 rfl ?_
    refine v_istore_n (lv2 := [(3, .int (nI k)), (0, .ref 0), (1, .int n), (2, .int v)]) K dX9_careless_19 (by decide) rfl ?_
    rcases hk with ⟨rfl, hw⟩ | ⟨rfl, j, hj1, hjn, rfl, hb⟩ | ⟨rfl, j, hj1, hjn, rfl, hb⟩
    · skip
      skip
      refine v_iload_n K dX9_careless_20 rfl ?_
      refine v_ifN_eq (tgt := 30) K (by omega) dX9_careless_21 rfl (fun c3 => ?_) (fun c3 => ?_)
      · exact absurd c3 (by decide)
      · skip
        refine v_aload_n K dX9_careless_24 rfl ?_
        refine v_iload_n K dX9_careless_25 rfl ?_
        refine v_callV (As := [.int (nI 1)]) K (c_X9_error h 1 (by omega)) lX9_75 ck_X9 rfl sh_0 pl_0 rfl ⟨by decide, by decide⟩ (Nat.le_of_ble_eq_true rfl) dX9_careless_26 (fun r4 h4 hp4 => ?_) rfl
        obtain ⟨rfl, rfl⟩ := hp4
        refine v_some ?_
        have hCe2 : CX cM (u2 h 109 1 (h 109 1 + nI 1)) (u2 s 122 1 (s 122 1 + nI 1)) τ τk := CX.er hC (by omega) (by omega)
        refine v_iret K dX9_careless_29 ?_
        have eY : Y_careless s τ n v = ((-1000000000) - nI 1, (u2 s 122 1 (s 122 1 + nI 1))) := by
          unfold Y_careless
          refine (@if_pos _ (Classical.propDecidable _) (fun q => hw q.1) _ _ _).trans ?_
          first | rfl | (rfl)
        exact xfin eY hCe2
    · skip
      skip
      refine v_iload_n K dX9_careless_20 rfl ?_
      refine v_ifN_eq (tgt := 30) K (by omega) dX9_careless_21 rfl (fun c4 => ?_) (fun c4 => ?_)
      · exact absurd c4 (by decide)
      · skip
        refine v_aload_n K dX9_careless_24 rfl ?_
        refine v_iload_n K dX9_careless_25 rfl ?_
        refine v_callV (As := [.int (nI 3)]) K (c_X9_error h 3 (by omega)) lX9_75 ck_X9 rfl sh_0 pl_0 rfl ⟨by decide, by decide⟩ (Nat.le_of_ble_eq_true rfl) dX9_careless_26 (fun r5 h5 hp5 => ?_) rfl
        obtain ⟨rfl, rfl⟩ := hp5
        refine v_some ?_
        have hCe3 : CX cM (u2 h 109 3 (h 109 3 + nI 1)) (u2 s 122 3 (s 122 3 + nI 1)) τ τk := CX.er hC (by omega) (by omega)
        refine v_iret K dX9_careless_29 ?_
        have eY : Y_careless s τ (nI j) v = ((-1000000000) - nI 3, (u2 s 122 3 (s 122 3 + nI 1))) := by
          unfold Y_careless
          refine (@if_neg _ (Classical.propDecidable _) (fun q => q ⟨⟨(nI_leI (by omega) (by omega)).mpr hj1, (nI_leI (by omega) (by omega)).mpr hjn⟩, hv101⟩) _ _ _).trans ?_
          refine (@if_pos _ (Classical.propDecidable _) (by rw [etn, cl_ix (show tn < 2 ^ 31 by omega), cl_ix (show j < 2 ^ 31 by omega)]; omega) _ _ _).trans ?_
          first | rfl | ((try rw [cl_ix (show j < 2 ^ 31 by omega)]))
        exact xfin eY hCe3
    · skip
      skip
      refine v_iload_n K dX9_careless_20 rfl ?_
      refine v_ifN_eq (tgt := 30) K (by omega) dX9_careless_21 rfl (fun c5 => ?_) (fun c5 => ?_)
      · skip
        refine v_iconstN K 0 rfl dX9_careless_30 ?_
        refine v_istore (lv2 := [(4, .int (nI 0)), (3, .int (nI 0)), (0, .ref 0), (1, .int (nI j)), (2, .int v)]) K dX9_careless_31 (by decide) rfl ?_
        have L33 : ∀ (mm : Nat) (a : Nat) (dd : Dm) (g : Mm) (ha : a ≤ j) (hdd : dd = carD τ v (s 119) a) (hdC : DOK dd) (hZ : CX cM g (rw2 s 119 dd) τ τk), j + 1 - a < mm → V κ (QM κ (132, ρ, GL, 0, 0) (P_X9_careless cM h s τ τk (nI j) v)) 5 (132, ρ, GL, 0, 0) g 33 [(0, .ref 0), (1, .int (nI j)), (2, .int v), (4, .int (nI a))] [] := by
          intro mm
          induction mm with
          | zero => intro a dd g ha hdd hdC hZ hmm; exact absurd hmm (Nat.not_lt_zero _)
          | succ mm ih33 =>
            intro a dd g ha hdd hdC hZ hmm
            refine v_iload K dX9_careless_33 rfl ?_
            refine v_iload_n K dX9_careless_35 rfl ?_
            refine v_icmpN_ge (tgt := 89) K (by omega) (by omega) dX9_careless_36 rfl (fun c6 => ?_) (fun c6 => ?_)
            · skip
              refine v_aload_n K dX9_careless_89 rfl ?_
              refine v_getr (q := 1) K fX9_10 sh_0 pl_0 gl_0_0 dX9_careless_90 ?_
              refine v_getr (q := 2) K fX9_25 sh_1 pl_1 gl_1_0 dX9_careless_93 ?_
              refine v_getr (q := 3) K fX9_79 sh_2 pl_2 gl_2_0 dX9_careless_96 ?_
              refine v_iconstN K 0 rfl dX9_careless_99 ?_
              refine v_iald (x := dd 0) K sh_3 pl_3 (by omega) ((hZ.W.1.n (by decide)).trans (congrFun rw2_at _)) dX9_careless_100 ?_
              refine v_iret K dX9_careless_101 ?_
              have eY : Y_careless s τ (nI j) v = (dd 0, (rw2 s 119 dd)) := by
                unfold Y_careless
                refine (@if_neg _ (Classical.propDecidable _) (fun q => q ⟨⟨(nI_leI (by omega) (by omega)).mpr hj1, (nI_leI (by omega) (by omega)).mpr hjn⟩, hv101⟩) _ _ _).trans ?_
                refine (@if_neg _ (Classical.propDecidable _) (by rw [etn, cl_ix (show tn < 2 ^ 31 by omega), cl_ix (show j < 2 ^ 31 by omega)]; omega) _ _ _).trans ?_
                (obtain rfl : a = j := (by omega); subst hdd; rw [cl_ix (show a < 2 ^ 31 by omega)])
              exact xfin eY hZ
            · skip
              refine v_aload_n K dX9_careless_39 rfl ?_
              refine v_getr (q := 1) K fX9_10 sh_0 pl_0 gl_0_0 dX9_careless_40 ?_
              refine v_callV (As := []) K (c_X8_draw cM g (rw2 s 119 dd) τ τk hZ) lX9_187 ck_X8 rfl sh_1 pl_1 rfl ⟨by decide, by decide⟩ (Nat.le_of_ble_eq_true rfl) dX9_careless_43 (fun r6 h6 hp6 => ?_) rfl
              obtain ⟨rfl, hCd⟩ := hp6
              rw [u2_rw (h := rw2 s 119 dd), rw2_rw2, rw2_at] at hCd
              refine v_some ?_
              rw [rw2_at]
              refine v_bipushN K 100 rfl dX9_careless_46 ?_
              refine v_irem K dX9_careless_48 (by decide) ?_
              refine v_iload_n K dX9_careless_49 rfl ?_
              refine v_icmp_ge (tgt := 66) K dX9_careless_50 rfl (fun c7 => ?_) (fun c7 => ?_)
              · skip
                have hcd : careD v dd = upd dd 12 (dd 12 * 1103515245 + nI 12345) := by unfold careD; rw [if_neg (Int32.not_lt.mpr c7)]
                have hCq := hCd
                rw [← hcd] at hCq
                refine v_aload_n K dX9_careless_66 rfl ?_
                refine v_getr (q := 1) K fX9_10 sh_0 pl_0 gl_0_0 dX9_careless_67 ?_
                refine v_getr (q := 2) K fX9_25 sh_1 pl_1 gl_1_0 dX9_careless_70 ?_
                refine v_aload_n K dX9_careless_73 rfl ?_
                refine v_getr (q := 1) K fX9_10 sh_0 pl_0 gl_0_0 dX9_careless_74 ?_
                refine v_getr (q := 20) K fX9_29 sh_1 pl_1 gl_1_1 dX9_careless_77 ?_
                refine v_callV (As := [.ref 20]) K (c_X1_passNight h6 2 (careD v dd) τ hB_2 (by have hx := hCq.W.1; rw [rw2_at] at hx; exact hx) (careD_ok hdC) hI.1.2.2 hCq.W.2.1) lX9_183 ck_X1 rfl sh_2 pl_2 rfl ⟨by decide, by decide⟩ (Nat.le_of_ble_eq_true rfl) dX9_careless_80 (fun r7 h7 hp7 => ?_) rfl
                obtain ⟨rfl, hRn, -, hFn⟩ := hp7
                have hCn : CX cM h7 (rw2 s 119 (nightD τ (careD v dd))) τ τk := by have hx := CX.lo hCq (d := nightD τ (careD v dd)) hRn hFn (fun i hi => by rw [rw2_at]; exact night_off (careD_ok hdC) hi); rw [rw2_rw2] at hx; exact hx
                refine v_none ?_
                refine v_iincN (lv2 := [(4, .int (nI (a + 1))), (0, .ref 0), (1, .int (nI j)), (2, .int v)]) K 1 dX9_careless_83 rfl rfl (by decide) rfl ?_
                refine v_goto (tgt := 33) K dX9_careless_86 rfl ?_
                refine v_sub (lv2 := [(0, .ref 0), (1, .int (nI j)), (2, .int v), (4, .int (nI (a + 1)))]) (by simp) ?_
                exact ih33 (a + 1) ((nightD τ (careD v dd))) h7 (by first | assumption | omega | rfl) (by rw [hdd]; rfl) (by exact (careD_ok hdC).night) (by exact hCn) (by omega)
              · skip
                refine v_aload_n K dX9_careless_53 rfl ?_
                refine v_getr (q := 1) K fX9_10 sh_0 pl_0 gl_0_0 dX9_careless_54 ?_
                refine v_getr (q := 2) K fX9_25 sh_1 pl_1 gl_1_0 dX9_careless_57 ?_
                refine v_getr (q := 3) K fX9_79 sh_2 pl_2 gl_2_0 dX9_careless_60 ?_
                refine v_iconstN K 4 rfl dX9_careless_63 ?_
                refine v_iconstN K 1 rfl dX9_careless_64 ?_
                refine v_iast K sh_3 pl_3 (by omega) dX9_careless_65 ?_
                have hC4 : CX cM (u2 h6 3 4 (nI 1)) (rw2 s 119 (upd (upd dd 12 (dd 12 * 1103515245 + nI 12345)) 4 (nI 1))) τ τk := by have hx := CX.w2 hCd (WX.n hCd.W (k := 4) (v := nI 1) (by omega)) (by omega) (by omega); rw [u2_rw (h := rw2 s 119 _), rw2_rw2, rw2_at] at hx; exact hx
                have hcd : careD v dd = upd (upd dd 12 (dd 12 * 1103515245 + nI 12345)) 4 (nI 1) := by unfold careD; rw [if_pos (Int32.not_le.mp c7)]
                have hCq := hC4
                rw [← hcd] at hCq
                refine v_aload_n K dX9_careless_66 rfl ?_
                refine v_getr (q := 1) K fX9_10 sh_0 pl_0 gl_0_0 dX9_careless_67 ?_
                refine v_getr (q := 2) K fX9_25 sh_1 pl_1 gl_1_0 dX9_careless_70 ?_
                refine v_aload_n K dX9_careless_73 rfl ?_
                refine v_getr (q := 1) K fX9_10 sh_0 pl_0 gl_0_0 dX9_careless_74 ?_
                refine v_getr (q := 20) K fX9_29 sh_1 pl_1 gl_1_1 dX9_careless_77 ?_
                refine v_callV (As := [.ref 20]) K (c_X1_passNight ((u2 h6 3 4 (nI 1))) 2 (careD v dd) τ hB_2 (by have hx := hCq.W.1; rw [rw2_at] at hx; exact hx) (careD_ok hdC) hI.1.2.2 hCq.W.2.1) lX9_183 ck_X1 rfl sh_2 pl_2 rfl ⟨by decide, by decide⟩ (Nat.le_of_ble_eq_true rfl) dX9_careless_80 (fun r8 h8 hp8 => ?_) rfl
                obtain ⟨rfl, hRn, -, hFn⟩ := hp8
                have hCn : CX cM h8 (rw2 s 119 (nightD τ (careD v dd))) τ τk := by have hx := CX.lo hCq (d := nightD τ (careD v dd)) hRn hFn (fun i hi => by rw [rw2_at]; exact night_off (careD_ok hdC) hi); rw [rw2_rw2] at hx; exact hx
                refine v_none ?_
                refine v_iincN (lv2 := [(4, .int (nI (a + 1))), (0, .ref 0), (1, .int (nI j)), (2, .int v)]) K 1 dX9_careless_83 rfl rfl (by decide) rfl ?_
                refine v_goto (tgt := 33) K dX9_careless_86 rfl ?_
                refine v_sub (lv2 := [(0, .ref 0), (1, .int (nI j)), (2, .int v), (4, .int (nI (a + 1)))]) (by simp) ?_
                exact ih33 (a + 1) ((nightD τ (careD v dd))) h8 (by first | assumption | omega | rfl) (by rw [hdd]; rfl) (by exact (careD_ok hdC).night) (by exact hCn) (by omega)
        refine v_sub (lv2 := [(0, .ref 0), (1, .int (nI j)), (2, .int v), (4, .int (nI 0))]) (by simp) ?_
        exact L33 (j + 1 - 0 + 1) 0 ((s 119)) h (by first | assumption | omega | rfl) (by rfl) (by exact hd) (by rw [rw2_self]; exact hC) (Nat.lt_succ_self _)
      · exact absurd c5 (by decide)

abbrev P_X9_law (cM h s : Mm) (τ τk : Nat → List Int32) (w a b c : Int32) : Option Value → Mm → Prop := fun r h2 => r = some (.int (Y_law s τ w a b c).1) ∧ CX cM h2 (Y_law s τ w a b c).2 τ τk
theorem c_X9_law {l : Launch} (cM h s : Mm) (τ τk : Nat → List Int32) (w a b c : Int32) (hC : CX cM h s τ τk) (hI : INV s τ τk) : Con l yX9_law cX9_law 5 (some .int) 3 71 132 GL h [.ref 0, .int w, .int a, .int b, .int c] (P_X9_law cM h s τ τk w a b c) := by
  refine Con.ofV (own := "FoxRounds") (nm := "law") rfl rfl (by decide) (Nat.le_of_ble_eq_true rfl) ?_
  intro κ ρ hkl K
  subst hkl
  show V κ (QM κ (132, ρ, GL, 0, 0) (P_X9_law cM h s τ τk w a b c)) 5 (132, ρ, GL, 0, 0) h 0 [(0, .ref 0), (1, .int w), (2, .int a), (3, .int b), (4, .int c)] []
  have hd := hI.d
  have hn8 := hd.nw8
  have ht5 := hd.nt5
  refine v_iload_n K dX9_law_0 rfl ?_
  rcases ixo_3 w with rfl | rfl | rfl | hout
  · skip
    refine v_tinN (off := 27) (tgt := 28) K (by decide) 0 dX9_law_1 (by decide) (by decide) (by decide) rfl rfl ?_
    refine v_aload_n K dX9_law_28 rfl ?_
    refine v_getr (q := 1) K fX9_10 sh_0 pl_0 gl_0_0 dX9_law_29 ?_
    refine v_getr (q := 20) K fX9_29 sh_1 pl_1 gl_1_1 dX9_law_32 ?_
    refine v_iload_n K dX9_law_35 rfl ?_
    refine v_iload_n K dX9_law_36 rfl ?_
    refine v_iload K dX9_law_37 rfl ?_
    refine v_iconstN K 0 rfl dX9_law_39 ?_
    refine v_iconstN K 0 rfl dX9_law_40 ?_
    refine v_callV (As := [.int a, .int b, .int c, .int (nI 0), .int (nI 0)]) K (c_X2_enters h τ a b c (nI 0) (nI 0) hI.1.2.2 hC.W.2.1) lX9_170 ck_X2 rfl sh_20 pl_20 rfl ⟨by decide, by decide⟩ (Nat.le_of_ble_eq_true rfl) dX9_law_41 (fun r1 h1 hp1 => ?_) rfl
    obtain ⟨rfl, hLl⟩ := hp1
    have hCl : CX cM h1 s τ τk := CX.sc hC hLl.S
    refine v_some ?_
    refine v_iret K dX9_law_44 ?_
    have eY : Y_law s τ (nI 0) a b c = (entersE τ a b c (nI 0) (nI 0), s) := by
      unfold Y_law
      refine (@if_pos _ (Classical.propDecidable _) rfl _ _ _).trans ?_
      first | rfl | ((try rw [cl_ix (show 0 < 2 ^ 31 by omega)]))
    exact xfin eY hCl
  · skip
    refine v_tinN (off := 44) (tgt := 45) K (by decide) 1 dX9_law_1 (by decide) (by decide) (by decide) rfl rfl ?_
    refine v_aload_n K dX9_law_45 rfl ?_
    refine v_getr (q := 1) K fX9_10 sh_0 pl_0 gl_0_0 dX9_law_46 ?_
    refine v_getr (q := 20) K fX9_29 sh_1 pl_1 gl_1_1 dX9_law_49 ?_
    refine v_iload_n K dX9_law_52 rfl ?_
    refine v_iload_n K dX9_law_53 rfl ?_
    refine v_iload K dX9_law_54 rfl ?_
    refine v_callV (As := [.int a, .int b, .int c]) K (c_X2_kills h τ a b c hI.1.2.2 hC.W.2.1) lX9_174 ck_X2 rfl sh_20 pl_20 rfl ⟨by decide, by decide⟩ (Nat.le_of_ble_eq_true rfl) dX9_law_56 (fun r2 h2 hp2 => ?_) rfl
    obtain ⟨rfl, hLl⟩ := hp2
    have hCl : CX cM h2 s τ τk := CX.sc hC hLl.S
    refine v_some ?_
    refine v_iret K dX9_law_59 ?_
    have eY : Y_law s τ (nI 1) a b c = (killsE τ a b c, s) := by
      unfold Y_law
      refine (@if_neg _ (Classical.propDecidable _) (by decide) _ _ _).trans ?_
      refine (@if_pos _ (Classical.propDecidable _) rfl _ _ _).trans ?_
      first | rfl | ((try rw [cl_ix (show 1 < 2 ^ 31 by omega)]))
    exact xfin eY hCl
  · skip
    refine v_tinN (off := 59) (tgt := 60) K (by decide) 2 dX9_law_1 (by decide) (by decide) (by decide) rfl rfl ?_
    refine v_aload_n K dX9_law_60 rfl ?_
    refine v_getr (q := 1) K fX9_10 sh_0 pl_0 gl_0_0 dX9_law_61 ?_
    refine v_getr (q := 20) K fX9_29 sh_1 pl_1 gl_1_1 dX9_law_64 ?_
    refine v_iload_n K dX9_law_67 rfl ?_
    refine v_iload_n K dX9_law_68 rfl ?_
    refine v_callV (As := [.int a, .int b]) K (c_X2_stays h τ a b hI.1.2.2 hC.W.2.1) lX9_177 ck_X2 rfl sh_20 pl_20 rfl ⟨by decide, by decide⟩ (Nat.le_of_ble_eq_true rfl) dX9_law_69 (fun r3 h3 hp3 => ?_) rfl
    obtain ⟨rfl, hLl⟩ := hp3
    have hCl : CX cM h3 s τ τk := CX.sc hC hLl.S
    refine v_some ?_
    refine v_iret K dX9_law_72 ?_
    have eY : Y_law s τ (nI 2) a b c = (staysE τ a b, s) := by
      unfold Y_law
      refine (@if_neg _ (Classical.propDecidable _) (by decide) _ _ _).trans ?_
      refine (@if_neg _ (Classical.propDecidable _) (by decide) _ _ _).trans ?_
      refine (@if_pos _ (Classical.propDecidable _) rfl _ _ _).trans ?_
      first | rfl | ((try rw [cl_ix (show 2 < 2 ^ 31 by omega)]))
    exact xfin eY hCl
  · skip
    refine v_tout (tgt := 73) K dX9_law_1 (by exact hout) rfl ?_
    refine v_aload_n K dX9_law_73 rfl ?_
    refine v_iconstN K 1 rfl dX9_law_74 ?_
    refine v_callV (As := [.int (nI 1)]) K (c_X9_error h 1 (by omega)) lX9_75 ck_X9 rfl sh_0 pl_0 rfl ⟨by decide, by decide⟩ (Nat.le_of_ble_eq_true rfl) dX9_law_75 (fun r4 h4 hp4 => ?_) rfl
    obtain ⟨rfl, rfl⟩ := hp4
    refine v_some ?_
    have hCe1 : CX cM (u2 h 109 1 (h 109 1 + nI 1)) (u2 s 122 1 (s 122 1 + nI 1)) τ τk := CX.er hC (by omega) (by omega)
    refine v_iret K dX9_law_78 ?_
    have eY : Y_law s τ w a b c = ((-1000000000) - nI 1, (u2 s 122 1 (s 122 1 + nI 1))) := by
      unfold Y_law
      refine (@if_neg _ (Classical.propDecidable _) (fun q => by subst q; rw [nI_toInt (by decide)] at hout; omega) _ _ _).trans ?_
      refine (@if_neg _ (Classical.propDecidable _) (fun q => by subst q; rw [nI_toInt (by decide)] at hout; omega) _ _ _).trans ?_
      refine (@if_neg _ (Classical.propDecidable _) (fun q => by subst q; rw [nI_toInt (by decide)] at hout; omega) _ _ _).trans ?_
      first | rfl | (rfl)
    exact xfin eY hCe1

abbrev P_X9_ways (cM h s : Mm) (τ τk : Nat → List Int32) (w : Int32) : Option Value → Mm → Prop := fun r h2 => r = some (.int (Y_ways s w).1) ∧ CX cM h2 (Y_ways s w).2 τ τk
theorem c_X9_ways {l : Launch} (cM h s : Mm) (τ τk : Nat → List Int32) (w : Int32) (hC : CX cM h s τ τk) (hI : INV s τ τk) : Con l yX9_ways cX9_ways 7 (some .int) 3 63 132 GL h [.ref 0, .int w] (P_X9_ways cM h s τ τk w) := by
  refine Con.ofV (own := "FoxRounds") (nm := "ways") rfl rfl (by decide) (Nat.le_of_ble_eq_true rfl) ?_
  intro κ ρ hkl K
  subst hkl
  show V κ (QM κ (132, ρ, GL, 0, 0) (P_X9_ways cM h s τ τk w)) 7 (132, ρ, GL, 0, 0) h 0 [(0, .ref 0), (1, .int w)] []
  have hd := hI.d
  have hn8 := hd.nw8
  have ht5 := hd.nt5
  refine v_aload_n K dX9_ways_0 rfl ?_
  refine v_iload_n K dX9_ways_1 rfl ?_
  refine v_callV (As := [.int w]) K (c_X9_sheetError cM h s τ τk w hC) lX9_110 ck_X9 rfl sh_0 pl_0 rfl ⟨by decide, by decide⟩ (Nat.le_of_ble_eq_true rfl) dX9_ways_2 (fun r1 h1 hp1 => ?_) rfl
  obtain ⟨⟨k, rfl, hk⟩, rfl⟩ := hp1
  refine v_some ?_
  refine v_istore_n (lv2 := [(2, .int (nI k)), (0, .ref 0), (1, .int w)]) K dX9_ways_5 (by decide) rfl ?_
  refine v_iload_n K dX9_ways_6 rfl ?_
  rcases hk with ⟨rfl, hw⟩ | ⟨rfl, j, hj, rfl, hb⟩ | ⟨rfl, j, hj, rfl, hb⟩
  · skip
    skip
    refine v_ifN_eq (tgt := 16) K (by omega) dX9_ways_7 rfl (fun c1 => ?_) (fun c1 => ?_)
    · exact absurd c1 (by decide)
    · skip
      refine v_aload_n K dX9_ways_10 rfl ?_
      refine v_iload_n K dX9_ways_11 rfl ?_
      refine v_callV (As := [.int (nI 1)]) K (c_X9_error h 1 (by omega)) lX9_75 ck_X9 rfl sh_0 pl_0 rfl ⟨by decide, by decide⟩ (Nat.le_of_ble_eq_true rfl) dX9_ways_12 (fun r2 h2 hp2 => ?_) rfl
      obtain ⟨rfl, rfl⟩ := hp2
      refine v_some ?_
      have hCe1 : CX cM (u2 h 109 1 (h 109 1 + nI 1)) (u2 s 122 1 (s 122 1 + nI 1)) τ τk := CX.er hC (by omega) (by omega)
      refine v_iret K dX9_ways_15 ?_
      have eY : Y_ways s w = ((-1000000000) - nI 1, (u2 s 122 1 (s 122 1 + nI 1))) := by
        unfold Y_ways
        refine (@if_pos _ (Classical.propDecidable _) hw _ _ _).trans ?_
        first | rfl | (rfl)
      exact xfin eY hCe1
  · skip
    skip
    refine v_ifN_eq (tgt := 16) K (by omega) dX9_ways_7 rfl (fun c2 => ?_) (fun c2 => ?_)
    · exact absurd c2 (by decide)
    · skip
      refine v_aload_n K dX9_ways_10 rfl ?_
      refine v_iload_n K dX9_ways_11 rfl ?_
      refine v_callV (As := [.int (nI 2)]) K (c_X9_error h 2 (by omega)) lX9_75 ck_X9 rfl sh_0 pl_0 rfl ⟨by decide, by decide⟩ (Nat.le_of_ble_eq_true rfl) dX9_ways_12 (fun r3 h3 hp3 => ?_) rfl
      obtain ⟨rfl, rfl⟩ := hp3
      refine v_some ?_
      have hCe2 : CX cM (u2 h 109 2 (h 109 2 + nI 1)) (u2 s 122 2 (s 122 2 + nI 1)) τ τk := CX.er hC (by omega) (by omega)
      refine v_iret K dX9_ways_15 ?_
      have eY : Y_ways s (nI j) = ((-1000000000) - nI 2, (u2 s 122 2 (s 122 2 + nI 1))) := by
        unfold Y_ways
        refine (@if_neg _ (Classical.propDecidable _) (fun q => q ⟨j, hj, rfl⟩) _ _ _).trans ?_
        refine (@if_pos _ (Classical.propDecidable _) (by rw [cl_ix (show j < 2 ^ 31 by omega)]; exact hb) _ _ _).trans ?_
        first | rfl | ((try rw [cl_ix (show j < 2 ^ 31 by omega)]))
      exact xfin eY hCe2
  · skip
    obtain ⟨-, sz, hsz, esz, -⟩ := hI.2.2.1 j hj
    refine v_ifN_eq (tgt := 16) K (by omega) dX9_ways_7 rfl (fun c3 => ?_) (fun c3 => ?_)
    · skip
      refine v_aload_n K dX9_ways_16 rfl ?_
      refine v_getr (q := 108) K fX9_56 sh_0 pl_0 gl_0_6 dX9_ways_17 ?_
      refine v_iload_n K dX9_ways_20 rfl ?_
      refine v_aald (q := 110 + 2 * j) K sh_108 (Or.inr rfl) pl_108 (by omega) (gl_S (by omega)) dX9_ways_21 ?_
      refine v_astore_n (lv2 := [(3, .ref (110 + 2 * j)), (2, .int (nI 0)), (0, .ref 0), (1, .int (nI j))]) K dX9_ways_22 (by decide) rfl ?_
      refine v_iconstN K 0 rfl dX9_ways_23 ?_
      refine v_istore (lv2 := [(4, .int (nI 0)), (3, .ref (110 + 2 * j)), (2, .int (nI 0)), (0, .ref 0), (1, .int (nI j))]) K dX9_ways_24 (by decide) rfl ?_
      refine v_iconstN K 0 rfl dX9_ways_26 ?_
      refine v_istore (lv2 := [(5, .int (nI 0)), (4, .int (nI 0)), (3, .ref (110 + 2 * j)), (2, .int (nI 0)), (0, .ref 0), (1, .int (nI j))]) K dX9_ways_27 (by decide) rfl ?_
      have L29 : ∀ (mm : Nat) (a : Nat) (i : Nat) (dd : Dm) (g : Mm) (ha : i = 3 * a) (hA : i ≤ 40) (hdd : DOK dd) (hF : wysF (fun k => s 130 (40 * j + k)) sz 14 0 (s 119) = wysF (fun k => s 130 (40 * j + k)) sz (14 - a) a dd) (hZ : CX cM g (rw2 s 119 dd) τ τk), 50 - i < mm → V κ (QM κ (132, ρ, GL, 0, 0) (P_X9_ways cM h s τ τk (nI j))) 7 (132, ρ, GL, 0, 0) g 29 [(0, .ref 0), (3, .ref (110 + 2 * j)), (4, .int (nI a)), (5, .int (nI i))] [] := by
        intro mm
        induction mm with
        | zero => intro a i dd g ha hA hdd hF hZ hmm; exact absurd hmm (Nat.not_lt_zero _)
        | succ mm ih29 =>
          intro a i dd g ha hA hdd hF hZ hmm
          have hn8d := hdd.nw8
          refine v_iload K dX9_ways_29 rfl ?_
          refine v_iconstN K 2 rfl dX9_ways_31 ?_
          refine v_iaddN K dX9_ways_32 ?_
          refine v_aload_n K dX9_ways_33 rfl ?_
          refine v_geti (x := nI sz) K fX9_113 (sh_S (by omega)) (pl_S (by omega)) ((hZ.2.2.2.2.1 _ (by omega)).2.1.trans ((congrFun (rw2_off (by omega)) _).trans esz)) dX9_ways_34 ?_
          refine v_icmpN_ge (tgt := 128) K (by omega) (by omega) dX9_ways_37 rfl (fun c4 => ?_) (fun c4 => ?_)
          · skip
            refine v_iload K dX9_ways_128 rfl ?_
            refine v_iret K dX9_ways_130 ?_
            have eY : Y_ways s (nI j) = (nI a, (rw2 s 119 dd)) := by
              unfold Y_ways
              refine (@if_neg _ (Classical.propDecidable _) (fun q => q ⟨j, hj, rfl⟩) _ _ _).trans ?_
              refine (@if_neg _ (Classical.propDecidable _) (by rw [cl_ix (show j < 2 ^ 31 by omega)]; exact hb) _ _ _).trans ?_
              have hno : ¬ (3 * a + 3 ≤ sz ∧ nwD dd < 8 ∧ isWayP ((fun k => s 130 (40 * j + k)) (3 * a)) ((fun k => s 130 (40 * j + k)) (3 * a + 1)) ((fun k => s 130 (40 * j + k)) (3 * a + 2))) := (fun q => by subst ha; have := q.1; omega); rw [cl_ix (show j < 2 ^ 31 by omega), esz, cl_ix (show sz < 2 ^ 31 by omega), hF, show 14 - a = (14 - a - 1) + 1 by omega, wys_n hno]
            exact xfin eY hZ
          · skip
            refine v_aload_n K dX9_ways_40 rfl ?_
            refine v_getr (q := 111 + 2 * j) K fX9_116 (sh_S (by omega)) (pl_S (by omega)) (gl_Sr (by omega)) dX9_ways_41 ?_
            refine v_astore (lv2 := [(6, .ref (111 + 2 * j)), (0, .ref 0), (3, .ref (110 + 2 * j)), (4, .int (nI a)), (5, .int (nI i))]) K dX9_ways_44 (by decide) rfl ?_
            refine v_aload_n K dX9_ways_46 rfl ?_
            refine v_getr (q := 1) K fX9_10 sh_0 pl_0 gl_0_0 dX9_ways_47 ?_
            refine v_getr (q := 2) K fX9_25 sh_1 pl_1 gl_1_0 dX9_ways_50 ?_
            refine v_geti (x := nI (nwD dd)) K fX9_87 sh_2 pl_2 (hZ.W.1.oA.trans ((congrFun rw2_at _).trans hdd.nw)) dX9_ways_53 ?_
            refine v_bipushN K 8 rfl dX9_ways_56 ?_
            refine v_icmpN_ge (tgt := 128) K (by omega) (by omega) dX9_ways_58 rfl (fun c5 => ?_) (fun c5 => ?_)
            · skip
              refine v_iload K dX9_ways_128 rfl ?_
              refine v_iret K dX9_ways_130 ?_
              have eY : Y_ways s (nI j) = (nI a, (rw2 s 119 dd)) := by
                unfold Y_ways
                refine (@if_neg _ (Classical.propDecidable _) (fun q => q ⟨j, hj, rfl⟩) _ _ _).trans ?_
                refine (@if_neg _ (Classical.propDecidable _) (by rw [cl_ix (show j < 2 ^ 31 by omega)]; exact hb) _ _ _).trans ?_
                have hno : ¬ (3 * a + 3 ≤ sz ∧ nwD dd < 8 ∧ isWayP ((fun k => s 130 (40 * j + k)) (3 * a)) ((fun k => s 130 (40 * j + k)) (3 * a + 1)) ((fun k => s 130 (40 * j + k)) (3 * a + 2))) := (fun q => by subst ha; have := q.2.1; omega); rw [cl_ix (show j < 2 ^ 31 by omega), esz, cl_ix (show sz < 2 ^ 31 by omega), hF, show 14 - a = (14 - a - 1) + 1 by omega, wys_n hno]
              exact xfin eY hZ
            · skip
              refine v_aload K dX9_ways_61 rfl ?_
              refine v_iload K dX9_ways_63 rfl ?_
              refine v_iald (x := s 130 (40 * j + i)) K (sh_Sr (by omega)) (pl_S (by omega)) (by omega) (((hZ.2.2.2.2.1 _ (by omega)).2.2 _ (by omega)).trans (congrFun (rw2_off (by omega)) _)) dX9_ways_65 ?_
              refine v_aload K dX9_ways_66 rfl ?_
              refine v_iload K dX9_ways_68 rfl ?_
              refine v_iconstN K 1 rfl dX9_ways_70 ?_
              refine v_iaddN K dX9_ways_71 ?_
              refine v_iald (x := s 130 (40 * j + i + 1)) K (sh_Sr (by omega)) (pl_S (by omega)) (by omega) (((hZ.2.2.2.2.1 _ (by omega)).2.2 _ (by omega)).trans (congrFun (rw2_off (by omega)) _)) dX9_ways_72 ?_
              refine v_aload K dX9_ways_73 rfl ?_
              refine v_iload K dX9_ways_75 rfl ?_
              refine v_iconstN K 2 rfl dX9_ways_77 ?_
              refine v_iaddN K dX9_ways_78 ?_
              refine v_iald (x := s 130 (40 * j + i + 2)) K (sh_Sr (by omega)) (pl_S (by omega)) (by omega) (((hZ.2.2.2.2.1 _ (by omega)).2.2 _ (by omega)).trans (congrFun (rw2_off (by omega)) _)) dX9_ways_79 ?_
              refine v_callS (As := [.int (s 130 (40 * j + i)), .int (s 130 (40 * j + i + 1)), .int (s 130 (40 * j + i + 2))]) K (c_X9_isWay g (s 130 (40 * j + i)) (s 130 (40 * j + i + 1)) (s 130 (40 * j + i + 2))) lX9_84 rfl ⟨by decide, by decide⟩ (Nat.le_of_ble_eq_true rfl) dX9_ways_80 (fun r4 h4 hp4 => ?_) rfl
              obtain ⟨rfl, rfl⟩ := hp4
              refine v_some ?_
              refine v_ifB_ne (tgt := 89) K dX9_ways_83 rfl (fun c6 => ?_) (fun c6 => ?_)
              · skip
                refine v_aload_n K dX9_ways_89 rfl ?_
                refine v_getr (q := 1) K fX9_10 sh_0 pl_0 gl_0_0 dX9_ways_90 ?_
                refine v_getr (q := 2) K fX9_25 sh_1 pl_1 gl_1_0 dX9_ways_93 ?_
                refine v_aload K dX9_ways_96 rfl ?_
                refine v_iload K dX9_ways_98 rfl ?_
                refine v_iald (x := s 130 (40 * j + i)) K (sh_Sr (by omega)) (pl_S (by omega)) (by omega) (((hZ.2.2.2.2.1 _ (by omega)).2.2 _ (by omega)).trans (congrFun (rw2_off (by omega)) _)) dX9_ways_100 ?_
                refine v_aload K dX9_ways_101 rfl ?_
                refine v_iload K dX9_ways_103 rfl ?_
                refine v_iconstN K 1 rfl dX9_ways_105 ?_
                refine v_iaddN K dX9_ways_106 ?_
                refine v_iald (x := s 130 (40 * j + i + 1)) K (sh_Sr (by omega)) (pl_S (by omega)) (by omega) (((hZ.2.2.2.2.1 _ (by omega)).2.2 _ (by omega)).trans (congrFun (rw2_off (by omega)) _)) dX9_ways_107 ?_
                refine v_aload K dX9_ways_108 rfl ?_
                refine v_iload K dX9_ways_110 rfl ?_
                refine v_iconstN K 2 rfl dX9_ways_112 ?_
                refine v_iaddN K dX9_ways_113 ?_
                refine v_iald (x := s 130 (40 * j + i + 2)) K (sh_Sr (by omega)) (pl_S (by omega)) (by omega) (((hZ.2.2.2.2.1 _ (by omega)).2.2 _ (by omega)).trans (congrFun (rw2_off (by omega)) _)) dX9_ways_114 ?_
                refine v_callV (As := [.int (s 130 (40 * j + i)), .int (s 130 (40 * j + i + 1)), .int (s 130 (40 * j + i + 2))]) K (c_X1_addWay g 2 dd (s 130 (40 * j + i)) (s 130 (40 * j + i + 1)) (s 130 (40 * j + i + 2)) hB_2 (by have hx := hZ.W.1; rw [rw2_at] at hx; exact hx) hdd (by omega)) lX9_90 ck_X1 rfl sh_2 pl_2 rfl ⟨by decide, by decide⟩ (Nat.le_of_ble_eq_true rfl) dX9_ways_115 (fun r5 h5 hp5 => ?_) rfl
                obtain ⟨rfl, hRa, hFa⟩ := hp5
                have hCa : CX cM h5 (rw2 s 119 (addWD dd (s 130 (40 * j + i)) (s 130 (40 * j + i + 1)) (s 130 (40 * j + i + 2)))) τ τk := by have hx := CX.lo hZ (d := addWD dd (s 130 (40 * j + i)) (s 130 (40 * j + i + 1)) (s 130 (40 * j + i + 2))) hRa (hFa.N (by omega) (by omega)) (fun i hi => by rw [rw2_at]; exact addWD_off (by omega) hi); rw [rw2_rw2] at hx; exact hx
                refine v_some ?_
                refine v_pop K dX9_ways_118 rfl ?_
                refine v_iincN (lv2 := [(4, .int (nI (a + 1))), (6, .ref (111 + 2 * j)), (0, .ref 0), (3, .ref (110 + 2 * j)), (5, .int (nI i))]) K 1 dX9_ways_119 rfl rfl (by decide) rfl ?_
                refine v_iincN (lv2 := [(5, .int (nI (i + 3))), (4, .int (nI (a + 1))), (6, .ref (111 + 2 * j)), (0, .ref 0), (3, .ref (110 + 2 * j))]) K 3 dX9_ways_122 rfl rfl (by decide) rfl ?_
                refine v_goto (tgt := 29) K dX9_ways_125 rfl ?_
                refine v_sub (lv2 := [(0, .ref 0), (3, .ref (110 + 2 * j)), (4, .int (nI (a + 1))), (5, .int (nI (i + 3)))]) (by simp) ?_
                exact ih29 (a + 1) (i + 3) ((addWD dd (s 130 (40 * j + i)) (s 130 (40 * j + i + 1)) (s 130 (40 * j + i + 2)))) h5 (by omega) (by omega) (by exact hdd.addw (by omega) c6) (by subst ha; rw [hF, show 14 - a = (14 - (a + 1)) + 1 by omega]; exact wys_y (by omega) (by omega) c6) (by exact hCa) (by omega)
              · skip
                refine v_goto (tgt := 128) K dX9_ways_86 rfl ?_
                refine v_iload K dX9_ways_128 rfl ?_
                refine v_iret K dX9_ways_130 ?_
                have eY : Y_ways s (nI j) = (nI a, (rw2 s 119 dd)) := by
                  unfold Y_ways
                  refine (@if_neg _ (Classical.propDecidable _) (fun q => q ⟨j, hj, rfl⟩) _ _ _).trans ?_
                  refine (@if_neg _ (Classical.propDecidable _) (by rw [cl_ix (show j < 2 ^ 31 by omega)]; exact hb) _ _ _).trans ?_
                  have hno : ¬ (3 * a + 3 ≤ sz ∧ nwD dd < 8 ∧ isWayP ((fun k => s 130 (40 * j + k)) (3 * a)) ((fun k => s 130 (40 * j + k)) (3 * a + 1)) ((fun k => s 130 (40 * j + k)) (3 * a + 2))) := (fun q => by subst ha; exact c6 q.2.2); rw [cl_ix (show j < 2 ^ 31 by omega), esz, cl_ix (show sz < 2 ^ 31 by omega), hF, show 14 - a = (14 - a - 1) + 1 by omega, wys_n hno]
                exact xfin eY hZ
      refine v_sub (lv2 := [(0, .ref 0), (3, .ref (110 + 2 * j)), (4, .int (nI 0)), (5, .int (nI 0))]) (by simp) ?_
      exact L29 (50 - 0 + 1) 0 0 ((s 119)) h (by rfl) (by omega) (by exact hd) (by rfl) (by rw [rw2_self]; exact hC) (Nat.lt_succ_self _)
    · exact absurd c3 (by decide)
