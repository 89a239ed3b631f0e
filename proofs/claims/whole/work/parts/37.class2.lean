theorem mendD_off {d : Dm} {w i : Nat} (hw : w < 8) (hi : (12 ≤ i ∧ i < 46) ∨ 109 ≤ i) : mendD d w i = d i := by unfold mendD; rw [upd_ne (by omega), upd_ne (by omega)]
theorem addWD_off {d : Dm} {k m c : Int32} {i : Nat} (hn : nwD d < 8) (hi : (12 ≤ i ∧ i < 46) ∨ 109 ≤ i) : addWD d k m c i = d i := by unfold addWD; rw [upd_ne (by omega), upd_ne (by omega), upd_ne (by omega), upd_ne (by omega), upd_ne (by omega), upd_ne (by omega), upd_ne (by omega)]
theorem addTD_off {d : Dm} {f g : Int32} {i : Nat} (hn : ntD d < 5) (hi : (12 ≤ i ∧ i < 46) ∨ 109 ≤ i) : addTD d f g i = d i := by unfold addTD; rw [upd_ne (by omega), upd_ne (by omega), upd_ne (by omega), upd_ne (by omega)]
theorem CX.lo {c h h2 s : Mm} {d : Dm} {τ τk : Nat → List Int32} (H : CX c h s τ τk) (hR : RH 2 h2 d) (F : FrN 2 h h2) (e : ∀ i, (12 ≤ i ∧ i < 46) ∨ 109 ≤ i → d i = s 119 i) : CX c h2 (rw2 s 119 d) τ τk :=
  H.wr (H.W.lo hR F e) (fun a ha => F a (by omega) (by omega) (by omega) (by omega) (by omega))
theorem CX.st {c h s : Mm} {τ τk : Nat → List Int32} (H : CX c h s τ τk) : s 119 10 = h 2 4 ∧ s 119 11 = h 2 6 := ⟨H.W.1.oA.symm, H.W.1.oB.symm⟩
theorem CX.im {c h h2 s : Mm} {τ τk : Nat → List Int32} {v : Int32} (H : CX c h s τ τk) (hW : WX 39 h2 (s 119) τ) (F : FrO 39 77 h h2) : CX c (u2 h2 0 2 v) (u2 (rw2 s 121 (s 119)) 118 3 v) τ τ := by
  have g : ∀ a, (a < 39 ∨ 77 ≤ a) → a ≠ 0 → u2 h2 0 2 v a = h a := fun a q1 q2 => (u2_off q2).trans (F a q1)
  have s9 : u2 (rw2 s 121 (s 119)) 118 3 v 119 = s 119 := by rw [u2_off (by omega), rw2_off (by omega)]
  have t : ∀ a, a ≠ 118 → a ≠ 121 → u2 (rw2 s 121 (s 119)) 118 3 v a = s a := fun a q1 q2 => (u2_off q1).trans (rw2_off q2)
  refine ⟨by rw [s9]; exact H.W.far (fun a q1 q2 => g a (by omega) (by omega)), ⟨by rw [u2_at, u2_at], Or.inr ?_⟩, H.2.2.1.far (g _ (by omega) (by omega)) (t _ (by omega) (by omega)), H.2.2.2.1.far (by rw [g _ (by omega) (by omega)]) (g _ (by omega) (by omega)) (by rw [u2_ne (by omega), rw2_off (by omega)]) (t _ (by omega) (by omega)),
    H.2.2.2.2.1.far (fun a q1 q2 => g a (by omega) (by omega)) (t _ (by omega) (by omega)) (t _ (by omega) (by omega)) (t _ (by omega) (by omega)), fun a ha => (g a (by omega) (by omega)).trans (H.2.2.2.2.2 a ha)⟩
  rw [u2_off (by omega), rw2_at]
  exact hW.far (fun a q1 q2 => u2_off (by omega))
theorem CX.re {c h h2 s : Mm} {τ τk : Nat → List Int32} (H : CX c h s τ τk) (hW : WX 1 h2 (s 121) τk) (F : FrO 1 39 h h2) : CX c h2 (rw2 s 119 (s 121)) τk τk := H.wr hW F
theorem add0 {v : Int32} : v + nI 0 = v := Int32.add_zero v

abbrev P_X8_harmAt (cM h s : Mm) (τ τk : Nat → List Int32) (m : Int32) : Option Value → Mm → Prop := fun r h2 => r = some (.int (harmD (s 119) m 12)) ∧ h = h2
theorem c_X8_harmAt {l : Launch} (cM h s : Mm) (τ τk : Nat → List Int32) (m : Int32) (hC : CX cM h s τ τk) : Con l yX8_harmAt cX8_harmAt 4 (some .int) 0 0 132 GL h [.ref 1, .int m] (P_X8_harmAt cM h s τ τk m) := by
  refine Con.ofV (own := "FoxRounds$World") (nm := "harmAt") rfl rfl (by decide) (Nat.le_of_ble_eq_true rfl) ?_
  intro κ ρ hkl K
  subst hkl
  show V κ (QM κ (132, ρ, GL, 0, 0) (P_X8_harmAt cM h s τ τk m)) 4 (132, ρ, GL, 0, 0) h 0 [(0, .ref 1), (1, .int m)] []
  refine v_iconstN K 0 rfl dX8_harmAt_0 ?_
  refine v_istore_n (lv2 := [(2, .int (nI 0)), (0, .ref 1), (1, .int m)]) K dX8_harmAt_1 (by decide) rfl ?_
  refine v_iconstN K 0 rfl dX8_harmAt_2 ?_
  refine v_istore_n (lv2 := [(3, .int (nI 0)), (2, .int (nI 0)), (0, .ref 1), (1, .int m)]) K dX8_harmAt_3 (by decide) rfl ?_
  have L4 : ∀ (mm : Nat) (v : Int32) (k : Nat) (hk : k ≤ 12) (hv : harmD (s 119) m k = v), 13 - k < mm → V κ (QM κ (132, ρ, GL, 0, 0) (P_X8_harmAt cM h s τ τk m)) 4 (132, ρ, GL, 0, 0) h 4 [(0, .ref 1), (1, .int m), (2, .int v), (3, .int (nI k))] [] := by
    intro mm
    induction mm with
    | zero => intro v k hk hv hmm; exact absurd hmm (Nat.not_lt_zero _)
    | succ mm ih4 =>
      intro v k hk hv hmm
      refine v_iload_n K dX8_harmAt_4 rfl ?_
      refine v_bipushN K 12 rfl dX8_harmAt_5 ?_
      refine v_icmpN_ge (tgt := 64) K (by omega) (by omega) dX8_harmAt_7 rfl (fun c1 => ?_) (fun c1 => ?_)
      · skip
        refine v_iload_n K dX8_harmAt_64 rfl ?_
        refine v_iret K dX8_harmAt_65 ?_
        obtain rfl : k = 12 := by omega
        exact ⟨some_int hv.symm, rfl⟩
      · skip
        refine v_aload_n K dX8_harmAt_10 rfl ?_
        refine v_getr (q := 38) K fX8_47 sh_1 pl_1 gl_1_7 dX8_harmAt_11 ?_
        refine v_iload_n K dX8_harmAt_14 rfl ?_
        refine v_iald (x := s 119 (16 + k)) K sh_38 pl_38 (by omega) (hC.W.2.2.2.1.2.2 _ (by omega)) dX8_harmAt_15 ?_
        refine v_aload_n K dX8_harmAt_16 rfl ?_
        refine v_getr (q := 2) K fX8_12 sh_1 pl_1 gl_1_0 dX8_harmAt_17 ?_
        refine v_getr (q := 3) K fX8_70 sh_2 pl_2 gl_2_0 dX8_harmAt_20 ?_
        refine v_bipushN K 6 rfl dX8_harmAt_23 ?_
        refine v_iald (x := s 119 6) K sh_3 pl_3 (by omega) (hC.W.1.n (by decide)) dX8_harmAt_25 ?_
        refine v_iadd K dX8_harmAt_26 ?_
        refine v_iload_n K dX8_harmAt_27 rfl ?_
        refine v_icmp_le (tgt := 34) K dX8_harmAt_28 rfl (fun c2 => ?_) (fun c2 => ?_)
        · skip
          refine v_iload_n K dX8_harmAt_34 rfl ?_
          refine v_aload_n K dX8_harmAt_35 rfl ?_
          refine v_getr (q := 38) K fX8_47 sh_1 pl_1 gl_1_7 dX8_harmAt_36 ?_
          refine v_iload_n K dX8_harmAt_39 rfl ?_
          refine v_iald (x := s 119 (16 + k)) K sh_38 pl_38 (by omega) (hC.W.2.2.2.1.2.2 _ (by omega)) dX8_harmAt_40 ?_
          refine v_aload_n K dX8_harmAt_41 rfl ?_
          refine v_getr (q := 2) K fX8_12 sh_1 pl_1 gl_1_0 dX8_harmAt_42 ?_
          refine v_getr (q := 3) K fX8_70 sh_2 pl_2 gl_2_0 dX8_harmAt_45 ?_
          refine v_bipushN K 7 rfl dX8_harmAt_48 ?_
          refine v_iald (x := s 119 7) K sh_3 pl_3 (by omega) (hC.W.1.n (by decide)) dX8_harmAt_50 ?_
          refine v_iadd K dX8_harmAt_51 ?_
          refine v_icmp_le (tgt := 58) K dX8_harmAt_52 rfl (fun c3 => ?_) (fun c3 => ?_)
          · skip
            refine v_iincN (lv2 := [(3, .int (nI (k + 1))), (0, .ref 1), (1, .int m), (2, .int v)]) K 1 dX8_harmAt_58 rfl rfl (by decide) rfl ?_
            refine v_goto (tgt := 4) K dX8_harmAt_61 rfl ?_
            refine v_sub (lv2 := [(0, .ref 1), (1, .int m), (2, .int v), (3, .int (nI (k + 1)))]) (by simp) ?_
            exact ih4 v (k + 1) (by first | assumption | omega | rfl) (by rw [harmD, if_neg (Int32.not_lt.mpr c2), if_neg (Int32.not_lt.mpr c3), hv]; first | done | rfl | (simp only [add0]; first | done | rfl)) (by omega)
          · skip
            refine v_iinc (v := v + (5)) (lv2 := [(2, .int (v + (5))), (0, .ref 1), (1, .int m), (3, .int (nI k))]) K dX8_harmAt_55 rfl rfl (by decide) rfl ?_
            refine v_iincN (lv2 := [(3, .int (nI (k + 1))), (2, .int (v + (5))), (0, .ref 1), (1, .int m)]) K 1 dX8_harmAt_58 rfl rfl (by decide) rfl ?_
            refine v_goto (tgt := 4) K dX8_harmAt_61 rfl ?_
            refine v_sub (lv2 := [(0, .ref 1), (1, .int m), (2, .int (v + (5))), (3, .int (nI (k + 1)))]) (by simp) ?_
            exact ih4 (v + (5)) (k + 1) (by first | assumption | omega | rfl) (by rw [harmD, if_neg (Int32.not_lt.mpr c2), if_pos (Int32.not_le.mp c3), hv]; first | done | rfl | (simp only [add0]; first | done | rfl)) (by omega)
        · skip
          refine v_iinc (v := v + (2)) (lv2 := [(2, .int (v + (2))), (0, .ref 1), (1, .int m), (3, .int (nI k))]) K dX8_harmAt_31 rfl rfl (by decide) rfl ?_
          refine v_iload_n K dX8_harmAt_34 rfl ?_
          refine v_aload_n K dX8_harmAt_35 rfl ?_
          refine v_getr (q := 38) K fX8_47 sh_1 pl_1 gl_1_7 dX8_harmAt_36 ?_
          refine v_iload_n K dX8_harmAt_39 rfl ?_
          refine v_iald (x := s 119 (16 + k)) K sh_38 pl_38 (by omega) (hC.W.2.2.2.1.2.2 _ (by omega)) dX8_harmAt_40 ?_
          refine v_aload_n K dX8_harmAt_41 rfl ?_
          refine v_getr (q := 2) K fX8_12 sh_1 pl_1 gl_1_0 dX8_harmAt_42 ?_
          refine v_getr (q := 3) K fX8_70 sh_2 pl_2 gl_2_0 dX8_harmAt_45 ?_
          refine v_bipushN K 7 rfl dX8_harmAt_48 ?_
          refine v_iald (x := s 119 7) K sh_3 pl_3 (by omega) (hC.W.1.n (by decide)) dX8_harmAt_50 ?_
          refine v_iadd K dX8_harmAt_51 ?_
          refine v_icmp_le (tgt := 58) K dX8_harmAt_52 rfl (fun c4 => ?_) (fun c4 => ?_)
          · skip
            refine v_iincN (lv2 := [(3, .int (nI (k + 1))), (2, .int (v + (2))), (0, .ref 1), (1, .int m)]) K 1 dX8_harmAt_58 rfl rfl (by decide) rfl ?_
            refine v_goto (tgt := 4) K dX8_harmAt_61 rfl ?_
            refine v_sub (lv2 := [(0, .ref 1), (1, .int m), (2, .int (v + (2))), (3, .int (nI (k + 1)))]) (by simp) ?_
            exact ih4 (v + (2)) (k + 1) (by first | assumption | omega | rfl) (by rw [harmD, if_pos (Int32.not_le.mp c2), if_neg (Int32.not_lt.mpr c4), hv]; first | done | rfl | (simp only [add0]; first | done | rfl)) (by omega)
          · skip
            refine v_iinc (v := v + (2) + (5)) (lv2 := [(2, .int (v + (2) + (5))), (0, .ref 1), (1, .int m), (3, .int (nI k))]) K dX8_harmAt_55 rfl rfl (by decide) rfl ?_
            refine v_iincN (lv2 := [(3, .int (nI (k + 1))), (2, .int (v + (2) + (5))), (0, .ref 1), (1, .int m)]) K 1 dX8_harmAt_58 rfl rfl (by decide) rfl ?_
            refine v_goto (tgt := 4) K dX8_harmAt_61 rfl ?_
            refine v_sub (lv2 := [(0, .ref 1), (1, .int m), (2, .int (v + (2) + (5))), (3, .int (nI (k + 1)))]) (by simp) ?_
            exact ih4 (v + (2) + (5)) (k + 1) (by first | assumption | omega | rfl) (by rw [harmD, if_pos (Int32.not_le.mp c2), if_pos (Int32.not_le.mp c4), hv]; first | done | rfl | (simp only [add0]; first | done | rfl)) (by omega)
  refine v_sub (lv2 := [(0, .ref 1), (1, .int m), (2, .int (nI 0)), (3, .int (nI 0))]) (by simp) ?_
  exact L4 (13 - 0 + 1) (nI 0) 0 (by first | assumption | omega | rfl) (by rfl) (Nat.lt_succ_self _)

abbrev P_X9_wear (cM h s : Mm) (τ τk : Nat → List Int32) (w k v : Int32) : Option Value → Mm → Prop := fun r h2 => r = some (.int (Y_wear s w k v).1) ∧ CX cM h2 (Y_wear s w k v).2 τ τk
theorem c_X9_wear {l : Launch} (cM h s : Mm) (τ τk : Nat → List Int32) (w k v : Int32) (hC : CX cM h s τ τk) (hI : INV s τ τk) : Con l yX9_wear cX9_wear 7 (some .int) 2 43 132 GL h [.ref 0, .int w, .int k, .int v] (P_X9_wear cM h s τ τk w k v) := by
  refine Con.ofV (own := "FoxRounds") (nm := "wear") rfl rfl (by decide) (Nat.le_of_ble_eq_true rfl) ?_
  intro κ ρ hkl K
  subst hkl
  show V κ (QM κ (132, ρ, GL, 0, 0) (P_X9_wear cM h s τ τk w k v)) 7 (132, ρ, GL, 0, 0) h 0 [(0, .ref 0), (1, .int w), (2, .int k), (3, .int v)] []
  have hd := hI.d
  have hn8 := hd.nw8
  have ht5 := hd.nt5
  refine v_iload_n K dX9_wear_0 rfl ?_
  refine v_iconstN K 1 rfl dX9_wear_1 ?_
  refine v_icmp_eq (tgt := 15) K dX9_wear_2 rfl (fun c1 => ?_) (fun c1 => ?_)
  · skip
    subst c1
    refine v_iconstN K 1 rfl dX9_wear_15 ?_
    refine v_goto (tgt := 20) K dX9_wear_16 rfl ?_
    refine v_istore (lv2 := [(4, .int (nI 1)), (0, .ref 0), (1, .int w), (2, .int (nI 1)), (3, .int v)]) K dX9_wear_20 (by decide) rfl ?_
    refine v_aload_n K dX9_wear_22 rfl ?_
    refine v_getr (q := 1) K fX9_10 sh_0 pl_0 gl_0_0 dX9_wear_23 ?_
    refine v_getr (q := 2) K fX9_25 sh_1 pl_1 gl_1_0 dX9_wear_26 ?_
    refine v_iload_n K dX9_wear_29 rfl ?_
    refine v_callV (As := [.int w]) K (c_X1_hasWay h 2 (s 119) w hB_2 hC.W.1 hd) lX9_94 ck_X1 rfl sh_2 pl_2 rfl ⟨by decide, by decide⟩ (Nat.le_of_ble_eq_true rfl) dX9_wear_30 (fun r1 h1 hp1 => ?_) rfl
    obtain ⟨rfl, rfl⟩ := hp1
    refine v_some ?_
    refine v_ifB_eq (tgt := 61) K dX9_wear_33 rfl (fun c2 => ?_) (fun c2 => ?_)
    · skip
      refine v_aload_n K dX9_wear_61 rfl ?_
      refine v_iconstN K 1 rfl dX9_wear_62 ?_
      refine v_callV (As := [.int (nI 1)]) K (c_X9_error h 1 (by omega)) lX9_75 ck_X9 rfl sh_0 pl_0 rfl ⟨by decide, by decide⟩ (Nat.le_of_ble_eq_true rfl) dX9_wear_63 (fun r2 h2 hp2 => ?_) rfl
      obtain ⟨rfl, rfl⟩ := hp2
      refine v_some ?_
      have hCe1 : CX cM (u2 h 109 1 (h 109 1 + nI 1)) (u2 s 122 1 (s 122 1 + nI 1)) τ τk := CX.er hC (by omega) (by omega)
      refine v_iret K dX9_wear_66 ?_
      have eY : Y_wear s w (nI 1) v = ((-1000000000) - nI 1, (u2 s 122 1 (s 122 1 + nI 1))) := by
        unfold Y_wear
        refine (@if_neg _ (Classical.propDecidable _) (fun q => absurd q.1 (by assumption)) _ _ _).trans ?_
        first | rfl | ((try rw [cl_ix (show 1 < 2 ^ 31 by omega)]))
      exact xfin eY hCe1
    · skip
      obtain ⟨j1, Hj1, rfl⟩ := c2
      refine v_iload K dX9_wear_36 rfl ?_
      refine v_ifN_eq (tgt := 61) K (by omega) dX9_wear_38 rfl (fun c3 => ?_) (fun c3 => ?_)
      · exact absurd c3 (by decide)
      · skip
        refine v_iload_n K dX9_wear_41 rfl ?_
        refine v_iconstN K 0 rfl dX9_wear_42 ?_
        refine v_iload_n K dX9_wear_43 rfl ?_
        refine v_iconstN K 5 rfl dX9_wear_44 ?_
        refine v_icmpN_ne (tgt := 53) K (by omega) (by omega) dX9_wear_45 rfl (fun c4 => ?_) (fun c4 => ?_)
        · skip
          refine v_bipushN K 99 rfl dX9_wear_53 ?_
          refine v_callS (As := [.int v, .int (nI 0), .int (nI 99)]) K (c_X9_within h v (nI 0) (nI 99)) lX9_65 rfl ⟨by decide, by decide⟩ (Nat.le_of_ble_eq_true rfl) dX9_wear_55 (fun r3 h3 hp3 => ?_) rfl
          obtain ⟨rfl, rfl⟩ := hp3
          refine v_some ?_
          rw [show (nI 0 ≤ v ∧ v ≤ nI 99) = ix v 100 from in_ix (by decide)]
          refine v_ifB_ne (tgt := 67) K dX9_wear_58 rfl (fun c5 => ?_) (fun c5 => ?_)
          · skip
            obtain ⟨j2, Hj2, rfl⟩ := c5
            refine v_aload_n K dX9_wear_67 rfl ?_
            refine v_getr (q := 1) K fX9_10 sh_0 pl_0 gl_0_0 dX9_wear_68 ?_
            refine v_getr (q := 2) K fX9_25 sh_1 pl_1 gl_1_0 dX9_wear_71 ?_
            refine v_getr (q := 4) K fX9_102 sh_2 pl_2 gl_2_3 dX9_wear_74 ?_
            refine v_iload_n K dX9_wear_77 rfl ?_
            refine v_aald (q := 2 + 3 + j1) K sh_4 (Or.inl rfl) pl_4 (by omega) (hB_2.gw (by omega)) dX9_wear_78 ?_
            refine v_astore (lv2 := [(5, .ref (2 + 3 + j1)), (4, .int (nI 1)), (0, .ref 0), (1, .int (nI j1)), (2, .int (nI 1)), (3, .int (nI j2))]) K dX9_wear_79 (by decide) rfl ?_
            refine v_aload K dX9_wear_81 rfl ?_
            refine v_iload_n K dX9_wear_83 rfl ?_
            refine v_iald (x := s 119 (46 + 6 * j1 + 1)) K (hB_2.w (by omega)) (hB_2.l3 (by omega)) (by omega) (hC.W.1.w (by omega) (by omega)) dX9_wear_84 ?_
            refine v_istore (lv2 := [(6, .int (s 119 (46 + 6 * j1 + 1))), (5, .ref (2 + 3 + j1)), (4, .int (nI 1)), (0, .ref 0), (1, .int (nI j1)), (2, .int (nI 1)), (3, .int (nI j2))]) K dX9_wear_85 (by decide) rfl ?_
            refine v_aload K dX9_wear_87 rfl ?_
            refine v_iload_n K dX9_wear_89 rfl ?_
            refine v_iload_n K dX9_wear_90 rfl ?_
            refine v_iast K (hB_2.w (by omega)) (hB_2.l3 (by omega)) (by omega) dX9_wear_91 ?_
            have hCx1 : CX cM (u2 h (2 + 3 + j1) 1 (nI j2)) (u2 s 119 (46 + 6 * j1 + 1) (nI j2)) τ τk := CX.w2 hC (WX.w hC.W (by omega) (by omega)) (by omega) (by omega)
            refine v_iload K dX9_wear_92 rfl ?_
            refine v_iret K dX9_wear_94 ?_
            have eY : Y_wear s (nI j1) (nI 1) (nI j2) = (s 119 (46 + 6 * j1 + 1), (u2 s 119 (46 + 6 * j1 + 1) (nI j2))) := by
              unfold Y_wear
              refine (@if_pos _ (Classical.propDecidable _) ⟨⟨_, by assumption, rfl⟩, (by first | assumption | exact ⟨_, by assumption, rfl⟩ | exact Or.inl rfl | exact Or.inr (Or.inl rfl) | exact Or.inr (Or.inr rfl) | omega), (by rw [if_neg (by decide)]; exact ⟨_, by assumption, rfl⟩)⟩ _ _ _).trans ?_
              (rw [cl_ix (show j1 < 2 ^ 31 by omega)]; rfl)
            exact xfin eY hCx1
          · skip
            refine v_aload_n K dX9_wear_61 rfl ?_
            refine v_iconstN K 1 rfl dX9_wear_62 ?_
            refine v_callV (As := [.int (nI 1)]) K (c_X9_error h 1 (by omega)) lX9_75 ck_X9 rfl sh_0 pl_0 rfl ⟨by decide, by decide⟩ (Nat.le_of_ble_eq_true rfl) dX9_wear_63 (fun r4 h4 hp4 => ?_) rfl
            obtain ⟨rfl, rfl⟩ := hp4
            refine v_some ?_
            have hCe2 : CX cM (u2 h 109 1 (h 109 1 + nI 1)) (u2 s 122 1 (s 122 1 + nI 1)) τ τk := CX.er hC (by omega) (by omega)
            refine v_iret K dX9_wear_66 ?_
            have eY : Y_wear s (nI j1) (nI 1) v = ((-1000000000) - nI 1, (u2 s 122 1 (s 122 1 + nI 1))) := by
              unfold Y_wear
              refine (@if_neg _ (Classical.propDecidable _) (fun q => absurd (by have q3 := q.2.2; rw [if_neg (by decide)] at q3; exact q3) (by assumption)) _ _ _).trans ?_
              first | rfl | ((try rw [cl_ix (show j1 < 2 ^ 31 by omega)]) ; (try rw [cl_ix (show 1 < 2 ^ 31 by omega)]))
            exact xfin eY hCe2
        · exact absurd c4 (by decide)
  · skip
    refine v_iload_n K dX9_wear_5 rfl ?_
    refine v_iconstN K 4 rfl dX9_wear_6 ?_
    refine v_icmp_eq (tgt := 15) K dX9_wear_7 rfl (fun c6 => ?_) (fun c6 => ?_)
    · skip
      subst c6
      refine v_iconstN K 1 rfl dX9_wear_15 ?_
      refine v_goto (tgt := 20) K dX9_wear_16 rfl ?_
      refine v_istore (lv2 := [(4, .int (nI 1)), (0, .ref 0), (1, .int w), (2, .int (nI 4)), (3, .int v)]) K dX9_wear_20 (by decide) rfl ?_
      refine v_aload_n K dX9_wear_22 rfl ?_
      refine v_getr (q := 1) K fX9_10 sh_0 pl_0 gl_0_0 dX9_wear_23 ?_
      refine v_getr (q := 2) K fX9_25 sh_1 pl_1 gl_1_0 dX9_wear_26 ?_
      refine v_iload_n K dX9_wear_29 rfl ?_
      refine v_callV (As := [.int w]) K (c_X1_hasWay h 2 (s 119) w hB_2 hC.W.1 hd) lX9_94 ck_X1 rfl sh_2 pl_2 rfl ⟨by decide, by decide⟩ (Nat.le_of_ble_eq_true rfl) dX9_wear_30 (fun r5 h5 hp5 => ?_) rfl
      obtain ⟨rfl, rfl⟩ := hp5
      refine v_some ?_
      refine v_ifB_eq (tgt := 61) K dX9_wear_33 rfl (fun c7 => ?_) (fun c7 => ?_)
      · skip
        refine v_aload_n K dX9_wear_61 rfl ?_
        refine v_iconstN K 1 rfl dX9_wear_62 ?_
        refine v_callV (As := [.int (nI 1)]) K (c_X9_error h 1 (by omega)) lX9_75 ck_X9 rfl sh_0 pl_0 rfl ⟨by decide, by decide⟩ (Nat.le_of_ble_eq_true rfl) dX9_wear_63 (fun r6 h6 hp6 => ?_) rfl
        obtain ⟨rfl, rfl⟩ := hp6
        refine v_some ?_
        have hCe3 : CX cM (u2 h 109 1 (h 109 1 + nI 1)) (u2 s 122 1 (s 122 1 + nI 1)) τ τk := CX.er hC (by omega) (by omega)
        refine v_iret K dX9_wear_66 ?_
        have eY : Y_wear s w (nI 4) v = ((-1000000000) - nI 1, (u2 s 122 1 (s 122 1 + nI 1))) := by
          unfold Y_wear
          refine (@if_neg _ (Classical.propDecidable _) (fun q => absurd q.1 (by assumption)) _ _ _).trans ?_
          first | rfl | ((try rw [cl_ix (show 4 < 2 ^ 31 by omega)]))
        exact xfin eY hCe3
      · skip
        obtain ⟨j3, Hj3, rfl⟩ := c7
        refine v_iload K dX9_wear_36 rfl ?_
        refine v_ifN_eq (tgt := 61) K (by omega) dX9_wear_38 rfl (fun c8 => ?_) (fun c8 => ?_)
        · exact absurd c8 (by decide)
        · skip
          refine v_iload_n K dX9_wear_41 rfl ?_
          refine v_iconstN K 0 rfl dX9_wear_42 ?_
          refine v_iload_n K dX9_wear_43 rfl ?_
          refine v_iconstN K 5 rfl dX9_wear_44 ?_
          refine v_icmpN_ne (tgt := 53) K (by omega) (by omega) dX9_wear_45 rfl (fun c9 => ?_) (fun c9 => ?_)
          · skip
            refine v_bipushN K 99 rfl dX9_wear_53 ?_
            refine v_callS (As := [.int v, .int (nI 0), .int (nI 99)]) K (c_X9_within h v (nI 0) (nI 99)) lX9_65 rfl ⟨by decide, by decide⟩ (Nat.le_of_ble_eq_true rfl) dX9_wear_55 (fun r7 h7 hp7 => ?_) rfl
            obtain ⟨rfl, rfl⟩ := hp7
            refine v_some ?_
            rw [show (nI 0 ≤ v ∧ v ≤ nI 99) = ix v 100 from in_ix (by decide)]
            refine v_ifB_ne (tgt := 67) K dX9_wear_58 rfl (fun c10 => ?_) (fun c10 => ?_)
            · skip
              obtain ⟨j4, Hj4, rfl⟩ := c10
              refine v_aload_n K dX9_wear_67 rfl ?_
              refine v_getr (q := 1) K fX9_10 sh_0 pl_0 gl_0_0 dX9_wear_68 ?_
              refine v_getr (q := 2) K fX9_25 sh_1 pl_1 gl_1_0 dX9_wear_71 ?_
              refine v_getr (q := 4) K fX9_102 sh_2 pl_2 gl_2_3 dX9_wear_74 ?_
              refine v_iload_n K dX9_wear_77 rfl ?_
              refine v_aald (q := 2 + 3 + j3) K sh_4 (Or.inl rfl) pl_4 (by omega) (hB_2.gw (by omega)) dX9_wear_78 ?_
              refine v_astore (lv2 := [(5, .ref (2 + 3 + j3)), (4, .int (nI 1)), (0, .ref 0), (1, .int (nI j3)), (2, .int (nI 4)), (3, .int (nI j4))]) K dX9_wear_79 (by decide) rfl ?_
              refine v_aload K dX9_wear_81 rfl ?_
              refine v_iload_n K dX9_wear_83 rfl ?_
              refine v_iald (x := s 119 (46 + 6 * j3 + 4)) K (hB_2.w (by omega)) (hB_2.l3 (by omega)) (by omega) (hC.W.1.w (by omega) (by omega)) dX9_wear_84 ?_
              refine v_istore (lv2 := [(6, .int (s 119 (46 + 6 * j3 + 4))), (5, .ref (2 + 3 + j3)), (4, .int (nI 1)), (0, .ref 0), (1, .int (nI j3)), (2, .int (nI 4)), (3, .int (nI j4))]) K dX9_wear_85 (by decide) rfl ?_
              refine v_aload K dX9_wear_87 rfl ?_
              refine v_iload_n K dX9_wear_89 rfl ?_
              refine v_iload_n K dX9_wear_90 rfl ?_
              refine v_iast K (hB_2.w (by omega)) (hB_2.l3 (by omega)) (by omega) dX9_wear_91 ?_
              have hCx2 : CX cM (u2 h (2 + 3 + j3) 4 (nI j4)) (u2 s 119 (46 + 6 * j3 + 4) (nI j4)) τ τk := CX.w2 hC (WX.w hC.W (by omega) (by omega)) (by omega) (by omega)
              refine v_iload K dX9_wear_92 rfl ?_
              refine v_iret K dX9_wear_94 ?_
              have eY : Y_wear s (nI j3) (nI 4) (nI j4) = (s 119 (46 + 6 * j3 + 4), (u2 s 119 (46 + 6 * j3 + 4) (nI j4))) := by
                unfold Y_wear
                refine (@if_pos _ (Classical.propDecidable _) ⟨⟨_, by assumption, rfl⟩, (by first | assumption | exact ⟨_, by assumption, rfl⟩ | exact Or.inl rfl | exact Or.inr (Or.inl rfl) | exact Or.inr (Or.inr rfl) | omega), (by rw [if_neg (by decide)]; exact ⟨_, by assumption, rfl⟩)⟩ _ _ _).trans ?_
                (rw [cl_ix (show j3 < 2 ^ 31 by omega)]; rfl)
              exact xfin eY hCx2
            · skip
              refine v_aload_n K dX9_wear_61 rfl ?_
              refine v_iconstN K 1 rfl dX9_wear_62 ?_
              refine v_callV (As := [.int (nI 1)]) K (c_X9_error h 1 (by omega)) lX9_75 ck_X9 rfl sh_0 pl_0 rfl ⟨by decide, by decide⟩ (Nat.le_of_ble_eq_true rfl) dX9_wear_63 (fun r8 h8 hp8 => ?_) rfl
              obtain ⟨rfl, rfl⟩ := hp8
              refine v_some ?_
              have hCe4 : CX cM (u2 h 109 1 (h 109 1 + nI 1)) (u2 s 122 1 (s 122 1 + nI 1)) τ τk := CX.er hC (by omega) (by omega)
              refine v_iret K dX9_wear_66 ?_
              have eY : Y_wear s (nI j3) (nI 4) v = ((-1000000000) - nI 1, (u2 s 122 1 (s 122 1 + nI 1))) := by
                unfold Y_wear
                refine (@if_neg _ (Classical.propDecidable _) (fun q => absurd (by have q3 := q.2.2; rw [if_neg (by decide)] at q3; exact q3) (by assumption)) _ _ _).trans ?_
                first | rfl | ((try rw [cl_ix (show j3 < 2 ^ 31 by omega)]) ; (try rw [cl_ix (show 4 < 2 ^ 31 by omega)]))
              exact xfin eY hCe4
          · exact absurd c9 (by decide)
    · skip
      refine v_iload_n K dX9_wear_10 rfl ?_
      refine v_iconstN K 5 rfl dX9_wear_11 ?_
      refine v_icmp_ne (tgt := 19) K dX9_wear_12 rfl (fun c11 => ?_) (fun c11 => ?_)
      · skip
        refine v_iconstN K 0 rfl dX9_wear_19 ?_
        refine v_istore (lv2 := [(4, .int (nI 0)), (0, .ref 0), (1, .int w), (2, .int k), (3, .int v)]) K dX9_wear_20 (by decide) rfl ?_
        refine v_aload_n K dX9_wear_22 rfl ?_
        refine v_getr (q := 1) K fX9_10 sh_0 pl_0 gl_0_0 dX9_wear_23 ?_
        refine v_getr (q := 2) K fX9_25 sh_1 pl_1 gl_1_0 dX9_wear_26 ?_
        refine v_iload_n K dX9_wear_29 rfl ?_
        refine v_callV (As := [.int w]) K (c_X1_hasWay h 2 (s 119) w hB_2 hC.W.1 hd) lX9_94 ck_X1 rfl sh_2 pl_2 rfl ⟨by decide, by decide⟩ (Nat.le_of_ble_eq_true rfl) dX9_wear_30 (fun r9 h9 hp9 => ?_) rfl
        obtain ⟨rfl, rfl⟩ := hp9
        refine v_some ?_
        refine v_ifB_eq (tgt := 61) K dX9_wear_33 rfl (fun c12 => ?_) (fun c12 => ?_)
        · skip
          refine v_aload_n K dX9_wear_61 rfl ?_
          refine v_iconstN K 1 rfl dX9_wear_62 ?_
          refine v_callV (As := [.int (nI 1)]) K (c_X9_error h 1 (by omega)) lX9_75 ck_X9 rfl sh_0 pl_0 rfl ⟨by decide, by decide⟩ (Nat.le_of_ble_eq_true rfl) dX9_wear_63 (fun r10 h10 hp10 => ?_) rfl
          obtain ⟨rfl, rfl⟩ := hp10
          refine v_some ?_
          have hCe5 : CX cM (u2 h 109 1 (h 109 1 + nI 1)) (u2 s 122 1 (s 122 1 + nI 1)) τ τk := CX.er hC (by omega) (by omega)
          refine v_iret K dX9_wear_66 ?_
          have eY : Y_wear s w k v = ((-1000000000) - nI 1, (u2 s 122 1 (s 122 1 + nI 1))) := by
            unfold Y_wear
            refine (@if_neg _ (Classical.propDecidable _) (fun q => absurd q.1 (by assumption)) _ _ _).trans ?_
            first | rfl | (rfl)
          exact xfin eY hCe5
        · skip
          obtain ⟨j5, Hj5, rfl⟩ := c12
          refine v_iload K dX9_wear_36 rfl ?_
          refine v_ifN_eq (tgt := 61) K (by omega) dX9_wear_38 rfl (fun c13 => ?_) (fun c13 => ?_)
          · skip
            refine v_aload_n K dX9_wear_61 rfl ?_
            refine v_iconstN K 1 rfl dX9_wear_62 ?_
            refine v_callV (As := [.int (nI 1)]) K (c_X9_error h 1 (by omega)) lX9_75 ck_X9 rfl sh_0 pl_0 rfl ⟨by decide, by decide⟩ (Nat.le_of_ble_eq_true rfl) dX9_wear_63 (fun r11 h11 hp11 => ?_) rfl
            obtain ⟨rfl, rfl⟩ := hp11
            refine v_some ?_
            have hCe6 : CX cM (u2 h 109 1 (h 109 1 + nI 1)) (u2 s 122 1 (s 122 1 + nI 1)) τ τk := CX.er hC (by omega) (by omega)
            refine v_iret K dX9_wear_66 ?_
            have eY : Y_wear s (nI j5) k v = ((-1000000000) - nI 1, (u2 s 122 1 (s 122 1 + nI 1))) := by
              unfold Y_wear
              refine (@if_neg _ (Classical.propDecidable _) (fun q => by rcases q.2.1 with x | x | x <;> exact absurd x (by assumption)) _ _ _).trans ?_
              first | rfl | ((try rw [cl_ix (show j5 < 2 ^ 31 by omega)]))
            exact xfin eY hCe6
          · exact absurd c13 (by decide)
      · skip
        subst c11
        refine v_iconstN K 1 rfl dX9_wear_15 ?_
        refine v_goto (tgt := 20) K dX9_wear_16 rfl ?_
        refine v_istore (lv2 := [(4, .int (nI 1)), (0, .ref 0), (1, .int w), (2, .int (nI 5)), (3, .int v)]) K dX9_wear_20 (by decide) rfl ?_
        refine v_aload_n K dX9_wear_22 rfl ?_
        refine v_getr (q := 1) K fX9_10 sh_0 pl_0 gl_0_0 dX9_wear_23 ?_
        refine v_getr (q := 2) K fX9_25 sh_1 pl_1 gl_1_0 dX9_wear_26 ?_
        refine v_iload_n K dX9_wear_29 rfl ?_
        refine v_callV (As := [.int w]) K (c_X1_hasWay h 2 (s 119) w hB_2 hC.W.1 hd) lX9_94 ck_X1 rfl sh_2 pl_2 rfl ⟨by decide, by decide⟩ (Nat.le_of_ble_eq_true rfl) dX9_wear_30 (fun r12 h12 hp12 => ?_) rfl
        obtain ⟨rfl, rfl⟩ := hp12
        refine v_some ?_
        refine v_ifB_eq (tgt := 61) K dX9_wear_33 rfl (fun c14 => ?_) (fun c14 => ?_)
        · skip
          refine v_aload_n K dX9_wear_61 rfl ?_
          refine v_iconstN K 1 rfl dX9_wear_62 ?_
          refine v_callV (As := [.int (nI 1)]) K (c_X9_error h 1 (by omega)) lX9_75 ck_X9 rfl sh_0 pl_0 rfl ⟨by decide, by decide⟩ (Nat.le_of_ble_eq_true rfl) dX9_wear_63 (fun r13 h13 hp13 => ?_) rfl
          obtain ⟨rfl, rfl⟩ := hp13
          refine v_some ?_
          have hCe7 : CX cM (u2 h 109 1 (h 109 1 + nI 1)) (u2 s 122 1 (s 122 1 + nI 1)) τ τk := CX.er hC (by omega) (by omega)
          refine v_iret K dX9_wear_66 ?_
          have eY : Y_wear s w (nI 5) v = ((-1000000000) - nI 1, (u2 s 122 1 (s 122 1 + nI 1))) := by
            unfold Y_wear
            refine (@if_neg _ (Classical.propDecidable _) (fun q => absurd q.1 (by assumption)) _ _ _).trans ?_
            first | rfl | ((try rw [cl_ix (show 5 < 2 ^ 31 by omega)]))
          exact xfin eY hCe7
        · skip
          obtain ⟨j6, Hj6, rfl⟩ := c14
          refine v_iload K dX9_wear_36 rfl ?_
          refine v_ifN_eq (tgt := 61) K (by omega) dX9_wear_38 rfl (fun c15 => ?_) (fun c15 => ?_)
          · exact absurd c15 (by decide)
          · skip
            refine v_iload_n K dX9_wear_41 rfl ?_
            refine v_iconstN K 0 rfl dX9_wear_42 ?_
            refine v_iload_n K dX9_wear_43 rfl ?_
            refine v_iconstN K 5 rfl dX9_wear_44 ?_
            refine v_icmpN_ne (tgt := 53) K (by omega) (by omega) dX9_wear_45 rfl (fun c16 => ?_) (fun c16 => ?_)
            · exact absurd c16 (by decide)
            · skip
              refine v_bipushN K 9 rfl dX9_wear_48 ?_
              refine v_goto (tgt := 55) K dX9_wear_50 rfl ?_
              refine v_callS (As := [.int v, .int (nI 0), .int (nI 9)]) K (c_X9_within h v (nI 0) (nI 9)) lX9_65 rfl ⟨by decide, by decide⟩ (Nat.le_of_ble_eq_true rfl) dX9_wear_55 (fun r14 h14 hp14 => ?_) rfl
              obtain ⟨rfl, rfl⟩ := hp14
              refine v_some ?_
              rw [show (nI 0 ≤ v ∧ v ≤ nI 9) = ix v 10 from in_ix (by decide)]
              refine v_ifB_ne (tgt := 67) K dX9_wear_58 rfl (fun c17 => ?_) (fun c17 => ?_)
              · skip
                obtain ⟨j7, Hj7, rfl⟩ := c17
                refine v_aload_n K dX9_wear_67 rfl ?_
                refine v_getr (q := 1) K fX9_10 sh_0 pl_0 gl_0_0 dX9_wear_68 ?_
                refine v_getr (q := 2) K fX9_25 sh_1 pl_1 gl_1_0 dX9_wear_71 ?_
                refine v_getr (q := 4) K fX9_102 sh_2 pl_2 gl_2_3 dX9_wear_74 ?_
                refine v_iload_n K dX9_wear_77 rfl ?_
                refine v_aald (q := 2 + 3 + j6) K sh_4 (Or.inl rfl) pl_4 (by omega) (hB_2.gw (by omega)) dX9_wear_78 ?_
                refine v_astore (lv2 := [(5, .ref (2 + 3 + j6)), (4, .int (nI 1)), (0, .ref 0), (1, .int (nI j6)), (2, .int (nI 5)), (3, .int (nI j7))]) K dX9_wear_79 (by decide) rfl ?_
                refine v_aload K dX9_wear_81 rfl ?_
                refine v_iload_n K dX9_wear_83 rfl ?_
                refine v_iald (x := s 119 (46 + 6 * j6 + 5)) K (hB_2.w (by omega)) (hB_2.l3 (by omega)) (by omega) (hC.W.1.w (by omega) (by omega)) dX9_wear_84 ?_
                refine v_istore (lv2 := [(6, .int (s 119 (46 + 6 * j6 + 5))), (5, .ref (2 + 3 + j6)), (4, .int (nI 1)), (0, .ref 0), (1, .int (nI j6)), (2, .int (nI 5)), (3, .int (nI j7))]) K dX9_wear_85 (by decide) rfl ?_
                refine v_aload K dX9_wear_87 rfl ?_
                refine v_iload_n K dX9_wear_89 rfl ?_
                refine v_iload_n K dX9_wear_90 rfl ?_
                refine v_iast K (hB_2.w (by omega)) (hB_2.l3 (by omega)) (by omega) dX9_wear_91 ?_
                have hCx3 : CX cM (u2 h (2 + 3 + j6) 5 (nI j7)) (u2 s 119 (46 + 6 * j6 + 5) (nI j7)) τ τk := CX.w2 hC (WX.w hC.W (by omega) (by omega)) (by omega) (by omega)
                refine v_iload K dX9_wear_92 rfl ?_
                refine v_iret K dX9_wear_94 ?_
                have eY : Y_wear s (nI j6) (nI 5) (nI j7) = (s 119 (46 + 6 * j6 + 5), (u2 s 119 (46 + 6 * j6 + 5) (nI j7))) := by
                  unfold Y_wear
                  refine (@if_pos _ (Classical.propDecidable _) ⟨⟨_, by assumption, rfl⟩, (by first | assumption | exact ⟨_, by assumption, rfl⟩ | exact Or.inl rfl | exact Or.inr (Or.inl rfl) | exact Or.inr (Or.inr rfl) | omega), (by rw [if_pos rfl]; exact ⟨_, by assumption, rfl⟩)⟩ _ _ _).trans ?_
                  (rw [cl_ix (show j6 < 2 ^ 31 by omega)]; rfl)
                exact xfin eY hCx3
              · skip
                refine v_aload_n K dX9_wear_61 rfl ?_
                refine v_iconstN K 1 rfl dX9_wear_62 ?_
                refine v_callV (As := [.int (nI 1)]) K (c_X9_error h 1 (by omega)) lX9_75 ck_X9 rfl sh_0 pl_0 rfl ⟨by decide, by decide⟩ (Nat.le_of_ble_eq_true rfl) dX9_wear_63 (fun r15 h15 hp15 => ?_) rfl
                obtain ⟨rfl, rfl⟩ := hp15
                refine v_some ?_
                have hCe8 : CX cM (u2 h 109 1 (h 109 1 + nI 1)) (u2 s 122 1 (s 122 1 + nI 1)) τ τk := CX.er hC (by omega) (by omega)
                refine v_iret K dX9_wear_66 ?_
                have eY : Y_wear s (nI j6) (nI 5) v = ((-1000000000) - nI 1, (u2 s 122 1 (s 122 1 + nI 1))) := by
                  unfold Y_wear
                  refine (@if_neg _ (Classical.propDecidable _) (fun q => absurd (by have q3 := q.2.2; rw [if_pos rfl] at q3; exact q3) (by assumption)) _ _ _).trans ?_
                  first | rfl | ((try rw [cl_ix (show j6 < 2 ^ 31 by omega)]) ; (try rw [cl_ix (show 5 < 2 ^ 31 by omega)]))
                exact xfin eY hCe8

abbrev P_X9_as (cM h s : Mm) (τ τk : Nat → List Int32) (w k : Int32) : Option Value → Mm → Prop := fun r h2 => r = some (.int (Y_as s w k).1) ∧ CX cM h2 (Y_as s w k).2 τ τk
theorem c_X9_as {l : Launch} (cM h s : Mm) (τ τk : Nat → List Int32) (w k : Int32) (hC : CX cM h s τ τk) (hI : INV s τ τk) : Con l yX9_as cX9_as 4 (some .int) 2 45 132 GL h [.ref 0, .int w, .int k] (P_X9_as cM h s τ τk w k) := by
  refine Con.ofV (own := "FoxRounds") (nm := "as") rfl rfl (by decide) (Nat.le_of_ble_eq_true rfl) ?_
  intro κ ρ hkl K
  subst hkl
  show V κ (QM κ (132, ρ, GL, 0, 0) (P_X9_as cM h s τ τk w k)) 4 (132, ρ, GL, 0, 0) h 0 [(0, .ref 0), (1, .int w), (2, .int k)] []
  have hd := hI.d
  have hn8 := hd.nw8
  have ht5 := hd.nt5
  refine v_aload_n K dX9_as_0 rfl ?_
  refine v_getr (q := 1) K fX9_10 sh_0 pl_0 gl_0_0 dX9_as_1 ?_
  refine v_getr (q := 2) K fX9_25 sh_1 pl_1 gl_1_0 dX9_as_4 ?_
  refine v_iload_n K dX9_as_7 rfl ?_
  refine v_callV (As := [.int w]) K (c_X1_hasWay h 2 (s 119) w hB_2 hC.W.1 hd) lX9_94 ck_X1 rfl sh_2 pl_2 rfl ⟨by decide, by decide⟩ (Nat.le_of_ble_eq_true rfl) dX9_as_8 (fun r1 h1 hp1 => ?_) rfl
  obtain ⟨rfl, rfl⟩ := hp1
  refine v_some ?_
  refine v_ifB_eq (tgt := 24) K dX9_as_11 rfl (fun c1 => ?_) (fun c1 => ?_)
  · skip
    refine v_aload_n K dX9_as_24 rfl ?_
    refine v_iconstN K 1 rfl dX9_as_25 ?_
    refine v_callV (As := [.int (nI 1)]) K (c_X9_error h 1 (by omega)) lX9_75 ck_X9 rfl sh_0 pl_0 rfl ⟨by decide, by decide⟩ (Nat.le_of_ble_eq_true rfl) dX9_as_26 (fun r2 h2 hp2 => ?_) rfl
    obtain ⟨rfl, rfl⟩ := hp2
    refine v_some ?_
    have hCe1 : CX cM (u2 h 109 1 (h 109 1 + nI 1)) (u2 s 122 1 (s 122 1 + nI 1)) τ τk := CX.er hC (by omega) (by omega)
    refine v_iret K dX9_as_29 ?_
    have eY : Y_as s w k = ((-1000000000) - nI 1, (u2 s 122 1 (s 122 1 + nI 1))) := by
      unfold Y_as
      refine (@if_pos _ (Classical.propDecidable _) (fun q => by first | exact absurd q.1 (by assumption) | exact absurd q.2 (by assumption)) _ _ _).trans ?_
      first | rfl | (rfl)
    exact xfin eY hCe1
  · skip
    obtain ⟨j1, Hj1, rfl⟩ := c1
    refine v_iload_n K dX9_as_14 rfl ?_
    refine v_iconstN K 0 rfl dX9_as_15 ?_
    refine v_bipushN K 6 rfl dX9_as_16 ?_
    refine v_callS (As := [.int k, .int (nI 0), .int (nI 6)]) K (c_X9_within h k (nI 0) (nI 6)) lX9_65 rfl ⟨by decide, by decide⟩ (Nat.le_of_ble_eq_true rfl) dX9_as_18 (fun r3 h3 hp3 => ?_) rfl
    obtain ⟨rfl, rfl⟩ := hp3
    refine v_some ?_
    rw [show (nI 0 ≤ k ∧ k ≤ nI 6) = ix k 7 from in_ix (by decide)]
    refine v_ifB_ne (tgt := 30) K dX9_as_21 rfl (fun c2 => ?_) (fun c2 => ?_)
    · skip
      obtain ⟨j2, Hj2, rfl⟩ := c2
      refine v_aload_n K dX9_as_30 rfl ?_
      refine v_getr (q := 1) K fX9_10 sh_0 pl_0 gl_0_0 dX9_as_31 ?_
      refine v_getr (q := 2) K fX9_25 sh_1 pl_1 gl_1_0 dX9_as_34 ?_
      refine v_getr (q := 4) K fX9_102 sh_2 pl_2 gl_2_3 dX9_as_37 ?_
      refine v_iload_n K dX9_as_40 rfl ?_
      refine v_aald (q := 2 + 3 + j1) K sh_4 (Or.inl rfl) pl_4 (by omega) (hB_2.gw (by omega)) dX9_as_41 ?_
      refine v_astore_n (lv2 := [(3, .ref (2 + 3 + j1)), (0, .ref 0), (1, .int (nI j1)), (2, .int (nI j2))]) K dX9_as_42 (by decide) rfl ?_
      refine v_aload_n K dX9_as_43 rfl ?_
      refine v_iconstN K 0 rfl dX9_as_44 ?_
      refine v_iald (x := s 119 (46 + 6 * j1 + 0)) K (hB_2.w (by omega)) (hB_2.l3 (by omega)) (by omega) (hC.W.1.w (by omega) (by omega)) dX9_as_45 ?_
      obtain ⟨o, ho7, eo⟩ := hd.kd (w := j1) (by omega)
      refine v_top (y := nI o) eo ?_
      refine v_iload_n K dX9_as_46 rfl ?_
      refine v_callS (As := [.int (nI o), .int (nI j2)]) K (c_X9_isUnder h o j2 (by omega) (by omega)) lX9_106 rfl ⟨by decide, by decide⟩ (Nat.le_of_ble_eq_true rfl) dX9_as_47 (fun r4 h4 hp4 => ?_) rfl
      obtain ⟨rfl, rfl⟩ := hp4
      refine v_some ?_
      refine v_ifB_eq (tgt := 59) K dX9_as_50 rfl (fun c3 => ?_) (fun c3 => ?_)
      · skip
        refine v_aload_n K dX9_as_59 rfl ?_
        refine v_iconstN K 5 rfl dX9_as_60 ?_
        refine v_callV (As := [.int (nI 5)]) K (c_X9_error h 5 (by omega)) lX9_75 ck_X9 rfl sh_0 pl_0 rfl ⟨by decide, by decide⟩ (Nat.le_of_ble_eq_true rfl) dX9_as_61 (fun r5 h5 hp5 => ?_) rfl
        obtain ⟨rfl, rfl⟩ := hp5
        refine v_some ?_
        have hCe2 : CX cM (u2 h 109 5 (h 109 5 + nI 1)) (u2 s 122 5 (s 122 5 + nI 1)) τ τk := CX.er hC (by omega) (by omega)
        refine v_iret K dX9_as_64 ?_
        have eY : Y_as s (nI j1) (nI j2) = ((-1000000000) - nI 5, (u2 s 122 5 (s 122 5 + nI 1))) := by
          unfold Y_as
          refine (@if_neg _ (Classical.propDecidable _) (fun q => q (by refine ⟨?_, ?_⟩ <;> (first | assumption | exact ⟨_, by assumption, rfl⟩ | exact Or.inl rfl | exact Or.inr (Or.inl rfl) | exact Or.inr (Or.inr rfl) | omega))) _ _ _).trans ?_
          refine (@if_neg _ (Classical.propDecidable _) (by rw [cl_ix (show j1 < 2 ^ 31 by omega), cl_ix (show j2 < 2 ^ 31 by omega), show s 119 (46 + 6 * j1 + 0) = nI o from eo, cl_ix (show o < 2 ^ 31 by omega)]; assumption) _ _ _).trans ?_
          first | rfl | ((try rw [cl_ix (show j1 < 2 ^ 31 by omega)]) ; (try rw [cl_ix (show j2 < 2 ^ 31 by omega)]))
        exact xfin eY hCe2
      · skip
        refine v_aload_n K dX9_as_53 rfl ?_
        refine v_iconstN K 1 rfl dX9_as_54 ?_
        refine v_iald (x := s 119 (46 + 6 * j1 + 1)) K (hB_2.w (by omega)) (hB_2.l3 (by omega)) (by omega) (hC.W.1.w (by omega) (by omega)) dX9_as_55 ?_
        refine v_goto (tgt := 64) K dX9_as_56 rfl ?_
        refine v_iret K dX9_as_64 ?_
        have eY : Y_as s (nI j1) (nI j2) = (s 119 (46 + 6 * j1 + 1), s) := by
          unfold Y_as
          refine (@if_neg _ (Classical.propDecidable _) (fun q => q (by refine ⟨?_, ?_⟩ <;> (first | assumption | exact ⟨_, by assumption, rfl⟩ | exact Or.inl rfl | exact Or.inr (Or.inl rfl) | exact Or.inr (Or.inr rfl) | omega))) _ _ _).trans ?_
          refine (@if_pos _ (Classical.propDecidable _) (by rw [cl_ix (show j1 < 2 ^ 31 by omega), cl_ix (show j2 < 2 ^ 31 by omega), show s 119 (46 + 6 * j1 + 0) = nI o from eo, cl_ix (show o < 2 ^ 31 by omega)]; assumption) _ _ _).trans ?_
          (rw [cl_ix (show j1 < 2 ^ 31 by omega)])
        exact xfin eY hC
    · skip
      refine v_aload_n K dX9_as_24 rfl ?_
      refine v_iconstN K 1 rfl dX9_as_25 ?_
      refine v_callV (As := [.int (nI 1)]) K (c_X9_error h 1 (by omega)) lX9_75 ck_X9 rfl sh_0 pl_0 rfl ⟨by decide, by decide⟩ (Nat.le_of_ble_eq_true rfl) dX9_as_26 (fun r6 h6 hp6 => ?_) rfl
      obtain ⟨rfl, rfl⟩ := hp6
      refine v_some ?_
      have hCe3 : CX cM (u2 h 109 1 (h 109 1 + nI 1)) (u2 s 122 1 (s 122 1 + nI 1)) τ τk := CX.er hC (by omega) (by omega)
      refine v_iret K dX9_as_29 ?_
      have eY : Y_as s (nI j1) k = ((-1000000000) - nI 1, (u2 s 122 1 (s 122 1 + nI 1))) := by
        unfold Y_as
        refine (@if_pos _ (Classical.propDecidable _) (fun q => by first | exact absurd q.1 (by assumption) | exact absurd q.2 (by assumption)) _ _ _).trans ?_
        first | rfl | ((try rw [cl_ix (show j1 < 2 ^ 31 by omega)]))
      exact xfin eY hCe3

abbrev P_X9_mend (cM h s : Mm) (τ τk : Nat → List Int32) (w : Int32) : Option Value → Mm → Prop := fun r h2 => r = some (.int (Y_mend s w).1) ∧ CX cM h2 (Y_mend s w).2 τ τk
theorem c_X9_mend {l : Launch} (cM h s : Mm) (τ τk : Nat → List Int32) (w : Int32) (hC : CX cM h s τ τk) (hI : INV s τ τk) : Con l yX9_mend cX9_mend 2 (some .int) 2 43 132 GL h [.ref 0, .int w] (P_X9_mend cM h s τ τk w) := by
  refine Con.ofV (own := "FoxRounds") (nm := "mend") rfl rfl (by decide) (Nat.le_of_ble_eq_true rfl) ?_
  intro κ ρ hkl K
  subst hkl
  show V κ (QM κ (132, ρ, GL, 0, 0) (P_X9_mend cM h s τ τk w)) 2 (132, ρ, GL, 0, 0) h 0 [(0, .ref 0), (1, .int w)] []
  have hd := hI.d
  have hn8 := hd.nw8
  have ht5 := hd.nt5
  refine v_aload_n K dX9_mend_0 rfl ?_
  refine v_getr (q := 1) K fX9_10 sh_0 pl_0 gl_0_0 dX9_mend_1 ?_
  refine v_getr (q := 2) K fX9_25 sh_1 pl_1 gl_1_0 dX9_mend_4 ?_
  refine v_iload_n K dX9_mend_7 rfl ?_
  refine v_callV (As := [.int w]) K (c_X1_hasWay h 2 (s 119) w hB_2 hC.W.1 hd) lX9_94 ck_X1 rfl sh_2 pl_2 rfl ⟨by decide, by decide⟩ (Nat.le_of_ble_eq_true rfl) dX9_mend_8 (fun r1 h1 hp1 => ?_) rfl
  obtain ⟨rfl, rfl⟩ := hp1
  refine v_some ?_
  refine v_ifB_ne (tgt := 20) K dX9_mend_11 rfl (fun c1 => ?_) (fun c1 => ?_)
  · skip
    obtain ⟨j1, Hj1, rfl⟩ := c1
    refine v_aload_n K dX9_mend_20 rfl ?_
    refine v_getr (q := 1) K fX9_10 sh_0 pl_0 gl_0_0 dX9_mend_21 ?_
    refine v_getr (q := 2) K fX9_25 sh_1 pl_1 gl_1_0 dX9_mend_24 ?_
    refine v_iload_n K dX9_mend_27 rfl ?_
    refine v_callV (As := [.int (nI j1)]) K (c_X1_mendWay h 2 (s 119) j1 hB_2 hC.W.1 hd (by omega)) lX9_119 ck_X1 rfl sh_2 pl_2 rfl ⟨by decide, by decide⟩ (Nat.le_of_ble_eq_true rfl) dX9_mend_28 (fun r2 h2 hp2 => ?_) rfl
    obtain ⟨rfl, hRq1, hFq1⟩ := hp2
    have hCq1 : CX cM h2 (rw2 s 119 (mendD (s 119) j1)) τ τk := CX.lo hC hRq1 (hFq1.N (by omega) (by omega)) (fun i hi => mendD_off (by omega) hi)
    refine v_none ?_
    refine v_aload_n K dX9_mend_31 rfl ?_
    refine v_getr (q := 1) K fX9_10 sh_0 pl_0 gl_0_0 dX9_mend_32 ?_
    refine v_getr (q := 2) K fX9_25 sh_1 pl_1 gl_1_0 dX9_mend_35 ?_
    refine v_getr (q := 4) K fX9_102 sh_2 pl_2 gl_2_3 dX9_mend_38 ?_
    refine v_iload_n K dX9_mend_41 rfl ?_
    refine v_aald (q := 2 + 3 + j1) K sh_4 (Or.inl rfl) pl_4 (by omega) (hB_2.gw (by omega)) dX9_mend_42 ?_
    refine v_iconstN K 1 rfl dX9_mend_43 ?_
    refine v_iald (x := mendD (s 119) j1 (46 + 6 * j1 + 1)) K (hB_2.w (by omega)) (hB_2.l3 (by omega)) (by omega) ((hCq1.W.1.w (by omega) (by omega)).trans (congrFun rw2_at _)) dX9_mend_44 ?_
    refine v_iret K dX9_mend_45 ?_
    have eY : Y_mend s (nI j1) = (mendD (s 119) j1 (46 + 6 * j1 + 1), (rw2 s 119 (mendD (s 119) j1))) := by
      unfold Y_mend
      refine (@if_pos _ (Classical.propDecidable _) (by first | assumption | exact ⟨_, by assumption, rfl⟩ | exact Or.inl rfl | exact Or.inr (Or.inl rfl) | exact Or.inr (Or.inr rfl) | omega) _ _ _).trans ?_
      (rw [cl_ix (show j1 < 2 ^ 31 by omega)])
    exact xfin eY hCq1
  · skip
    refine v_aload_n K dX9_mend_14 rfl ?_
    refine v_iconstN K 1 rfl dX9_mend_15 ?_
    refine v_callV (As := [.int (nI 1)]) K (c_X9_error h 1 (by omega)) lX9_75 ck_X9 rfl sh_0 pl_0 rfl ⟨by decide, by decide⟩ (Nat.le_of_ble_eq_true rfl) dX9_mend_16 (fun r3 h3 hp3 => ?_) rfl
    obtain ⟨rfl, rfl⟩ := hp3
    refine v_some ?_
    have hCe1 : CX cM (u2 h 109 1 (h 109 1 + nI 1)) (u2 s 122 1 (s 122 1 + nI 1)) τ τk := CX.er hC (by omega) (by omega)
    refine v_iret K dX9_mend_19 ?_
    have eY : Y_mend s w = ((-1000000000) - nI 1, (u2 s 122 1 (s 122 1 + nI 1))) := by
      unfold Y_mend
      refine (@if_neg _ (Classical.propDecidable _) (fun q => absurd q (by assumption)) _ _ _).trans ?_
      first | rfl | (rfl)
    exact xfin eY hCe1

abbrev P_X9_thing (cM h s : Mm) (τ τk : Nat → List Int32) (f g : Int32) : Option Value → Mm → Prop := fun r h2 => r = some (.int (Y_thing s f g).1) ∧ CX cM h2 (Y_thing s f g).2 τ τk
theorem c_X9_thing {l : Launch} (cM h s : Mm) (τ τk : Nat → List Int32) (f g : Int32) (hC : CX cM h s τ τk) (hI : INV s τ τk) : Con l yX9_thing cX9_thing 3 (some .int) 2 43 132 GL h [.ref 0, .int f, .int g] (P_X9_thing cM h s τ τk f g) := by
  refine Con.ofV (own := "FoxRounds") (nm := "thing") rfl rfl (by decide) (Nat.le_of_ble_eq_true rfl) ?_
  intro κ ρ hkl K
  subst hkl
  show V κ (QM κ (132, ρ, GL, 0, 0) (P_X9_thing cM h s τ τk f g)) 3 (132, ρ, GL, 0, 0) h 0 [(0, .ref 0), (1, .int f), (2, .int g)] []
  have hd := hI.d
  have hn8 := hd.nw8
  have ht5 := hd.nt5
  refine v_iload_n K dX9_thing_0 rfl ?_
  refine v_iconstN K 0 rfl dX9_thing_1 ?_
  refine v_bipushN K 99 rfl dX9_thing_2 ?_
  refine v_callS (As := [.int f, .int (nI 0), .int (nI 99)]) K (c_X9_within h f (nI 0) (nI 99)) lX9_65 rfl ⟨by decide, by decide⟩ (Nat.le_of_ble_eq_true rfl) dX9_thing_4 (fun r1 h1 hp1 => ?_) rfl
  obtain ⟨rfl, rfl⟩ := hp1
  refine v_some ?_
  rw [show (nI 0 ≤ f ∧ f ≤ nI 99) = ix f 100 from in_ix (by decide)]
  refine v_ifB_eq (tgt := 20) K dX9_thing_7 rfl (fun c1 => ?_) (fun c1 => ?_)
  · skip
    refine v_aload_n K dX9_thing_20 rfl ?_
    refine v_iconstN K 1 rfl dX9_thing_21 ?_
    refine v_callV (As := [.int (nI 1)]) K (c_X9_error h 1 (by omega)) lX9_75 ck_X9 rfl sh_0 pl_0 rfl ⟨by decide, by decide⟩ (Nat.le_of_ble_eq_true rfl) dX9_thing_22 (fun r2 h2 hp2 => ?_) rfl
    obtain ⟨rfl, rfl⟩ := hp2
    refine v_some ?_
    have hCe1 : CX cM (u2 h 109 1 (h 109 1 + nI 1)) (u2 s 122 1 (s 122 1 + nI 1)) τ τk := CX.er hC (by omega) (by omega)
    refine v_iret K dX9_thing_25 ?_
    have eY : Y_thing s f g = ((-1000000000) - nI 1, (u2 s 122 1 (s 122 1 + nI 1))) := by
      unfold Y_thing
      refine (@if_pos _ (Classical.propDecidable _) (fun q => by first | exact absurd q.1 (by assumption) | exact absurd q.2 (by assumption)) _ _ _).trans ?_
      first | rfl | (rfl)
    exact xfin eY hCe1
  · skip
    obtain ⟨j1, Hj1, rfl⟩ := c1
    refine v_iload_n K dX9_thing_10 rfl ?_
    refine v_iconstN K 0 rfl dX9_thing_11 ?_
    refine v_bipushN K 30 rfl dX9_thing_12 ?_
    refine v_callS (As := [.int g, .int (nI 0), .int (nI 30)]) K (c_X9_within h g (nI 0) (nI 30)) lX9_65 rfl ⟨by decide, by decide⟩ (Nat.le_of_ble_eq_true rfl) dX9_thing_14 (fun r3 h3 hp3 => ?_) rfl
    obtain ⟨rfl, rfl⟩ := hp3
    refine v_some ?_
    rw [show (nI 0 ≤ g ∧ g ≤ nI 30) = ix g 31 from in_ix (by decide)]
    refine v_ifB_ne (tgt := 26) K dX9_thing_17 rfl (fun c2 => ?_) (fun c2 => ?_)
    · skip
      obtain ⟨j2, Hj2, rfl⟩ := c2
      refine v_aload_n K dX9_thing_26 rfl ?_
      refine v_getr (q := 1) K fX9_10 sh_0 pl_0 gl_0_0 dX9_thing_27 ?_
      refine v_getr (q := 2) K fX9_25 sh_1 pl_1 gl_1_0 dX9_thing_30 ?_
      refine v_geti (x := nI (ntD (s 119))) K fX9_123 sh_2 pl_2 (hC.W.1.oB.trans hd.nt) dX9_thing_33 ?_
      refine v_iconstN K 5 rfl dX9_thing_36 ?_
      refine v_icmpN_lt (tgt := 46) K (by omega) (by omega) dX9_thing_37 rfl (fun c3 => ?_) (fun c3 => ?_)
      · skip
        refine v_aload_n K dX9_thing_46 rfl ?_
        refine v_getr (q := 1) K fX9_10 sh_0 pl_0 gl_0_0 dX9_thing_47 ?_
        refine v_getr (q := 2) K fX9_25 sh_1 pl_1 gl_1_0 dX9_thing_50 ?_
        refine v_iload_n K dX9_thing_53 rfl ?_
        refine v_iload_n K dX9_thing_54 rfl ?_
        refine v_callV (As := [.int (nI j1), .int (nI j2)]) K (c_X1_addThing h 2 (s 119) (nI j1) (nI j2) hB_2 hC.W.1 hd (by omega)) lX9_126 ck_X1 rfl sh_2 pl_2 rfl ⟨by decide, by decide⟩ (Nat.le_of_ble_eq_true rfl) dX9_thing_55 (fun r4 h4 hp4 => ?_) rfl
        obtain ⟨rfl, hRq1, hFq1⟩ := hp4
        have hCq1 : CX cM h4 (rw2 s 119 (addTD (s 119) (nI j1) (nI j2))) τ τk := CX.lo hC hRq1 (hFq1.N (by omega) (by omega)) (fun i hi => addTD_off (by omega) hi)
        refine v_some ?_
        refine v_iret K dX9_thing_58 ?_
        have eY : Y_thing s (nI j1) (nI j2) = (nI (ntD (s 119)), (rw2 s 119 (addTD (s 119) (nI j1) (nI j2)))) := by
          unfold Y_thing
          refine (@if_neg _ (Classical.propDecidable _) (fun q => q (by refine ⟨?_, ?_⟩ <;> (first | assumption | exact ⟨_, by assumption, rfl⟩ | exact Or.inl rfl | exact Or.inr (Or.inl rfl) | exact Or.inr (Or.inr rfl) | omega))) _ _ _).trans ?_
          refine (@if_neg _ (Classical.propDecidable _) (by omega) _ _ _).trans ?_
          rfl
        exact xfin eY hCq1
      · skip
        refine v_aload_n K dX9_thing_40 rfl ?_
        refine v_iconstN K 4 rfl dX9_thing_41 ?_
        refine v_callV (As := [.int (nI 4)]) K (c_X9_error h 4 (by omega)) lX9_75 ck_X9 rfl sh_0 pl_0 rfl ⟨by decide, by decide⟩ (Nat.le_of_ble_eq_true rfl) dX9_thing_42 (fun r5 h5 hp5 => ?_) rfl
        obtain ⟨rfl, rfl⟩ := hp5
        refine v_some ?_
        have hCe2 : CX cM (u2 h 109 4 (h 109 4 + nI 1)) (u2 s 122 4 (s 122 4 + nI 1)) τ τk := CX.er hC (by omega) (by omega)
        refine v_iret K dX9_thing_45 ?_
        have eY : Y_thing s (nI j1) (nI j2) = ((-1000000000) - nI 4, (u2 s 122 4 (s 122 4 + nI 1))) := by
          unfold Y_thing
          refine (@if_neg _ (Classical.propDecidable _) (fun q => q (by refine ⟨?_, ?_⟩ <;> (first | assumption | exact ⟨_, by assumption, rfl⟩ | exact Or.inl rfl | exact Or.inr (Or.inl rfl) | exact Or.inr (Or.inr rfl) | omega))) _ _ _).trans ?_
          refine (@if_pos _ (Classical.propDecidable _) (by omega) _ _ _).trans ?_
          first | rfl | ((try rw [cl_ix (show j1 < 2 ^ 31 by omega)]) ; (try rw [cl_ix (show j2 < 2 ^ 31 by omega)]))
        exact xfin eY hCe2
    · skip
      refine v_aload_n K dX9_thing_20 rfl ?_
      refine v_iconstN K 1 rfl dX9_thing_21 ?_
      refine v_callV (As := [.int (nI 1)]) K (c_X9_error h 1 (by omega)) lX9_75 ck_X9 rfl sh_0 pl_0 rfl ⟨by decide, by decide⟩ (Nat.le_of_ble_eq_true rfl) dX9_thing_22 (fun r6 h6 hp6 => ?_) rfl
      obtain ⟨rfl, rfl⟩ := hp6
      refine v_some ?_
      have hCe3 : CX cM (u2 h 109 1 (h 109 1 + nI 1)) (u2 s 122 1 (s 122 1 + nI 1)) τ τk := CX.er hC (by omega) (by omega)
      refine v_iret K dX9_thing_25 ?_
      have eY : Y_thing s (nI j1) g = ((-1000000000) - nI 1, (u2 s 122 1 (s 122 1 + nI 1))) := by
        unfold Y_thing
        refine (@if_pos _ (Classical.propDecidable _) (fun q => by first | exact absurd q.1 (by assumption) | exact absurd q.2 (by assumption)) _ _ _).trans ?_
        first | rfl | ((try rw [cl_ix (show j1 < 2 ^ 31 by omega)]))
      exact xfin eY hCe3

abbrev P_X9_tell (cM h s : Mm) (τ τk : Nat → List Int32) (v : Int32) : Option Value → Mm → Prop := fun r h2 => r = some (.int (Y_tell s v).1) ∧ CX cM h2 (Y_tell s v).2 τ τk
theorem c_X9_tell {l : Launch} (cM h s : Mm) (τ τk : Nat → List Int32) (v : Int32) (hC : CX cM h s τ τk) (hI : INV s τ τk) : Con l yX9_tell cX9_tell 2 (some .int) 2 43 132 GL h [.ref 0, .int v] (P_X9_tell cM h s τ τk v) := by
  refine Con.ofV (own := "FoxRounds") (nm := "tell") rfl rfl (by decide) (Nat.le_of_ble_eq_true rfl) ?_
  intro κ ρ hkl K
  subst hkl
  show V κ (QM κ (132, ρ, GL, 0, 0) (P_X9_tell cM h s τ τk v)) 2 (132, ρ, GL, 0, 0) h 0 [(0, .ref 0), (1, .int v)] []
  have hd := hI.d
  have hn8 := hd.nw8
  have ht5 := hd.nt5
  obtain ⟨t14, h14, e14⟩ := hI.t14
  refine v_aload_n K dX9_tell_0 rfl ?_
  refine v_getr (q := 1) K fX9_10 sh_0 pl_0 gl_0_0 dX9_tell_1 ?_
  refine v_geti (x := nI t14) K fX9_318 sh_1 pl_1 (hC.W.2.2.2.2.2.1.trans e14) dX9_tell_4 ?_
  refine v_bipushN K 20 rfl dX9_tell_7 ?_
  refine v_icmpN_lt (tgt := 18) K (by omega) (by omega) dX9_tell_9 rfl (fun c1 => ?_) (fun c1 => ?_)
  · skip
    refine v_aload_n K dX9_tell_18 rfl ?_
    refine v_getr (q := 1) K fX9_10 sh_0 pl_0 gl_0_0 dX9_tell_19 ?_
    refine v_getr (q := 37) K fX9_321 sh_1 pl_1 gl_1_5 dX9_tell_22 ?_
    refine v_aload_n K dX9_tell_25 rfl ?_
    refine v_getr (q := 1) K fX9_10 sh_0 pl_0 gl_0_0 dX9_tell_26 ?_
    refine v_geti (x := nI t14) K fX9_318 sh_1 pl_1 (hC.W.2.2.2.2.2.1.trans e14) dX9_tell_29 ?_
    refine v_iload_n K dX9_tell_32 rfl ?_
    refine v_iast K sh_37 pl_37 (by omega) dX9_tell_33 ?_
    have hCx1 : CX cM (u2 h 37 t14 v) (u2 s 119 (114 + t14) v) τ τk := CX.w2 hC (WX.wt hC.W (by omega)) (by omega) (by omega)
    refine v_aload_n K dX9_tell_34 rfl ?_
    refine v_getr (q := 1) K fX9_10 sh_0 pl_0 gl_0_0 dX9_tell_35 ?_
    refine v_dup K dX9_tell_38 rfl ?_
    refine v_geti (x := nI t14) K fX9_318 sh_1 pl_1 ((hCx1.W.2.2.2.2.2.1.trans (u2_ne (by omega))).trans e14) dX9_tell_39 ?_
    refine v_iconstN K 1 rfl dX9_tell_42 ?_
    refine v_iaddN K dX9_tell_43 ?_
    refine v_puti K pX9_318 sh_1 pl_1 dX9_tell_44 ?_
    have hCx2 : CX cM (u2 (u2 h 37 t14 v) 1 6 (nI (t14 + 1))) (u2 (u2 s 119 (114 + t14) v) 119 14 (nI (t14 + 1))) τ τk := CX.w2 hCx1 (WX.o hCx1.W (by omega)) (by omega) (by omega)
    refine v_aload_n K dX9_tell_47 rfl ?_
    refine v_getr (q := 1) K fX9_10 sh_0 pl_0 gl_0_0 dX9_tell_48 ?_
    refine v_geti (x := nI (t14 + 1)) K fX9_318 sh_1 pl_1 (hCx2.W.2.2.2.2.2.1.trans u2_at) dX9_tell_51 ?_
    refine v_iret K dX9_tell_54 ?_
    have eY : Y_tell s v = (nI (t14 + 1), (u2 (u2 s 119 (114 + t14) v) 119 14 (nI (t14 + 1)))) := by
      unfold Y_tell
      refine (@if_neg _ (Classical.propDecidable _) (by rw [e14]; exact fun q => absurd (nI_inj (by omega) (by omega) q) (by omega)) _ _ _).trans ?_
      rw [e14, cl_ix (show t14 < 2 ^ 31 by omega), show nI t14 + nI 1 = nI (t14 + 1) from nI_add t14 1]
    exact xfin eY hCx2
  · skip
    refine v_aload_n K dX9_tell_12 rfl ?_
    refine v_iconstN K 4 rfl dX9_tell_13 ?_
    refine v_callV (As := [.int (nI 4)]) K (c_X9_error h 4 (by omega)) lX9_75 ck_X9 rfl sh_0 pl_0 rfl ⟨by decide, by decide⟩ (Nat.le_of_ble_eq_true rfl) dX9_tell_14 (fun r1 h1 hp1 => ?_) rfl
    obtain ⟨rfl, rfl⟩ := hp1
    refine v_some ?_
    have hCe1 : CX cM (u2 h 109 4 (h 109 4 + nI 1)) (u2 s 122 4 (s 122 4 + nI 1)) τ τk := CX.er hC (by omega) (by omega)
    refine v_iret K dX9_tell_17 ?_
    have eY : Y_tell s v = ((-1000000000) - nI 4, (u2 s 122 4 (s 122 4 + nI 1))) := by
      unfold Y_tell
      refine (@if_pos _ (Classical.propDecidable _) (by rw [e14]; congr 1; omega) _ _ _).trans ?_
      first | rfl | (rfl)
    exact xfin eY hCe1

abbrev P_X9_count (cM h s : Mm) (τ τk : Nat → List Int32) (k : Int32) : Option Value → Mm → Prop := fun r h2 => r = some (.int (Y_count s k).1) ∧ CX cM h2 (Y_count s k).2 τ τk
theorem c_X9_count {l : Launch} (cM h s : Mm) (τ τk : Nat → List Int32) (k : Int32) (hC : CX cM h s τ τk) (hI : INV s τ τk) : Con l yX9_count cX9_count 2 (some .int) 2 43 132 GL h [.ref 0, .int k] (P_X9_count cM h s τ τk k) := by
  refine Con.ofV (own := "FoxRounds") (nm := "count") rfl rfl (by decide) (Nat.le_of_ble_eq_true rfl) ?_
  intro κ ρ hkl K
  subst hkl
  show V κ (QM κ (132, ρ, GL, 0, 0) (P_X9_count cM h s τ τk k)) 2 (132, ρ, GL, 0, 0) h 0 [(0, .ref 0), (1, .int k)] []
  have hd := hI.d
  have hn8 := hd.nw8
  have ht5 := hd.nt5
  refine v_iload_n K dX9_count_0 rfl ?_
  rcases ixo_8 k with rfl | rfl | rfl | rfl | rfl | rfl | rfl | rfl | hout
  · skip
    refine v_tinN (off := 47) (tgt := 48) K (by decide) 0 dX9_count_1 (by decide) (by decide) (by decide) rfl rfl ?_
    refine v_aload_n K dX9_count_48 rfl ?_
    refine v_getr (q := 1) K fX9_10 sh_0 pl_0 gl_0_0 dX9_count_49 ?_
    refine v_getr (q := 2) K fX9_25 sh_1 pl_1 gl_1_0 dX9_count_52 ?_
    refine v_geti (x := s 119 8) K fX9_315 sh_2 pl_2 hC.W.1.o8 dX9_count_55 ?_
    refine v_iret K dX9_count_58 ?_
    have eY : Y_count s (nI 0) = (s 119 8, s) := by
      unfold Y_count
      refine (@if_pos _ (Classical.propDecidable _) rfl _ _ _).trans ?_
      first | rfl | ((try rw [cl_ix (show 0 < 2 ^ 31 by omega)]))
    exact xfin eY hC
  · skip
    refine v_tinN (off := 58) (tgt := 59) K (by decide) 1 dX9_count_1 (by decide) (by decide) (by decide) rfl rfl ?_
    refine v_aload_n K dX9_count_59 rfl ?_
    refine v_getr (q := 1) K fX9_10 sh_0 pl_0 gl_0_0 dX9_count_60 ?_
    refine v_getr (q := 2) K fX9_25 sh_1 pl_1 gl_1_0 dX9_count_63 ?_
    refine v_geti (x := s 119 10) K fX9_87 sh_2 pl_2 hC.W.1.oA dX9_count_66 ?_
    refine v_iret K dX9_count_69 ?_
    have eY : Y_count s (nI 1) = (s 119 10, s) := by
      unfold Y_count
      refine (@if_neg _ (Classical.propDecidable _) (by decide) _ _ _).trans ?_
      refine (@if_pos _ (Classical.propDecidable _) rfl _ _ _).trans ?_
      first | rfl | ((try rw [cl_ix (show 1 < 2 ^ 31 by omega)]))
    exact xfin eY hC
  · skip
    refine v_tinN (off := 69) (tgt := 70) K (by decide) 2 dX9_count_1 (by decide) (by decide) (by decide) rfl rfl ?_
    refine v_aload_n K dX9_count_70 rfl ?_
    refine v_getr (q := 1) K fX9_10 sh_0 pl_0 gl_0_0 dX9_count_71 ?_
    refine v_getr (q := 2) K fX9_25 sh_1 pl_1 gl_1_0 dX9_count_74 ?_
    refine v_geti (x := s 119 11) K fX9_123 sh_2 pl_2 hC.W.1.oB dX9_count_77 ?_
    refine v_iret K dX9_count_80 ?_
    have eY : Y_count s (nI 2) = (s 119 11, s) := by
      unfold Y_count
      refine (@if_neg _ (Classical.propDecidable _) (by decide) _ _ _).trans ?_
      refine (@if_neg _ (Classical.propDecidable _) (by decide) _ _ _).trans ?_
      refine (@if_pos _ (Classical.propDecidable _) rfl _ _ _).trans ?_
      first | rfl | ((try rw [cl_ix (show 2 < 2 ^ 31 by omega)]))
    exact xfin eY hC
  · skip
    refine v_tinN (off := 80) (tgt := 81) K (by decide) 3 dX9_count_1 (by decide) (by decide) (by decide) rfl rfl ?_
    refine v_aload_n K dX9_count_81 rfl ?_
    refine v_getr (q := 1) K fX9_10 sh_0 pl_0 gl_0_0 dX9_count_82 ?_
    refine v_getr (q := 2) K fX9_25 sh_1 pl_1 gl_1_0 dX9_count_85 ?_
    refine v_geti (x := s 119 9) K fX9_194 sh_2 pl_2 hC.W.1.o9 dX9_count_88 ?_
    refine v_iret K dX9_count_91 ?_
    have eY : Y_count s (nI 3) = (s 119 9, s) := by
      unfold Y_count
      refine (@if_neg _ (Classical.propDecidable _) (by decide) _ _ _).trans ?_
      refine (@if_neg _ (Classical.propDecidable _) (by decide) _ _ _).trans ?_
      refine (@if_neg _ (Classical.propDecidable _) (by decide) _ _ _).trans ?_
      refine (@if_pos _ (Classical.propDecidable _) rfl _ _ _).trans ?_
      first | rfl | ((try rw [cl_ix (show 3 < 2 ^ 31 by omega)]))
    exact xfin eY hC
  · skip
    refine v_tinN (off := 91) (tgt := 92) K (by decide) 4 dX9_count_1 (by decide) (by decide) (by decide) rfl rfl ?_
    refine v_aload_n K dX9_count_92 rfl ?_
    refine v_getr (q := 1) K fX9_10 sh_0 pl_0 gl_0_0 dX9_count_93 ?_
    refine v_geti (x := s 119 13) K fX9_139 sh_1 pl_1 hC.W.2.2.2.2.1 dX9_count_96 ?_
    refine v_iret K dX9_count_99 ?_
    have eY : Y_count s (nI 4) = (s 119 13, s) := by
      unfold Y_count
      refine (@if_neg _ (Classical.propDecidable _) (by decide) _ _ _).trans ?_
      refine (@if_neg _ (Classical.propDecidable _) (by decide) _ _ _).trans ?_
      refine (@if_neg _ (Classical.propDecidable _) (by decide) _ _ _).trans ?_
      refine (@if_neg _ (Classical.propDecidable _) (by decide) _ _ _).trans ?_
      refine (@if_pos _ (Classical.propDecidable _) rfl _ _ _).trans ?_
      first | rfl | ((try rw [cl_ix (show 4 < 2 ^ 31 by omega)]))
    exact xfin eY hC
  · skip
    refine v_tinN (off := 99) (tgt := 100) K (by decide) 5 dX9_count_1 (by decide) (by decide) (by decide) rfl rfl ?_
    refine v_aload_n K dX9_count_100 rfl ?_
    refine v_getr (q := 1) K fX9_10 sh_0 pl_0 gl_0_0 dX9_count_101 ?_
    refine v_geti (x := s 119 14) K fX9_318 sh_1 pl_1 hC.W.2.2.2.2.2.1 dX9_count_104 ?_
    refine v_iret K dX9_count_107 ?_
    have eY : Y_count s (nI 5) = (s 119 14, s) := by
      unfold Y_count
      refine (@if_neg _ (Classical.propDecidable _) (by decide) _ _ _).trans ?_
      refine (@if_neg _ (Classical.propDecidable _) (by decide) _ _ _).trans ?_
      refine (@if_neg _ (Classical.propDecidable _) (by decide) _ _ _).trans ?_
      refine (@if_neg _ (Classical.propDecidable _) (by decide) _ _ _).trans ?_
      refine (@if_neg _ (Classical.propDecidable _) (by decide) _ _ _).trans ?_
      refine (@if_pos _ (Classical.propDecidable _) rfl _ _ _).trans ?_
      first | rfl | ((try rw [cl_ix (show 5 < 2 ^ 31 by omega)]))
    exact xfin eY hC
  · skip
    refine v_tinN (off := 107) (tgt := 108) K (by decide) 6 dX9_count_1 (by decide) (by decide) (by decide) rfl rfl ?_
    refine v_aload_n K dX9_count_108 rfl ?_
    refine v_getr (q := 106) K fX9_50 sh_0 pl_0 gl_0_5 dX9_count_109 ?_
    refine v_geti (x := s 118 16) K fX9_281 sh_106 pl_106 hC.2.2.2.1.1 dX9_count_112 ?_
    refine v_iret K dX9_count_115 ?_
    have eY : Y_count s (nI 6) = (s 118 16, s) := by
      unfold Y_count
      refine (@if_neg _ (Classical.propDecidable _) (by decide) _ _ _).trans ?_
      refine (@if_neg _ (Classical.propDecidable _) (by decide) _ _ _).trans ?_
      refine (@if_neg _ (Classical.propDecidable _) (by decide) _ _ _).trans ?_
      refine (@if_neg _ (Classical.propDecidable _) (by decide) _ _ _).trans ?_
      refine (@if_neg _ (Classical.propDecidable _) (by decide) _ _ _).trans ?_
      refine (@if_neg _ (Classical.propDecidable _) (by decide) _ _ _).trans ?_
      refine (@if_pos _ (Classical.propDecidable _) rfl _ _ _).trans ?_
      first | rfl | ((try rw [cl_ix (show 6 < 2 ^ 31 by omega)]))
    exact xfin eY hC
  · skip
    refine v_tinN (off := 115) (tgt := 116) K (by decide) 7 dX9_count_1 (by decide) (by decide) (by decide) rfl rfl ?_
    refine v_aload_n K dX9_count_116 rfl ?_
    refine v_getr (q := 1) K fX9_10 sh_0 pl_0 gl_0_0 dX9_count_117 ?_
    refine v_geti (x := s 119 12) K fX9_275 sh_1 pl_1 hC.W.2.2.2.2.2.2 dX9_count_120 ?_
    refine v_iret K dX9_count_123 ?_
    have eY : Y_count s (nI 7) = (s 119 12, s) := by
      unfold Y_count
      refine (@if_neg _ (Classical.propDecidable _) (by decide) _ _ _).trans ?_
      refine (@if_neg _ (Classical.propDecidable _) (by decide) _ _ _).trans ?_
      refine (@if_neg _ (Classical.propDecidable _) (by decide) _ _ _).trans ?_
      refine (@if_neg _ (Classical.propDecidable _) (by decide) _ _ _).trans ?_
      refine (@if_neg _ (Classical.propDecidable _) (by decide) _ _ _).trans ?_
      refine (@if_neg _ (Classical.propDecidable _) (by decide) _ _ _).trans ?_
      refine (@if_neg _ (Classical.propDecidable _) (by decide) _ _ _).trans ?_
      refine (@if_pos _ (Classical.propDecidable _) rfl _ _ _).trans ?_
      first | rfl | ((try rw [cl_ix (show 7 < 2 ^ 31 by omega)]))
    exact xfin eY hC
  · skip
    refine v_tout (tgt := 124) K dX9_count_1 (by exact hout) rfl ?_
    refine v_aload_n K dX9_count_124 rfl ?_
    refine v_iconstN K 1 rfl dX9_count_125 ?_
    refine v_callV (As := [.int (nI 1)]) K (c_X9_error h 1 (by omega)) lX9_75 ck_X9 rfl sh_0 pl_0 rfl ⟨by decide, by decide⟩ (Nat.le_of_ble_eq_true rfl) dX9_count_126 (fun r1 h1 hp1 => ?_) rfl
    obtain ⟨rfl, rfl⟩ := hp1
    refine v_some ?_
    have hCe1 : CX cM (u2 h 109 1 (h 109 1 + nI 1)) (u2 s 122 1 (s 122 1 + nI 1)) τ τk := CX.er hC (by omega) (by omega)
    refine v_iret K dX9_count_129 ?_
    have eY : Y_count s k = ((-1000000000) - nI 1, (u2 s 122 1 (s 122 1 + nI 1))) := by
      unfold Y_count
      refine (@if_neg _ (Classical.propDecidable _) (fun q => by subst q; rw [nI_toInt (by decide)] at hout; omega) _ _ _).trans ?_
      refine (@if_neg _ (Classical.propDecidable _) (fun q => by subst q; rw [nI_toInt (by decide)] at hout; omega) _ _ _).trans ?_
      refine (@if_neg _ (Classical.propDecidable _) (fun q => by subst q; rw [nI_toInt (by decide)] at hout; omega) _ _ _).trans ?_
      refine (@if_neg _ (Classical.propDecidable _) (fun q => by subst q; rw [nI_toInt (by decide)] at hout; omega) _ _ _).trans ?_
      refine (@if_neg _ (Classical.propDecidable _) (fun q => by subst q; rw [nI_toInt (by decide)] at hout; omega) _ _ _).trans ?_
      refine (@if_neg _ (Classical.propDecidable _) (fun q => by subst q; rw [nI_toInt (by decide)] at hout; omega) _ _ _).trans ?_
      refine (@if_neg _ (Classical.propDecidable _) (fun q => by subst q; rw [nI_toInt (by decide)] at hout; omega) _ _ _).trans ?_
      refine (@if_neg _ (Classical.propDecidable _) (fun q => by subst q; rw [nI_toInt (by decide)] at hout; omega) _ _ _).trans ?_
      first | rfl | (rfl)
    exact xfin eY hCe1

abbrev P_X9_harm (cM h s : Mm) (τ τk : Nat → List Int32) (w : Int32) : Option Value → Mm → Prop := fun r h2 => r = some (.int (Y_harm s w).1) ∧ CX cM h2 (Y_harm s w).2 τ τk
theorem c_X9_harm {l : Launch} (cM h s : Mm) (τ τk : Nat → List Int32) (w : Int32) (hC : CX cM h s τ τk) (hI : INV s τ τk) : Con l yX9_harm cX9_harm 2 (some .int) 2 43 132 GL h [.ref 0, .int w] (P_X9_harm cM h s τ τk w) := by
  refine Con.ofV (own := "FoxRounds") (nm := "harm") rfl rfl (by decide) (Nat.le_of_ble_eq_true rfl) ?_
  intro κ ρ hkl K
  subst hkl
  show V κ (QM κ (132, ρ, GL, 0, 0) (P_X9_harm cM h s τ τk w)) 2 (132, ρ, GL, 0, 0) h 0 [(0, .ref 0), (1, .int w)] []
  have hd := hI.d
  have hn8 := hd.nw8
  have ht5 := hd.nt5
  refine v_iload_n K dX9_harm_0 rfl ?_
  refine v_iconstN K 0 rfl dX9_harm_1 ?_
  refine v_sipushN K 1439 rfl dX9_harm_2 ?_
  refine v_callS (As := [.int w, .int (nI 0), .int (nI 1439)]) K (c_X9_within h w (nI 0) (nI 1439)) lX9_65 rfl ⟨by decide, by decide⟩ (Nat.le_of_ble_eq_true rfl) dX9_harm_5 (fun r1 h1 hp1 => ?_) rfl
  obtain ⟨rfl, rfl⟩ := hp1
  refine v_some ?_
  rw [show (nI 0 ≤ w ∧ w ≤ nI 1439) = ix w 1440 from in_ix (by decide)]
  refine v_ifB_eq (tgt := 22) K dX9_harm_8 rfl (fun c1 => ?_) (fun c1 => ?_)
  · skip
    refine v_aload_n K dX9_harm_22 rfl ?_
    refine v_iconstN K 1 rfl dX9_harm_23 ?_
    refine v_callV (As := [.int (nI 1)]) K (c_X9_error h 1 (by omega)) lX9_75 ck_X9 rfl sh_0 pl_0 rfl ⟨by decide, by decide⟩ (Nat.le_of_ble_eq_true rfl) dX9_harm_24 (fun r2 h2 hp2 => ?_) rfl
    obtain ⟨rfl, rfl⟩ := hp2
    refine v_some ?_
    have hCe1 : CX cM (u2 h 109 1 (h 109 1 + nI 1)) (u2 s 122 1 (s 122 1 + nI 1)) τ τk := CX.er hC (by omega) (by omega)
    refine v_iret K dX9_harm_27 ?_
    have eY : Y_harm s w = ((-1000000000) - nI 1, (u2 s 122 1 (s 122 1 + nI 1))) := by
      unfold Y_harm
      refine (@if_neg _ (Classical.propDecidable _) (fun q => absurd q (by assumption)) _ _ _).trans ?_
      first | rfl | (rfl)
    exact xfin eY hCe1
  · skip
    obtain ⟨j1, Hj1, rfl⟩ := c1
    refine v_aload_n K dX9_harm_11 rfl ?_
    refine v_getr (q := 1) K fX9_10 sh_0 pl_0 gl_0_0 dX9_harm_12 ?_
    refine v_iload_n K dX9_harm_15 rfl ?_
    refine v_callV (As := [.int (nI j1)]) K (c_X8_harmAt cM h s τ τk (nI j1) hC) lX9_228 ck_X8 rfl sh_1 pl_1 rfl ⟨by decide, by decide⟩ (Nat.le_of_ble_eq_true rfl) dX9_harm_16 (fun r3 h3 hp3 => ?_) rfl
    obtain ⟨rfl, rfl⟩ := hp3
    refine v_some ?_
    refine v_goto (tgt := 27) K dX9_harm_19 rfl ?_
    refine v_iret K dX9_harm_27 ?_
    have eY : Y_harm s (nI j1) = (harmD (s 119) (nI j1) 12, s) := by
      unfold Y_harm
      refine (@if_pos _ (Classical.propDecidable _) (by first | assumption | exact ⟨_, by assumption, rfl⟩ | exact Or.inl rfl | exact Or.inr (Or.inl rfl) | exact Or.inr (Or.inr rfl) | omega) _ _ _).trans ?_
      first | rfl | ((try rw [cl_ix (show j1 < 2 ^ 31 by omega)]))
    exact xfin eY hC

abbrev P_X9_clock (cM h s : Mm) (τ τk : Nat → List Int32) : Option Value → Mm → Prop := fun r h2 => r = some (.int (Y_clock s ).1) ∧ CX cM h2 (Y_clock s ).2 τ τk
theorem c_X9_clock {l : Launch} (cM h s : Mm) (τ τk : Nat → List Int32) (hC : CX cM h s τ τk) (hI : INV s τ τk) : Con l yX9_clock cX9_clock 5 (some .int) 1 23 132 GL h [.ref 0] (P_X9_clock cM h s τ τk) := by
  refine Con.ofV (own := "FoxRounds") (nm := "clock") rfl rfl (by decide) (Nat.le_of_ble_eq_true rfl) ?_
  intro κ ρ hkl K
  subst hkl
  show V κ (QM κ (132, ρ, GL, 0, 0) (P_X9_clock cM h s τ τk)) 5 (132, ρ, GL, 0, 0) h 0 [(0, .ref 0)] []
  have hd := hI.d
  have hn8 := hd.nw8
  have ht5 := hd.nt5
  refine v_iconstN K 0 rfl dX9_clock_0 ?_
  refine v_istore_n (lv2 := [(1, .int (nI 0)), (0, .ref 0)]) K dX9_clock_1 (by decide) rfl ?_
  refine v_aload_n K dX9_clock_2 rfl ?_
  refine v_getr (q := 1) K fX9_10 sh_0 pl_0 gl_0_0 dX9_clock_3 ?_
  refine v_iconstN K 0 rfl dX9_clock_6 ?_
  refine v_callV (As := [.int (nI 0)]) K (c_X8_harmAt cM h s τ τk (nI 0) hC) lX9_228 ck_X8 rfl sh_1 pl_1 rfl ⟨by decide, by decide⟩ (Nat.le_of_ble_eq_true rfl) dX9_clock_7 (fun r1 h1 hp1 => ?_) rfl
  obtain ⟨rfl, rfl⟩ := hp1
  refine v_some ?_
  refine v_istore_n (lv2 := [(2, .int (harmD (s 119) (nI 0) 12)), (1, .int (nI 0)), (0, .ref 0)]) K dX9_clock_10 (by decide) rfl ?_
  refine v_iconstN K 1 rfl dX9_clock_11 ?_
  refine v_istore_n (lv2 := [(3, .int (nI 1)), (2, .int (harmD (s 119) (nI 0) 12)), (1, .int (nI 0)), (0, .ref 0)]) K dX9_clock_12 (by decide) rfl ?_
  have L13 : ∀ (mm : Nat) (b : Nat) (lst : Int32) (k : Nat) (hk : 1 ≤ k ∧ k ≤ 1440) (hb : bestM (s 119) (k - 1) = b ∧ lst = harmD (s 119) (nI b) 12), 1441 - k < mm → V κ (QM κ (132, ρ, GL, 0, 0) (P_X9_clock cM h s τ τk)) 5 (132, ρ, GL, 0, 0) h 13 [(0, .ref 0), (1, .int (nI b)), (2, .int lst), (3, .int (nI k))] [] := by
    intro mm
    induction mm with
    | zero => intro b lst k hk hb hmm; exact absurd hmm (Nat.not_lt_zero _)
    | succ mm ih13 =>
      intro b lst k hk hb hmm
      refine v_iload_n K dX9_clock_13 rfl ?_
      refine v_sipushN K 1440 rfl dX9_clock_14 ?_
      refine v_icmpN_ge (tgt := 47) K (by omega) (by omega) dX9_clock_17 rfl (fun c1 => ?_) (fun c1 => ?_)
      · skip
        refine v_iload_n K dX9_clock_47 rfl ?_
        refine v_iret K dX9_clock_48 ?_
        have eY : Y_clock s  = (nI b, s) := by
          unfold Y_clock
          rw [show (1439 : Nat) = k - 1 by omega, hb.1]
        exact xfin eY hC
      · skip
        refine v_aload_n K dX9_clock_20 rfl ?_
        refine v_getr (q := 1) K fX9_10 sh_0 pl_0 gl_0_0 dX9_clock_21 ?_
        refine v_iload_n K dX9_clock_24 rfl ?_
        refine v_callV (As := [.int (nI k)]) K (c_X8_harmAt cM h s τ τk (nI k) hC) lX9_228 ck_X8 rfl sh_1 pl_1 rfl ⟨by decide, by decide⟩ (Nat.le_of_ble_eq_true rfl) dX9_clock_25 (fun r2 h2 hp2 => ?_) rfl
        obtain ⟨rfl, rfl⟩ := hp2
        refine v_some ?_
        refine v_istore (lv2 := [(4, .int (harmD (s 119) (nI k) 12)), (0, .ref 0), (1, .int (nI b)), (2, .int lst), (3, .int (nI k))]) K dX9_clock_28 (by decide) rfl ?_
        refine v_iload K dX9_clock_30 rfl ?_
        refine v_iload_n K dX9_clock_32 rfl ?_
        refine v_icmp_ge (tgt := 41) K dX9_clock_33 rfl (fun c2 => ?_) (fun c2 => ?_)
        · skip
          refine v_iincN (lv2 := [(3, .int (nI (k + 1))), (4, .int (harmD (s 119) (nI k) 12)), (0, .ref 0), (1, .int (nI b)), (2, .int lst)]) K 1 dX9_clock_41 rfl rfl (by decide) rfl ?_
          refine v_goto (tgt := 13) K dX9_clock_44 rfl ?_
          refine v_sub (lv2 := [(0, .ref 0), (1, .int (nI b)), (2, .int lst), (3, .int (nI (k + 1)))]) (by simp) ?_
          exact ih13 b lst (k + 1) (by omega) (by rw [show k + 1 - 1 = (k - 1) + 1 by omega, bestM, hb.1, show k - 1 + 1 = k by omega]; exact ⟨if_neg (by rw [← hb.2]; exact Int32.not_lt.mpr c2), hb.2⟩) (by omega)
        · skip
          refine v_iload_n K dX9_clock_36 rfl ?_
          refine v_istore_n (lv2 := [(1, .int (nI k)), (4, .int (harmD (s 119) (nI k) 12)), (0, .ref 0), (2, .int lst), (3, .int (nI k))]) K dX9_clock_37 (by decide) rfl ?_
          refine v_iload K dX9_clock_38 rfl ?_
          refine v_istore_n (lv2 := [(2, .int (harmD (s 119) (nI k) 12)), (1, .int (nI k)), (4, .int (harmD (s 119) (nI k) 12)), (0, .ref 0), (3, .int (nI k))]) K dX9_clock_40 (by decide) rfl ?_
          refine v_iincN (lv2 := [(3, .int (nI (k + 1))), (2, .int (harmD (s 119) (nI k) 12)), (1, .int (nI k)), (4, .int (harmD (s 119) (nI k) 12)), (0, .ref 0)]) K 1 dX9_clock_41 rfl rfl (by decide) rfl ?_
          refine v_goto (tgt := 13) K dX9_clock_44 rfl ?_
          refine v_sub (lv2 := [(0, .ref 0), (1, .int (nI k)), (2, .int (harmD (s 119) (nI k) 12)), (3, .int (nI (k + 1)))]) (by simp) ?_
          exact ih13 k (harmD (s 119) (nI k) 12) (k + 1) (by omega) (by rw [show k + 1 - 1 = (k - 1) + 1 by omega, bestM, hb.1, show k - 1 + 1 = k by omega]; exact ⟨if_pos (by rw [← hb.2]; exact Int32.not_le.mp c2), rfl⟩) (by omega)
  refine v_sub (lv2 := [(0, .ref 0), (1, .int (nI 0)), (2, .int (harmD (s 119) (nI 0) 12)), (3, .int (nI 1))]) (by simp) ?_
  exact L13 (1441 - 1 + 1) 0 (harmD (s 119) (nI 0) 12) 1 (by omega) (by exact ⟨rfl, rfl⟩) (Nat.lt_succ_self _)

abbrev P_X9_yard (cM h s : Mm) (τ τk : Nat → List Int32) (w p u v : Int32) : Option Value → Mm → Prop := fun r h2 => r = some (.int (Y_yard s w p u v).1) ∧ CX cM h2 (Y_yard s w p u v).2 τ τk
theorem c_X9_yard {l : Launch} (cM h s : Mm) (τ τk : Nat → List Int32) (w p u v : Int32) (hC : CX cM h s τ τk) (hI : INV s τ τk) : Con l yX9_yard cX9_yard 7 (some .int) 2 43 132 GL h [.ref 0, .int w, .int p, .int u, .int v] (P_X9_yard cM h s τ τk w p u v) := by
  refine Con.ofV (own := "FoxRounds") (nm := "yard") rfl rfl (by decide) (Nat.le_of_ble_eq_true rfl) ?_
  intro κ ρ hkl K
  subst hkl
  show V κ (QM κ (132, ρ, GL, 0, 0) (P_X9_yard cM h s τ τk w p u v)) 7 (132, ρ, GL, 0, 0) h 0 [(0, .ref 0), (1, .int w), (2, .int p), (3, .int u), (4, .int v)] []
  have hd := hI.d
  have hn8 := hd.nw8
  have ht5 := hd.nt5
  refine v_iload_n K dX9_yard_0 rfl ?_
  refine v_iconstN K 0 rfl dX9_yard_1 ?_
  refine v_bipushN K 99 rfl dX9_yard_2 ?_
  refine v_callS (As := [.int p, .int (nI 0), .int (nI 99)]) K (c_X9_within h p (nI 0) (nI 99)) lX9_65 rfl ⟨by decide, by decide⟩ (Nat.le_of_ble_eq_true rfl) dX9_yard_4 (fun r1 h1 hp1 => ?_) rfl
  obtain ⟨rfl, rfl⟩ := hp1
  refine v_some ?_
  rw [show (nI 0 ≤ p ∧ p ≤ nI 99) = ix p 100 from in_ix (by decide)]
  refine v_ifB_eq (tgt := 24) K dX9_yard_7 rfl (fun c1 => ?_) (fun c1 => ?_)
  · skip
    refine v_iconstN K 0 rfl dX9_yard_24 ?_
    refine v_istore (lv2 := [(5, .int (nI 0)), (0, .ref 0), (1, .int w), (2, .int p), (3, .int u), (4, .int v)]) K dX9_yard_25 (by decide) rfl ?_
    refine v_iload_n K dX9_yard_27 rfl ?_
    refine v_iconstN K 0 rfl dX9_yard_28 ?_
    refine v_iconstN K 5 rfl dX9_yard_29 ?_
    refine v_callS (As := [.int w, .int (nI 0), .int (nI 5)]) K (c_X9_within h w (nI 0) (nI 5)) lX9_65 rfl ⟨by decide, by decide⟩ (Nat.le_of_ble_eq_true rfl) dX9_yard_30 (fun r2 h2 hp2 => ?_) rfl
    obtain ⟨rfl, rfl⟩ := hp2
    refine v_some ?_
    rw [show (nI 0 ≤ w ∧ w ≤ nI 5) = ix w 6 from in_ix (by decide)]
    refine v_ifB_eq (tgt := 51) K dX9_yard_33 rfl (fun c2 => ?_) (fun c2 => ?_)
    · skip
      refine v_aload_n K dX9_yard_51 rfl ?_
      refine v_iconstN K 1 rfl dX9_yard_52 ?_
      refine v_callV (As := [.int (nI 1)]) K (c_X9_error h 1 (by omega)) lX9_75 ck_X9 rfl sh_0 pl_0 rfl ⟨by decide, by decide⟩ (Nat.le_of_ble_eq_true rfl) dX9_yard_53 (fun r3 h3 hp3 => ?_) rfl
      obtain ⟨rfl, rfl⟩ := hp3
      refine v_some ?_
      have hCe1 : CX cM (u2 h 109 1 (h 109 1 + nI 1)) (u2 s 122 1 (s 122 1 + nI 1)) τ τk := CX.er hC (by omega) (by omega)
      refine v_iret K dX9_yard_56 ?_
      have eY : Y_yard s w p u v = ((-1000000000) - nI 1, (u2 s 122 1 (s 122 1 + nI 1))) := by
        unfold Y_yard
        refine (@if_neg _ (Classical.propDecidable _) (fun q => by first | exact absurd q.1 (by assumption) | exact absurd q.2.1 (by assumption) | exact absurd q.2.2.1 (by assumption) | exact absurd q.2.2.2 (by assumption)) _ _ _).trans ?_
        first | rfl | (rfl)
      exact xfin eY hCe1
    · skip
      obtain ⟨j1, Hj1, rfl⟩ := c2
      refine v_iload K dX9_yard_36 rfl ?_
      refine v_ifN_eq (tgt := 51) K (by omega) dX9_yard_38 rfl (fun c3 => ?_) (fun c3 => ?_)
      · skip
        refine v_aload_n K dX9_yard_51 rfl ?_
        refine v_iconstN K 1 rfl dX9_yard_52 ?_
        refine v_callV (As := [.int (nI 1)]) K (c_X9_error h 1 (by omega)) lX9_75 ck_X9 rfl sh_0 pl_0 rfl ⟨by decide, by decide⟩ (Nat.le_of_ble_eq_true rfl) dX9_yard_53 (fun r4 h4 hp4 => ?_) rfl
        obtain ⟨rfl, rfl⟩ := hp4
        refine v_some ?_
        have hCe2 : CX cM (u2 h 109 1 (h 109 1 + nI 1)) (u2 s 122 1 (s 122 1 + nI 1)) τ τk := CX.er hC (by omega) (by omega)
        refine v_iret K dX9_yard_56 ?_
        have eY : Y_yard s (nI j1) p u v = ((-1000000000) - nI 1, (u2 s 122 1 (s 122 1 + nI 1))) := by
          unfold Y_yard
          refine (@if_neg _ (Classical.propDecidable _) (fun q => by first | exact absurd q.1 (by assumption) | exact absurd q.2.1 (by assumption) | exact absurd q.2.2.1 (by assumption) | exact absurd q.2.2.2 (by assumption)) _ _ _).trans ?_
          first | rfl | ((try rw [cl_ix (show j1 < 2 ^ 31 by omega)]))
        exact xfin eY hCe2
      · exact absurd c3 (by decide)
  · skip
    obtain ⟨j2, Hj2, rfl⟩ := c1
    refine v_iload_n K dX9_yard_10 rfl ?_
    refine v_iconstN K 0 rfl dX9_yard_11 ?_
    refine v_bipushN K 99 rfl dX9_yard_12 ?_
    refine v_callS (As := [.int u, .int (nI 0), .int (nI 99)]) K (c_X9_within h u (nI 0) (nI 99)) lX9_65 rfl ⟨by decide, by decide⟩ (Nat.le_of_ble_eq_true rfl) dX9_yard_14 (fun r5 h5 hp5 => ?_) rfl
    obtain ⟨rfl, rfl⟩ := hp5
    refine v_some ?_
    rw [show (nI 0 ≤ u ∧ u ≤ nI 99) = ix u 100 from in_ix (by decide)]
    refine v_ifB_eq (tgt := 24) K dX9_yard_17 rfl (fun c4 => ?_) (fun c4 => ?_)
    · skip
      refine v_iconstN K 0 rfl dX9_yard_24 ?_
      refine v_istore (lv2 := [(5, .int (nI 0)), (0, .ref 0), (1, .int w), (2, .int (nI j2)), (3, .int u), (4, .int v)]) K dX9_yard_25 (by decide) rfl ?_
      refine v_iload_n K dX9_yard_27 rfl ?_
      refine v_iconstN K 0 rfl dX9_yard_28 ?_
      refine v_iconstN K 5 rfl dX9_yard_29 ?_
      refine v_callS (As := [.int w, .int (nI 0), .int (nI 5)]) K (c_X9_within h w (nI 0) (nI 5)) lX9_65 rfl ⟨by decide, by decide⟩ (Nat.le_of_ble_eq_true rfl) dX9_yard_30 (fun r6 h6 hp6 => ?_) rfl
      obtain ⟨rfl, rfl⟩ := hp6
      refine v_some ?_
      rw [show (nI 0 ≤ w ∧ w ≤ nI 5) = ix w 6 from in_ix (by decide)]
      refine v_ifB_eq (tgt := 51) K dX9_yard_33 rfl (fun c5 => ?_) (fun c5 => ?_)
      · skip
        refine v_aload_n K dX9_yard_51 rfl ?_
        refine v_iconstN K 1 rfl dX9_yard_52 ?_
        refine v_callV (As := [.int (nI 1)]) K (c_X9_error h 1 (by omega)) lX9_75 ck_X9 rfl sh_0 pl_0 rfl ⟨by decide, by decide⟩ (Nat.le_of_ble_eq_true rfl) dX9_yard_53 (fun r7 h7 hp7 => ?_) rfl
        obtain ⟨rfl, rfl⟩ := hp7
        refine v_some ?_
        have hCe3 : CX cM (u2 h 109 1 (h 109 1 + nI 1)) (u2 s 122 1 (s 122 1 + nI 1)) τ τk := CX.er hC (by omega) (by omega)
        refine v_iret K dX9_yard_56 ?_
        have eY : Y_yard s w (nI j2) u v = ((-1000000000) - nI 1, (u2 s 122 1 (s 122 1 + nI 1))) := by
          unfold Y_yard
          refine (@if_neg _ (Classical.propDecidable _) (fun q => by first | exact absurd q.1 (by assumption) | exact absurd q.2.1 (by assumption) | exact absurd q.2.2.1 (by assumption) | exact absurd q.2.2.2 (by assumption)) _ _ _).trans ?_
          first | rfl | ((try rw [cl_ix (show j2 < 2 ^ 31 by omega)]))
        exact xfin eY hCe3
      · skip
        obtain ⟨j3, Hj3, rfl⟩ := c5
        refine v_iload K dX9_yard_36 rfl ?_
        refine v_ifN_eq (tgt := 51) K (by omega) dX9_yard_38 rfl (fun c6 => ?_) (fun c6 => ?_)
        · skip
          refine v_aload_n K dX9_yard_51 rfl ?_
          refine v_iconstN K 1 rfl dX9_yard_52 ?_
          refine v_callV (As := [.int (nI 1)]) K (c_X9_error h 1 (by omega)) lX9_75 ck_X9 rfl sh_0 pl_0 rfl ⟨by decide, by decide⟩ (Nat.le_of_ble_eq_true rfl) dX9_yard_53 (fun r8 h8 hp8 => ?_) rfl
          obtain ⟨rfl, rfl⟩ := hp8
          refine v_some ?_
          have hCe4 : CX cM (u2 h 109 1 (h 109 1 + nI 1)) (u2 s 122 1 (s 122 1 + nI 1)) τ τk := CX.er hC (by omega) (by omega)
          refine v_iret K dX9_yard_56 ?_
          have eY : Y_yard s (nI j3) (nI j2) u v = ((-1000000000) - nI 1, (u2 s 122 1 (s 122 1 + nI 1))) := by
            unfold Y_yard
            refine (@if_neg _ (Classical.propDecidable _) (fun q => by first | exact absurd q.1 (by assumption) | exact absurd q.2.1 (by assumption) | exact absurd q.2.2.1 (by assumption) | exact absurd q.2.2.2 (by assumption)) _ _ _).trans ?_
            first | rfl | ((try rw [cl_ix (show j3 < 2 ^ 31 by omega)]) ; (try rw [cl_ix (show j2 < 2 ^ 31 by omega)]))
          exact xfin eY hCe4
        · exact absurd c6 (by decide)
    · skip
      obtain ⟨j4, Hj4, rfl⟩ := c4
      refine v_iconstN K 1 rfl dX9_yard_20 ?_
      refine v_goto (tgt := 25) K dX9_yard_21 rfl ?_
      refine v_istore (lv2 := [(5, .int (nI 1)), (0, .ref 0), (1, .int w), (2, .int (nI j2)), (3, .int (nI j4)), (4, .int v)]) K dX9_yard_25 (by decide) rfl ?_
      refine v_iload_n K dX9_yard_27 rfl ?_
      refine v_iconstN K 0 rfl dX9_yard_28 ?_
      refine v_iconstN K 5 rfl dX9_yard_29 ?_
      refine v_callS (As := [.int w, .int (nI 0), .int (nI 5)]) K (c_X9_within h w (nI 0) (nI 5)) lX9_65 rfl ⟨by decide, by decide⟩ (Nat.le_of_ble_eq_true rfl) dX9_yard_30 (fun r9 h9 hp9 => ?_) rfl
      obtain ⟨rfl, rfl⟩ := hp9
      refine v_some ?_
      rw [show (nI 0 ≤ w ∧ w ≤ nI 5) = ix w 6 from in_ix (by decide)]
      refine v_ifB_eq (tgt := 51) K dX9_yard_33 rfl (fun c7 => ?_) (fun c7 => ?_)
      · skip
        refine v_aload_n K dX9_yard_51 rfl ?_
        refine v_iconstN K 1 rfl dX9_yard_52 ?_
        refine v_callV (As := [.int (nI 1)]) K (c_X9_error h 1 (by omega)) lX9_75 ck_X9 rfl sh_0 pl_0 rfl ⟨by decide, by decide⟩ (Nat.le_of_ble_eq_true rfl) dX9_yard_53 (fun r10 h10 hp10 => ?_) rfl
        obtain ⟨rfl, rfl⟩ := hp10
        refine v_some ?_
        have hCe5 : CX cM (u2 h 109 1 (h 109 1 + nI 1)) (u2 s 122 1 (s 122 1 + nI 1)) τ τk := CX.er hC (by omega) (by omega)
        refine v_iret K dX9_yard_56 ?_
        have eY : Y_yard s w (nI j2) (nI j4) v = ((-1000000000) - nI 1, (u2 s 122 1 (s 122 1 + nI 1))) := by
          unfold Y_yard
          refine (@if_neg _ (Classical.propDecidable _) (fun q => by first | exact absurd q.1 (by assumption) | exact absurd q.2.1 (by assumption) | exact absurd q.2.2.1 (by assumption) | exact absurd q.2.2.2 (by assumption)) _ _ _).trans ?_
          first | rfl | ((try rw [cl_ix (show j2 < 2 ^ 31 by omega)]) ; (try rw [cl_ix (show j4 < 2 ^ 31 by omega)]))
        exact xfin eY hCe5
      · skip
        obtain ⟨j5, Hj5, rfl⟩ := c7
        refine v_iload K dX9_yard_36 rfl ?_
        refine v_ifN_eq (tgt := 51) K (by omega) dX9_yard_38 rfl (fun c8 => ?_) (fun c8 => ?_)
        · exact absurd c8 (by decide)
        · skip
          refine v_iload K dX9_yard_41 rfl ?_
          refine v_iconstN K 0 rfl dX9_yard_43 ?_
          refine v_iconstN K 1 rfl dX9_yard_44 ?_
          refine v_callS (As := [.int v, .int (nI 0), .int (nI 1)]) K (c_X9_within h v (nI 0) (nI 1)) lX9_65 rfl ⟨by decide, by decide⟩ (Nat.le_of_ble_eq_true rfl) dX9_yard_45 (fun r11 h11 hp11 => ?_) rfl
          obtain ⟨rfl, rfl⟩ := hp11
          refine v_some ?_
          rw [show (nI 0 ≤ v ∧ v ≤ nI 1) = ix v 2 from in_ix (by decide)]
          refine v_ifB_ne (tgt := 57) K dX9_yard_48 rfl (fun c9 => ?_) (fun c9 => ?_)
          · skip
            obtain ⟨j6, Hj6, rfl⟩ := c9
            refine v_aload_n K dX9_yard_57 rfl ?_
            refine v_getr (q := 1) K fX9_10 sh_0 pl_0 gl_0_0 dX9_yard_58 ?_
            refine v_getr (q := 31) K fX9_243 sh_1 pl_1 gl_1_2 dX9_yard_61 ?_
            refine v_getr (q := 32) K fX9_247 sh_31 pl_31 gl_31_0 dX9_yard_64 ?_
            refine v_iload_n K dX9_yard_67 rfl ?_
            refine v_iald (x := s 119 (28 + 3 * j5)) K sh_32 pl_32 (by omega) (hC.W.Y (by omega)).1 dX9_yard_68 ?_
            refine v_istore (lv2 := [(6, .int (s 119 (28 + 3 * j5))), (5, .int (nI 1)), (0, .ref 0), (1, .int (nI j5)), (2, .int (nI j2)), (3, .int (nI j4)), (4, .int (nI j6))]) K dX9_yard_69 (by decide) rfl ?_
            refine v_aload_n K dX9_yard_71 rfl ?_
            refine v_getr (q := 1) K fX9_10 sh_0 pl_0 gl_0_0 dX9_yard_72 ?_
            refine v_getr (q := 31) K fX9_243 sh_1 pl_1 gl_1_2 dX9_yard_75 ?_
            refine v_getr (q := 32) K fX9_247 sh_31 pl_31 gl_31_0 dX9_yard_78 ?_
            refine v_iload_n K dX9_yard_81 rfl ?_
            refine v_iload_n K dX9_yard_82 rfl ?_
            refine v_iast K sh_32 pl_32 (by omega) dX9_yard_83 ?_
            have hCx1 : CX cM (u2 h 32 j5 (nI j2)) (u2 s 119 (28 + 3 * j5) (nI j2)) τ τk := CX.w2 hC (WX.yd hC.W (by omega) (by omega)) (by omega) (by omega)
            refine v_aload_n K dX9_yard_84 rfl ?_
            refine v_getr (q := 1) K fX9_10 sh_0 pl_0 gl_0_0 dX9_yard_85 ?_
            refine v_getr (q := 31) K fX9_243 sh_1 pl_1 gl_1_2 dX9_yard_88 ?_
            refine v_getr (q := 33) K fX9_252 sh_31 pl_31 gl_31_1 dX9_yard_91 ?_
            refine v_iload_n K dX9_yard_94 rfl ?_
            refine v_iload_n K dX9_yard_95 rfl ?_
            refine v_iast K sh_33 pl_33 (by omega) dX9_yard_96 ?_
            have hCx2 : CX cM (u2 (u2 h 32 j5 (nI j2)) 33 j5 (nI j4)) (u2 (u2 s 119 (28 + 3 * j5) (nI j2)) 119 (28 + 3 * j5 + 1) (nI j4)) τ τk := CX.w2 hCx1 (WX.yd hCx1.W (by omega) (by omega)) (by omega) (by omega)
            refine v_aload_n K dX9_yard_97 rfl ?_
            refine v_getr (q := 1) K fX9_10 sh_0 pl_0 gl_0_0 dX9_yard_98 ?_
            refine v_getr (q := 31) K fX9_243 sh_1 pl_1 gl_1_2 dX9_yard_101 ?_
            refine v_getr (q := 34) K fX9_255 sh_31 pl_31 gl_31_2 dX9_yard_104 ?_
            refine v_iload_n K dX9_yard_107 rfl ?_
            refine v_iload K dX9_yard_108 rfl ?_
            refine v_iast K sh_34 pl_34 (by omega) dX9_yard_110 ?_
            have hCx3 : CX cM (u2 (u2 (u2 h 32 j5 (nI j2)) 33 j5 (nI j4)) 34 j5 (nI j6)) (u2 (u2 (u2 s 119 (28 + 3 * j5) (nI j2)) 119 (28 + 3 * j5 + 1) (nI j4)) 119 (28 + 3 * j5 + 2) (nI j6)) τ τk := CX.w2 hCx2 (WX.yd hCx2.W (by omega) (by omega)) (by omega) (by omega)
            refine v_iload K dX9_yard_111 rfl ?_
            refine v_iret K dX9_yard_113 ?_
            have eY : Y_yard s (nI j5) (nI j2) (nI j4) (nI j6) = (s 119 (28 + 3 * j5), (u2 (u2 (u2 s 119 (28 + 3 * j5) (nI j2)) 119 (28 + 3 * j5 + 1) (nI j4)) 119 (28 + 3 * j5 + 2) (nI j6))) := by
              unfold Y_yard
              refine (@if_pos _ (Classical.propDecidable _) (by refine ⟨?_, ?_, ?_, ?_⟩ <;> (first | assumption | exact ⟨_, by assumption, rfl⟩ | exact Or.inl rfl | exact Or.inr (Or.inl rfl) | exact Or.inr (Or.inr rfl) | omega)) _ _ _).trans ?_
              first | rfl | ((try rw [cl_ix (show j5 < 2 ^ 31 by omega)]) ; (try rw [cl_ix (show j2 < 2 ^ 31 by omega)]) ; (try rw [cl_ix (show j4 < 2 ^ 31 by omega)]) ; (try rw [cl_ix (show j6 < 2 ^ 31 by omega)]))
            exact xfin eY hCx3
          · skip
            refine v_aload_n K dX9_yard_51 rfl ?_
            refine v_iconstN K 1 rfl dX9_yard_52 ?_
            refine v_callV (As := [.int (nI 1)]) K (c_X9_error h 1 (by omega)) lX9_75 ck_X9 rfl sh_0 pl_0 rfl ⟨by decide, by decide⟩ (Nat.le_of_ble_eq_true rfl) dX9_yard_53 (fun r12 h12 hp12 => ?_) rfl
            obtain ⟨rfl, rfl⟩ := hp12
            refine v_some ?_
            have hCe6 : CX cM (u2 h 109 1 (h 109 1 + nI 1)) (u2 s 122 1 (s 122 1 + nI 1)) τ τk := CX.er hC (by omega) (by omega)
            refine v_iret K dX9_yard_56 ?_
            have eY : Y_yard s (nI j5) (nI j2) (nI j4) v = ((-1000000000) - nI 1, (u2 s 122 1 (s 122 1 + nI 1))) := by
              unfold Y_yard
              refine (@if_neg _ (Classical.propDecidable _) (fun q => by first | exact absurd q.1 (by assumption) | exact absurd q.2.1 (by assumption) | exact absurd q.2.2.1 (by assumption) | exact absurd q.2.2.2 (by assumption)) _ _ _).trans ?_
              first | rfl | ((try rw [cl_ix (show j5 < 2 ^ 31 by omega)]) ; (try rw [cl_ix (show j2 < 2 ^ 31 by omega)]) ; (try rw [cl_ix (show j4 < 2 ^ 31 by omega)]))
            exact xfin eY hCe6

abbrev P_X9_told (cM h s : Mm) (τ τk : Nat → List Int32) (k : Int32) : Option Value → Mm → Prop := fun r h2 => r = some (.int (Y_told s k).1) ∧ CX cM h2 (Y_told s k).2 τ τk
theorem c_X9_told {l : Launch} (cM h s : Mm) (τ τk : Nat → List Int32) (k : Int32) (hC : CX cM h s τ τk) (hI : INV s τ τk) : Con l yX9_told cX9_told 2 (some .int) 2 43 132 GL h [.ref 0, .int k] (P_X9_told cM h s τ τk k) := by
  refine Con.ofV (own := "FoxRounds") (nm := "told") rfl rfl (by decide) (Nat.le_of_ble_eq_true rfl) ?_
  intro κ ρ hkl K
  subst hkl
  show V κ (QM κ (132, ρ, GL, 0, 0) (P_X9_told cM h s τ τk k)) 2 (132, ρ, GL, 0, 0) h 0 [(0, .ref 0), (1, .int k)] []
  have hd := hI.d
  have hn8 := hd.nw8
  have ht5 := hd.nt5
  refine v_iload_n K dX9_told_0 rfl ?_
  refine v_iconstN K 1 rfl dX9_told_1 ?_
  refine v_iconstN K 5 rfl dX9_told_2 ?_
  refine v_callS (As := [.int k, .int (nI 1), .int (nI 5)]) K (c_X9_within h k (nI 1) (nI 5)) lX9_65 rfl ⟨by decide, by decide⟩ (Nat.le_of_ble_eq_true rfl) dX9_told_3 (fun r1 h1 hp1 => ?_) rfl
  obtain ⟨rfl, rfl⟩ := hp1
  refine v_some ?_
  refine v_ifB_eq (tgt := 18) K dX9_told_6 rfl (fun c1 => ?_) (fun c1 => ?_)
  · skip
    refine v_aload_n K dX9_told_18 rfl ?_
    refine v_iconstN K 1 rfl dX9_told_19 ?_
    refine v_callV (As := [.int (nI 1)]) K (c_X9_error h 1 (by omega)) lX9_75 ck_X9 rfl sh_0 pl_0 rfl ⟨by decide, by decide⟩ (Nat.le_of_ble_eq_true rfl) dX9_told_20 (fun r2 h2 hp2 => ?_) rfl
    obtain ⟨rfl, rfl⟩ := hp2
    refine v_some ?_
    have hCe1 : CX cM (u2 h 109 1 (h 109 1 + nI 1)) (u2 s 122 1 (s 122 1 + nI 1)) τ τk := CX.er hC (by omega) (by omega)
    refine v_iret K dX9_told_23 ?_
    have eY : Y_told s k = ((-1000000000) - nI 1, (u2 s 122 1 (s 122 1 + nI 1))) := by
      unfold Y_told
      refine (@if_neg _ (Classical.propDecidable _) (by assumption) _ _ _).trans ?_
      first | rfl | (rfl)
    exact xfin eY hCe1
  · skip
    have c15 := c1
    obtain ⟨j, hj1, hj6, rfl⟩ := in15 c1
    refine v_aload_n K dX9_told_9 rfl ?_
    refine v_getr (q := 109) K fX9_60 sh_0 pl_0 gl_0_7 dX9_told_10 ?_
    refine v_iload_n K dX9_told_13 rfl ?_
    refine v_iald (x := s 122 j) K sh_109 pl_109 (by omega) (hC.2.2.1 _ (by omega) (by omega)) dX9_told_14 ?_
    refine v_goto (tgt := 23) K dX9_told_15 rfl ?_
    refine v_iret K dX9_told_23 ?_
    have eY : Y_told s (nI j) = (s 122 j, s) := by
      unfold Y_told
      refine (@if_pos _ (Classical.propDecidable _) c15 _ _ _).trans ?_
      first | rfl | ((try rw [cl_ix (show j < 2 ^ 31 by omega)]))
    exact xfin eY hC
