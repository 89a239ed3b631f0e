theorem loss_b {τ : Nat → List Int32} {d : Dm} : ∀ (m k x : Nat), lossF τ d m k = some x → k ≤ x ∧ x < k + m
  | 0, k, x, h => by cases h
  | m + 1, k, x, h => by
    by_cases c : d 9 < nightsD τ d k 9
    · rw [loss_y c] at h; have := Option.some.inj h; omega
    · rw [loss_n c] at h; have := loss_b m (k + 1) x h; omega
theorem m1_lt {i : Int32} (h1 : (-1) ≤ i) (h2 : i < 0) : i = (-1) := by
  rw [i32_le, show (-1 : Int32).toInt = -1 from rfl] at h1
  rw [i32_lt, show (0 : Int32).toInt = 0 from rfl] at h2
  rw [i32_eq, show (-1 : Int32).toInt = -1 from rfl]; omega
theorem CX.N78 {c h h2 s : Mm} {τ τk : Nat → List Int32} (H : CX c h s τ τk) (F : FrN 78 h h2) : CX c h2 s τ τk := H.sc F.A.S

abbrev P_X9_then (cM h s : Mm) (τ τk : Nat → List Int32) (n k : Int32) : Option Value → Mm → Prop := fun r h2 => r = some (.int (Y_then s τ n k).1) ∧ CX cM h2 (Y_then s τ n k).2 τ τk
theorem c_X9_then {l : Launch} (cM h s : Mm) (τ τk : Nat → List Int32) (n k : Int32) (hC : CX cM h s τ τk) (hI : INV s τ τk) : Con l yX9_then cX9_then 4 (some .int) 6 142 132 GL h [.ref 0, .int n, .int k] (P_X9_then cM h s τ τk n k) := by
  refine Con.ofV (own := "FoxRounds") (nm := "then") rfl rfl (by decide) (Nat.le_of_ble_eq_true rfl) ?_
  intro κ ρ hkl K
  subst hkl
  show V κ (QM κ (132, ρ, GL, 0, 0) (P_X9_then cM h s τ τk n k)) 4 (132, ρ, GL, 0, 0) h 0 [(0, .ref 0), (1, .int n), (2, .int k)] []
  have hd := hI.d
  have hn8 := hd.nw8
  have ht5 := hd.nt5
  refine v_iload_n K dX9_then_0 rfl ?_
  refine v_iconstN K 0 rfl dX9_then_1 ?_
  refine v_bipushN K 60 rfl dX9_then_2 ?_
  refine v_callS (As := [.int n, .int (nI 0), .int (nI 60)]) K (c_X9_within h n (nI 0) (nI 60)) lX9_65 rfl ⟨by decide, by decide⟩ (Nat.le_of_ble_eq_true rfl) dX9_then_4 (fun r1 h1 hp1 => ?_) rfl
  obtain ⟨rfl, rfl⟩ := hp1
  refine v_some ?_
  rw [show (nI 0 ≤ n ∧ n ≤ nI 60) = ix n 61 from in_ix (by decide)]
  refine v_ifB_eq (tgt := 19) K dX9_then_7 rfl (fun c1 => ?_) (fun c1 => ?_)
  · skip
    refine v_aload_n K dX9_then_19 rfl ?_
    refine v_iconstN K 1 rfl dX9_then_20 ?_
    refine v_callV (As := [.int (nI 1)]) K (c_X9_error h 1 (by omega)) lX9_75 ck_X9 rfl sh_0 pl_0 rfl ⟨by decide, by decide⟩ (Nat.le_of_ble_eq_true rfl) dX9_then_21 (fun r2 h2 hp2 => ?_) rfl
    obtain ⟨rfl, rfl⟩ := hp2
    refine v_some ?_
    have hCe1 : CX cM (u2 h 109 1 (h 109 1 + nI 1)) (u2 s 122 1 (s 122 1 + nI 1)) τ τk := CX.er hC (by omega) (by omega)
    refine v_iret K dX9_then_24 ?_
    have eY : Y_then s τ n k = ((-1000000000) - nI 1, (u2 s 122 1 (s 122 1 + nI 1))) := by
      unfold Y_then
      refine (@if_neg _ (Classical.propDecidable _) (fun q => by first | exact absurd q.1 (by assumption) | exact absurd q.2 (by assumption)) _ _ _).trans ?_
      first | rfl | (rfl)
    exact xfin eY hCe1
  · skip
    obtain ⟨j1, Hj1, rfl⟩ := c1
    refine v_iload_n K dX9_then_10 rfl ?_
    refine v_iconstN K 0 rfl dX9_then_11 ?_
    refine v_iconstN K 5 rfl dX9_then_12 ?_
    refine v_callS (As := [.int k, .int (nI 0), .int (nI 5)]) K (c_X9_within h k (nI 0) (nI 5)) lX9_65 rfl ⟨by decide, by decide⟩ (Nat.le_of_ble_eq_true rfl) dX9_then_13 (fun r3 h3 hp3 => ?_) rfl
    obtain ⟨rfl, rfl⟩ := hp3
    refine v_some ?_
    rw [show (nI 0 ≤ k ∧ k ≤ nI 5) = ix k 6 from in_ix (by decide)]
    refine v_ifB_ne (tgt := 25) K dX9_then_16 rfl (fun c2 => ?_) (fun c2 => ?_)
    · skip
      obtain ⟨j2, Hj2, rfl⟩ := c2
      refine v_aload_n K dX9_then_25 rfl ?_
      refine v_getr (q := 77) K fX9_36 sh_0 pl_0 gl_0_3 dX9_then_26 ?_
      refine v_iload_n K dX9_then_29 rfl ?_
      refine v_callV (As := [.int (nI j1)]) K (c_X0_goOn h (s 119) τ j1 hC.W.1 hd hI.1.2.2 hC.W.2.1 (by omega)) lX9_190 ck_X0 rfl sh_77 pl_77 rfl ⟨by decide, by decide⟩ (Nat.le_of_ble_eq_true rfl) dX9_then_30 (fun r4 h4 hp4 => ?_) rfl
      obtain ⟨rfl, hRz, hxz, hez⟩ := hp4
      have hCz : CX cM h4 s τ τk := CX.N78 hC hxz.2.2
      refine v_some ?_
      refine v_astore_n (lv2 := [(3, .ref 78), (0, .ref 0), (1, .int (nI j1)), (2, .int (nI j2))]) K dX9_then_33 (by decide) rfl ?_
      refine v_iload_n K dX9_then_34 rfl ?_
      obtain rfl | rfl | rfl | rfl | rfl | rfl : j2 = 0 ∨ j2 = 1 ∨ j2 = 2 ∨ j2 = 3 ∨ j2 = 4 ∨ j2 = 5 := by omega
      · skip
        refine v_tinN (off := 33) (tgt := 68) K (by decide) 0 dX9_then_35 (by decide) (by decide) (by decide) rfl rfl ?_
        refine v_aload_n K dX9_then_68 rfl ?_
        refine v_getr (q := 79) K fX9_79 sh_78 pl_78 gl_78_0 dX9_then_69 ?_
        refine v_iconstN K 0 rfl dX9_then_72 ?_
        refine v_iald (x := (nightsD τ (s 119) j1) 0) K sh_79 pl_79 (by omega) (hRz.n (by decide)) dX9_then_73 ?_
        refine v_iret K dX9_then_74 ?_
        have eY : Y_then s τ (nI j1) (nI 0) = ((nightsD τ (s 119) j1) 0, s) := by
          unfold Y_then
          refine (@if_pos _ (Classical.propDecidable _) (by refine ⟨?_, ?_⟩ <;> (first | assumption | exact ⟨_, by assumption, rfl⟩ | exact Or.inl rfl | exact Or.inr (Or.inl rfl) | exact Or.inr (Or.inr rfl) | omega)) _ _ _).trans ?_
          (rw [cl_ix (show j1 < 2 ^ 31 by omega)]; rfl)
        exact xfin eY hCz
      · skip
        refine v_tinN (off := 40) (tgt := 75) K (by decide) 1 dX9_then_35 (by decide) (by decide) (by decide) rfl rfl ?_
        refine v_aload_n K dX9_then_75 rfl ?_
        refine v_geti (x := (nightsD τ (s 119) j1) 9) K fX9_194 sh_78 pl_78 hRz.o9 dX9_then_76 ?_
        refine v_iret K dX9_then_79 ?_
        have eY : Y_then s τ (nI j1) (nI 1) = ((nightsD τ (s 119) j1) 9, s) := by
          unfold Y_then
          refine (@if_pos _ (Classical.propDecidable _) (by refine ⟨?_, ?_⟩ <;> (first | assumption | exact ⟨_, by assumption, rfl⟩ | exact Or.inl rfl | exact Or.inr (Or.inl rfl) | exact Or.inr (Or.inr rfl) | omega)) _ _ _).trans ?_
          (rw [cl_ix (show j1 < 2 ^ 31 by omega)]; rfl)
        exact xfin eY hCz
      · skip
        refine v_tinN (off := 45) (tgt := 80) K (by decide) 2 dX9_then_35 (by decide) (by decide) (by decide) rfl rfl ?_
        refine v_aload_n K dX9_then_80 rfl ?_
        refine v_getr (q := 79) K fX9_79 sh_78 pl_78 gl_78_0 dX9_then_81 ?_
        refine v_iconstN K 2 rfl dX9_then_84 ?_
        refine v_iald (x := (nightsD τ (s 119) j1) 2) K sh_79 pl_79 (by omega) (hRz.n (by decide)) dX9_then_85 ?_
        refine v_iret K dX9_then_86 ?_
        have eY : Y_then s τ (nI j1) (nI 2) = ((nightsD τ (s 119) j1) 2, s) := by
          unfold Y_then
          refine (@if_pos _ (Classical.propDecidable _) (by refine ⟨?_, ?_⟩ <;> (first | assumption | exact ⟨_, by assumption, rfl⟩ | exact Or.inl rfl | exact Or.inr (Or.inl rfl) | exact Or.inr (Or.inr rfl) | omega)) _ _ _).trans ?_
          (rw [cl_ix (show j1 < 2 ^ 31 by omega)]; rfl)
        exact xfin eY hCz
      · skip
        refine v_tinN (off := 52) (tgt := 87) K (by decide) 3 dX9_then_35 (by decide) (by decide) (by decide) rfl rfl ?_
        refine v_aload_n K dX9_then_87 rfl ?_
        refine v_getr (q := 79) K fX9_79 sh_78 pl_78 gl_78_0 dX9_then_88 ?_
        refine v_iconstN K 3 rfl dX9_then_91 ?_
        refine v_iald (x := (nightsD τ (s 119) j1) 3) K sh_79 pl_79 (by omega) (hRz.n (by decide)) dX9_then_92 ?_
        refine v_iret K dX9_then_93 ?_
        have eY : Y_then s τ (nI j1) (nI 3) = ((nightsD τ (s 119) j1) 3, s) := by
          unfold Y_then
          refine (@if_pos _ (Classical.propDecidable _) (by refine ⟨?_, ?_⟩ <;> (first | assumption | exact ⟨_, by assumption, rfl⟩ | exact Or.inl rfl | exact Or.inr (Or.inl rfl) | exact Or.inr (Or.inr rfl) | omega)) _ _ _).trans ?_
          (rw [cl_ix (show j1 < 2 ^ 31 by omega)]; rfl)
        exact xfin eY hCz
      · skip
        refine v_tinN (off := 59) (tgt := 94) K (by decide) 4 dX9_then_35 (by decide) (by decide) (by decide) rfl rfl ?_
        refine v_aload_n K dX9_then_94 rfl ?_
        refine v_callV (As := []) K (c_X1_fear h4 78 (nightsD τ (s 119) j1) hB_78 hRz (hd.nights _)) lX9_197 ck_X1 rfl sh_78 pl_78 rfl ⟨by decide, by decide⟩ (Nat.le_of_ble_eq_true rfl) dX9_then_95 (fun r5 h5 hp5 => ?_) rfl
        obtain ⟨rfl, rfl⟩ := hp5
        refine v_some ?_
        refine v_iret K dX9_then_98 ?_
        have eY : Y_then s τ (nI j1) (nI 4) = (fearD (nightsD τ (s 119) j1), s) := by
          unfold Y_then
          refine (@if_pos _ (Classical.propDecidable _) (by refine ⟨?_, ?_⟩ <;> (first | assumption | exact ⟨_, by assumption, rfl⟩ | exact Or.inl rfl | exact Or.inr (Or.inl rfl) | exact Or.inr (Or.inr rfl) | omega)) _ _ _).trans ?_
          (rw [cl_ix (show j1 < 2 ^ 31 by omega)]; rfl)
        exact xfin eY hCz
      · skip
        refine v_toutN (tgt := 99) K (by decide) dX9_then_35 (by decide) rfl ?_
        refine v_aload_n K dX9_then_99 rfl ?_
        refine v_callV (As := []) K (c_X1_boldness h4 78 (nightsD τ (s 119) j1) hB_78 hRz (hd.nights _)) lX9_135 ck_X1 rfl sh_78 pl_78 rfl ⟨by decide, by decide⟩ (Nat.le_of_ble_eq_true rfl) dX9_then_100 (fun r6 h6 hp6 => ?_) rfl
        obtain ⟨rfl, rfl⟩ := hp6
        refine v_some ?_
        refine v_iret K dX9_then_103 ?_
        have eY : Y_then s τ (nI j1) (nI 5) = (boldD (nightsD τ (s 119) j1), s) := by
          unfold Y_then
          refine (@if_pos _ (Classical.propDecidable _) (by refine ⟨?_, ?_⟩ <;> (first | assumption | exact ⟨_, by assumption, rfl⟩ | exact Or.inl rfl | exact Or.inr (Or.inl rfl) | exact Or.inr (Or.inr rfl) | omega)) _ _ _).trans ?_
          (rw [cl_ix (show j1 < 2 ^ 31 by omega)]; rfl)
        exact xfin eY hCz
    · skip
      refine v_aload_n K dX9_then_19 rfl ?_
      refine v_iconstN K 1 rfl dX9_then_20 ?_
      refine v_callV (As := [.int (nI 1)]) K (c_X9_error h 1 (by omega)) lX9_75 ck_X9 rfl sh_0 pl_0 rfl ⟨by decide, by decide⟩ (Nat.le_of_ble_eq_true rfl) dX9_then_21 (fun r7 h7 hp7 => ?_) rfl
      obtain ⟨rfl, rfl⟩ := hp7
      refine v_some ?_
      have hCe2 : CX cM (u2 h 109 1 (h 109 1 + nI 1)) (u2 s 122 1 (s 122 1 + nI 1)) τ τk := CX.er hC (by omega) (by omega)
      refine v_iret K dX9_then_24 ?_
      have eY : Y_then s τ (nI j1) k = ((-1000000000) - nI 1, (u2 s 122 1 (s 122 1 + nI 1))) := by
        unfold Y_then
        refine (@if_neg _ (Classical.propDecidable _) (fun q => by first | exact absurd q.1 (by assumption) | exact absurd q.2 (by assumption)) _ _ _).trans ?_
        first | rfl | ((try rw [cl_ix (show j1 < 2 ^ 31 by omega)]))
      exact xfin eY hCe2

abbrev P_X9_thenWay (cM h s : Mm) (τ τk : Nat → List Int32) (n w k : Int32) : Option Value → Mm → Prop := fun r h2 => r = some (.int (Y_thenWay s τ n w k).1) ∧ CX cM h2 (Y_thenWay s τ n w k).2 τ τk
theorem c_X9_thenWay {l : Launch} (cM h s : Mm) (τ τk : Nat → List Int32) (n w k : Int32) (hC : CX cM h s τ τk) (hI : INV s τ τk) : Con l yX9_thenWay cX9_thenWay 4 (some .int) 6 142 132 GL h [.ref 0, .int n, .int w, .int k] (P_X9_thenWay cM h s τ τk n w k) := by
  refine Con.ofV (own := "FoxRounds") (nm := "thenWay") rfl rfl (by decide) (Nat.le_of_ble_eq_true rfl) ?_
  intro κ ρ hkl K
  subst hkl
  show V κ (QM κ (132, ρ, GL, 0, 0) (P_X9_thenWay cM h s τ τk n w k)) 4 (132, ρ, GL, 0, 0) h 0 [(0, .ref 0), (1, .int n), (2, .int w), (3, .int k)] []
  have hd := hI.d
  have hn8 := hd.nw8
  have ht5 := hd.nt5
  refine v_iload_n K dX9_thenWay_0 rfl ?_
  refine v_iconstN K 0 rfl dX9_thenWay_1 ?_
  refine v_bipushN K 60 rfl dX9_thenWay_2 ?_
  refine v_callS (As := [.int n, .int (nI 0), .int (nI 60)]) K (c_X9_within h n (nI 0) (nI 60)) lX9_65 rfl ⟨by decide, by decide⟩ (Nat.le_of_ble_eq_true rfl) dX9_thenWay_4 (fun r1 h1 hp1 => ?_) rfl
  obtain ⟨rfl, rfl⟩ := hp1
  refine v_some ?_
  rw [show (nI 0 ≤ n ∧ n ≤ nI 60) = ix n 61 from in_ix (by decide)]
  refine v_ifB_eq (tgt := 34) K dX9_thenWay_7 rfl (fun c1 => ?_) (fun c1 => ?_)
  · skip
    refine v_aload_n K dX9_thenWay_34 rfl ?_
    refine v_iconstN K 1 rfl dX9_thenWay_35 ?_
    refine v_callV (As := [.int (nI 1)]) K (c_X9_error h 1 (by omega)) lX9_75 ck_X9 rfl sh_0 pl_0 rfl ⟨by decide, by decide⟩ (Nat.le_of_ble_eq_true rfl) dX9_thenWay_36 (fun r2 h2 hp2 => ?_) rfl
    obtain ⟨rfl, rfl⟩ := hp2
    refine v_some ?_
    have hCe1 : CX cM (u2 h 109 1 (h 109 1 + nI 1)) (u2 s 122 1 (s 122 1 + nI 1)) τ τk := CX.er hC (by omega) (by omega)
    refine v_iret K dX9_thenWay_39 ?_
    have eY : Y_thenWay s τ n w k = ((-1000000000) - nI 1, (u2 s 122 1 (s 122 1 + nI 1))) := by
      unfold Y_thenWay
      refine (@if_neg _ (Classical.propDecidable _) (fun q => by first | exact absurd q.1 (by assumption) | exact absurd q.2.1 (by assumption) | exact absurd q.2.2 (by assumption)) _ _ _).trans ?_
      first | rfl | (rfl)
    exact xfin eY hCe1
  · skip
    obtain ⟨j1, Hj1, rfl⟩ := c1
    refine v_aload_n K dX9_thenWay_10 rfl ?_
    refine v_getr (q := 1) K fX9_10 sh_0 pl_0 gl_0_0 dX9_thenWay_11 ?_
    refine v_getr (q := 2) K fX9_25 sh_1 pl_1 gl_1_0 dX9_thenWay_14 ?_
    refine v_iload_n K dX9_thenWay_17 rfl ?_
    refine v_callV (As := [.int w]) K (c_X1_hasWay h 2 (s 119) w hB_2 hC.W.1 hd) lX9_94 ck_X1 rfl sh_2 pl_2 rfl ⟨by decide, by decide⟩ (Nat.le_of_ble_eq_true rfl) dX9_thenWay_18 (fun r3 h3 hp3 => ?_) rfl
    obtain ⟨rfl, rfl⟩ := hp3
    refine v_some ?_
    refine v_ifB_eq (tgt := 34) K dX9_thenWay_21 rfl (fun c2 => ?_) (fun c2 => ?_)
    · skip
      refine v_aload_n K dX9_thenWay_34 rfl ?_
      refine v_iconstN K 1 rfl dX9_thenWay_35 ?_
      refine v_callV (As := [.int (nI 1)]) K (c_X9_error h 1 (by omega)) lX9_75 ck_X9 rfl sh_0 pl_0 rfl ⟨by decide, by decide⟩ (Nat.le_of_ble_eq_true rfl) dX9_thenWay_36 (fun r4 h4 hp4 => ?_) rfl
      obtain ⟨rfl, rfl⟩ := hp4
      refine v_some ?_
      have hCe2 : CX cM (u2 h 109 1 (h 109 1 + nI 1)) (u2 s 122 1 (s 122 1 + nI 1)) τ τk := CX.er hC (by omega) (by omega)
      refine v_iret K dX9_thenWay_39 ?_
      have eY : Y_thenWay s τ (nI j1) w k = ((-1000000000) - nI 1, (u2 s 122 1 (s 122 1 + nI 1))) := by
        unfold Y_thenWay
        refine (@if_neg _ (Classical.propDecidable _) (fun q => by first | exact absurd q.1 (by assumption) | exact absurd q.2.1 (by assumption) | exact absurd q.2.2 (by assumption)) _ _ _).trans ?_
        first | rfl | ((try rw [cl_ix (show j1 < 2 ^ 31 by omega)]))
      exact xfin eY hCe2
    · skip
      obtain ⟨j2, Hj2, rfl⟩ := c2
      refine v_iload_n K dX9_thenWay_24 rfl ?_
      refine v_iconstN K 0 rfl dX9_thenWay_25 ?_
      refine v_bipushN K 6 rfl dX9_thenWay_26 ?_
      refine v_callS (As := [.int k, .int (nI 0), .int (nI 6)]) K (c_X9_within h k (nI 0) (nI 6)) lX9_65 rfl ⟨by decide, by decide⟩ (Nat.le_of_ble_eq_true rfl) dX9_thenWay_28 (fun r5 h5 hp5 => ?_) rfl
      obtain ⟨rfl, rfl⟩ := hp5
      refine v_some ?_
      rw [show (nI 0 ≤ k ∧ k ≤ nI 6) = ix k 7 from in_ix (by decide)]
      refine v_ifB_ne (tgt := 40) K dX9_thenWay_31 rfl (fun c3 => ?_) (fun c3 => ?_)
      · skip
        obtain ⟨j3, Hj3, rfl⟩ := c3
        refine v_aload_n K dX9_thenWay_40 rfl ?_
        refine v_getr (q := 77) K fX9_36 sh_0 pl_0 gl_0_3 dX9_thenWay_41 ?_
        refine v_iload_n K dX9_thenWay_44 rfl ?_
        refine v_callV (As := [.int (nI j1)]) K (c_X0_goOn h (s 119) τ j1 hC.W.1 hd hI.1.2.2 hC.W.2.1 (by omega)) lX9_190 ck_X0 rfl sh_77 pl_77 rfl ⟨by decide, by decide⟩ (Nat.le_of_ble_eq_true rfl) dX9_thenWay_45 (fun r6 h6 hp6 => ?_) rfl
        obtain ⟨rfl, hRz, hxz, hez⟩ := hp6
        have hCz : CX cM h6 s τ τk := CX.N78 hC hxz.2.2
        refine v_some ?_
        refine v_iload_n K dX9_thenWay_48 rfl ?_
        refine v_iload_n K dX9_thenWay_49 rfl ?_
        refine v_callV (As := [.int (nI j2), .int (nI j3)]) K (c_X1_wayPart h6 78 (nightsD τ (s 119) j1) j2 j3 hB_78 hRz (hd.nights _) (by omega) (by omega)) lX9_98 ck_X1 rfl sh_78 pl_78 rfl ⟨by decide, by decide⟩ (Nat.le_of_ble_eq_true rfl) dX9_thenWay_50 (fun r7 h7 hp7 => ?_) rfl
        obtain ⟨rfl, rfl⟩ := hp7
        refine v_some ?_
        refine v_iret K dX9_thenWay_53 ?_
        have eY : Y_thenWay s τ (nI j1) (nI j2) (nI j3) = (partD (nightsD τ (s 119) j1) j2 j3, s) := by
          unfold Y_thenWay
          refine (@if_pos _ (Classical.propDecidable _) (by refine ⟨?_, ?_, ?_⟩ <;> (first | assumption | exact ⟨_, by assumption, rfl⟩ | exact Or.inl rfl | exact Or.inr (Or.inl rfl) | exact Or.inr (Or.inr rfl) | omega)) _ _ _).trans ?_
          (rw [cl_ix (show j1 < 2 ^ 31 by omega), cl_ix (show j2 < 2 ^ 31 by omega), cl_ix (show j3 < 2 ^ 31 by omega)])
        exact xfin eY hCz
      · skip
        refine v_aload_n K dX9_thenWay_34 rfl ?_
        refine v_iconstN K 1 rfl dX9_thenWay_35 ?_
        refine v_callV (As := [.int (nI 1)]) K (c_X9_error h 1 (by omega)) lX9_75 ck_X9 rfl sh_0 pl_0 rfl ⟨by decide, by decide⟩ (Nat.le_of_ble_eq_true rfl) dX9_thenWay_36 (fun r8 h8 hp8 => ?_) rfl
        obtain ⟨rfl, rfl⟩ := hp8
        refine v_some ?_
        have hCe3 : CX cM (u2 h 109 1 (h 109 1 + nI 1)) (u2 s 122 1 (s 122 1 + nI 1)) τ τk := CX.er hC (by omega) (by omega)
        refine v_iret K dX9_thenWay_39 ?_
        have eY : Y_thenWay s τ (nI j1) (nI j2) k = ((-1000000000) - nI 1, (u2 s 122 1 (s 122 1 + nI 1))) := by
          unfold Y_thenWay
          refine (@if_neg _ (Classical.propDecidable _) (fun q => by first | exact absurd q.1 (by assumption) | exact absurd q.2.1 (by assumption) | exact absurd q.2.2 (by assumption)) _ _ _).trans ?_
          first | rfl | ((try rw [cl_ix (show j1 < 2 ^ 31 by omega)]) ; (try rw [cl_ix (show j2 < 2 ^ 31 by omega)]))
        exact xfin eY hCe3

abbrev P_X9_by (cM h s : Mm) (τ τk : Nat → List Int32) : Option Value → Mm → Prop := fun r h2 => r = some (.int (Y_by s τ).1) ∧ CX cM h2 (Y_by s τ).2 τ τk
theorem c_X9_by {l : Launch} (cM h s : Mm) (τ τk : Nat → List Int32) (hC : CX cM h s τ τk) (hI : INV s τ τk) : Con l yX9_by cX9_by 1 (some .int) 6 142 132 GL h [.ref 0] (P_X9_by cM h s τ τk) := by
  refine Con.ofV (own := "FoxRounds") (nm := "by") rfl rfl (by decide) (Nat.le_of_ble_eq_true rfl) ?_
  intro κ ρ hkl K
  subst hkl
  show V κ (QM κ (132, ρ, GL, 0, 0) (P_X9_by cM h s τ τk)) 1 (132, ρ, GL, 0, 0) h 0 [(0, .ref 0)] []
  have hd := hI.d
  have hn8 := hd.nw8
  have ht5 := hd.nt5
  refine v_aload_n K dX9_by_0 rfl ?_
  refine v_getr (q := 77) K fX9_36 sh_0 pl_0 gl_0_3 dX9_by_1 ?_
  refine v_iconstN K 1 rfl dX9_by_4 ?_
  refine v_callV (As := [.int (nI 1)]) K (c_X0_goOn h (s 119) τ 1 hC.W.1 hd hI.1.2.2 hC.W.2.1 (by omega)) lX9_190 ck_X0 rfl sh_77 pl_77 rfl ⟨by decide, by decide⟩ (Nat.le_of_ble_eq_true rfl) dX9_by_5 (fun r1 h1 hp1 => ?_) rfl
  obtain ⟨rfl, hRz, hxz, hez⟩ := hp1
  have hCz : CX cM h1 s τ τk := CX.N78 hC hxz.2.2
  refine v_some ?_
  refine v_geti (x := byD τ (nightsD τ (s 119) 0)) K fX9_203 sh_78 pl_78 (hez 0 rfl) dX9_by_8 ?_
  refine v_iret K dX9_by_11 ?_
  have eY : Y_by s τ = (byD τ (nightsD τ (s 119) 0), s) := by
    unfold Y_by
    first | rfl | (rfl)
  exact xfin eY hCz

abbrev P_X9_loss (cM h s : Mm) (τ τk : Nat → List Int32) (n : Int32) : Option Value → Mm → Prop := fun r h2 => r = some (.int (Y_loss s τ n).1) ∧ CX cM h2 (Y_loss s τ n).2 τ τk
theorem c_X9_loss {l : Launch} (cM h s : Mm) (τ τk : Nat → List Int32) (n : Int32) (hC : CX cM h s τ τk) (hI : INV s τ τk) : Con l yX9_loss cX9_loss 3 (some .int) 6 142 132 GL h [.ref 0, .int n] (P_X9_loss cM h s τ τk n) := by
  refine Con.ofV (own := "FoxRounds") (nm := "loss") rfl rfl (by decide) (Nat.le_of_ble_eq_true rfl) ?_
  intro κ ρ hkl K
  subst hkl
  show V κ (QM κ (132, ρ, GL, 0, 0) (P_X9_loss cM h s τ τk n)) 3 (132, ρ, GL, 0, 0) h 0 [(0, .ref 0), (1, .int n)] []
  have hd := hI.d
  have hn8 := hd.nw8
  have ht5 := hd.nt5
  refine v_iload_n K dX9_loss_0 rfl ?_
  refine v_iconstN K 1 rfl dX9_loss_1 ?_
  refine v_bipushN K 60 rfl dX9_loss_2 ?_
  refine v_callS (As := [.int n, .int (nI 1), .int (nI 60)]) K (c_X9_within h n (nI 1) (nI 60)) lX9_65 rfl ⟨by decide, by decide⟩ (Nat.le_of_ble_eq_true rfl) dX9_loss_4 (fun r1 h1 hp1 => ?_) rfl
  obtain ⟨rfl, rfl⟩ := hp1
  refine v_some ?_
  refine v_ifB_ne (tgt := 16) K dX9_loss_7 rfl (fun c1 => ?_) (fun c1 => ?_)
  · skip
    have c0 := c1
    obtain ⟨j, hj1, hjn, rfl⟩ := in_lo (n := 60) (by decide) c1
    refine v_aload_n K dX9_loss_16 rfl ?_
    refine v_getr (q := 77) K fX9_36 sh_0 pl_0 gl_0_3 dX9_loss_17 ?_
    refine v_iload_n K dX9_loss_20 rfl ?_
    refine v_callV (As := [.int (nI j)]) K (c_X0_firstLoss h (s 119) τ j hC.W.1 hd hI.1.2.2 hC.W.2.1 (by omega)) lX9_200 ck_X0 rfl sh_77 pl_77 rfl ⟨by decide, by decide⟩ (Nat.le_of_ble_eq_true rfl) dX9_loss_21 (fun r2 h2 hp2 => ?_) rfl
    obtain ⟨rfl, hxz⟩ := hp2
    have hCz : CX cM h2 s τ τk := CX.N78 hC hxz.2.2
    obtain ⟨o, ho⟩ : ∃ o, o = lossF τ (s 119) j 1 := ⟨_, rfl⟩
    rw [← ho]
    refine v_some ?_
    rcases o with _ | x
    · skip
      refine v_top (y := nI 0) rfl ?_
      refine v_istore_n (lv2 := [(2, .int (nI 0)), (0, .ref 0), (1, .int (nI j))]) K dX9_loss_24 (by decide) rfl ?_
      refine v_iload_n K dX9_loss_25 rfl ?_
      refine v_ifN_le (tgt := 33) K (by omega) dX9_loss_26 rfl (fun c2 => ?_) (fun c2 => ?_)
      · skip
        refine v_aload_n K dX9_loss_33 rfl ?_
        refine v_iconstN K 2 rfl dX9_loss_34 ?_
        refine v_callV (As := [.int (nI 2)]) K (c_X9_error h2 2 (by omega)) lX9_75 ck_X9 rfl sh_0 pl_0 rfl ⟨by decide, by decide⟩ (Nat.le_of_ble_eq_true rfl) dX9_loss_35 (fun r3 h3 hp3 => ?_) rfl
        obtain ⟨rfl, rfl⟩ := hp3
        refine v_some ?_
        have hCe1 : CX cM (u2 h2 109 2 (h2 109 2 + nI 1)) (u2 s 122 2 (s 122 2 + nI 1)) τ τk := CX.er hCz (by omega) (by omega)
        refine v_iret K dX9_loss_38 ?_
        have eY : Y_loss s τ (nI j) = ((-1000000000) - nI 2, (u2 s 122 2 (s 122 2 + nI 1))) := by
          unfold Y_loss
          refine (@if_neg _ (Classical.propDecidable _) (fun q => q c0) _ _ _).trans ?_
          rw [cl_ix (show j < 2 ^ 31 by omega), ← ho]; rfl
        exact xfin eY hCe1
      · skip
        exact absurd c2 (Nat.lt_irrefl 0)
    · skip
      have hxb := loss_b j 1 x ho.symm
      refine v_top (y := nI x) rfl ?_
      refine v_istore_n (lv2 := [(2, .int (nI x)), (0, .ref 0), (1, .int (nI j))]) K dX9_loss_24 (by decide) rfl ?_
      refine v_iload_n K dX9_loss_25 rfl ?_
      refine v_ifN_le (tgt := 33) K (by omega) dX9_loss_26 rfl (fun c3 => ?_) (fun c3 => ?_)
      · skip
        exfalso; omega
      · skip
        refine v_iload_n K dX9_loss_29 rfl ?_
        refine v_goto (tgt := 38) K dX9_loss_30 rfl ?_
        refine v_iret K dX9_loss_38 ?_
        have eY : Y_loss s τ (nI j) = (nI x, s) := by
          unfold Y_loss
          refine (@if_neg _ (Classical.propDecidable _) (fun q => q c0) _ _ _).trans ?_
          rw [cl_ix (show j < 2 ^ 31 by omega), ← ho]; rfl
        exact xfin eY hCz
  · skip
    refine v_aload_n K dX9_loss_10 rfl ?_
    refine v_iconstN K 1 rfl dX9_loss_11 ?_
    refine v_callV (As := [.int (nI 1)]) K (c_X9_error h 1 (by omega)) lX9_75 ck_X9 rfl sh_0 pl_0 rfl ⟨by decide, by decide⟩ (Nat.le_of_ble_eq_true rfl) dX9_loss_12 (fun r4 h4 hp4 => ?_) rfl
    obtain ⟨rfl, rfl⟩ := hp4
    refine v_some ?_
    have hCe2 : CX cM (u2 h 109 1 (h 109 1 + nI 1)) (u2 s 122 1 (s 122 1 + nI 1)) τ τk := CX.er hC (by omega) (by omega)
    refine v_iret K dX9_loss_15 ?_
    have eY : Y_loss s τ n = ((-1000000000) - nI 1, (u2 s 122 1 (s 122 1 + nI 1))) := by
      unfold Y_loss
      refine (@if_pos _ (Classical.propDecidable _) (by assumption) _ _ _).trans ?_
      first | rfl | (rfl)
    exact xfin eY hCe2

abbrev P_X9_mends (cM h s : Mm) (τ τk : Nat → List Int32) (c n k : Int32) : Option Value → Mm → Prop := fun r h2 => r = some (.int (Y_mends s τ c n k).1) ∧ CX cM h2 (Y_mends s τ c n k).2 τ τk
theorem c_X9_mends {l : Launch} (cM h s : Mm) (τ τk : Nat → List Int32) (c n k : Int32) (hC : CX cM h s τ τk) (hI : INV s τ τk) : Con l yX9_mends cX9_mends 4 (some .int) 7 169 132 GL h [.ref 0, .int c, .int n, .int k] (P_X9_mends cM h s τ τk c n k) := by
  refine Con.ofV (own := "FoxRounds") (nm := "mends") rfl rfl (by decide) (Nat.le_of_ble_eq_true rfl) ?_
  intro κ ρ hkl K
  subst hkl
  show V κ (QM κ (132, ρ, GL, 0, 0) (P_X9_mends cM h s τ τk c n k)) 4 (132, ρ, GL, 0, 0) h 0 [(0, .ref 0), (1, .int c), (2, .int n), (3, .int k)] []
  have hd := hI.d
  have hn8 := hd.nw8
  have ht5 := hd.nt5
  refine v_iload_n K dX9_mends_0 rfl ?_
  refine v_iconstN K 0 rfl dX9_mends_1 ?_
  refine v_sipushN K 999 rfl dX9_mends_2 ?_
  refine v_callS (As := [.int c, .int (nI 0), .int (nI 999)]) K (c_X9_within h c (nI 0) (nI 999)) lX9_65 rfl ⟨by decide, by decide⟩ (Nat.le_of_ble_eq_true rfl) dX9_mends_5 (fun r1 h1 hp1 => ?_) rfl
  obtain ⟨rfl, rfl⟩ := hp1
  refine v_some ?_
  rw [show (nI 0 ≤ c ∧ c ≤ nI 999) = ix c 1000 from in_ix (by decide)]
  refine v_ifB_eq (tgt := 30) K dX9_mends_8 rfl (fun c1 => ?_) (fun c1 => ?_)
  · skip
    refine v_aload_n K dX9_mends_30 rfl ?_
    refine v_iconstN K 1 rfl dX9_mends_31 ?_
    refine v_callV (As := [.int (nI 1)]) K (c_X9_error h 1 (by omega)) lX9_75 ck_X9 rfl sh_0 pl_0 rfl ⟨by decide, by decide⟩ (Nat.le_of_ble_eq_true rfl) dX9_mends_32 (fun r2 h2 hp2 => ?_) rfl
    obtain ⟨rfl, rfl⟩ := hp2
    refine v_some ?_
    have hCe1 : CX cM (u2 h 109 1 (h 109 1 + nI 1)) (u2 s 122 1 (s 122 1 + nI 1)) τ τk := CX.er hC (by omega) (by omega)
    refine v_iret K dX9_mends_35 ?_
    have eY : Y_mends s τ c n k = ((-1000000000) - nI 1, (u2 s 122 1 (s 122 1 + nI 1))) := by
      unfold Y_mends
      refine (@if_pos _ (Classical.propDecidable _) (fun q => by first | exact absurd q.1 (by assumption) | exact absurd q.2.1 (by assumption) | exact absurd q.2.2 (by assumption)) _ _ _).trans ?_
      first | rfl | (rfl)
    exact xfin eY hCe1
  · skip
    obtain ⟨j1, Hj1, rfl⟩ := c1
    refine v_iload_n K dX9_mends_11 rfl ?_
    refine v_iconstN K 0 rfl dX9_mends_12 ?_
    refine v_bipushN K 60 rfl dX9_mends_13 ?_
    refine v_callS (As := [.int n, .int (nI 0), .int (nI 60)]) K (c_X9_within h n (nI 0) (nI 60)) lX9_65 rfl ⟨by decide, by decide⟩ (Nat.le_of_ble_eq_true rfl) dX9_mends_15 (fun r3 h3 hp3 => ?_) rfl
    obtain ⟨rfl, rfl⟩ := hp3
    refine v_some ?_
    rw [show (nI 0 ≤ n ∧ n ≤ nI 60) = ix n 61 from in_ix (by decide)]
    refine v_ifB_eq (tgt := 30) K dX9_mends_18 rfl (fun c2 => ?_) (fun c2 => ?_)
    · skip
      refine v_aload_n K dX9_mends_30 rfl ?_
      refine v_iconstN K 1 rfl dX9_mends_31 ?_
      refine v_callV (As := [.int (nI 1)]) K (c_X9_error h 1 (by omega)) lX9_75 ck_X9 rfl sh_0 pl_0 rfl ⟨by decide, by decide⟩ (Nat.le_of_ble_eq_true rfl) dX9_mends_32 (fun r4 h4 hp4 => ?_) rfl
      obtain ⟨rfl, rfl⟩ := hp4
      refine v_some ?_
      have hCe2 : CX cM (u2 h 109 1 (h 109 1 + nI 1)) (u2 s 122 1 (s 122 1 + nI 1)) τ τk := CX.er hC (by omega) (by omega)
      refine v_iret K dX9_mends_35 ?_
      have eY : Y_mends s τ (nI j1) n k = ((-1000000000) - nI 1, (u2 s 122 1 (s 122 1 + nI 1))) := by
        unfold Y_mends
        refine (@if_pos _ (Classical.propDecidable _) (fun q => by first | exact absurd q.1 (by assumption) | exact absurd q.2.1 (by assumption) | exact absurd q.2.2 (by assumption)) _ _ _).trans ?_
        first | rfl | ((try rw [cl_ix (show j1 < 2 ^ 31 by omega)]))
      exact xfin eY hCe2
    · skip
      obtain ⟨j2, Hj2, rfl⟩ := c2
      refine v_iload_n K dX9_mends_21 rfl ?_
      refine v_iconstN K 0 rfl dX9_mends_22 ?_
      refine v_iconstN K 1 rfl dX9_mends_23 ?_
      refine v_callS (As := [.int k, .int (nI 0), .int (nI 1)]) K (c_X9_within h k (nI 0) (nI 1)) lX9_65 rfl ⟨by decide, by decide⟩ (Nat.le_of_ble_eq_true rfl) dX9_mends_24 (fun r5 h5 hp5 => ?_) rfl
      obtain ⟨rfl, rfl⟩ := hp5
      refine v_some ?_
      rw [show (nI 0 ≤ k ∧ k ≤ nI 1) = ix k 2 from in_ix (by decide)]
      refine v_ifB_ne (tgt := 36) K dX9_mends_27 rfl (fun c3 => ?_) (fun c3 => ?_)
      · skip
        obtain ⟨j3, Hj3, rfl⟩ := c3
        refine v_aload_n K dX9_mends_36 rfl ?_
        refine v_getr (q := 77) K fX9_36 sh_0 pl_0 gl_0_3 dX9_mends_37 ?_
        refine v_iload_n K dX9_mends_40 rfl ?_
        refine v_iload_n K dX9_mends_41 rfl ?_
        refine v_callV (As := [.int (nI j1), .int (nI j2)]) K (c_X0_chooseMends h (s 119) τ (nI j1) j2 hC.W.1 hd hI.1.2.2 hC.W.2.1 (by omega)) lX9_206 ck_X0 rfl sh_77 pl_77 rfl ⟨by decide, by decide⟩ (Nat.le_of_ble_eq_true rfl) dX9_mends_42 (fun r6 h6 hp6 => ?_) rfl
        obtain ⟨rfl, h4z, h3z, hxz⟩ := hp6
        have hCz : CX cM h6 s τ τk := CX.sc hC hxz.2.2.S
        refine v_none ?_
        refine v_iload_n K dX9_mends_45 rfl ?_
        refine v_ifN_ne (tgt := 59) K (by omega) dX9_mends_46 rfl (fun c4 => ?_) (fun c4 => ?_)
        · skip
          refine v_aload_n K dX9_mends_59 rfl ?_
          refine v_getr (q := 77) K fX9_36 sh_0 pl_0 gl_0_3 dX9_mends_60 ?_
          refine v_geti (x := (mdF τ (s 119) (nI j1) j2 (2 ^ nwD (s 119))).2.1) K fX9_213 sh_77 pl_77 h3z dX9_mends_63 ?_
          refine v_iret K dX9_mends_66 ?_
          have eY : Y_mends s τ (nI j1) (nI j2) (nI j3) = ((mdF τ (s 119) (nI j1) j2 (2 ^ nwD (s 119))).2.1, s) := by
            unfold Y_mends
            refine (@if_neg _ (Classical.propDecidable _) (fun q => q (by refine ⟨?_, ?_, ?_⟩ <;> (first | assumption | exact ⟨_, by assumption, rfl⟩ | exact Or.inl rfl | exact Or.inr (Or.inl rfl) | exact Or.inr (Or.inr rfl) | omega))) _ _ _).trans ?_
            refine (@if_neg _ (Classical.propDecidable _) (fun q => absurd (nI_inj (by omega) (by omega) q) (by omega)) _ _ _).trans ?_
            rw [cl_ix (show j2 < 2 ^ 31 by omega)]
          exact xfin eY hCz
        · skip
          refine v_aload_n K dX9_mends_49 rfl ?_
          refine v_getr (q := 77) K fX9_36 sh_0 pl_0 gl_0_3 dX9_mends_50 ?_
          refine v_geti (x := (mdF τ (s 119) (nI j1) j2 (2 ^ nwD (s 119))).1) K fX9_210 sh_77 pl_77 h4z dX9_mends_53 ?_
          refine v_goto (tgt := 66) K dX9_mends_56 rfl ?_
          refine v_iret K dX9_mends_66 ?_
          have eY : Y_mends s τ (nI j1) (nI j2) (nI j3) = ((mdF τ (s 119) (nI j1) j2 (2 ^ nwD (s 119))).1, s) := by
            unfold Y_mends
            refine (@if_neg _ (Classical.propDecidable _) (fun q => q (by refine ⟨?_, ?_, ?_⟩ <;> (first | assumption | exact ⟨_, by assumption, rfl⟩ | exact Or.inl rfl | exact Or.inr (Or.inl rfl) | exact Or.inr (Or.inr rfl) | omega))) _ _ _).trans ?_
            refine (@if_pos _ (Classical.propDecidable _) (by rw [show j3 = 0 by omega]) _ _ _).trans ?_
            rw [cl_ix (show j2 < 2 ^ 31 by omega)]
          exact xfin eY hCz
      · skip
        refine v_aload_n K dX9_mends_30 rfl ?_
        refine v_iconstN K 1 rfl dX9_mends_31 ?_
        refine v_callV (As := [.int (nI 1)]) K (c_X9_error h 1 (by omega)) lX9_75 ck_X9 rfl sh_0 pl_0 rfl ⟨by decide, by decide⟩ (Nat.le_of_ble_eq_true rfl) dX9_mends_32 (fun r7 h7 hp7 => ?_) rfl
        obtain ⟨rfl, rfl⟩ := hp7
        refine v_some ?_
        have hCe3 : CX cM (u2 h 109 1 (h 109 1 + nI 1)) (u2 s 122 1 (s 122 1 + nI 1)) τ τk := CX.er hC (by omega) (by omega)
        refine v_iret K dX9_mends_35 ?_
        have eY : Y_mends s τ (nI j1) (nI j2) k = ((-1000000000) - nI 1, (u2 s 122 1 (s 122 1 + nI 1))) := by
          unfold Y_mends
          refine (@if_pos _ (Classical.propDecidable _) (fun q => by first | exact absurd q.1 (by assumption) | exact absurd q.2.1 (by assumption) | exact absurd q.2.2 (by assumption)) _ _ _).trans ?_
          first | rfl | ((try rw [cl_ix (show j1 < 2 ^ 31 by omega)]) ; (try rw [cl_ix (show j2 < 2 ^ 31 by omega)]))
        exact xfin eY hCe3

abbrev P_X9_hangs (cM h s : Mm) (τ τk : Nat → List Int32) (n i : Int32) : Option Value → Mm → Prop := fun r h2 => r = some (.int (Y_hangs s τ n i).1) ∧ CX cM h2 (Y_hangs s τ n i).2 τ τk
theorem c_X9_hangs {l : Launch} (cM h s : Mm) (τ τk : Nat → List Int32) (n i : Int32) (hC : CX cM h s τ τk) (hI : INV s τ τk) : Con l yX9_hangs cX9_hangs 4 (some .int) 7 167 132 GL h [.ref 0, .int n, .int i] (P_X9_hangs cM h s τ τk n i) := by
  refine Con.ofV (own := "FoxRounds") (nm := "hangs") rfl rfl (by decide) (Nat.le_of_ble_eq_true rfl) ?_
  intro κ ρ hkl K
  subst hkl
  show V κ (QM κ (132, ρ, GL, 0, 0) (P_X9_hangs cM h s τ τk n i)) 4 (132, ρ, GL, 0, 0) h 0 [(0, .ref 0), (1, .int n), (2, .int i)] []
  have hd := hI.d
  have hn8 := hd.nw8
  have ht5 := hd.nt5
  refine v_iload_n K dX9_hangs_0 rfl ?_
  refine v_iconstN K 0 rfl dX9_hangs_1 ?_
  refine v_bipushN K 60 rfl dX9_hangs_2 ?_
  refine v_callS (As := [.int n, .int (nI 0), .int (nI 60)]) K (c_X9_within h n (nI 0) (nI 60)) lX9_65 rfl ⟨by decide, by decide⟩ (Nat.le_of_ble_eq_true rfl) dX9_hangs_4 (fun r1 h1 hp1 => ?_) rfl
  obtain ⟨rfl, rfl⟩ := hp1
  refine v_some ?_
  rw [show (nI 0 ≤ n ∧ n ≤ nI 60) = ix n 61 from in_ix (by decide)]
  refine v_ifB_eq (tgt := 15) K dX9_hangs_7 rfl (fun c1 => ?_) (fun c1 => ?_)
  · skip
    refine v_aload_n K dX9_hangs_15 rfl ?_
    refine v_iconstN K 1 rfl dX9_hangs_16 ?_
    refine v_callV (As := [.int (nI 1)]) K (c_X9_error h 1 (by omega)) lX9_75 ck_X9 rfl sh_0 pl_0 rfl ⟨by decide, by decide⟩ (Nat.le_of_ble_eq_true rfl) dX9_hangs_17 (fun r2 h2 hp2 => ?_) rfl
    obtain ⟨rfl, rfl⟩ := hp2
    refine v_some ?_
    have hCe1 : CX cM (u2 h 109 1 (h 109 1 + nI 1)) (u2 s 122 1 (s 122 1 + nI 1)) τ τk := CX.er hC (by omega) (by omega)
    refine v_iret K dX9_hangs_20 ?_
    have eY : Y_hangs s τ n i = ((-1000000000) - nI 1, (u2 s 122 1 (s 122 1 + nI 1))) := by
      unfold Y_hangs
      refine (@if_pos _ (Classical.propDecidable _) (fun q => absurd q.1 (by assumption)) _ _ _).trans ?_
      first | rfl | (rfl)
    exact xfin eY hCe1
  · skip
    obtain ⟨j1, Hj1, rfl⟩ := c1
    refine v_iload_n K dX9_hangs_10 rfl ?_
    refine v_iconst (v := (-1)) K dX9_hangs_11 (by decide) ?_
    refine v_icmp_ge (tgt := 21) K dX9_hangs_12 rfl (fun c2 => ?_) (fun c2 => ?_)
    · skip
      have hlo : (-1) ≤ i := c2
      refine v_aload_n K dX9_hangs_21 rfl ?_
      refine v_getr (q := 1) K fX9_10 sh_0 pl_0 gl_0_0 dX9_hangs_22 ?_
      refine v_getr (q := 2) K fX9_25 sh_1 pl_1 gl_1_0 dX9_hangs_25 ?_
      refine v_callV (As := []) K (c_X1_idleThings h 2 (s 119) hB_2 hC.W.1 hd) lX9_216 ck_X1 rfl sh_2 pl_2 rfl ⟨by decide, by decide⟩ (Nat.le_of_ble_eq_true rfl) dX9_hangs_28 (fun r3 h3 hp3 => ?_) rfl
      obtain ⟨rfl, rfl⟩ := hp3
      refine v_some ?_
      rw [idlM_eq hd]
      have hm5 := (idle_le (d := s 119) (ntD (s 119))).1
      have hm6 : (idleL (s 119) (ntD (s 119))).length = idlM (s 119) := rfl
      rw [hm6] at hm5
      refine v_istore_n (lv2 := [(3, .int (nI ((idlM (s 119))))), (0, .ref 0), (1, .int (nI j1)), (2, .int i)]) K dX9_hangs_31 (by decide) rfl ?_
      refine v_iload_n K dX9_hangs_32 rfl ?_
      refine v_iconstN K 4 rfl dX9_hangs_33 ?_
      refine v_icmpN_le (tgt := 43) K (by omega) (by omega) dX9_hangs_34 rfl (fun c3 => ?_) (fun c3 => ?_)
      · skip
        refine v_iload_n K dX9_hangs_43 rfl ?_
        refine v_iload_n K dX9_hangs_44 rfl ?_
        refine v_icmp_lt (tgt := 54) K dX9_hangs_45 rfl (fun c4 => ?_) (fun c4 => ?_)
        · skip
          have hhi : i < nI (idlM (s 119)) := c4
          refine v_aload_n K dX9_hangs_54 rfl ?_
          refine v_getr (q := 77) K fX9_36 sh_0 pl_0 gl_0_3 dX9_hangs_55 ?_
          refine v_iload_n K dX9_hangs_58 rfl ?_
          refine v_callV (As := [.int (nI j1)]) K (c_X0_chooseHangs h (s 119) τ j1 hC.W.1 hd hI.1.2.2 hC.W.2.1 (by omega) (by omega)) lX9_219 ck_X0 rfl sh_77 pl_77 rfl ⟨by decide, by decide⟩ (Nat.le_of_ble_eq_true rfl) dX9_hangs_59 (fun r4 h4 hp4 => ?_) rfl
          obtain ⟨rfl, h3z, h96z, hxz⟩ := hp4
          have hCz : CX cM h4 s τ τk := CX.sc hC hxz.2.2.S
          refine v_none ?_
          refine v_iload_n K dX9_hangs_62 rfl ?_
          refine v_if_ge (tgt := 76) K dX9_hangs_63 rfl (fun c5 => ?_) (fun c5 => ?_)
          · skip
            obtain ⟨ji, hji, rfl⟩ := ix_m1 (n := idlM (s 119)) (by omega) hlo (fun q => by subst q; exact absurd c5 (by decide)) hhi
            refine v_aload_n K dX9_hangs_76 rfl ?_
            refine v_getr (q := 77) K fX9_36 sh_0 pl_0 gl_0_3 dX9_hangs_77 ?_
            refine v_getr (q := 96) K fX9_222 sh_77 pl_77 gl_77_5 dX9_hangs_80 ?_
            refine v_iload_n K dX9_hangs_83 rfl ?_
            refine v_iald (x := nI (ordT (s 119) (hbF τ (s 119) j1 (facN (idlM (s 119)))).1 ji)) K sh_96 pl_96 (by omega) (h96z _ (by omega)) dX9_hangs_84 ?_
            refine v_iret K dX9_hangs_85 ?_
            have eY : Y_hangs s τ (nI j1) (nI ji) = (nI (ordT (s 119) (hbF τ (s 119) j1 (facN (idlM (s 119)))).1 ji), s) := by
              unfold Y_hangs
              refine (@if_neg _ (Classical.propDecidable _) (fun q => q ⟨⟨j1, by assumption, rfl⟩, hlo⟩) _ _ _).trans ?_
              refine (@if_neg _ (Classical.propDecidable _) (by omega) _ _ _).trans ?_
              refine (@if_neg _ (Classical.propDecidable _) (Int32.not_le.mpr hhi) _ _ _).trans ?_
              refine (@if_neg _ (Classical.propDecidable _) (fun q => by have q2 := congrArg Int32.toInt q; rw [nI_toInt (by omega)] at q2; exact absurd q2 (by show ¬ ((_ : Int) = -1); omega)) _ _ _).trans ?_
              rw [cl_ix (show j1 < 2 ^ 31 by omega), cl_ix (show ji < 2 ^ 31 by omega)]
            exact xfin eY hCz
          · skip
            refine v_aload_n K dX9_hangs_66 rfl ?_
            refine v_getr (q := 77) K fX9_36 sh_0 pl_0 gl_0_3 dX9_hangs_67 ?_
            refine v_geti (x := (hbF τ (s 119) j1 (facN (idlM (s 119)))).2) K fX9_213 sh_77 pl_77 h3z dX9_hangs_70 ?_
            refine v_goto (tgt := 85) K dX9_hangs_73 rfl ?_
            refine v_iret K dX9_hangs_85 ?_
            have eY : Y_hangs s τ (nI j1) i = ((hbF τ (s 119) j1 (facN (idlM (s 119)))).2, s) := by
              unfold Y_hangs
              refine (@if_neg _ (Classical.propDecidable _) (fun q => q ⟨⟨j1, by assumption, rfl⟩, hlo⟩) _ _ _).trans ?_
              refine (@if_neg _ (Classical.propDecidable _) (by omega) _ _ _).trans ?_
              refine (@if_neg _ (Classical.propDecidable _) (Int32.not_le.mpr hhi) _ _ _).trans ?_
              refine (@if_pos _ (Classical.propDecidable _) (m1_lt hlo (Int32.not_le.mp c5)) _ _ _).trans ?_
              rw [cl_ix (show j1 < 2 ^ 31 by omega)]
            exact xfin eY hCz
        · skip
          refine v_aload_n K dX9_hangs_48 rfl ?_
          refine v_iconstN K 2 rfl dX9_hangs_49 ?_
          refine v_callV (As := [.int (nI 2)]) K (c_X9_error h 2 (by omega)) lX9_75 ck_X9 rfl sh_0 pl_0 rfl ⟨by decide, by decide⟩ (Nat.le_of_ble_eq_true rfl) dX9_hangs_50 (fun r5 h5 hp5 => ?_) rfl
          obtain ⟨rfl, rfl⟩ := hp5
          refine v_some ?_
          have hCe2 : CX cM (u2 h 109 2 (h 109 2 + nI 1)) (u2 s 122 2 (s 122 2 + nI 1)) τ τk := CX.er hC (by omega) (by omega)
          refine v_iret K dX9_hangs_53 ?_
          have eY : Y_hangs s τ (nI j1) i = ((-1000000000) - nI 2, (u2 s 122 2 (s 122 2 + nI 1))) := by
            unfold Y_hangs
            refine (@if_neg _ (Classical.propDecidable _) (fun q => q ⟨⟨j1, by assumption, rfl⟩, hlo⟩) _ _ _).trans ?_
            refine (@if_neg _ (Classical.propDecidable _) (by omega) _ _ _).trans ?_
            refine (@if_pos _ (Classical.propDecidable _) (Int32.not_lt.mp (by assumption)) _ _ _).trans ?_
            first | rfl | ((try rw [cl_ix (show j1 < 2 ^ 31 by omega)]))
          exact xfin eY hCe2
      · skip
        refine v_aload_n K dX9_hangs_37 rfl ?_
        refine v_iconstN K 3 rfl dX9_hangs_38 ?_
        refine v_callV (As := [.int (nI 3)]) K (c_X9_error h 3 (by omega)) lX9_75 ck_X9 rfl sh_0 pl_0 rfl ⟨by decide, by decide⟩ (Nat.le_of_ble_eq_true rfl) dX9_hangs_39 (fun r6 h6 hp6 => ?_) rfl
        obtain ⟨rfl, rfl⟩ := hp6
        refine v_some ?_
        have hCe3 : CX cM (u2 h 109 3 (h 109 3 + nI 1)) (u2 s 122 3 (s 122 3 + nI 1)) τ τk := CX.er hC (by omega) (by omega)
        refine v_iret K dX9_hangs_42 ?_
        have eY : Y_hangs s τ (nI j1) i = ((-1000000000) - nI 3, (u2 s 122 3 (s 122 3 + nI 1))) := by
          unfold Y_hangs
          refine (@if_neg _ (Classical.propDecidable _) (fun q => q ⟨⟨j1, by assumption, rfl⟩, hlo⟩) _ _ _).trans ?_
          refine (@if_pos _ (Classical.propDecidable _) (by omega) _ _ _).trans ?_
          first | rfl | ((try rw [cl_ix (show j1 < 2 ^ 31 by omega)]))
        exact xfin eY hCe3
    · skip
      refine v_aload_n K dX9_hangs_15 rfl ?_
      refine v_iconstN K 1 rfl dX9_hangs_16 ?_
      refine v_callV (As := [.int (nI 1)]) K (c_X9_error h 1 (by omega)) lX9_75 ck_X9 rfl sh_0 pl_0 rfl ⟨by decide, by decide⟩ (Nat.le_of_ble_eq_true rfl) dX9_hangs_17 (fun r7 h7 hp7 => ?_) rfl
      obtain ⟨rfl, rfl⟩ := hp7
      refine v_some ?_
      have hCe4 : CX cM (u2 h 109 1 (h 109 1 + nI 1)) (u2 s 122 1 (s 122 1 + nI 1)) τ τk := CX.er hC (by omega) (by omega)
      refine v_iret K dX9_hangs_20 ?_
      have eY : Y_hangs s τ (nI j1) i = ((-1000000000) - nI 1, (u2 s 122 1 (s 122 1 + nI 1))) := by
        unfold Y_hangs
        refine (@if_pos _ (Classical.propDecidable _) (fun q => absurd q.2 (by assumption)) _ _ _).trans ?_
        first | rfl | ((try rw [cl_ix (show j1 < 2 ^ 31 by omega)]))
      exact xfin eY hCe4

abbrev P_X9_off (cM h s : Mm) (τ τk : Nat → List Int32) (w : Int32) : Option Value → Mm → Prop := fun r h2 => r = some (.int (Y_off s τ w).1) ∧ CX cM h2 (Y_off s τ w).2 τ τk
theorem c_X9_off {l : Launch} (cM h s : Mm) (τ τk : Nat → List Int32) (w : Int32) (hC : CX cM h s τ τk) (hI : INV s τ τk) : Con l yX9_off cX9_off 3 (some .int) 6 146 132 GL h [.ref 0, .int w] (P_X9_off cM h s τ τk w) := by
  refine Con.ofV (own := "FoxRounds") (nm := "off") rfl rfl (by decide) (Nat.le_of_ble_eq_true rfl) ?_
  intro κ ρ hkl K
  subst hkl
  show V κ (QM κ (132, ρ, GL, 0, 0) (P_X9_off cM h s τ τk w)) 3 (132, ρ, GL, 0, 0) h 0 [(0, .ref 0), (1, .int w)] []
  have hd := hI.d
  have hn8 := hd.nw8
  have ht5 := hd.nt5
  refine v_aload_n K dX9_off_0 rfl ?_
  refine v_iload_n K dX9_off_1 rfl ?_
  refine v_callV (As := [.int w]) K (c_X9_sheetError cM h s τ τk w hC) lX9_110 ck_X9 rfl sh_0 pl_0 rfl ⟨by decide, by decide⟩ (Nat.le_of_ble_eq_true rfl) dX9_off_2 (fun r1 h1 hp1 => ?_) rfl
  obtain ⟨⟨k, rfl, hk⟩, rfl⟩ := hp1
  refine v_some ?_
  refine v_istore_n (lv2 := [(2, .int (nI k)), (0, .ref 0), (1, .int w)]) K dX9_off_5 (by decide) rfl ?_
  rcases hk with ⟨rfl, hw⟩ | ⟨rfl, j, hj, rfl, hb⟩ | ⟨rfl, j, hj, rfl, hb⟩
  · skip
    skip
    refine v_iload_n K dX9_off_6 rfl ?_
    refine v_ifN_eq (tgt := 18) K (by omega) dX9_off_7 rfl (fun c1 => ?_) (fun c1 => ?_)
    · exact absurd c1 (by decide)
    · skip
      refine v_aload_n K dX9_off_10 rfl ?_
      refine v_iload_n K dX9_off_11 rfl ?_
      refine v_callV (As := [.int (nI 1)]) K (c_X9_error h 1 (by omega)) lX9_75 ck_X9 rfl sh_0 pl_0 rfl ⟨by decide, by decide⟩ (Nat.le_of_ble_eq_true rfl) dX9_off_12 (fun r2 h2 hp2 => ?_) rfl
      obtain ⟨rfl, rfl⟩ := hp2
      refine v_some ?_
      have hCe1 : CX cM (u2 h 109 1 (h 109 1 + nI 1)) (u2 s 122 1 (s 122 1 + nI 1)) τ τk := CX.er hC (by omega) (by omega)
      refine v_goto (tgt := 43) K dX9_off_15 rfl ?_
      refine v_iret K dX9_off_43 ?_
      have eY : Y_off s τ w = ((-1000000000) - nI 1, (u2 s 122 1 (s 122 1 + nI 1))) := by
        unfold Y_off
        refine (@if_pos _ (Classical.propDecidable _) hw _ _ _).trans ?_
        first | rfl | (rfl)
      exact xfin eY hCe1
  · skip
    skip
    refine v_iload_n K dX9_off_6 rfl ?_
    refine v_ifN_eq (tgt := 18) K (by omega) dX9_off_7 rfl (fun c2 => ?_) (fun c2 => ?_)
    · exact absurd c2 (by decide)
    · skip
      refine v_aload_n K dX9_off_10 rfl ?_
      refine v_iload_n K dX9_off_11 rfl ?_
      refine v_callV (As := [.int (nI 2)]) K (c_X9_error h 2 (by omega)) lX9_75 ck_X9 rfl sh_0 pl_0 rfl ⟨by decide, by decide⟩ (Nat.le_of_ble_eq_true rfl) dX9_off_12 (fun r3 h3 hp3 => ?_) rfl
      obtain ⟨rfl, rfl⟩ := hp3
      refine v_some ?_
      have hCe2 : CX cM (u2 h 109 2 (h 109 2 + nI 1)) (u2 s 122 2 (s 122 2 + nI 1)) τ τk := CX.er hC (by omega) (by omega)
      refine v_goto (tgt := 43) K dX9_off_15 rfl ?_
      refine v_iret K dX9_off_43 ?_
      have eY : Y_off s τ (nI j) = ((-1000000000) - nI 2, (u2 s 122 2 (s 122 2 + nI 1))) := by
        unfold Y_off
        refine (@if_neg _ (Classical.propDecidable _) (fun q => q ⟨j, hj, rfl⟩) _ _ _).trans ?_
        refine (@if_pos _ (Classical.propDecidable _) (by rw [cl_ix (show j < 2 ^ 31 by omega)]; exact hb) _ _ _).trans ?_
        first | rfl | ((try rw [cl_ix (show j < 2 ^ 31 by omega)]))
      exact xfin eY hCe2
  · skip
    obtain ⟨-, sz, hsz, esz, -⟩ := hI.2.2.1 j hj
    refine v_iload_n K dX9_off_6 rfl ?_
    refine v_ifN_eq (tgt := 18) K (by omega) dX9_off_7 rfl (fun c3 => ?_) (fun c3 => ?_)
    · skip
      refine v_aload_n K dX9_off_18 rfl ?_
      refine v_getr (q := 77) K fX9_36 sh_0 pl_0 gl_0_3 dX9_off_19 ?_
      refine v_aload_n K dX9_off_22 rfl ?_
      refine v_getr (q := 108) K fX9_56 sh_0 pl_0 gl_0_6 dX9_off_23 ?_
      refine v_iload_n K dX9_off_26 rfl ?_
      refine v_aald (q := 110 + 2 * j) K sh_108 (Or.inr rfl) pl_108 (by omega) (gl_S (by omega)) dX9_off_27 ?_
      refine v_aload_n K dX9_off_28 rfl ?_
      refine v_getr (q := 1) K fX9_10 sh_0 pl_0 gl_0_0 dX9_off_29 ?_
      refine v_getr (q := 2) K fX9_25 sh_1 pl_1 gl_1_0 dX9_off_32 ?_
      refine v_getr (q := 3) K fX9_79 sh_2 pl_2 gl_2_0 dX9_off_35 ?_
      refine v_iconstN K 2 rfl dX9_off_38 ?_
      refine v_iald (x := s 119 2) K sh_3 pl_3 (by omega) (hC.W.1.n (by decide)) dX9_off_39 ?_
      refine v_callV (As := [.ref (110 + 2 * j), .int (s 119 2)]) K (c_X0_offBy h (s 119) τ j sz (fun k => s 130 (40 * j + k)) (s 119 2) hC.W.1 hd hI.1.2.2 hC.W.2.1 hj hsz ((hC.2.2.2.2.1 j hj).2.1.trans esz) (fun k hk => (hC.2.2.2.2.1 j hj).2.2 k (by omega)) (by rw [upd_id]; exact hd)) lX9_267 ck_X0 rfl sh_77 pl_77 rfl ⟨by decide, by decide⟩ (Nat.le_of_ble_eq_true rfl) dX9_off_40 (fun r4 h4 hp4 => ?_) rfl
      obtain ⟨rfl, hxz⟩ := hp4
      have hCz : CX cM h4 s τ τk := CX.N78 hC hxz.2.2
      refine v_some ?_
      rw [upd_id]
      refine v_iret K dX9_off_43 ?_
      have eY : Y_off s τ (nI j) = (offF τ (s 119) (fun k => s 130 (40 * j + k)) sz, s) := by
        unfold Y_off
        refine (@if_neg _ (Classical.propDecidable _) (fun q => q ⟨j, hj, rfl⟩) _ _ _).trans ?_
        refine (@if_neg _ (Classical.propDecidable _) (by rw [cl_ix (show j < 2 ^ 31 by omega)]; exact hb) _ _ _).trans ?_
        rw [cl_ix (show j < 2 ^ 31 by omega), esz, cl_ix (show sz < 2 ^ 31 by omega)]
      exact xfin eY hCz
    · exact absurd c3 (by decide)

abbrev P_X9_hungry (cM h s : Mm) (τ τk : Nat → List Int32) (w : Int32) : Option Value → Mm → Prop := fun r h2 => r = some (.int (Y_hungry s τ w).1) ∧ CX cM h2 (Y_hungry s τ w).2 τ τk
theorem c_X9_hungry {l : Launch} (cM h s : Mm) (τ τk : Nat → List Int32) (w : Int32) (hC : CX cM h s τ τk) (hI : INV s τ τk) : Con l yX9_hungry cX9_hungry 3 (some .int) 7 171 132 GL h [.ref 0, .int w] (P_X9_hungry cM h s τ τk w) := by
  refine Con.ofV (own := "FoxRounds") (nm := "hungry") rfl rfl (by decide) (Nat.le_of_ble_eq_true rfl) ?_
  intro κ ρ hkl K
  subst hkl
  show V κ (QM κ (132, ρ, GL, 0, 0) (P_X9_hungry cM h s τ τk w)) 3 (132, ρ, GL, 0, 0) h 0 [(0, .ref 0), (1, .int w)] []
  have hd := hI.d
  have hn8 := hd.nw8
  have ht5 := hd.nt5
  refine v_aload_n K dX9_hungry_0 rfl ?_
  refine v_iload_n K dX9_hungry_1 rfl ?_
  refine v_callV (As := [.int w]) K (c_X9_sheetError cM h s τ τk w hC) lX9_110 ck_X9 rfl sh_0 pl_0 rfl ⟨by decide, by decide⟩ (Nat.le_of_ble_eq_true rfl) dX9_hungry_2 (fun r1 h1 hp1 => ?_) rfl
  obtain ⟨⟨k, rfl, hk⟩, rfl⟩ := hp1
  refine v_some ?_
  refine v_istore_n (lv2 := [(2, .int (nI k)), (0, .ref 0), (1, .int w)]) K dX9_hungry_5 (by decide) rfl ?_
  rcases hk with ⟨rfl, hw⟩ | ⟨rfl, j, hj, rfl, hb⟩ | ⟨rfl, j, hj, rfl, hb⟩
  · skip
    skip
    refine v_iload_n K dX9_hungry_6 rfl ?_
    refine v_ifN_eq (tgt := 18) K (by omega) dX9_hungry_7 rfl (fun c1 => ?_) (fun c1 => ?_)
    · exact absurd c1 (by decide)
    · skip
      refine v_aload_n K dX9_hungry_10 rfl ?_
      refine v_iload_n K dX9_hungry_11 rfl ?_
      refine v_callV (As := [.int (nI 1)]) K (c_X9_error h 1 (by omega)) lX9_75 ck_X9 rfl sh_0 pl_0 rfl ⟨by decide, by decide⟩ (Nat.le_of_ble_eq_true rfl) dX9_hungry_12 (fun r2 h2 hp2 => ?_) rfl
      obtain ⟨rfl, rfl⟩ := hp2
      refine v_some ?_
      have hCe1 : CX cM (u2 h 109 1 (h 109 1 + nI 1)) (u2 s 122 1 (s 122 1 + nI 1)) τ τk := CX.er hC (by omega) (by omega)
      refine v_goto (tgt := 31) K dX9_hungry_15 rfl ?_
      refine v_iret K dX9_hungry_31 ?_
      have eY : Y_hungry s τ w = ((-1000000000) - nI 1, (u2 s 122 1 (s 122 1 + nI 1))) := by
        unfold Y_hungry
        refine (@if_pos _ (Classical.propDecidable _) hw _ _ _).trans ?_
        first | rfl | (rfl)
      exact xfin eY hCe1
  · skip
    skip
    refine v_iload_n K dX9_hungry_6 rfl ?_
    refine v_ifN_eq (tgt := 18) K (by omega) dX9_hungry_7 rfl (fun c2 => ?_) (fun c2 => ?_)
    · exact absurd c2 (by decide)
    · skip
      refine v_aload_n K dX9_hungry_10 rfl ?_
      refine v_iload_n K dX9_hungry_11 rfl ?_
      refine v_callV (As := [.int (nI 2)]) K (c_X9_error h 2 (by omega)) lX9_75 ck_X9 rfl sh_0 pl_0 rfl ⟨by decide, by decide⟩ (Nat.le_of_ble_eq_true rfl) dX9_hungry_12 (fun r3 h3 hp3 => ?_) rfl
      obtain ⟨rfl, rfl⟩ := hp3
      refine v_some ?_
      have hCe2 : CX cM (u2 h 109 2 (h 109 2 + nI 1)) (u2 s 122 2 (s 122 2 + nI 1)) τ τk := CX.er hC (by omega) (by omega)
      refine v_goto (tgt := 31) K dX9_hungry_15 rfl ?_
      refine v_iret K dX9_hungry_31 ?_
      have eY : Y_hungry s τ (nI j) = ((-1000000000) - nI 2, (u2 s 122 2 (s 122 2 + nI 1))) := by
        unfold Y_hungry
        refine (@if_neg _ (Classical.propDecidable _) (fun q => q ⟨j, hj, rfl⟩) _ _ _).trans ?_
        refine (@if_pos _ (Classical.propDecidable _) (by rw [cl_ix (show j < 2 ^ 31 by omega)]; exact hb) _ _ _).trans ?_
        first | rfl | ((try rw [cl_ix (show j < 2 ^ 31 by omega)]))
      exact xfin eY hCe2
  · skip
    obtain ⟨-, sz, hsz, esz, -⟩ := hI.2.2.1 j hj
    refine v_iload_n K dX9_hungry_6 rfl ?_
    refine v_ifN_eq (tgt := 18) K (by omega) dX9_hungry_7 rfl (fun c3 => ?_) (fun c3 => ?_)
    · skip
      refine v_aload_n K dX9_hungry_18 rfl ?_
      refine v_getr (q := 77) K fX9_36 sh_0 pl_0 gl_0_3 dX9_hungry_19 ?_
      refine v_aload_n K dX9_hungry_22 rfl ?_
      refine v_getr (q := 108) K fX9_56 sh_0 pl_0 gl_0_6 dX9_hungry_23 ?_
      refine v_iload_n K dX9_hungry_26 rfl ?_
      refine v_aald (q := 110 + 2 * j) K sh_108 (Or.inr rfl) pl_108 (by omega) (gl_S (by omega)) dX9_hungry_27 ?_
      refine v_callV (As := [.ref (110 + 2 * j)]) K (c_X0_hungerBy h (s 119) τ j sz (fun k => s 130 (40 * j + k)) hC.W.1 hd hI.1.2.2 hC.W.2.1 hj hsz ((hC.2.2.2.2.1 j hj).2.1.trans esz) (fun k hk => (hC.2.2.2.2.1 j hj).2.2 k (by omega))) lX9_271 ck_X0 rfl sh_77 pl_77 rfl ⟨by decide, by decide⟩ (Nat.le_of_ble_eq_true rfl) dX9_hungry_28 (fun r4 h4 hp4 => ?_) rfl
      obtain ⟨rfl, hxz⟩ := hp4
      have hCz : CX cM h4 s τ τk := CX.N78 hC hxz.2.2
      refine v_some ?_
      refine v_iret K dX9_hungry_31 ?_
      have eY : Y_hungry s τ (nI j) = (nI (hunF τ (s 119) (fun k => s 130 (40 * j + k)) sz 99).1, s) := by
        unfold Y_hungry
        refine (@if_neg _ (Classical.propDecidable _) (fun q => q ⟨j, hj, rfl⟩) _ _ _).trans ?_
        refine (@if_neg _ (Classical.propDecidable _) (by rw [cl_ix (show j < 2 ^ 31 by omega)]; exact hb) _ _ _).trans ?_
        rw [cl_ix (show j < 2 ^ 31 by omega), esz, cl_ix (show sz < 2 ^ 31 by omega)]
      exact xfin eY hCz
    · exact absurd c3 (by decide)

abbrev P_X9_check (cM h s : Mm) (τ τk : Nat → List Int32) : Option Value → Mm → Prop := fun r h2 => r = some (.int (Y_check s τ).1) ∧ CX cM h2 (Y_check s τ).2 τ τk
theorem c_X9_check {l : Launch} (cM h s : Mm) (τ τk : Nat → List Int32) (hC : CX cM h s τ τk) (hI : INV s τ τk) : Con l yX9_check cX9_check 2 (some .int) 6 143 132 GL h [.ref 0] (P_X9_check cM h s τ τk) := by
  refine Con.ofV (own := "FoxRounds") (nm := "check") rfl rfl (by decide) (Nat.le_of_ble_eq_true rfl) ?_
  intro κ ρ hkl K
  subst hkl
  show V κ (QM κ (132, ρ, GL, 0, 0) (P_X9_check cM h s τ τk)) 2 (132, ρ, GL, 0, 0) h 0 [(0, .ref 0)] []
  have hd := hI.d
  have hn8 := hd.nw8
  have ht5 := hd.nt5
  obtain ⟨t14, h14, e14⟩ := hI.t14
  refine v_aload_n K dX9_check_0 rfl ?_
  refine v_getr (q := 1) K fX9_10 sh_0 pl_0 gl_0_0 dX9_check_1 ?_
  refine v_geti (x := nI t14) K fX9_318 sh_1 pl_1 (hC.W.2.2.2.2.2.1.trans e14) dX9_check_4 ?_
  refine v_istore_n (lv2 := [(1, .int (nI t14)), (0, .ref 0)]) K dX9_check_7 (by decide) rfl ?_
  refine v_aload_n K dX9_check_8 rfl ?_
  refine v_getr (q := 1) K fX9_10 sh_0 pl_0 gl_0_0 dX9_check_9 ?_
  refine v_iconstN K 0 rfl dX9_check_12 ?_
  refine v_puti K pX9_318 sh_1 pl_1 dX9_check_13 ?_
  have hCx1 : CX cM (u2 h 1 6 (nI 0)) (u2 s 119 14 (nI 0)) τ τk := CX.w2 hC (WX.o hC.W (by omega)) (by omega) (by omega)
  refine v_aload_n K dX9_check_16 rfl ?_
  refine v_getr (q := 77) K fX9_36 sh_0 pl_0 gl_0_3 dX9_check_17 ?_
  refine v_aload_n K dX9_check_20 rfl ?_
  refine v_getr (q := 1) K fX9_10 sh_0 pl_0 gl_0_0 dX9_check_21 ?_
  refine v_getr (q := 37) K fX9_321 sh_1 pl_1 gl_1_5 dX9_check_24 ?_
  refine v_iload_n K dX9_check_27 rfl ?_
  have hW0 : WX 1 (u2 h 1 6 (nI 0)) (upd (s 119) 14 (nI 0)) τ := by have hx := hCx1.W; rw [u2_row] at hx; exact hx
  have hd0 : DOK (upd (s 119) 14 (nI 0)) := hd.set (by omega) (by omega) (fun q => by omega) (fun q => by omega) (fun w hw => ⟨fun q => by omega, fun q => by omega, fun q => by omega, fun q => by omega⟩) (fun t ht => ⟨fun q => by omega, fun q => by omega, fun q => by omega⟩)
  refine v_callV (As := [.ref 37, .int (nI t14)]) K (c_X0_firstUnlike ((u2 h 1 6 (nI 0))) (upd (s 119) 14 (nI 0)) τ t14 (fun i => s 119 (114 + i)) hW0.1 hd0 hI.1.2.2 hW0.2.1 (by omega) (fun k hk => (hW0.2.2.2.1.2.1 k (by omega)).trans (upd_ne (by omega)))) lX9_324 ck_X0 rfl sh_77 pl_77 rfl ⟨by decide, by decide⟩ (Nat.le_of_ble_eq_true rfl) dX9_check_28 (fun r1 h1 hp1 => ?_) rfl
  obtain ⟨rfl, hxz⟩ := hp1
  have hCz : CX cM h1 (u2 s 119 14 (nI 0)) τ τk := CX.N78 hCx1 hxz.2.2
  refine v_some ?_
  refine v_iret K dX9_check_31 ?_
  have eY : Y_check s τ = (unlF τ (upd (s 119) 14 (nI 0)) (fun i => s 119 (114 + i)) t14 0, (u2 s 119 14 (nI 0))) := by
    unfold Y_check
    rw [e14, cl_ix (show t14 < 2 ^ 31 by omega)]
  exact xfin eY hCz
