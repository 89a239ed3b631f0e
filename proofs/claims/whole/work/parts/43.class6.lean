/-! the class's village -/
def foF (S : Nat) : Nat → Nat → Nat
  | 0, k => k
  | f + 1, k => if bitN S k = 0 then k else foF S f (k + 1)
def foN (S : Nat) : Nat := foF S 6 0
theorem fo_lt {S k : Nat} (h1 : S < 64) (h2 : k < 6) : (k ≤ foN S ∧ S % 2 ^ k = 2 ^ k - 1) ∨ (foN S < k ∧ ¬ S % 2 ^ k = 2 ^ k - 1) := by
  have : ∀ S, S < 64 → ∀ k, k < 6 → (k ≤ foN S ∧ S % 2 ^ k = 2 ^ k - 1) ∨ (foN S < k ∧ ¬ S % 2 ^ k = 2 ^ k - 1) := by decide +kernel
  exact this S h1 k h2
theorem fo_le {S : Nat} (h1 : S < 64) : foN S ≤ 6 := by
  have : ∀ S, S < 64 → foN S ≤ 6 := by decide +kernel
  exact this S h1
theorem fo_s {S i : Nat} (hi : i < 6) (e : foF S (6 - i) i = foN S) (c : 0 < bitN S i) : foF S (6 - (i + 1)) (i + 1) = foN S := by
  rw [show 6 - i = (6 - (i + 1)) + 1 by omega, foF, if_neg (by omega)] at e; exact e
theorem fo_e {S i : Nat} (hi : i < 6) (e : foF S (6 - i) i = foN S) (c : bitN S i = 0) : i = foN S := by
  rw [show 6 - i = (6 - (i + 1)) + 1 by omega, foF, if_pos c] at e; exact e
theorem fl_bit {S k j : Nat} (h1 : S < 64) (h2 : k < 6) (h3 : j < 6) : bitN (flipS S k) j = if j = k then 1 - bitN S k else bitN S j := by
  have : ∀ S, S < 64 → ∀ k, k < 6 → ∀ j, j < 6 → bitN (flipS S k) j = if j = k then 1 - bitN S k else bitN S j := by decide +kernel
  exact this S h1 k h2 j h3
theorem sh_bits : ∀ b0, b0 < 2 → ∀ b1, b1 < 2 → ∀ b2, b2 < 2 → ∀ b3, b3 < 2 → ∀ b4, b4 < 2 → ∀ b5, b5 < 2 → (0 + b0 * 2 ^ 0 + b1 * 2 ^ 1 + b2 * 2 ^ 2 + b3 * 2 ^ 3 + b4 * 2 ^ 4 + b5 * 2 ^ 5 < 64 ∧ bitN (0 + b0 * 2 ^ 0 + b1 * 2 ^ 1 + b2 * 2 ^ 2 + b3 * 2 ^ 3 + b4 * 2 ^ 4 + b5 * 2 ^ 5) 0 = b0 ∧ bitN (0 + b0 * 2 ^ 0 + b1 * 2 ^ 1 + b2 * 2 ^ 2 + b3 * 2 ^ 3 + b4 * 2 ^ 4 + b5 * 2 ^ 5) 1 = b1 ∧ bitN (0 + b0 * 2 ^ 0 + b1 * 2 ^ 1 + b2 * 2 ^ 2 + b3 * 2 ^ 3 + b4 * 2 ^ 4 + b5 * 2 ^ 5) 2 = b2 ∧ bitN (0 + b0 * 2 ^ 0 + b1 * 2 ^ 1 + b2 * 2 ^ 2 + b3 * 2 ^ 3 + b4 * 2 ^ 4 + b5 * 2 ^ 5) 3 = b3 ∧ bitN (0 + b0 * 2 ^ 0 + b1 * 2 ^ 1 + b2 * 2 ^ 2 + b3 * 2 ^ 3 + b4 * 2 ^ 4 + b5 * 2 ^ 5) 4 = b4 ∧ bitN (0 + b0 * 2 ^ 0 + b1 * 2 ^ 1 + b2 * 2 ^ 2 + b3 * 2 ^ 3 + b4 * 2 ^ 4 + b5 * 2 ^ 5) 5 = b5) := by
  intro b0 h0 b1 h1 b2 h2 b3 h3 b4 h4 b5 h5
  unfold bitN
  simp only [Nat.reducePow]
  refine ⟨?_, ?_, ?_, ?_, ?_, ?_, ?_⟩ <;> omega
theorem sh_bit {d : Dm} (H : ∀ y, y < 6 → ix (d (28 + 3 * y + 2)) 2) : shutS d 6 < 64 ∧ ∀ k, k < 6 → d (28 + 3 * k + 2) = nI (bitN (shutS d 6) k) := by
  have g : ∀ y, y < 6 → (d (28 + 3 * y + 2)).toNatClampNeg < 2 ∧ d (28 + 3 * y + 2) = nI (d (28 + 3 * y + 2)).toNatClampNeg := fun y hy => by
    obtain ⟨j, hj, e⟩ := H y hy
    rw [e, cl_ix (show j < 2 ^ 31 by omega)]; exact ⟨hj, rfl⟩
  obtain ⟨h, e0, e1, e2, e3, e4, e5⟩ := sh_bits _ (g 0 (by omega)).1 _ (g 1 (by omega)).1 _ (g 2 (by omega)).1 _ (g 3 (by omega)).1 _ (g 4 (by omega)).1 _ (g 5 (by omega)).1
  refine ⟨h, fun k hk => ?_⟩
  obtain rfl | rfl | rfl | rfl | rfl | rfl : k = 0 ∨ k = 1 ∨ k = 2 ∨ k = 3 ∨ k = 4 ∨ k = 5 := by omega
  · exact (g 0 (by omega)).2.trans (congrArg nI e0.symm)
  · exact (g 1 (by omega)).2.trans (congrArg nI e1.symm)
  · exact (g 2 (by omega)).2.trans (congrArg nI e2.symm)
  · exact (g 3 (by omega)).2.trans (congrArg nI e3.symm)
  · exact (g 4 (by omega)).2.trans (congrArg nI e4.symm)
  · exact (g 5 (by omega)).2.trans (congrArg nI e5.symm)
theorem rnd_lt {d : Dm} {S : Nat} (h : S < 64) : ∀ k, k ≤ 6 → (rndV d S k).1 < 64
  | 0, _ => h
  | k + 1, hk => by
    have ih := rnd_lt (d := d) h k (by omega)
    by_cases c : flipV d (rndV d S k).1 k
    · rw [rnd_y rfl c]; exact fl_lt ih (by omega)
    · rw [rnd_n (S2 := (rndV d S k).1) (c2 := (rndV d S k).2) rfl c]; exact ih
/-- who is shut, as the class has it -/
def VT (h : Mm) (S : Nat) : Prop := ∀ j, j < 6 → h 35 j = nI (bitN S j)
theorem mod_s {S k : Nat} (h : S < 64) (hk : k < 6) : S % 2 ^ k < 2 ^ k ∧ S % 2 ^ k + bitN S k * 2 ^ k = S % 2 ^ (k + 1) ∧ S % 2 ^ k < 64 := by
  have : ∀ S, S < 64 → ∀ k, k < 6 → S % 2 ^ k < 2 ^ k ∧ S % 2 ^ k + bitN S k * 2 ^ k = S % 2 ^ (k + 1) ∧ S % 2 ^ k < 64 := by decide +kernel
  exact this S h k hk

abbrev P_X6_firstOpen (h : Mm) (S : Nat) : Option Value → Mm → Prop := fun r h2 => r = some (.int (nI (foN S))) ∧ h = h2
theorem c_X6_firstOpen {l : Launch} (h : Mm) (S : Nat) (hS : S < 64) (ht : VT h S) : Con l yX6_firstOpen cX6_firstOpen 2 (some .int) 0 0 132 GL h [.ref 31] (P_X6_firstOpen h S) := by
  refine Con.ofV (own := "FoxRounds$Village") (nm := "firstOpen") rfl rfl (by decide) (Nat.le_of_ble_eq_true rfl) ?_
  intro κ ρ hkl K
  subst hkl
  show V κ (QM κ (132, ρ, GL, 0, 0) (P_X6_firstOpen h S)) 2 (132, ρ, GL, 0, 0) h 0 [(0, .ref 31)] []
  refine v_iconstN K 0 rfl dX6_firstOpen_0 ?_
  refine v_istore_n (lv2 := [(1, .int (nI 0)), (0, .ref 31)]) K dX6_firstOpen_1 (by decide) rfl ?_
  have L2 : ∀ (mm : Nat) (i : Nat) (hi : i ≤ 6) (he : foF S (6 - i) i = foN S), 7 - i < mm → V κ (QM κ (132, ρ, GL, 0, 0) (P_X6_firstOpen h S)) 2 (132, ρ, GL, 0, 0) h 2 [(0, .ref 31), (1, .int (nI i))] [] := by
    intro mm
    induction mm with
    | zero => intro i hi he hmm; exact absurd hmm (Nat.not_lt_zero _)
    | succ mm ih2 =>
      intro i hi he hmm
      have hbl : bitN S i ≤ 1 := bitN_le
      refine v_iload_n K dX6_firstOpen_2 rfl ?_
      refine v_bipushN K 6 rfl dX6_firstOpen_3 ?_
      refine v_icmpN_ge (tgt := 25) K (by omega) (by omega) dX6_firstOpen_5 rfl (fun c1 => ?_) (fun c1 => ?_)
      · skip
        refine v_bipushN K 6 rfl dX6_firstOpen_25 ?_
        refine v_iret K dX6_firstOpen_27 ?_
        exact ⟨some_int (congrArg nI (by rw [← he, show i = 6 by omega]; rfl)), rfl⟩
      · skip
        refine v_aload_n K dX6_firstOpen_8 rfl ?_
        refine v_getr (q := 35) K fX6_25 sh_31 pl_31 gl_31_4 dX6_firstOpen_9 ?_
        refine v_iload_n K dX6_firstOpen_12 rfl ?_
        refine v_iald (x := nI (bitN S i)) K sh_35 pl_35 (by omega) (ht _ (by omega)) dX6_firstOpen_13 ?_
        refine v_ifN_ne (tgt := 19) K (by omega) dX6_firstOpen_14 rfl (fun c2 => ?_) (fun c2 => ?_)
        · skip
          refine v_iincN (lv2 := [(1, .int (nI (i + 1))), (0, .ref 31)]) K 1 dX6_firstOpen_19 rfl rfl (by decide) rfl ?_
          refine v_goto (tgt := 2) K dX6_firstOpen_22 rfl ?_
          refine v_sub (lv2 := [(0, .ref 31), (1, .int (nI (i + 1)))]) (by simp) ?_
          exact ih2 (i + 1) (by first | assumption | omega | rfl) (by exact fo_s (by omega) he (by omega)) (by omega)
        · skip
          refine v_iload_n K dX6_firstOpen_17 rfl ?_
          refine v_iret K dX6_firstOpen_18 ?_
          exact ⟨some_int (congrArg nI (fo_e (by omega) he (by omega))), rfl⟩
  refine v_sub (lv2 := [(0, .ref 31), (1, .int (nI 0))]) (by simp) ?_
  exact L2 (7 - 0 + 1) 0 (by first | assumption | omega | rfl) (by rfl) (Nat.lt_succ_self _)

abbrev P_X6_shutThen (h : Mm) (S : Nat) : Option Value → Mm → Prop := fun r h2 => r = some (.int (nI S)) ∧ h = h2
theorem c_X6_shutThen {l : Launch} (h : Mm) (S : Nat) (hS : S < 64) (ht : VT h S) : Con l yX6_shutThen cX6_shutThen 3 (some .int) 0 0 132 GL h [.ref 31] (P_X6_shutThen h S) := by
  refine Con.ofV (own := "FoxRounds$Village") (nm := "shutThen") rfl rfl (by decide) (Nat.le_of_ble_eq_true rfl) ?_
  intro κ ρ hkl K
  subst hkl
  show V κ (QM κ (132, ρ, GL, 0, 0) (P_X6_shutThen h S)) 3 (132, ρ, GL, 0, 0) h 0 [(0, .ref 31)] []
  refine v_iconstN K 0 rfl dX6_shutThen_0 ?_
  refine v_istore_n (lv2 := [(1, .int (nI 0)), (0, .ref 31)]) K dX6_shutThen_1 (by decide) rfl ?_
  refine v_iconstN K 0 rfl dX6_shutThen_2 ?_
  refine v_istore_n (lv2 := [(2, .int (nI 0)), (1, .int (nI 0)), (0, .ref 31)]) K dX6_shutThen_3 (by decide) rfl ?_
  have L4 : ∀ (mm : Nat) (b : Nat) (i : Nat) (hi : i ≤ 6) (hb : b = S % 2 ^ i), 7 - i < mm → V κ (QM κ (132, ρ, GL, 0, 0) (P_X6_shutThen h S)) 3 (132, ρ, GL, 0, 0) h 4 [(0, .ref 31), (1, .int (nI b)), (2, .int (nI i))] [] := by
    intro mm
    induction mm with
    | zero => intro b i hi hb hmm; exact absurd hmm (Nat.not_lt_zero _)
    | succ mm ih4 =>
      intro b i hi hb hmm
      refine v_iload_n K dX6_shutThen_4 rfl ?_
      refine v_bipushN K 6 rfl dX6_shutThen_5 ?_
      refine v_icmpN_ge (tgt := 27) K (by omega) (by omega) dX6_shutThen_7 rfl (fun c1 => ?_) (fun c1 => ?_)
      · skip
        refine v_iload_n K dX6_shutThen_27 rfl ?_
        refine v_iret K dX6_shutThen_28 ?_
        exact ⟨some_int (congrArg nI (by rw [hb, show i = 6 by omega]; exact Nat.mod_eq_of_lt hS)), rfl⟩
      · skip
        refine v_iload_n K dX6_shutThen_10 rfl ?_
        refine v_aload_n K dX6_shutThen_11 rfl ?_
        refine v_getr (q := 35) K fX6_25 sh_31 pl_31 gl_31_4 dX6_shutThen_12 ?_
        refine v_iload_n K dX6_shutThen_15 rfl ?_
        refine v_iald (x := nI (bitN S i)) K sh_35 pl_35 (by omega) (ht _ (by omega)) dX6_shutThen_16 ?_
        refine v_iload_n K dX6_shutThen_17 rfl ?_
        refine v_ishl K dX6_shutThen_18 ?_
        refine v_ior K dX6_shutThen_19 ?_
        have hmm2 := mod_s hS (show i < 6 by omega)
        have hbl : bitN S i ≤ 1 := bitN_le
        refine v_top (y := nI (b + bitN S i * 2 ^ i)) (vb_or (by omega) (by omega) (by omega) (by omega)) ?_
        refine v_istore_n (lv2 := [(1, .int (nI (b + bitN S i * 2 ^ i))), (0, .ref 31), (2, .int (nI i))]) K dX6_shutThen_20 (by decide) rfl ?_
        refine v_iincN (lv2 := [(2, .int (nI (i + 1))), (1, .int (nI (b + bitN S i * 2 ^ i))), (0, .ref 31)]) K 1 dX6_shutThen_21 rfl rfl (by decide) rfl ?_
        refine v_goto (tgt := 4) K dX6_shutThen_24 rfl ?_
        refine v_sub (lv2 := [(0, .ref 31), (1, .int (nI (b + bitN S i * 2 ^ i))), (2, .int (nI (i + 1)))]) (by simp) ?_
        exact ih4 (b + bitN S i * 2 ^ i) (i + 1) (by first | assumption | omega | rfl) (by rw [hb]; exact (mod_s hS (by omega)).2.1) (by omega)
  refine v_sub (lv2 := [(0, .ref 31), (1, .int (nI 0)), (2, .int (nI 0))]) (by simp) ?_
  exact L4 (7 - 0 + 1) 0 0 (by first | assumption | omega | rfl) (by rw [Nat.pow_zero, Nat.mod_one]) (Nat.lt_succ_self _)

abbrev P_X6_changesInARound (h : Mm) (d : Dm) (S : Nat) : Option Value → Mm → Prop := fun r h2 => r = some (.int (b2i (¬ (rndV d S 6).2 = 0))) ∧ VT h2 (rndV d S 6).1 ∧ FrO 35 36 h h2
theorem c_X6_changesInARound {l : Launch} (h : Mm) (d : Dm) (S : Nat) (hV : VX 31 h d) (hS : S < 64) (ht : VT h S) : Con l yX6_changesInARound cX6_changesInARound 5 (some .boolean) 1 21 132 GL h [.ref 31] (P_X6_changesInARound h d S) := by
  refine Con.ofV (own := "FoxRounds$Village") (nm := "changesInARound") rfl rfl (by decide) (Nat.le_of_ble_eq_true rfl) ?_
  intro κ ρ hkl K
  subst hkl
  show V κ (QM κ (132, ρ, GL, 0, 0) (P_X6_changesInARound h d S)) 5 (132, ρ, GL, 0, 0) h 0 [(0, .ref 31)] []
  refine v_iconstN K 0 rfl dX6_changesInARound_0 ?_
  refine v_istore_n (lv2 := [(1, .int (nI 0)), (0, .ref 31)]) K dX6_changesInARound_1 (by decide) rfl ?_
  refine v_iconstN K 0 rfl dX6_changesInARound_2 ?_
  refine v_istore_n (lv2 := [(2, .int (nI 0)), (1, .int (nI 0)), (0, .ref 31)]) K dX6_changesInARound_3 (by decide) rfl ?_
  have L4 : ∀ (mm : Nat) (S2 : Nat) (ch : Nat) (k : Nat) (g : Mm) (hk : k ≤ 6) (hr : rndV d S k = (S2, ch)) (hS2 : S2 < 64) (hch : ch ≤ 1) (hT : VT g S2) (hF : FrO 35 36 h g), 7 - k < mm → V κ (QM κ (132, ρ, GL, 0, 0) (P_X6_changesInARound h d S)) 5 (132, ρ, GL, 0, 0) g 4 [(0, .ref 31), (1, .int (nI ch)), (2, .int (nI k))] [] := by
    intro mm
    induction mm with
    | zero => intro S2 ch k g hk hr hS2 hch hT hF hmm; exact absurd hmm (Nat.not_lt_zero _)
    | succ mm ih4 =>
      intro S2 ch k g hk hr hS2 hch hT hF hmm
      have hbl : bitN S2 k ≤ 1 := bitN_le
      refine v_iload_n K dX6_changesInARound_4 rfl ?_
      refine v_bipushN K 6 rfl dX6_changesInARound_5 ?_
      refine v_icmpN_ge (tgt := 101) K (by omega) (by omega) dX6_changesInARound_7 rfl (fun c1 => ?_) (fun c1 => ?_)
      · skip
        refine v_iload_n K dX6_changesInARound_101 rfl ?_
        obtain rfl : k = 6 := by omega
        refine v_top (y := b2i (¬ (rndV d S 6).2 = 0)) (by rw [hr]; rcases Nat.lt_or_ge 0 ch with q | q; (rw [b2i_t (show ¬ ch = 0 by omega), show ch = 1 by omega]; rfl); rw [b2i_f (show ¬ ¬ ch = 0 by omega), show ch = 0 by omega]; rfl) ?_
        refine v_zret K dX6_changesInARound_102 (b2i_01 _) ?_
        exact ⟨rfl, by rw [hr]; exact hT, hF⟩
      · skip
        refine v_aload_n K dX6_changesInARound_10 rfl ?_
        refine v_callV (As := []) K (c_X6_firstOpen g S2 hS2 hT) lX6_38 ck_X6 rfl sh_31 pl_31 rfl ⟨by decide, by decide⟩ (Nat.le_of_ble_eq_true rfl) dX6_changesInARound_11 (fun r1 h1 hp1 => ?_) rfl
        obtain ⟨rfl, rfl⟩ := hp1
        refine v_some ?_
        have hfo := fo_lt (k := k) hS2 (by omega)
        have hfl := fo_le hS2
        refine v_iload_n K dX6_changesInARound_14 rfl ?_
        refine v_icmpN_ge (tgt := 22) K (by omega) (by omega) dX6_changesInARound_15 rfl (fun c2 => ?_) (fun c2 => ?_)
        · skip
          refine v_aload_n K dX6_changesInARound_22 rfl ?_
          refine v_getr (q := 33) K fX6_15 sh_31 pl_31 gl_31_1 dX6_changesInARound_23 ?_
          refine v_iload_n K dX6_changesInARound_26 rfl ?_
          refine v_iald (x := d (28 + 3 * k + 1)) K sh_33 pl_33 (by omega) ((congrFun (hF 33 (by omega)) _).trans (hV _ (by omega)).2.1) dX6_changesInARound_27 ?_
          refine v_istore_n (lv2 := [(3, .int (d (28 + 3 * k + 1))), (0, .ref 31), (1, .int (nI ch)), (2, .int (nI k))]) K dX6_changesInARound_28 (by decide) rfl ?_
          refine v_aload_n K dX6_changesInARound_29 rfl ?_
          refine v_getr (q := 35) K fX6_25 sh_31 pl_31 gl_31_4 dX6_changesInARound_30 ?_
          refine v_iload_n K dX6_changesInARound_33 rfl ?_
          refine v_iald (x := nI (bitN S2 k)) K sh_35 pl_35 (by omega) (hT _ (by omega)) dX6_changesInARound_34 ?_
          refine v_iconstN K 1 rfl dX6_changesInARound_35 ?_
          refine v_icmpN_ne (tgt := 57) K (by omega) (by omega) dX6_changesInARound_36 rfl (fun c3 => ?_) (fun c3 => ?_)
          · skip
            refine v_aload_n K dX6_changesInARound_57 rfl ?_
            refine v_getr (q := 32) K fX6_9 sh_31 pl_31 gl_31_0 dX6_changesInARound_58 ?_
            refine v_iload_n K dX6_changesInARound_61 rfl ?_
            refine v_iald (x := d (28 + 3 * k)) K sh_32 pl_32 (by omega) ((congrFun (hF 32 (by omega)) _).trans (hV _ (by omega)).1) dX6_changesInARound_62 ?_
            refine v_iload_n K dX6_changesInARound_63 rfl ?_
            refine v_icmp_ge (tgt := 71) K dX6_changesInARound_64 rfl (fun c4 => ?_) (fun c4 => ?_)
            · skip
              refine v_iconstN K 0 rfl dX6_changesInARound_71 ?_
              refine v_istore (lv2 := [(4, .int (nI 0)), (3, .int (d (28 + 3 * k + 1))), (0, .ref 31), (1, .int (nI ch)), (2, .int (nI k))]) K dX6_changesInARound_72 (by decide) rfl ?_
              refine v_iload K dX6_changesInARound_74 rfl ?_
              refine v_ifN_eq (tgt := 95) K (by omega) dX6_changesInARound_76 rfl (fun c5 => ?_) (fun c5 => ?_)
              · skip
                refine v_iincN (lv2 := [(2, .int (nI (k + 1))), (4, .int (nI 0)), (3, .int (d (28 + 3 * k + 1))), (0, .ref 31), (1, .int (nI ch))]) K 1 dX6_changesInARound_95 rfl rfl (by decide) rfl ?_
                refine v_goto (tgt := 4) K dX6_changesInARound_98 rfl ?_
                refine v_sub (lv2 := [(0, .ref 31), (1, .int (nI ch)), (2, .int (nI (k + 1)))]) (by simp) ?_
                exact ih4 S2 ch (k + 1) g (by first | assumption | omega | rfl) (by exact rnd_n hr (by unfold flipV comesV; rw [if_neg c3, if_pos (by omega)]; exact Int32.not_lt.mpr c4)) (by exact hS2) (by first | assumption | omega | rfl) (by exact hT) (by exact hF) (by omega)
              · exact absurd c5 (by decide)
            · skip
              refine v_iconstN K 1 rfl dX6_changesInARound_67 ?_
              refine v_goto (tgt := 72) K dX6_changesInARound_68 rfl ?_
              refine v_istore (lv2 := [(4, .int (nI 1)), (3, .int (d (28 + 3 * k + 1))), (0, .ref 31), (1, .int (nI ch)), (2, .int (nI k))]) K dX6_changesInARound_72 (by decide) rfl ?_
              refine v_iload K dX6_changesInARound_74 rfl ?_
              refine v_ifN_eq (tgt := 95) K (by omega) dX6_changesInARound_76 rfl (fun c6 => ?_) (fun c6 => ?_)
              · exact absurd c6 (by decide)
              · skip
                refine v_aload_n K dX6_changesInARound_79 rfl ?_
                refine v_getr (q := 35) K fX6_25 sh_31 pl_31 gl_31_4 dX6_changesInARound_80 ?_
                refine v_iload_n K dX6_changesInARound_83 rfl ?_
                refine v_iconstN K 1 rfl dX6_changesInARound_84 ?_
                refine v_aload_n K dX6_changesInARound_85 rfl ?_
                refine v_getr (q := 35) K fX6_25 sh_31 pl_31 gl_31_4 dX6_changesInARound_86 ?_
                refine v_iload_n K dX6_changesInARound_89 rfl ?_
                refine v_iald (x := nI (bitN S2 k)) K sh_35 pl_35 (by omega) (hT _ (by omega)) dX6_changesInARound_90 ?_
                refine v_isubN K (by omega) dX6_changesInARound_91 ?_
                refine v_iast K sh_35 pl_35 (by omega) dX6_changesInARound_92 ?_
                refine v_iconstN K 1 rfl dX6_changesInARound_93 ?_
                refine v_istore_n (lv2 := [(1, .int (nI 1)), (4, .int (nI 1)), (3, .int (d (28 + 3 * k + 1))), (0, .ref 31), (2, .int (nI k))]) K dX6_changesInARound_94 (by decide) rfl ?_
                refine v_iincN (lv2 := [(2, .int (nI (k + 1))), (1, .int (nI 1)), (4, .int (nI 1)), (3, .int (d (28 + 3 * k + 1))), (0, .ref 31)]) K 1 dX6_changesInARound_95 rfl rfl (by decide) rfl ?_
                refine v_goto (tgt := 4) K dX6_changesInARound_98 rfl ?_
                refine v_sub (lv2 := [(0, .ref 31), (1, .int (nI 1)), (2, .int (nI (k + 1)))]) (by simp) ?_
                exact ih4 ((flipS S2 k)) 1 (k + 1) ((u2 g 35 k (nI (1 - (bitN S2 k))))) (by first | assumption | omega | rfl) (by exact rnd_y hr (by unfold flipV comesV; rw [if_neg c3, if_pos (by omega)]; exact Int32.not_le.mp c4)) (by exact fl_lt hS2 (by omega)) (by first | assumption | omega | rfl) (by intro j hj; rw [fl_bit hS2 (by omega) hj]; by_cases q : j = k; (rw [if_pos q, q, u2_at]); rw [if_neg q, u2_ne (Or.inr q)]; exact hT j hj) (by exact hF.u (by omega) (by omega)) (by omega)
          · skip
            refine v_iload_n K dX6_changesInARound_39 rfl ?_
            refine v_aload_n K dX6_changesInARound_40 rfl ?_
            refine v_getr (q := 32) K fX6_9 sh_31 pl_31 gl_31_0 dX6_changesInARound_41 ?_
            refine v_iload_n K dX6_changesInARound_44 rfl ?_
            refine v_iald (x := d (28 + 3 * k)) K sh_32 pl_32 (by omega) ((congrFun (hF 32 (by omega)) _).trans (hV _ (by omega)).1) dX6_changesInARound_45 ?_
            refine v_icmp_ge (tgt := 53) K dX6_changesInARound_46 rfl (fun c7 => ?_) (fun c7 => ?_)
            · skip
              refine v_iconstN K 0 rfl dX6_changesInARound_53 ?_
              refine v_goto (tgt := 72) K dX6_changesInARound_54 rfl ?_
              refine v_istore (lv2 := [(4, .int (nI 0)), (3, .int (d (28 + 3 * k + 1))), (0, .ref 31), (1, .int (nI ch)), (2, .int (nI k))]) K dX6_changesInARound_72 (by decide) rfl ?_
              refine v_iload K dX6_changesInARound_74 rfl ?_
              refine v_ifN_eq (tgt := 95) K (by omega) dX6_changesInARound_76 rfl (fun c8 => ?_) (fun c8 => ?_)
              · skip
                refine v_iincN (lv2 := [(2, .int (nI (k + 1))), (4, .int (nI 0)), (3, .int (d (28 + 3 * k + 1))), (0, .ref 31), (1, .int (nI ch))]) K 1 dX6_changesInARound_95 rfl rfl (by decide) rfl ?_
                refine v_goto (tgt := 4) K dX6_changesInARound_98 rfl ?_
                refine v_sub (lv2 := [(0, .ref 31), (1, .int (nI ch)), (2, .int (nI (k + 1)))]) (by simp) ?_
                exact ih4 S2 ch (k + 1) g (by first | assumption | omega | rfl) (by exact rnd_n hr (by unfold flipV comesV; rw [if_pos c3, if_pos (by omega)]; exact Int32.not_lt.mpr c7)) (by exact hS2) (by first | assumption | omega | rfl) (by exact hT) (by exact hF) (by omega)
              · exact absurd c8 (by decide)
            · skip
              refine v_iconstN K 1 rfl dX6_changesInARound_49 ?_
              refine v_goto (tgt := 72) K dX6_changesInARound_50 rfl ?_
              refine v_istore (lv2 := [(4, .int (nI 1)), (3, .int (d (28 + 3 * k + 1))), (0, .ref 31), (1, .int (nI ch)), (2, .int (nI k))]) K dX6_changesInARound_72 (by decide) rfl ?_
              refine v_iload K dX6_changesInARound_74 rfl ?_
              refine v_ifN_eq (tgt := 95) K (by omega) dX6_changesInARound_76 rfl (fun c9 => ?_) (fun c9 => ?_)
              · exact absurd c9 (by decide)
              · skip
                refine v_aload_n K dX6_changesInARound_79 rfl ?_
                refine v_getr (q := 35) K fX6_25 sh_31 pl_31 gl_31_4 dX6_changesInARound_80 ?_
                refine v_iload_n K dX6_changesInARound_83 rfl ?_
                refine v_iconstN K 1 rfl dX6_changesInARound_84 ?_
                refine v_aload_n K dX6_changesInARound_85 rfl ?_
                refine v_getr (q := 35) K fX6_25 sh_31 pl_31 gl_31_4 dX6_changesInARound_86 ?_
                refine v_iload_n K dX6_changesInARound_89 rfl ?_
                refine v_iald (x := nI (bitN S2 k)) K sh_35 pl_35 (by omega) (hT _ (by omega)) dX6_changesInARound_90 ?_
                refine v_isubN K (by omega) dX6_changesInARound_91 ?_
                refine v_iast K sh_35 pl_35 (by omega) dX6_changesInARound_92 ?_
                refine v_iconstN K 1 rfl dX6_changesInARound_93 ?_
                refine v_istore_n (lv2 := [(1, .int (nI 1)), (4, .int (nI 1)), (3, .int (d (28 + 3 * k + 1))), (0, .ref 31), (2, .int (nI k))]) K dX6_changesInARound_94 (by decide) rfl ?_
                refine v_iincN (lv2 := [(2, .int (nI (k + 1))), (1, .int (nI 1)), (4, .int (nI 1)), (3, .int (d (28 + 3 * k + 1))), (0, .ref 31)]) K 1 dX6_changesInARound_95 rfl rfl (by decide) rfl ?_
                refine v_goto (tgt := 4) K dX6_changesInARound_98 rfl ?_
                refine v_sub (lv2 := [(0, .ref 31), (1, .int (nI 1)), (2, .int (nI (k + 1)))]) (by simp) ?_
                exact ih4 ((flipS S2 k)) 1 (k + 1) ((u2 g 35 k (nI (1 - (bitN S2 k))))) (by first | assumption | omega | rfl) (by exact rnd_y hr (by unfold flipV comesV; rw [if_pos c3, if_pos (by omega)]; exact Int32.not_le.mp c7)) (by exact fl_lt hS2 (by omega)) (by first | assumption | omega | rfl) (by intro j hj; rw [fl_bit hS2 (by omega) hj]; by_cases q : j = k; (rw [if_pos q, q, u2_at]); rw [if_neg q, u2_ne (Or.inr q)]; exact hT j hj) (by exact hF.u (by omega) (by omega)) (by omega)
        · skip
          refine v_iconstN K 0 rfl dX6_changesInARound_18 ?_
          refine v_goto (tgt := 28) K dX6_changesInARound_19 rfl ?_
          refine v_istore_n (lv2 := [(3, .int (nI 0)), (0, .ref 31), (1, .int (nI ch)), (2, .int (nI k))]) K dX6_changesInARound_28 (by decide) rfl ?_
          refine v_aload_n K dX6_changesInARound_29 rfl ?_
          refine v_getr (q := 35) K fX6_25 sh_31 pl_31 gl_31_4 dX6_changesInARound_30 ?_
          refine v_iload_n K dX6_changesInARound_33 rfl ?_
          refine v_iald (x := nI (bitN S2 k)) K sh_35 pl_35 (by omega) (hT _ (by omega)) dX6_changesInARound_34 ?_
          refine v_iconstN K 1 rfl dX6_changesInARound_35 ?_
          refine v_icmpN_ne (tgt := 57) K (by omega) (by omega) dX6_changesInARound_36 rfl (fun c10 => ?_) (fun c10 => ?_)
          · skip
            refine v_aload_n K dX6_changesInARound_57 rfl ?_
            refine v_getr (q := 32) K fX6_9 sh_31 pl_31 gl_31_0 dX6_changesInARound_58 ?_
            refine v_iload_n K dX6_changesInARound_61 rfl ?_
            refine v_iald (x := d (28 + 3 * k)) K sh_32 pl_32 (by omega) ((congrFun (hF 32 (by omega)) _).trans (hV _ (by omega)).1) dX6_changesInARound_62 ?_
            refine v_iload_n K dX6_changesInARound_63 rfl ?_
            refine v_icmp_ge (tgt := 71) K dX6_changesInARound_64 rfl (fun c11 => ?_) (fun c11 => ?_)
            · skip
              refine v_iconstN K 0 rfl dX6_changesInARound_71 ?_
              refine v_istore (lv2 := [(4, .int (nI 0)), (3, .int (nI 0)), (0, .ref 31), (1, .int (nI ch)), (2, .int (nI k))]) K dX6_changesInARound_72 (by decide) rfl ?_
              refine v_iload K dX6_changesInARound_74 rfl ?_
              refine v_ifN_eq (tgt := 95) K (by omega) dX6_changesInARound_76 rfl (fun c12 => ?_) (fun c12 => ?_)
              · skip
                refine v_iincN (lv2 := [(2, .int (nI (k + 1))), (4, .int (nI 0)), (3, .int (nI 0)), (0, .ref 31), (1, .int (nI ch))]) K 1 dX6_changesInARound_95 rfl rfl (by decide) rfl ?_
                refine v_goto (tgt := 4) K dX6_changesInARound_98 rfl ?_
                refine v_sub (lv2 := [(0, .ref 31), (1, .int (nI ch)), (2, .int (nI (k + 1)))]) (by simp) ?_
                exact ih4 S2 ch (k + 1) g (by first | assumption | omega | rfl) (by exact rnd_n hr (by unfold flipV comesV; rw [if_neg c10, if_neg (by omega)]; exact Int32.not_lt.mpr c11)) (by exact hS2) (by first | assumption | omega | rfl) (by exact hT) (by exact hF) (by omega)
              · exact absurd c12 (by decide)
            · skip
              refine v_iconstN K 1 rfl dX6_changesInARound_67 ?_
              refine v_goto (tgt := 72) K dX6_changesInARound_68 rfl ?_
              refine v_istore (lv2 := [(4, .int (nI 1)), (3, .int (nI 0)), (0, .ref 31), (1, .int (nI ch)), (2, .int (nI k))]) K dX6_changesInARound_72 (by decide) rfl ?_
              refine v_iload K dX6_changesInARound_74 rfl ?_
              refine v_ifN_eq (tgt := 95) K (by omega) dX6_changesInARound_76 rfl (fun c13 => ?_) (fun c13 => ?_)
              · exact absurd c13 (by decide)
              · skip
                refine v_aload_n K dX6_changesInARound_79 rfl ?_
                refine v_getr (q := 35) K fX6_25 sh_31 pl_31 gl_31_4 dX6_changesInARound_80 ?_
                refine v_iload_n K dX6_changesInARound_83 rfl ?_
                refine v_iconstN K 1 rfl dX6_changesInARound_84 ?_
                refine v_aload_n K dX6_changesInARound_85 rfl ?_
                refine v_getr (q := 35) K fX6_25 sh_31 pl_31 gl_31_4 dX6_changesInARound_86 ?_
                refine v_iload_n K dX6_changesInARound_89 rfl ?_
                refine v_iald (x := nI (bitN S2 k)) K sh_35 pl_35 (by omega) (hT _ (by omega)) dX6_changesInARound_90 ?_
                refine v_isubN K (by omega) dX6_changesInARound_91 ?_
                refine v_iast K sh_35 pl_35 (by omega) dX6_changesInARound_92 ?_
                refine v_iconstN K 1 rfl dX6_changesInARound_93 ?_
                refine v_istore_n (lv2 := [(1, .int (nI 1)), (4, .int (nI 1)), (3, .int (nI 0)), (0, .ref 31), (2, .int (nI k))]) K dX6_changesInARound_94 (by decide) rfl ?_
                refine v_iincN (lv2 := [(2, .int (nI (k + 1))), (1, .int (nI 1)), (4, .int (nI 1)), (3, .int (nI 0)), (0, .ref 31)]) K 1 dX6_changesInARound_95 rfl rfl (by decide) rfl ?_
                refine v_goto (tgt := 4) K dX6_changesInARound_98 rfl ?_
                refine v_sub (lv2 := [(0, .ref 31), (1, .int (nI 1)), (2, .int (nI (k + 1)))]) (by simp) ?_
                exact ih4 ((flipS S2 k)) 1 (k + 1) ((u2 g 35 k (nI (1 - (bitN S2 k))))) (by first | assumption | omega | rfl) (by exact rnd_y hr (by unfold flipV comesV; rw [if_neg c10, if_neg (by omega)]; exact Int32.not_le.mp c11)) (by exact fl_lt hS2 (by omega)) (by first | assumption | omega | rfl) (by intro j hj; rw [fl_bit hS2 (by omega) hj]; by_cases q : j = k; (rw [if_pos q, q, u2_at]); rw [if_neg q, u2_ne (Or.inr q)]; exact hT j hj) (by exact hF.u (by omega) (by omega)) (by omega)
          · skip
            refine v_iload_n K dX6_changesInARound_39 rfl ?_
            refine v_aload_n K dX6_changesInARound_40 rfl ?_
            refine v_getr (q := 32) K fX6_9 sh_31 pl_31 gl_31_0 dX6_changesInARound_41 ?_
            refine v_iload_n K dX6_changesInARound_44 rfl ?_
            refine v_iald (x := d (28 + 3 * k)) K sh_32 pl_32 (by omega) ((congrFun (hF 32 (by omega)) _).trans (hV _ (by omega)).1) dX6_changesInARound_45 ?_
            refine v_icmp_ge (tgt := 53) K dX6_changesInARound_46 rfl (fun c14 => ?_) (fun c14 => ?_)
            · skip
              refine v_iconstN K 0 rfl dX6_changesInARound_53 ?_
              refine v_goto (tgt := 72) K dX6_changesInARound_54 rfl ?_
              refine v_istore (lv2 := [(4, .int (nI 0)), (3, .int (nI 0)), (0, .ref 31), (1, .int (nI ch)), (2, .int (nI k))]) K dX6_changesInARound_72 (by decide) rfl ?_
              refine v_iload K dX6_changesInARound_74 rfl ?_
              refine v_ifN_eq (tgt := 95) K (by omega) dX6_changesInARound_76 rfl (fun c15 => ?_) (fun c15 => ?_)
              · skip
                refine v_iincN (lv2 := [(2, .int (nI (k + 1))), (4, .int (nI 0)), (3, .int (nI 0)), (0, .ref 31), (1, .int (nI ch))]) K 1 dX6_changesInARound_95 rfl rfl (by decide) rfl ?_
                refine v_goto (tgt := 4) K dX6_changesInARound_98 rfl ?_
                refine v_sub (lv2 := [(0, .ref 31), (1, .int (nI ch)), (2, .int (nI (k + 1)))]) (by simp) ?_
                exact ih4 S2 ch (k + 1) g (by first | assumption | omega | rfl) (by exact rnd_n hr (by unfold flipV comesV; rw [if_pos c10, if_neg (by omega)]; exact Int32.not_lt.mpr c14)) (by exact hS2) (by first | assumption | omega | rfl) (by exact hT) (by exact hF) (by omega)
              · exact absurd c15 (by decide)
            · skip
              refine v_iconstN K 1 rfl dX6_changesInARound_49 ?_
              refine v_goto (tgt := 72) K dX6_changesInARound_50 rfl ?_
              refine v_istore (lv2 := [(4, .int (nI 1)), (3, .int (nI 0)), (0, .ref 31), (1, .int (nI ch)), (2, .int (nI k))]) K dX6_changesInARound_72 (by decide) rfl ?_
              refine v_iload K dX6_changesInARound_74 rfl ?_
              refine v_ifN_eq (tgt := 95) K (by omega) dX6_changesInARound_76 rfl (fun c16 => ?_) (fun c16 => ?_)
              · exact absurd c16 (by decide)
              · skip
                refine v_aload_n K dX6_changesInARound_79 rfl ?_
                refine v_getr (q := 35) K fX6_25 sh_31 pl_31 gl_31_4 dX6_changesInARound_80 ?_
                refine v_iload_n K dX6_changesInARound_83 rfl ?_
                refine v_iconstN K 1 rfl dX6_changesInARound_84 ?_
                refine v_aload_n K dX6_changesInARound_85 rfl ?_
                refine v_getr (q := 35) K fX6_25 sh_31 pl_31 gl_31_4 dX6_changesInARound_86 ?_
                refine v_iload_n K dX6_changesInARound_89 rfl ?_
                refine v_iald (x := nI (bitN S2 k)) K sh_35 pl_35 (by omega) (hT _ (by omega)) dX6_changesInARound_90 ?_
                refine v_isubN K (by omega) dX6_changesInARound_91 ?_
                refine v_iast K sh_35 pl_35 (by omega) dX6_changesInARound_92 ?_
                refine v_iconstN K 1 rfl dX6_changesInARound_93 ?_
                refine v_istore_n (lv2 := [(1, .int (nI 1)), (4, .int (nI 1)), (3, .int (nI 0)), (0, .ref 31), (2, .int (nI k))]) K dX6_changesInARound_94 (by decide) rfl ?_
                refine v_iincN (lv2 := [(2, .int (nI (k + 1))), (1, .int (nI 1)), (4, .int (nI 1)), (3, .int (nI 0)), (0, .ref 31)]) K 1 dX6_changesInARound_95 rfl rfl (by decide) rfl ?_
                refine v_goto (tgt := 4) K dX6_changesInARound_98 rfl ?_
                refine v_sub (lv2 := [(0, .ref 31), (1, .int (nI 1)), (2, .int (nI (k + 1)))]) (by simp) ?_
                exact ih4 ((flipS S2 k)) 1 (k + 1) ((u2 g 35 k (nI (1 - (bitN S2 k))))) (by first | assumption | omega | rfl) (by exact rnd_y hr (by unfold flipV comesV; rw [if_pos c10, if_neg (by omega)]; exact Int32.not_le.mp c14)) (by exact fl_lt hS2 (by omega)) (by first | assumption | omega | rfl) (by intro j hj; rw [fl_bit hS2 (by omega) hj]; by_cases q : j = k; (rw [if_pos q, q, u2_at]); rw [if_neg q, u2_ne (Or.inr q)]; exact hT j hj) (by exact hF.u (by omega) (by omega)) (by omega)
  refine v_sub (lv2 := [(0, .ref 31), (1, .int (nI 0)), (2, .int (nI 0))]) (by simp) ?_
  exact L4 (7 - 0 + 1) S 0 0 h (by first | assumption | omega | rfl) (by rfl) (by exact hS) (by first | assumption | omega | rfl) (by exact ht) (by exact FrO.r) (Nat.lt_succ_self _)

abbrev P_X6_settle (h : Mm) (d : Dm) : Option Value → Mm → Prop := fun r h2 => r = none ∧ h2 31 3 = (if (vilR d).2.2 = 1 then (-1) else nI (vilR d).2.1) ∧ (VT h2 (vilR d).1 ∧ (vilR d).1 < 64) ∧ ∀ a, a ≠ 31 → a ≠ 35 → h2 a = h a
theorem c_X6_settle {l : Launch} (h : Mm) (d : Dm) (hV : VX 31 h d) (hb : ∀ y, y < 6 → ix (d (28 + 3 * y + 2)) 2) : Con l yX6_settle cX6_settle 2 none 2 60 132 GL h [.ref 31] (P_X6_settle h d) := by
  refine Con.ofV (own := "FoxRounds$Village") (nm := "settle") rfl rfl (by decide) (Nat.le_of_ble_eq_true rfl) ?_
  intro κ ρ hkl K
  subst hkl
  show V κ (QM κ (132, ρ, GL, 0, 0) (P_X6_settle h d)) 2 (132, ρ, GL, 0, 0) h 0 [(0, .ref 31)] []
  obtain ⟨hs0, hs1⟩ := sh_bit hb
  refine v_aload_n K dX6_settle_0 rfl ?_
  refine v_getr (q := 34) K fX6_18 sh_31 pl_31 gl_31_2 dX6_settle_1 ?_
  refine v_iconstN K 0 rfl dX6_settle_4 ?_
  refine v_aload_n K dX6_settle_5 rfl ?_
  refine v_getr (q := 35) K fX6_25 sh_31 pl_31 gl_31_4 dX6_settle_6 ?_
  refine v_iconstN K 0 rfl dX6_settle_9 ?_
  refine v_bipushN K 6 rfl dX6_settle_10 ?_
  refine v_copy K jX6_28 jna_copy jst_copy jin_sys sh_34 sh_35 (Or.inl rfl) pl_34 pl_35 (by omega) (by omega) ⟨by decide, by decide⟩ (Nat.le_of_ble_eq_true rfl) dX6_settle_12 ?_
  refine v_aload_n K dX6_settle_15 rfl ?_
  refine v_iconst (v := (-1)) K dX6_settle_16 (by decide) ?_
  refine v_puti K pX6_21 sh_31 pl_31 dX6_settle_17 ?_
  refine v_iconstN K 1 rfl dX6_settle_20 ?_
  refine v_istore_n (lv2 := [(1, .int (nI 1)), (0, .ref 31)]) K dX6_settle_21 (by decide) rfl ?_
  have L22 : ∀ (mm : Nat) (S : Nat) (r : Nat) (g : Mm) (hr : 1 ≤ r ∧ r ≤ 21) (hv : vilR d = vilG d (21 - r) (r - 1) S) (hS : S < 64) (hT : VT g S) (hm1 : g 31 3 = (-1)) (hG : ∀ a, a ≠ 31 → a ≠ 35 → g a = h a), 22 - r < mm → V κ (QM κ (132, ρ, GL, 0, 0) (P_X6_settle h d)) 2 (132, ρ, GL, 0, 0) g 22 [(0, .ref 31), (1, .int (nI r))] [] := by
    intro mm
    induction mm with
    | zero => intro S r g hr hv hS hT hm1 hG hmm; exact absurd hmm (Nat.not_lt_zero _)
    | succ mm ih22 =>
      intro S r g hr hv hS hT hm1 hG hmm
      have hV1 : VX 31 g d := fun y hy => by rw [hG (31 + 1) (by omega) (by omega), hG (31 + 2) (by omega) (by omega), hG (31 + 3) (by omega) (by omega)]; exact hV y hy
      refine v_iload_n K dX6_settle_22 rfl ?_
      refine v_bipushN K 20 rfl dX6_settle_23 ?_
      refine v_icmpN_gt (tgt := 47) K (by omega) (by omega) dX6_settle_25 rfl (fun c1 => ?_) (fun c1 => ?_)
      · skip
        refine v_vret K dX6_settle_47 ?_
        have hv2 : vilR d = (S, 20, 1) := by rw [hv, show 21 - r = 0 by omega, show r - 1 = 20 by omega]; rfl
        exact ⟨rfl, by rw [hv2]; exact hm1, by rw [hv2]; exact ⟨hT, hS⟩, hG⟩
      · skip
        refine v_aload_n K dX6_settle_28 rfl ?_
        refine v_callV (As := []) K (c_X6_changesInARound g d S hV1 hS hT) lX6_34 ck_X6 rfl sh_31 pl_31 rfl ⟨by decide, by decide⟩ (Nat.le_of_ble_eq_true rfl) dX6_settle_29 (fun r1 h1 hp1 => ?_) rfl
        obtain ⟨rfl, hT2, hF2⟩ := hp1
        refine v_some ?_
        refine v_ifB_ne (tgt := 41) K dX6_settle_32 rfl (fun c2 => ?_) (fun c2 => ?_)
        · skip
          refine v_iincN (lv2 := [(1, .int (nI (r + 1))), (0, .ref 31)]) K 1 dX6_settle_41 rfl rfl (by decide) rfl ?_
          refine v_goto (tgt := 22) K dX6_settle_44 rfl ?_
          refine v_sub (lv2 := [(0, .ref 31), (1, .int (nI (r + 1)))]) (by simp) ?_
          exact ih22 (((rndV d S 6).1)) (r + 1) h1 (by omega) (by rw [hv, show 21 - r = (21 - (r + 1)) + 1 by omega, vil_o (S2 := (rndV d S 6).1) (c := (rndV d S 6).2) rfl c2, show r - 1 + 1 = r + 1 - 1 by omega]) (by exact rnd_lt hS 6 (by omega)) (by exact hT2) (by rw [hF2 31 (by omega)]; exact hm1) (by intro a a1 a2; rw [hF2 a (by omega)]; exact hG a a1 a2) (by omega)
        · skip
          refine v_aload_n K dX6_settle_35 rfl ?_
          refine v_iload_n K dX6_settle_36 rfl ?_
          refine v_puti K pX6_21 sh_31 pl_31 dX6_settle_37 ?_
          refine v_vret K dX6_settle_40 ?_
          have hz : (rndV d S 6).2 = 0 := Classical.byContradiction c2
          have hv2 : vilR d = ((rndV d S 6).1, r, 0) := by rw [hv, show 21 - r = (20 - r) + 1 by omega, vil_e (S2 := (rndV d S 6).1) (by rw [← hz]), show r - 1 + 1 = r by omega]
          exact ⟨rfl, by rw [hv2, u2_at]; rfl, by rw [hv2]; exact ⟨fun j hj => by rw [u2_off (by omega)]; exact hT2 j hj, rnd_lt hS 6 (by omega)⟩, fun a a1 a2 => by rw [u2_off a1, hF2 a (by omega)]; exact hG a a1 a2⟩
  refine v_sub (lv2 := [(0, .ref 31), (1, .int (nI 1))]) (by simp) ?_
  exact L22 (22 - 1 + 1) ((shutS d 6)) 1 ((u2 (rw2 h 35 (va_cpy (h 34) (h 35) 0 0 6)) 31 3 ((-1)))) (by omega) (by rfl) (by exact hs0) (by intro j hj; rw [u2_off (by omega), rw2_at, sb_cpy0 hj]; exact (hV j hj).2.2.trans (hs1 j hj)) (by exact u2_at) (by intro a a1 a2; rw [u2_off a1, rw2_off a2]) (Nat.lt_succ_self _)

abbrev P_X9_village (cM h s : Mm) (τ τk : Nat → List Int32) (k : Int32) : Option Value → Mm → Prop := fun r h2 => r = some (.int (Y_village s k).1) ∧ CX cM h2 (Y_village s k).2 τ τk
theorem c_X9_village {l : Launch} (cM h s : Mm) (τ τk : Nat → List Int32) (k : Int32) (hC : CX cM h s τ τk) (hI : INV s τ τk) : Con l yX9_village cX9_village 2 (some .int) 3 81 132 GL h [.ref 0, .int k] (P_X9_village cM h s τ τk k) := by
  refine Con.ofV (own := "FoxRounds") (nm := "village") rfl rfl (by decide) (Nat.le_of_ble_eq_true rfl) ?_
  intro κ ρ hkl K
  subst hkl
  show V κ (QM κ (132, ρ, GL, 0, 0) (P_X9_village cM h s τ τk k)) 2 (132, ρ, GL, 0, 0) h 0 [(0, .ref 0), (1, .int k)] []
  have hd := hI.d
  have hn8 := hd.nw8
  have ht5 := hd.nt5
  refine v_iload_n K dX9_village_0 rfl ?_
  refine v_iconstN K 0 rfl dX9_village_1 ?_
  refine v_iconstN K 1 rfl dX9_village_2 ?_
  refine v_callS (As := [.int k, .int (nI 0), .int (nI 1)]) K (c_X9_within h k (nI 0) (nI 1)) lX9_65 rfl ⟨by decide, by decide⟩ (Nat.le_of_ble_eq_true rfl) dX9_village_3 (fun r1 h1 hp1 => ?_) rfl
  obtain ⟨rfl, rfl⟩ := hp1
  refine v_some ?_
  rw [show (nI 0 ≤ k ∧ k ≤ nI 1) = ix k 2 from in_ix (by decide)]
  refine v_ifB_ne (tgt := 15) K dX9_village_6 rfl (fun c1 => ?_) (fun c1 => ?_)
  · skip
    obtain ⟨j1, Hj1, rfl⟩ := c1
    refine v_aload_n K dX9_village_15 rfl ?_
    refine v_getr (q := 1) K fX9_10 sh_0 pl_0 gl_0_0 dX9_village_16 ?_
    refine v_getr (q := 31) K fX9_243 sh_1 pl_1 gl_1_2 dX9_village_19 ?_
    refine v_callV (As := []) K (c_X6_settle h (s 119) hC.W.2.2.1 hI.1.1.2.2.2.2.1) lX9_258 ck_X6 rfl sh_31 pl_31 rfl ⟨by decide, by decide⟩ (Nat.le_of_ble_eq_true rfl) dX9_village_22 (fun r2 h2 hp2 => ?_) rfl
    obtain ⟨rfl, hz3, ⟨hzT, hzS⟩, hzF⟩ := hp2
    have hCz : CX cM h2 s τ τk := CX.sc hC ⟨fun a q => by unfold scrA at q; exact hzF a (by omega) (by omega), fun k _ => by rw [hzF 2 (by omega) (by omega)]⟩
    refine v_none ?_
    refine v_iload_n K dX9_village_25 rfl ?_
    refine v_ifN_ne (tgt := 42) K (by omega) dX9_village_26 rfl (fun c2 => ?_) (fun c2 => ?_)
    · skip
      refine v_aload_n K dX9_village_42 rfl ?_
      refine v_getr (q := 1) K fX9_10 sh_0 pl_0 gl_0_0 dX9_village_43 ?_
      refine v_getr (q := 31) K fX9_243 sh_1 pl_1 gl_1_2 dX9_village_46 ?_
      refine v_callV (As := []) K (c_X6_shutThen h2 (vilR (s 119)).1 hzS hzT) lX9_264 ck_X6 rfl sh_31 pl_31 rfl ⟨by decide, by decide⟩ (Nat.le_of_ble_eq_true rfl) dX9_village_49 (fun r3 h3 hp3 => ?_) rfl
      obtain ⟨rfl, rfl⟩ := hp3
      refine v_some ?_
      refine v_iret K dX9_village_52 ?_
      have eY : Y_village s (nI j1) = (nI ((vilR (s 119)).1), s) := by
        unfold Y_village
        refine (@if_neg _ (Classical.propDecidable _) (fun q => q (by first | assumption | exact ⟨_, by assumption, rfl⟩ | exact Or.inl rfl | exact Or.inr (Or.inl rfl) | exact Or.inr (Or.inr rfl) | omega)) _ _ _).trans ?_
        refine (@if_pos _ (Classical.propDecidable _) (by rw [show j1 = 1 by omega]) _ _ _).trans ?_
        rfl
      exact xfin eY hCz
    · skip
      refine v_aload_n K dX9_village_29 rfl ?_
      refine v_getr (q := 1) K fX9_10 sh_0 pl_0 gl_0_0 dX9_village_30 ?_
      refine v_getr (q := 31) K fX9_243 sh_1 pl_1 gl_1_2 dX9_village_33 ?_
      refine v_geti (x := if (vilR (s 119)).2.2 = 1 then (-1) else nI (vilR (s 119)).2.1) K fX9_261 sh_31 pl_31 hz3 dX9_village_36 ?_
      refine v_goto (tgt := 52) K dX9_village_39 rfl ?_
      refine v_iret K dX9_village_52 ?_
      have eY : Y_village s (nI j1) = (if (vilR (s 119)).2.2 = 1 then (-1) else nI (vilR (s 119)).2.1, s) := by
        unfold Y_village
        refine (@if_neg _ (Classical.propDecidable _) (fun q => q (by first | assumption | exact ⟨_, by assumption, rfl⟩ | exact Or.inl rfl | exact Or.inr (Or.inl rfl) | exact Or.inr (Or.inr rfl) | omega)) _ _ _).trans ?_
        refine (@if_neg _ (Classical.propDecidable _) (fun q => absurd (nI_inj (by omega) (by omega) q) (by omega)) _ _ _).trans ?_
        rfl
      exact xfin eY hCz
  · skip
    refine v_aload_n K dX9_village_9 rfl ?_
    refine v_iconstN K 1 rfl dX9_village_10 ?_
    refine v_callV (As := [.int (nI 1)]) K (c_X9_error h 1 (by omega)) lX9_75 ck_X9 rfl sh_0 pl_0 rfl ⟨by decide, by decide⟩ (Nat.le_of_ble_eq_true rfl) dX9_village_11 (fun r4 h4 hp4 => ?_) rfl
    obtain ⟨rfl, rfl⟩ := hp4
    refine v_some ?_
    have hCe1 : CX cM (u2 h 109 1 (h 109 1 + nI 1)) (u2 s 122 1 (s 122 1 + nI 1)) τ τk := CX.er hC (by omega) (by omega)
    refine v_iret K dX9_village_14 ?_
    have eY : Y_village s k = ((-1000000000) - nI 1, (u2 s 122 1 (s 122 1 + nI 1))) := by
      unfold Y_village
      refine (@if_pos _ (Classical.propDecidable _) (fun q => absurd q (by assumption)) _ _ _).trans ?_
      first | rfl | (rfl)
    exact xfin eY hCe1
