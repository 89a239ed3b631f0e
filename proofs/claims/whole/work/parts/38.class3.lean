theorem CX.sx {c h h2 s s2 : Mm} {τ τk : Nat → List Int32} (H : CX c h s τ τk) (hs : CXs h2 s2) (F : ∀ a, a < 110 ∨ 118 ≤ a → h2 a = h a) (e : ∀ a, a ≠ 128 → a ≠ 129 → a ≠ 130 → s2 a = s a) : CX c h2 s2 τ τk :=
  ⟨by rw [e 119 (by omega) (by omega) (by omega)]; exact H.W.far (fun a q1 q2 => F a (by omega)), H.2.1.far (by rw [F 0 (by omega)]) (fun a q1 q2 => F a (by omega)) (by rw [e 118 (by omega) (by omega) (by omega)]) (e 121 (by omega) (by omega) (by omega)), H.2.2.1.far (F 109 (by omega)) (e 122 (by omega) (by omega) (by omega)),
   H.2.2.2.1.far (by rw [F 106 (by omega)]) (F 107 (by omega)) (by rw [e 118 (by omega) (by omega) (by omega)]) (e 127 (by omega) (by omega) (by omega)), hs, fun a ha => (F a (by omega)).trans (H.2.2.2.2.2 a ha)⟩
theorem CXs.re {h s : Mm} {j : Nat} {b n n' : Int32} (H : CXs h s) (hj : j < 4) (hn : n = n') : CXs (rw2 (u2 (u2 h (110 + 2 * j) 0 b) (110 + 2 * j) 1 n) (111 + 2 * j) (zerR (h (111 + 2 * j)) 0 40)) (rw2 (u2 (u2 s 128 j b) 129 j n') 130 (zerR (s 130) (40 * j) 40)) := by
  intro i hi
  obtain ⟨h1, h2, h3⟩ := H i hi
  by_cases e : i = j
  · subst e
    refine ⟨?_, ?_, fun k hk => ?_⟩
    · rw [rw2_off (by omega), u2_ne (by omega), u2_at, rw2_off (by omega), u2_ne (by omega), u2_at]
    · rw [rw2_off (by omega), u2_at, rw2_off (by omega), u2_at, hn]
    · rw [rw2_at, rw2_at]; unfold zerR; rw [if_pos (by omega), if_pos (by omega)]
  · refine ⟨?_, ?_, fun k hk => ?_⟩
    · rw [rw2_off (by omega), u2_ne (by omega), u2_ne (by omega), rw2_off (by omega), u2_ne (by omega), u2_ne (by omega)]; exact h1
    · rw [rw2_off (by omega), u2_ne (by omega), u2_ne (by omega), rw2_off (by omega), u2_ne (by omega), u2_ne (by omega)]; exact h2
    · rw [rw2_off (by omega), u2_off (by omega), u2_off (by omega), rw2_at]; unfold zerR; rw [if_neg (by omega)]; exact h3 k hk
theorem CXs.ch {h s : Mm} {j i : Nat} {v : Int32} (H : CXs h s) (hj : j < 4) (hi : i < 40) : CXs (u2 h (111 + 2 * j) i v) (u2 s 130 (40 * j + i) v) := by
  intro x hx
  obtain ⟨h1, h2, h3⟩ := H x hx
  refine ⟨?_, ?_, fun k hk => ?_⟩
  · rw [u2_ne (by omega), u2_ne (by omega)]; exact h1
  · rw [u2_ne (by omega), u2_ne (by omega)]; exact h2
  · by_cases e : x = j ∧ k = i
    · obtain ⟨rfl, rfl⟩ := e; rw [u2_at, u2_at]
    · rw [u2_ne (by omega), u2_ne (by omega)]; exact h3 k hk
theorem CXs.mv {h s : Mm} {w o i j n : Nat} (H : CXs h s) (hw : w < 4) (ho : o < 4) (hi : i + n ≤ 40) (hj : j + n ≤ 40) : CXs (rw2 h (111 + 2 * o) (va_cpy (h (111 + 2 * w)) (h (111 + 2 * o)) i j n)) (rw2 s 130 (movR (s 130) (40 * w + i) (40 * o + j) n)) := by
  intro x hx
  obtain ⟨h1, h2, h3⟩ := H x hx
  refine ⟨?_, ?_, fun k hk => ?_⟩
  · rw [rw2_off (by omega), rw2_off (by omega)]; exact h1
  · rw [rw2_off (by omega), rw2_off (by omega)]; exact h2
  · rw [rw2_at]
    by_cases e : x = o
    · subst e
      rw [rw2_at]
      unfold va_cpy movR
      by_cases q : j ≤ k ∧ k < j + n
      · rw [if_pos q, if_pos (by omega), (H w hw).2.2 _ (by omega)]; congr 1; omega
      · rw [if_neg q, if_neg (by omega)]; exact h3 k hk
    · rw [rw2_off (by omega)]
      unfold movR
      rw [if_neg (by omega)]; exact h3 k hk
def holdP (z : Nat) (i n : Int32) : Prop := ∃ a b, i = nI a ∧ n = nI b ∧ a + b ≤ z
theorem hold_iff {z : Nat} {i n : Int32} (hz : z ≤ 40) : holdP z i n ↔ ((0 ≤ i ∧ 0 ≤ n) ∧ n ≤ nI z ∧ i ≤ nI z - n) := by
  constructor
  · rintro ⟨a, b, rfl, rfl, h⟩
    rw [pk_sub (by omega)]
    simp only [i32_le]
    rw [nI_toInt (by omega), nI_toInt (by omega), nI_toInt (by omega), nI_toInt (by omega), show (0 : Int32).toInt = 0 from rfl]
    omega
  · rintro ⟨⟨h1, h2⟩, h3, h4⟩
    obtain ⟨a, ha, rfl⟩ := nN_of (x := i) (Int32.not_lt.mpr h1)
    obtain ⟨b, hb, rfl⟩ := nN_of (x := n) (Int32.not_lt.mpr h2)
    have h3 : b ≤ z := (nI_leI hb (by omega)).mp h3
    rw [pk_sub h3] at h4
    have h4 : a ≤ z - b := (nI_leI ha (by omega)).mp h4
    exact ⟨a, b, rfl, rfl, by omega⟩
theorem subI {z a : Nat} (hz : z < 2 ^ 30) (ha : a < 2 ^ 31) : (nI z - nI a).toInt = (z : Int) - a := by
  rw [Int32.toInt_sub, nI_toInt (by omega), nI_toInt ha, Int.bmod_eq_of_le] <;> omega
theorem hold_mv {z y : Nat} {i j n : Int32} (hz : z ≤ 40) (hy : y ≤ 40) : (holdP z i n ∧ holdP y j n) ↔ (nI 0 ≤ n ∧ nI 0 ≤ i ∧ nI 0 ≤ j ∧ n ≤ nI z - i ∧ n ≤ nI y - j) := by
  constructor
  · rintro ⟨⟨a, b, rfl, rfl, h⟩, ⟨a2, b2, rfl, e, h2⟩⟩
    have := nI_inj (by omega) (by omega) e
    subst this
    rw [pk_sub (by omega), pk_sub (by omega)]
    refine ⟨(nI_leI (by omega) (by omega)).mpr (by omega), (nI_leI (by omega) (by omega)).mpr (by omega), (nI_leI (by omega) (by omega)).mpr (by omega), (nI_leI (by omega) (by omega)).mpr (by omega), (nI_leI (by omega) (by omega)).mpr (by omega)⟩
  · rintro ⟨h1, h2, h3, h4, h5⟩
    obtain ⟨b, hb, rfl⟩ := nN_of (x := n) (Int32.not_lt.mpr h1)
    obtain ⟨a, ha, rfl⟩ := nN_of (x := i) (Int32.not_lt.mpr h2)
    obtain ⟨a2, ha2, rfl⟩ := nN_of (x := j) (Int32.not_lt.mpr h3)
    rw [i32_le, subI (by omega) (by omega), nI_toInt (by omega)] at h4 h5
    exact ⟨⟨a, b, rfl, rfl, by omega⟩, ⟨a2, b, rfl, rfl, by omega⟩⟩

abbrev P_X4_isMissing (h : Mm) (j : Nat) : Option Value → Mm → Prop := fun r h2 => r = some (.int (b2i (h (110 + 2 * j) 0 = nI 0))) ∧ h = h2
theorem c_X4_isMissing {l : Launch} (h : Mm) (j : Nat) (hj : j < 4) : Con l yX4_isMissing cX4_isMissing 1 (some .boolean) 0 0 132 GL h [.ref (110 + 2 * j)] (P_X4_isMissing h j) := by
  refine Con.ofV (own := "FoxRounds$Sheet") (nm := "isMissing") rfl rfl (by decide) (Nat.le_of_ble_eq_true rfl) ?_
  intro κ ρ hkl K
  subst hkl
  show V κ (QM κ (132, ρ, GL, 0, 0) (P_X4_isMissing h j)) 1 (132, ρ, GL, 0, 0) h 0 [(0, .ref (110 + 2 * j))] []
  refine v_aload_n K dX4_isMissing_0 rfl ?_
  refine v_geti (x := h (110 + 2 * j) 0) K fX4_9 (sh_S (by omega)) (pl_S (by omega)) rfl dX4_isMissing_1 ?_
  refine v_if_ne (tgt := 11) K dX4_isMissing_4 rfl (fun c1 => ?_) (fun c1 => ?_)
  · skip
    refine v_iconstN K 0 rfl dX4_isMissing_11 ?_
    refine v_zret K dX4_isMissing_12 (by decide) ?_
    exact ⟨some_int (b2i_f c1).symm, rfl⟩
  · skip
    refine v_iconstN K 1 rfl dX4_isMissing_7 ?_
    refine v_goto (tgt := 12) K dX4_isMissing_8 rfl ?_
    refine v_zret K dX4_isMissing_12 (by decide) ?_
    exact ⟨some_int (b2i_t c1).symm, rfl⟩

abbrev P_X4_renew (h : Mm) (j : Nat) (b n : Int32) : Option Value → Mm → Prop := fun r h2 => r = none ∧ rw2 (u2 (u2 h (110 + 2 * j) 0 b) (110 + 2 * j) 1 (if nI 40 < n then nI 40 else n)) (111 + 2 * j) (zerR (h (111 + 2 * j)) 0 40) = h2
theorem c_X4_renew {l : Launch} (h : Mm) (j : Nat) (b n : Int32) (hj : j < 4) : Con l yX4_renew cX4_renew 4 none 1 21 132 GL h [.ref (110 + 2 * j), .int b, .int n] (P_X4_renew h j b n) := by
  refine Con.ofV (own := "FoxRounds$Sheet") (nm := "renew") rfl rfl (by decide) (Nat.le_of_ble_eq_true rfl) ?_
  intro κ ρ hkl K
  subst hkl
  show V κ (QM κ (132, ρ, GL, 0, 0) (P_X4_renew h j b n)) 4 (132, ρ, GL, 0, 0) h 0 [(0, .ref (110 + 2 * j)), (1, .int b), (2, .int n)] []
  refine v_aload_n K dX4_renew_0 rfl ?_
  refine v_iload_n K dX4_renew_1 rfl ?_
  refine v_puti K pX4_9 (sh_S (by omega)) (pl_S (by omega)) dX4_renew_2 ?_
  refine v_aload_n K dX4_renew_5 rfl ?_
  refine v_iload_n K dX4_renew_6 rfl ?_
  refine v_bipushN K 40 rfl dX4_renew_7 ?_
  refine v_min K jX4_22 jst_min jin_math jco_min ⟨by decide, by decide, Nat.zero_le _, Nat.zero_le _⟩ (Nat.le_of_ble_eq_true rfl) dX4_renew_9 ?_
  refine v_puti K pX4_15 (sh_S (by omega)) (pl_S (by omega)) dX4_renew_12 ?_
  refine v_iconstN K 0 rfl dX4_renew_15 ?_
  refine v_istore_n (lv2 := [(3, .int (nI 0)), (0, .ref (110 + 2 * j)), (1, .int b), (2, .int n)]) K dX4_renew_16 (by decide) rfl ?_
  have L17 : ∀ (mm : Nat) (k : Nat) (g : Mm) (hk : k ≤ 40) (hg : g = rw2 (u2 (u2 h (110 + 2 * j) 0 b) (110 + 2 * j) 1 (if nI 40 < n then nI 40 else n)) (111 + 2 * j) (zerR (h (111 + 2 * j)) 0 k)), 41 - k < mm → V κ (QM κ (132, ρ, GL, 0, 0) (P_X4_renew h j b n)) 4 (132, ρ, GL, 0, 0) g 17 [(0, .ref (110 + 2 * j)), (1, .int b), (2, .int n), (3, .int (nI k))] [] := by
    intro mm
    induction mm with
    | zero => intro k g hk hg hmm; exact absurd hmm (Nat.not_lt_zero _)
    | succ mm ih17 =>
      intro k g hk hg hmm
      refine v_iload_n K dX4_renew_17 rfl ?_
      refine v_bipushN K 40 rfl dX4_renew_18 ?_
      refine v_icmpN_ge (tgt := 36) K (by omega) (by omega) dX4_renew_20 rfl (fun c1 => ?_) (fun c1 => ?_)
      · skip
        refine v_vret K dX4_renew_36 ?_
        obtain rfl : k = 40 := by omega
        exact ⟨rfl, hg.symm⟩
      · skip
        refine v_aload_n K dX4_renew_23 rfl ?_
        refine v_getr (q := 111 + 2 * j) K fX4_18 (sh_S (by omega)) (pl_S (by omega)) (gl_Sr (by omega)) dX4_renew_24 ?_
        refine v_iload_n K dX4_renew_27 rfl ?_
        refine v_iconstN K 0 rfl dX4_renew_28 ?_
        refine v_iast K (sh_Sr (by omega)) (pl_S (by omega)) (by omega) dX4_renew_29 ?_
        refine v_iincN (lv2 := [(3, .int (nI (k + 1))), (0, .ref (110 + 2 * j)), (1, .int b), (2, .int n)]) K 1 dX4_renew_30 rfl rfl (by decide) rfl ?_
        refine v_goto (tgt := 17) K dX4_renew_33 rfl ?_
        refine v_sub (lv2 := [(0, .ref (110 + 2 * j)), (1, .int b), (2, .int n), (3, .int (nI (k + 1)))]) (by simp) ?_
        exact ih17 (k + 1) ((u2 g (111 + 2 * j) k (nI 0))) (by first | assumption | omega | rfl) (by have e := zer_s (f := h (111 + 2 * j)) (a := 0) (n := k); rw [Nat.zero_add] at e; rw [hg, u2_rw (h := rw2 _ _ _), rw2_rw2, rw2_at, e]) (by omega)
  refine v_sub (lv2 := [(0, .ref (110 + 2 * j)), (1, .int b), (2, .int n), (3, .int (nI 0))]) (by simp) ?_
  exact L17 (41 - 0 + 1) 0 ((u2 (u2 h (110 + 2 * j) 0 b) (110 + 2 * j) 1 (if nI 40 < n then nI 40 else n))) (by first | assumption | omega | rfl) (by have e : h (111 + 2 * j) = u2 (u2 h (110 + 2 * j) 0 b) (110 + 2 * j) 1 (if nI 40 < n then nI 40 else n) (111 + 2 * j) := (by rw [u2_off (by omega), u2_off (by omega)]); rw [zer_0, e]; exact rw2_self.symm) (Nat.lt_succ_self _)

abbrev P_X4_change (h : Mm) (j i : Nat) (v : Int32) : Option Value → Mm → Prop := fun r h2 => r = none ∧ u2 h (111 + 2 * j) i (putV (h (110 + 2 * j) 0) v) = h2
theorem c_X4_change {l : Launch} (h : Mm) (j i : Nat) (v : Int32) (hj : j < 4) (hi : i < 40) : Con l yX4_change cX4_change 3 none 0 0 132 GL h [.ref (110 + 2 * j), .int (nI i), .int v] (P_X4_change h j i v) := by
  refine Con.ofV (own := "FoxRounds$Sheet") (nm := "change") rfl rfl (by decide) (Nat.le_of_ble_eq_true rfl) ?_
  intro κ ρ hkl K
  subst hkl
  show V κ (QM κ (132, ρ, GL, 0, 0) (P_X4_change h j i v)) 3 (132, ρ, GL, 0, 0) h 0 [(0, .ref (110 + 2 * j)), (1, .int (nI i)), (2, .int v)] []
  refine v_aload_n K dX4_change_0 rfl ?_
  refine v_getr (q := 111 + 2 * j) K fX4_18 (sh_S (by omega)) (pl_S (by omega)) (gl_Sr (by omega)) dX4_change_1 ?_
  refine v_iload_n K dX4_change_4 rfl ?_
  refine v_aload_n K dX4_change_5 rfl ?_
  refine v_geti (x := h (110 + 2 * j) 0) K fX4_9 (sh_S (by omega)) (pl_S (by omega)) rfl dX4_change_6 ?_
  refine v_bipushN K 8 rfl dX4_change_9 ?_
  refine v_icmp_ne (tgt := 19) K dX4_change_11 rfl (fun c1 => ?_) (fun c1 => ?_)
  · skip
    refine v_aload_n K dX4_change_19 rfl ?_
    refine v_geti (x := h (110 + 2 * j) 0) K fX4_9 (sh_S (by omega)) (pl_S (by omega)) rfl dX4_change_20 ?_
    refine v_bipushN K 16 rfl dX4_change_23 ?_
    refine v_icmp_ne (tgt := 33) K dX4_change_25 rfl (fun c2 => ?_) (fun c2 => ?_)
    · skip
      refine v_iload_n K dX4_change_33 rfl ?_
      refine v_iast K (sh_Sr (by omega)) (pl_S (by omega)) (by omega) dX4_change_34 ?_
      refine v_vret K dX4_change_35 ?_
      exact ⟨rfl, by unfold putV; rw [if_neg c1, if_neg c2]⟩
    · skip
      refine v_iload_n K dX4_change_28 rfl ?_
      refine v_i2s K dX4_change_29 rfl ?_
      refine v_goto (tgt := 34) K dX4_change_30 rfl ?_
      refine v_iast K (sh_Sr (by omega)) (pl_S (by omega)) (by omega) dX4_change_34 ?_
      refine v_vret K dX4_change_35 ?_
      exact ⟨rfl, by unfold putV; rw [if_neg c1, if_pos c2]⟩
  · skip
    refine v_iload_n K dX4_change_14 rfl ?_
    refine v_i2b K dX4_change_15 rfl ?_
    refine v_goto (tgt := 34) K dX4_change_16 rfl ?_
    refine v_iast K (sh_Sr (by omega)) (pl_S (by omega)) (by omega) dX4_change_34 ?_
    refine v_vret K dX4_change_35 ?_
    exact ⟨rfl, by unfold putV; rw [if_pos c1]⟩

abbrev P_X4_holds (h : Mm) (j z : Nat) (i n : Int32) : Option Value → Mm → Prop := fun r h2 => r = some (.int (b2i (holdP z i n))) ∧ h = h2
theorem c_X4_holds {l : Launch} (h : Mm) (j z : Nat) (i n : Int32) (hj : j < 4) (hz : z ≤ 40) (ez : h (110 + 2 * j) 1 = nI z) : Con l yX4_holds cX4_holds 3 (some .boolean) 0 0 132 GL h [.ref (110 + 2 * j), .int i, .int n] (P_X4_holds h j z i n) := by
  refine Con.ofV (own := "FoxRounds$Sheet") (nm := "holds") rfl rfl (by decide) (Nat.le_of_ble_eq_true rfl) ?_
  intro κ ρ hkl K
  subst hkl
  show V κ (QM κ (132, ρ, GL, 0, 0) (P_X4_holds h j z i n)) 3 (132, ρ, GL, 0, 0) h 0 [(0, .ref (110 + 2 * j)), (1, .int i), (2, .int n)] []
  refine v_iload_n K dX4_holds_0 rfl ?_
  refine v_if_lt (tgt := 30) K dX4_holds_1 rfl (fun c1 => ?_) (fun c1 => ?_)
  · skip
    refine v_iconstN K 0 rfl dX4_holds_30 ?_
    refine v_zret K dX4_holds_31 (by decide) ?_
    exact ⟨some_int (b2i_f (fun q0 => by have q := (hold_iff hz).mp q0; exact absurd q.1.1 (Int32.not_le.mpr c1))).symm, rfl⟩
  · skip
    refine v_iload_n K dX4_holds_4 rfl ?_
    refine v_if_lt (tgt := 30) K dX4_holds_5 rfl (fun c2 => ?_) (fun c2 => ?_)
    · skip
      refine v_iconstN K 0 rfl dX4_holds_30 ?_
      refine v_zret K dX4_holds_31 (by decide) ?_
      exact ⟨some_int (b2i_f (fun q0 => by have q := (hold_iff hz).mp q0; exact absurd q.1.2 (Int32.not_le.mpr c2))).symm, rfl⟩
    · skip
      refine v_iload_n K dX4_holds_8 rfl ?_
      refine v_aload_n K dX4_holds_9 rfl ?_
      refine v_geti (x := nI z) K fX4_15 (sh_S (by omega)) (pl_S (by omega)) ez dX4_holds_10 ?_
      refine v_icmp_gt (tgt := 30) K dX4_holds_13 rfl (fun c3 => ?_) (fun c3 => ?_)
      · skip
        refine v_iconstN K 0 rfl dX4_holds_30 ?_
        refine v_zret K dX4_holds_31 (by decide) ?_
        exact ⟨some_int (b2i_f (fun q0 => by have q := (hold_iff hz).mp q0; exact absurd q.2.1 (Int32.not_le.mpr c3))).symm, rfl⟩
      · skip
        refine v_iload_n K dX4_holds_16 rfl ?_
        refine v_aload_n K dX4_holds_17 rfl ?_
        refine v_geti (x := nI z) K fX4_15 (sh_S (by omega)) (pl_S (by omega)) ez dX4_holds_18 ?_
        refine v_iload_n K dX4_holds_21 rfl ?_
        refine v_isub K dX4_holds_22 ?_
        refine v_icmp_gt (tgt := 30) K dX4_holds_23 rfl (fun c4 => ?_) (fun c4 => ?_)
        · skip
          refine v_iconstN K 0 rfl dX4_holds_30 ?_
          refine v_zret K dX4_holds_31 (by decide) ?_
          exact ⟨some_int (b2i_f (fun q0 => by have q := (hold_iff hz).mp q0; exact absurd q.2.2 (Int32.not_le.mpr c4))).symm, rfl⟩
        · skip
          refine v_iconstN K 1 rfl dX4_holds_26 ?_
          refine v_goto (tgt := 31) K dX4_holds_27 rfl ?_
          refine v_zret K dX4_holds_31 (by decide) ?_
          exact ⟨some_int (b2i_t ((hold_iff hz).mpr ⟨⟨Int32.not_lt.mp c1, Int32.not_lt.mp c2⟩, Int32.not_lt.mp c3, Int32.not_lt.mp c4⟩)).symm, rfl⟩

abbrev P_X9_sheetError (cM h s : Mm) (τ τk : Nat → List Int32) (w : Int32) : Option Value → Mm → Prop := fun r h2 => (∃ k, r = some (.int (nI k)) ∧ WHYP s w k) ∧ h = h2
theorem c_X9_sheetError {l : Launch} (cM h s : Mm) (τ τk : Nat → List Int32) (w : Int32) (hC : CX cM h s τ τk) : Con l yX9_sheetError cX9_sheetError 2 (some .int) 2 42 132 GL h [.ref 0, .int w] (P_X9_sheetError cM h s τ τk w) := by
  refine Con.ofV (own := "FoxRounds") (nm := "sheetError") rfl rfl (by decide) (Nat.le_of_ble_eq_true rfl) ?_
  intro κ ρ hkl K
  subst hkl
  show V κ (QM κ (132, ρ, GL, 0, 0) (P_X9_sheetError cM h s τ τk w)) 2 (132, ρ, GL, 0, 0) h 0 [(0, .ref 0), (1, .int w)] []
  refine v_iload_n K dX9_sheetError_0 rfl ?_
  refine v_callS (As := [.int w]) K (c_X9_isSheet h w) lX9_287 rfl ⟨by decide, by decide⟩ (Nat.le_of_ble_eq_true rfl) dX9_sheetError_1 (fun r1 h1 hp1 => ?_) rfl
  obtain ⟨rfl, rfl⟩ := hp1
  refine v_some ?_
  refine v_ifB_ne (tgt := 9) K dX9_sheetError_4 rfl (fun c1 => ?_) (fun c1 => ?_)
  · skip
    obtain ⟨j1, Hj1, rfl⟩ := c1
    refine v_aload_n K dX9_sheetError_9 rfl ?_
    refine v_getr (q := 108) K fX9_56 sh_0 pl_0 gl_0_6 dX9_sheetError_10 ?_
    refine v_iload_n K dX9_sheetError_13 rfl ?_
    refine v_aald (q := 110 + 2 * j1) K sh_108 (Or.inr rfl) pl_108 (by omega) (gl_S (by omega)) dX9_sheetError_14 ?_
    refine v_callV (As := []) K (c_X4_isMissing h j1 (by omega)) lX9_296 ck_X4 rfl (sh_S (by omega)) (pl_S (by omega)) rfl ⟨by decide, by decide⟩ (Nat.le_of_ble_eq_true rfl) dX9_sheetError_15 (fun r2 h2 hp2 => ?_) rfl
    obtain ⟨rfl, rfl⟩ := hp2
    refine v_some ?_
    rw [show h (110 + 2 * j1) 0 = s 128 j1 from (hC.2.2.2.2.1 _ (by omega)).1]
    refine v_ifB_eq (tgt := 25) K dX9_sheetError_18 rfl (fun c2 => ?_) (fun c2 => ?_)
    · skip
      refine v_iconstN K 0 rfl dX9_sheetError_25 ?_
      refine v_iret K dX9_sheetError_26 ?_
      exact ⟨⟨0, rfl, Or.inr (Or.inr ⟨rfl, j1, Hj1, rfl, c2⟩)⟩, rfl⟩
    · skip
      refine v_iconstN K 2 rfl dX9_sheetError_21 ?_
      refine v_goto (tgt := 26) K dX9_sheetError_22 rfl ?_
      refine v_iret K dX9_sheetError_26 ?_
      exact ⟨⟨2, rfl, Or.inr (Or.inl ⟨rfl, j1, Hj1, rfl, c2⟩)⟩, rfl⟩
  · skip
    refine v_iconstN K 1 rfl dX9_sheetError_7 ?_
    refine v_iret K dX9_sheetError_8 ?_
    exact ⟨⟨1, rfl, Or.inl ⟨rfl, c1⟩⟩, rfl⟩

abbrev P_X9_trace (cM h s : Mm) (τ τk : Nat → List Int32) (w : Int32) : Option Value → Mm → Prop := fun r h2 => r = some (.int (Y_trace s w).1) ∧ CX cM h2 (Y_trace s w).2 τ τk
theorem c_X9_trace {l : Launch} (cM h s : Mm) (τ τk : Nat → List Int32) (w : Int32) (hC : CX cM h s τ τk) (hI : INV s τ τk) : Con l yX9_trace cX9_trace 2 (some .int) 2 43 132 GL h [.ref 0, .int w] (P_X9_trace cM h s τ τk w) := by
  refine Con.ofV (own := "FoxRounds") (nm := "trace") rfl rfl (by decide) (Nat.le_of_ble_eq_true rfl) ?_
  intro κ ρ hkl K
  subst hkl
  show V κ (QM κ (132, ρ, GL, 0, 0) (P_X9_trace cM h s τ τk w)) 2 (132, ρ, GL, 0, 0) h 0 [(0, .ref 0), (1, .int w)] []
  have hd := hI.d
  have hn8 := hd.nw8
  have ht5 := hd.nt5
  obtain ⟨tm, htm, etm⟩ := hI.2.2.2
  refine v_iload_n K dX9_trace_0 rfl ?_
  refine v_iconstN K 0 rfl dX9_trace_1 ?_
  refine v_aload_n K dX9_trace_2 rfl ?_
  refine v_getr (q := 106) K fX9_50 sh_0 pl_0 gl_0_5 dX9_trace_3 ?_
  refine v_geti (x := nI tm) K fX9_281 sh_106 pl_106 (hC.2.2.2.1.1.trans etm) dX9_trace_6 ?_
  refine v_iconstN K 1 rfl dX9_trace_9 ?_
  refine v_isub K dX9_trace_10 ?_
  refine v_callS (As := [.int w, .int (nI 0), .int ((nI tm) - (nI 1))]) K (c_X9_within h w (nI 0) (nI tm - nI 1)) lX9_65 rfl ⟨by decide, by decide⟩ (Nat.le_of_ble_eq_true rfl) dX9_trace_11 (fun r1 h1 hp1 => ?_) rfl
  obtain ⟨rfl, rfl⟩ := hp1
  refine v_some ?_
  rw [show (nI 0 ≤ w ∧ w ≤ nI tm - nI 1) = ix w tm from propext (ix_rng1 (show tm < 2 ^ 30 by omega))]
  refine v_ifB_eq (tgt := 29) K dX9_trace_14 rfl (fun c1 => ?_) (fun c1 => ?_)
  · skip
    refine v_aload_n K dX9_trace_29 rfl ?_
    refine v_iconstN K 2 rfl dX9_trace_30 ?_
    refine v_callV (As := [.int (nI 2)]) K (c_X9_error h 2 (by omega)) lX9_75 ck_X9 rfl sh_0 pl_0 rfl ⟨by decide, by decide⟩ (Nat.le_of_ble_eq_true rfl) dX9_trace_31 (fun r2 h2 hp2 => ?_) rfl
    obtain ⟨rfl, rfl⟩ := hp2
    refine v_some ?_
    have hCe1 : CX cM (u2 h 109 2 (h 109 2 + nI 1)) (u2 s 122 2 (s 122 2 + nI 1)) τ τk := CX.er hC (by omega) (by omega)
    refine v_iret K dX9_trace_34 ?_
    have eY : Y_trace s w = ((-1000000000) - nI 2, (u2 s 122 2 (s 122 2 + nI 1))) := by
      unfold Y_trace
      refine (@if_neg _ (Classical.propDecidable _) (by rw [etm, cl_ix (show tm < 2 ^ 31 by omega)]; assumption) _ _ _).trans ?_
      first | rfl | (rfl)
    exact xfin eY hCe1
  · skip
    obtain ⟨j1, Hj1, rfl⟩ := c1
    refine v_aload_n K dX9_trace_17 rfl ?_
    refine v_getr (q := 106) K fX9_50 sh_0 pl_0 gl_0_5 dX9_trace_18 ?_
    refine v_getr (q := 107) K fX9_284 sh_106 pl_106 gl_106_0 dX9_trace_21 ?_
    refine v_iload_n K dX9_trace_24 rfl ?_
    refine v_iald (x := s 127 j1) K sh_107 pl_107 (by omega) (hC.2.2.2.1.2 _ (by rw [etm, cl_ix (show tm < 2 ^ 31 by omega)]; omega)) dX9_trace_25 ?_
    refine v_goto (tgt := 34) K dX9_trace_26 rfl ?_
    refine v_iret K dX9_trace_34 ?_
    have eY : Y_trace s (nI j1) = (s 127 j1, s) := by
      unfold Y_trace
      refine (@if_pos _ (Classical.propDecidable _) (by rw [etm, cl_ix (show tm < 2 ^ 31 by omega)]; exact ⟨_, by assumption, rfl⟩) _ _ _).trans ?_
      rw [cl_ix (show j1 < 2 ^ 31 by omega)]
    exact xfin eY hC

abbrev P_X9_way (cM h s : Mm) (τ τk : Nat → List Int32) (k m c : Int32) : Option Value → Mm → Prop := fun r h2 => r = some (.int (Y_way s k m c).1) ∧ CX cM h2 (Y_way s k m c).2 τ τk
theorem c_X9_way {l : Launch} (cM h s : Mm) (τ τk : Nat → List Int32) (k m c : Int32) (hC : CX cM h s τ τk) (hI : INV s τ τk) : Con l yX9_way cX9_way 4 (some .int) 2 44 132 GL h [.ref 0, .int k, .int m, .int c] (P_X9_way cM h s τ τk k m c) := by
  refine Con.ofV (own := "FoxRounds") (nm := "way") rfl rfl (by decide) (Nat.le_of_ble_eq_true rfl) ?_
  intro κ ρ hkl K
  subst hkl
  show V κ (QM κ (132, ρ, GL, 0, 0) (P_X9_way cM h s τ τk k m c)) 4 (132, ρ, GL, 0, 0) h 0 [(0, .ref 0), (1, .int k), (2, .int m), (3, .int c)] []
  have hd := hI.d
  have hn8 := hd.nw8
  have ht5 := hd.nt5
  refine v_iload_n K dX9_way_0 rfl ?_
  refine v_iload_n K dX9_way_1 rfl ?_
  refine v_iload_n K dX9_way_2 rfl ?_
  refine v_callS (As := [.int k, .int m, .int c]) K (c_X9_isWay h k m c) lX9_84 rfl ⟨by decide, by decide⟩ (Nat.le_of_ble_eq_true rfl) dX9_way_3 (fun r1 h1 hp1 => ?_) rfl
  obtain ⟨rfl, rfl⟩ := hp1
  refine v_some ?_
  refine v_ifB_ne (tgt := 15) K dX9_way_6 rfl (fun c1 => ?_) (fun c1 => ?_)
  · skip
    refine v_aload_n K dX9_way_15 rfl ?_
    refine v_getr (q := 1) K fX9_10 sh_0 pl_0 gl_0_0 dX9_way_16 ?_
    refine v_getr (q := 2) K fX9_25 sh_1 pl_1 gl_1_0 dX9_way_19 ?_
    refine v_geti (x := nI (nwD (s 119))) K fX9_87 sh_2 pl_2 (hC.W.1.oA.trans hd.nw) dX9_way_22 ?_
    refine v_bipushN K 8 rfl dX9_way_25 ?_
    refine v_icmpN_lt (tgt := 36) K (by omega) (by omega) dX9_way_27 rfl (fun c2 => ?_) (fun c2 => ?_)
    · skip
      refine v_aload_n K dX9_way_36 rfl ?_
      refine v_getr (q := 1) K fX9_10 sh_0 pl_0 gl_0_0 dX9_way_37 ?_
      refine v_getr (q := 2) K fX9_25 sh_1 pl_1 gl_1_0 dX9_way_40 ?_
      refine v_iload_n K dX9_way_43 rfl ?_
      refine v_iload_n K dX9_way_44 rfl ?_
      refine v_iload_n K dX9_way_45 rfl ?_
      refine v_callV (As := [.int k, .int m, .int c]) K (c_X1_addWay h 2 (s 119) k m c hB_2 hC.W.1 hd (by omega)) lX9_90 ck_X1 rfl sh_2 pl_2 rfl ⟨by decide, by decide⟩ (Nat.le_of_ble_eq_true rfl) dX9_way_46 (fun r2 h2 hp2 => ?_) rfl
      obtain ⟨rfl, hRq1, hFq1⟩ := hp2
      have hCq1 : CX cM h2 (rw2 s 119 (addWD (s 119) k m c)) τ τk := CX.lo hC hRq1 (hFq1.N (by omega) (by omega)) (fun i hi => addWD_off (by omega) hi)
      refine v_some ?_
      refine v_iret K dX9_way_49 ?_
      have eY : Y_way s k m c = (nI (nwD (s 119)), (rw2 s 119 (addWD (s 119) k m c))) := by
        unfold Y_way
        refine (@if_neg _ (Classical.propDecidable _) (fun q => q (by first | assumption | exact ⟨_, by assumption, rfl⟩ | exact Or.inl rfl | exact Or.inr (Or.inl rfl) | exact Or.inr (Or.inr rfl) | omega)) _ _ _).trans ?_
        refine (@if_neg _ (Classical.propDecidable _) (by omega) _ _ _).trans ?_
        rfl
      exact xfin eY hCq1
    · skip
      refine v_aload_n K dX9_way_30 rfl ?_
      refine v_iconstN K 4 rfl dX9_way_31 ?_
      refine v_callV (As := [.int (nI 4)]) K (c_X9_error h 4 (by omega)) lX9_75 ck_X9 rfl sh_0 pl_0 rfl ⟨by decide, by decide⟩ (Nat.le_of_ble_eq_true rfl) dX9_way_32 (fun r3 h3 hp3 => ?_) rfl
      obtain ⟨rfl, rfl⟩ := hp3
      refine v_some ?_
      have hCe1 : CX cM (u2 h 109 4 (h 109 4 + nI 1)) (u2 s 122 4 (s 122 4 + nI 1)) τ τk := CX.er hC (by omega) (by omega)
      refine v_iret K dX9_way_35 ?_
      have eY : Y_way s k m c = ((-1000000000) - nI 4, (u2 s 122 4 (s 122 4 + nI 1))) := by
        unfold Y_way
        refine (@if_neg _ (Classical.propDecidable _) (fun q => q (by first | assumption | exact ⟨_, by assumption, rfl⟩ | exact Or.inl rfl | exact Or.inr (Or.inl rfl) | exact Or.inr (Or.inr rfl) | omega)) _ _ _).trans ?_
        refine (@if_pos _ (Classical.propDecidable _) (by omega) _ _ _).trans ?_
        first | rfl | (rfl)
      exact xfin eY hCe1
  · skip
    refine v_aload_n K dX9_way_9 rfl ?_
    refine v_iconstN K 1 rfl dX9_way_10 ?_
    refine v_callV (As := [.int (nI 1)]) K (c_X9_error h 1 (by omega)) lX9_75 ck_X9 rfl sh_0 pl_0 rfl ⟨by decide, by decide⟩ (Nat.le_of_ble_eq_true rfl) dX9_way_11 (fun r4 h4 hp4 => ?_) rfl
    obtain ⟨rfl, rfl⟩ := hp4
    refine v_some ?_
    have hCe2 : CX cM (u2 h 109 1 (h 109 1 + nI 1)) (u2 s 122 1 (s 122 1 + nI 1)) τ τk := CX.er hC (by omega) (by omega)
    refine v_iret K dX9_way_14 ?_
    have eY : Y_way s k m c = ((-1000000000) - nI 1, (u2 s 122 1 (s 122 1 + nI 1))) := by
      unfold Y_way
      refine (@if_pos _ (Classical.propDecidable _) (fun q => absurd q (by assumption)) _ _ _).trans ?_
      first | rfl | (rfl)
    exact xfin eY hCe2

abbrev P_X9_put (cM h s : Mm) (τ τk : Nat → List Int32) (w i v : Int32) : Option Value → Mm → Prop := fun r h2 => r = some (.int (Y_put s w i v).1) ∧ CX cM h2 (Y_put s w i v).2 τ τk
theorem c_X9_put {l : Launch} (cM h s : Mm) (τ τk : Nat → List Int32) (w i v : Int32) (hC : CX cM h s τ τk) (hI : INV s τ τk) : Con l yX9_put cX9_put 5 (some .int) 3 63 132 GL h [.ref 0, .int w, .int i, .int v] (P_X9_put cM h s τ τk w i v) := by
  refine Con.ofV (own := "FoxRounds") (nm := "put") rfl rfl (by decide) (Nat.le_of_ble_eq_true rfl) ?_
  intro κ ρ hkl K
  subst hkl
  show V κ (QM κ (132, ρ, GL, 0, 0) (P_X9_put cM h s τ τk w i v)) 5 (132, ρ, GL, 0, 0) h 0 [(0, .ref 0), (1, .int w), (2, .int i), (3, .int v)] []
  have hd := hI.d
  have hn8 := hd.nw8
  have ht5 := hd.nt5
  refine v_aload_n K dX9_put_0 rfl ?_
  refine v_iload_n K dX9_put_1 rfl ?_
  refine v_callV (As := [.int w]) K (c_X9_sheetError cM h s τ τk w hC) lX9_110 ck_X9 rfl sh_0 pl_0 rfl ⟨by decide, by decide⟩ (Nat.le_of_ble_eq_true rfl) dX9_put_2 (fun r1 h1 hp1 => ?_) rfl
  obtain ⟨⟨k, rfl, hk⟩, rfl⟩ := hp1
  refine v_some ?_
  refine v_istore (lv2 := [(4, .int (nI k)), (0, .ref 0), (1, .int w), (2, .int i), (3, .int v)]) K dX9_put_5 (by decide) rfl ?_
  refine v_iload K dX9_put_7 rfl ?_
  rcases hk with ⟨rfl, hw⟩ | ⟨rfl, j, hj, rfl, hb⟩ | ⟨rfl, j, hj, rfl, hb⟩
  · skip
    skip
    refine v_ifN_eq (tgt := 19) K (by omega) dX9_put_9 rfl (fun c1 => ?_) (fun c1 => ?_)
    · exact absurd c1 (by decide)
    · skip
      refine v_aload_n K dX9_put_12 rfl ?_
      refine v_iload K dX9_put_13 rfl ?_
      refine v_callV (As := [.int (nI 1)]) K (c_X9_error h 1 (by omega)) lX9_75 ck_X9 rfl sh_0 pl_0 rfl ⟨by decide, by decide⟩ (Nat.le_of_ble_eq_true rfl) dX9_put_15 (fun r2 h2 hp2 => ?_) rfl
      obtain ⟨rfl, rfl⟩ := hp2
      refine v_some ?_
      have hCe1 : CX cM (u2 h 109 1 (h 109 1 + nI 1)) (u2 s 122 1 (s 122 1 + nI 1)) τ τk := CX.er hC (by omega) (by omega)
      refine v_iret K dX9_put_18 ?_
      have eY : Y_put s w i v = ((-1000000000) - nI 1, (u2 s 122 1 (s 122 1 + nI 1))) := by
        unfold Y_put
        refine (@if_pos _ (Classical.propDecidable _) hw _ _ _).trans ?_
        first | rfl | (rfl)
      exact xfin eY hCe1
  · skip
    skip
    refine v_ifN_eq (tgt := 19) K (by omega) dX9_put_9 rfl (fun c2 => ?_) (fun c2 => ?_)
    · exact absurd c2 (by decide)
    · skip
      refine v_aload_n K dX9_put_12 rfl ?_
      refine v_iload K dX9_put_13 rfl ?_
      refine v_callV (As := [.int (nI 2)]) K (c_X9_error h 2 (by omega)) lX9_75 ck_X9 rfl sh_0 pl_0 rfl ⟨by decide, by decide⟩ (Nat.le_of_ble_eq_true rfl) dX9_put_15 (fun r3 h3 hp3 => ?_) rfl
      obtain ⟨rfl, rfl⟩ := hp3
      refine v_some ?_
      have hCe2 : CX cM (u2 h 109 2 (h 109 2 + nI 1)) (u2 s 122 2 (s 122 2 + nI 1)) τ τk := CX.er hC (by omega) (by omega)
      refine v_iret K dX9_put_18 ?_
      have eY : Y_put s (nI j) i v = ((-1000000000) - nI 2, (u2 s 122 2 (s 122 2 + nI 1))) := by
        unfold Y_put
        refine (@if_neg _ (Classical.propDecidable _) (fun q => q ⟨j, hj, rfl⟩) _ _ _).trans ?_
        refine (@if_pos _ (Classical.propDecidable _) (by rw [cl_ix (show j < 2 ^ 31 by omega)]; exact hb) _ _ _).trans ?_
        first | rfl | ((try rw [cl_ix (show j < 2 ^ 31 by omega)]))
      exact xfin eY hCe2
  · skip
    obtain ⟨-, sz, hsz, esz, -⟩ := hI.2.2.1 j hj
    refine v_ifN_eq (tgt := 19) K (by omega) dX9_put_9 rfl (fun c3 => ?_) (fun c3 => ?_)
    · skip
      refine v_iload_n K dX9_put_19 rfl ?_
      refine v_iconstN K 0 rfl dX9_put_20 ?_
      refine v_aload_n K dX9_put_21 rfl ?_
      refine v_getr (q := 108) K fX9_56 sh_0 pl_0 gl_0_6 dX9_put_22 ?_
      refine v_iload_n K dX9_put_25 rfl ?_
      refine v_aald (q := 110 + 2 * j) K sh_108 (Or.inr rfl) pl_108 (by omega) (gl_S (by omega)) dX9_put_26 ?_
      refine v_geti (x := nI sz) K fX9_113 (sh_S (by omega)) (pl_S (by omega)) ((hC.2.2.2.2.1 _ (by omega)).2.1.trans esz) dX9_put_27 ?_
      refine v_iconstN K 1 rfl dX9_put_30 ?_
      refine v_isub K dX9_put_31 ?_
      refine v_callS (As := [.int i, .int (nI 0), .int ((nI sz) - (nI 1))]) K (c_X9_within h i (nI 0) (nI sz - nI 1)) lX9_65 rfl ⟨by decide, by decide⟩ (Nat.le_of_ble_eq_true rfl) dX9_put_32 (fun r4 h4 hp4 => ?_) rfl
      obtain ⟨rfl, rfl⟩ := hp4
      refine v_some ?_
      rw [show (nI 0 ≤ i ∧ i ≤ nI sz - nI 1) = ix i sz from propext (ix_rng1 (show sz < 2 ^ 30 by omega))]
      refine v_ifB_ne (tgt := 44) K dX9_put_35 rfl (fun c4 => ?_) (fun c4 => ?_)
      · skip
        obtain ⟨j1, Hj1, rfl⟩ := c4
        refine v_aload_n K dX9_put_44 rfl ?_
        refine v_getr (q := 108) K fX9_56 sh_0 pl_0 gl_0_6 dX9_put_45 ?_
        refine v_iload_n K dX9_put_48 rfl ?_
        refine v_aald (q := 110 + 2 * j) K sh_108 (Or.inr rfl) pl_108 (by omega) (gl_S (by omega)) dX9_put_49 ?_
        refine v_iload_n K dX9_put_50 rfl ?_
        refine v_iload_n K dX9_put_51 rfl ?_
        refine v_callV (As := [.int (nI j1), .int v]) K (c_X4_change h j j1 v (by omega) (by omega)) lX9_293 ck_X4 rfl (sh_S (by omega)) (pl_S (by omega)) rfl ⟨by decide, by decide⟩ (Nat.le_of_ble_eq_true rfl) dX9_put_52 (fun r5 h5 hp5 => ?_) rfl
        obtain ⟨rfl, rfl⟩ := hp5
        refine v_none ?_
        rw [show (u2 h (111 + 2 * j) j1 (putV (h (110 + 2 * j) 0) v)) = (u2 h (111 + 2 * j) j1 (putV (s 128 j) v)) by rw [show h (110 + 2 * j) 0 = s 128 j from (hC.2.2.2.2.1 _ (by omega)).1]]
        have hCn1 : CX cM (u2 h (111 + 2 * j) j1 (putV (s 128 j) v)) (u2 s 130 (40 * j + j1) (putV (s 128 j) v)) τ τk := CX.sx hC (hC.2.2.2.2.1.ch (by omega) (by omega)) (fun a ha => u2_off (by omega)) (fun a a1 a2 a3 => u2_off a3)
        refine v_iconstN K 1 rfl dX9_put_55 ?_
        refine v_iret K dX9_put_56 ?_
        have eY : Y_put s (nI j) (nI j1) v = (nI 1, (u2 s 130 (40 * j + j1) (putV (s 128 j) v))) := by
          unfold Y_put
          refine (@if_neg _ (Classical.propDecidable _) (fun q => q ⟨j, hj, rfl⟩) _ _ _).trans ?_
          refine (@if_neg _ (Classical.propDecidable _) (by rw [cl_ix (show j < 2 ^ 31 by omega)]; exact hb) _ _ _).trans ?_
          refine (@if_pos _ (Classical.propDecidable _) (by rw [cl_ix (show j < 2 ^ 31 by omega), esz, cl_ix (show sz < 2 ^ 31 by omega)]; exact ⟨_, by assumption, rfl⟩) _ _ _).trans ?_
          rw [cl_ix (show j < 2 ^ 31 by omega), cl_ix (show j1 < 2 ^ 31 by omega)]
        exact xfin eY hCn1
      · skip
        refine v_aload_n K dX9_put_38 rfl ?_
        refine v_iconstN K 1 rfl dX9_put_39 ?_
        refine v_callV (As := [.int (nI 1)]) K (c_X9_error h 1 (by omega)) lX9_75 ck_X9 rfl sh_0 pl_0 rfl ⟨by decide, by decide⟩ (Nat.le_of_ble_eq_true rfl) dX9_put_40 (fun r6 h6 hp6 => ?_) rfl
        obtain ⟨rfl, rfl⟩ := hp6
        refine v_some ?_
        have hCe3 : CX cM (u2 h 109 1 (h 109 1 + nI 1)) (u2 s 122 1 (s 122 1 + nI 1)) τ τk := CX.er hC (by omega) (by omega)
        refine v_iret K dX9_put_43 ?_
        have eY : Y_put s (nI j) i v = ((-1000000000) - nI 1, (u2 s 122 1 (s 122 1 + nI 1))) := by
          unfold Y_put
          refine (@if_neg _ (Classical.propDecidable _) (fun q => q ⟨j, hj, rfl⟩) _ _ _).trans ?_
          refine (@if_neg _ (Classical.propDecidable _) (by rw [cl_ix (show j < 2 ^ 31 by omega)]; exact hb) _ _ _).trans ?_
          refine (@if_neg _ (Classical.propDecidable _) (by rw [cl_ix (show j < 2 ^ 31 by omega), esz, cl_ix (show sz < 2 ^ 31 by omega)]; assumption) _ _ _).trans ?_
          first | rfl | ((try rw [cl_ix (show j < 2 ^ 31 by omega)]))
        exact xfin eY hCe3
    · exact absurd c3 (by decide)

abbrev P_X9_sheet (cM h s : Mm) (τ τk : Nat → List Int32) (w b n : Int32) : Option Value → Mm → Prop := fun r h2 => r = some (.int (Y_sheet s w b n).1) ∧ CX cM h2 (Y_sheet s w b n).2 τ τk
theorem c_X9_sheet {l : Launch} (cM h s : Mm) (τ τk : Nat → List Int32) (w b n : Int32) (hC : CX cM h s τ τk) (hI : INV s τ τk) : Con l yX9_sheet cX9_sheet 5 (some .int) 2 44 132 GL h [.ref 0, .int w, .int b, .int n] (P_X9_sheet cM h s τ τk w b n) := by
  refine Con.ofV (own := "FoxRounds") (nm := "sheet") rfl rfl (by decide) (Nat.le_of_ble_eq_true rfl) ?_
  intro κ ρ hkl K
  subst hkl
  show V κ (QM κ (132, ρ, GL, 0, 0) (P_X9_sheet cM h s τ τk w b n)) 5 (132, ρ, GL, 0, 0) h 0 [(0, .ref 0), (1, .int w), (2, .int b), (3, .int n)] []
  have hd := hI.d
  have hn8 := hd.nw8
  have ht5 := hd.nt5
  refine v_iload_n K dX9_sheet_0 rfl ?_
  refine v_if_eq (tgt := 22) K dX9_sheet_1 rfl (fun c1 => ?_) (fun c1 => ?_)
  · skip
    obtain rfl : b = nI 0 := c1
    refine v_iconstN K 1 rfl dX9_sheet_22 ?_
    refine v_goto (tgt := 27) K dX9_sheet_23 rfl ?_
    refine v_istore (lv2 := [(4, .int (nI 1)), (0, .ref 0), (1, .int w), (2, .int (nI 0)), (3, .int n)]) K dX9_sheet_27 (by decide) rfl ?_
    refine v_iload_n K dX9_sheet_29 rfl ?_
    refine v_callS (As := [.int w]) K (c_X9_isSheet h w) lX9_287 rfl ⟨by decide, by decide⟩ (Nat.le_of_ble_eq_true rfl) dX9_sheet_30 (fun r1 h1 hp1 => ?_) rfl
    obtain ⟨rfl, rfl⟩ := hp1
    refine v_some ?_
    refine v_ifB_eq (tgt := 41) K dX9_sheet_33 rfl (fun c2 => ?_) (fun c2 => ?_)
    · skip
      refine v_aload_n K dX9_sheet_41 rfl ?_
      refine v_iconstN K 1 rfl dX9_sheet_42 ?_
      refine v_callV (As := [.int (nI 1)]) K (c_X9_error h 1 (by omega)) lX9_75 ck_X9 rfl sh_0 pl_0 rfl ⟨by decide, by decide⟩ (Nat.le_of_ble_eq_true rfl) dX9_sheet_43 (fun r2 h2 hp2 => ?_) rfl
      obtain ⟨rfl, rfl⟩ := hp2
      refine v_some ?_
      have hCe1 : CX cM (u2 h 109 1 (h 109 1 + nI 1)) (u2 s 122 1 (s 122 1 + nI 1)) τ τk := CX.er hC (by omega) (by omega)
      refine v_iret K dX9_sheet_46 ?_
      have eY : Y_sheet s w (nI 0) n = ((-1000000000) - nI 1, (u2 s 122 1 (s 122 1 + nI 1))) := by
        unfold Y_sheet
        refine (@if_pos _ (Classical.propDecidable _) (fun q => absurd q.1 (by assumption)) _ _ _).trans ?_
        first | rfl | ((try rw [cl_ix (show 0 < 2 ^ 31 by omega)]))
      exact xfin eY hCe1
    · skip
      obtain ⟨j1, Hj1, rfl⟩ := c2
      refine v_iload K dX9_sheet_36 rfl ?_
      refine v_ifN_ne (tgt := 47) K (by omega) dX9_sheet_38 rfl (fun c3 => ?_) (fun c3 => ?_)
      · skip
        refine v_iload_n K dX9_sheet_47 rfl ?_
        refine v_ifN_eq (tgt := 61) K (by omega) dX9_sheet_48 rfl (fun c4 => ?_) (fun c4 => ?_)
        · skip
          refine v_iload_n K dX9_sheet_61 rfl ?_
          refine v_ifN_eq (tgt := 77) K (by omega) dX9_sheet_62 rfl (fun c5 => ?_) (fun c5 => ?_)
          · skip
            refine v_aload_n K dX9_sheet_77 rfl ?_
            refine v_getr (q := 108) K fX9_56 sh_0 pl_0 gl_0_6 dX9_sheet_78 ?_
            refine v_iload_n K dX9_sheet_81 rfl ?_
            refine v_aald (q := 110 + 2 * j1) K sh_108 (Or.inr rfl) pl_108 (by omega) (gl_S (by omega)) dX9_sheet_82 ?_
            refine v_iload_n K dX9_sheet_83 rfl ?_
            refine v_iload_n K dX9_sheet_84 rfl ?_
            refine v_ifN_ne (tgt := 92) K (by omega) dX9_sheet_85 rfl (fun c6 => ?_) (fun c6 => ?_)
            · exact absurd c6 (by decide)
            · skip
              refine v_iconstN K 0 rfl dX9_sheet_88 ?_
              refine v_goto (tgt := 93) K dX9_sheet_89 rfl ?_
              refine v_callV (As := [.int (nI 0), .int (nI 0)]) K (c_X4_renew h j1 (nI 0) (nI 0) (by omega)) lX9_290 ck_X4 rfl (sh_S (by omega)) (pl_S (by omega)) rfl ⟨by decide, by decide⟩ (Nat.le_of_ble_eq_true rfl) dX9_sheet_93 (fun r3 h3 hp3 => ?_) rfl
              obtain ⟨rfl, rfl⟩ := hp3
              refine v_none ?_
              have hCn1 : CX cM (rw2 (u2 (u2 h (110 + 2 * j1) 0 (nI 0)) (110 + 2 * j1) 1 (if nI 40 < (nI 0) then nI 40 else (nI 0))) (111 + 2 * j1) (zerR (h (111 + 2 * j1)) 0 40)) (rw2 (u2 (u2 s 128 j1 (nI 0)) 129 j1 (nI 0)) 130 (zerR (s 130) (40 * j1) 40)) τ τk := CX.sx hC (hC.2.2.2.2.1.re (by omega) (by decide)) (fun a ha => by rw [rw2_off (by omega), u2_off (by omega), u2_off (by omega)]) (fun a a1 a2 a3 => by rw [rw2_off a3, u2_off a2, u2_off a1])
              refine v_iconstN K 1 rfl dX9_sheet_96 ?_
              refine v_iret K dX9_sheet_97 ?_
              have eY : Y_sheet s (nI j1) (nI 0) n = (nI 1, (rw2 (u2 (u2 s 128 j1 (nI 0)) 129 j1 (nI 0)) 130 (zerR (s 130) (40 * j1) 40))) := by
                unfold Y_sheet
                refine (@if_neg _ (Classical.propDecidable _) (fun q => q ⟨⟨_, by assumption, rfl⟩, (by unfold bitOK; exact Or.inl rfl)⟩) _ _ _).trans ?_
                refine (@if_neg _ (Classical.propDecidable _) (fun q => q.1 rfl) _ _ _).trans ?_
                refine (@if_neg _ (Classical.propDecidable _) (fun q => q.1 rfl) _ _ _).trans ?_
                (rw [cl_ix (show j1 < 2 ^ 31 by omega)]; rfl)
              exact xfin eY hCn1
          · exact absurd c5 (by decide)
        · exact absurd c4 (by decide)
      · exact absurd c3 (by decide)
  · skip
    refine v_iload_n K dX9_sheet_4 rfl ?_
    refine v_bipushN K 8 rfl dX9_sheet_5 ?_
    refine v_icmp_eq (tgt := 22) K dX9_sheet_7 rfl (fun c7 => ?_) (fun c7 => ?_)
    · skip
      obtain rfl : b = nI 8 := c7
      refine v_iconstN K 1 rfl dX9_sheet_22 ?_
      refine v_goto (tgt := 27) K dX9_sheet_23 rfl ?_
      refine v_istore (lv2 := [(4, .int (nI 1)), (0, .ref 0), (1, .int w), (2, .int (nI 8)), (3, .int n)]) K dX9_sheet_27 (by decide) rfl ?_
      refine v_iload_n K dX9_sheet_29 rfl ?_
      refine v_callS (As := [.int w]) K (c_X9_isSheet h w) lX9_287 rfl ⟨by decide, by decide⟩ (Nat.le_of_ble_eq_true rfl) dX9_sheet_30 (fun r4 h4 hp4 => ?_) rfl
      obtain ⟨rfl, rfl⟩ := hp4
      refine v_some ?_
      refine v_ifB_eq (tgt := 41) K dX9_sheet_33 rfl (fun c8 => ?_) (fun c8 => ?_)
      · skip
        refine v_aload_n K dX9_sheet_41 rfl ?_
        refine v_iconstN K 1 rfl dX9_sheet_42 ?_
        refine v_callV (As := [.int (nI 1)]) K (c_X9_error h 1 (by omega)) lX9_75 ck_X9 rfl sh_0 pl_0 rfl ⟨by decide, by decide⟩ (Nat.le_of_ble_eq_true rfl) dX9_sheet_43 (fun r5 h5 hp5 => ?_) rfl
        obtain ⟨rfl, rfl⟩ := hp5
        refine v_some ?_
        have hCe2 : CX cM (u2 h 109 1 (h 109 1 + nI 1)) (u2 s 122 1 (s 122 1 + nI 1)) τ τk := CX.er hC (by omega) (by omega)
        refine v_iret K dX9_sheet_46 ?_
        have eY : Y_sheet s w (nI 8) n = ((-1000000000) - nI 1, (u2 s 122 1 (s 122 1 + nI 1))) := by
          unfold Y_sheet
          refine (@if_pos _ (Classical.propDecidable _) (fun q => absurd q.1 (by assumption)) _ _ _).trans ?_
          first | rfl | ((try rw [cl_ix (show 8 < 2 ^ 31 by omega)]))
        exact xfin eY hCe2
      · skip
        obtain ⟨j2, Hj2, rfl⟩ := c8
        refine v_iload K dX9_sheet_36 rfl ?_
        refine v_ifN_ne (tgt := 47) K (by omega) dX9_sheet_38 rfl (fun c9 => ?_) (fun c9 => ?_)
        · skip
          refine v_iload_n K dX9_sheet_47 rfl ?_
          refine v_ifN_eq (tgt := 61) K (by omega) dX9_sheet_48 rfl (fun c10 => ?_) (fun c10 => ?_)
          · exact absurd c10 (by decide)
          · skip
            refine v_iload_n K dX9_sheet_51 rfl ?_
            refine v_if_ge (tgt := 61) K dX9_sheet_52 rfl (fun c11 => ?_) (fun c11 => ?_)
            · skip
              refine v_iload_n K dX9_sheet_61 rfl ?_
              refine v_ifN_eq (tgt := 77) K (by omega) dX9_sheet_62 rfl (fun c12 => ?_) (fun c12 => ?_)
              · exact absurd c12 (by decide)
              · skip
                refine v_iload_n K dX9_sheet_65 rfl ?_
                refine v_bipushN K 40 rfl dX9_sheet_66 ?_
                refine v_icmp_le (tgt := 77) K dX9_sheet_68 rfl (fun c13 => ?_) (fun c13 => ?_)
                · skip
                  refine v_aload_n K dX9_sheet_77 rfl ?_
                  refine v_getr (q := 108) K fX9_56 sh_0 pl_0 gl_0_6 dX9_sheet_78 ?_
                  refine v_iload_n K dX9_sheet_81 rfl ?_
                  refine v_aald (q := 110 + 2 * j2) K sh_108 (Or.inr rfl) pl_108 (by omega) (gl_S (by omega)) dX9_sheet_82 ?_
                  refine v_iload_n K dX9_sheet_83 rfl ?_
                  refine v_iload_n K dX9_sheet_84 rfl ?_
                  refine v_ifN_ne (tgt := 92) K (by omega) dX9_sheet_85 rfl (fun c14 => ?_) (fun c14 => ?_)
                  · skip
                    refine v_iload_n K dX9_sheet_92 rfl ?_
                    refine v_callV (As := [.int (nI 8), .int n]) K (c_X4_renew h j2 (nI 8) n (by omega)) lX9_290 ck_X4 rfl (sh_S (by omega)) (pl_S (by omega)) rfl ⟨by decide, by decide⟩ (Nat.le_of_ble_eq_true rfl) dX9_sheet_93 (fun r6 h6 hp6 => ?_) rfl
                    obtain ⟨rfl, rfl⟩ := hp6
                    refine v_none ?_
                    have hCn2 : CX cM (rw2 (u2 (u2 h (110 + 2 * j2) 0 (nI 8)) (110 + 2 * j2) 1 (if nI 40 < n then nI 40 else n)) (111 + 2 * j2) (zerR (h (111 + 2 * j2)) 0 40)) (rw2 (u2 (u2 s 128 j2 (nI 8)) 129 j2 n) 130 (zerR (s 130) (40 * j2) 40)) τ τk := CX.sx hC (hC.2.2.2.2.1.re (by omega) (if_neg (Int32.not_lt.mpr (by assumption)))) (fun a ha => by rw [rw2_off (by omega), u2_off (by omega), u2_off (by omega)]) (fun a a1 a2 a3 => by rw [rw2_off a3, u2_off a2, u2_off a1])
                    refine v_iconstN K 1 rfl dX9_sheet_96 ?_
                    refine v_iret K dX9_sheet_97 ?_
                    have eY : Y_sheet s (nI j2) (nI 8) n = (nI 1, (rw2 (u2 (u2 s 128 j2 (nI 8)) 129 j2 n) 130 (zerR (s 130) (40 * j2) 40))) := by
                      unfold Y_sheet
                      refine (@if_neg _ (Classical.propDecidable _) (fun q => q ⟨⟨_, by assumption, rfl⟩, (by unfold bitOK; exact Or.inr (Or.inl rfl))⟩) _ _ _).trans ?_
                      refine (@if_neg _ (Classical.propDecidable _) (fun q => absurd q.2 (Int32.not_lt.mpr c11)) _ _ _).trans ?_
                      refine (@if_neg _ (Classical.propDecidable _) (fun q => absurd q.2 (Int32.not_lt.mpr c13)) _ _ _).trans ?_
                      (rw [cl_ix (show j2 < 2 ^ 31 by omega)]; rfl)
                    exact xfin eY hCn2
                  · exact absurd c14 (by decide)
                · skip
                  refine v_aload_n K dX9_sheet_71 rfl ?_
                  refine v_iconstN K 1 rfl dX9_sheet_72 ?_
                  refine v_callV (As := [.int (nI 1)]) K (c_X9_error h 1 (by omega)) lX9_75 ck_X9 rfl sh_0 pl_0 rfl ⟨by decide, by decide⟩ (Nat.le_of_ble_eq_true rfl) dX9_sheet_73 (fun r7 h7 hp7 => ?_) rfl
                  obtain ⟨rfl, rfl⟩ := hp7
                  refine v_some ?_
                  have hCe3 : CX cM (u2 h 109 1 (h 109 1 + nI 1)) (u2 s 122 1 (s 122 1 + nI 1)) τ τk := CX.er hC (by omega) (by omega)
                  refine v_iret K dX9_sheet_76 ?_
                  have eY : Y_sheet s (nI j2) (nI 8) n = ((-1000000000) - nI 1, (u2 s 122 1 (s 122 1 + nI 1))) := by
                    unfold Y_sheet
                    refine (@if_neg _ (Classical.propDecidable _) (fun q => q ⟨⟨_, by assumption, rfl⟩, (by unfold bitOK; exact Or.inr (Or.inl rfl))⟩) _ _ _).trans ?_
                    refine (@if_neg _ (Classical.propDecidable _) (fun q => absurd q.2 (Int32.not_lt.mpr c11)) _ _ _).trans ?_
                    refine (@if_pos _ (Classical.propDecidable _) ⟨by decide, Int32.not_le.mp c13⟩ _ _ _).trans ?_
                    first | rfl | ((try rw [cl_ix (show j2 < 2 ^ 31 by omega)]) ; (try rw [cl_ix (show 8 < 2 ^ 31 by omega)]))
                  exact xfin eY hCe3
            · skip
              refine v_aload_n K dX9_sheet_55 rfl ?_
              refine v_iconstN K 3 rfl dX9_sheet_56 ?_
              refine v_callV (As := [.int (nI 3)]) K (c_X9_error h 3 (by omega)) lX9_75 ck_X9 rfl sh_0 pl_0 rfl ⟨by decide, by decide⟩ (Nat.le_of_ble_eq_true rfl) dX9_sheet_57 (fun r8 h8 hp8 => ?_) rfl
              obtain ⟨rfl, rfl⟩ := hp8
              refine v_some ?_
              have hCe4 : CX cM (u2 h 109 3 (h 109 3 + nI 1)) (u2 s 122 3 (s 122 3 + nI 1)) τ τk := CX.er hC (by omega) (by omega)
              refine v_iret K dX9_sheet_60 ?_
              have eY : Y_sheet s (nI j2) (nI 8) n = ((-1000000000) - nI 3, (u2 s 122 3 (s 122 3 + nI 1))) := by
                unfold Y_sheet
                refine (@if_neg _ (Classical.propDecidable _) (fun q => q ⟨⟨_, by assumption, rfl⟩, (by unfold bitOK; exact Or.inr (Or.inl rfl))⟩) _ _ _).trans ?_
                refine (@if_pos _ (Classical.propDecidable _) ⟨by decide, Int32.not_le.mp c11⟩ _ _ _).trans ?_
                first | rfl | ((try rw [cl_ix (show j2 < 2 ^ 31 by omega)]) ; (try rw [cl_ix (show 8 < 2 ^ 31 by omega)]))
              exact xfin eY hCe4
        · exact absurd c9 (by decide)
    · skip
      refine v_iload_n K dX9_sheet_10 rfl ?_
      refine v_bipushN K 16 rfl dX9_sheet_11 ?_
      refine v_icmp_eq (tgt := 22) K dX9_sheet_13 rfl (fun c15 => ?_) (fun c15 => ?_)
      · skip
        obtain rfl : b = nI 16 := c15
        refine v_iconstN K 1 rfl dX9_sheet_22 ?_
        refine v_goto (tgt := 27) K dX9_sheet_23 rfl ?_
        refine v_istore (lv2 := [(4, .int (nI 1)), (0, .ref 0), (1, .int w), (2, .int (nI 16)), (3, .int n)]) K dX9_sheet_27 (by decide) rfl ?_
        refine v_iload_n K dX9_sheet_29 rfl ?_
        refine v_callS (As := [.int w]) K (c_X9_isSheet h w) lX9_287 rfl ⟨by decide, by decide⟩ (Nat.le_of_ble_eq_true rfl) dX9_sheet_30 (fun r9 h9 hp9 => ?_) rfl
        obtain ⟨rfl, rfl⟩ := hp9
        refine v_some ?_
        refine v_ifB_eq (tgt := 41) K dX9_sheet_33 rfl (fun c16 => ?_) (fun c16 => ?_)
        · skip
          refine v_aload_n K dX9_sheet_41 rfl ?_
          refine v_iconstN K 1 rfl dX9_sheet_42 ?_
          refine v_callV (As := [.int (nI 1)]) K (c_X9_error h 1 (by omega)) lX9_75 ck_X9 rfl sh_0 pl_0 rfl ⟨by decide, by decide⟩ (Nat.le_of_ble_eq_true rfl) dX9_sheet_43 (fun r10 h10 hp10 => ?_) rfl
          obtain ⟨rfl, rfl⟩ := hp10
          refine v_some ?_
          have hCe5 : CX cM (u2 h 109 1 (h 109 1 + nI 1)) (u2 s 122 1 (s 122 1 + nI 1)) τ τk := CX.er hC (by omega) (by omega)
          refine v_iret K dX9_sheet_46 ?_
          have eY : Y_sheet s w (nI 16) n = ((-1000000000) - nI 1, (u2 s 122 1 (s 122 1 + nI 1))) := by
            unfold Y_sheet
            refine (@if_pos _ (Classical.propDecidable _) (fun q => absurd q.1 (by assumption)) _ _ _).trans ?_
            first | rfl | ((try rw [cl_ix (show 16 < 2 ^ 31 by omega)]))
          exact xfin eY hCe5
        · skip
          obtain ⟨j3, Hj3, rfl⟩ := c16
          refine v_iload K dX9_sheet_36 rfl ?_
          refine v_ifN_ne (tgt := 47) K (by omega) dX9_sheet_38 rfl (fun c17 => ?_) (fun c17 => ?_)
          · skip
            refine v_iload_n K dX9_sheet_47 rfl ?_
            refine v_ifN_eq (tgt := 61) K (by omega) dX9_sheet_48 rfl (fun c18 => ?_) (fun c18 => ?_)
            · exact absurd c18 (by decide)
            · skip
              refine v_iload_n K dX9_sheet_51 rfl ?_
              refine v_if_ge (tgt := 61) K dX9_sheet_52 rfl (fun c19 => ?_) (fun c19 => ?_)
              · skip
                refine v_iload_n K dX9_sheet_61 rfl ?_
                refine v_ifN_eq (tgt := 77) K (by omega) dX9_sheet_62 rfl (fun c20 => ?_) (fun c20 => ?_)
                · exact absurd c20 (by decide)
                · skip
                  refine v_iload_n K dX9_sheet_65 rfl ?_
                  refine v_bipushN K 40 rfl dX9_sheet_66 ?_
                  refine v_icmp_le (tgt := 77) K dX9_sheet_68 rfl (fun c21 => ?_) (fun c21 => ?_)
                  · skip
                    refine v_aload_n K dX9_sheet_77 rfl ?_
                    refine v_getr (q := 108) K fX9_56 sh_0 pl_0 gl_0_6 dX9_sheet_78 ?_
                    refine v_iload_n K dX9_sheet_81 rfl ?_
                    refine v_aald (q := 110 + 2 * j3) K sh_108 (Or.inr rfl) pl_108 (by omega) (gl_S (by omega)) dX9_sheet_82 ?_
                    refine v_iload_n K dX9_sheet_83 rfl ?_
                    refine v_iload_n K dX9_sheet_84 rfl ?_
                    refine v_ifN_ne (tgt := 92) K (by omega) dX9_sheet_85 rfl (fun c22 => ?_) (fun c22 => ?_)
                    · skip
                      refine v_iload_n K dX9_sheet_92 rfl ?_
                      refine v_callV (As := [.int (nI 16), .int n]) K (c_X4_renew h j3 (nI 16) n (by omega)) lX9_290 ck_X4 rfl (sh_S (by omega)) (pl_S (by omega)) rfl ⟨by decide, by decide⟩ (Nat.le_of_ble_eq_true rfl) dX9_sheet_93 (fun r11 h11 hp11 => ?_) rfl
                      obtain ⟨rfl, rfl⟩ := hp11
                      refine v_none ?_
                      have hCn3 : CX cM (rw2 (u2 (u2 h (110 + 2 * j3) 0 (nI 16)) (110 + 2 * j3) 1 (if nI 40 < n then nI 40 else n)) (111 + 2 * j3) (zerR (h (111 + 2 * j3)) 0 40)) (rw2 (u2 (u2 s 128 j3 (nI 16)) 129 j3 n) 130 (zerR (s 130) (40 * j3) 40)) τ τk := CX.sx hC (hC.2.2.2.2.1.re (by omega) (if_neg (Int32.not_lt.mpr (by assumption)))) (fun a ha => by rw [rw2_off (by omega), u2_off (by omega), u2_off (by omega)]) (fun a a1 a2 a3 => by rw [rw2_off a3, u2_off a2, u2_off a1])
                      refine v_iconstN K 1 rfl dX9_sheet_96 ?_
                      refine v_iret K dX9_sheet_97 ?_
                      have eY : Y_sheet s (nI j3) (nI 16) n = (nI 1, (rw2 (u2 (u2 s 128 j3 (nI 16)) 129 j3 n) 130 (zerR (s 130) (40 * j3) 40))) := by
                        unfold Y_sheet
                        refine (@if_neg _ (Classical.propDecidable _) (fun q => q ⟨⟨_, by assumption, rfl⟩, (by unfold bitOK; exact Or.inr (Or.inr (Or.inl rfl)))⟩) _ _ _).trans ?_
                        refine (@if_neg _ (Classical.propDecidable _) (fun q => absurd q.2 (Int32.not_lt.mpr c19)) _ _ _).trans ?_
                        refine (@if_neg _ (Classical.propDecidable _) (fun q => absurd q.2 (Int32.not_lt.mpr c21)) _ _ _).trans ?_
                        (rw [cl_ix (show j3 < 2 ^ 31 by omega)]; rfl)
                      exact xfin eY hCn3
                    · exact absurd c22 (by decide)
                  · skip
                    refine v_aload_n K dX9_sheet_71 rfl ?_
                    refine v_iconstN K 1 rfl dX9_sheet_72 ?_
                    refine v_callV (As := [.int (nI 1)]) K (c_X9_error h 1 (by omega)) lX9_75 ck_X9 rfl sh_0 pl_0 rfl ⟨by decide, by decide⟩ (Nat.le_of_ble_eq_true rfl) dX9_sheet_73 (fun r12 h12 hp12 => ?_) rfl
                    obtain ⟨rfl, rfl⟩ := hp12
                    refine v_some ?_
                    have hCe6 : CX cM (u2 h 109 1 (h 109 1 + nI 1)) (u2 s 122 1 (s 122 1 + nI 1)) τ τk := CX.er hC (by omega) (by omega)
                    refine v_iret K dX9_sheet_76 ?_
                    have eY : Y_sheet s (nI j3) (nI 16) n = ((-1000000000) - nI 1, (u2 s 122 1 (s 122 1 + nI 1))) := by
                      unfold Y_sheet
                      refine (@if_neg _ (Classical.propDecidable _) (fun q => q ⟨⟨_, by assumption, rfl⟩, (by unfold bitOK; exact Or.inr (Or.inr (Or.inl rfl)))⟩) _ _ _).trans ?_
                      refine (@if_neg _ (Classical.propDecidable _) (fun q => absurd q.2 (Int32.not_lt.mpr c19)) _ _ _).trans ?_
                      refine (@if_pos _ (Classical.propDecidable _) ⟨by decide, Int32.not_le.mp c21⟩ _ _ _).trans ?_
                      first | rfl | ((try rw [cl_ix (show j3 < 2 ^ 31 by omega)]) ; (try rw [cl_ix (show 16 < 2 ^ 31 by omega)]))
                    exact xfin eY hCe6
              · skip
                refine v_aload_n K dX9_sheet_55 rfl ?_
                refine v_iconstN K 3 rfl dX9_sheet_56 ?_
                refine v_callV (As := [.int (nI 3)]) K (c_X9_error h 3 (by omega)) lX9_75 ck_X9 rfl sh_0 pl_0 rfl ⟨by decide, by decide⟩ (Nat.le_of_ble_eq_true rfl) dX9_sheet_57 (fun r13 h13 hp13 => ?_) rfl
                obtain ⟨rfl, rfl⟩ := hp13
                refine v_some ?_
                have hCe7 : CX cM (u2 h 109 3 (h 109 3 + nI 1)) (u2 s 122 3 (s 122 3 + nI 1)) τ τk := CX.er hC (by omega) (by omega)
                refine v_iret K dX9_sheet_60 ?_
                have eY : Y_sheet s (nI j3) (nI 16) n = ((-1000000000) - nI 3, (u2 s 122 3 (s 122 3 + nI 1))) := by
                  unfold Y_sheet
                  refine (@if_neg _ (Classical.propDecidable _) (fun q => q ⟨⟨_, by assumption, rfl⟩, (by unfold bitOK; exact Or.inr (Or.inr (Or.inl rfl)))⟩) _ _ _).trans ?_
                  refine (@if_pos _ (Classical.propDecidable _) ⟨by decide, Int32.not_le.mp c19⟩ _ _ _).trans ?_
                  first | rfl | ((try rw [cl_ix (show j3 < 2 ^ 31 by omega)]) ; (try rw [cl_ix (show 16 < 2 ^ 31 by omega)]))
                exact xfin eY hCe7
          · exact absurd c17 (by decide)
      · skip
        refine v_iload_n K dX9_sheet_16 rfl ?_
        refine v_bipushN K 32 rfl dX9_sheet_17 ?_
        refine v_icmp_ne (tgt := 26) K dX9_sheet_19 rfl (fun c23 => ?_) (fun c23 => ?_)
        · skip
          refine v_iconstN K 0 rfl dX9_sheet_26 ?_
          refine v_istore (lv2 := [(4, .int (nI 0)), (0, .ref 0), (1, .int w), (2, .int b), (3, .int n)]) K dX9_sheet_27 (by decide) rfl ?_
          refine v_iload_n K dX9_sheet_29 rfl ?_
          refine v_callS (As := [.int w]) K (c_X9_isSheet h w) lX9_287 rfl ⟨by decide, by decide⟩ (Nat.le_of_ble_eq_true rfl) dX9_sheet_30 (fun r14 h14 hp14 => ?_) rfl
          obtain ⟨rfl, rfl⟩ := hp14
          refine v_some ?_
          refine v_ifB_eq (tgt := 41) K dX9_sheet_33 rfl (fun c24 => ?_) (fun c24 => ?_)
          · skip
            refine v_aload_n K dX9_sheet_41 rfl ?_
            refine v_iconstN K 1 rfl dX9_sheet_42 ?_
            refine v_callV (As := [.int (nI 1)]) K (c_X9_error h 1 (by omega)) lX9_75 ck_X9 rfl sh_0 pl_0 rfl ⟨by decide, by decide⟩ (Nat.le_of_ble_eq_true rfl) dX9_sheet_43 (fun r15 h15 hp15 => ?_) rfl
            obtain ⟨rfl, rfl⟩ := hp15
            refine v_some ?_
            have hCe8 : CX cM (u2 h 109 1 (h 109 1 + nI 1)) (u2 s 122 1 (s 122 1 + nI 1)) τ τk := CX.er hC (by omega) (by omega)
            refine v_iret K dX9_sheet_46 ?_
            have eY : Y_sheet s w b n = ((-1000000000) - nI 1, (u2 s 122 1 (s 122 1 + nI 1))) := by
              unfold Y_sheet
              refine (@if_pos _ (Classical.propDecidable _) (fun q => by rcases q.2 with x | x | x | x <;> exact absurd x (by assumption)) _ _ _).trans ?_
              first | rfl | (rfl)
            exact xfin eY hCe8
          · skip
            obtain ⟨j4, Hj4, rfl⟩ := c24
            refine v_iload K dX9_sheet_36 rfl ?_
            refine v_ifN_ne (tgt := 47) K (by omega) dX9_sheet_38 rfl (fun c25 => ?_) (fun c25 => ?_)
            · exact absurd c25 (by decide)
            · skip
              refine v_aload_n K dX9_sheet_41 rfl ?_
              refine v_iconstN K 1 rfl dX9_sheet_42 ?_
              refine v_callV (As := [.int (nI 1)]) K (c_X9_error h 1 (by omega)) lX9_75 ck_X9 rfl sh_0 pl_0 rfl ⟨by decide, by decide⟩ (Nat.le_of_ble_eq_true rfl) dX9_sheet_43 (fun r16 h16 hp16 => ?_) rfl
              obtain ⟨rfl, rfl⟩ := hp16
              refine v_some ?_
              have hCe9 : CX cM (u2 h 109 1 (h 109 1 + nI 1)) (u2 s 122 1 (s 122 1 + nI 1)) τ τk := CX.er hC (by omega) (by omega)
              refine v_iret K dX9_sheet_46 ?_
              have eY : Y_sheet s (nI j4) b n = ((-1000000000) - nI 1, (u2 s 122 1 (s 122 1 + nI 1))) := by
                unfold Y_sheet
                refine (@if_pos _ (Classical.propDecidable _) (fun q => by rcases q.2 with x | x | x | x <;> exact absurd x (by assumption)) _ _ _).trans ?_
                first | rfl | ((try rw [cl_ix (show j4 < 2 ^ 31 by omega)]))
              exact xfin eY hCe9
        · skip
          obtain rfl : b = nI 32 := c23
          refine v_iconstN K 1 rfl dX9_sheet_22 ?_
          refine v_goto (tgt := 27) K dX9_sheet_23 rfl ?_
          refine v_istore (lv2 := [(4, .int (nI 1)), (0, .ref 0), (1, .int w), (2, .int (nI 32)), (3, .int n)]) K dX9_sheet_27 (by decide) rfl ?_
          refine v_iload_n K dX9_sheet_29 rfl ?_
          refine v_callS (As := [.int w]) K (c_X9_isSheet h w) lX9_287 rfl ⟨by decide, by decide⟩ (Nat.le_of_ble_eq_true rfl) dX9_sheet_30 (fun r17 h17 hp17 => ?_) rfl
          obtain ⟨rfl, rfl⟩ := hp17
          refine v_some ?_
          refine v_ifB_eq (tgt := 41) K dX9_sheet_33 rfl (fun c26 => ?_) (fun c26 => ?_)
          · skip
            refine v_aload_n K dX9_sheet_41 rfl ?_
            refine v_iconstN K 1 rfl dX9_sheet_42 ?_
            refine v_callV (As := [.int (nI 1)]) K (c_X9_error h 1 (by omega)) lX9_75 ck_X9 rfl sh_0 pl_0 rfl ⟨by decide, by decide⟩ (Nat.le_of_ble_eq_true rfl) dX9_sheet_43 (fun r18 h18 hp18 => ?_) rfl
            obtain ⟨rfl, rfl⟩ := hp18
            refine v_some ?_
            have hCe10 : CX cM (u2 h 109 1 (h 109 1 + nI 1)) (u2 s 122 1 (s 122 1 + nI 1)) τ τk := CX.er hC (by omega) (by omega)
            refine v_iret K dX9_sheet_46 ?_
            have eY : Y_sheet s w (nI 32) n = ((-1000000000) - nI 1, (u2 s 122 1 (s 122 1 + nI 1))) := by
              unfold Y_sheet
              refine (@if_pos _ (Classical.propDecidable _) (fun q => absurd q.1 (by assumption)) _ _ _).trans ?_
              first | rfl | ((try rw [cl_ix (show 32 < 2 ^ 31 by omega)]))
            exact xfin eY hCe10
          · skip
            obtain ⟨j5, Hj5, rfl⟩ := c26
            refine v_iload K dX9_sheet_36 rfl ?_
            refine v_ifN_ne (tgt := 47) K (by omega) dX9_sheet_38 rfl (fun c27 => ?_) (fun c27 => ?_)
            · skip
              refine v_iload_n K dX9_sheet_47 rfl ?_
              refine v_ifN_eq (tgt := 61) K (by omega) dX9_sheet_48 rfl (fun c28 => ?_) (fun c28 => ?_)
              · exact absurd c28 (by decide)
              · skip
                refine v_iload_n K dX9_sheet_51 rfl ?_
                refine v_if_ge (tgt := 61) K dX9_sheet_52 rfl (fun c29 => ?_) (fun c29 => ?_)
                · skip
                  refine v_iload_n K dX9_sheet_61 rfl ?_
                  refine v_ifN_eq (tgt := 77) K (by omega) dX9_sheet_62 rfl (fun c30 => ?_) (fun c30 => ?_)
                  · exact absurd c30 (by decide)
                  · skip
                    refine v_iload_n K dX9_sheet_65 rfl ?_
                    refine v_bipushN K 40 rfl dX9_sheet_66 ?_
                    refine v_icmp_le (tgt := 77) K dX9_sheet_68 rfl (fun c31 => ?_) (fun c31 => ?_)
                    · skip
                      refine v_aload_n K dX9_sheet_77 rfl ?_
                      refine v_getr (q := 108) K fX9_56 sh_0 pl_0 gl_0_6 dX9_sheet_78 ?_
                      refine v_iload_n K dX9_sheet_81 rfl ?_
                      refine v_aald (q := 110 + 2 * j5) K sh_108 (Or.inr rfl) pl_108 (by omega) (gl_S (by omega)) dX9_sheet_82 ?_
                      refine v_iload_n K dX9_sheet_83 rfl ?_
                      refine v_iload_n K dX9_sheet_84 rfl ?_
                      refine v_ifN_ne (tgt := 92) K (by omega) dX9_sheet_85 rfl (fun c32 => ?_) (fun c32 => ?_)
                      · skip
                        refine v_iload_n K dX9_sheet_92 rfl ?_
                        refine v_callV (As := [.int (nI 32), .int n]) K (c_X4_renew h j5 (nI 32) n (by omega)) lX9_290 ck_X4 rfl (sh_S (by omega)) (pl_S (by omega)) rfl ⟨by decide, by decide⟩ (Nat.le_of_ble_eq_true rfl) dX9_sheet_93 (fun r19 h19 hp19 => ?_) rfl
                        obtain ⟨rfl, rfl⟩ := hp19
                        refine v_none ?_
                        have hCn4 : CX cM (rw2 (u2 (u2 h (110 + 2 * j5) 0 (nI 32)) (110 + 2 * j5) 1 (if nI 40 < n then nI 40 else n)) (111 + 2 * j5) (zerR (h (111 + 2 * j5)) 0 40)) (rw2 (u2 (u2 s 128 j5 (nI 32)) 129 j5 n) 130 (zerR (s 130) (40 * j5) 40)) τ τk := CX.sx hC (hC.2.2.2.2.1.re (by omega) (if_neg (Int32.not_lt.mpr (by assumption)))) (fun a ha => by rw [rw2_off (by omega), u2_off (by omega), u2_off (by omega)]) (fun a a1 a2 a3 => by rw [rw2_off a3, u2_off a2, u2_off a1])
                        refine v_iconstN K 1 rfl dX9_sheet_96 ?_
                        refine v_iret K dX9_sheet_97 ?_
                        have eY : Y_sheet s (nI j5) (nI 32) n = (nI 1, (rw2 (u2 (u2 s 128 j5 (nI 32)) 129 j5 n) 130 (zerR (s 130) (40 * j5) 40))) := by
                          unfold Y_sheet
                          refine (@if_neg _ (Classical.propDecidable _) (fun q => q ⟨⟨_, by assumption, rfl⟩, (by unfold bitOK; exact Or.inr (Or.inr (Or.inr rfl)))⟩) _ _ _).trans ?_
                          refine (@if_neg _ (Classical.propDecidable _) (fun q => absurd q.2 (Int32.not_lt.mpr c29)) _ _ _).trans ?_
                          refine (@if_neg _ (Classical.propDecidable _) (fun q => absurd q.2 (Int32.not_lt.mpr c31)) _ _ _).trans ?_
                          (rw [cl_ix (show j5 < 2 ^ 31 by omega)]; rfl)
                        exact xfin eY hCn4
                      · exact absurd c32 (by decide)
                    · skip
                      refine v_aload_n K dX9_sheet_71 rfl ?_
                      refine v_iconstN K 1 rfl dX9_sheet_72 ?_
                      refine v_callV (As := [.int (nI 1)]) K (c_X9_error h 1 (by omega)) lX9_75 ck_X9 rfl sh_0 pl_0 rfl ⟨by decide, by decide⟩ (Nat.le_of_ble_eq_true rfl) dX9_sheet_73 (fun r20 h20 hp20 => ?_) rfl
                      obtain ⟨rfl, rfl⟩ := hp20
                      refine v_some ?_
                      have hCe11 : CX cM (u2 h 109 1 (h 109 1 + nI 1)) (u2 s 122 1 (s 122 1 + nI 1)) τ τk := CX.er hC (by omega) (by omega)
                      refine v_iret K dX9_sheet_76 ?_
                      have eY : Y_sheet s (nI j5) (nI 32) n = ((-1000000000) - nI 1, (u2 s 122 1 (s 122 1 + nI 1))) := by
                        unfold Y_sheet
                        refine (@if_neg _ (Classical.propDecidable _) (fun q => q ⟨⟨_, by assumption, rfl⟩, (by unfold bitOK; exact Or.inr (Or.inr (Or.inr rfl)))⟩) _ _ _).trans ?_
                        refine (@if_neg _ (Classical.propDecidable _) (fun q => absurd q.2 (Int32.not_lt.mpr c29)) _ _ _).trans ?_
                        refine (@if_pos _ (Classical.propDecidable _) ⟨by decide, Int32.not_le.mp c31⟩ _ _ _).trans ?_
                        first | rfl | ((try rw [cl_ix (show j5 < 2 ^ 31 by omega)]) ; (try rw [cl_ix (show 32 < 2 ^ 31 by omega)]))
                      exact xfin eY hCe11
                · skip
                  refine v_aload_n K dX9_sheet_55 rfl ?_
                  refine v_iconstN K 3 rfl dX9_sheet_56 ?_
                  refine v_callV (As := [.int (nI 3)]) K (c_X9_error h 3 (by omega)) lX9_75 ck_X9 rfl sh_0 pl_0 rfl ⟨by decide, by decide⟩ (Nat.le_of_ble_eq_true rfl) dX9_sheet_57 (fun r21 h21 hp21 => ?_) rfl
                  obtain ⟨rfl, rfl⟩ := hp21
                  refine v_some ?_
                  have hCe12 : CX cM (u2 h 109 3 (h 109 3 + nI 1)) (u2 s 122 3 (s 122 3 + nI 1)) τ τk := CX.er hC (by omega) (by omega)
                  refine v_iret K dX9_sheet_60 ?_
                  have eY : Y_sheet s (nI j5) (nI 32) n = ((-1000000000) - nI 3, (u2 s 122 3 (s 122 3 + nI 1))) := by
                    unfold Y_sheet
                    refine (@if_neg _ (Classical.propDecidable _) (fun q => q ⟨⟨_, by assumption, rfl⟩, (by unfold bitOK; exact Or.inr (Or.inr (Or.inr rfl)))⟩) _ _ _).trans ?_
                    refine (@if_pos _ (Classical.propDecidable _) ⟨by decide, Int32.not_le.mp c29⟩ _ _ _).trans ?_
                    first | rfl | ((try rw [cl_ix (show j5 < 2 ^ 31 by omega)]) ; (try rw [cl_ix (show 32 < 2 ^ 31 by omega)]))
                  exact xfin eY hCe12
            · exact absurd c27 (by decide)
