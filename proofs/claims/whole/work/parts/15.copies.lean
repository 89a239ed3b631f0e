/-! copies on the class's side -/
theorem hB.apart {b c a : Nat} (Hb : hB b) (Hc : hB c) (e : b ≠ c) (h1 : c ≤ a) (h2 : a < c + 18) : a < b ∨ b + 18 ≤ a := by rcases Hb with rfl | rfl | rfl <;> rcases Hc with rfl | rfl | rfl <;> omega
theorem RH.apart {b c : Nat} {h h2 : Mm} {d : Dm} (H : RH c h d) (Hb : hB b) (Hc : hB c) (e : b ≠ c) (F : FrO b (b + 18) h h2) : RH c h2 d := H.far (fun a h1 h2 => F a (hB.apart Hb Hc e h1 h2))

theorem cpy_w {b i : Nat} {h1 : Mm} {d : Dm} {f g : Nat → Int32} (hw : ∀ w k, w < i → k < 6 → h1 (b + 3 + w) k = d (46 + 6 * w + k)) (hf : ∀ k, k < 6 → f k = d (46 + 6 * i + k)) : ∀ w k, w < i + 1 → k < 6 → rw2 h1 (b + 3 + i) (va_cpy f g 0 0 6) (b + 3 + w) k = d (46 + 6 * w + k) := by
  intro w k h1 h2
  by_cases q : w = i
  · subst q; rw [rw2_at, sb_cpy0 h2]; exact hf k h2
  · rw [rw2_off (by omega)]; exact hw w k (by omega) h2
theorem cpy_t {b i : Nat} {h1 : Mm} {d : Dm} {f g : Nat → Int32} (hw : ∀ w k, w < i → k < 3 → h1 (b + 12 + w) k = d (94 + 3 * w + k)) (hf : ∀ k, k < 3 → f k = d (94 + 3 * i + k)) : ∀ w k, w < i + 1 → k < 3 → rw2 h1 (b + 12 + i) (va_cpy f g 0 0 3) (b + 12 + w) k = d (94 + 3 * w + k) := by
  intro w k h1 h2
  by_cases q : w = i
  · subst q; rw [rw2_at, sb_cpy0 h2]; exact hf k h2
  · rw [rw2_off (by omega)]; exact hw w k (by omega) h2

abbrev P_X1_copyFrom (h : Mm) (b c : Nat) (d : Dm) : Option Value → Mm → Prop := fun r h2 => r = none ∧ RH b h2 d ∧ FrO b (b + 18) h h2
theorem c_X1_copyFrom {l : Launch} (h : Mm) (b c : Nat) (d : Dm) (Hb : hB b) (Hc : hB c) (e : b ≠ c) (hR : RH c h d) : Con l yX1_copyFrom cX1_copyFrom 3 none 1 60 132 GL h [.ref b, .ref c] (P_X1_copyFrom h b c d) := by
  refine Con.ofV (own := "FoxRounds$House") (nm := "copyFrom") rfl rfl (by decide) (Nat.le_of_ble_eq_true rfl) ?_
  intro κ ρ hkl K
  subst hkl
  show V κ (QM κ (132, ρ, GL, 0, 0) (P_X1_copyFrom h b c d)) 3 (132, ρ, GL, 0, 0) h 0 [(0, .ref b), (1, .ref c)] []
  refine v_aload_n K dX1_copyFrom_0 rfl ?_
  refine v_getr (q := c + 1) K fX1_9 Hc.o Hc.l0 Hc.g0 dX1_copyFrom_1 ?_
  refine v_iconstN K 0 rfl dX1_copyFrom_4 ?_
  refine v_aload_n K dX1_copyFrom_5 rfl ?_
  refine v_getr (q := b + 1) K fX1_9 Hb.o Hb.l0 Hb.g0 dX1_copyFrom_6 ?_
  refine v_iconstN K 0 rfl dX1_copyFrom_9 ?_
  refine v_aload_n K dX1_copyFrom_10 rfl ?_
  refine v_getr (q := b + 1) K fX1_9 Hb.o Hb.l0 Hb.g0 dX1_copyFrom_11 ?_
  refine v_alen (N := 8) K Hb.n (by decide) (Hb.l (by omega)) dX1_copyFrom_14 ?_
  refine v_copy K jX1_45 jna_copy jst_copy jin_sys Hc.n Hb.n (Or.inl rfl) (Hc.l (by omega)) (Hb.l (by omega)) (by omega) (by omega) ⟨by decide, by decide⟩ (Nat.le_of_ble_eq_true rfl) dX1_copyFrom_15 ?_
  have hFf1 : FrO b (b + 18) h (rw2 h (b + 1) (va_cpy (h (c + 1)) (h (b + 1)) 0 0 8)) := FrO.rw (FrO.r (lo := b) (hi := b + 18) (h := h)) (by omega) (by omega)
  have hRf1 : RH c (rw2 h (b + 1) (va_cpy (h (c + 1)) (h (b + 1)) 0 0 8)) d := RH.apart hR Hb Hc e hFf1
  refine v_aload_n K dX1_copyFrom_18 rfl ?_
  refine v_aload_n K dX1_copyFrom_19 rfl ?_
  refine v_geti (x := d 8) K fX1_15 Hc.o Hc.l0 hRf1.o8 dX1_copyFrom_20 ?_
  refine v_puti K pX1_15 Hb.o Hb.l0 dX1_copyFrom_23 ?_
  have hFf2 : FrO b (b + 18) h (u2 ((rw2 h (b + 1) (va_cpy (h (c + 1)) (h (b + 1)) 0 0 8))) b 1 (d 8)) := hFf1.u (by omega) (by omega)
  have hRf2 : RH c (u2 ((rw2 h (b + 1) (va_cpy (h (c + 1)) (h (b + 1)) 0 0 8))) b 1 (d 8)) d := RH.apart hR Hb Hc e hFf2
  refine v_aload_n K dX1_copyFrom_26 rfl ?_
  refine v_aload_n K dX1_copyFrom_27 rfl ?_
  refine v_geti (x := d 9) K fX1_19 Hc.o Hc.l0 hRf2.o9 dX1_copyFrom_28 ?_
  refine v_puti K pX1_19 Hb.o Hb.l0 dX1_copyFrom_31 ?_
  have hFf3 : FrO b (b + 18) h (u2 ((u2 ((rw2 h (b + 1) (va_cpy (h (c + 1)) (h (b + 1)) 0 0 8))) b 1 (d 8))) b 2 (d 9)) := hFf2.u (by omega) (by omega)
  have hRf3 : RH c (u2 ((u2 ((rw2 h (b + 1) (va_cpy (h (c + 1)) (h (b + 1)) 0 0 8))) b 1 (d 8))) b 2 (d 9)) d := RH.apart hR Hb Hc e hFf3
  refine v_aload_n K dX1_copyFrom_34 rfl ?_
  refine v_aload_n K dX1_copyFrom_35 rfl ?_
  refine v_geti (x := d 10) K fX1_27 Hc.o Hc.l0 hRf3.oA dX1_copyFrom_36 ?_
  refine v_puti K pX1_27 Hb.o Hb.l0 dX1_copyFrom_39 ?_
  have hFf4 : FrO b (b + 18) h (u2 ((u2 ((u2 ((rw2 h (b + 1) (va_cpy (h (c + 1)) (h (b + 1)) 0 0 8))) b 1 (d 8))) b 2 (d 9))) b 4 (d 10)) := hFf3.u (by omega) (by omega)
  have hRf4 : RH c (u2 ((u2 ((u2 ((rw2 h (b + 1) (va_cpy (h (c + 1)) (h (b + 1)) 0 0 8))) b 1 (d 8))) b 2 (d 9))) b 4 (d 10)) d := RH.apart hR Hb Hc e hFf4
  refine v_iconstN K 0 rfl dX1_copyFrom_42 ?_
  refine v_istore_n (lv2 := [(2, .int (nI 0)), (0, .ref b), (1, .ref c)]) K dX1_copyFrom_43 (by decide) rfl ?_
  have L44 : ∀ (mm : Nat) (i : Nat) (h1 : Mm) (hn : ∀ k, k < 8 → h1 (b + 1) k = d k) (h8 : h1 b 1 = d 8) (h9 : h1 b 2 = d 9) (hA : h1 b 4 = d 10) (hi : i ≤ 8) (hw : ∀ w k, w < i → k < 6 → h1 (b + 3 + w) k = d (46 + 6 * w + k)) (hF1 : FrO b (b + 18) h h1), 9 - i < mm → V κ (QM κ (132, ρ, GL, 0, 0) (P_X1_copyFrom h b c d)) 3 (132, ρ, GL, 0, 0) h1 44 [(0, .ref b), (1, .ref c), (2, .int (nI i))] [] := by
    intro mm
    induction mm with
    | zero => intro i h1 hn h8 h9 hA hi hw hF1 hmm; exact absurd hmm (Nat.not_lt_zero _)
    | succ mm ih44 =>
      intro i h1 hn h8 h9 hA hi hw hF1 hmm
      have hR1 : RH c h1 d := RH.apart hR Hb Hc e hF1
      refine v_iload_n K dX1_copyFrom_44 rfl ?_
      refine v_bipushN K 8 rfl dX1_copyFrom_45 ?_
      refine v_icmpN_ge (tgt := 75) K (by omega) (by omega) dX1_copyFrom_47 rfl (fun c1 => ?_) (fun c1 => ?_)
      · skip
        refine v_aload_n K dX1_copyFrom_75 rfl ?_
        refine v_aload_n K dX1_copyFrom_76 rfl ?_
        refine v_geti (x := d 11) K fX1_33 Hc.o Hc.l0 hR1.oB dX1_copyFrom_77 ?_
        refine v_puti K pX1_33 Hb.o Hb.l0 dX1_copyFrom_80 ?_
        have hFf5 : FrO b (b + 18) h (u2 h1 b 6 (d 11)) := hF1.u (by omega) (by omega)
        have hRf5 : RH c (u2 h1 b 6 (d 11)) d := RH.apart hR Hb Hc e hFf5
        refine v_iconstN K 0 rfl dX1_copyFrom_83 ?_
        refine v_istore_n (lv2 := [(2, .int (nI 0)), (0, .ref b), (1, .ref c)]) K dX1_copyFrom_84 (by decide) rfl ?_
        have L85 : ∀ (mm : Nat) (i : Nat) (h1 : Mm) (hn : ∀ k, k < 8 → h1 (b + 1) k = d k) (h8 : h1 b 1 = d 8) (h9 : h1 b 2 = d 9) (hA : h1 b 4 = d 10) (hB1 : h1 b 6 = d 11) (hi : i ≤ 5) (hw : ∀ w k, w < 8 → k < 6 → h1 (b + 3 + w) k = d (46 + 6 * w + k)) (ht : ∀ t k, t < i → k < 3 → h1 (b + 12 + t) k = d (94 + 3 * t + k)) (hF1 : FrO b (b + 18) h h1), 6 - i < mm → V κ (QM κ (132, ρ, GL, 0, 0) (P_X1_copyFrom h b c d)) 3 (132, ρ, GL, 0, 0) h1 85 [(0, .ref b), (1, .ref c), (2, .int (nI i))] [] := by
          intro mm
          induction mm with
          | zero => intro i h1 hn h8 h9 hA hB1 hi hw ht hF1 hmm; exact absurd hmm (Nat.not_lt_zero _)
          | succ mm ih85 =>
            intro i h1 hn h8 h9 hA hB1 hi hw ht hF1 hmm
            have hR1 : RH c h1 d := RH.apart hR Hb Hc e hF1
            refine v_iload_n K dX1_copyFrom_85 rfl ?_
            refine v_iconstN K 5 rfl dX1_copyFrom_86 ?_
            refine v_icmpN_ge (tgt := 114) K (by omega) (by omega) dX1_copyFrom_87 rfl (fun c2 => ?_) (fun c2 => ?_)
            · skip
              refine v_vret K dX1_copyFrom_114 ?_
              have e5 : i = 5 := by omega
              subst e5
              exact ⟨rfl, ⟨hn, ⟨h8, h9, hA, hB1⟩, hw, ht⟩, hF1⟩
            · skip
              refine v_aload_n K dX1_copyFrom_90 rfl ?_
              refine v_getr (q := c + 11) K fX1_30 Hc.o Hc.l0 Hc.g5 dX1_copyFrom_91 ?_
              refine v_iload_n K dX1_copyFrom_94 rfl ?_
              refine v_aald (q := c + 12 + i) K Hc.T (Or.inl rfl) (Hc.l (by omega)) (by omega) (Hc.gt (by omega)) dX1_copyFrom_95 ?_
              refine v_iconstN K 0 rfl dX1_copyFrom_96 ?_
              refine v_aload_n K dX1_copyFrom_97 rfl ?_
              refine v_getr (q := b + 11) K fX1_30 Hb.o Hb.l0 Hb.g5 dX1_copyFrom_98 ?_
              refine v_iload_n K dX1_copyFrom_101 rfl ?_
              refine v_aald (q := b + 12 + i) K Hb.T (Or.inl rfl) (Hb.l (by omega)) (by omega) (Hb.gt (by omega)) dX1_copyFrom_102 ?_
              refine v_iconstN K 0 rfl dX1_copyFrom_103 ?_
              refine v_iconstN K 3 rfl dX1_copyFrom_104 ?_
              refine v_copy K jX1_45 jna_copy jst_copy jin_sys (Hc.t (by omega)) (Hb.t (by omega)) (Or.inl rfl) (Hc.l12 (by omega)) (Hb.l12 (by omega)) (by omega) (by omega) ⟨by decide, by decide⟩ (Nat.le_of_ble_eq_true rfl) dX1_copyFrom_105 ?_
              have hFf6 : FrO b (b + 18) h (rw2 h1 (b + 12 + i) (va_cpy (h1 (c + 12 + i)) (h1 (b + 12 + i)) 0 0 3)) := FrO.rw hF1 (by omega) (by omega)
              have hRf6 : RH c (rw2 h1 (b + 12 + i) (va_cpy (h1 (c + 12 + i)) (h1 (b + 12 + i)) 0 0 3)) d := RH.apart hR Hb Hc e hFf6
              refine v_iincN (lv2 := [(2, .int (nI (i + 1))), (0, .ref b), (1, .ref c)]) K 1 dX1_copyFrom_108 rfl rfl (by decide) rfl ?_
              refine v_goto (tgt := 85) K dX1_copyFrom_111 rfl ?_
              refine v_sub (lv2 := [(0, .ref b), (1, .ref c), (2, .int (nI (i + 1)))]) (by simp) ?_
              exact ih85 (i + 1) ((rw2 h1 (b + 12 + i) (va_cpy (h1 (c + 12 + i)) (h1 (b + 12 + i)) 0 0 3))) (by intro k hk; rw [rw2_off (by omega)]; exact hn k hk) (by rw [rw2_off (by omega)]; exact h8) (by rw [rw2_off (by omega)]; exact h9) (by rw [rw2_off (by omega)]; exact hA) (by rw [rw2_off (by omega)]; exact hB1) (by first | assumption | omega | rfl) (by intro w k h1 h2; rw [rw2_off (by omega)]; exact hw w k h1 h2) (by exact cpy_t ht (fun k hk => hR1.t (by omega) hk)) (by exact hFf6) (by omega)
        refine v_sub (lv2 := [(0, .ref b), (1, .ref c), (2, .int (nI 0))]) (by simp) ?_
        exact L85 (6 - 0 + 1) 0 ((u2 h1 b 6 (d 11))) (by intro k hk; rw [u2_ne (by omega)]; exact hn k hk) (by rw [u2_ne (by omega)]; exact h8) (by rw [u2_ne (by omega)]; exact h9) (by rw [u2_ne (by omega)]; exact hA) (by exact u2_at) (by first | assumption | omega | rfl) (by intro w k h1 h2; rw [u2_ne (by omega)]; exact hw w k (by omega) h2) (by intro w k hw2; omega) (by exact hFf5) (Nat.lt_succ_self _)
      · skip
        refine v_aload_n K dX1_copyFrom_50 rfl ?_
        refine v_getr (q := c + 2) K fX1_24 Hc.o Hc.l0 Hc.g3 dX1_copyFrom_51 ?_
        refine v_iload_n K dX1_copyFrom_54 rfl ?_
        refine v_aald (q := c + 3 + i) K Hc.W (Or.inl rfl) (Hc.l (by omega)) (by omega) (Hc.gw (by omega)) dX1_copyFrom_55 ?_
        refine v_iconstN K 0 rfl dX1_copyFrom_56 ?_
        refine v_aload_n K dX1_copyFrom_57 rfl ?_
        refine v_getr (q := b + 2) K fX1_24 Hb.o Hb.l0 Hb.g3 dX1_copyFrom_58 ?_
        refine v_iload_n K dX1_copyFrom_61 rfl ?_
        refine v_aald (q := b + 3 + i) K Hb.W (Or.inl rfl) (Hb.l (by omega)) (by omega) (Hb.gw (by omega)) dX1_copyFrom_62 ?_
        refine v_iconstN K 0 rfl dX1_copyFrom_63 ?_
        refine v_bipushN K 6 rfl dX1_copyFrom_64 ?_
        refine v_copy K jX1_45 jna_copy jst_copy jin_sys (Hc.w (by omega)) (Hb.w (by omega)) (Or.inl rfl) (Hc.l3 (by omega)) (Hb.l3 (by omega)) (by omega) (by omega) ⟨by decide, by decide⟩ (Nat.le_of_ble_eq_true rfl) dX1_copyFrom_66 ?_
        have hFf7 : FrO b (b + 18) h (rw2 h1 (b + 3 + i) (va_cpy (h1 (c + 3 + i)) (h1 (b + 3 + i)) 0 0 6)) := FrO.rw hF1 (by omega) (by omega)
        have hRf7 : RH c (rw2 h1 (b + 3 + i) (va_cpy (h1 (c + 3 + i)) (h1 (b + 3 + i)) 0 0 6)) d := RH.apart hR Hb Hc e hFf7
        refine v_iincN (lv2 := [(2, .int (nI (i + 1))), (0, .ref b), (1, .ref c)]) K 1 dX1_copyFrom_69 rfl rfl (by decide) rfl ?_
        refine v_goto (tgt := 44) K dX1_copyFrom_72 rfl ?_
        refine v_sub (lv2 := [(0, .ref b), (1, .ref c), (2, .int (nI (i + 1)))]) (by simp) ?_
        exact ih44 (i + 1) ((rw2 h1 (b + 3 + i) (va_cpy (h1 (c + 3 + i)) (h1 (b + 3 + i)) 0 0 6))) (by intro k hk; rw [rw2_off (by omega)]; exact hn k hk) (by rw [rw2_off (by omega)]; exact h8) (by rw [rw2_off (by omega)]; exact h9) (by rw [rw2_off (by omega)]; exact hA) (by first | assumption | omega | rfl) (by exact cpy_w hw (fun k hk => hR1.w (by omega) hk)) (by exact hFf7) (by omega)
  refine v_sub (lv2 := [(0, .ref b), (1, .ref c), (2, .int (nI 0))]) (by simp) ?_
  exact L44 (9 - 0 + 1) 0 ((u2 ((u2 ((u2 ((rw2 h (b + 1) (va_cpy (h (c + 1)) (h (b + 1)) 0 0 8))) b 1 (d 8))) b 2 (d 9))) b 4 (d 10))) (by intro k hk; rw [u2_ne (by omega), u2_ne (by omega), u2_ne (by omega), rw2_at, sb_cpy0 hk]; exact hR.n hk) (by rw [u2_ne (by omega), u2_ne (by omega), u2_at]) (by rw [u2_ne (by omega), u2_at]) (by exact u2_at) (by first | assumption | omega | rfl) (by intro w k hw2; omega) (by exact hFf4) (Nat.lt_succ_self _)
