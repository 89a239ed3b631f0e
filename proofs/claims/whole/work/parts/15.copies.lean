/-! copies on the class's side -/
theorem hB.apart {b c a : Nat} (Hb : hB b) (Hc : hB c) (e : b ≠ c) (h1 : c ≤ a) (h2 : a < c + 18) : a < b ∨ b + 18 ≤ a := by rcases Hb with rfl | rfl | rfl <;> rcases Hc with rfl | rfl | rfl <;> omega
theorem RH.apart {b c : Nat} {h h2 : Mm} {d : Dm} (H : RH c h d) (Hb : hB b) (Hc : hB c) (e : b ≠ c) (F : FrO b (b + 18) h h2) : RH c h2 d := H.far (fun a h1 h2 => F a (hB.apart Hb Hc e h1 h2))

theorem cpy_w {b i : Nat} {h1 : Mm} {d : Dm} {f g : Nat → Int32} (hw : ∀ w k, w < i → k < 6 → h1 (b + 3 + w) k = d (46 + 6 * w + k)) (hf : ∀ k, k < 6 → f k = d (46 + 6 * i + k)) : ∀ w k, w < i + 1 → k < 6 → rw2 h1 (b + 3 + i) (va_cpy f g 0 0 6) (b + 3 + w) k = d (46 + 6 * w + k) := by
  intro w k h1 h2
  by_cases q : w = i
  · subst q; rw [rw2_at, sb_cpy0 h2]; exact hf k h2
  · rw [rw2_off (by omega)]; exact hw w k (by omega) h2
theorem cpy_t {b i : Nat} {h1 : Mm} {d : Dm} {f g : Nat → Int32} (hw : ∀ w k, w < i → k < 3 → h1 (b + 12 + w) k = d (94 + 3 * w + k)) (hf : ∀ k, k < 3 → f k = d (94 + 3 * i + k)) : ∀ w k, w < i + 1 → k < 3 → rw2 h1 (b + 12 + i) (va_cpy f g 0 0 3) (b + 12 + w) k = d (94 + 3 * w + k) := by
  intro w k h1 h2
  by_cases q : w = i
  · subst q; rw [rw2_at, sb_cpy0 h2]; exact hf k h2
  · rw [rw2_off (by omega)]; exact hw w k (by omega) h2

abbrev P_X1_copyFrom (h : Mm) (b c : Nat) (d : Dm) : Option Value → Mm → Prop := fun r h2 => r = none ∧ RH b h2 d ∧ FrO b (b + 18) h h2
theorem c_X1_copyFrom {l : Launch} (h : Mm) (b c : Nat) (d : Dm) (Hb : hB b) (Hc : hB c) (e : b ≠ c) (hR : RH c h d) : Con l yX1_copyFrom cX1_copyFrom 3 none 1 60 132 GL h [.ref b, .ref c] (P_X1_copyFrom h b c d) := by
  refine Con.ofV (own := "FoxRounds$House") (nm := "copyFrom") rfl rfl (by decide) (Nat.le_of_ble_eq_true rfl) ?_
  intro κ ρ hkl K
  subst hkl
  show V κ (QM κ (132, ρ, GL, 0, 0) (P_X1_copyFrom h b c d)) 3 (132, ρ, GL, 0, 0) h 0 [(0, .ref b), (1, .ref c)] []
  refine v_aload_n K dX1_copyFrom_0 rfl ?_
  refine v_getr (q := c + 1) K fX1_9 Hc.o Hc.l0 Hc.g0 dX1_copyFrom_1 ?_
  refine v_iconstN K 0 rfl dX1_copyFrom_4 ?_
  refine v_aload_n K dX1_copyFrom_5 rfl ?_
  refine v_getr (q := b + 1) K fX1_9 Hb.o Hb.l0 Hb.g0 dX1_copyFrom_6 ?_
  refine v_iconstN K 0 rfl dX1_copyFrom_9 ?_
  refine v_aload_n K dX1_copyFrom_10 rfl ?_
  refine v_getr (q := b + 1) K fX1_9 Hb.o Hb.l0 Hb.g0 dX1_copyFrom_11 ?_
  refine v_alen (N := 8) K Hb.n (by decide) (Hb.l (by omega)) dX1_copyFrom_14 ?_
  refine v_copy K jX1_45 jna_copy jst_copy jin_sys Hc.n Hb.n (Or.inl rfl) (Hc.l (by omega)) (Hb.l (by omega)) (by omega) (by omega) ⟨by decide, by decide⟩ (Nat.le_of_ble_eq_true rfl) dX1_copyFrom_15 ?_
  have hFf1 : FrO b (b + 18) h (rw2 h (b + 1) (va_cpy (h (c + 1)) (h (b + 1)) 0 0 8)) := FrO.rw (FrO.r (lo := b) (hi := b + 18) (h := h)) (by omega) (by omega)
  have hRf1 : RH c (rw2 h (b + 1) (va_cpy (h (c + 1)) (h (b + 1)) 0 0 8)) d := RH.apart hR Hb Hc e hFf1
  refine v_aload_n K dX1_copyFrom_18 rfl ?_
  refine v_aload_n K dX1_copyFrom_19 rfl ?_
  refine v_geti (x := d 8) K fX1_15 Hc.o Hc.l0 hRf1.o8 dX1_copyFrom_20 ?_
  refine v_puti K pX1_15 Hb.o Hb.l0 dX1_copyFrom_23 ?_
  have hFf2 : FrO b (b + 18) h (u2 ((rw2 h (b + 1) (va_cpy (h (c + 1)) (h (b + 1)) 0 0 8))) b 1 (d 8)) := hFf1.u (by omega) (by omega)
  have hRf2 : RH c (u2 ((rw2 h (b + 1) (va_cpy (h (c + 1)) (h (b + 1)) 0 0 8))) b 1 (d 8)) d := RH.apart hR Hb Hc e hFf2
  refine v_aload_n K dX1_copyFrom_26 rfl ?_
  refine v_aload_n K dX1_copyFrom_27 rfl ?_
  refine v_geti (x := d 9) K fX1_19 Hc.o Hc.l0 hRf2.o9 dX1_copyFrom_28 ?_
  refine v_puti K pX1_19 Hb.o Hb.l0 dX1_copyFrom_31 ?_
  have hFf3 : FrO b (b + 18) h (u2 ((u2 ((rw2 h (b + 1) (va_cpy (h (c + 1)) (h (b + 1)) 0 0 8))) b 1 (d 8))) b 2 (d 9)) := hFf2.u (by omega) (by omega)
  have hRf3 : RH c (u2 ((u2 ((rw2 h (b + 1) (va_cpy (h (c + 1)) (h (b + 1)) 0 0 8))) b 1 (d 8))) b 2 (d 9)) d := RH.apart hR Hb Hc e hFf3
  refine v_aload_n K dX1_copyFrom_34 rfl ?_
  refine v_aload_n K dX1_copyFrom_35 rfl ?_
  refine v_geti (x := d 10) K fX1_27 Hc.o Hc.l0 hRf3.oA dX1_copyFrom_36 ?_
  refine v_puti K pX1_27 Hb.o Hb.l0 dX1_copyFrom_39 ?_
  have hFf4 : FrO b (b + 18) h (u2 ((u2 ((u2 ((rw2 h (b + 1) (va_cpy (h (c + 1)) (h (b + 1)) 0 0 8))) b 1 (d 8))) b 2 (d 9))) b 4 (d 10)) := hFf3.u (by omega) (by omega)
  have hRf4 : RH c (u2 ((u2 ((u2 ((rw2 h (b + 1) (va_cpy (h (c + 1)) (h (b + 1)) 0 0 8))) b 1 (d 8))) b 2 (d 9))) b 4 (d 10)) d := RH.apart hR Hb Hc e hFf4
  refine v_iconstN K 0 rfl dX1_copyFrom_42 ?_
  refine v_istore_n (lv2 := [(2, .int (nI 0)), (0, .ref b), (1, .ref c)]) K dX1_copyFrom_43 (by decide) rfl ?_
  have L44 : ∀ (mm : Nat) (i : Nat) (h1 : Mm) (hn : ∀ k, k < 8 → h1 (b + 1) k = d k) (h8 : h1 b 1 = d 8) (h9 : h1 b 2 = d 9) (hA : h1 b 4 = d 10) (hi : i ≤ 8) (hw : ∀ w k, w < i → k < 6 → h1 (b + 3 + w) k = d (46 + 6 * w + k)) (hF1 : FrO b (b + 18) h h1), 9 - i < mm → V κ (QM κ (132, ρ, GL, 0, 0) (P_X1_copyFrom h b c d)) 3 (132, ρ, GL, 0, 0) h1 44 [(0, .ref b), (1, .ref c), (2, .int (nI i))] [] := by
    intro mm
    induction mm with
    | zero => intro i h1 hn h8 h9 hA hi hw hF1 hmm; exact absurd hmm (Nat.not_lt_zero _)
    | succ mm ih44 =>
      intro i h1 hn h8 h9 hA hi hw hF1 hmm
      have hR1 : RH c h1 d := RH.apart hR Hb Hc e hF1
      refine v_iload_n K dX1_copyFrom_44 rfl ?_
      refine v_bipushN K 8 rfl dX1_copyFrom_45 ?_
      refine v_icmpN_ge (tgt := 75) K (by omega) (by omega) dX1_copyFrom_47 rfl (fun c1 => ?_) (fun c1 => ?_)
      · skip
        refine v_aload_n K dX1_copyFrom_75 rfl ?_
        refine v_aload_n K dX1_copyFrom_76 rfl ?_
        refine v_geti (x := d 11) K fX1_33 Hc.o Hc.l0 hR1.oB dX1_copyFrom_77 ?_
        refine v_puti K pX1_33 Hb.o Hb.l0 dX1_copyFrom_80 ?_
        have hFf5 : FrO b (b + 18) h (u2 h1 b 6 (d 11)) := hF1.u (by omega) (by omega)
        have hRf5 : RH c (u2 h1 b 6 (d 11)) d := RH.apart hR Hb Hc e hFf5
        refine v_iconstN K 0 rfl dX1_copyFrom_83 ?_
        refine v_istore_n (lv2 := [(2, .int (nI 0)), (0, .ref b), (1, .ref c)]) K dX1_copyFrom_84 (by decide) rfl ?_
        have L85 : ∀ (mm : Nat) (i : Nat) (h1 : Mm) (hn : ∀ k, k < 8 → h1 (b + 1) k = d k) (h8 : h1 b 1 = d 8) (h9 : h1 b 2 = d 9) (hA : h1 b 4 = d 10) (hB1 : h1 b 6 = d 11) (hi : i ≤ 5) (hw : ∀ w k, w < 8 → k < 6 → h1 (b + 3 + w) k = d (46 + 6 * w + k)) (ht : ∀ t k, t < i → k < 3 → h1 (b + 12 + t) k = d (94 + 3 * t + k)) (hF1 : FrO b (b + 18) h h1), 6 - i < mm → V κ (QM κ (132, ρ, GL, 0, 0) (P_X1_copyFrom h b c d)) 3 (132, ρ, GL, 0, 0) h1 85 [(0, .ref b), (1, .ref c), (2, .int (nI i))] [] := by
          intro mm
          induction mm with
          | zero => intro i h1 hn h8 h9 hA hB1 hi hw ht hF1 hmm; exact absurd hmm (Nat.not_lt_zero _)
          | succ mm ih85 =>
            intro i h1 hn h8 h9 hA hB1 hi hw ht hF1 hmm
            have hR1 : RH c h1 d := RH.apart hR Hb Hc e hF1
            refine v_iload_n K dX1_copyFrom_85 rfl ?_
            refine v_iconstN K 5 rfl dX1_copyFrom_86 ?_
            refine v_icmpN_ge (tgt := 114) K (by omega) (by omega) dX1_copyFrom_87 rfl (fun c2 => ?_) (fun c2 => ?_)
            · skip
              refine v_vret K dX1_copyFrom_114 ?_
              have e5 : i = 5 := by omega
              subst e5
              exact ⟨rfl, ⟨hn, ⟨h8, h9, hA, hB1⟩, hw, ht⟩, hF1⟩
            · skip
              refine v_aload_n K dX1_copyFrom_90 rfl ?_
              refine v_getr (q := c + 11) K fX1_30 Hc.o Hc.l0 Hc.g5 dX1_copyFrom_91 ?_
              refine v_iload_n K dX1_copyFrom_94 rfl ?_
              refine v_aald (q := c + 12 + i) K Hc.T (Or.inl rfl) (Hc.l (by omega)) (by omega) (Hc.gt (by omega)) dX1_copyFrom_95 ?_
              refine v_iconstN K 0 rfl dX1_copyFrom_96 ?_
              refine v_aload_n K dX1_copyFrom_97 rfl ?_
              refine v_getr (q := b + 11) K fX1_30 Hb.o Hb.l0 Hb.g5 dX1_copyFrom_98 ?_
              refine v_iload_n K dX1_copyFrom_101 rfl ?_
              refine v_aald (q := b + 12 + i) K Hb.T (Or.inl rfl) (Hb.l (by omega)) (by omega) (Hb.gt (by omega)) dX1_copyFrom_102 ?_
              refine v_iconstN K 0 rfl dX1_copyFrom_103 ?_
              refine v_iconstN K 3 rfl dX1_copyFrom_104 ?_
              refine v_copy K jX1_45 jna_copy jst_copy jin_sys (Hc.t (by omega)) (Hb.t (by omega)) (Or.inl rfl) (Hc.l12 (by omega)) (Hb.l12 (by omega)) (by omega) (by omega) ⟨by decide, by decide⟩ (Nat.le_of_ble_eq_true rfl) dX1_copyFrom_105 ?_
              have hFf6 : FrO b (b + 18) h (rw2 h1 (b + 12 + i) (va_cpy (h1 (c + 12 + i)) (h1 (b + 12 + i)) 0 0 3)) := FrO.rw hF1 (by omega) (by omega)
              have hRf6 : RH c (rw2 h1 (b + 12 + i) (va_cpy (h1 (c + 12 + i)) (h1 (b + 12 + i)) 0 0 3)) d := RH.apart hR Hb Hc e hFf6
              refine v_iincN (lv2 := [(2, .int (nI (i + 1))), (0, .ref b), (1, .ref c)]) K 1 dX1_copyFrom_108 rfl rfl (by decide) rfl ?_
              refine v_goto (tgt := 85) K dX1_copyFrom_111 rfl ?_
              refine v_sub (lv2 := [(0, .ref b), (1, .ref c), (2, .int (nI (i + 1)))]) (by simp) ?_
              exact ih85 (i + 1) ((rw2 h1 (b + 12 + i) (va_cpy (h1 (c + 12 + i)) (h1 (b + 12 + i)) 0 0 3))) (by intro k hk; rw [rw2_off (by omega)]; exact hn k hk) (by rw [rw2_off (by omega)]; exact h8) (by rw [rw2_off (by omega)]; exact h9) (by rw [rw2_off (by omega)]; exact hA) (by rw [rw2_off (by omega)]; exact hB1) (by first | assumption | omega | rfl) (by intro w k h1 h2; rw [rw2_off (by omega)]; exact hw w k h1 h2) (by exact cpy_t ht (fun k hk => hR1.t (by omega) hk)) (by exact hFf6) (by omega)
        refine v_sub (lv2 := [(0, .ref b), (1, .ref c), (2, .int (nI 0))]) (by simp) ?_
        exact L85 (6 - 0 + 1) 0 ((u2 h1 b 6 (d 11))) (by intro k hk; rw [u2_ne (by omega)]; exact hn k hk) (by rw [u2_ne (by omega)]; exact h8) (by rw [u2_ne (by omega)]; exact h9) (by rw [u2_ne (by omega)]; exact hA) (by exact u2_at) (by first | assumption | omega | rfl) (by intro w k h1 h2; rw [u2_ne (by omega)]; exact hw w k (by omega) h2) (by intro w k hw2; omega) (by exact hFf5) (Nat.lt_succ_self _)
      · skip
        refine v_aload_n K dX1_copyFrom_50 rfl ?_
        refine v_getr (q := c + 2) K fX1_24 Hc.o Hc.l0 Hc.g3 dX1_copyFrom_51 ?_
        refine v_iload_n K dX1_copyFrom_54 rfl ?_
        refine v_aald (q := c + 3 + i) K Hc.W (Or.inl rfl) (Hc.l (by omega)) (by omega) (Hc.gw (by omega)) dX1_copyFrom_55 ?_
        refine v_iconstN K 0 rfl dX1_copyFrom_56 ?_
        refine v_aload_n K dX1_copyFrom_57 rfl ?_
        refine v_getr (q := b + 2) K fX1_24 Hb.o Hb.l0 Hb.g3 dX1_copyFrom_58 ?_
        refine v_iload_n K dX1_copyFrom_61 rfl ?_
        refine v_aald (q := b + 3 + i) K Hb.W (Or.inl rfl) (Hb.l (by omega)) (by omega) (Hb.gw (by omega)) dX1_copyFrom_62 ?_
        refine v_iconstN K 0 rfl dX1_copyFrom_63 ?_
        refine v_bipushN K 6 rfl dX1_copyFrom_64 ?_
        refine v_copy K jX1_45 jna_copy jst_copy jin_sys (Hc.w (by omega)) (Hb.w (by omega)) (Or.inl rfl) (Hc.l3 (by omega)) (Hb.l3 (by omega)) (by omega) (by omega) ⟨by decide, by decide⟩ (Nat.le_of_ble_eq_true rfl) dX1_copyFrom_66 ?_
        have hFf7 : FrO b (b + 18) h (rw2 h1 (b + 3 + i) (va_cpy (h1 (c + 3 + i)) (h1 (b + 3 + i)) 0 0 6)) := FrO.rw hF1 (by omega) (by omega)
        have hRf7 : RH c (rw2 h1 (b + 3 + i) (va_cpy (h1 (c + 3 + i)) (h1 (b + 3 + i)) 0 0 6)) d := RH.apart hR Hb Hc e hFf7
        refine v_iincN (lv2 := [(2, .int (nI (i + 1))), (0, .ref b), (1, .ref c)]) K 1 dX1_copyFrom_69 rfl rfl (by decide) rfl ?_
        refine v_goto (tgt := 44) K dX1_copyFrom_72 rfl ?_
        refine v_sub (lv2 := [(0, .ref b), (1, .ref c), (2, .int (nI (i + 1)))]) (by simp) ?_
        exact ih44 (i + 1) ((rw2 h1 (b + 3 + i) (va_cpy (h1 (c + 3 + i)) (h1 (b + 3 + i)) 0 0 6))) (by intro k hk; rw [rw2_off (by omega)]; exact hn k hk) (by rw [rw2_off (by omega)]; exact h8) (by rw [rw2_off (by omega)]; exact h9) (by rw [rw2_off (by omega)]; exact hA) (by first | assumption | omega | rfl) (by exact cpy_w hw (fun k hk => hR1.w (by omega) hk)) (by exact hFf7) (by omega)
  refine v_sub (lv2 := [(0, .ref b), (1, .ref c), (2, .int (nI 0))]) (by simp) ?_
  exact L44 (9 - 0 + 1) 0 ((u2 ((u2 ((u2 ((rw2 h (b + 1) (va_cpy (h (c + 1)) (h (b + 1)) 0 0 8))) b 1 (d 8))) b 2 (d 9))) b 4 (d 10))) (by intro k hk; rw [u2_ne (by omega), u2_ne (by omega), u2_ne (by omega), rw2_at, sb_cpy0 hk]; exact hR.n hk) (by rw [u2_ne (by omega), u2_ne (by omega), u2_at]) (by rw [u2_ne (by omega), u2_at]) (by exact u2_at) (by first | assumption | omega | rfl) (by intro w k hw2; omega) (by exact hFf4) (Nat.lt_succ_self _)

def cpyT (h : Mm) (s sc t : Nat) : Mm := u2 (rw2 h (t + 1) (va_cpy (h sc) (h (t + 1)) 0 0 50)) t 1 (h s 1)
def TXg (h : Mm) (t tc : Nat) (c : List Int32) : Prop := h t 1 = nI c.length ∧ c.length ≤ 50 ∧ ∀ k, k < c.length → h tc k = c.getD k 0
theorem cpyT_tx {h : Mm} {s sc t : Nat} {c : List Int32} (H : TXg h s sc c) : TXr (cpyT h s sc t) t c := by
  unfold cpyT
  refine ⟨by rw [u2_at]; exact H.1, H.2.1, fun k hk => ?_⟩
  have := H.2.1
  rw [u2_off (by omega), rw2_at, sb_cpy0 (by omega)]
  exact H.2.2 k hk
theorem cpyT_fr {h : Mm} {s sc t : Nat} : FrO t (t + 2) h (cpyT h s sc t) := fun a ha => by unfold cpyT; rw [u2_off (by omega), rw2_off (by omega)]
def tA (t : Nat) : Prop := t = 21 ∨ t = 24 ∨ t = 27 ∨ t = 59 ∨ t = 62 ∨ t = 65
theorem tA.o {t : Nat} (H : tA t) : SH t = (1, 5, 3) := by rcases H with rfl | rfl | rfl | rfl | rfl | rfl <;> rfl
theorem tA.c {t : Nat} (H : tA t) : SH (t + 1) = (2, 0, 50) := by rcases H with rfl | rfl | rfl | rfl | rfl | rfl <;> rfl
theorem tA.l {t k : Nat} (H : tA t) (hk : k < 3) : t + k < 132 := by rcases H with rfl | rfl | rfl | rfl | rfl | rfl <;> omega
theorem tA.g0 {t : Nat} (H : tA t) : GL t 0 = t + 1 + 1 := by rcases H with rfl | rfl | rfl | rfl | rfl | rfl <;> rfl
def tS (q qc : Nat) : Prop := (tA q ∧ qc = q + 1) ∨ (q = 100 ∧ qc = 102)
theorem tS.o {q qc : Nat} (H : tS q qc) : SH q = (1, 5, 3) := by rcases H with ⟨H, rfl⟩ | ⟨rfl, rfl⟩; exact H.o; rfl
theorem tS.c {q qc : Nat} (H : tS q qc) : SH qc = (2, 0, 50) := by rcases H with ⟨H, rfl⟩ | ⟨rfl, rfl⟩; exact H.c; rfl
theorem tS.l {q qc : Nat} (H : tS q qc) : q < 132 := by rcases H with ⟨H, rfl⟩ | ⟨rfl, rfl⟩; exact H.l (k := 0) (by omega); decide
theorem tS.lc {q qc : Nat} (H : tS q qc) : qc < 132 := by rcases H with ⟨H, rfl⟩ | ⟨rfl, rfl⟩; exact H.l (by omega); decide
theorem tS.g0 {q qc : Nat} (H : tS q qc) : GL q 0 = qc + 1 := by rcases H with ⟨H, rfl⟩ | ⟨rfl, rfl⟩; exact H.g0; rfl
theorem LX.far {b : Nat} {h h2 : Mm} {τ : Nat → List Int32} (H : LX b h τ) (e : ∀ a, b ≤ a → a < b + 11 → h2 a = h a) : LX b h2 τ :=
  ⟨H.1.far (congrFun (e _ (by omega) (by omega)) 1) (e _ (by omega) (by omega)), H.2.1.far (congrFun (e _ (by omega) (by omega)) 1) (e _ (by omega) (by omega)), H.2.2.far (congrFun (e _ (by omega) (by omega)) 1) (e _ (by omega) (by omega))⟩
/-- the village's yards -/
def VX (b : Nat) (h : Mm) (d : Dm) : Prop := ∀ y, y < 6 → h (b + 1) y = d (28 + 3 * y) ∧ h (b + 2) y = d (28 + 3 * y + 1) ∧ h (b + 3) y = d (28 + 3 * y + 2)
theorem VX.far {b : Nat} {h h2 : Mm} {d : Dm} (H : VX b h d) (e : ∀ a, b ≤ a → a < b + 5 → h2 a = h a) : VX b h2 d := fun y hy => by
  rw [e _ (by omega) (by omega), e _ (by omega) (by omega), e _ (by omega) (by omega)]; exact H y hy
/-- a world of the class, by the reference's numbers d and the TEXTS τ -/
def WX (b : Nat) (h : Mm) (d : Dm) (τ : Nat → List Int32) : Prop := RH (b + 1) h d ∧ LX (b + 19) h τ ∧ VX (b + 30) h d ∧ ((∀ k, k < 50 → h (b + 35) k = (d (284 + k)).toInt8.toInt32) ∧ (∀ k, k < 20 → h (b + 36) k = d (114 + k)) ∧ (∀ k, k < 12 → h (b + 37) k = d (16 + k))) ∧ (h b 4 = d 13 ∧ h b 6 = d 14 ∧ h b 8 = d 12)
theorem WX.far {b : Nat} {h h2 : Mm} {d : Dm} {τ : Nat → List Int32} (H : WX b h d τ) (e : ∀ a, b ≤ a → a < b + 38 → h2 a = h a) : WX b h2 d τ := by
  obtain ⟨h1, h2', h3, ⟨h4, h5, h6⟩, h7⟩ := H
  refine ⟨h1.far (fun a q1 q2 => e a (by omega) (by omega)), h2'.far (fun a q1 q2 => e a (by omega) (by omega)), h3.far (fun a q1 q2 => e a (by omega) (by omega)), ⟨?_, ?_, ?_⟩, ?_⟩
  · rw [e _ (by omega) (by omega)]; exact h4
  · rw [e _ (by omega) (by omega)]; exact h5
  · rw [e _ (by omega) (by omega)]; exact h6
  · rw [e _ (by omega) (by omega)]; exact h7

abbrev P_X5_copyFrom (h : Mm) (t q qc : Nat) : Option Value → Mm → Prop := fun r h2 => r = none ∧ cpyT h q qc t = h2
theorem c_X5_copyFrom {l : Launch} (h : Mm) (t q qc : Nat) (Ht : tA t) (Hq : tS q qc) (hne : q ≠ t + 1) : Con l yX5_copyFrom cX5_copyFrom 2 none 1 60 132 GL h [.ref t, .ref q] (P_X5_copyFrom h t q qc) := by
  refine Con.ofV (own := "FoxRounds$Text") (nm := "copyFrom") rfl rfl (by decide) (Nat.le_of_ble_eq_true rfl) ?_
  intro κ ρ hkl K
  subst hkl
  show V κ (QM κ (132, ρ, GL, 0, 0) (P_X5_copyFrom h t q qc)) 2 (132, ρ, GL, 0, 0) h 0 [(0, .ref t), (1, .ref q)] []
  refine v_aload_n K dX5_copyFrom_0 rfl ?_
  refine v_getr (q := qc) K fX5_9 Hq.o Hq.l Hq.g0 dX5_copyFrom_1 ?_
  refine v_iconstN K 0 rfl dX5_copyFrom_4 ?_
  refine v_aload_n K dX5_copyFrom_5 rfl ?_
  refine v_getr (q := t + 1) K fX5_9 Ht.o (Ht.l (k := 0) (by omega)) Ht.g0 dX5_copyFrom_6 ?_
  refine v_iconstN K 0 rfl dX5_copyFrom_9 ?_
  refine v_bipushN K 50 rfl dX5_copyFrom_10 ?_
  refine v_copy K jX5_26 jna_copy jst_copy jin_sys Hq.c Ht.c (Or.inl rfl) Hq.lc (Ht.l (by omega)) (by omega) (by omega) ⟨by decide, by decide⟩ (Nat.le_of_ble_eq_true rfl) dX5_copyFrom_12 ?_
  refine v_aload_n K dX5_copyFrom_15 rfl ?_
  refine v_aload_n K dX5_copyFrom_16 rfl ?_
  refine v_geti (x := h q 1) K fX5_15 Hq.o Hq.l (congrFun (rw2_off (by omega)) 1) dX5_copyFrom_17 ?_
  refine v_puti K pX5_15 Ht.o (Ht.l (k := 0) (by omega)) dX5_copyFrom_20 ?_
  refine v_vret K dX5_copyFrom_23 ?_
  exact ⟨rfl, rfl⟩

abbrev P_X2_copyFrom_20 (h : Mm) (τ : Nat → List Int32) : Option Value → Mm → Prop := fun r h2 => r = none ∧ LX 20 h2 τ ∧ FrO 20 31 h h2
theorem c_X2_copyFrom_20 {l : Launch} (h : Mm) (τ : Nat → List Int32) (hX : LX 58 h τ) : Con l yX2_copyFrom cX2_copyFrom 2 none 2 81 132 GL h [.ref 20, .ref 58] (P_X2_copyFrom_20 h τ) := by
  refine Con.ofV (own := "FoxRounds$Laws") (nm := "copyFrom") rfl rfl (by decide) (Nat.le_of_ble_eq_true rfl) ?_
  intro κ ρ hkl K
  subst hkl
  show V κ (QM κ (132, ρ, GL, 0, 0) (P_X2_copyFrom_20 h τ)) 2 (132, ρ, GL, 0, 0) h 0 [(0, .ref 20), (1, .ref 58)] []
  refine v_aload_n K dX2_copyFrom_0 rfl ?_
  refine v_getr (q := 21) K fX2_18 sh_20 pl_20 gl_20_0 dX2_copyFrom_1 ?_
  refine v_aload_n K dX2_copyFrom_4 rfl ?_
  refine v_getr (q := 59) K fX2_18 sh_58 pl_58 gl_58_0 dX2_copyFrom_5 ?_
  refine v_callV (As := [.ref 59]) K (c_X5_copyFrom h 21 59 60 (Or.inl rfl) (Or.inl ⟨(Or.inr (Or.inr (Or.inr (Or.inl rfl)))), rfl⟩) (by decide)) lX2_39 ck_X5 rfl sh_21 pl_21 rfl ⟨by decide, by decide⟩ (Nat.le_of_ble_eq_true rfl) dX2_copyFrom_8 (fun r1 h1 hp1 => ?_) rfl
  obtain ⟨rfl, rfl⟩ := hp1
  refine v_none ?_
  refine v_aload_n K dX2_copyFrom_11 rfl ?_
  refine v_getr (q := 24) K fX2_27 sh_20 pl_20 gl_20_1 dX2_copyFrom_12 ?_
  refine v_aload_n K dX2_copyFrom_15 rfl ?_
  refine v_getr (q := 62) K fX2_27 sh_58 pl_58 gl_58_1 dX2_copyFrom_16 ?_
  refine v_callV (As := [.ref 62]) K (c_X5_copyFrom ((cpyT h 59 60 21)) 24 62 63 (Or.inr (Or.inl rfl)) (Or.inl ⟨(Or.inr (Or.inr (Or.inr (Or.inr (Or.inl rfl))))), rfl⟩) (by decide)) lX2_39 ck_X5 rfl sh_24 pl_24 rfl ⟨by decide, by decide⟩ (Nat.le_of_ble_eq_true rfl) dX2_copyFrom_19 (fun r2 h2 hp2 => ?_) rfl
  obtain ⟨rfl, rfl⟩ := hp2
  refine v_none ?_
  refine v_aload_n K dX2_copyFrom_22 rfl ?_
  refine v_getr (q := 27) K fX2_33 sh_20 pl_20 gl_20_2 dX2_copyFrom_23 ?_
  refine v_aload_n K dX2_copyFrom_26 rfl ?_
  refine v_getr (q := 65) K fX2_33 sh_58 pl_58 gl_58_2 dX2_copyFrom_27 ?_
  refine v_callV (As := [.ref 65]) K (c_X5_copyFrom ((cpyT ((cpyT h 59 60 21)) 62 63 24)) 27 65 66 (Or.inr (Or.inr (Or.inl rfl))) (Or.inl ⟨(Or.inr (Or.inr (Or.inr (Or.inr (Or.inr rfl))))), rfl⟩) (by decide)) lX2_39 ck_X5 rfl sh_27 pl_27 rfl ⟨by decide, by decide⟩ (Nat.le_of_ble_eq_true rfl) dX2_copyFrom_30 (fun r3 h3 hp3 => ?_) rfl
  obtain ⟨rfl, rfl⟩ := hp3
  refine v_none ?_
  refine v_vret K dX2_copyFrom_33 ?_
  have f1 := cpyT_fr (h := h) (s := 59) (sc := 60) (t := 21)
  have f2 := cpyT_fr (h := (cpyT h 59 60 21)) (s := 62) (sc := 63) (t := 24)
  have f3 := cpyT_fr (h := (cpyT (cpyT h 59 60 21) 62 63 24)) (s := 65) (sc := 66) (t := 27)
  have x1 : TXr (cpyT h 59 60 21) 21 (τ 0) := cpyT_tx hX.1
  have y2 : TXr (cpyT h 59 60 21) 62 (τ 1) := hX.2.1.far (congrFun (f1 _ (by omega)) 1) (f1 _ (by omega))
  have x2 : TXr (cpyT (cpyT h 59 60 21) 62 63 24) 24 (τ 1) := cpyT_tx y2
  have y3 : TXr (cpyT (cpyT h 59 60 21) 62 63 24) 65 (τ 2) := (hX.2.2.far (congrFun (f1 _ (by omega)) 1) (f1 _ (by omega))).far (congrFun (f2 _ (by omega)) 1) (f2 _ (by omega))
  have x3 : TXr (cpyT (cpyT (cpyT h 59 60 21) 62 63 24) 65 66 27) 27 (τ 2) := cpyT_tx y3
  have z1 : TXr (cpyT (cpyT (cpyT h 59 60 21) 62 63 24) 65 66 27) 21 (τ 0) := (x1.far (congrFun (f2 _ (by omega)) 1) (f2 _ (by omega))).far (congrFun (f3 _ (by omega)) 1) (f3 _ (by omega))
  have z2 : TXr (cpyT (cpyT (cpyT h 59 60 21) 62 63 24) 65 66 27) 24 (τ 1) := x2.far (congrFun (f3 _ (by omega)) 1) (f3 _ (by omega))
  exact ⟨rfl, ⟨z1, z2, x3⟩, ((FrO.w f1 (by omega) (by omega)).t (FrO.w f2 (by omega) (by omega))).t (FrO.w f3 (by omega) (by omega))⟩

abbrev P_X2_copyFrom_58 (h : Mm) (τ : Nat → List Int32) : Option Value → Mm → Prop := fun r h2 => r = none ∧ LX 58 h2 τ ∧ FrO 58 69 h h2
theorem c_X2_copyFrom_58 {l : Launch} (h : Mm) (τ : Nat → List Int32) (hX : LX 20 h τ) : Con l yX2_copyFrom cX2_copyFrom 2 none 2 81 132 GL h [.ref 58, .ref 20] (P_X2_copyFrom_58 h τ) := by
  refine Con.ofV (own := "FoxRounds$Laws") (nm := "copyFrom") rfl rfl (by decide) (Nat.le_of_ble_eq_true rfl) ?_
  intro κ ρ hkl K
  subst hkl
  show V κ (QM κ (132, ρ, GL, 0, 0) (P_X2_copyFrom_58 h τ)) 2 (132, ρ, GL, 0, 0) h 0 [(0, .ref 58), (1, .ref 20)] []
  refine v_aload_n K dX2_copyFrom_0 rfl ?_
  refine v_getr (q := 59) K fX2_18 sh_58 pl_58 gl_58_0 dX2_copyFrom_1 ?_
  refine v_aload_n K dX2_copyFrom_4 rfl ?_
  refine v_getr (q := 21) K fX2_18 sh_20 pl_20 gl_20_0 dX2_copyFrom_5 ?_
  refine v_callV (As := [.ref 21]) K (c_X5_copyFrom h 59 21 22 (Or.inr (Or.inr (Or.inr (Or.inl rfl)))) (Or.inl ⟨(Or.inl rfl), rfl⟩) (by decide)) lX2_39 ck_X5 rfl sh_59 pl_59 rfl ⟨by decide, by decide⟩ (Nat.le_of_ble_eq_true rfl) dX2_copyFrom_8 (fun r1 h1 hp1 => ?_) rfl
  obtain ⟨rfl, rfl⟩ := hp1
  refine v_none ?_
  refine v_aload_n K dX2_copyFrom_11 rfl ?_
  refine v_getr (q := 62) K fX2_27 sh_58 pl_58 gl_58_1 dX2_copyFrom_12 ?_
  refine v_aload_n K dX2_copyFrom_15 rfl ?_
  refine v_getr (q := 24) K fX2_27 sh_20 pl_20 gl_20_1 dX2_copyFrom_16 ?_
  refine v_callV (As := [.ref 24]) K (c_X5_copyFrom ((cpyT h 21 22 59)) 62 24 25 (Or.inr (Or.inr (Or.inr (Or.inr (Or.inl rfl))))) (Or.inl ⟨(Or.inr (Or.inl rfl)), rfl⟩) (by decide)) lX2_39 ck_X5 rfl sh_62 pl_62 rfl ⟨by decide, by decide⟩ (Nat.le_of_ble_eq_true rfl) dX2_copyFrom_19 (fun r2 h2 hp2 => ?_) rfl
  obtain ⟨rfl, rfl⟩ := hp2
  refine v_none ?_
  refine v_aload_n K dX2_copyFrom_22 rfl ?_
  refine v_getr (q := 65) K fX2_33 sh_58 pl_58 gl_58_2 dX2_copyFrom_23 ?_
  refine v_aload_n K dX2_copyFrom_26 rfl ?_
  refine v_getr (q := 27) K fX2_33 sh_20 pl_20 gl_20_2 dX2_copyFrom_27 ?_
  refine v_callV (As := [.ref 27]) K (c_X5_copyFrom ((cpyT ((cpyT h 21 22 59)) 24 25 62)) 65 27 28 (Or.inr (Or.inr (Or.inr (Or.inr (Or.inr rfl))))) (Or.inl ⟨(Or.inr (Or.inr (Or.inl rfl))), rfl⟩) (by decide)) lX2_39 ck_X5 rfl sh_65 pl_65 rfl ⟨by decide, by decide⟩ (Nat.le_of_ble_eq_true rfl) dX2_copyFrom_30 (fun r3 h3 hp3 => ?_) rfl
  obtain ⟨rfl, rfl⟩ := hp3
  refine v_none ?_
  refine v_vret K dX2_copyFrom_33 ?_
  have f1 := cpyT_fr (h := h) (s := 21) (sc := 22) (t := 59)
  have f2 := cpyT_fr (h := (cpyT h 21 22 59)) (s := 24) (sc := 25) (t := 62)
  have f3 := cpyT_fr (h := (cpyT (cpyT h 21 22 59) 24 25 62)) (s := 27) (sc := 28) (t := 65)
  have x1 : TXr (cpyT h 21 22 59) 59 (τ 0) := cpyT_tx hX.1
  have y2 : TXr (cpyT h 21 22 59) 24 (τ 1) := hX.2.1.far (congrFun (f1 _ (by omega)) 1) (f1 _ (by omega))
  have x2 : TXr (cpyT (cpyT h 21 22 59) 24 25 62) 62 (τ 1) := cpyT_tx y2
  have y3 : TXr (cpyT (cpyT h 21 22 59) 24 25 62) 27 (τ 2) := (hX.2.2.far (congrFun (f1 _ (by omega)) 1) (f1 _ (by omega))).far (congrFun (f2 _ (by omega)) 1) (f2 _ (by omega))
  have x3 : TXr (cpyT (cpyT (cpyT h 21 22 59) 24 25 62) 27 28 65) 65 (τ 2) := cpyT_tx y3
  have z1 : TXr (cpyT (cpyT (cpyT h 21 22 59) 24 25 62) 27 28 65) 59 (τ 0) := (x1.far (congrFun (f2 _ (by omega)) 1) (f2 _ (by omega))).far (congrFun (f3 _ (by omega)) 1) (f3 _ (by omega))
  have z2 : TXr (cpyT (cpyT (cpyT h 21 22 59) 24 25 62) 27 28 65) 62 (τ 1) := x2.far (congrFun (f3 _ (by omega)) 1) (f3 _ (by omega))
  exact ⟨rfl, ⟨z1, z2, x3⟩, ((FrO.w f1 (by omega) (by omega)).t (FrO.w f2 (by omega) (by omega))).t (FrO.w f3 (by omega) (by omega))⟩

abbrev P_X6_copyFrom_31 (h : Mm) (d : Dm) : Option Value → Mm → Prop := fun r h2 => r = none ∧ VX 31 h2 d ∧ FrO 31 36 h h2
theorem c_X6_copyFrom_31 {l : Launch} (h : Mm) (d : Dm) (hV : VX 69 h d) : Con l yX6_copyFrom cX6_copyFrom 2 none 1 60 132 GL h [.ref 31, .ref 69] (P_X6_copyFrom_31 h d) := by
  refine Con.ofV (own := "FoxRounds$Village") (nm := "copyFrom") rfl rfl (by decide) (Nat.le_of_ble_eq_true rfl) ?_
  intro κ ρ hkl K
  subst hkl
  show V κ (QM κ (132, ρ, GL, 0, 0) (P_X6_copyFrom_31 h d)) 2 (132, ρ, GL, 0, 0) h 0 [(0, .ref 31), (1, .ref 69)] []
  refine v_aload_n K dX6_copyFrom_0 rfl ?_
  refine v_getr (q := 70) K fX6_9 sh_69 pl_69 gl_69_0 dX6_copyFrom_1 ?_
  refine v_iconstN K 0 rfl dX6_copyFrom_4 ?_
  refine v_aload_n K dX6_copyFrom_5 rfl ?_
  refine v_getr (q := 32) K fX6_9 sh_31 pl_31 gl_31_0 dX6_copyFrom_6 ?_
  refine v_iconstN K 0 rfl dX6_copyFrom_9 ?_
  refine v_bipushN K 6 rfl dX6_copyFrom_10 ?_
  refine v_copy K jX6_28 jna_copy jst_copy jin_sys sh_70 sh_32 (Or.inl rfl) pl_70 pl_32 (by omega) (by omega) ⟨by decide, by decide⟩ (Nat.le_of_ble_eq_true rfl) dX6_copyFrom_12 ?_
  refine v_aload_n K dX6_copyFrom_15 rfl ?_
  refine v_getr (q := 71) K fX6_15 sh_69 pl_69 gl_69_1 dX6_copyFrom_16 ?_
  refine v_iconstN K 0 rfl dX6_copyFrom_19 ?_
  refine v_aload_n K dX6_copyFrom_20 rfl ?_
  refine v_getr (q := 33) K fX6_15 sh_31 pl_31 gl_31_1 dX6_copyFrom_21 ?_
  refine v_iconstN K 0 rfl dX6_copyFrom_24 ?_
  refine v_bipushN K 6 rfl dX6_copyFrom_25 ?_
  refine v_copy K jX6_28 jna_copy jst_copy jin_sys sh_71 sh_33 (Or.inl rfl) pl_71 pl_33 (by omega) (by omega) ⟨by decide, by decide⟩ (Nat.le_of_ble_eq_true rfl) dX6_copyFrom_27 ?_
  refine v_aload_n K dX6_copyFrom_30 rfl ?_
  refine v_getr (q := 72) K fX6_18 sh_69 pl_69 gl_69_2 dX6_copyFrom_31 ?_
  refine v_iconstN K 0 rfl dX6_copyFrom_34 ?_
  refine v_aload_n K dX6_copyFrom_35 rfl ?_
  refine v_getr (q := 34) K fX6_18 sh_31 pl_31 gl_31_2 dX6_copyFrom_36 ?_
  refine v_iconstN K 0 rfl dX6_copyFrom_39 ?_
  refine v_bipushN K 6 rfl dX6_copyFrom_40 ?_
  refine v_copy K jX6_28 jna_copy jst_copy jin_sys sh_72 sh_34 (Or.inl rfl) pl_72 pl_34 (by omega) (by omega) ⟨by decide, by decide⟩ (Nat.le_of_ble_eq_true rfl) dX6_copyFrom_42 ?_
  refine v_vret K dX6_copyFrom_45 ?_
  refine ⟨rfl, fun y hy => ?_, fun a ha => by rw [rw2_off (by omega), rw2_off (by omega), rw2_off (by omega)]⟩
  obtain ⟨v1, v2, v3⟩ := hV y hy
  refine ⟨?_, ?_, ?_⟩
  · rw [rw2_off (by omega), rw2_off (by omega), rw2_at, sb_cpy0 hy]; exact v1
  · rw [rw2_off (by omega), rw2_at, sb_cpy0 hy, rw2_off (by omega)]; exact v2
  · rw [rw2_at, sb_cpy0 hy, rw2_off (by omega), rw2_off (by omega)]; exact v3

abbrev P_X6_copyFrom_69 (h : Mm) (d : Dm) : Option Value → Mm → Prop := fun r h2 => r = none ∧ VX 69 h2 d ∧ FrO 69 74 h h2
theorem c_X6_copyFrom_69 {l : Launch} (h : Mm) (d : Dm) (hV : VX 31 h d) : Con l yX6_copyFrom cX6_copyFrom 2 none 1 60 132 GL h [.ref 69, .ref 31] (P_X6_copyFrom_69 h d) := by
  refine Con.ofV (own := "FoxRounds$Village") (nm := "copyFrom") rfl rfl (by decide) (Nat.le_of_ble_eq_true rfl) ?_
  intro κ ρ hkl K
  subst hkl
  show V κ (QM κ (132, ρ, GL, 0, 0) (P_X6_copyFrom_69 h d)) 2 (132, ρ, GL, 0, 0) h 0 [(0, .ref 69), (1, .ref 31)] []
  refine v_aload_n K dX6_copyFrom_0 rfl ?_
  refine v_getr (q := 32) K fX6_9 sh_31 pl_31 gl_31_0 dX6_copyFrom_1 ?_
  refine v_iconstN K 0 rfl dX6_copyFrom_4 ?_
  refine v_aload_n K dX6_copyFrom_5 rfl ?_
  refine v_getr (q := 70) K fX6_9 sh_69 pl_69 gl_69_0 dX6_copyFrom_6 ?_
  refine v_iconstN K 0 rfl dX6_copyFrom_9 ?_
  refine v_bipushN K 6 rfl dX6_copyFrom_10 ?_
  refine v_copy K jX6_28 jna_copy jst_copy jin_sys sh_32 sh_70 (Or.inl rfl) pl_32 pl_70 (by omega) (by omega) ⟨by decide, by decide⟩ (Nat.le_of_ble_eq_true rfl) dX6_copyFrom_12 ?_
  refine v_aload_n K dX6_copyFrom_15 rfl ?_
  refine v_getr (q := 33) K fX6_15 sh_31 pl_31 gl_31_1 dX6_copyFrom_16 ?_
  refine v_iconstN K 0 rfl dX6_copyFrom_19 ?_
  refine v_aload_n K dX6_copyFrom_20 rfl ?_
  refine v_getr (q := 71) K fX6_15 sh_69 pl_69 gl_69_1 dX6_copyFrom_21 ?_
  refine v_iconstN K 0 rfl dX6_copyFrom_24 ?_
  refine v_bipushN K 6 rfl dX6_copyFrom_25 ?_
  refine v_copy K jX6_28 jna_copy jst_copy jin_sys sh_33 sh_71 (Or.inl rfl) pl_33 pl_71 (by omega) (by omega) ⟨by decide, by decide⟩ (Nat.le_of_ble_eq_true rfl) dX6_copyFrom_27 ?_
  refine v_aload_n K dX6_copyFrom_30 rfl ?_
  refine v_getr (q := 34) K fX6_18 sh_31 pl_31 gl_31_2 dX6_copyFrom_31 ?_
  refine v_iconstN K 0 rfl dX6_copyFrom_34 ?_
  refine v_aload_n K dX6_copyFrom_35 rfl ?_
  refine v_getr (q := 72) K fX6_18 sh_69 pl_69 gl_69_2 dX6_copyFrom_36 ?_
  refine v_iconstN K 0 rfl dX6_copyFrom_39 ?_
  refine v_bipushN K 6 rfl dX6_copyFrom_40 ?_
  refine v_copy K jX6_28 jna_copy jst_copy jin_sys sh_34 sh_72 (Or.inl rfl) pl_34 pl_72 (by omega) (by omega) ⟨by decide, by decide⟩ (Nat.le_of_ble_eq_true rfl) dX6_copyFrom_42 ?_
  refine v_vret K dX6_copyFrom_45 ?_
  refine ⟨rfl, fun y hy => ?_, fun a ha => by rw [rw2_off (by omega), rw2_off (by omega), rw2_off (by omega)]⟩
  obtain ⟨v1, v2, v3⟩ := hV y hy
  refine ⟨?_, ?_, ?_⟩
  · rw [rw2_off (by omega), rw2_off (by omega), rw2_at, sb_cpy0 hy]; exact v1
  · rw [rw2_off (by omega), rw2_at, sb_cpy0 hy, rw2_off (by omega)]; exact v2
  · rw [rw2_at, sb_cpy0 hy, rw2_off (by omega), rw2_off (by omega)]; exact v3

abbrev P_X8_copyFrom_1 (h : Mm) (d : Dm) (τ : Nat → List Int32) : Option Value → Mm → Prop := fun r h2 => r = none ∧ WX 1 h2 d τ ∧ FrO 1 39 h h2
theorem c_X8_copyFrom_1 {l : Launch} (h : Mm) (d : Dm) (τ : Nat → List Int32) (hW : WX 39 h d τ) : Con l yX8_copyFrom cX8_copyFrom 2 none 3 102 132 GL h [.ref 1, .ref 39] (P_X8_copyFrom_1 h d τ) := by
  refine Con.ofV (own := "FoxRounds$World") (nm := "copyFrom") rfl rfl (by decide) (Nat.le_of_ble_eq_true rfl) ?_
  intro κ ρ hkl K
  subst hkl
  show V κ (QM κ (132, ρ, GL, 0, 0) (P_X8_copyFrom_1 h d τ)) 2 (132, ρ, GL, 0, 0) h 0 [(0, .ref 1), (1, .ref 39)] []
  refine v_aload_n K dX8_copyFrom_0 rfl ?_
  refine v_getr (q := 2) K fX8_12 sh_1 pl_1 gl_1_0 dX8_copyFrom_1 ?_
  refine v_aload_n K dX8_copyFrom_4 rfl ?_
  refine v_getr (q := 40) K fX8_12 sh_39 pl_39 gl_39_0 dX8_copyFrom_5 ?_
  refine v_callV (As := [.ref 40]) K (c_X1_copyFrom h 2 40 d hB_2 hB_40 (by decide) hW.1) lX8_53 ck_X1 rfl sh_2 pl_2 rfl ⟨by decide, by decide⟩ (Nat.le_of_ble_eq_true rfl) dX8_copyFrom_8 (fun r1 h1 hp1 => ?_) rfl
  obtain ⟨rfl, hA1, f1⟩ := hp1
  have g1 : FrO 1 39 h h1 := f1.w (by omega) (by omega)
  have hW1 := hW.far (fun a q1 q2 => g1 a (by omega))
  refine v_none ?_
  refine v_aload_n K dX8_copyFrom_11 rfl ?_
  refine v_getr (q := 20) K fX8_21 sh_1 pl_1 gl_1_1 dX8_copyFrom_12 ?_
  refine v_aload_n K dX8_copyFrom_15 rfl ?_
  refine v_getr (q := 58) K fX8_21 sh_39 pl_39 gl_39_1 dX8_copyFrom_16 ?_
  refine v_callV (As := [.ref 58]) K (c_X2_copyFrom_20 h1 τ hW1.2.1) lX8_57 ck_X2 rfl sh_20 pl_20 rfl ⟨by decide, by decide⟩ (Nat.le_of_ble_eq_true rfl) dX8_copyFrom_19 (fun r2 h2 hp2 => ?_) rfl
  obtain ⟨rfl, hA2, f2⟩ := hp2
  have g2 : FrO 1 39 h h2 := g1.t (f2.w (by omega) (by omega))
  have hW2 := hW.far (fun a q1 q2 => g2 a (by omega))
  refine v_none ?_
  refine v_aload_n K dX8_copyFrom_22 rfl ?_
  refine v_getr (q := 31) K fX8_28 sh_1 pl_1 gl_1_2 dX8_copyFrom_23 ?_
  refine v_aload_n K dX8_copyFrom_26 rfl ?_
  refine v_getr (q := 69) K fX8_28 sh_39 pl_39 gl_39_2 dX8_copyFrom_27 ?_
  refine v_callV (As := [.ref 69]) K (c_X6_copyFrom_31 h2 d hW2.2.2.1) lX8_60 ck_X6 rfl sh_31 pl_31 rfl ⟨by decide, by decide⟩ (Nat.le_of_ble_eq_true rfl) dX8_copyFrom_30 (fun r3 h3 hp3 => ?_) rfl
  obtain ⟨rfl, hA3, f3⟩ := hp3
  have g3 : FrO 1 39 h h3 := g2.t (f3.w (by omega) (by omega))
  have hW3 := hW.far (fun a q1 q2 => g3 a (by omega))
  refine v_none ?_
  refine v_aload_n K dX8_copyFrom_33 rfl ?_
  refine v_getr (q := 74) K fX8_32 sh_39 pl_39 gl_39_3 dX8_copyFrom_34 ?_
  refine v_iconstN K 0 rfl dX8_copyFrom_37 ?_
  refine v_aload_n K dX8_copyFrom_38 rfl ?_
  refine v_getr (q := 36) K fX8_32 sh_1 pl_1 gl_1_3 dX8_copyFrom_39 ?_
  refine v_iconstN K 0 rfl dX8_copyFrom_42 ?_
  refine v_bipushN K 50 rfl dX8_copyFrom_43 ?_
  refine v_copy K jX8_63 jna_copy jst_copy jin_sys sh_74 sh_36 (Or.inr ⟨rfl, fun i hi => by rw [Nat.zero_add, hW3.2.2.2.1.1 i hi]; exact pk_fb _⟩) pl_74 pl_36 (by omega) (by omega) ⟨by decide, by decide⟩ (Nat.le_of_ble_eq_true rfl) dX8_copyFrom_45 ?_
  refine v_aload_n K dX8_copyFrom_48 rfl ?_
  refine v_aload_n K dX8_copyFrom_49 rfl ?_
  refine v_geti (x := d 13) K fX8_36 sh_39 pl_39 (by rw [rw2_off (by omega)]; exact hW3.2.2.2.2.1) dX8_copyFrom_50 ?_
  refine v_puti K pX8_36 sh_1 pl_1 dX8_copyFrom_53 ?_
  refine v_aload_n K dX8_copyFrom_56 rfl ?_
  refine v_getr (q := 75) K fX8_40 sh_39 pl_39 gl_39_5 dX8_copyFrom_57 ?_
  refine v_iconstN K 0 rfl dX8_copyFrom_60 ?_
  refine v_aload_n K dX8_copyFrom_61 rfl ?_
  refine v_getr (q := 37) K fX8_40 sh_1 pl_1 gl_1_5 dX8_copyFrom_62 ?_
  refine v_iconstN K 0 rfl dX8_copyFrom_65 ?_
  refine v_bipushN K 20 rfl dX8_copyFrom_66 ?_
  refine v_copy K jX8_63 jna_copy jst_copy jin_sys sh_75 sh_37 (Or.inl rfl) pl_75 pl_37 (by omega) (by omega) ⟨by decide, by decide⟩ (Nat.le_of_ble_eq_true rfl) dX8_copyFrom_68 ?_
  refine v_aload_n K dX8_copyFrom_71 rfl ?_
  refine v_aload_n K dX8_copyFrom_72 rfl ?_
  refine v_geti (x := d 14) K fX8_44 sh_39 pl_39 (by rw [rw2_off (by omega), u2_off (by omega), rw2_off (by omega)]; exact hW3.2.2.2.2.2.1) dX8_copyFrom_73 ?_
  refine v_puti K pX8_44 sh_1 pl_1 dX8_copyFrom_76 ?_
  refine v_aload_n K dX8_copyFrom_79 rfl ?_
  refine v_getr (q := 76) K fX8_47 sh_39 pl_39 gl_39_7 dX8_copyFrom_80 ?_
  refine v_iconstN K 0 rfl dX8_copyFrom_83 ?_
  refine v_aload_n K dX8_copyFrom_84 rfl ?_
  refine v_getr (q := 38) K fX8_47 sh_1 pl_1 gl_1_7 dX8_copyFrom_85 ?_
  refine v_iconstN K 0 rfl dX8_copyFrom_88 ?_
  refine v_bipushN K 12 rfl dX8_copyFrom_89 ?_
  refine v_copy K jX8_63 jna_copy jst_copy jin_sys sh_76 sh_38 (Or.inl rfl) pl_76 pl_38 (by omega) (by omega) ⟨by decide, by decide⟩ (Nat.le_of_ble_eq_true rfl) dX8_copyFrom_91 ?_
  refine v_aload_n K dX8_copyFrom_94 rfl ?_
  refine v_aload_n K dX8_copyFrom_95 rfl ?_
  refine v_geti (x := d 12) K fX8_50 sh_39 pl_39 (by rw [rw2_off (by omega), u2_off (by omega), rw2_off (by omega), u2_off (by omega), rw2_off (by omega)]; exact hW3.2.2.2.2.2.2) dX8_copyFrom_96 ?_
  refine v_puti K pX8_50 sh_1 pl_1 dX8_copyFrom_99 ?_
  refine v_vret K dX8_copyFrom_102 ?_
  refine ⟨rfl, ⟨hA1.far (fun a q1 q2 => ?_), hA2.far (fun a q1 q2 => ?_), hA3.far (fun a q1 q2 => ?_), ⟨fun k hk => ?_, fun k hk => ?_, fun k hk => ?_⟩, ?_, ?_, ?_⟩, fun a ha => ?_⟩
  · rw [u2_off (by omega), rw2_off (by omega), u2_off (by omega), rw2_off (by omega), u2_off (by omega), rw2_off (by omega)]; exact (f3 a (by omega)).trans (f2 a (by omega))
  · rw [u2_off (by omega), rw2_off (by omega), u2_off (by omega), rw2_off (by omega), u2_off (by omega), rw2_off (by omega)]; exact f3 a (by omega)
  · rw [u2_off (by omega), rw2_off (by omega), u2_off (by omega), rw2_off (by omega), u2_off (by omega), rw2_off (by omega)]
  · rw [u2_off (by omega), rw2_off (by omega), u2_off (by omega), rw2_off (by omega), u2_off (by omega), rw2_at, sb_cpy0 hk]; exact hW3.2.2.2.1.1 k hk
  · rw [u2_off (by omega), rw2_off (by omega), u2_off (by omega), rw2_at, sb_cpy0 hk, u2_off (by omega), rw2_off (by omega)]; exact hW3.2.2.2.1.2.1 k hk
  · rw [u2_off (by omega), rw2_at, sb_cpy0 hk, u2_off (by omega), rw2_off (by omega), u2_off (by omega), rw2_off (by omega)]; exact hW3.2.2.2.1.2.2 k hk
  · rw [u2_ne (by omega), rw2_off (by omega), u2_ne (by omega), rw2_off (by omega), u2_at]
  · rw [u2_ne (by omega), rw2_off (by omega), u2_at]
  · rw [u2_at]
  · rw [u2_off (by omega), rw2_off (by omega), u2_off (by omega), rw2_off (by omega), u2_off (by omega), rw2_off (by omega)]; exact g3 a (by omega)

abbrev P_X8_copyFrom_39 (h : Mm) (d : Dm) (τ : Nat → List Int32) : Option Value → Mm → Prop := fun r h2 => r = none ∧ WX 39 h2 d τ ∧ FrO 39 77 h h2
theorem c_X8_copyFrom_39 {l : Launch} (h : Mm) (d : Dm) (τ : Nat → List Int32) (hW : WX 1 h d τ) : Con l yX8_copyFrom cX8_copyFrom 2 none 3 102 132 GL h [.ref 39, .ref 1] (P_X8_copyFrom_39 h d τ) := by
  refine Con.ofV (own := "FoxRounds$World") (nm := "copyFrom") rfl rfl (by decide) (Nat.le_of_ble_eq_true rfl) ?_
  intro κ ρ hkl K
  subst hkl
  show V κ (QM κ (132, ρ, GL, 0, 0) (P_X8_copyFrom_39 h d τ)) 2 (132, ρ, GL, 0, 0) h 0 [(0, .ref 39), (1, .ref 1)] []
  refine v_aload_n K dX8_copyFrom_0 rfl ?_
  refine v_getr (q := 40) K fX8_12 sh_39 pl_39 gl_39_0 dX8_copyFrom_1 ?_
  refine v_aload_n K dX8_copyFrom_4 rfl ?_
  refine v_getr (q := 2) K fX8_12 sh_1 pl_1 gl_1_0 dX8_copyFrom_5 ?_
  refine v_callV (As := [.ref 2]) K (c_X1_copyFrom h 40 2 d hB_40 hB_2 (by decide) hW.1) lX8_53 ck_X1 rfl sh_40 pl_40 rfl ⟨by decide, by decide⟩ (Nat.le_of_ble_eq_true rfl) dX8_copyFrom_8 (fun r1 h1 hp1 => ?_) rfl
  obtain ⟨rfl, hA1, f1⟩ := hp1
  have g1 : FrO 39 77 h h1 := f1.w (by omega) (by omega)
  have hW1 := hW.far (fun a q1 q2 => g1 a (by omega))
  refine v_none ?_
  refine v_aload_n K dX8_copyFrom_11 rfl ?_
  refine v_getr (q := 58) K fX8_21 sh_39 pl_39 gl_39_1 dX8_copyFrom_12 ?_
  refine v_aload_n K dX8_copyFrom_15 rfl ?_
  refine v_getr (q := 20) K fX8_21 sh_1 pl_1 gl_1_1 dX8_copyFrom_16 ?_
  refine v_callV (As := [.ref 20]) K (c_X2_copyFrom_58 h1 τ hW1.2.1) lX8_57 ck_X2 rfl sh_58 pl_58 rfl ⟨by decide, by decide⟩ (Nat.le_of_ble_eq_true rfl) dX8_copyFrom_19 (fun r2 h2 hp2 => ?_) rfl
  obtain ⟨rfl, hA2, f2⟩ := hp2
  have g2 : FrO 39 77 h h2 := g1.t (f2.w (by omega) (by omega))
  have hW2 := hW.far (fun a q1 q2 => g2 a (by omega))
  refine v_none ?_
  refine v_aload_n K dX8_copyFrom_22 rfl ?_
  refine v_getr (q := 69) K fX8_28 sh_39 pl_39 gl_39_2 dX8_copyFrom_23 ?_
  refine v_aload_n K dX8_copyFrom_26 rfl ?_
  refine v_getr (q := 31) K fX8_28 sh_1 pl_1 gl_1_2 dX8_copyFrom_27 ?_
  refine v_callV (As := [.ref 31]) K (c_X6_copyFrom_69 h2 d hW2.2.2.1) lX8_60 ck_X6 rfl sh_69 pl_69 rfl ⟨by decide, by decide⟩ (Nat.le_of_ble_eq_true rfl) dX8_copyFrom_30 (fun r3 h3 hp3 => ?_) rfl
  obtain ⟨rfl, hA3, f3⟩ := hp3
  have g3 : FrO 39 77 h h3 := g2.t (f3.w (by omega) (by omega))
  have hW3 := hW.far (fun a q1 q2 => g3 a (by omega))
  refine v_none ?_
  refine v_aload_n K dX8_copyFrom_33 rfl ?_
  refine v_getr (q := 36) K fX8_32 sh_1 pl_1 gl_1_3 dX8_copyFrom_34 ?_
  refine v_iconstN K 0 rfl dX8_copyFrom_37 ?_
  refine v_aload_n K dX8_copyFrom_38 rfl ?_
  refine v_getr (q := 74) K fX8_32 sh_39 pl_39 gl_39_3 dX8_copyFrom_39 ?_
  refine v_iconstN K 0 rfl dX8_copyFrom_42 ?_
  refine v_bipushN K 50 rfl dX8_copyFrom_43 ?_
  refine v_copy K jX8_63 jna_copy jst_copy jin_sys sh_36 sh_74 (Or.inr ⟨rfl, fun i hi => by rw [Nat.zero_add, hW3.2.2.2.1.1 i hi]; exact pk_fb _⟩) pl_36 pl_74 (by omega) (by omega) ⟨by decide, by decide⟩ (Nat.le_of_ble_eq_true rfl) dX8_copyFrom_45 ?_
  refine v_aload_n K dX8_copyFrom_48 rfl ?_
  refine v_aload_n K dX8_copyFrom_49 rfl ?_
  refine v_geti (x := d 13) K fX8_36 sh_1 pl_1 (by rw [rw2_off (by omega)]; exact hW3.2.2.2.2.1) dX8_copyFrom_50 ?_
  refine v_puti K pX8_36 sh_39 pl_39 dX8_copyFrom_53 ?_
  refine v_aload_n K dX8_copyFrom_56 rfl ?_
  refine v_getr (q := 37) K fX8_40 sh_1 pl_1 gl_1_5 dX8_copyFrom_57 ?_
  refine v_iconstN K 0 rfl dX8_copyFrom_60 ?_
  refine v_aload_n K dX8_copyFrom_61 rfl ?_
  refine v_getr (q := 75) K fX8_40 sh_39 pl_39 gl_39_5 dX8_copyFrom_62 ?_
  refine v_iconstN K 0 rfl dX8_copyFrom_65 ?_
  refine v_bipushN K 20 rfl dX8_copyFrom_66 ?_
  refine v_copy K jX8_63 jna_copy jst_copy jin_sys sh_37 sh_75 (Or.inl rfl) pl_37 pl_75 (by omega) (by omega) ⟨by decide, by decide⟩ (Nat.le_of_ble_eq_true rfl) dX8_copyFrom_68 ?_
  refine v_aload_n K dX8_copyFrom_71 rfl ?_
  refine v_aload_n K dX8_copyFrom_72 rfl ?_
  refine v_geti (x := d 14) K fX8_44 sh_1 pl_1 (by rw [rw2_off (by omega), u2_off (by omega), rw2_off (by omega)]; exact hW3.2.2.2.2.2.1) dX8_copyFrom_73 ?_
  refine v_puti K pX8_44 sh_39 pl_39 dX8_copyFrom_76 ?_
  refine v_aload_n K dX8_copyFrom_79 rfl ?_
  refine v_getr (q := 38) K fX8_47 sh_1 pl_1 gl_1_7 dX8_copyFrom_80 ?_
  refine v_iconstN K 0 rfl dX8_copyFrom_83 ?_
  refine v_aload_n K dX8_copyFrom_84 rfl ?_
  refine v_getr (q := 76) K fX8_47 sh_39 pl_39 gl_39_7 dX8_copyFrom_85 ?_
  refine v_iconstN K 0 rfl dX8_copyFrom_88 ?_
  refine v_bipushN K 12 rfl dX8_copyFrom_89 ?_
  refine v_copy K jX8_63 jna_copy jst_copy jin_sys sh_38 sh_76 (Or.inl rfl) pl_38 pl_76 (by omega) (by omega) ⟨by decide, by decide⟩ (Nat.le_of_ble_eq_true rfl) dX8_copyFrom_91 ?_
  refine v_aload_n K dX8_copyFrom_94 rfl ?_
  refine v_aload_n K dX8_copyFrom_95 rfl ?_
  refine v_geti (x := d 12) K fX8_50 sh_1 pl_1 (by rw [rw2_off (by omega), u2_off (by omega), rw2_off (by omega), u2_off (by omega), rw2_off (by omega)]; exact hW3.2.2.2.2.2.2) dX8_copyFrom_96 ?_
  refine v_puti K pX8_50 sh_39 pl_39 dX8_copyFrom_99 ?_
  refine v_vret K dX8_copyFrom_102 ?_
  refine ⟨rfl, ⟨hA1.far (fun a q1 q2 => ?_), hA2.far (fun a q1 q2 => ?_), hA3.far (fun a q1 q2 => ?_), ⟨fun k hk => ?_, fun k hk => ?_, fun k hk => ?_⟩, ?_, ?_, ?_⟩, fun a ha => ?_⟩
  · rw [u2_off (by omega), rw2_off (by omega), u2_off (by omega), rw2_off (by omega), u2_off (by omega), rw2_off (by omega)]; exact (f3 a (by omega)).trans (f2 a (by omega))
  · rw [u2_off (by omega), rw2_off (by omega), u2_off (by omega), rw2_off (by omega), u2_off (by omega), rw2_off (by omega)]; exact f3 a (by omega)
  · rw [u2_off (by omega), rw2_off (by omega), u2_off (by omega), rw2_off (by omega), u2_off (by omega), rw2_off (by omega)]
  · rw [u2_off (by omega), rw2_off (by omega), u2_off (by omega), rw2_off (by omega), u2_off (by omega), rw2_at, sb_cpy0 hk]; exact hW3.2.2.2.1.1 k hk
  · rw [u2_off (by omega), rw2_off (by omega), u2_off (by omega), rw2_at, sb_cpy0 hk, u2_off (by omega), rw2_off (by omega)]; exact hW3.2.2.2.1.2.1 k hk
  · rw [u2_off (by omega), rw2_at, sb_cpy0 hk, u2_off (by omega), rw2_off (by omega), u2_off (by omega), rw2_off (by omega)]; exact hW3.2.2.2.1.2.2 k hk
  · rw [u2_ne (by omega), rw2_off (by omega), u2_ne (by omega), rw2_off (by omega), u2_at]
  · rw [u2_ne (by omega), rw2_off (by omega), u2_at]
  · rw [u2_at]
  · rw [u2_off (by omega), rw2_off (by omega), u2_off (by omega), rw2_off (by omega), u2_off (by omega), rw2_off (by omega)]; exact g3 a (by omega)
