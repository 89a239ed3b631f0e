/-! nights of the class -/
/-- a house and the laws' scratch rows may have changed, nothing else -/
def FrN (b : Nat) (h h2 : Mm) : Prop := ∀ a, (a < b ∨ b + 18 ≤ a) → a ≠ 30 → a ≠ 23 → a ≠ 26 → a ≠ 29 → h2 a = h a
theorem FrN.r {b : Nat} {h : Mm} : FrN b h h := fun _ _ _ _ _ _ => rfl
theorem FrN.t {b : Nat} {h h1 h2 : Mm} (H : FrN b h h1) (H2 : FrN b h1 h2) : FrN b h h2 := fun a a0 a1 a2 a3 a4 => (H2 a a0 a1 a2 a3 a4).trans (H a a0 a1 a2 a3 a4)
theorem FrN.u {b a k : Nat} {v : Int32} {h h1 : Mm} (H : FrN b h h1) (h1' : b ≤ a) (h2' : a < b + 18) : FrN b h (u2 h1 a k v) := fun x hx a1 a2 a3 a4 => by rw [u2_off (by omega)]; exact H x hx a1 a2 a3 a4
theorem FrL.N {b : Nat} {h h2 : Mm} (H : FrL h h2) : FrN b h h2 := fun a _ a1 a2 a3 a4 => H a a1 a2 a3 a4
theorem FrO.N {b lo hi : Nat} {h h2 : Mm} (H : FrO lo hi h h2) (h1 : b ≤ lo) (h2' : hi ≤ b + 18) : FrN b h h2 := fun a ha _ _ _ _ => H a (by omega)
theorem RH.L {b : Nat} {h h2 : Mm} {d : Dm} (H : RH b h d) (Hb : hB b) (F : FrL h h2) : RH b h2 d := H.far (fun a h1 h2 => F a (by rcases Hb with rfl | rfl | rfl <;> omega) (by rcases Hb with rfl | rfl | rfl <;> omega) (by rcases Hb with rfl | rfl | rfl <;> omega) (by rcases Hb with rfl | rfl | rfl <;> omega))
theorem LX.N {b : Nat} {h h2 : Mm} {τ : Nat → List Int32} (H : LX 20 h τ) (Hb : hB b) (F : FrN b h h2) : LX 20 h2 τ := by
  have e : ∀ a, a = 21 ∨ a = 22 ∨ a = 24 ∨ a = 25 ∨ a = 27 ∨ a = 28 → h2 a = h a := fun a ha => F a (by rcases Hb with rfl | rfl | rfl <;> omega) (by omega) (by omega) (by omega) (by omega)
  exact ⟨H.1.far (congrFun (e 21 (by omega)) 1) (e 22 (by omega)), H.2.1.far (congrFun (e 24 (by omega)) 1) (e 25 (by omega)), H.2.2.far (congrFun (e 27 (by omega)) 1) (e 28 (by omega))⟩
theorem RH.ord {b : Nat} {h h2 : Mm} {d : Dm} (H : RH b h d) (F : FrO (b + 17) (b + 18) h h2) : RH b h2 d := by
  refine ⟨fun j hj => ?_, ⟨?_, ?_, ?_, ?_⟩, fun w2 j hw2 hj => ?_, fun t2 j ht2 hj => ?_⟩ <;> rw [F _ (by omega)]
  · exact H.n hj
  · exact H.o8
  · exact H.o9
  · exact H.oA
  · exact H.oB
  · exact H.w hw2 hj
  · exact H.t ht2 hj
theorem ins_row {f : Nat → Nat} {a w o : Nat} {h3 : Mm} (hlo : ∀ i, i < a → h3 o i = nI (f i)) (hhi : ∀ i, a ≤ i → i < w → h3 o (i + 1) = nI (f i)) : ∀ i, i < w + 1 → u2 h3 o a (nI w) o i = nI (insF f a w i) := by
  intro i hi
  unfold insF
  by_cases q : i = a
  · subst q
    rw [u2_at, if_neg (Nat.lt_irrefl _), if_pos rfl]
  · rw [u2_ne (Or.inr q)]
    by_cases q2 : i < a
    · rw [if_pos q2]; exact hlo i q2
    · rw [if_neg q2, if_neg q]
      have := hhi (i - 1) (by omega) (by omega)
      rwa [show i - 1 + 1 = i by omega] at this
theorem sh_row {f : Nat → Nat} {a w o : Nat} {h3 : Mm} (h0 : 0 < a) (hhi : ∀ i, a ≤ i → i < w → h3 o (i + 1) = nI (f i)) : ∀ i, a - 1 ≤ i → i < w → u2 h3 o a (nI (f (a - 1))) o (i + 1) = nI (f i) := by
  intro i h1 h2
  by_cases q : i = a - 1
  · subst q
    rw [show a - 1 + 1 = a by omega, u2_at]
  · rw [u2_ne (by omega)]
    exact hhi i (by omega) h2
theorem sh_gt {f : Nat → Nat} {a w : Nat} {m : Nat → Int32} (h0 : ¬ m w ≤ m (f (a - 1))) (hgt : ∀ i, a ≤ i → i < w → (m (f i)).toInt < (m w).toInt) : ∀ i, a - 1 ≤ i → i < w → (m (f i)).toInt < (m w).toInt := by
  intro i h1 h2
  by_cases q : i = a - 1
  · subst q
    rw [← Int32.lt_iff_toInt_lt]
    exact Int32.not_le.mp h0
  · exact hgt i (by omega) h2
theorem nI_dec {a : Nat} (h : 0 < a) : nI a + Int32.ofInt (-1) = nI (a - 1) := by
  obtain ⟨k, rfl⟩ : ∃ k, a = k + 1 := ⟨a - 1, by omega⟩
  exact pk_m1 k

abbrev P_X1_turnAway (h : Mm) (b : Nat) (d : Dm) (w : Nat) (up : Prop) : Option Value → Mm → Prop := fun r h2 => r = none ∧ RH b h2 (turnD d w up) ∧ FrO (b + 3 + w) (b + 3 + w + 1) h h2
theorem c_X1_turnAway {l : Launch} (h : Mm) (b : Nat) (d : Dm) (w : Nat) (up : Prop) (Hb : hB b) (hR : RH b h d) (hd : DOK d) (hw : w < 8) : Con l yX1_turnAway cX1_turnAway 3 none 2 43 132 GL h [.ref b, .ref (b + 3 + w), .int (b2i up)] (P_X1_turnAway h b d w up) := by
  refine Con.ofV (own := "FoxRounds$House") (nm := "turnAway") rfl rfl (by decide) (Nat.le_of_ble_eq_true rfl) ?_
  intro κ ρ hkl K
  subst hkl
  show V κ (QM κ (132, ρ, GL, 0, 0) (P_X1_turnAway h b d w up)) 3 (132, ρ, GL, 0, 0) h 0 [(0, .ref b), (1, .ref (b + 3 + w)), (2, .int (b2i up))] []
  refine v_aload_n K dX1_turnAway_0 rfl ?_
  refine v_iconstN K 4 rfl dX1_turnAway_1 ?_
  refine v_bipushN K 99 rfl dX1_turnAway_2 ?_
  refine v_aload_n K dX1_turnAway_4 rfl ?_
  refine v_iconstN K 4 rfl dX1_turnAway_5 ?_
  refine v_iald (x := d (46 + 6 * w + 4)) K (Hb.w (by omega)) (Hb.l3 (by omega)) (by omega) (hR.w (by omega) (by decide)) dX1_turnAway_6 ?_
  refine v_iconstN K 1 rfl dX1_turnAway_7 ?_
  refine v_iadd K dX1_turnAway_8 ?_
  refine v_min K jX1_59 jst_min jin_math jco_min ⟨by decide, by decide, Nat.zero_le _, Nat.zero_le _⟩ (Nat.le_of_ble_eq_true rfl) dX1_turnAway_9 ?_
  refine v_top (min_held (hd.we hw) (by decide)) ?_
  refine v_iast K (Hb.w (by omega)) (Hb.l3 (by omega)) (by omega) dX1_turnAway_12 ?_
  have hRs1 : RH b (u2 h (b + 3 + w) 4 (heldM (d (46 + 6 * w + 4) + nI 1) (nI 0) (nI 99))) (upd d (46 + 6 * w + 4) (heldM (d (46 + 6 * w + 4) + nI 1) (nI 0) (nI 99))) := hR.setw (by omega) (by decide)
  refine v_aload_n K dX1_turnAway_13 rfl ?_
  refine v_iconstN K 5 rfl dX1_turnAway_14 ?_
  refine v_aload_n K dX1_turnAway_15 rfl ?_
  refine v_iconstN K 5 rfl dX1_turnAway_16 ?_
  refine v_iald (x := d (46 + 6 * w + 5)) K (Hb.w (by omega)) (Hb.l3 (by omega)) (by omega) ((hRs1.w (by omega) (by decide)).trans (upd_ne (by omega))) dX1_turnAway_17 ?_
  refine v_iload_n K dX1_turnAway_18 rfl ?_
  refine v_ifB_eq (tgt := 26) K dX1_turnAway_19 rfl (fun c1 => ?_) (fun c1 => ?_)
  · skip
    refine v_iconst (v := (-1)) K dX1_turnAway_26 (by decide) ?_
    refine v_iadd K dX1_turnAway_27 ?_
    refine v_iconstN K 0 rfl dX1_turnAway_28 ?_
    refine v_bipushN K 9 rfl dX1_turnAway_29 ?_
    refine v_callN (As := [.int ((d (46 + 6 * w + 5)) + ((-1))), .int (nI 0), .int (nI 9)]) K (c_X9_held ((u2 h (b + 3 + w) 4 (heldM (d (46 + 6 * w + 4) + nI 1) (nI 0) (nI 99)))) ((d (46 + 6 * w + 5)) + ((-1))) (nI 0) (nI 9)) lX1_111 rfl ⟨by decide, by decide⟩ (Nat.le_of_ble_eq_true rfl) dX1_turnAway_31 (fun r1 h1 hp1 => ?_) rfl
    obtain ⟨rfl, rfl⟩ := hp1
    refine v_some ?_
    refine v_top (y := heldM (d (46 + 6 * w + 5) + pmI up) (nI 0) (nI 9)) (by rw [pm_f c1]; exact heldX_eq (by decide)) ?_
    refine v_iast K (Hb.w (by omega)) (Hb.l3 (by omega)) (by omega) dX1_turnAway_34 ?_
    have hRs2 : RH b (u2 (u2 h (b + 3 + w) 4 (heldM (d (46 + 6 * w + 4) + nI 1) (nI 0) (nI 99))) (b + 3 + w) 5 (heldM (d (46 + 6 * w + 5) + pmI up) (nI 0) (nI 9))) (upd (upd d (46 + 6 * w + 4) (heldM (d (46 + 6 * w + 4) + nI 1) (nI 0) (nI 99))) (46 + 6 * w + 5) (heldM (d (46 + 6 * w + 5) + pmI up) (nI 0) (nI 9))) := hRs1.setw (by omega) (by decide)
    refine v_vret K dX1_turnAway_35 ?_
    exact ⟨rfl, hRs2, (((FrO.r (lo := b + 3 + w) (hi := b + 3 + w + 1) (h := h)).u (by omega) (by omega)).u (by omega) (by omega))⟩
  · skip
    refine v_iconstN K 1 rfl dX1_turnAway_22 ?_
    refine v_goto (tgt := 27) K dX1_turnAway_23 rfl ?_
    refine v_iadd K dX1_turnAway_27 ?_
    refine v_iconstN K 0 rfl dX1_turnAway_28 ?_
    refine v_bipushN K 9 rfl dX1_turnAway_29 ?_
    refine v_callN (As := [.int ((d (46 + 6 * w + 5)) + (nI 1)), .int (nI 0), .int (nI 9)]) K (c_X9_held ((u2 h (b + 3 + w) 4 (heldM (d (46 + 6 * w + 4) + nI 1) (nI 0) (nI 99)))) ((d (46 + 6 * w + 5)) + (nI 1)) (nI 0) (nI 9)) lX1_111 rfl ⟨by decide, by decide⟩ (Nat.le_of_ble_eq_true rfl) dX1_turnAway_31 (fun r2 h2 hp2 => ?_) rfl
    obtain ⟨rfl, rfl⟩ := hp2
    refine v_some ?_
    refine v_top (y := heldM (d (46 + 6 * w + 5) + pmI up) (nI 0) (nI 9)) (by rw [pm_t c1]; exact heldX_eq (by decide)) ?_
    refine v_iast K (Hb.w (by omega)) (Hb.l3 (by omega)) (by omega) dX1_turnAway_34 ?_
    have hRs3 : RH b (u2 (u2 h (b + 3 + w) 4 (heldM (d (46 + 6 * w + 4) + nI 1) (nI 0) (nI 99))) (b + 3 + w) 5 (heldM (d (46 + 6 * w + 5) + pmI up) (nI 0) (nI 9))) (upd (upd d (46 + 6 * w + 4) (heldM (d (46 + 6 * w + 4) + nI 1) (nI 0) (nI 99))) (46 + 6 * w + 5) (heldM (d (46 + 6 * w + 5) + pmI up) (nI 0) (nI 9))) := hRs1.setw (by omega) (by decide)
    refine v_vret K dX1_turnAway_35 ?_
    exact ⟨rfl, hRs3, (((FrO.r (lo := b + 3 + w) (hi := b + 3 + w + 1) (h := h)).u (by omega) (by omega)).u (by omega) (by omega))⟩

abbrev P_X1_comeIn (h : Mm) (b : Nat) (d : Dm) (w : Nat) (τ : Nat → List Int32) : Option Value → Mm → Prop := fun r h2 => r = none ∧ RH b h2 (comeD τ d w) ∧ FrN b h h2 ∧ h2 b 7 = h b 7
theorem c_X1_comeIn {l : Launch} (h : Mm) (b : Nat) (d : Dm) (w : Nat) (τ : Nat → List Int32) (Hb : hB b) (hR : RH b h d) (hd : DOK d) (hτ : TOK τ) (hX : LX 20 h τ) (hw : w < 8) : Con l yX1_comeIn cX1_comeIn 4 none 3 69 132 GL h [.ref b, .ref (b + 3 + w), .ref 20] (P_X1_comeIn h b d w τ) := by
  refine Con.ofV (own := "FoxRounds$House") (nm := "comeIn") rfl rfl (by decide) (Nat.le_of_ble_eq_true rfl) ?_
  intro κ ρ hkl K
  subst hkl
  show V κ (QM κ (132, ρ, GL, 0, 0) (P_X1_comeIn h b d w τ)) 4 (132, ρ, GL, 0, 0) h 0 [(0, .ref b), (1, .ref (b + 3 + w)), (2, .ref 20)] []
  refine v_aload_n K dX1_comeIn_0 rfl ?_
  refine v_aload_n K dX1_comeIn_1 rfl ?_
  refine v_getr (q := b + 1) K fX1_9 Hb.o Hb.l0 Hb.g0 dX1_comeIn_2 ?_
  refine v_iconstN K 0 rfl dX1_comeIn_5 ?_
  refine v_iald (x := d 0) K Hb.n (Hb.l (by omega)) (by omega) (hR.n (by decide)) dX1_comeIn_6 ?_
  refine v_aload_n K dX1_comeIn_7 rfl ?_
  refine v_getr (q := b + 1) K fX1_9 Hb.o Hb.l0 Hb.g0 dX1_comeIn_8 ?_
  refine v_iconstN K 1 rfl dX1_comeIn_11 ?_
  refine v_iald (x := d 1) K Hb.n (Hb.l (by omega)) (by omega) (hR.n (by decide)) dX1_comeIn_12 ?_
  refine v_aload_n K dX1_comeIn_13 rfl ?_
  refine v_getr (q := b + 1) K fX1_9 Hb.o Hb.l0 Hb.g0 dX1_comeIn_14 ?_
  refine v_iconstN K 2 rfl dX1_comeIn_17 ?_
  refine v_iald (x := d 2) K Hb.n (Hb.l (by omega)) (by omega) (hR.n (by decide)) dX1_comeIn_18 ?_
  refine v_callV (As := [.int (d 0), .int (d 1), .int (d 2)]) K (c_X2_kills h τ (d 0) (d 1) (d 2) hτ hX) lX1_115 ck_X2 rfl sh_20 pl_20 rfl ⟨by decide, by decide⟩ (Nat.le_of_ble_eq_true rfl) dX1_comeIn_19 (fun r1 h1 hp1 => ?_) rfl
  obtain ⟨rfl, hLq1⟩ := hp1
  have hRq1 := RH.L hR Hb hLq1
  have hXq1 := LX.fr hX hLq1
  have heq1 := (congrFun (hLq1 b (by rcases Hb with rfl | rfl | rfl <;> omega) (by rcases Hb with rfl | rfl | rfl <;> omega) (by rcases Hb with rfl | rfl | rfl <;> omega) (by rcases Hb with rfl | rfl | rfl <;> omega)) 7).trans (rfl : h b 7 = h b 7)
  refine v_some ?_
  refine v_nm (fun kl e_kl => ?_)
  refine v_istore_n (lv2 := [(3, .int kl), (0, .ref b), (1, .ref (b + 3 + w)), (2, .ref 20)]) K dX1_comeIn_22 (by decide) rfl ?_
  refine v_aload_n K dX1_comeIn_23 rfl ?_
  refine v_getr (q := b + 1) K fX1_9 Hb.o Hb.l0 Hb.g0 dX1_comeIn_24 ?_
  refine v_iconstN K 0 rfl dX1_comeIn_27 ?_
  refine v_dup2 K dX1_comeIn_28 rfl rfl ?_
  refine v_iald (x := d 0) K Hb.n (Hb.l (by omega)) (by omega) (hRq1.n (by decide)) dX1_comeIn_29 ?_
  refine v_iload_n K dX1_comeIn_30 rfl ?_
  refine v_isub K dX1_comeIn_31 ?_
  refine v_iast K Hb.n (Hb.l (by omega)) (by omega) dX1_comeIn_32 ?_
  have hRs1 : RH b (u2 h1 (b + 1) 0 ((d 0) - kl)) (upd d 0 ((d 0) - kl)) := hRq1.setn (by decide)
  refine v_aload_n K dX1_comeIn_33 rfl ?_
  refine v_dup K dX1_comeIn_34 rfl ?_
  refine v_geti (x := d 9) K fX1_19 Hb.o Hb.l0 (hRs1.o9.trans (upd_ne (by omega))) dX1_comeIn_35 ?_
  refine v_iload_n K dX1_comeIn_38 rfl ?_
  refine v_iadd K dX1_comeIn_39 ?_
  refine v_puti K pX1_19 Hb.o Hb.l0 dX1_comeIn_40 ?_
  have hRs2 : RH b (u2 (u2 h1 (b + 1) 0 ((d 0) - kl)) b 2 ((d 9) + kl)) (upd (upd d 0 ((d 0) - kl)) 9 ((d 9) + kl)) := hRs1.seto (by decide)
  refine v_aload_n K dX1_comeIn_43 rfl ?_
  refine v_getr (q := b + 1) K fX1_9 Hb.o Hb.l0 Hb.g0 dX1_comeIn_44 ?_
  refine v_iconstN K 2 rfl dX1_comeIn_47 ?_
  refine v_iconstN K 0 rfl dX1_comeIn_48 ?_
  refine v_aload_n K dX1_comeIn_49 rfl ?_
  refine v_getr (q := b + 1) K fX1_9 Hb.o Hb.l0 Hb.g0 dX1_comeIn_50 ?_
  refine v_iconstN K 2 rfl dX1_comeIn_53 ?_
  refine v_iald (x := d 2) K Hb.n (Hb.l (by omega)) (by omega) (((hRs2.n (by decide)).trans (upd_ne (by omega))).trans (upd_ne (by omega))) dX1_comeIn_54 ?_
  refine v_bipushN K 10 rfl dX1_comeIn_55 ?_
  refine v_iload_n K dX1_comeIn_57 rfl ?_
  refine v_imul K dX1_comeIn_58 ?_
  refine v_isub K dX1_comeIn_59 ?_
  refine v_max K jX1_89 jst_max jin_math jco_max ⟨by decide, by decide, Nat.zero_le _, Nat.zero_le _⟩ (Nat.le_of_ble_eq_true rfl) dX1_comeIn_60 ?_
  refine v_top (max_held (ix_sub10 hd.2.2.1.2.1 (e_kl ▸ killsE_ix (by decide) hd.2.2.1.1))) ?_
  refine v_iast K Hb.n (Hb.l (by omega)) (by omega) dX1_comeIn_63 ?_
  have hRs3 : RH b (u2 (u2 (u2 h1 (b + 1) 0 ((d 0) - kl)) b 2 ((d 9) + kl)) (b + 1) 2 (heldM (d 2 - nI 10 * kl) (nI 0) (nI 99))) (upd (upd (upd d 0 ((d 0) - kl)) 9 ((d 9) + kl)) 2 (heldM (d 2 - nI 10 * kl) (nI 0) (nI 99))) := hRs2.setn (by decide)
  refine v_aload_n K dX1_comeIn_64 rfl ?_
  refine v_iconstN K 5 rfl dX1_comeIn_65 ?_
  refine v_bipushN K 9 rfl dX1_comeIn_66 ?_
  refine v_iast K (Hb.w (by omega)) (Hb.l3 (by omega)) (by omega) dX1_comeIn_68 ?_
  have hRs4 : RH b (u2 (u2 (u2 (u2 h1 (b + 1) 0 ((d 0) - kl)) b 2 ((d 9) + kl)) (b + 1) 2 (heldM (d 2 - nI 10 * kl) (nI 0) (nI 99))) (b + 3 + w) 5 (nI 9)) (upd (upd (upd (upd d 0 ((d 0) - kl)) 9 ((d 9) + kl)) 2 (heldM (d 2 - nI 10 * kl) (nI 0) (nI 99))) (46 + 6 * w + 5) (nI 9)) := hRs3.setw (by omega) (by decide)
  refine v_vret K dX1_comeIn_69 ?_
  have hfin := hRs4
  subst e_kl
  exact ⟨rfl, hfin, ((((((FrN.r (b := b) (h := h)).t hLq1.N).u (by omega) (by omega)).u (by omega) (by omega)).u (by omega) (by omega)).u (by omega) (by omega)), by rw [u2_ne (by omega), u2_ne (by omega), u2_ne (by omega), u2_ne (by omega)]; exact heq1⟩

abbrev P_X1_orderByMemory (h : Mm) (b : Nat) (d : Dm) : Option Value → Mm → Prop := fun r h2 => r = none ∧ (∃ f, isOrd (memD d) (nwD d) f ∧ ∀ i, i < nwD d → h2 (b + 17) i = nI (f i)) ∧ FrO (b + 17) (b + 18) h h2
theorem c_X1_orderByMemory {l : Launch} (h : Mm) (b : Nat) (d : Dm) (Hb : hB b) (hR : RH b h d) (hd : DOK d)  : Con l yX1_orderByMemory cX1_orderByMemory 3 none 0 0 132 GL h [.ref b] (P_X1_orderByMemory h b d) := by
  refine Con.ofV (own := "FoxRounds$House") (nm := "orderByMemory") rfl rfl (by decide) (Nat.le_of_ble_eq_true rfl) ?_
  intro κ ρ hkl K
  subst hkl
  show V κ (QM κ (132, ρ, GL, 0, 0) (P_X1_orderByMemory h b d)) 3 (132, ρ, GL, 0, 0) h 0 [(0, .ref b)] []
  have hn8 := hd.nw8
  refine v_iconstN K 0 rfl dX1_orderByMemory_0 ?_
  refine v_istore_n (lv2 := [(1, .int (nI 0)), (0, .ref b)]) K dX1_orderByMemory_1 (by decide) rfl ?_
  have L2 : ∀ (mm : Nat) (w : Nat) (f : Nat → Nat) (h1 : Mm) (hw : w ≤ nwD d) (ho : isOrd (memD d) w f) (hr : ∀ i, i < w → h1 (b + 17) i = nI (f i)) (hF : FrO (b + 17) (b + 18) h h1), nwD d + 1 - w < mm → V κ (QM κ (132, ρ, GL, 0, 0) (P_X1_orderByMemory h b d)) 3 (132, ρ, GL, 0, 0) h1 2 [(0, .ref b), (1, .int (nI w))] [] := by
    intro mm
    induction mm with
    | zero => intro w f h1 hw ho hr hF hmm; exact absurd hmm (Nat.not_lt_zero _)
    | succ mm ih2 =>
      intro w f h1 hw ho hr hF hmm
      have hR1 : RH b h1 d := hR.ord hF
      refine v_iload_n K dX1_orderByMemory_2 rfl ?_
      refine v_aload_n K dX1_orderByMemory_3 rfl ?_
      refine v_geti (x := nI (nwD d)) K fX1_27 Hb.o Hb.l0 (hR1.oA.trans hd.nw) dX1_orderByMemory_4 ?_
      refine v_icmpN_ge (tgt := 75) K (by omega) (by omega) dX1_orderByMemory_7 rfl (fun c1 => ?_) (fun c1 => ?_)
      · skip
        refine v_vret K dX1_orderByMemory_75 ?_
        have e : w = nwD d := by omega
        subst e
        exact ⟨rfl, ⟨f, ho, hr⟩, hF⟩
      · skip
        refine v_iload_n K dX1_orderByMemory_10 rfl ?_
        refine v_istore_n (lv2 := [(2, .int (nI w)), (0, .ref b), (1, .int (nI w))]) K dX1_orderByMemory_11 (by decide) rfl ?_
        have L12 : ∀ (mm : Nat) (a : Nat) (h3 : Mm) (ha : a ≤ w) (hlo : ∀ i, i < a → h3 (b + 17) i = nI (f i)) (hhi : ∀ i, a ≤ i → i < w → h3 (b + 17) (i + 1) = nI (f i)) (hgt : ∀ i, a ≤ i → i < w → (memD d (f i)).toInt < (memD d w).toInt) (hF3 : FrO (b + 17) (b + 18) h h3), a < mm → V κ (QM κ (132, ρ, GL, 0, 0) (P_X1_orderByMemory h b d)) 3 (132, ρ, GL, 0, 0) h3 12 [(0, .ref b), (1, .int (nI w)), (2, .int (nI a))] [] := by
          intro mm
          induction mm with
          | zero => intro a h3 ha hlo hhi hgt hF3 hmm; exact absurd hmm (Nat.not_lt_zero _)
          | succ mm ih12 =>
            intro a h3 ha hlo hhi hgt hF3 hmm
            have hR3 : RH b h3 d := hR.ord hF3
            refine v_iload_n K dX1_orderByMemory_12 rfl ?_
            refine v_ifN_le (tgt := 62) K (by omega) dX1_orderByMemory_13 rfl (fun c2 => ?_) (fun c2 => ?_)
            · skip
              refine v_aload_n K dX1_orderByMemory_62 rfl ?_
              refine v_getr (q := b + 17) K fX1_39 Hb.o Hb.l0 Hb.g8 dX1_orderByMemory_63 ?_
              refine v_iload_n K dX1_orderByMemory_66 rfl ?_
              refine v_iload_n K dX1_orderByMemory_67 rfl ?_
              refine v_iast K Hb.r (Hb.l (by omega)) (by omega) dX1_orderByMemory_68 ?_
              have hRs1 : RH b (u2 h3 (b + 17) a (nI w)) d := hR3.other (Or.inr rfl)
              refine v_iincN (lv2 := [(1, .int (nI (w + 1))), (0, .ref b), (2, .int (nI a))]) K 1 dX1_orderByMemory_69 rfl rfl (by decide) rfl ?_
              refine v_goto (tgt := 2) K dX1_orderByMemory_72 rfl ?_
              refine v_sub (lv2 := [(0, .ref b), (1, .int (nI (w + 1)))]) (by simp) ?_
              exact ih2 (w + 1) ((insF f a w)) ((u2 h3 (b + 17) a (nI w))) (by first | assumption | omega | rfl) (by exact isOrd_ins ho (by omega) (Or.inl c2) hgt) (by exact ins_row hlo hhi) (by exact (hF3.u (by omega) (by omega))) (by omega)
            · skip
              have hfa : f (a - 1) < w := ho.1 (a - 1) (by omega)
              refine v_aload_n K dX1_orderByMemory_16 rfl ?_
              refine v_getr (q := b + 2) K fX1_24 Hb.o Hb.l0 Hb.g3 dX1_orderByMemory_17 ?_
              refine v_aload_n K dX1_orderByMemory_20 rfl ?_
              refine v_getr (q := b + 17) K fX1_39 Hb.o Hb.l0 Hb.g8 dX1_orderByMemory_21 ?_
              refine v_iload_n K dX1_orderByMemory_24 rfl ?_
              refine v_iconstN K 1 rfl dX1_orderByMemory_25 ?_
              refine v_isubN K (by omega) dX1_orderByMemory_26 ?_
              refine v_iald (x := nI (f (a - 1))) K Hb.r (Hb.l (by omega)) (by omega) (hlo (a - 1) (by omega)) dX1_orderByMemory_27 ?_
              refine v_aald (q := b + 3 + f (a - 1)) K Hb.W (Or.inl rfl) (Hb.l (by omega)) (by omega) (Hb.gw (by omega)) dX1_orderByMemory_28 ?_
              refine v_iconstN K 5 rfl dX1_orderByMemory_29 ?_
              refine v_iald (x := d (46 + 6 * f (a - 1) + 5)) K (Hb.w (by omega)) (Hb.l3 (by omega)) (by omega) (hR3.w (by omega) (by decide)) dX1_orderByMemory_30 ?_
              refine v_aload_n K dX1_orderByMemory_31 rfl ?_
              refine v_getr (q := b + 2) K fX1_24 Hb.o Hb.l0 Hb.g3 dX1_orderByMemory_32 ?_
              refine v_iload_n K dX1_orderByMemory_35 rfl ?_
              refine v_aald (q := b + 3 + w) K Hb.W (Or.inl rfl) (Hb.l (by omega)) (by omega) (Hb.gw (by omega)) dX1_orderByMemory_36 ?_
              refine v_iconstN K 5 rfl dX1_orderByMemory_37 ?_
              refine v_iald (x := d (46 + 6 * w + 5)) K (Hb.w (by omega)) (Hb.l3 (by omega)) (by omega) (hR3.w (by omega) (by decide)) dX1_orderByMemory_38 ?_
              refine v_icmp_ge (tgt := 62) K dX1_orderByMemory_39 rfl (fun c3 => ?_) (fun c3 => ?_)
              · skip
                refine v_aload_n K dX1_orderByMemory_62 rfl ?_
                refine v_getr (q := b + 17) K fX1_39 Hb.o Hb.l0 Hb.g8 dX1_orderByMemory_63 ?_
                refine v_iload_n K dX1_orderByMemory_66 rfl ?_
                refine v_iload_n K dX1_orderByMemory_67 rfl ?_
                refine v_iast K Hb.r (Hb.l (by omega)) (by omega) dX1_orderByMemory_68 ?_
                have hRs2 : RH b (u2 h3 (b + 17) a (nI w)) d := hR3.other (Or.inr rfl)
                refine v_iincN (lv2 := [(1, .int (nI (w + 1))), (0, .ref b), (2, .int (nI a))]) K 1 dX1_orderByMemory_69 rfl rfl (by decide) rfl ?_
                refine v_goto (tgt := 2) K dX1_orderByMemory_72 rfl ?_
                refine v_sub (lv2 := [(0, .ref b), (1, .int (nI (w + 1)))]) (by simp) ?_
                exact ih2 (w + 1) ((insF f a w)) ((u2 h3 (b + 17) a (nI w))) (by first | assumption | omega | rfl) (by exact isOrd_ins ho (by omega) (Or.inr (Int32.le_iff_toInt_le.mp c3)) hgt) (by exact ins_row hlo hhi) (by exact (hF3.u (by omega) (by omega))) (by omega)
              · skip
                refine v_aload_n K dX1_orderByMemory_42 rfl ?_
                refine v_getr (q := b + 17) K fX1_39 Hb.o Hb.l0 Hb.g8 dX1_orderByMemory_43 ?_
                refine v_iload_n K dX1_orderByMemory_46 rfl ?_
                refine v_aload_n K dX1_orderByMemory_47 rfl ?_
                refine v_getr (q := b + 17) K fX1_39 Hb.o Hb.l0 Hb.g8 dX1_orderByMemory_48 ?_
                refine v_iload_n K dX1_orderByMemory_51 rfl ?_
                refine v_iconstN K 1 rfl dX1_orderByMemory_52 ?_
                refine v_isubN K (by omega) dX1_orderByMemory_53 ?_
                refine v_iald (x := nI (f (a - 1))) K Hb.r (Hb.l (by omega)) (by omega) (hlo (a - 1) (by omega)) dX1_orderByMemory_54 ?_
                refine v_iast K Hb.r (Hb.l (by omega)) (by omega) dX1_orderByMemory_55 ?_
                have hRs3 : RH b (u2 h3 (b + 17) a (nI (f (a - 1)))) d := hR3.other (Or.inr rfl)
                refine v_iinc (v := nI (a - 1)) (lv2 := [(2, .int (nI (a - 1))), (0, .ref b), (1, .int (nI w))]) K dX1_orderByMemory_56 rfl (nI_dec (by omega)) (by decide) rfl ?_
                refine v_goto (tgt := 12) K dX1_orderByMemory_59 rfl ?_
                refine v_sub (lv2 := [(0, .ref b), (1, .int (nI w)), (2, .int (nI (a - 1)))]) (by simp) ?_
                exact ih12 (a - 1) ((u2 h3 (b + 17) a (nI (f (a - 1))))) (by first | assumption | omega | rfl) (by intro i hi; rw [u2_ne (by omega)]; exact hlo i (by omega)) (by exact sh_row (by omega) hhi) (by exact sh_gt (m := memD d) c3 hgt) (by exact (hF3.u (by omega) (by omega))) (by omega)
        refine v_sub (lv2 := [(0, .ref b), (1, .int (nI w)), (2, .int (nI w))]) (by simp) ?_
        exact L12 (w + 1) w h1 (by first | assumption | omega | rfl) (by exact hr) (by intro i h1 h2; omega) (by intro i h1 h2; omega) (by exact hF) (Nat.lt_succ_self _)
  refine v_sub (lv2 := [(0, .ref b), (1, .int (nI 0))]) (by simp) ?_
  exact L2 (nwD d + 1 - 0 + 1) 0 id h (by first | assumption | omega | rfl) (by exact isOrd_0) (by intro i hi; exact absurd hi (Nat.not_lt_zero _)) (by exact FrO.r) (Nat.lt_succ_self _)
