/-! nights of the class -/
/-- a house and the laws' scratch rows may have changed, nothing else -/
def FrN (b : Nat) (h h2 : Mm) : Prop := ∀ a, (a < b ∨ b + 18 ≤ a) → a ≠ 30 → a ≠ 23 → a ≠ 26 → a ≠ 29 → h2 a = h a
theorem FrN.r {b : Nat} {h : Mm} : FrN b h h := fun _ _ _ _ _ _ => rfl
theorem FrN.t {b : Nat} {h h1 h2 : Mm} (H : FrN b h h1) (H2 : FrN b h1 h2) : FrN b h h2 := fun a a0 a1 a2 a3 a4 => (H2 a a0 a1 a2 a3 a4).trans (H a a0 a1 a2 a3 a4)
theorem FrN.u {b a k : Nat} {v : Int32} {h h1 : Mm} (H : FrN b h h1) (h1' : b ≤ a) (h2' : a < b + 18) : FrN b h (u2 h1 a k v) := fun x hx a1 a2 a3 a4 => by rw [u2_off (by omega)]; exact H x hx a1 a2 a3 a4
theorem FrL.N {b : Nat} {h h2 : Mm} (H : FrL h h2) : FrN b h h2 := fun a _ a1 a2 a3 a4 => H a a1 a2 a3 a4
theorem FrO.N {b lo hi : Nat} {h h2 : Mm} (H : FrO lo hi h h2) (h1 : b ≤ lo) (h2' : hi ≤ b + 18) : FrN b h h2 := fun a ha _ _ _ _ => H a (by omega)
theorem RH.L {b : Nat} {h h2 : Mm} {d : Dm} (H : RH b h d) (Hb : hB b) (F : FrL h h2) : RH b h2 d := H.far (fun a h1 h2 => F a (by rcases Hb with rfl | rfl | rfl <;> omega) (by rcases Hb with rfl | rfl | rfl <;> omega) (by rcases Hb with rfl | rfl | rfl <;> omega) (by rcases Hb with rfl | rfl | rfl <;> omega))
theorem LX.N {b : Nat} {h h2 : Mm} {τ : Nat → List Int32} (H : LX 20 h τ) (Hb : hB b) (F : FrN b h h2) : LX 20 h2 τ := by
  have e : ∀ a, a = 21 ∨ a = 22 ∨ a = 24 ∨ a = 25 ∨ a = 27 ∨ a = 28 → h2 a = h a := fun a ha => F a (by rcases Hb with rfl | rfl | rfl <;> omega) (by omega) (by omega) (by omega) (by omega)
  exact ⟨H.1.far (congrFun (e 21 (by omega)) 1) (e 22 (by omega)), H.2.1.far (congrFun (e 24 (by omega)) 1) (e 25 (by omega)), H.2.2.far (congrFun (e 27 (by omega)) 1) (e 28 (by omega))⟩
theorem RH.ord {b : Nat} {h h2 : Mm} {d : Dm} (H : RH b h d) (F : FrO (b + 17) (b + 18) h h2) : RH b h2 d := by
  refine ⟨fun j hj => ?_, ⟨?_, ?_, ?_, ?_⟩, fun w2 j hw2 hj => ?_, fun t2 j ht2 hj => ?_⟩ <;> rw [F _ (by omega)]
  · exact H.n hj
  · exact H.o8
  · exact H.o9
  · exact H.oA
  · exact H.oB
  · exact H.w hw2 hj
  · exact H.t ht2 hj
theorem ins_row {f : Nat → Nat} {a w o : Nat} {h3 : Mm} (hlo : ∀ i, i < a → h3 o i = nI (f i)) (hhi : ∀ i, a ≤ i → i < w → h3 o (i + 1) = nI (f i)) : ∀ i, i < w + 1 → u2 h3 o a (nI w) o i = nI (insF f a w i) := by
  intro i hi
  unfold insF
  by_cases q : i = a
  · subst q
    rw [u2_at, if_neg (Nat.lt_irrefl _), if_pos rfl]
  · rw [u2_ne (Or.inr q)]
    by_cases q2 : i < a
    · rw [if_pos q2]; exact hlo i q2
    · rw [if_neg q2, if_neg q]
      have := hhi (i - 1) (by omega) (by omega)
      rwa [show i - 1 + 1 = i by omega] at this
theorem sh_row {f : Nat → Nat} {a w o : Nat} {h3 : Mm} (h0 : 0 < a) (hhi : ∀ i, a ≤ i → i < w → h3 o (i + 1) = nI (f i)) : ∀ i, a - 1 ≤ i → i < w → u2 h3 o a (nI (f (a - 1))) o (i + 1) = nI (f i) := by
  intro i h1 h2
  by_cases q : i = a - 1
  · subst q
    rw [show a - 1 + 1 = a by omega, u2_at]
  · rw [u2_ne (by omega)]
    exact hhi i (by omega) h2
theorem sh_gt {f : Nat → Nat} {a w : Nat} {m : Nat → Int32} (h0 : ¬ m w ≤ m (f (a - 1))) (hgt : ∀ i, a ≤ i → i < w → (m (f i)).toInt < (m w).toInt) : ∀ i, a - 1 ≤ i → i < w → (m (f i)).toInt < (m w).toInt := by
  intro i h1 h2
  by_cases q : i = a - 1
  · subst q
    rw [← Int32.lt_iff_toInt_lt]
    exact Int32.not_le.mp h0
  · exact hgt i (by omega) h2
theorem nI_dec {a : Nat} (h : 0 < a) : nI a + Int32.ofInt (-1) = nI (a - 1) := by
  obtain ⟨k, rfl⟩ : ∃ k, a = k + 1 := ⟨a - 1, by omega⟩
  exact pk_m1 k

abbrev P_X1_turnAway (h : Mm) (b : Nat) (d : Dm) (w : Nat) (up : Prop) : Option Value → Mm → Prop := fun r h2 => r = none ∧ RH b h2 (turnD d w up) ∧ FrO (b + 3 + w) (b + 3 + w + 1) h h2
theorem c_X1_turnAway {l : Launch} (h : Mm) (b : Nat) (d : Dm) (w : Nat) (up : Prop) (Hb : hB b) (hR : RH b h d) (hd : DOK d) (hw : w < 8) : Con l yX1_turnAway cX1_turnAway 3 none 2 43 132 GL h [.ref b, .ref (b + 3 + w), .int (b2i up)] (P_X1_turnAway h b d w up) := by
  refine Con.ofV (own := "FoxRounds$House") (nm := "turnAway") rfl rfl (by decide) (Nat.le_of_ble_eq_true rfl) ?_
  intro κ ρ hkl K
  subst hkl
  show V κ (QM κ (132, ρ, GL, 0, 0) (P_X1_turnAway h b d w up)) 3 (132, ρ, GL, 0, 0) h 0 [(0, .ref b), (1, .ref (b + 3 + w)), (2, .int (b2i up))] []
  refine v_aload_n K dX1_turnAway_0 rfl ?_
  refine v_iconstN K 4 rfl dX1_turnAway_1 ?_
  refine v_bipushN K 99 rfl dX1_turnAway_2 ?_
  refine v_aload_n K dX1_turnAway_4 rfl ?_
  refine v_iconstN K 4 rfl dX1_turnAway_5 ?_
  refine v_iald (x := d (46 + 6 * w + 4)) K (Hb.w (by omega)) (Hb.l3 (by omega)) (by omega) (hR.w (by omega) (by decide)) dX1_turnAway_6 ?_
  refine v_iconstN K 1 rfl dX1_turnAway_7 ?_
  refine v_iadd K dX1_turnAway_8 ?_
  refine v_min K jX1_59 jst_min jin_math jco_min ⟨by decide, by decide, Nat.zero_le _, Nat.zero_le _⟩ (Nat.le_of_ble_eq_true rfl) dX1_turnAway_9 ?_
  refine v_top (min_held (hd.we hw) (by decide)) ?_
  refine v_iast K (Hb.w (by omega)) (Hb.l3 (by omega)) (by omega) dX1_turnAway_12 ?_
  have hRs1 : RH b (u2 h (b + 3 + w) 4 (heldM (d (46 + 6 * w + 4) + nI 1) (nI 0) (nI 99))) (upd d (46 + 6 * w + 4) (heldM (d (46 + 6 * w + 4) + nI 1) (nI 0) (nI 99))) := hR.setw (by omega) (by decide)
  refine v_aload_n K dX1_turnAway_13 rfl ?_
  refine v_iconstN K 5 rfl dX1_turnAway_14 ?_
  refine v_aload_n K dX1_turnAway_15 rfl ?_
  refine v_iconstN K 5 rfl dX1_turnAway_16 ?_
  refine v_iald (x := d (46 + 6 * w + 5)) K (Hb.w (by omega)) (Hb.l3 (by omega)) (by omega) ((hRs1.w (by omega) (by decide)).trans (upd_ne (by omega))) dX1_turnAway_17 ?_
  refine v_iload_n K dX1_turnAway_18 rfl ?_
  refine v_ifB_eq (tgt := 26) K dX1_turnAway_19 rfl (fun c1 => ?_) (fun c1 => ?_)
  · skip
    refine v_iconst (v := (-1)) K dX1_turnAway_26 (by decide) ?_
    refine v_iadd K dX1_turnAway_27 ?_
    refine v_iconstN K 0 rfl dX1_turnAway_28 ?_
    refine v_bipushN K 9 rfl dX1_turnAway_29 ?_
    refine v_callN (As := [.int ((d (46 + 6 * w + 5)) + ((-1))), .int (nI 0), .int (nI 9)]) K (c_X9_held ((u2 h (b + 3 + w) 4 (heldM (d (46 + 6 * w + 4) + nI 1) (nI 0) (nI 99)))) ((d (46 + 6 * w + 5)) + ((-1))) (nI 0) (nI 9)) lX1_111 rfl ⟨by decide, by decide⟩ (Nat.le_of_ble_eq_true rfl) dX1_turnAway_31 (fun r1 h1 hp1 => ?_) rfl
    obtain ⟨rfl, rfl⟩ := hp1
    refine v_some ?_
    refine v_top (y := heldM (d (46 + 6 * w + 5) + pmI up) (nI 0) (nI 9)) (by rw [pm_f c1]; exact heldX_eq (by decide)) ?_
    refine v_iast K (Hb.w (by omega)) (Hb.l3 (by omega)) (by omega) dX1_turnAway_34 ?_
    have hRs2 : RH b (u2 (u2 h (b + 3 + w) 4 (heldM (d (46 + 6 * w + 4) + nI 1) (nI 0) (nI 99))) (b + 3 + w) 5 (heldM (d (46 + 6 * w + 5) + pmI up) (nI 0) (nI 9))) (upd (upd d (46 + 6 * w + 4) (heldM (d (46 + 6 * w + 4) + nI 1) (nI 0) (nI 99))) (46 + 6 * w + 5) (heldM (d (46 + 6 * w + 5) + pmI up) (nI 0) (nI 9))) := hRs1.setw (by omega) (by decide)
    refine v_vret K dX1_turnAway_35 ?_
    exact ⟨rfl, hRs2, (((FrO.r (lo := b + 3 + w) (hi := b + 3 + w + 1) (h := h)).u (by omega) (by omega)).u (by omega) (by omega))⟩
  · skip
    refine v_iconstN K 1 rfl dX1_turnAway_22 ?_
    refine v_goto (tgt := 27) K dX1_turnAway_23 rfl ?_
    refine v_iadd K dX1_turnAway_27 ?_
    refine v_iconstN K 0 rfl dX1_turnAway_28 ?_
    refine v_bipushN K 9 rfl dX1_turnAway_29 ?_
    refine v_callN (As := [.int ((d (46 + 6 * w + 5)) + (nI 1)), .int (nI 0), .int (nI 9)]) K (c_X9_held ((u2 h (b + 3 + w) 4 (heldM (d (46 + 6 * w + 4) + nI 1) (nI 0) (nI 99)))) ((d (46 + 6 * w + 5)) + (nI 1)) (nI 0) (nI 9)) lX1_111 rfl ⟨by decide, by decide⟩ (Nat.le_of_ble_eq_true rfl) dX1_turnAway_31 (fun r2 h2 hp2 => ?_) rfl
    obtain ⟨rfl, rfl⟩ := hp2
    refine v_some ?_
    refine v_top (y := heldM (d (46 + 6 * w + 5) + pmI up) (nI 0) (nI 9)) (by rw [pm_t c1]; exact heldX_eq (by decide)) ?_
    refine v_iast K (Hb.w (by omega)) (Hb.l3 (by omega)) (by omega) dX1_turnAway_34 ?_
    have hRs3 : RH b (u2 (u2 h (b + 3 + w) 4 (heldM (d (46 + 6 * w + 4) + nI 1) (nI 0) (nI 99))) (b + 3 + w) 5 (heldM (d (46 + 6 * w + 5) + pmI up) (nI 0) (nI 9))) (upd (upd d (46 + 6 * w + 4) (heldM (d (46 + 6 * w + 4) + nI 1) (nI 0) (nI 99))) (46 + 6 * w + 5) (heldM (d (46 + 6 * w + 5) + pmI up) (nI 0) (nI 9))) := hRs1.setw (by omega) (by decide)
    refine v_vret K dX1_turnAway_35 ?_
    exact ⟨rfl, hRs3, (((FrO.r (lo := b + 3 + w) (hi := b + 3 + w + 1) (h := h)).u (by omega) (by omega)).u (by omega) (by omega))⟩

abbrev P_X1_comeIn (h : Mm) (b : Nat) (d : Dm) (w : Nat) (τ : Nat → List Int32) : Option Value → Mm → Prop := fun r h2 => r = none ∧ RH b h2 (comeD τ d w) ∧ FrN b h h2 ∧ h2 b 7 = h b 7
theorem c_X1_comeIn {l : Launch} (h : Mm) (b : Nat) (d : Dm) (w : Nat) (τ : Nat → List Int32) (Hb : hB b) (hR : RH b h d) (hd : DOK d) (hτ : TOK τ) (hX : LX 20 h τ) (hw : w < 8) : Con l yX1_comeIn cX1_comeIn 4 none 3 69 132 GL h [.ref b, .ref (b + 3 + w), .ref 20] (P_X1_comeIn h b d w τ) := by
  refine Con.ofV (own := "FoxRounds$House") (nm := "comeIn") rfl rfl (by decide) (Nat.le_of_ble_eq_true rfl) ?_
  intro κ ρ hkl K
  subst hkl
  show V κ (QM κ (132, ρ, GL, 0, 0) (P_X1_comeIn h b d w τ)) 4 (132, ρ, GL, 0, 0) h 0 [(0, .ref b), (1, .ref (b + 3 + w)), (2, .ref 20)] []
  refine v_aload_n K dX1_comeIn_0 rfl ?_
  refine v_aload_n K dX1_comeIn_1 rfl ?_
  refine v_getr (q := b + 1) K fX1_9 Hb.o Hb.l0 Hb.g0 dX1_comeIn_2 ?_
  refine v_iconstN K 0 rfl dX1_comeIn_5 ?_
  refine v_iald (x := d 0) K Hb.n (Hb.l (by omega)) (by omega) (hR.n (by decide)) dX1_comeIn_6 ?_
  refine v_aload_n K dX1_comeIn_7 rfl ?_
  refine v_getr (q := b + 1) K fX1_9 Hb.o Hb.l0 Hb.g0 dX1_comeIn_8 ?_
  refine v_iconstN K 1 rfl dX1_comeIn_11 ?_
  refine v_iald (x := d 1) K Hb.n (Hb.l (by omega)) (by omega) (hR.n (by decide)) dX1_comeIn_12 ?_
  refine v_aload_n K dX1_comeIn_13 rfl ?_
  refine v_getr (q := b + 1) K fX1_9 Hb.o Hb.l0 Hb.g0 dX1_comeIn_14 ?_
  refine v_iconstN K 2 rfl dX1_comeIn_17 ?_
  refine v_iald (x := d 2) K Hb.n (Hb.l (by omega)) (by omega) (hR.n (by decide)) dX1_comeIn_18 ?_
  refine v_callV (As := [.int (d 0), .int (d 1), .int (d 2)]) K (c_X2_kills h τ (d 0) (d 1) (d 2) hτ hX) lX1_115 ck_X2 rfl sh_20 pl_20 rfl ⟨by decide, by decide⟩ (Nat.le_of_ble_eq_true rfl) dX1_comeIn_19 (fun r1 h1 hp1 => ?_) rfl
  obtain ⟨rfl, hLq1⟩ := hp1
  have hRq1 := RH.L hR Hb hLq1
  have hXq1 := LX.fr hX hLq1
  have heq1 := (congrFun (hLq1 b (by rcases Hb with rfl | rfl | rfl <;> omega) (by rcases Hb with rfl | rfl | rfl <;> omega) (by rcases Hb with rfl | rfl | rfl <;> omega) (by rcases Hb with rfl | rfl | rfl <;> omega)) 7).trans (rfl : h b 7 = h b 7)
  refine v_some ?_
  refine v_nm (fun kl e_kl => ?_)
  refine v_istore_n (lv2 := [(3, .int kl), (0, .ref b), (1, .ref (b + 3 + w)), (2, .ref 20)]) K dX1_comeIn_22 (by decide) rfl ?_
  refine v_aload_n K dX1_comeIn_23 rfl ?_
  refine v_getr (q := b + 1) K fX1_9 Hb.o Hb.l0 Hb.g0 dX1_comeIn_24 ?_
  refine v_iconstN K 0 rfl dX1_comeIn_27 ?_
  refine v_dup2 K dX1_comeIn_28 rfl rfl ?_
  refine v_iald (x := d 0) K Hb.n (Hb.l (by omega)) (by omega) (hRq1.n (by decide)) dX1_comeIn_29 ?_
  refine v_iload_n K dX1_comeIn_30 rfl ?_
  refine v_isub K dX1_comeIn_31 ?_
  refine v_iast K Hb.n (Hb.l (by omega)) (by omega) dX1_comeIn_32 ?_
  have hRs1 : RH b (u2 h1 (b + 1) 0 ((d 0) - kl)) (upd d 0 ((d 0) - kl)) := hRq1.setn (by decide)
  have hXs1 : LX 20 (u2 h1 (b + 1) 0 ((d 0) - kl)) τ := LX.N hXq1 Hb ((FrN.r (b := b)).u (by omega) (by omega))
  have hes1 : (u2 h1 (b + 1) 0 ((d 0) - kl)) b 7 = h b 7 := (u2_ne (by omega)).trans heq1
  refine v_aload_n K dX1_comeIn_33 rfl ?_
  refine v_dup K dX1_comeIn_34 rfl ?_
  refine v_geti (x := d 9) K fX1_19 Hb.o Hb.l0 (hRs1.o9.trans (upd_ne (by omega))) dX1_comeIn_35 ?_
  refine v_iload_n K dX1_comeIn_38 rfl ?_
  refine v_iadd K dX1_comeIn_39 ?_
  refine v_puti K pX1_19 Hb.o Hb.l0 dX1_comeIn_40 ?_
  have hRs2 : RH b (u2 (u2 h1 (b + 1) 0 ((d 0) - kl)) b 2 ((d 9) + kl)) (upd (upd d 0 ((d 0) - kl)) 9 ((d 9) + kl)) := hRs1.seto (by decide)
  have hXs2 : LX 20 (u2 (u2 h1 (b + 1) 0 ((d 0) - kl)) b 2 ((d 9) + kl)) τ := LX.N hXs1 Hb ((FrN.r (b := b)).u (by omega) (by omega))
  have hes2 : (u2 (u2 h1 (b + 1) 0 ((d 0) - kl)) b 2 ((d 9) + kl)) b 7 = h b 7 := (u2_ne (by omega)).trans hes1
  refine v_aload_n K dX1_comeIn_43 rfl ?_
  refine v_getr (q := b + 1) K fX1_9 Hb.o Hb.l0 Hb.g0 dX1_comeIn_44 ?_
  refine v_iconstN K 2 rfl dX1_comeIn_47 ?_
  refine v_iconstN K 0 rfl dX1_comeIn_48 ?_
  refine v_aload_n K dX1_comeIn_49 rfl ?_
  refine v_getr (q := b + 1) K fX1_9 Hb.o Hb.l0 Hb.g0 dX1_comeIn_50 ?_
  refine v_iconstN K 2 rfl dX1_comeIn_53 ?_
  refine v_iald (x := d 2) K Hb.n (Hb.l (by omega)) (by omega) (((hRs2.n (by decide)).trans (upd_ne (by omega))).trans (upd_ne (by omega))) dX1_comeIn_54 ?_
  refine v_bipushN K 10 rfl dX1_comeIn_55 ?_
  refine v_iload_n K dX1_comeIn_57 rfl ?_
  refine v_imul K dX1_comeIn_58 ?_
  refine v_isub K dX1_comeIn_59 ?_
  refine v_max K jX1_89 jst_max jin_math jco_max ⟨by decide, by decide, Nat.zero_le _, Nat.zero_le _⟩ (Nat.le_of_ble_eq_true rfl) dX1_comeIn_60 ?_
  refine v_top (max_held (ix_sub10 hd.2.2.1.2.1 (e_kl ▸ killsE_ix (by decide) hd.2.2.1.1))) ?_
  refine v_iast K Hb.n (Hb.l (by omega)) (by omega) dX1_comeIn_63 ?_
  have hRs3 : RH b (u2 (u2 (u2 h1 (b + 1) 0 ((d 0) - kl)) b 2 ((d 9) + kl)) (b + 1) 2 (heldM (d 2 - nI 10 * kl) (nI 0) (nI 99))) (upd (upd (upd d 0 ((d 0) - kl)) 9 ((d 9) + kl)) 2 (heldM (d 2 - nI 10 * kl) (nI 0) (nI 99))) := hRs2.setn (by decide)
  have hXs3 : LX 20 (u2 (u2 (u2 h1 (b + 1) 0 ((d 0) - kl)) b 2 ((d 9) + kl)) (b + 1) 2 (heldM (d 2 - nI 10 * kl) (nI 0) (nI 99))) τ := LX.N hXs2 Hb ((FrN.r (b := b)).u (by omega) (by omega))
  have hes3 : (u2 (u2 (u2 h1 (b + 1) 0 ((d 0) - kl)) b 2 ((d 9) + kl)) (b + 1) 2 (heldM (d 2 - nI 10 * kl) (nI 0) (nI 99))) b 7 = h b 7 := (u2_ne (by omega)).trans hes2
  refine v_aload_n K dX1_comeIn_64 rfl ?_
  refine v_iconstN K 5 rfl dX1_comeIn_65 ?_
  refine v_bipushN K 9 rfl dX1_comeIn_66 ?_
  refine v_iast K (Hb.w (by omega)) (Hb.l3 (by omega)) (by omega) dX1_comeIn_68 ?_
  have hRs4 : RH b (u2 (u2 (u2 (u2 h1 (b + 1) 0 ((d 0) - kl)) b 2 ((d 9) + kl)) (b + 1) 2 (heldM (d 2 - nI 10 * kl) (nI 0) (nI 99))) (b + 3 + w) 5 (nI 9)) (upd (upd (upd (upd d 0 ((d 0) - kl)) 9 ((d 9) + kl)) 2 (heldM (d 2 - nI 10 * kl) (nI 0) (nI 99))) (46 + 6 * w + 5) (nI 9)) := hRs3.setw (by omega) (by decide)
  have hXs4 : LX 20 (u2 (u2 (u2 (u2 h1 (b + 1) 0 ((d 0) - kl)) b 2 ((d 9) + kl)) (b + 1) 2 (heldM (d 2 - nI 10 * kl) (nI 0) (nI 99))) (b + 3 + w) 5 (nI 9)) τ := LX.N hXs3 Hb ((FrN.r (b := b)).u (by omega) (by omega))
  have hes4 : (u2 (u2 (u2 (u2 h1 (b + 1) 0 ((d 0) - kl)) b 2 ((d 9) + kl)) (b + 1) 2 (heldM (d 2 - nI 10 * kl) (nI 0) (nI 99))) (b + 3 + w) 5 (nI 9)) b 7 = h b 7 := (u2_ne (by omega)).trans hes3
  refine v_vret K dX1_comeIn_69 ?_
  have hfin := hRs4
  subst e_kl
  exact ⟨rfl, hfin, ((((((FrN.r (b := b) (h := h)).t hLq1.N).u (by omega) (by omega)).u (by omega) (by omega)).u (by omega) (by omega)).u (by omega) (by omega)), hes4⟩

abbrev P_X1_orderByMemory (h : Mm) (b : Nat) (d : Dm) : Option Value → Mm → Prop := fun r h2 => r = none ∧ (∃ f, isOrd (memD d) (nwD d) f ∧ ∀ i, i < nwD d → h2 (b + 17) i = nI (f i)) ∧ FrO (b + 17) (b + 18) h h2
theorem c_X1_orderByMemory {l : Launch} (h : Mm) (b : Nat) (d : Dm) (Hb : hB b) (hR : RH b h d) (hd : DOK d)  : Con l yX1_orderByMemory cX1_orderByMemory 3 none 0 0 132 GL h [.ref b] (P_X1_orderByMemory h b d) := by
  refine Con.ofV (own := "FoxRounds$House") (nm := "orderByMemory") rfl rfl (by decide) (Nat.le_of_ble_eq_true rfl) ?_
  intro κ ρ hkl K
  subst hkl
  show V κ (QM κ (132, ρ, GL, 0, 0) (P_X1_orderByMemory h b d)) 3 (132, ρ, GL, 0, 0) h 0 [(0, .ref b)] []
  have hn8 := hd.nw8
  refine v_iconstN K 0 rfl dX1_orderByMemory_0 ?_
  refine v_istore_n (lv2 := [(1, .int (nI 0)), (0, .ref b)]) K dX1_orderByMemory_1 (by decide) rfl ?_
  have L2 : ∀ (mm : Nat) (w : Nat) (f : Nat → Nat) (h1 : Mm) (hw : w ≤ nwD d) (ho : isOrd (memD d) w f) (hr : ∀ i, i < w → h1 (b + 17) i = nI (f i)) (hF : FrO (b + 17) (b + 18) h h1), nwD d + 1 - w < mm → V κ (QM κ (132, ρ, GL, 0, 0) (P_X1_orderByMemory h b d)) 3 (132, ρ, GL, 0, 0) h1 2 [(0, .ref b), (1, .int (nI w))] [] := by
    intro mm
    induction mm with
    | zero => intro w f h1 hw ho hr hF hmm; exact absurd hmm (Nat.not_lt_zero _)
    | succ mm ih2 =>
      intro w f h1 hw ho hr hF hmm
      have hR1 : RH b h1 d := hR.ord hF
      refine v_iload_n K dX1_orderByMemory_2 rfl ?_
      refine v_aload_n K dX1_orderByMemory_3 rfl ?_
      refine v_geti (x := nI (nwD d)) K fX1_27 Hb.o Hb.l0 (hR1.oA.trans hd.nw) dX1_orderByMemory_4 ?_
      refine v_icmpN_ge (tgt := 75) K (by omega) (by omega) dX1_orderByMemory_7 rfl (fun c1 => ?_) (fun c1 => ?_)
      · skip
        refine v_vret K dX1_orderByMemory_75 ?_
        have e : w = nwD d := by omega
        subst e
        exact ⟨rfl, ⟨f, ho, hr⟩, hF⟩
      · skip
        refine v_iload_n K dX1_orderByMemory_10 rfl ?_
        refine v_istore_n (lv2 := [(2, .int (nI w)), (0, .ref b), (1, .int (nI w))]) K dX1_orderByMemory_11 (by decide) rfl ?_
        have L12 : ∀ (mm : Nat) (a : Nat) (h3 : Mm) (ha : a ≤ w) (hlo : ∀ i, i < a → h3 (b + 17) i = nI (f i)) (hhi : ∀ i, a ≤ i → i < w → h3 (b + 17) (i + 1) = nI (f i)) (hgt : ∀ i, a ≤ i → i < w → (memD d (f i)).toInt < (memD d w).toInt) (hF3 : FrO (b + 17) (b + 18) h h3), a < mm → V κ (QM κ (132, ρ, GL, 0, 0) (P_X1_orderByMemory h b d)) 3 (132, ρ, GL, 0, 0) h3 12 [(0, .ref b), (1, .int (nI w)), (2, .int (nI a))] [] := by
          intro mm
          induction mm with
          | zero => intro a h3 ha hlo hhi hgt hF3 hmm; exact absurd hmm (Nat.not_lt_zero _)
          | succ mm ih12 =>
            intro a h3 ha hlo hhi hgt hF3 hmm
            have hR3 : RH b h3 d := hR.ord hF3
            refine v_iload_n K dX1_orderByMemory_12 rfl ?_
            refine v_ifN_le (tgt := 62) K (by omega) dX1_orderByMemory_13 rfl (fun c2 => ?_) (fun c2 => ?_)
            · skip
              refine v_aload_n K dX1_orderByMemory_62 rfl ?_
              refine v_getr (q := b + 17) K fX1_39 Hb.o Hb.l0 Hb.g8 dX1_orderByMemory_63 ?_
              refine v_iload_n K dX1_orderByMemory_66 rfl ?_
              refine v_iload_n K dX1_orderByMemory_67 rfl ?_
              refine v_iast K Hb.r (Hb.l (by omega)) (by omega) dX1_orderByMemory_68 ?_
              have hRs1 : RH b (u2 h3 (b + 17) a (nI w)) d := hR3.other (Or.inr rfl)
              refine v_iincN (lv2 := [(1, .int (nI (w + 1))), (0, .ref b), (2, .int (nI a))]) K 1 dX1_orderByMemory_69 rfl rfl (by decide) rfl ?_
              refine v_goto (tgt := 2) K dX1_orderByMemory_72 rfl ?_
              refine v_sub (lv2 := [(0, .ref b), (1, .int (nI (w + 1)))]) (by simp) ?_
              exact ih2 (w + 1) ((insF f a w)) ((u2 h3 (b + 17) a (nI w))) (by first | assumption | omega | rfl) (by exact isOrd_ins ho (by omega) (Or.inl c2) hgt) (by exact ins_row hlo hhi) (by exact (hF3.u (by omega) (by omega))) (by omega)
            · skip
              have hfa : f (a - 1) < w := ho.1 (a - 1) (by omega)
              refine v_aload_n K dX1_orderByMemory_16 rfl ?_
              refine v_getr (q := b + 2) K fX1_24 Hb.o Hb.l0 Hb.g3 dX1_orderByMemory_17 ?_
              refine v_aload_n K dX1_orderByMemory_20 rfl ?_
              refine v_getr (q := b + 17) K fX1_39 Hb.o Hb.l0 Hb.g8 dX1_orderByMemory_21 ?_
              refine v_iload_n K dX1_orderByMemory_24 rfl ?_
              refine v_iconstN K 1 rfl dX1_orderByMemory_25 ?_
              refine v_isubN K (by omega) dX1_orderByMemory_26 ?_
              refine v_iald (x := nI (f (a - 1))) K Hb.r (Hb.l (by omega)) (by omega) (hlo (a - 1) (by omega)) dX1_orderByMemory_27 ?_
              refine v_aald (q := b + 3 + f (a - 1)) K Hb.W (Or.inl rfl) (Hb.l (by omega)) (by omega) (Hb.gw (by omega)) dX1_orderByMemory_28 ?_
              refine v_iconstN K 5 rfl dX1_orderByMemory_29 ?_
              refine v_iald (x := d (46 + 6 * f (a - 1) + 5)) K (Hb.w (by omega)) (Hb.l3 (by omega)) (by omega) (hR3.w (by omega) (by decide)) dX1_orderByMemory_30 ?_
              refine v_aload_n K dX1_orderByMemory_31 rfl ?_
              refine v_getr (q := b + 2) K fX1_24 Hb.o Hb.l0 Hb.g3 dX1_orderByMemory_32 ?_
              refine v_iload_n K dX1_orderByMemory_35 rfl ?_
              refine v_aald (q := b + 3 + w) K Hb.W (Or.inl rfl) (Hb.l (by omega)) (by omega) (Hb.gw (by omega)) dX1_orderByMemory_36 ?_
              refine v_iconstN K 5 rfl dX1_orderByMemory_37 ?_
              refine v_iald (x := d (46 + 6 * w + 5)) K (Hb.w (by omega)) (Hb.l3 (by omega)) (by omega) (hR3.w (by omega) (by decide)) dX1_orderByMemory_38 ?_
              refine v_icmp_ge (tgt := 62) K dX1_orderByMemory_39 rfl (fun c3 => ?_) (fun c3 => ?_)
              · skip
                refine v_aload_n K dX1_orderByMemory_62 rfl ?_
                refine v_getr (q := b + 17) K fX1_39 Hb.o Hb.l0 Hb.g8 dX1_orderByMemory_63 ?_
                refine v_iload_n K dX1_orderByMemory_66 rfl ?_
                refine v_iload_n K dX1_orderByMemory_67 rfl ?_
                refine v_iast K Hb.r (Hb.l (by omega)) (by omega) dX1_orderByMemory_68 ?_
                have hRs2 : RH b (u2 h3 (b + 17) a (nI w)) d := hR3.other (Or.inr rfl)
                refine v_iincN (lv2 := [(1, .int (nI (w + 1))), (0, .ref b), (2, .int (nI a))]) K 1 dX1_orderByMemory_69 rfl rfl (by decide) rfl ?_
                refine v_goto (tgt := 2) K dX1_orderByMemory_72 rfl ?_
                refine v_sub (lv2 := [(0, .ref b), (1, .int (nI (w + 1)))]) (by simp) ?_
                exact ih2 (w + 1) ((insF f a w)) ((u2 h3 (b + 17) a (nI w))) (by first | assumption | omega | rfl) (by exact isOrd_ins ho (by omega) (Or.inr (Int32.le_iff_toInt_le.mp c3)) hgt) (by exact ins_row hlo hhi) (by exact (hF3.u (by omega) (by omega))) (by omega)
              · skip
                refine v_aload_n K dX1_orderByMemory_42 rfl ?_
                refine v_getr (q := b + 17) K fX1_39 Hb.o Hb.l0 Hb.g8 dX1_orderByMemory_43 ?_
                refine v_iload_n K dX1_orderByMemory_46 rfl ?_
                refine v_aload_n K dX1_orderByMemory_47 rfl ?_
                refine v_getr (q := b + 17) K fX1_39 Hb.o Hb.l0 Hb.g8 dX1_orderByMemory_48 ?_
                refine v_iload_n K dX1_orderByMemory_51 rfl ?_
                refine v_iconstN K 1 rfl dX1_orderByMemory_52 ?_
                refine v_isubN K (by omega) dX1_orderByMemory_53 ?_
                refine v_iald (x := nI (f (a - 1))) K Hb.r (Hb.l (by omega)) (by omega) (hlo (a - 1) (by omega)) dX1_orderByMemory_54 ?_
                refine v_iast K Hb.r (Hb.l (by omega)) (by omega) dX1_orderByMemory_55 ?_
                have hRs3 : RH b (u2 h3 (b + 17) a (nI (f (a - 1)))) d := hR3.other (Or.inr rfl)
                refine v_iinc (v := nI (a - 1)) (lv2 := [(2, .int (nI (a - 1))), (0, .ref b), (1, .int (nI w))]) K dX1_orderByMemory_56 rfl (nI_dec (by omega)) (by decide) rfl ?_
                refine v_goto (tgt := 12) K dX1_orderByMemory_59 rfl ?_
                refine v_sub (lv2 := [(0, .ref b), (1, .int (nI w)), (2, .int (nI (a - 1)))]) (by simp) ?_
                exact ih12 (a - 1) ((u2 h3 (b + 17) a (nI (f (a - 1))))) (by first | assumption | omega | rfl) (by intro i hi; rw [u2_ne (by omega)]; exact hlo i (by omega)) (by exact sh_row (by omega) hhi) (by exact sh_gt (m := memD d) c3 hgt) (by exact (hF3.u (by omega) (by omega))) (by omega)
        refine v_sub (lv2 := [(0, .ref b), (1, .int (nI w)), (2, .int (nI w))]) (by simp) ?_
        exact L12 (w + 1) w h1 (by first | assumption | omega | rfl) (by exact hr) (by intro i h1 h2; omega) (by intro i h1 h2; omega) (by exact hF) (Nat.lt_succ_self _)
  refine v_sub (lv2 := [(0, .ref b), (1, .int (nI 0))]) (by simp) ?_
  exact L2 (nwD d + 1 - 0 + 1) 0 id h (by first | assumption | omega | rfl) (by exact isOrd_0) (by intro i hi; exact absurd hi (Nat.not_lt_zero _)) (by exact FrO.r) (Nat.lt_succ_self _)

abbrev P_X1_goRound (h : Mm) (b : Nat) (d : Dm) (τ : Nat → List Int32) : Option Value → Mm → Prop := fun r h2 => r = some (.int (roundD τ d).1) ∧ RH b h2 (roundD τ d).2 ∧ FrN b h h2
theorem c_X1_goRound {l : Launch} (h : Mm) (b : Nat) (d : Dm) (τ : Nat → List Int32) (Hb : hB b) (hR : RH b h d) (hd : DOK d) (hτ : TOK τ) (hX : LX 20 h τ)  : Con l yX1_goRound cX1_goRound 7 (some .int) 3 71 132 GL h [.ref b, .ref 20] (P_X1_goRound h b d τ) := by
  refine Con.ofV (own := "FoxRounds$House") (nm := "goRound") rfl rfl (by decide) (Nat.le_of_ble_eq_true rfl) ?_
  intro κ ρ hkl K
  subst hkl
  show V κ (QM κ (132, ρ, GL, 0, 0) (P_X1_goRound h b d τ)) 7 (132, ρ, GL, 0, 0) h 0 [(0, .ref b), (1, .ref 20)] []
  have hn8 := hd.nw8
  refine v_aload_n K dX1_goRound_0 rfl ?_
  refine v_callV (As := []) K (c_X1_orderByMemory h b d Hb hR hd) lX1_97 ck_X1 rfl Hb.o Hb.l0 rfl ⟨by decide, by decide⟩ (Nat.le_of_ble_eq_true rfl) dX1_goRound_1 (fun r1 h1 hp1 => ?_) rfl
  obtain ⟨rfl, ⟨f, ho, hor⟩, hFo⟩ := hp1
  have hRo : RH b h1 d := hR.ord hFo
  have hXo : LX 20 h1 τ := hX.N Hb (hFo.N (by omega) (by omega))
  refine v_none ?_
  refine v_aload_n K dX1_goRound_4 rfl ?_
  refine v_callV (As := []) K (c_X1_boldness h1 b d Hb hRo hd) lX1_100 ck_X1 rfl Hb.o Hb.l0 rfl ⟨by decide, by decide⟩ (Nat.le_of_ble_eq_true rfl) dX1_goRound_5 (fun r2 h2 hp2 => ?_) rfl
  obtain ⟨rfl, rfl⟩ := hp2
  refine v_some ?_
  refine v_istore_n (lv2 := [(2, .int (boldD d)), (0, .ref b), (1, .ref 20)]) K dX1_goRound_8 (by decide) rfl ?_
  refine v_iconstN K 0 rfl dX1_goRound_9 ?_
  refine v_istore_n (lv2 := [(3, .int (nI 0)), (2, .int (boldD d)), (0, .ref b), (1, .ref 20)]) K dX1_goRound_10 (by decide) rfl ?_
  refine v_iconstN K 0 rfl dX1_goRound_11 ?_
  refine v_istore (lv2 := [(4, .int (nI 0)), (3, .int (nI 0)), (2, .int (boldD d)), (0, .ref b), (1, .ref 20)]) K dX1_goRound_12 (by decide) rfl ?_
  have L14 : ∀ (mm : Nat) (i : Nat) (tk : Int32) (dd : Dm) (h1 : Mm) (hi : i ≤ nwD d) (hd1 : DOK dd) (hnw : nwD dd = nwD d) (hbo : boldD dd = boldD d) (hor1 : ∀ j, j < nwD d → h1 (b + 17) j = nI (f j)) (hR1 : RH b h1 dd) (hX1 : LX 20 h1 τ) (hF1 : FrN b h h1) (hrd : roundD τ d = roundF τ f (nwD d - i) i tk dd), nwD d + 1 - i < mm → V κ (QM κ (132, ρ, GL, 0, 0) (P_X1_goRound h b d τ)) 7 (132, ρ, GL, 0, 0) h1 14 [(0, .ref b), (1, .ref 20), (2, .int (boldD d)), (3, .int tk), (4, .int (nI i))] [] := by
    intro mm
    induction mm with
    | zero => intro i tk dd h1 hi hd1 hnw hbo hor1 hR1 hX1 hF1 hrd hmm; exact absurd hmm (Nat.not_lt_zero _)
    | succ mm ih14 =>
      intro i tk dd h1 hi hd1 hnw hbo hor1 hR1 hX1 hF1 hrd hmm
      have hfi : i < nwD d → f i < nwD d := ho.1 i
      refine v_iload K dX1_goRound_14 rfl ?_
      refine v_aload_n K dX1_goRound_16 rfl ?_
      refine v_geti (x := nI (nwD dd)) K fX1_27 Hb.o Hb.l0 (hR1.oA.trans hd1.nw) dX1_goRound_17 ?_
      refine v_icmpN_ge (tgt := 125) K (by omega) (by omega) dX1_goRound_20 rfl (fun c1 => ?_) (fun c1 => ?_)
      · skip
        refine v_iconst (v := (-1)) K dX1_goRound_125 (by decide) ?_
        refine v_iret K dX1_goRound_126 ?_
        have e : roundD τ d = ((-1), dd) := by
          rw [hrd, show nwD d - i = 0 by omega]
          rfl
        exact ⟨by rw [e], by rw [e]; exact hR1, hF1⟩
      · skip
        refine v_aload_n K dX1_goRound_23 rfl ?_
        refine v_getr (q := b + 2) K fX1_24 Hb.o Hb.l0 Hb.g3 dX1_goRound_24 ?_
        refine v_aload_n K dX1_goRound_27 rfl ?_
        refine v_getr (q := b + 17) K fX1_39 Hb.o Hb.l0 Hb.g8 dX1_goRound_28 ?_
        refine v_iload K dX1_goRound_31 rfl ?_
        refine v_iald (x := nI (f i)) K Hb.r (Hb.l (by omega)) (by omega) (hor1 i (by omega)) dX1_goRound_33 ?_
        refine v_aald (q := b + 3 + f i) K Hb.W (Or.inl rfl) (Hb.l (by omega)) (by omega) (Hb.gw (by omega)) dX1_goRound_34 ?_
        refine v_astore (lv2 := [(5, .ref (b + 3 + f i)), (0, .ref b), (1, .ref 20), (2, .int (boldD d)), (3, .int tk), (4, .int (nI i))]) K dX1_goRound_35 (by decide) rfl ?_
        refine v_iload_n K dX1_goRound_37 rfl ?_
        refine v_bipushN K 20 rfl dX1_goRound_38 ?_
        refine v_aload K dX1_goRound_40 rfl ?_
        refine v_iconstN K 1 rfl dX1_goRound_42 ?_
        refine v_iald (x := dd (46 + 6 * f i + 1)) K (Hb.w (by omega)) (Hb.l3 (by omega)) (by omega) (hR1.w (by omega) (by decide)) dX1_goRound_43 ?_
        refine v_iconstN K 2 rfl dX1_goRound_44 ?_
        refine v_idiv K dX1_goRound_45 (by decide) ?_
        refine v_iadd K dX1_goRound_46 ?_
        refine v_iadd K dX1_goRound_47 ?_
        refine v_nm (fun tk2 e_tk2 => ?_)
        refine v_istore_n (lv2 := [(3, .int tk2), (5, .ref (b + 3 + f i)), (0, .ref b), (1, .ref 20), (2, .int (boldD d)), (4, .int (nI i))]) K dX1_goRound_48 (by decide) rfl ?_
        refine v_iload_n K dX1_goRound_49 rfl ?_
        refine v_aload_n K dX1_goRound_50 rfl ?_
        refine v_getr (q := b + 1) K fX1_9 Hb.o Hb.l0 Hb.g0 dX1_goRound_51 ?_
        refine v_iconstN K 5 rfl dX1_goRound_54 ?_
        refine v_iald (x := dd 5) K Hb.n (Hb.l (by omega)) (by omega) (hR1.n (by decide)) dX1_goRound_55 ?_
        refine v_icmp_le (tgt := 61) K dX1_goRound_56 rfl (fun c2 => ?_) (fun c2 => ?_)
        · skip
          refine v_aload_n K dX1_goRound_61 rfl ?_
          refine v_aload K dX1_goRound_62 rfl ?_
          refine v_callV (As := [.ref (b + 3 + f i)]) K (c_X1_ease h1 b dd (f i) Hb hR1 hd1 (by omega)) lX1_55 ck_X1 rfl Hb.o Hb.l0 rfl ⟨by decide, by decide⟩ (Nat.le_of_ble_eq_true rfl) dX1_goRound_64 (fun r3 h3 hp3 => ?_) rfl
          obtain ⟨rfl, rfl⟩ := hp3
          refine v_some ?_
          refine v_istore (lv2 := [(6, .int (easeD dd (f i))), (3, .int tk2), (5, .ref (b + 3 + f i)), (0, .ref b), (1, .ref 20), (2, .int (boldD d)), (4, .int (nI i))]) K dX1_goRound_67 (by decide) rfl ?_
          refine v_aload_n K dX1_goRound_69 rfl ?_
          refine v_iload K dX1_goRound_70 rfl ?_
          refine v_iload_n K dX1_goRound_72 rfl ?_
          refine v_aload K dX1_goRound_73 rfl ?_
          refine v_iconstN K 5 rfl dX1_goRound_75 ?_
          refine v_iald (x := dd (46 + 6 * f i + 5)) K (Hb.w (by omega)) (Hb.l3 (by omega)) (by omega) (hR1.w (by omega) (by decide)) dX1_goRound_76 ?_
          refine v_aload K dX1_goRound_77 rfl ?_
          refine v_iconstN K 4 rfl dX1_goRound_79 ?_
          refine v_iald (x := dd (46 + 6 * f i + 4)) K (Hb.w (by omega)) (Hb.l3 (by omega)) (by omega) (hR1.w (by omega) (by decide)) dX1_goRound_80 ?_
          refine v_aload_n K dX1_goRound_81 rfl ?_
          refine v_geti (x := dd 8) K fX1_15 Hb.o Hb.l0 hR1.o8 dX1_goRound_82 ?_
          refine v_callV (As := [.int (easeD dd (f i)), .int (boldD d), .int (dd (46 + 6 * f i + 5)), .int (dd (46 + 6 * f i + 4)), .int (dd 8)]) K (c_X2_enters h1 τ (easeD dd (f i)) (boldD d) (dd (46 + 6 * f i + 5)) (dd (46 + 6 * f i + 4)) (dd 8) hτ hX1) lX1_103 ck_X2 rfl sh_20 pl_20 rfl ⟨by decide, by decide⟩ (Nat.le_of_ble_eq_true rfl) dX1_goRound_85 (fun r4 h4 hp4 => ?_) rfl
          obtain ⟨rfl, hLq1⟩ := hp4
          have hRq1 := RH.L hR1 Hb hLq1
          have hXq1 := LX.fr hX1 hLq1
          have hoq1 : ∀ j, j < nwD d → h4 (b + 17) j = nI (f j) := fun j hj => by rw [hLq1 (b + 17) (by rcases Hb with rfl | rfl | rfl <;> omega) (by rcases Hb with rfl | rfl | rfl <;> omega) (by rcases Hb with rfl | rfl | rfl <;> omega) (by rcases Hb with rfl | rfl | rfl <;> omega)]; exact hor1 j hj
          refine v_some ?_
          refine v_if_eq (tgt := 99) K dX1_goRound_88 rfl (fun c3 => ?_) (fun c3 => ?_)
          · skip
            refine v_aload_n K dX1_goRound_99 rfl ?_
            refine v_aload K dX1_goRound_100 rfl ?_
            refine v_iload K dX1_goRound_102 rfl ?_
            refine v_iload_n K dX1_goRound_104 rfl ?_
            refine v_iadd K dX1_goRound_105 ?_
            refine v_bipushN K 70 rfl dX1_goRound_106 ?_
            refine v_icmp_lt (tgt := 115) K dX1_goRound_108 rfl (fun c4 => ?_) (fun c4 => ?_)
            · skip
              refine v_iconstN K 0 rfl dX1_goRound_115 ?_
              refine v_top (y := b2i (nI 70 ≤ easeD dd (f i) + boldD dd)) (by rw [hbo]; exact (b2i_f (fun q => absurd c4 (Int32.not_lt.mpr q))).symm) ?_
              refine v_callV (As := [.ref (b + 3 + f i), .int (b2i (nI 70 ≤ easeD dd (f i) + boldD dd))]) K (c_X1_turnAway h4 b dd (f i) (nI 70 ≤ easeD dd (f i) + boldD dd) Hb hRq1 hd1 (by omega)) lX1_107 ck_X1 rfl Hb.o Hb.l0 rfl ⟨by decide, by decide⟩ (Nat.le_of_ble_eq_true rfl) dX1_goRound_116 (fun r5 h5 hp5 => ?_) rfl
              obtain ⟨rfl, hRq2, hFq2⟩ := hp5
              have hNq2 := hFq2.N (b := b) (by omega) (by omega)
              have hXq2 := LX.N hXq1 Hb hNq2
              have hoq2 : ∀ j, j < nwD d → h5 (b + 17) j = nI (f j) := fun j hj => by rw [hFq2 (b + 17) (by omega)]; exact hoq1 j hj
              refine v_none ?_
              refine v_iincN (lv2 := [(4, .int (nI (i + 1))), (6, .int (easeD dd (f i))), (3, .int tk2), (5, .ref (b + 3 + f i)), (0, .ref b), (1, .ref 20), (2, .int (boldD d))]) K 1 dX1_goRound_119 rfl rfl (by decide) rfl ?_
              refine v_goto (tgt := 14) K dX1_goRound_122 rfl ?_
              refine v_sub (lv2 := [(0, .ref b), (1, .ref 20), (2, .int (boldD d)), (3, .int tk2), (4, .int (nI (i + 1)))]) (by simp) ?_
              exact ih14 (i + 1) tk2 ((turnD dd (f i) (nI 70 ≤ easeD dd (f i) + boldD dd))) h5 (by first | assumption | omega | rfl) (by exact hd1.turn (by omega)) (by exact nwD_turn.trans hnw) (by exact (bold_turn (by omega)).trans hbo) (by exact hoq2) (by exact hRq2) (by exact hXq2) (by exact ((hF1.t hLq1.N).t hNq2)) (by rw [hrd, show nwD d - i = (nwD d - (i + 1)) + 1 by omega, roundF_on (by rw [← e_tk2]; assumption) (by rw [hbo]; assumption), ← e_tk2]) (by omega)
            · skip
              refine v_iconstN K 1 rfl dX1_goRound_111 ?_
              refine v_goto (tgt := 116) K dX1_goRound_112 rfl ?_
              refine v_top (y := b2i (nI 70 ≤ easeD dd (f i) + boldD dd)) (by rw [hbo]; exact (b2i_t (Int32.not_lt.mp c4)).symm) ?_
              refine v_callV (As := [.ref (b + 3 + f i), .int (b2i (nI 70 ≤ easeD dd (f i) + boldD dd))]) K (c_X1_turnAway h4 b dd (f i) (nI 70 ≤ easeD dd (f i) + boldD dd) Hb hRq1 hd1 (by omega)) lX1_107 ck_X1 rfl Hb.o Hb.l0 rfl ⟨by decide, by decide⟩ (Nat.le_of_ble_eq_true rfl) dX1_goRound_116 (fun r6 h6 hp6 => ?_) rfl
              obtain ⟨rfl, hRq3, hFq3⟩ := hp6
              have hNq3 := hFq3.N (b := b) (by omega) (by omega)
              have hXq3 := LX.N hXq1 Hb hNq3
              have hoq3 : ∀ j, j < nwD d → h6 (b + 17) j = nI (f j) := fun j hj => by rw [hFq3 (b + 17) (by omega)]; exact hoq1 j hj
              refine v_none ?_
              refine v_iincN (lv2 := [(4, .int (nI (i + 1))), (6, .int (easeD dd (f i))), (3, .int tk2), (5, .ref (b + 3 + f i)), (0, .ref b), (1, .ref 20), (2, .int (boldD d))]) K 1 dX1_goRound_119 rfl rfl (by decide) rfl ?_
              refine v_goto (tgt := 14) K dX1_goRound_122 rfl ?_
              refine v_sub (lv2 := [(0, .ref b), (1, .ref 20), (2, .int (boldD d)), (3, .int tk2), (4, .int (nI (i + 1)))]) (by simp) ?_
              exact ih14 (i + 1) tk2 ((turnD dd (f i) (nI 70 ≤ easeD dd (f i) + boldD dd))) h6 (by first | assumption | omega | rfl) (by exact hd1.turn (by omega)) (by exact nwD_turn.trans hnw) (by exact (bold_turn (by omega)).trans hbo) (by exact hoq3) (by exact hRq3) (by exact hXq3) (by exact ((hF1.t hLq1.N).t hNq3)) (by rw [hrd, show nwD d - i = (nwD d - (i + 1)) + 1 by omega, roundF_on (by rw [← e_tk2]; assumption) (by rw [hbo]; assumption), ← e_tk2]) (by omega)
          · skip
            refine v_aload_n K dX1_goRound_91 rfl ?_
            refine v_getr (q := b + 17) K fX1_39 Hb.o Hb.l0 Hb.g8 dX1_goRound_92 ?_
            refine v_iload K dX1_goRound_95 rfl ?_
            refine v_iald (x := nI (f i)) K Hb.r (Hb.l (by omega)) (by omega) (hoq1 i (by omega)) dX1_goRound_97 ?_
            refine v_iret K dX1_goRound_98 ?_
            have e : roundD τ d = (nI (f i), dd) := by
              rw [hrd, show nwD d - i = (nwD d - i - 1) + 1 by omega]
              exact roundF_in (by rw [← e_tk2]; assumption) (by rw [hbo]; assumption)
            exact ⟨by rw [e], by rw [e]; exact hRq1, (hF1.t hLq1.N)⟩
        · skip
          refine v_iconst (v := (-1)) K dX1_goRound_59 (by decide) ?_
          refine v_iret K dX1_goRound_60 ?_
          have e : roundD τ d = ((-1), dd) := by
            rw [hrd, show nwD d - i = (nwD d - i - 1) + 1 by omega]
            exact roundF_out (by rw [← e_tk2]; assumption)
          exact ⟨by rw [e], by rw [e]; exact hR1, hF1⟩
  refine v_sub (lv2 := [(0, .ref b), (1, .ref 20), (2, .int (boldD d)), (3, .int (nI 0)), (4, .int (nI 0))]) (by simp) ?_
  exact L14 (nwD d + 1 - 0 + 1) 0 (nI 0) d h1 (by first | assumption | omega | rfl) (by exact hd) (by rfl) (by rfl) (by exact hor) (by exact hRo) (by exact hXo) (by exact (hFo.N (by omega) (by omega))) (by exact roundD_eq ho) (Nat.lt_succ_self _)

theorem decay_yes {d : Dm} {k : Nat} (c : decayD d k (94 + 3 * k + 2) = nI 1) : decayD d (k + 1) = upd (decayD d k) (94 + 3 * k + 0) (heldM (decayD d k (94 + 3 * k + 0) - decayD d k (94 + 3 * k + 1)) (nI 0) (nI 99)) := by rw [decayD, if_pos c]
theorem decay_no {d : Dm} {k : Nat} (c : ¬ decayD d k (94 + 3 * k + 2) = nI 1) : decayD d (k + 1) = decayD d k := by rw [decayD, if_neg c, upd_id]
theorem roundD_ok {τ : Nat → List Int32} {d : Dm} {f : Nat → Nat} (H : DOK d) (ho : isOrd (memD d) (nwD d) f) : DOK (roundD τ d).2 ∧ ((roundD τ d).1 = (-1) ∨ ∃ w, w < nwD d ∧ (roundD τ d).1 = nI w) := by
  have h8 := H.nw8
  rw [roundD_eq ho]
  obtain ⟨h1, h2⟩ := roundF_ok (τ := τ) (n := nwD d) (f := f) (fun i hi => by have := ho.1 i hi; omega) (nwD d) 0 (nI 0) d (by omega) H
  refine ⟨h1, h2.imp id ?_⟩
  rintro ⟨w, hw, ⟨j, hj, rfl⟩, e⟩
  exact ⟨f j, ho.1 j hj, e⟩
/-- the order is there -/
theorem ord_ex (mem : Nat → Int32) : ∀ n, ∃ f, isOrd mem n f
  | 0 => ⟨id, isOrd_0⟩
  | n + 1 => by
    obtain ⟨f, H⟩ := ord_ex mem n
    have : ∃ a, a ≤ n ∧ (a = 0 ∨ (mem n).toInt ≤ (mem (f (a - 1))).toInt) ∧ ∀ i, a ≤ i → i < n → (mem (f i)).toInt < (mem n).toInt := by
      have go : ∀ k, k ≤ n → (∀ i, k ≤ i → i < n → (mem (f i)).toInt < (mem n).toInt) → ∃ a, a ≤ n ∧ (a = 0 ∨ (mem n).toInt ≤ (mem (f (a - 1))).toInt) ∧ ∀ i, a ≤ i → i < n → (mem (f i)).toInt < (mem n).toInt := by
        intro k
        induction k with
        | zero => intro _ h; exact ⟨0, by omega, Or.inl rfl, h⟩
        | succ k ih =>
          intro hk h
          by_cases c : (mem n).toInt ≤ (mem (f k)).toInt
          · exact ⟨k + 1, hk, Or.inr c, h⟩
          · refine ih (by omega) (fun i h1 h2 => ?_)
            by_cases e : i = k
            · subst e; omega
            · exact h i (by omega) h2
      exact go n (Nat.le_refl _) (fun i h1 h2 => by omega)
    obtain ⟨a, ha, h1, h2⟩ := this
    exact ⟨_, isOrd_ins H ha h1 h2⟩
theorem rD_ok {τ : Nat → List Int32} {d : Dm} (H : DOK d) : DOK (rD τ d).2 ∧ ((rD τ d).1 = (-1) ∨ ∃ w, w < nwD d ∧ (rD τ d).1 = nI w) := by
  unfold rD
  split
  · exact ⟨H, Or.inl rfl⟩
  · obtain ⟨f, ho⟩ := ord_ex (memD d) (nwD d)
    exact roundD_ok H ho
theorem rD_in {τ : Nat → List Int32} {d : Dm} (H : DOK d) {v : Int32} (hv : v = (rD τ d).1) (c : ¬ v < 0) : ∃ w, w < 8 ∧ v = nI w := by
  have h8 := H.nw8
  rcases (rD_ok (τ := τ) H).2 with h | ⟨w, hw, h⟩
  · rw [hv, h] at c; exact absurd (by decide) c
  · exact ⟨w, by omega, hv.trans h⟩
theorem DOK.inn {τ : Nat → List Int32} {d : Dm} (H : DOK d) : DOK (inD τ d) := by
  unfold inD
  obtain ⟨h1, h2⟩ := rD_ok (τ := τ) H
  have h8 := H.nw8
  split
  · exact h1.feed
  · rename_i c
    obtain ⟨w, hw, e⟩ := rD_in H rfl c
    rw [e, nI_clamp (by omega)]
    exact h1.come hw
theorem DOK.night {τ : Nat → List Int32} {d : Dm} (H : DOK d) : DOK (nightD τ d) := ((H.inn (τ := τ)).decay _ (H.inn (τ := τ)).nt5).fin

abbrev P_X1_passNight (h : Mm) (b : Nat) (d : Dm) (τ : Nat → List Int32) : Option Value → Mm → Prop := fun r h2 => r = none ∧ RH b h2 (nightD τ d) ∧ h2 b 7 = byD τ d ∧ FrN b h h2
theorem c_X1_passNight {l : Launch} (h : Mm) (b : Nat) (d : Dm) (τ : Nat → List Int32) (Hb : hB b) (hR : RH b h d) (hd : DOK d) (hτ : TOK τ) (hX : LX 20 h τ)  : Con l yX1_passNight cX1_passNight 4 none 4 97 132 GL h [.ref b, .ref 20] (P_X1_passNight h b d τ) := by
  refine Con.ofV (own := "FoxRounds$House") (nm := "passNight") rfl rfl (by decide) (Nat.le_of_ble_eq_true rfl) ?_
  intro κ ρ hkl K
  subst hkl
  show V κ (QM κ (132, ρ, GL, 0, 0) (P_X1_passNight h b d τ)) 4 (132, ρ, GL, 0, 0) h 0 [(0, .ref b), (1, .ref 20)] []
  have hn8 := hd.nw8
  have L65 : ∀ (d2 : Dm) (h2 : Mm) (hd2v : d2 = inD τ d) (hR2 : RH b h2 d2) (hX2 : LX 20 h2 τ) (hF2 : FrN b h h2) (he2 : h2 b 7 = (rD τ d).1), V κ (QM κ (132, ρ, GL, 0, 0) (P_X1_passNight h b d τ)) 4 (132, ρ, GL, 0, 0) h2 65 [(0, .ref b), (1, .ref 20)] [] := by
    intro d2 h2 hd2v hR2 hX2 hF2 he2
    have hd2 : DOK d2 := by rw [hd2v]; exact hd.inn
    have hn5 := hd2.nt5
    refine v_iconstN K 0 rfl dX1_passNight_65 ?_
    refine v_istore_n (lv2 := [(2, .int (nI 0)), (0, .ref b), (1, .ref 20)]) K dX1_passNight_66 (by decide) rfl ?_
    have L67 : ∀ (mm : Nat) (k : Nat) (h3 : Mm) (hk : k ≤ ntD d2) (hR3 : RH b h3 (decayD d2 k)) (hX3 : LX 20 h3 τ) (hF3 : FrN b h h3) (he3 : h3 b 7 = (rD τ d).1), ntD d2 + 1 - k < mm → V κ (QM κ (132, ρ, GL, 0, 0) (P_X1_passNight h b d τ)) 4 (132, ρ, GL, 0, 0) h3 67 [(0, .ref b), (1, .ref 20), (2, .int (nI k))] [] := by
      intro mm
      induction mm with
      | zero => intro k h3 hk hR3 hX3 hF3 he3 hmm; exact absurd hmm (Nat.not_lt_zero _)
      | succ mm ih67 =>
        intro k h3 hk hR3 hX3 hF3 he3 hmm
        have hd3 : DOK (decayD d2 k) := hd2.decay k (by omega)
        have hnt : ntD (decayD d2 k) = ntD d2 := nt_decay
        refine v_iload_n K dX1_passNight_67 rfl ?_
        refine v_aload_n K dX1_passNight_68 rfl ?_
        refine v_geti (x := nI (ntD ((decayD d2 k)))) K fX1_33 Hb.o Hb.l0 (hR3.oB.trans hd3.nt) dX1_passNight_69 ?_
        refine v_icmpN_ge (tgt := 109) K (by omega) (by omega) dX1_passNight_72 rfl (fun c1 => ?_) (fun c1 => ?_)
        · skip
          obtain rfl : k = ntD d2 := by omega
          refine v_aload_n K dX1_passNight_109 rfl ?_
          refine v_getr (q := b + 1) K fX1_9 Hb.o Hb.l0 Hb.g0 dX1_passNight_110 ?_
          refine v_iconstN K 3 rfl dX1_passNight_113 ?_
          refine v_aload_n K dX1_passNight_114 rfl ?_
          refine v_aload_n K dX1_passNight_115 rfl ?_
          refine v_getr (q := b + 1) K fX1_9 Hb.o Hb.l0 Hb.g0 dX1_passNight_116 ?_
          refine v_iconstN K 3 rfl dX1_passNight_119 ?_
          refine v_iald (x := (decayD d2 (ntD d2)) 3) K Hb.n (Hb.l (by omega)) (by omega) (hR3.n (by decide)) dX1_passNight_120 ?_
          refine v_aload_n K dX1_passNight_121 rfl ?_
          refine v_geti (x := (decayD d2 (ntD d2)) 8) K fX1_15 Hb.o Hb.l0 hR3.o8 dX1_passNight_122 ?_
          refine v_callV (As := [.int ((decayD d2 (ntD d2)) 3), .int ((decayD d2 (ntD d2)) 8)]) K (c_X2_stays h3 τ ((decayD d2 (ntD d2)) 3) ((decayD d2 (ntD d2)) 8) hτ hX3) lX1_92 ck_X2 rfl sh_20 pl_20 rfl ⟨by decide, by decide⟩ (Nat.le_of_ble_eq_true rfl) dX1_passNight_125 (fun r1 h1 hp1 => ?_) rfl
          obtain ⟨rfl, hLq1⟩ := hp1
          have hRq1 := RH.L hR3 Hb hLq1
          have hXq1 := LX.fr hX3 hLq1
          have heq1 := (congrFun (hLq1 b (by rcases Hb with rfl | rfl | rfl <;> omega) (by rcases Hb with rfl | rfl | rfl <;> omega) (by rcases Hb with rfl | rfl | rfl <;> omega) (by rcases Hb with rfl | rfl | rfl <;> omega)) 7).trans he3
          refine v_some ?_
          refine v_iast K Hb.n (Hb.l (by omega)) (by omega) dX1_passNight_128 ?_
          have hRs1 : RH b (u2 h1 (b + 1) 3 (staysE τ ((decayD d2 (ntD d2)) 3) ((decayD d2 (ntD d2)) 8))) (upd (decayD d2 (ntD d2)) 3 (staysE τ ((decayD d2 (ntD d2)) 3) ((decayD d2 (ntD d2)) 8))) := hRq1.setn (by decide)
          have hXs1 : LX 20 (u2 h1 (b + 1) 3 (staysE τ ((decayD d2 (ntD d2)) 3) ((decayD d2 (ntD d2)) 8))) τ := LX.N hXq1 Hb ((FrN.r (b := b)).u (by omega) (by omega))
          have hes1 : (u2 h1 (b + 1) 3 (staysE τ ((decayD d2 (ntD d2)) 3) ((decayD d2 (ntD d2)) 8))) b 7 = (rD τ d).1 := (u2_ne (by omega)).trans heq1
          refine v_aload_n K dX1_passNight_129 rfl ?_
          refine v_getr (q := b + 1) K fX1_9 Hb.o Hb.l0 Hb.g0 dX1_passNight_130 ?_
          refine v_iconstN K 4 rfl dX1_passNight_133 ?_
          refine v_iconstN K 0 rfl dX1_passNight_134 ?_
          refine v_iast K Hb.n (Hb.l (by omega)) (by omega) dX1_passNight_135 ?_
          have hRs2 : RH b (u2 (u2 h1 (b + 1) 3 (staysE τ ((decayD d2 (ntD d2)) 3) ((decayD d2 (ntD d2)) 8))) (b + 1) 4 (nI 0)) (upd (upd (decayD d2 (ntD d2)) 3 (staysE τ ((decayD d2 (ntD d2)) 3) ((decayD d2 (ntD d2)) 8))) 4 (nI 0)) := hRs1.setn (by decide)
          have hXs2 : LX 20 (u2 (u2 h1 (b + 1) 3 (staysE τ ((decayD d2 (ntD d2)) 3) ((decayD d2 (ntD d2)) 8))) (b + 1) 4 (nI 0)) τ := LX.N hXs1 Hb ((FrN.r (b := b)).u (by omega) (by omega))
          have hes2 : (u2 (u2 h1 (b + 1) 3 (staysE τ ((decayD d2 (ntD d2)) 3) ((decayD d2 (ntD d2)) 8))) (b + 1) 4 (nI 0)) b 7 = (rD τ d).1 := (u2_ne (by omega)).trans hes1
          refine v_aload_n K dX1_passNight_136 rfl ?_
          refine v_dup K dX1_passNight_137 rfl ?_
          refine v_geti (x := (decayD d2 (ntD d2)) 8) K fX1_15 Hb.o Hb.l0 ((hRs2.o8.trans (upd_ne (by omega))).trans (upd_ne (by omega))) dX1_passNight_138 ?_
          refine v_iconstN K 1 rfl dX1_passNight_141 ?_
          refine v_iadd K dX1_passNight_142 ?_
          refine v_puti K pX1_15 Hb.o Hb.l0 dX1_passNight_143 ?_
          have hRs3 : RH b (u2 (u2 (u2 h1 (b + 1) 3 (staysE τ ((decayD d2 (ntD d2)) 3) ((decayD d2 (ntD d2)) 8))) (b + 1) 4 (nI 0)) b 1 (((decayD d2 (ntD d2)) 8) + (nI 1))) (upd (upd (upd (decayD d2 (ntD d2)) 3 (staysE τ ((decayD d2 (ntD d2)) 3) ((decayD d2 (ntD d2)) 8))) 4 (nI 0)) 8 (((decayD d2 (ntD d2)) 8) + (nI 1))) := hRs2.seto (by decide)
          have hXs3 : LX 20 (u2 (u2 (u2 h1 (b + 1) 3 (staysE τ ((decayD d2 (ntD d2)) 3) ((decayD d2 (ntD d2)) 8))) (b + 1) 4 (nI 0)) b 1 (((decayD d2 (ntD d2)) 8) + (nI 1))) τ := LX.N hXs2 Hb ((FrN.r (b := b)).u (by omega) (by omega))
          have hes3 : (u2 (u2 (u2 h1 (b + 1) 3 (staysE τ ((decayD d2 (ntD d2)) 3) ((decayD d2 (ntD d2)) 8))) (b + 1) 4 (nI 0)) b 1 (((decayD d2 (ntD d2)) 8) + (nI 1))) b 7 = (rD τ d).1 := (u2_ne (by omega)).trans hes2
          refine v_vret K dX1_passNight_146 ?_
          subst hd2v
          exact ⟨rfl, hRs3, hes3, ((((hF3.t hLq1.N).u (by omega) (by omega)).u (by omega) (by omega)).u (by omega) (by omega))⟩
        · skip
          refine v_aload_n K dX1_passNight_75 rfl ?_
          refine v_getr (q := b + 11) K fX1_30 Hb.o Hb.l0 Hb.g5 dX1_passNight_76 ?_
          refine v_iload_n K dX1_passNight_79 rfl ?_
          refine v_aald (q := b + 12 + k) K Hb.T (Or.inl rfl) (Hb.l (by omega)) (by omega) (Hb.gt (by omega)) dX1_passNight_80 ?_
          refine v_astore_n (lv2 := [(3, .ref (b + 12 + k)), (0, .ref b), (1, .ref 20), (2, .int (nI k))]) K dX1_passNight_81 (by decide) rfl ?_
          refine v_aload_n K dX1_passNight_82 rfl ?_
          refine v_iconstN K 2 rfl dX1_passNight_83 ?_
          refine v_iald (x := (decayD d2 k) (94 + 3 * k + 2)) K (Hb.t (by omega)) (Hb.l12 (by omega)) (by omega) (hR3.t (by omega) (by decide)) dX1_passNight_84 ?_
          refine v_iconstN K 1 rfl dX1_passNight_85 ?_
          refine v_icmp_ne (tgt := 103) K dX1_passNight_86 rfl (fun c2 => ?_) (fun c2 => ?_)
          · skip
            refine v_iincN (lv2 := [(2, .int (nI (k + 1))), (3, .ref (b + 12 + k)), (0, .ref b), (1, .ref 20)]) K 1 dX1_passNight_103 rfl rfl (by decide) rfl ?_
            refine v_goto (tgt := 67) K dX1_passNight_106 rfl ?_
            refine v_sub (lv2 := [(0, .ref b), (1, .ref 20), (2, .int (nI (k + 1)))]) (by simp) ?_
            exact ih67 (k + 1) h3 (by first | assumption | omega | rfl) (by rw [decay_no c2]; exact hR3) (by exact hX3) (by exact hF3) (by exact he3) (by omega)
          · skip
            refine v_aload_n K dX1_passNight_89 rfl ?_
            refine v_iconstN K 0 rfl dX1_passNight_90 ?_
            refine v_iconstN K 0 rfl dX1_passNight_91 ?_
            refine v_aload_n K dX1_passNight_92 rfl ?_
            refine v_iconstN K 0 rfl dX1_passNight_93 ?_
            refine v_iald (x := (decayD d2 k) (94 + 3 * k + 0)) K (Hb.t (by omega)) (Hb.l12 (by omega)) (by omega) (hR3.t (by omega) (by decide)) dX1_passNight_94 ?_
            refine v_aload_n K dX1_passNight_95 rfl ?_
            refine v_iconstN K 1 rfl dX1_passNight_96 ?_
            refine v_iald (x := (decayD d2 k) (94 + 3 * k + 1)) K (Hb.t (by omega)) (Hb.l12 (by omega)) (by omega) (hR3.t (by omega) (by decide)) dX1_passNight_97 ?_
            refine v_isub K dX1_passNight_98 ?_
            refine v_max K jX1_89 jst_max jin_math jco_max ⟨by decide, by decide, Nat.zero_le _, Nat.zero_le _⟩ (Nat.le_of_ble_eq_true rfl) dX1_passNight_99 ?_
            refine v_top (max_held (ix_sub (hd3.2.2.2.2 k (by omega)).1 (hd3.2.2.2.2 k (by omega)).2.1)) ?_
            refine v_iast K (Hb.t (by omega)) (Hb.l12 (by omega)) (by omega) dX1_passNight_102 ?_
            have hRs4 : RH b (u2 h3 (b + 12 + k) 0 (heldM ((decayD d2 k) (94 + 3 * k + 0) - (decayD d2 k) (94 + 3 * k + 1)) (nI 0) (nI 99))) (upd (decayD d2 k) (94 + 3 * k + 0) (heldM ((decayD d2 k) (94 + 3 * k + 0) - (decayD d2 k) (94 + 3 * k + 1)) (nI 0) (nI 99))) := hR3.sett (by omega) (by decide)
            have hXs4 : LX 20 (u2 h3 (b + 12 + k) 0 (heldM ((decayD d2 k) (94 + 3 * k + 0) - (decayD d2 k) (94 + 3 * k + 1)) (nI 0) (nI 99))) τ := LX.N hX3 Hb ((FrN.r (b := b)).u (by omega) (by omega))
            have hes4 : (u2 h3 (b + 12 + k) 0 (heldM ((decayD d2 k) (94 + 3 * k + 0) - (decayD d2 k) (94 + 3 * k + 1)) (nI 0) (nI 99))) b 7 = (rD τ d).1 := (u2_ne (by omega)).trans he3
            refine v_iincN (lv2 := [(2, .int (nI (k + 1))), (3, .ref (b + 12 + k)), (0, .ref b), (1, .ref 20)]) K 1 dX1_passNight_103 rfl rfl (by decide) rfl ?_
            refine v_goto (tgt := 67) K dX1_passNight_106 rfl ?_
            refine v_sub (lv2 := [(0, .ref b), (1, .ref 20), (2, .int (nI (k + 1)))]) (by simp) ?_
            exact ih67 (k + 1) ((u2 h3 (b + 12 + k) 0 (heldM ((decayD d2 k) (94 + 3 * k + 0) - (decayD d2 k) (94 + 3 * k + 1)) (nI 0) (nI 99)))) (by first | assumption | omega | rfl) (by rw [decay_yes c2]; exact hRs4) (by exact hXs4) (by exact (hF3.u (by omega) (by omega))) (by exact hes4) (by omega)
    refine v_sub (lv2 := [(0, .ref b), (1, .ref 20), (2, .int (nI 0))]) (by simp) ?_
    exact L67 (ntD d2 + 1 - 0 + 1) 0 h2 (by first | assumption | omega | rfl) (by exact hR2) (by exact hX2) (by exact hF2) (by exact he2) (Nat.lt_succ_self _)
  have L19 : ∀ (v : Int32) (d1 : Dm) (h1 : Mm) (hv : v = (rD τ d).1) (hdv : d1 = (rD τ d).2) (hR1 : RH b h1 d1) (hX1 : LX 20 h1 τ) (hF1 : FrN b h h1), V κ (QM κ (132, ρ, GL, 0, 0) (P_X1_passNight h b d τ)) 4 (132, ρ, GL, 0, 0) h1 19 [(0, .ref b), (1, .ref 20)] [.int v, .ref b] := by
    intro v d1 h1 hv hdv hR1 hX1 hF1
    have hd1 : DOK d1 := by rw [hdv]; exact (rD_ok hd).1
    refine v_puti K pX1_36 Hb.o Hb.l0 dX1_passNight_19 ?_
    have hRs5 : RH b (u2 h1 b 7 v) d1 := hR1.other (Or.inl ⟨rfl, rfl⟩)
    have hXs5 : LX 20 (u2 h1 b 7 v) τ := LX.N hX1 Hb ((FrN.r (b := b)).u (by omega) (by omega))
    have hes5 : (u2 h1 b 7 v) b 7 = v := u2_at
    refine v_aload_n K dX1_passNight_22 rfl ?_
    refine v_geti (x := v) K fX1_36 Hb.o Hb.l0 hes5 dX1_passNight_23 ?_
    refine v_if_lt (tgt := 46) K dX1_passNight_26 rfl (fun c3 => ?_) (fun c3 => ?_)
    · skip
      refine v_aload_n K dX1_passNight_46 rfl ?_
      refine v_getr (q := b + 1) K fX1_9 Hb.o Hb.l0 Hb.g0 dX1_passNight_47 ?_
      refine v_iconstN K 2 rfl dX1_passNight_50 ?_
      refine v_bipushN K 99 rfl dX1_passNight_51 ?_
      refine v_aload_n K dX1_passNight_53 rfl ?_
      refine v_getr (q := b + 1) K fX1_9 Hb.o Hb.l0 Hb.g0 dX1_passNight_54 ?_
      refine v_iconstN K 2 rfl dX1_passNight_57 ?_
      refine v_iald (x := d1 2) K Hb.n (Hb.l (by omega)) (by omega) (hRs5.n (by decide)) dX1_passNight_58 ?_
      refine v_iconstN K 5 rfl dX1_passNight_59 ?_
      refine v_iadd K dX1_passNight_60 ?_
      refine v_min K jX1_59 jst_min jin_math jco_min ⟨by decide, by decide, Nat.zero_le _, Nat.zero_le _⟩ (Nat.le_of_ble_eq_true rfl) dX1_passNight_61 ?_
      refine v_top (min_held hd1.2.2.1.2.1 (by decide)) ?_
      refine v_iast K Hb.n (Hb.l (by omega)) (by omega) dX1_passNight_64 ?_
      have hRs6 : RH b (u2 (u2 h1 b 7 v) (b + 1) 2 (heldM (d1 2 + nI 5) (nI 0) (nI 99))) (upd d1 2 (heldM (d1 2 + nI 5) (nI 0) (nI 99))) := hRs5.setn (by decide)
      have hXs6 : LX 20 (u2 (u2 h1 b 7 v) (b + 1) 2 (heldM (d1 2 + nI 5) (nI 0) (nI 99))) τ := LX.N hXs5 Hb ((FrN.r (b := b)).u (by omega) (by omega))
      have hes6 : (u2 (u2 h1 b 7 v) (b + 1) 2 (heldM (d1 2 + nI 5) (nI 0) (nI 99))) b 7 = v := (u2_ne (by omega)).trans hes5
      refine v_sub (lv2 := [(0, .ref b), (1, .ref 20)]) (by simp) ?_
      exact L65 ((upd d1 2 (heldM (d1 2 + nI 5) (nI 0) (nI 99)))) ((u2 (u2 h1 b 7 v) (b + 1) 2 (heldM (d1 2 + nI 5) (nI 0) (nI 99)))) (by unfold inD; rw [← hv, ← hdv]; exact (if_pos c3).symm) (by exact hRs6) (by exact hXs6) (by exact ((hF1.u (by omega) (by omega)).u (by omega) (by omega))) (by exact (hes6).trans hv)
    · skip
      have cv := c3
      obtain ⟨w, hw8, rfl⟩ := rD_in hd hv c3
      refine v_aload_n K dX1_passNight_29 rfl ?_
      refine v_aload_n K dX1_passNight_30 rfl ?_
      refine v_getr (q := b + 2) K fX1_24 Hb.o Hb.l0 Hb.g3 dX1_passNight_31 ?_
      refine v_aload_n K dX1_passNight_34 rfl ?_
      refine v_geti (x := nI w) K fX1_36 Hb.o Hb.l0 hes5 dX1_passNight_35 ?_
      refine v_aald (q := b + 3 + w) K Hb.W (Or.inl rfl) (Hb.l (by omega)) (by omega) (Hb.gw (by omega)) dX1_passNight_38 ?_
      refine v_aload_n K dX1_passNight_39 rfl ?_
      refine v_callV (As := [.ref (b + 3 + w), .ref 20]) K (c_X1_comeIn ((u2 h1 b 7 (nI w))) b d1 w τ Hb hRs5 hd1 hτ hXs5 (by omega)) lX1_85 ck_X1 rfl Hb.o Hb.l0 rfl ⟨by decide, by decide⟩ (Nat.le_of_ble_eq_true rfl) dX1_passNight_40 (fun r2 h2 hp2 => ?_) rfl
      obtain ⟨rfl, hRc, hFc, hec⟩ := hp2
      have hXc := LX.N hXs5 Hb hFc
      have hec2 := hec.trans hes5
      refine v_none ?_
      refine v_goto (tgt := 65) K dX1_passNight_43 rfl ?_
      refine v_sub (lv2 := [(0, .ref b), (1, .ref 20)]) (by simp) ?_
      exact L65 ((comeD τ d1 w)) h2 (by unfold inD; rw [← hv, ← hdv]; rw [if_neg cv, nI_clamp (by omega)]) (by exact hRc) (by exact hXc) (by exact ((hF1.u (by omega) (by omega)).t hFc)) (by exact (hec2).trans hv)
  refine v_aload_n K dX1_passNight_0 rfl ?_
  refine v_aload_n K dX1_passNight_1 rfl ?_
  refine v_getr (q := b + 1) K fX1_9 Hb.o Hb.l0 Hb.g0 dX1_passNight_2 ?_
  refine v_iconstN K 0 rfl dX1_passNight_5 ?_
  refine v_iald (x := d 0) K Hb.n (Hb.l (by omega)) (by omega) (hR.n (by decide)) dX1_passNight_6 ?_
  refine v_if_le (tgt := 18) K dX1_passNight_7 rfl (fun c4 => ?_) (fun c4 => ?_)
  · skip
    refine v_iconst (v := (-1)) K dX1_passNight_18 (by decide) ?_
    refine v_sub (lv2 := [(0, .ref b), (1, .ref 20)]) (by simp) ?_
    exact L19 ((-1)) d h (by unfold rD; rw [if_pos c4]) (by unfold rD; rw [if_pos c4]) (by exact hR) (by exact hX) (by exact (FrN.r (b := b) (h := h)))
  · skip
    refine v_aload_n K dX1_passNight_10 rfl ?_
    refine v_aload_n K dX1_passNight_11 rfl ?_
    refine v_callV (As := [.ref 20]) K (c_X1_goRound h b d τ Hb hR hd hτ hX) lX1_81 ck_X1 rfl Hb.o Hb.l0 rfl ⟨by decide, by decide⟩ (Nat.le_of_ble_eq_true rfl) dX1_passNight_12 (fun r3 h3 hp3 => ?_) rfl
    obtain ⟨rfl, hRg, hFg⟩ := hp3
    have hXg := hX.N Hb hFg
    refine v_some ?_
    refine v_goto (tgt := 19) K dX1_passNight_15 rfl ?_
    refine v_sub (lv2 := [(0, .ref b), (1, .ref 20)]) (by simp) ?_
    exact L19 ((roundD τ d).1) ((roundD τ d).2) h3 (by unfold rD; rw [if_neg c4]) (by unfold rD; rw [if_neg c4]) (by exact hRg) (by exact hXg) (by exact hFg)
