/-! the state of a run, told in the reference's own places: rows 119 d, 121 kept, 122 found, 127 traced, 128 bits, 129 sizes, 130 numbers, and in 118: 3 images, 16 traced -/
abbrev Rs : Type := Int32 × Mm
def er (s : Mm) (k : Nat) : Rs := ((-1000000000) - nI k, u2 s 122 k (s 122 k + nI 1))
def RA (a : Nat) : Prop := a = 119 ∨ a = 121 ∨ a = 122 ∨ (127 ≤ a ∧ a ≤ 130) ∨ a < 118
def RR (h s : Mm) : Prop := (∀ a, RA a → h a = s a) ∧ h 118 3 = s 118 3 ∧ h 118 16 = s 118 16
theorem RR.at {h s : Mm} (H : RR h s) {a k : Nat} (ha : RA a) : h a k = s a k := by rw [H.1 a ha]
theorem RR.u {h s : Mm} (H : RR h s) {a k : Nat} {v : Int32} (ha : RA a) : RR (u2 h a k v) (u2 s a k v) := by
  refine ⟨fun x hx => ?_, (u2_ne (by unfold RA at ha; omega)).trans (H.2.1.trans (u2_ne (by unfold RA at ha; omega)).symm), (u2_ne (by unfold RA at ha; omega)).trans (H.2.2.trans (u2_ne (by unfold RA at ha; omega)).symm)⟩
  by_cases e : x = a
  · subst e; rw [u2_row, u2_row, H.1 x hx]
  · rw [u2_off e, u2_off e, H.1 x hx]
theorem RR.o {h s : Mm} (H : RR h s) {k : Nat} {v : Int32} (hk : k = 3 ∨ k = 16) : RR (u2 h 118 k v) (u2 s 118 k v) := by
  refine ⟨fun x hx => ?_, ?_, ?_⟩
  · rw [u2_off (by unfold RA at hx; omega), u2_off (by unfold RA at hx; omega), H.1 x hx]
  · by_cases e : k = 3
    · subst e; rw [u2_at, u2_at]
    · rw [u2_ne (by omega), u2_ne (by omega)]; exact H.2.1
  · by_cases e : k = 16
    · subst e; rw [u2_at, u2_at]
    · rw [u2_ne (by omega), u2_ne (by omega)]; exact H.2.2
theorem RR.n {h s : Mm} (H : RR h s) {a k : Nat} {v : Int32} (ha : ¬ RA a) (h2 : a ≠ 118 ∨ (k ≠ 3 ∧ k ≠ 16)) : RR (u2 h a k v) s :=
  ⟨fun x hx => by rw [u2_off (fun e => by subst e; exact ha hx), H.1 x hx], (u2_ne (by omega)).trans H.2.1, (u2_ne (by omega)).trans H.2.2⟩
theorem RR.fr {h h2 s : Mm} (H : RR h s) (h1 : ∀ a, RA a → h2 a = h a) (h3 : h2 118 3 = h 118 3) (h4 : h2 118 16 = h 118 16) : RR h2 s := ⟨fun a ha => (h1 a ha).trans (H.1 a ha), h3.trans H.2.1, h4.trans H.2.2⟩
theorem RR.G {h h2 s : Mm} (H : RR h s) {P : Nat} (hP : ¬ RA P) (F : FrG P h h2) : RR h2 s :=
  H.fr (fun a ha => F.1 a (fun e => hP (e ▸ ha)) (by unfold RA at ha; omega) (by unfold RA at ha; omega) (by unfold RA at ha; omega)) (F.2 3 (by omega)) (F.2 16 (by omega))
theorem RR.G119 {h h2 s : Mm} (H : RR h s) (F : FrG 119 h h2) : RR h2 (rw2 s 119 (h2 119)) := by
  refine ⟨fun a ha => ?_, (F.2 3 (by omega)).trans (H.2.1.trans (by rw [rw2_off (by omega)])), (F.2 16 (by omega)).trans (H.2.2.trans (by rw [rw2_off (by omega)]))⟩
  by_cases e : a = 119
  · subst e; rw [rw2_at]
  · rw [rw2_off e, F.1 a e (by unfold RA at ha; omega) (by unfold RA at ha; omega) (by unfold RA at ha; omega), H.1 a ha]
theorem RR.rw {h s : Mm} (H : RR h s) {a : Nat} {f : Nat → Int32} (ha : RA a) : RR (rw2 h a f) (rw2 s a f) := by
  have h8 : a ≠ 118 := by unfold RA at ha; omega
  refine ⟨fun x hx => ?_, by rw [rw2_off h8.symm, rw2_off h8.symm]; exact H.2.1, by rw [rw2_off h8.symm, rw2_off h8.symm]; exact H.2.2⟩
  by_cases e : x = a
  · subst e; rw [rw2_at, rw2_at]
  · rw [rw2_off e, rw2_off e, H.1 x hx]
theorem RR.rwn {h s : Mm} (H : RR h s) {f : Nat → Int32} : RR (rw2 h 120 f) s :=
  ⟨fun x hx => by rw [rw2_off (by unfold RA at hx; omega), H.1 x hx], by rw [rw2_off (by omega)]; exact H.2.1, by rw [rw2_off (by omega)]; exact H.2.2⟩
theorem RA_119 : RA 119 := Or.inl rfl
theorem RA_121 : RA 121 := Or.inr (Or.inl rfl)
theorem RA_122 : RA 122 := Or.inr (Or.inr (Or.inl rfl))
theorem RA_127 : RA 127 := Or.inr (Or.inr (Or.inr (Or.inl ⟨by omega, by omega⟩)))
theorem RA_128 : RA 128 := Or.inr (Or.inr (Or.inr (Or.inl ⟨by omega, by omega⟩)))
theorem RA_129 : RA 129 := Or.inr (Or.inr (Or.inr (Or.inl ⟨by omega, by omega⟩)))
theorem RA_130 : RA 130 := Or.inr (Or.inr (Or.inr (Or.inl ⟨by omega, by omega⟩)))
/-- what holds of such numbers, and of the state, at all times -/
def DX (d : Dm) : Prop := DOK d ∧ (∃ n, n ≤ 50 ∧ d 13 = nI n) ∧ (∃ n, n ≤ 20 ∧ d 14 = nI n) ∧ ix (d 8) 1000 ∧ (∀ y, y < 6 → ix (d (28 + 3 * y + 2)) 2) ∧ (∀ i, i < 50 → ix (d (284 + i)) 256)
def bitOK (v : Int32) : Prop := v = nI 0 ∨ v = nI 8 ∨ v = nI 16 ∨ v = nI 32
def SHX (s : Mm) : Prop := ∀ i, i < 4 → bitOK (s 128 i) ∧ ∃ n, n ≤ 40 ∧ s 129 i = nI n ∧ (s 128 i = nI 0 → n = 0)
def INV (s : Mm) (τ τk : Nat → List Int32) : Prop := (DX (s 119) ∧ TXD (s 119) τ ∧ TOK τ) ∧ (s 118 3 = nI 0 ∨ (DX (s 121) ∧ TXD (s 121) τk ∧ TOK τk)) ∧ SHX s ∧ ∃ n, n ≤ 40 ∧ s 118 16 = nI n
theorem INV.d {s : Mm} {τ τk : Nat → List Int32} (H : INV s τ τk) : DOK (s 119) := H.1.1.1
theorem INV.x {s : Mm} {τ τk : Nat → List Int32} (H : INV s τ τk) : TXD (s 119) τ := H.1.2.1
theorem in_ix {v : Int32} {n : Nat} (hn : n < 2 ^ 30) : (nI 0 ≤ v ∧ v ≤ nI n) = ix v (n + 1) := by
  refine propext ⟨fun q => ?_, fun ⟨j, hj, e⟩ => ?_⟩
  · obtain ⟨q1, q2⟩ := q
    rw [i32_le, nI_toInt (by omega)] at q1 q2
    refine ⟨v.toInt.toNat, by omega, i32_eq.mpr ?_⟩
    rw [nI_toInt (by omega)]; omega
  · subst e
    rw [i32_le, i32_le, nI_toInt (by omega), nI_toInt (by omega), nI_toInt (by omega)]; omega
theorem in15 {k : Int32} (h : nI 1 ≤ k ∧ k ≤ nI 5) : ∃ j, 1 ≤ j ∧ j < 6 ∧ k = nI j := by
  obtain ⟨q1, q2⟩ := h
  rw [i32_le, nI_toInt (by omega)] at q1 q2
  refine ⟨k.toInt.toNat, by omega, by omega, i32_eq.mpr ?_⟩
  rw [nI_toInt (by omega)]; omega
theorem rfin {y : Rs} {v : Int32} {S h : Mm} (e : y = (v, S)) (H : RR h S) : some (Value.int v) = some (.int y.1) ∧ RR h y.2 := by rw [e]; exact ⟨rfl, H⟩
theorem cl_ix {j : Nat} (h : j < 2 ^ 31) : (nI j).toNatClampNeg = j := nI_clamp h

noncomputable def Y_set (s : Mm) (w v : Int32) : Rs := @ite _ (setOK w v) (Classical.propDecidable _) (s 119 w.toNatClampNeg, u2 s 119 w.toNatClampNeg v) ( er s 1)

noncomputable def Y_ofWay (s : Mm) (w k : Int32) : Rs := @ite _ (ix w (nwD (s 119)) ∧ ix k 7) (Classical.propDecidable _) (partD (s 119) w.toNatClampNeg k.toNatClampNeg, s) ( er s 1)

noncomputable def Y_wear (s : Mm) (w k v : Int32) : Rs := @ite _ (ix w (nwD (s 119)) ∧ (k = nI 1 ∨ k = nI 4 ∨ k = nI 5) ∧ ix v (if k = nI 5 then 10 else 100)) (Classical.propDecidable _) (s 119 (46 + 6 * w.toNatClampNeg + k.toNatClampNeg), u2 s 119 (46 + 6 * w.toNatClampNeg + k.toNatClampNeg) v) ( er s 1)

noncomputable def Y_as (s : Mm) (w k : Int32) : Rs := @ite _ (¬ (ix w (nwD (s 119)) ∧ ix k 7)) (Classical.propDecidable _) (er s 1) ( @ite _ (underP (s 119 (46 + 6 * w.toNatClampNeg + 0)).toNatClampNeg k.toNatClampNeg) (Classical.propDecidable _) (s 119 (46 + 6 * w.toNatClampNeg + 1), s) ( er s 5))

noncomputable def Y_mend (s : Mm) (w : Int32) : Rs := @ite _ (ix w (nwD (s 119))) (Classical.propDecidable _) (mendD (s 119) w.toNatClampNeg (46 + 6 * w.toNatClampNeg + 1), rw2 s 119 (mendD (s 119) w.toNatClampNeg)) ( er s 1)

noncomputable def Y_thing (s : Mm) (f g : Int32) : Rs := @ite _ (¬ (ix f 100 ∧ ix g 31)) (Classical.propDecidable _) (er s 1) ( @ite _ (ntD (s 119) = 5) (Classical.propDecidable _) (er s 4) ( nI (ntD (s 119)), rw2 s 119 (addTD (s 119) f g)))

noncomputable def Y_ofThing (s : Mm) (w k : Int32) : Rs := @ite _ (ix w (ntD (s 119)) ∧ ix k 3) (Classical.propDecidable _) (s 119 (94 + 3 * w.toNatClampNeg + k.toNatClampNeg), s) ( er s 1)

noncomputable def Y_hang (s : Mm) (w v : Int32) : Rs := @ite _ (ix w (ntD (s 119)) ∧ ix v 2) (Classical.propDecidable _) (s 119 (94 + 3 * w.toNatClampNeg + 2), u2 s 119 (94 + 3 * w.toNatClampNeg + 2) v) ( er s 1)

noncomputable def Y_bitten (s : Mm) : Rs := (s 119 3, u2 s 119 3 (nI 99))

noncomputable def Y_bold (s : Mm) : Rs := (boldD (s 119), s)

noncomputable def Y_dusk (s : Mm) (w v : Int32) : Rs := @ite _ (ix w 12 ∧ ix v 1440) (Classical.propDecidable _) (s 119 (16 + w.toNatClampNeg), u2 s 119 (16 + w.toNatClampNeg) v) ( er s 1)

noncomputable def Y_seed (s : Mm) (v : Int32) : Rs := (s 119 12, u2 s 119 12 v)

noncomputable def Y_told (s : Mm) (k : Int32) : Rs := @ite _ (nI 1 ≤ k ∧ k ≤ nI 5) (Classical.propDecidable _) (s 122 k.toNatClampNeg, s) ( er s 1)

abbrev P_X10_bitten (h s : Mm) (τ τk : Nat → List Int32) : Option Value → Mm → Prop := fun r h2 => r = some (.int (Y_bitten s ).1) ∧ RR h2 (Y_bitten s ).2
theorem c_X10_bitten {l : Launch} (h s : Mm) (τ τk : Nat → List Int32) (hR : RR h s) (hI : INV s τ τk) : Con l yX10_bitten cX10_bitten 2 (some .int) 0 0 132 GL h [.ref 118] (P_X10_bitten h s τ τk) := by
  refine Con.ofV (own := "FoxRoundsModel") (nm := "bitten") rfl rfl (by decide) (Nat.le_of_ble_eq_true rfl) ?_
  intro κ ρ hkl K
  subst hkl
  show V κ (QM κ (132, ρ, GL, 0, 0) (P_X10_bitten h s τ τk)) 2 (132, ρ, GL, 0, 0) h 0 [(0, .ref 118)] []
  have hd := hI.d
  have hn8 := hd.nw8
  have ht5 := hd.nt5
  refine v_aload_n K dX10_bitten_0 rfl ?_
  refine v_getr (q := 119) K fX10_7 sh_118 pl_118 gl_118_0 dX10_bitten_1 ?_
  refine v_iconstN K 3 rfl dX10_bitten_4 ?_
  refine v_iald (x := s 119 3) K sh_119 pl_119 (by omega) (hR.at RA_119) dX10_bitten_5 ?_
  refine v_istore_n (lv2 := [(1, .int (s 119 3)), (0, .ref 118)]) K dX10_bitten_6 (by decide) rfl ?_
  refine v_aload_n K dX10_bitten_7 rfl ?_
  refine v_getr (q := 119) K fX10_7 sh_118 pl_118 gl_118_0 dX10_bitten_8 ?_
  refine v_iconstN K 3 rfl dX10_bitten_11 ?_
  refine v_bipushN K 99 rfl dX10_bitten_12 ?_
  refine v_iast K sh_119 pl_119 (by omega) dX10_bitten_14 ?_
  have hRr1 : RR (u2 h 119 3 (nI 99)) (u2 s 119 3 (nI 99)) := hR.u RA_119
  refine v_iload_n K dX10_bitten_15 rfl ?_
  refine v_iret K dX10_bitten_16 ?_
  have eY : Y_bitten s  = (s 119 3, (u2 s 119 3 (nI 99))) := by
    unfold Y_bitten
    first | rfl | (rfl)
  exact rfin eY hRr1

abbrev P_X10_seed (h s : Mm) (τ τk : Nat → List Int32) (v : Int32) : Option Value → Mm → Prop := fun r h2 => r = some (.int (Y_seed s v).1) ∧ RR h2 (Y_seed s v).2
theorem c_X10_seed {l : Launch} (h s : Mm) (τ τk : Nat → List Int32) (v : Int32) (hR : RR h s) (hI : INV s τ τk) : Con l yX10_seed cX10_seed 3 (some .int) 0 0 132 GL h [.ref 118, .int v] (P_X10_seed h s τ τk v) := by
  refine Con.ofV (own := "FoxRoundsModel") (nm := "seed") rfl rfl (by decide) (Nat.le_of_ble_eq_true rfl) ?_
  intro κ ρ hkl K
  subst hkl
  show V κ (QM κ (132, ρ, GL, 0, 0) (P_X10_seed h s τ τk v)) 3 (132, ρ, GL, 0, 0) h 0 [(0, .ref 118), (1, .int v)] []
  have hd := hI.d
  have hn8 := hd.nw8
  have ht5 := hd.nt5
  refine v_aload_n K dX10_seed_0 rfl ?_
  refine v_getr (q := 119) K fX10_7 sh_118 pl_118 gl_118_0 dX10_seed_1 ?_
  refine v_bipushN K 12 rfl dX10_seed_4 ?_
  refine v_iald (x := s 119 12) K sh_119 pl_119 (by omega) (hR.at RA_119) dX10_seed_6 ?_
  refine v_istore_n (lv2 := [(2, .int (s 119 12)), (0, .ref 118), (1, .int v)]) K dX10_seed_7 (by decide) rfl ?_
  refine v_aload_n K dX10_seed_8 rfl ?_
  refine v_getr (q := 119) K fX10_7 sh_118 pl_118 gl_118_0 dX10_seed_9 ?_
  refine v_bipushN K 12 rfl dX10_seed_12 ?_
  refine v_iload_n K dX10_seed_14 rfl ?_
  refine v_iast K sh_119 pl_119 (by omega) dX10_seed_15 ?_
  have hRr1 : RR (u2 h 119 12 v) (u2 s 119 12 v) := hR.u RA_119
  refine v_iload_n K dX10_seed_16 rfl ?_
  refine v_iret K dX10_seed_17 ?_
  have eY : Y_seed s v = (s 119 12, (u2 s 119 12 v)) := by
    unfold Y_seed
    first | rfl | (rfl)
  exact rfin eY hRr1

abbrev P_X10_hang (h s : Mm) (τ τk : Nat → List Int32) (w v : Int32) : Option Value → Mm → Prop := fun r h2 => r = some (.int (Y_hang s w v).1) ∧ RR h2 (Y_hang s w v).2
theorem c_X10_hang {l : Launch} (h s : Mm) (τ τk : Nat → List Int32) (w v : Int32) (hR : RR h s) (hI : INV s τ τk) : Con l yX10_hang cX10_hang 4 (some .int) 2 46 132 GL h [.ref 118, .int w, .int v] (P_X10_hang h s τ τk w v) := by
  refine Con.ofV (own := "FoxRoundsModel") (nm := "hang") rfl rfl (by decide) (Nat.le_of_ble_eq_true rfl) ?_
  intro κ ρ hkl K
  subst hkl
  show V κ (QM κ (132, ρ, GL, 0, 0) (P_X10_hang h s τ τk w v)) 4 (132, ρ, GL, 0, 0) h 0 [(0, .ref 118), (1, .int w), (2, .int v)] []
  have hd := hI.d
  have hn8 := hd.nw8
  have ht5 := hd.nt5
  refine v_aload_n K dX10_hang_0 rfl ?_
  refine v_iload_n K dX10_hang_1 rfl ?_
  refine v_callV (As := [.int w]) K (c_X10_isThing h w (ntD (s 119)) ((hR.at RA_119).trans hd.nt) (by omega)) lX10_195 ck_X10 rfl sh_118 pl_118 rfl ⟨by decide, by decide⟩ (Nat.le_of_ble_eq_true rfl) dX10_hang_2 (fun r1 h1 hp1 => ?_) rfl
  obtain ⟨rfl, rfl⟩ := hp1
  refine v_some ?_
  refine v_ifB_eq (tgt := 18) K dX10_hang_5 rfl (fun c1 => ?_) (fun c1 => ?_)
  · skip
    refine v_aload_n K dX10_hang_18 rfl ?_
    refine v_iconstN K 1 rfl dX10_hang_19 ?_
    refine v_callV (As := [.int (nI 1)]) K (c_X10_finds h 1 (by omega)) lX10_113 ck_X10 rfl sh_118 pl_118 rfl ⟨by decide, by decide⟩ (Nat.le_of_ble_eq_true rfl) dX10_hang_20 (fun r2 h2 hp2 => ?_) rfl
    obtain ⟨rfl, rfl⟩ := hp2
    refine v_some ?_
    have hRf1 : RR (u2 h 122 1 (h 122 1 + nI 1)) (u2 s 122 1 (s 122 1 + nI 1)) := by rw [show (h 122 1) = s 122 1 from hR.at RA_122]; exact hR.u RA_122
    refine v_iret K dX10_hang_23 ?_
    have eY : Y_hang s w v = ((-1000000000) - nI 1, (u2 s 122 1 (s 122 1 + nI 1))) := by
      unfold Y_hang
      refine (@if_neg _ (Classical.propDecidable _) (fun q => by first | exact absurd q.1 (by assumption) | exact absurd q.2 (by assumption)) _ _ _).trans ?_
      first | rfl | (rfl)
    exact rfin eY hRf1
  · skip
    obtain ⟨j1, Hj1, rfl⟩ := c1
    refine v_iload_n K dX10_hang_8 rfl ?_
    refine v_i2l K dX10_hang_9 rfl ?_
    refine v_lconst (v := (nI 0).toInt64) K dX10_hang_10 (by decide) ?_
    refine v_lconst (v := (nI 1).toInt64) K dX10_hang_11 (by decide) ?_
    refine v_callS (As := [.long v.toInt64, .long (nI 0).toInt64, .long (nI 1).toInt64]) K (c_X10_in h v (nI 0) (nI 1)) lX10_51 rfl ⟨by decide, by decide⟩ (Nat.le_of_ble_eq_true rfl) dX10_hang_12 (fun r3 h3 hp3 => ?_) rfl
    obtain ⟨rfl, rfl⟩ := hp3
    refine v_some ?_
    rw [show (nI 0 ≤ v ∧ v ≤ nI 1) = ix v 2 from in_ix (by decide)]
    refine v_ifB_ne (tgt := 24) K dX10_hang_15 rfl (fun c2 => ?_) (fun c2 => ?_)
    · skip
      obtain ⟨j2, Hj2, rfl⟩ := c2
      refine v_aload_n K dX10_hang_24 rfl ?_
      refine v_getr (q := 119) K fX10_7 sh_118 pl_118 gl_118_0 dX10_hang_25 ?_
      refine v_bipushN K 94 rfl dX10_hang_28 ?_
      refine v_iconstN K 3 rfl dX10_hang_30 ?_
      refine v_iload_n K dX10_hang_31 rfl ?_
      refine v_imulN K dX10_hang_32 ?_
      refine v_iaddN K dX10_hang_33 ?_
      refine v_iconstN K 2 rfl dX10_hang_34 ?_
      refine v_iaddN K dX10_hang_35 ?_
      refine v_iald (x := s 119 (94 + (3 * j1) + 2)) K sh_119 pl_119 (by omega) (hR.at RA_119) dX10_hang_36 ?_
      refine v_istore_n (lv2 := [(3, .int (s 119 (94 + (3 * j1) + 2))), (0, .ref 118), (1, .int (nI j1)), (2, .int (nI j2))]) K dX10_hang_37 (by decide) rfl ?_
      refine v_aload_n K dX10_hang_38 rfl ?_
      refine v_getr (q := 119) K fX10_7 sh_118 pl_118 gl_118_0 dX10_hang_39 ?_
      refine v_bipushN K 94 rfl dX10_hang_42 ?_
      refine v_iconstN K 3 rfl dX10_hang_44 ?_
      refine v_iload_n K dX10_hang_45 rfl ?_
      refine v_imulN K dX10_hang_46 ?_
      refine v_iaddN K dX10_hang_47 ?_
      refine v_iconstN K 2 rfl dX10_hang_48 ?_
      refine v_iaddN K dX10_hang_49 ?_
      refine v_iload_n K dX10_hang_50 rfl ?_
      refine v_iast K sh_119 pl_119 (by omega) dX10_hang_51 ?_
      have hRr4 : RR (u2 h 119 (94 + (3 * j1) + 2) (nI j2)) (u2 s 119 (94 + (3 * j1) + 2) (nI j2)) := hR.u RA_119
      refine v_iload_n K dX10_hang_52 rfl ?_
      refine v_iret K dX10_hang_53 ?_
      have eY : Y_hang s (nI j1) (nI j2) = (s 119 (94 + (3 * j1) + 2), (u2 s 119 (94 + (3 * j1) + 2) (nI j2))) := by
        unfold Y_hang
        refine (@if_pos _ (Classical.propDecidable _) (by refine ⟨?_, ?_⟩ <;> (first | assumption | exact ⟨_, by assumption, rfl⟩ | exact Or.inl rfl | exact Or.inr (Or.inl rfl) | exact Or.inr (Or.inr rfl) | omega)) _ _ _).trans ?_
        first | rfl | ((try rw [cl_ix (show j1 < 2 ^ 31 by omega)]) ; (try rw [cl_ix (show j2 < 2 ^ 31 by omega)]))
      exact rfin eY hRr4
    · skip
      refine v_aload_n K dX10_hang_18 rfl ?_
      refine v_iconstN K 1 rfl dX10_hang_19 ?_
      refine v_callV (As := [.int (nI 1)]) K (c_X10_finds h 1 (by omega)) lX10_113 ck_X10 rfl sh_118 pl_118 rfl ⟨by decide, by decide⟩ (Nat.le_of_ble_eq_true rfl) dX10_hang_20 (fun r5 h4 hp4 => ?_) rfl
      obtain ⟨rfl, rfl⟩ := hp4
      refine v_some ?_
      have hRf2 : RR (u2 h 122 1 (h 122 1 + nI 1)) (u2 s 122 1 (s 122 1 + nI 1)) := by rw [show (h 122 1) = s 122 1 from hR.at RA_122]; exact hR.u RA_122
      refine v_iret K dX10_hang_23 ?_
      have eY : Y_hang s (nI j1) v = ((-1000000000) - nI 1, (u2 s 122 1 (s 122 1 + nI 1))) := by
        unfold Y_hang
        refine (@if_neg _ (Classical.propDecidable _) (fun q => by first | exact absurd q.1 (by assumption) | exact absurd q.2 (by assumption)) _ _ _).trans ?_
        first | rfl | ((try rw [cl_ix (show j1 < 2 ^ 31 by omega)]))
      exact rfin eY hRf2

abbrev P_X10_ofThing (h s : Mm) (τ τk : Nat → List Int32) (w k : Int32) : Option Value → Mm → Prop := fun r h2 => r = some (.int (Y_ofThing s w k).1) ∧ RR h2 (Y_ofThing s w k).2
theorem c_X10_ofThing {l : Launch} (h s : Mm) (τ τk : Nat → List Int32) (w k : Int32) (hR : RR h s) (hI : INV s τ τk) : Con l yX10_ofThing cX10_ofThing 3 (some .int) 2 46 132 GL h [.ref 118, .int w, .int k] (P_X10_ofThing h s τ τk w k) := by
  refine Con.ofV (own := "FoxRoundsModel") (nm := "ofThing") rfl rfl (by decide) (Nat.le_of_ble_eq_true rfl) ?_
  intro κ ρ hkl K
  subst hkl
  show V κ (QM κ (132, ρ, GL, 0, 0) (P_X10_ofThing h s τ τk w k)) 3 (132, ρ, GL, 0, 0) h 0 [(0, .ref 118), (1, .int w), (2, .int k)] []
  have hd := hI.d
  have hn8 := hd.nw8
  have ht5 := hd.nt5
  refine v_aload_n K dX10_ofThing_0 rfl ?_
  refine v_iload_n K dX10_ofThing_1 rfl ?_
  refine v_callV (As := [.int w]) K (c_X10_isThing h w (ntD (s 119)) ((hR.at RA_119).trans hd.nt) (by omega)) lX10_195 ck_X10 rfl sh_118 pl_118 rfl ⟨by decide, by decide⟩ (Nat.le_of_ble_eq_true rfl) dX10_ofThing_2 (fun r1 h1 hp1 => ?_) rfl
  obtain ⟨rfl, rfl⟩ := hp1
  refine v_some ?_
  refine v_ifB_eq (tgt := 36) K dX10_ofThing_5 rfl (fun c1 => ?_) (fun c1 => ?_)
  · skip
    refine v_aload_n K dX10_ofThing_36 rfl ?_
    refine v_iconstN K 1 rfl dX10_ofThing_37 ?_
    refine v_callV (As := [.int (nI 1)]) K (c_X10_finds h 1 (by omega)) lX10_113 ck_X10 rfl sh_118 pl_118 rfl ⟨by decide, by decide⟩ (Nat.le_of_ble_eq_true rfl) dX10_ofThing_38 (fun r2 h2 hp2 => ?_) rfl
    obtain ⟨rfl, rfl⟩ := hp2
    refine v_some ?_
    have hRf1 : RR (u2 h 122 1 (h 122 1 + nI 1)) (u2 s 122 1 (s 122 1 + nI 1)) := by rw [show (h 122 1) = s 122 1 from hR.at RA_122]; exact hR.u RA_122
    refine v_iret K dX10_ofThing_41 ?_
    have eY : Y_ofThing s w k = ((-1000000000) - nI 1, (u2 s 122 1 (s 122 1 + nI 1))) := by
      unfold Y_ofThing
      refine (@if_neg _ (Classical.propDecidable _) (fun q => by first | exact absurd q.1 (by assumption) | exact absurd q.2 (by assumption)) _ _ _).trans ?_
      first | rfl | (rfl)
    exact rfin eY hRf1
  · skip
    obtain ⟨j1, Hj1, rfl⟩ := c1
    refine v_iload_n K dX10_ofThing_8 rfl ?_
    refine v_i2l K dX10_ofThing_9 rfl ?_
    refine v_lconst (v := (nI 0).toInt64) K dX10_ofThing_10 (by decide) ?_
    refine v_ldc2 K kX10_118 dX10_ofThing_11 ?_
    refine v_topL (y := (nI 2).toInt64) (by decide) ?_
    refine v_callS (As := [.long k.toInt64, .long (nI 0).toInt64, .long (nI 2).toInt64]) K (c_X10_in h k (nI 0) (nI 2)) lX10_51 rfl ⟨by decide, by decide⟩ (Nat.le_of_ble_eq_true rfl) dX10_ofThing_14 (fun r3 h3 hp3 => ?_) rfl
    obtain ⟨rfl, rfl⟩ := hp3
    refine v_some ?_
    rw [show (nI 0 ≤ k ∧ k ≤ nI 2) = ix k 3 from in_ix (by decide)]
    refine v_ifB_eq (tgt := 36) K dX10_ofThing_17 rfl (fun c2 => ?_) (fun c2 => ?_)
    · skip
      refine v_aload_n K dX10_ofThing_36 rfl ?_
      refine v_iconstN K 1 rfl dX10_ofThing_37 ?_
      refine v_callV (As := [.int (nI 1)]) K (c_X10_finds h 1 (by omega)) lX10_113 ck_X10 rfl sh_118 pl_118 rfl ⟨by decide, by decide⟩ (Nat.le_of_ble_eq_true rfl) dX10_ofThing_38 (fun r4 h4 hp4 => ?_) rfl
      obtain ⟨rfl, rfl⟩ := hp4
      refine v_some ?_
      have hRf2 : RR (u2 h 122 1 (h 122 1 + nI 1)) (u2 s 122 1 (s 122 1 + nI 1)) := by rw [show (h 122 1) = s 122 1 from hR.at RA_122]; exact hR.u RA_122
      refine v_iret K dX10_ofThing_41 ?_
      have eY : Y_ofThing s (nI j1) k = ((-1000000000) - nI 1, (u2 s 122 1 (s 122 1 + nI 1))) := by
        unfold Y_ofThing
        refine (@if_neg _ (Classical.propDecidable _) (fun q => by first | exact absurd q.1 (by assumption) | exact absurd q.2 (by assumption)) _ _ _).trans ?_
        first | rfl | ((try rw [cl_ix (show j1 < 2 ^ 31 by omega)]))
      exact rfin eY hRf2
    · skip
      obtain ⟨j2, Hj2, rfl⟩ := c2
      refine v_aload_n K dX10_ofThing_20 rfl ?_
      refine v_getr (q := 119) K fX10_7 sh_118 pl_118 gl_118_0 dX10_ofThing_21 ?_
      refine v_bipushN K 94 rfl dX10_ofThing_24 ?_
      refine v_iconstN K 3 rfl dX10_ofThing_26 ?_
      refine v_iload_n K dX10_ofThing_27 rfl ?_
      refine v_imulN K dX10_ofThing_28 ?_
      refine v_iaddN K dX10_ofThing_29 ?_
      refine v_iload_n K dX10_ofThing_30 rfl ?_
      refine v_iaddN K dX10_ofThing_31 ?_
      refine v_iald (x := s 119 (94 + (3 * j1) + j2)) K sh_119 pl_119 (by omega) (hR.at RA_119) dX10_ofThing_32 ?_
      refine v_goto (tgt := 41) K dX10_ofThing_33 rfl ?_
      refine v_iret K dX10_ofThing_41 ?_
      have eY : Y_ofThing s (nI j1) (nI j2) = (s 119 (94 + (3 * j1) + j2), s) := by
        unfold Y_ofThing
        refine (@if_pos _ (Classical.propDecidable _) (by refine ⟨?_, ?_⟩ <;> (first | assumption | exact ⟨_, by assumption, rfl⟩ | exact Or.inl rfl | exact Or.inr (Or.inl rfl) | exact Or.inr (Or.inr rfl) | omega)) _ _ _).trans ?_
        first | rfl | ((try rw [cl_ix (show j1 < 2 ^ 31 by omega)]) ; (try rw [cl_ix (show j2 < 2 ^ 31 by omega)]))
      exact rfin eY hR

abbrev P_X10_told (h s : Mm) (τ τk : Nat → List Int32) (k : Int32) : Option Value → Mm → Prop := fun r h2 => r = some (.int (Y_told s k).1) ∧ RR h2 (Y_told s k).2
theorem c_X10_told {l : Launch} (h s : Mm) (τ τk : Nat → List Int32) (k : Int32) (hR : RR h s) (hI : INV s τ τk) : Con l yX10_told cX10_told 2 (some .int) 1 25 132 GL h [.ref 118, .int k] (P_X10_told h s τ τk k) := by
  refine Con.ofV (own := "FoxRoundsModel") (nm := "told") rfl rfl (by decide) (Nat.le_of_ble_eq_true rfl) ?_
  intro κ ρ hkl K
  subst hkl
  show V κ (QM κ (132, ρ, GL, 0, 0) (P_X10_told h s τ τk k)) 2 (132, ρ, GL, 0, 0) h 0 [(0, .ref 118), (1, .int k)] []
  have hd := hI.d
  have hn8 := hd.nw8
  have ht5 := hd.nt5
  refine v_iload_n K dX10_told_0 rfl ?_
  refine v_i2l K dX10_told_1 rfl ?_
  refine v_lconst (v := (nI 1).toInt64) K dX10_told_2 (by decide) ?_
  refine v_ldc2 K kX10_235 dX10_told_3 ?_
  refine v_topL (y := (nI 5).toInt64) (by decide) ?_
  refine v_callS (As := [.long k.toInt64, .long (nI 1).toInt64, .long (nI 5).toInt64]) K (c_X10_in h k (nI 1) (nI 5)) lX10_51 rfl ⟨by decide, by decide⟩ (Nat.le_of_ble_eq_true rfl) dX10_told_6 (fun r1 h1 hp1 => ?_) rfl
  obtain ⟨rfl, rfl⟩ := hp1
  refine v_some ?_
  refine v_ifB_eq (tgt := 21) K dX10_told_9 rfl (fun c1 => ?_) (fun c1 => ?_)
  · skip
    refine v_aload_n K dX10_told_21 rfl ?_
    refine v_iconstN K 1 rfl dX10_told_22 ?_
    refine v_callV (As := [.int (nI 1)]) K (c_X10_finds h 1 (by omega)) lX10_113 ck_X10 rfl sh_118 pl_118 rfl ⟨by decide, by decide⟩ (Nat.le_of_ble_eq_true rfl) dX10_told_23 (fun r2 h2 hp2 => ?_) rfl
    obtain ⟨rfl, rfl⟩ := hp2
    refine v_some ?_
    have hRf1 : RR (u2 h 122 1 (h 122 1 + nI 1)) (u2 s 122 1 (s 122 1 + nI 1)) := by rw [show (h 122 1) = s 122 1 from hR.at RA_122]; exact hR.u RA_122
    refine v_iret K dX10_told_26 ?_
    have eY : Y_told s k = ((-1000000000) - nI 1, (u2 s 122 1 (s 122 1 + nI 1))) := by
      unfold Y_told
      refine (@if_neg _ (Classical.propDecidable _) (by assumption) _ _ _).trans ?_
      first | rfl | (rfl)
    exact rfin eY hRf1
  · skip
    have c15 := c1
    obtain ⟨j, hj1, hj6, rfl⟩ := in15 c1
    refine v_aload_n K dX10_told_12 rfl ?_
    refine v_getr (q := 122) K fX10_19 sh_118 pl_118 gl_118_4 dX10_told_13 ?_
    refine v_iload_n K dX10_told_16 rfl ?_
    refine v_iald (x := s 122 j) K sh_122 pl_122 (by omega) (hR.at RA_122) dX10_told_17 ?_
    refine v_goto (tgt := 26) K dX10_told_18 rfl ?_
    refine v_iret K dX10_told_26 ?_
    have eY : Y_told s (nI j) = (s 122 j, s) := by
      unfold Y_told
      refine (@if_pos _ (Classical.propDecidable _) c15 _ _ _).trans ?_
      first | rfl | ((try rw [cl_ix (show j < 2 ^ 31 by omega)]))
    exact rfin eY hR

abbrev P_X10_dusk (h s : Mm) (τ τk : Nat → List Int32) (w v : Int32) : Option Value → Mm → Prop := fun r h2 => r = some (.int (Y_dusk s w v).1) ∧ RR h2 (Y_dusk s w v).2
theorem c_X10_dusk {l : Launch} (h s : Mm) (τ τk : Nat → List Int32) (w v : Int32) (hR : RR h s) (hI : INV s τ τk) : Con l yX10_dusk cX10_dusk 4 (some .int) 1 25 132 GL h [.ref 118, .int w, .int v] (P_X10_dusk h s τ τk w v) := by
  refine Con.ofV (own := "FoxRoundsModel") (nm := "dusk") rfl rfl (by decide) (Nat.le_of_ble_eq_true rfl) ?_
  intro κ ρ hkl K
  subst hkl
  show V κ (QM κ (132, ρ, GL, 0, 0) (P_X10_dusk h s τ τk w v)) 4 (132, ρ, GL, 0, 0) h 0 [(0, .ref 118), (1, .int w), (2, .int v)] []
  have hd := hI.d
  have hn8 := hd.nw8
  have ht5 := hd.nt5
  refine v_iload_n K dX10_dusk_0 rfl ?_
  refine v_i2l K dX10_dusk_1 rfl ?_
  refine v_lconst (v := (nI 0).toInt64) K dX10_dusk_2 (by decide) ?_
  refine v_ldc2 K kX10_247 dX10_dusk_3 ?_
  refine v_topL (y := (nI 11).toInt64) (by decide) ?_
  refine v_callS (As := [.long w.toInt64, .long (nI 0).toInt64, .long (nI 11).toInt64]) K (c_X10_in h w (nI 0) (nI 11)) lX10_51 rfl ⟨by decide, by decide⟩ (Nat.le_of_ble_eq_true rfl) dX10_dusk_6 (fun r1 h1 hp1 => ?_) rfl
  obtain ⟨rfl, rfl⟩ := hp1
  refine v_some ?_
  rw [show (nI 0 ≤ w ∧ w ≤ nI 11) = ix w 12 from in_ix (by decide)]
  refine v_ifB_eq (tgt := 24) K dX10_dusk_9 rfl (fun c1 => ?_) (fun c1 => ?_)
  · skip
    refine v_aload_n K dX10_dusk_24 rfl ?_
    refine v_iconstN K 1 rfl dX10_dusk_25 ?_
    refine v_callV (As := [.int (nI 1)]) K (c_X10_finds h 1 (by omega)) lX10_113 ck_X10 rfl sh_118 pl_118 rfl ⟨by decide, by decide⟩ (Nat.le_of_ble_eq_true rfl) dX10_dusk_26 (fun r2 h2 hp2 => ?_) rfl
    obtain ⟨rfl, rfl⟩ := hp2
    refine v_some ?_
    have hRf1 : RR (u2 h 122 1 (h 122 1 + nI 1)) (u2 s 122 1 (s 122 1 + nI 1)) := by rw [show (h 122 1) = s 122 1 from hR.at RA_122]; exact hR.u RA_122
    refine v_iret K dX10_dusk_29 ?_
    have eY : Y_dusk s w v = ((-1000000000) - nI 1, (u2 s 122 1 (s 122 1 + nI 1))) := by
      unfold Y_dusk
      refine (@if_neg _ (Classical.propDecidable _) (fun q => by first | exact absurd q.1 (by assumption) | exact absurd q.2 (by assumption)) _ _ _).trans ?_
      first | rfl | (rfl)
    exact rfin eY hRf1
  · skip
    obtain ⟨j1, Hj1, rfl⟩ := c1
    refine v_iload_n K dX10_dusk_12 rfl ?_
    refine v_i2l K dX10_dusk_13 rfl ?_
    refine v_lconst (v := (nI 0).toInt64) K dX10_dusk_14 (by decide) ?_
    refine v_ldc2 K kX10_249 dX10_dusk_15 ?_
    refine v_topL (y := (nI 1439).toInt64) (by decide) ?_
    refine v_callS (As := [.long v.toInt64, .long (nI 0).toInt64, .long (nI 1439).toInt64]) K (c_X10_in h v (nI 0) (nI 1439)) lX10_51 rfl ⟨by decide, by decide⟩ (Nat.le_of_ble_eq_true rfl) dX10_dusk_18 (fun r3 h3 hp3 => ?_) rfl
    obtain ⟨rfl, rfl⟩ := hp3
    refine v_some ?_
    rw [show (nI 0 ≤ v ∧ v ≤ nI 1439) = ix v 1440 from in_ix (by decide)]
    refine v_ifB_ne (tgt := 30) K dX10_dusk_21 rfl (fun c2 => ?_) (fun c2 => ?_)
    · skip
      obtain ⟨j2, Hj2, rfl⟩ := c2
      refine v_aload_n K dX10_dusk_30 rfl ?_
      refine v_getr (q := 119) K fX10_7 sh_118 pl_118 gl_118_0 dX10_dusk_31 ?_
      refine v_bipushN K 16 rfl dX10_dusk_34 ?_
      refine v_iload_n K dX10_dusk_36 rfl ?_
      refine v_iaddN K dX10_dusk_37 ?_
      refine v_iald (x := s 119 (16 + j1)) K sh_119 pl_119 (by omega) (hR.at RA_119) dX10_dusk_38 ?_
      refine v_istore_n (lv2 := [(3, .int (s 119 (16 + j1))), (0, .ref 118), (1, .int (nI j1)), (2, .int (nI j2))]) K dX10_dusk_39 (by decide) rfl ?_
      refine v_aload_n K dX10_dusk_40 rfl ?_
      refine v_getr (q := 119) K fX10_7 sh_118 pl_118 gl_118_0 dX10_dusk_41 ?_
      refine v_bipushN K 16 rfl dX10_dusk_44 ?_
      refine v_iload_n K dX10_dusk_46 rfl ?_
      refine v_iaddN K dX10_dusk_47 ?_
      refine v_iload_n K dX10_dusk_48 rfl ?_
      refine v_iast K sh_119 pl_119 (by omega) dX10_dusk_49 ?_
      have hRr4 : RR (u2 h 119 (16 + j1) (nI j2)) (u2 s 119 (16 + j1) (nI j2)) := hR.u RA_119
      refine v_iload_n K dX10_dusk_50 rfl ?_
      refine v_iret K dX10_dusk_51 ?_
      have eY : Y_dusk s (nI j1) (nI j2) = (s 119 (16 + j1), (u2 s 119 (16 + j1) (nI j2))) := by
        unfold Y_dusk
        refine (@if_pos _ (Classical.propDecidable _) (by refine ⟨?_, ?_⟩ <;> (first | assumption | exact ⟨_, by assumption, rfl⟩ | exact Or.inl rfl | exact Or.inr (Or.inl rfl) | exact Or.inr (Or.inr rfl) | omega)) _ _ _).trans ?_
        first | rfl | ((try rw [cl_ix (show j1 < 2 ^ 31 by omega)]) ; (try rw [cl_ix (show j2 < 2 ^ 31 by omega)]))
      exact rfin eY hRr4
    · skip
      refine v_aload_n K dX10_dusk_24 rfl ?_
      refine v_iconstN K 1 rfl dX10_dusk_25 ?_
      refine v_callV (As := [.int (nI 1)]) K (c_X10_finds h 1 (by omega)) lX10_113 ck_X10 rfl sh_118 pl_118 rfl ⟨by decide, by decide⟩ (Nat.le_of_ble_eq_true rfl) dX10_dusk_26 (fun r5 h4 hp4 => ?_) rfl
      obtain ⟨rfl, rfl⟩ := hp4
      refine v_some ?_
      have hRf2 : RR (u2 h 122 1 (h 122 1 + nI 1)) (u2 s 122 1 (s 122 1 + nI 1)) := by rw [show (h 122 1) = s 122 1 from hR.at RA_122]; exact hR.u RA_122
      refine v_iret K dX10_dusk_29 ?_
      have eY : Y_dusk s (nI j1) v = ((-1000000000) - nI 1, (u2 s 122 1 (s 122 1 + nI 1))) := by
        unfold Y_dusk
        refine (@if_neg _ (Classical.propDecidable _) (fun q => by first | exact absurd q.1 (by assumption) | exact absurd q.2 (by assumption)) _ _ _).trans ?_
        first | rfl | ((try rw [cl_ix (show j1 < 2 ^ 31 by omega)]))
      exact rfin eY hRf2
