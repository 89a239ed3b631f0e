theorem in_lo {k : Int32} {n : Nat} (hn : n < 2 ^ 30) (h : nI 1 ≤ k ∧ k ≤ nI n) : ∃ j, 1 ≤ j ∧ j ≤ n ∧ k = nI j := by
  obtain ⟨q1, q2⟩ := h
  rw [i32_le, nI_toInt (by omega)] at q1 q2
  refine ⟨k.toInt.toNat, by omega, by omega, i32_eq.mpr ?_⟩
  rw [nI_toInt (by omega)]; omega
def harmD (d : Dm) (m : Int32) : Nat → Int32
  | 0 => nI 0
  | k + 1 => harmD d m k + (if m < d (16 + k) + d 6 then nI 2 else nI 0) + (if d (16 + k) + d 7 < m then nI 5 else nI 0)
def bestM (d : Dm) : Nat → Nat
  | 0 => 0
  | k + 1 => if harmD d (nI (k + 1)) 12 < harmD d (nI (bestM d k)) 12 then k + 1 else bestM d k
theorem bestM_le {d : Dm} : ∀ k, bestM d k ≤ k
  | 0 => Nat.le_refl _
  | k + 1 => by
    unfold bestM
    split
    · exact Nat.le_refl _
    · exact Nat.le_succ_of_le (bestM_le k)
def putV (b v : Int32) : Int32 := if b = nI 8 then v.toInt8.toInt32 else if b = nI 16 then v.toInt16.toInt32 else v
def zerR (f : Nat → Int32) (a n : Nat) : Nat → Int32 := fun k => if a ≤ k ∧ k < a + n then nI 0 else f k
theorem zer_0 {f : Nat → Int32} {a : Nat} : zerR f a 0 = f := by funext k; unfold zerR; rw [if_neg (by omega)]
theorem zer_s {f : Nat → Int32} {a n : Nat} : upd (zerR f a n) (a + n) (nI 0) = zerR f a (n + 1) := by
  funext k
  unfold zerR
  by_cases e : k = a + n
  · subst e; rw [upd_at, if_pos (by omega)]
  · rw [upd_ne e]
    by_cases c : a ≤ k ∧ k < a + n
    · rw [if_pos c, if_pos (by omega)]
    · rw [if_neg c, if_neg (by omega)]
theorem nI_inj {a b : Nat} (ha : a < 2 ^ 31) (hb : b < 2 ^ 31) (e : nI a = nI b) : a = b := by
  have := i32_eq.mp e
  rw [nI_toInt ha, nI_toInt hb] at this; omega
theorem INV.t14 {s : Mm} {τ τk : Nat → List Int32} (H : INV s τ τk) : ∃ n, n ≤ 20 ∧ s 119 14 = nI n := H.1.1.2.2.1
theorem INV.t13 {s : Mm} {τ τk : Nat → List Int32} (H : INV s τ τk) : ∃ n, n ≤ 50 ∧ s 119 13 = nI n := H.1.1.2.1

noncomputable def Y_tell (s : Mm) (v : Int32) : Rs := @ite _ (s 119 14 = nI 20) (Classical.propDecidable _) (er s 4) ( (s 119 14 + nI 1, u2 (u2 s 119 (114 + (s 119 14).toNatClampNeg) v) 119 14 (s 119 14 + nI 1)))

noncomputable def Y_count (s : Mm) (k : Int32) : Rs := @ite _ (k = nI 0) (Classical.propDecidable _) (s 119 8, s) ( @ite _ (k = nI 1) (Classical.propDecidable _) (s 119 10, s) ( @ite _ (k = nI 2) (Classical.propDecidable _) (s 119 11, s) ( @ite _ (k = nI 3) (Classical.propDecidable _) (s 119 9, s) ( @ite _ (k = nI 4) (Classical.propDecidable _) (s 119 13, s) ( @ite _ (k = nI 5) (Classical.propDecidable _) (s 119 14, s) ( @ite _ (k = nI 6) (Classical.propDecidable _) (s 118 16, s) ( @ite _ (k = nI 7) (Classical.propDecidable _) (s 119 12, s) ( er s 1))))))))

noncomputable def Y_way (s : Mm) (k m c : Int32) : Rs := @ite _ (¬ (isWayP k m c)) (Classical.propDecidable _) (er s 1) ( @ite _ (nwD (s 119) = 8) (Classical.propDecidable _) (er s 4) ( (nI (nwD (s 119)), rw2 s 119 (addWD (s 119) k m c))))

noncomputable def Y_harm (s : Mm) (w : Int32) : Rs := @ite _ (ix w 1440) (Classical.propDecidable _) (harmD (s 119) w 12, s) ( er s 1)

noncomputable def Y_clock (s : Mm) : Rs := (nI (bestM (s 119) 1439), s)

noncomputable def Y_yard (s : Mm) (w p u v : Int32) : Rs := @ite _ (ix w 6 ∧ ix p 100 ∧ ix u 100 ∧ ix v 2) (Classical.propDecidable _) (s 119 (28 + 3 * w.toNatClampNeg), u2 (u2 (u2 s 119 (28 + 3 * w.toNatClampNeg) p) 119 (28 + 3 * w.toNatClampNeg + 1) u) 119 (28 + 3 * w.toNatClampNeg + 2) v) ( er s 1)

noncomputable def Y_trace (s : Mm) (w : Int32) : Rs := @ite _ (ix w (s 118 16).toNatClampNeg) (Classical.propDecidable _) (s 127 w.toNatClampNeg, s) ( er s 2)

noncomputable def Y_sheet (s : Mm) (w b n : Int32) : Rs := @ite _ (¬ (ix w 4 ∧ bitOK b)) (Classical.propDecidable _) (er s 1) ( @ite _ (¬ b = nI 0 ∧ n < nI 0) (Classical.propDecidable _) (er s 3) ( @ite _ (¬ b = nI 0 ∧ nI 40 < n) (Classical.propDecidable _) (er s 1) ( (nI 1, rw2 (u2 (u2 s 128 w.toNatClampNeg b) 129 w.toNatClampNeg (if b = nI 0 then nI 0 else n)) 130 (zerR (s 130) (40 * w.toNatClampNeg) 40)))))

noncomputable def Y_put (s : Mm) (w i v : Int32) : Rs := @ite _ (¬ (ix w 4)) (Classical.propDecidable _) (er s 1) ( @ite _ (s 128 w.toNatClampNeg = nI 0) (Classical.propDecidable _) (er s 2) ( @ite _ (ix i (s 129 w.toNatClampNeg).toNatClampNeg) (Classical.propDecidable _) (nI 1, u2 s 130 (40 * w.toNatClampNeg + i.toNatClampNeg) (putV (s 128 w.toNatClampNeg) v)) ( er s 1)))

abbrev P_X10_set (h s : Mm) (τ τk : Nat → List Int32) (w v : Int32) : Option Value → Mm → Prop := fun r h2 => r = some (.int (Y_set s w v).1) ∧ RR h2 (Y_set s w v).2
theorem c_X10_set {l : Launch} (h s : Mm) (τ τk : Nat → List Int32) (w v : Int32) (hR : RR h s) (hI : INV s τ τk) : Con l yX10_set cX10_set 4 (some .int) 2 46 132 GL h [.ref 118, .int w, .int v] (P_X10_set h s τ τk w v) := by
  refine Con.ofV (own := "FoxRoundsModel") (nm := "set") rfl rfl (by decide) (Nat.le_of_ble_eq_true rfl) ?_
  intro κ ρ hkl K
  subst hkl
  show V κ (QM κ (132, ρ, GL, 0, 0) (P_X10_set h s τ τk w v)) 4 (132, ρ, GL, 0, 0) h 0 [(0, .ref 118), (1, .int w), (2, .int v)] []
  have hd := hI.d
  have hn8 := hd.nw8
  have ht5 := hd.nt5
  refine v_iload_n K dX10_set_0 rfl ?_
  refine v_iload_n K dX10_set_1 rfl ?_
  refine v_callS (As := [.int w, .int v]) K (c_X10_mayBe h w v) lX10_155 rfl ⟨by decide, by decide⟩ (Nat.le_of_ble_eq_true rfl) dX10_set_2 (fun r1 h1 hp1 => ?_) rfl
  obtain ⟨rfl, rfl⟩ := hp1
  refine v_some ?_
  refine v_ifB_ne (tgt := 14) K dX10_set_5 rfl (fun c1 => ?_) (fun c1 => ?_)
  · skip
    have c0 := c1
    obtain ⟨j, hj, rfl, hjb⟩ := c1
    refine v_aload_n K dX10_set_14 rfl ?_
    refine v_getr (q := 119) K fX10_7 sh_118 pl_118 gl_118_0 dX10_set_15 ?_
    refine v_iload_n K dX10_set_18 rfl ?_
    refine v_iald (x := s 119 j) K sh_119 pl_119 (by omega) (hR.at RA_119) dX10_set_19 ?_
    refine v_istore_n (lv2 := [(3, .int (s 119 j)), (0, .ref 118), (1, .int (nI j)), (2, .int v)]) K dX10_set_20 (by decide) rfl ?_
    refine v_aload_n K dX10_set_21 rfl ?_
    refine v_getr (q := 119) K fX10_7 sh_118 pl_118 gl_118_0 dX10_set_22 ?_
    refine v_iload_n K dX10_set_25 rfl ?_
    refine v_iload_n K dX10_set_26 rfl ?_
    refine v_iast K sh_119 pl_119 (by omega) dX10_set_27 ?_
    have hRr2 : RR (u2 h 119 j v) (u2 s 119 j v) := hR.u RA_119
    refine v_iload_n K dX10_set_28 rfl ?_
    refine v_iret K dX10_set_29 ?_
    have eY : Y_set s (nI j) v = (s 119 j, (u2 s 119 j v)) := by
      unfold Y_set
      refine (@if_pos _ (Classical.propDecidable _) c0 _ _ _).trans ?_
      first | rfl | ((try rw [cl_ix (show j < 2 ^ 31 by omega)]))
    exact rfin eY hRr2
  · skip
    refine v_aload_n K dX10_set_8 rfl ?_
    refine v_iconstN K 1 rfl dX10_set_9 ?_
    refine v_callV (As := [.int (nI 1)]) K (c_X10_finds h 1 (by omega)) lX10_113 ck_X10 rfl sh_118 pl_118 rfl ⟨by decide, by decide⟩ (Nat.le_of_ble_eq_true rfl) dX10_set_10 (fun r3 h2 hp2 => ?_) rfl
    obtain ⟨rfl, rfl⟩ := hp2
    refine v_some ?_
    have hRf1 : RR (u2 h 122 1 (h 122 1 + nI 1)) (u2 s 122 1 (s 122 1 + nI 1)) := by rw [show (h 122 1) = s 122 1 from hR.at RA_122]; exact hR.u RA_122
    refine v_iret K dX10_set_13 ?_
    have eY : Y_set s w v = ((-1000000000) - nI 1, (u2 s 122 1 (s 122 1 + nI 1))) := by
      unfold Y_set
      refine (@if_neg _ (Classical.propDecidable _) (fun q => absurd q (by assumption)) _ _ _).trans ?_
      first | rfl | (rfl)
    exact rfin eY hRf1

abbrev P_X10_ofWay (h s : Mm) (τ τk : Nat → List Int32) (w k : Int32) : Option Value → Mm → Prop := fun r h2 => r = some (.int (Y_ofWay s w k).1) ∧ RR h2 (Y_ofWay s w k).2
theorem c_X10_ofWay {l : Launch} (h s : Mm) (τ τk : Nat → List Int32) (w k : Int32) (hR : RR h s) (hI : INV s τ τk) : Con l yX10_ofWay cX10_ofWay 3 (some .int) 2 49 132 GL h [.ref 118, .int w, .int k] (P_X10_ofWay h s τ τk w k) := by
  refine Con.ofV (own := "FoxRoundsModel") (nm := "ofWay") rfl rfl (by decide) (Nat.le_of_ble_eq_true rfl) ?_
  intro κ ρ hkl K
  subst hkl
  show V κ (QM κ (132, ρ, GL, 0, 0) (P_X10_ofWay h s τ τk w k)) 3 (132, ρ, GL, 0, 0) h 0 [(0, .ref 118), (1, .int w), (2, .int k)] []
  have hd := hI.d
  have hn8 := hd.nw8
  have ht5 := hd.nt5
  refine v_aload_n K dX10_ofWay_0 rfl ?_
  refine v_iload_n K dX10_ofWay_1 rfl ?_
  refine v_callV (As := [.int w]) K (c_X10_isWay h w (nwD (s 119)) ((hR.at RA_119).trans hd.nw) (by omega)) lX10_174 ck_X10 rfl sh_118 pl_118 rfl ⟨by decide, by decide⟩ (Nat.le_of_ble_eq_true rfl) dX10_ofWay_2 (fun r1 h1 hp1 => ?_) rfl
  obtain ⟨rfl, rfl⟩ := hp1
  refine v_some ?_
  refine v_ifB_eq (tgt := 20) K dX10_ofWay_5 rfl (fun c1 => ?_) (fun c1 => ?_)
  · skip
    refine v_aload_n K dX10_ofWay_20 rfl ?_
    refine v_iconstN K 1 rfl dX10_ofWay_21 ?_
    refine v_callV (As := [.int (nI 1)]) K (c_X10_finds h 1 (by omega)) lX10_113 ck_X10 rfl sh_118 pl_118 rfl ⟨by decide, by decide⟩ (Nat.le_of_ble_eq_true rfl) dX10_ofWay_22 (fun r2 h2 hp2 => ?_) rfl
    obtain ⟨rfl, rfl⟩ := hp2
    refine v_some ?_
    have hRf1 : RR (u2 h 122 1 (h 122 1 + nI 1)) (u2 s 122 1 (s 122 1 + nI 1)) := by rw [show (h 122 1) = s 122 1 from hR.at RA_122]; exact hR.u RA_122
    refine v_iret K dX10_ofWay_25 ?_
    have eY : Y_ofWay s w k = ((-1000000000) - nI 1, (u2 s 122 1 (s 122 1 + nI 1))) := by
      unfold Y_ofWay
      refine (@if_neg _ (Classical.propDecidable _) (fun q => by first | exact absurd q.1 (by assumption) | exact absurd q.2 (by assumption)) _ _ _).trans ?_
      first | rfl | (rfl)
    exact rfin eY hRf1
  · skip
    obtain ⟨j1, Hj1, rfl⟩ := c1
    refine v_iload_n K dX10_ofWay_8 rfl ?_
    refine v_i2l K dX10_ofWay_9 rfl ?_
    refine v_lconst (v := (nI 0).toInt64) K dX10_ofWay_10 (by decide) ?_
    refine v_ldc2 K kX10_159 dX10_ofWay_11 ?_
    refine v_topL (y := (nI 6).toInt64) (by decide) ?_
    refine v_callS (As := [.long k.toInt64, .long (nI 0).toInt64, .long (nI 6).toInt64]) K (c_X10_in h k (nI 0) (nI 6)) lX10_51 rfl ⟨by decide, by decide⟩ (Nat.le_of_ble_eq_true rfl) dX10_ofWay_14 (fun r3 h3 hp3 => ?_) rfl
    obtain ⟨rfl, rfl⟩ := hp3
    refine v_some ?_
    rw [show (nI 0 ≤ k ∧ k ≤ nI 6) = ix k 7 from in_ix (by decide)]
    refine v_ifB_ne (tgt := 26) K dX10_ofWay_17 rfl (fun c2 => ?_) (fun c2 => ?_)
    · skip
      obtain ⟨j2, Hj2, rfl⟩ := c2
      refine v_iload_n K dX10_ofWay_26 rfl ?_
      refine v_bipushN K 6 rfl dX10_ofWay_27 ?_
      refine v_icmpN_ne (tgt := 43) K (by omega) (by omega) dX10_ofWay_29 rfl (fun c3 => ?_) (fun c3 => ?_)
      · skip
        refine v_aload_n K dX10_ofWay_43 rfl ?_
        refine v_getr (q := 119) K fX10_7 sh_118 pl_118 gl_118_0 dX10_ofWay_44 ?_
        refine v_iload_n K dX10_ofWay_47 rfl ?_
        refine v_iload_n K dX10_ofWay_48 rfl ?_
        refine v_callS (As := [.ref 119, .int (nI j1), .int (nI j2)]) K (c_X10_of h 119 j1 j2 mP_119 (by omega)) lX10_170 rfl ⟨by decide, by decide⟩ (Nat.le_of_ble_eq_true rfl) dX10_ofWay_49 (fun r4 h4 hp4 => ?_) rfl
        obtain ⟨rfl, rfl⟩ := hp4
        refine v_some ?_
        rw [show h 119 (46 + 6 * j1 + j2) = s 119 (46 + 6 * j1 + j2) from (hR.at RA_119)]
        refine v_iret K dX10_ofWay_52 ?_
        have eY : Y_ofWay s (nI j1) (nI j2) = (s 119 (46 + 6 * j1 + j2), s) := by
          unfold Y_ofWay
          refine (@if_pos _ (Classical.propDecidable _) (by refine ⟨?_, ?_⟩ <;> (first | assumption | exact ⟨_, by assumption, rfl⟩ | exact Or.inl rfl | exact Or.inr (Or.inl rfl) | exact Or.inr (Or.inr rfl) | omega)) _ _ _).trans ?_
          (rw [cl_ix (show j1 < 2 ^ 31 by omega), cl_ix (show j2 < 2 ^ 31 by omega)]; unfold partD; first | rw [if_pos (by assumption)] | rw [if_neg (by assumption)])
        exact rfin eY hR
      · skip
        refine v_aload_n K dX10_ofWay_32 rfl ?_
        refine v_getr (q := 119) K fX10_7 sh_118 pl_118 gl_118_0 dX10_ofWay_33 ?_
        refine v_iload_n K dX10_ofWay_36 rfl ?_
        refine v_callS (As := [.ref 119, .int (nI j1)]) K (c_X10_easeOf h 119 j1 mP_119 (by omega) (by rw [hR.1 119 RA_119]; exact hd.kd (by omega))) lX10_177 rfl ⟨by decide, by decide⟩ (Nat.le_of_ble_eq_true rfl) dX10_ofWay_37 (fun r5 h5 hp5 => ?_) rfl
        obtain ⟨rfl, rfl⟩ := hp5
        refine v_some ?_
        rw [hR.1 119 RA_119]
        refine v_goto (tgt := 52) K dX10_ofWay_40 rfl ?_
        refine v_iret K dX10_ofWay_52 ?_
        have eY : Y_ofWay s (nI j1) (nI j2) = (easeD (s 119) j1, s) := by
          unfold Y_ofWay
          refine (@if_pos _ (Classical.propDecidable _) (by refine ⟨?_, ?_⟩ <;> (first | assumption | exact ⟨_, by assumption, rfl⟩ | exact Or.inl rfl | exact Or.inr (Or.inl rfl) | exact Or.inr (Or.inr rfl) | omega)) _ _ _).trans ?_
          (rw [cl_ix (show j1 < 2 ^ 31 by omega), cl_ix (show j2 < 2 ^ 31 by omega)]; unfold partD; first | rw [if_pos (by assumption)] | rw [if_neg (by assumption)])
        exact rfin eY hR
    · skip
      refine v_aload_n K dX10_ofWay_20 rfl ?_
      refine v_iconstN K 1 rfl dX10_ofWay_21 ?_
      refine v_callV (As := [.int (nI 1)]) K (c_X10_finds h 1 (by omega)) lX10_113 ck_X10 rfl sh_118 pl_118 rfl ⟨by decide, by decide⟩ (Nat.le_of_ble_eq_true rfl) dX10_ofWay_22 (fun r6 h6 hp6 => ?_) rfl
      obtain ⟨rfl, rfl⟩ := hp6
      refine v_some ?_
      have hRf2 : RR (u2 h 122 1 (h 122 1 + nI 1)) (u2 s 122 1 (s 122 1 + nI 1)) := by rw [show (h 122 1) = s 122 1 from hR.at RA_122]; exact hR.u RA_122
      refine v_iret K dX10_ofWay_25 ?_
      have eY : Y_ofWay s (nI j1) k = ((-1000000000) - nI 1, (u2 s 122 1 (s 122 1 + nI 1))) := by
        unfold Y_ofWay
        refine (@if_neg _ (Classical.propDecidable _) (fun q => by first | exact absurd q.1 (by assumption) | exact absurd q.2 (by assumption)) _ _ _).trans ?_
        first | rfl | ((try rw [cl_ix (show j1 < 2 ^ 31 by omega)]))
      exact rfin eY hRf2

abbrev P_X10_wear (h s : Mm) (τ τk : Nat → List Int32) (w k v : Int32) : Option Value → Mm → Prop := fun r h2 => r = some (.int (Y_wear s w k v).1) ∧ RR h2 (Y_wear s w k v).2
theorem c_X10_wear {l : Launch} (h s : Mm) (τ τk : Nat → List Int32) (w k v : Int32) (hR : RR h s) (hI : INV s τ τk) : Con l yX10_wear cX10_wear 5 (some .int) 2 46 132 GL h [.ref 118, .int w, .int k, .int v] (P_X10_wear h s τ τk w k v) := by
  refine Con.ofV (own := "FoxRoundsModel") (nm := "wear") rfl rfl (by decide) (Nat.le_of_ble_eq_true rfl) ?_
  intro κ ρ hkl K
  subst hkl
  show V κ (QM κ (132, ρ, GL, 0, 0) (P_X10_wear h s τ τk w k v)) 5 (132, ρ, GL, 0, 0) h 0 [(0, .ref 118), (1, .int w), (2, .int k), (3, .int v)] []
  have hd := hI.d
  have hn8 := hd.nw8
  have ht5 := hd.nt5
  refine v_aload_n K dX10_wear_0 rfl ?_
  refine v_iload_n K dX10_wear_1 rfl ?_
  refine v_callV (As := [.int w]) K (c_X10_isWay h w (nwD (s 119)) ((hR.at RA_119).trans hd.nw) (by omega)) lX10_174 ck_X10 rfl sh_118 pl_118 rfl ⟨by decide, by decide⟩ (Nat.le_of_ble_eq_true rfl) dX10_wear_2 (fun r1 h1 hp1 => ?_) rfl
  obtain ⟨rfl, rfl⟩ := hp1
  refine v_some ?_
  refine v_ifB_eq (tgt := 46) K dX10_wear_5 rfl (fun c1 => ?_) (fun c1 => ?_)
  · skip
    refine v_aload_n K dX10_wear_46 rfl ?_
    refine v_iconstN K 1 rfl dX10_wear_47 ?_
    refine v_callV (As := [.int (nI 1)]) K (c_X10_finds h 1 (by omega)) lX10_113 ck_X10 rfl sh_118 pl_118 rfl ⟨by decide, by decide⟩ (Nat.le_of_ble_eq_true rfl) dX10_wear_48 (fun r2 h2 hp2 => ?_) rfl
    obtain ⟨rfl, rfl⟩ := hp2
    refine v_some ?_
    have hRf1 : RR (u2 h 122 1 (h 122 1 + nI 1)) (u2 s 122 1 (s 122 1 + nI 1)) := by rw [show (h 122 1) = s 122 1 from hR.at RA_122]; exact hR.u RA_122
    refine v_iret K dX10_wear_51 ?_
    have eY : Y_wear s w k v = ((-1000000000) - nI 1, (u2 s 122 1 (s 122 1 + nI 1))) := by
      unfold Y_wear
      refine (@if_neg _ (Classical.propDecidable _) (fun q => by first | exact absurd q.1 (by assumption) | exact absurd q.2.1 (by assumption) | exact absurd q.2.2 (by assumption)) _ _ _).trans ?_
      first | rfl | (rfl)
    exact rfin eY hRf1
  · skip
    obtain ⟨j1, Hj1, rfl⟩ := c1
    refine v_iload_n K dX10_wear_8 rfl ?_
    refine v_iconstN K 1 rfl dX10_wear_9 ?_
    refine v_icmp_eq (tgt := 23) K dX10_wear_10 rfl (fun c2 => ?_) (fun c2 => ?_)
    · skip
      subst c2
      refine v_iload_n K dX10_wear_23 rfl ?_
      refine v_i2l K dX10_wear_24 rfl ?_
      refine v_lconst (v := (nI 0).toInt64) K dX10_wear_25 (by decide) ?_
      refine v_iload_n K dX10_wear_26 rfl ?_
      refine v_iconstN K 5 rfl dX10_wear_27 ?_
      refine v_icmpN_ne (tgt := 37) K (by omega) (by omega) dX10_wear_28 rfl (fun c3 => ?_) (fun c3 => ?_)
      · skip
        refine v_ldc2 K kX10_141 dX10_wear_37 ?_
        refine v_topL (y := (nI 99).toInt64) (by decide) ?_
        refine v_callS (As := [.long v.toInt64, .long (nI 0).toInt64, .long (nI 99).toInt64]) K (c_X10_in h v (nI 0) (nI 99)) lX10_51 rfl ⟨by decide, by decide⟩ (Nat.le_of_ble_eq_true rfl) dX10_wear_40 (fun r3 h3 hp3 => ?_) rfl
        obtain ⟨rfl, rfl⟩ := hp3
        refine v_some ?_
        rw [show (nI 0 ≤ v ∧ v ≤ nI 99) = ix v 100 from in_ix (by decide)]
        refine v_ifB_ne (tgt := 52) K dX10_wear_43 rfl (fun c4 => ?_) (fun c4 => ?_)
        · skip
          obtain ⟨j2, Hj2, rfl⟩ := c4
          refine v_aload_n K dX10_wear_52 rfl ?_
          refine v_getr (q := 119) K fX10_7 sh_118 pl_118 gl_118_0 dX10_wear_53 ?_
          refine v_iload_n K dX10_wear_56 rfl ?_
          refine v_iload_n K dX10_wear_57 rfl ?_
          refine v_callS (As := [.ref 119, .int (nI j1), .int (nI 1)]) K (c_X10_of h 119 j1 1 mP_119 (by omega)) lX10_170 rfl ⟨by decide, by decide⟩ (Nat.le_of_ble_eq_true rfl) dX10_wear_58 (fun r4 h4 hp4 => ?_) rfl
          obtain ⟨rfl, rfl⟩ := hp4
          refine v_some ?_
          rw [show h 119 (46 + 6 * j1 + 1) = s 119 (46 + 6 * j1 + 1) from (hR.at RA_119)]
          refine v_istore (lv2 := [(4, .int (s 119 (46 + 6 * j1 + 1))), (0, .ref 118), (1, .int (nI j1)), (2, .int (nI 1)), (3, .int (nI j2))]) K dX10_wear_61 (by decide) rfl ?_
          refine v_aload_n K dX10_wear_63 rfl ?_
          refine v_getr (q := 119) K fX10_7 sh_118 pl_118 gl_118_0 dX10_wear_64 ?_
          refine v_bipushN K 46 rfl dX10_wear_67 ?_
          refine v_bipushN K 6 rfl dX10_wear_69 ?_
          refine v_iload_n K dX10_wear_71 rfl ?_
          refine v_imulN K dX10_wear_72 ?_
          refine v_iaddN K dX10_wear_73 ?_
          refine v_iload_n K dX10_wear_74 rfl ?_
          refine v_iaddN K dX10_wear_75 ?_
          refine v_iload_n K dX10_wear_76 rfl ?_
          refine v_iast K sh_119 pl_119 (by omega) dX10_wear_77 ?_
          have hRr5 : RR (u2 h 119 (46 + (6 * j1) + 1) (nI j2)) (u2 s 119 (46 + (6 * j1) + 1) (nI j2)) := hR.u RA_119
          refine v_iload K dX10_wear_78 rfl ?_
          refine v_iret K dX10_wear_80 ?_
          have eY : Y_wear s (nI j1) (nI 1) (nI j2) = (s 119 (46 + 6 * j1 + 1), (u2 s 119 (46 + (6 * j1) + 1) (nI j2))) := by
            unfold Y_wear
            refine (@if_pos _ (Classical.propDecidable _) ⟨⟨_, by assumption, rfl⟩, (by first | assumption | exact ⟨_, by assumption, rfl⟩ | exact Or.inl rfl | exact Or.inr (Or.inl rfl) | exact Or.inr (Or.inr rfl) | omega), (by rw [if_neg (by decide)]; exact ⟨_, by assumption, rfl⟩)⟩ _ _ _).trans ?_
            (rw [cl_ix (show j1 < 2 ^ 31 by omega)]; rfl)
          exact rfin eY hRr5
        · skip
          refine v_aload_n K dX10_wear_46 rfl ?_
          refine v_iconstN K 1 rfl dX10_wear_47 ?_
          refine v_callV (As := [.int (nI 1)]) K (c_X10_finds h 1 (by omega)) lX10_113 ck_X10 rfl sh_118 pl_118 rfl ⟨by decide, by decide⟩ (Nat.le_of_ble_eq_true rfl) dX10_wear_48 (fun r6 h5 hp5 => ?_) rfl
          obtain ⟨rfl, rfl⟩ := hp5
          refine v_some ?_
          have hRf2 : RR (u2 h 122 1 (h 122 1 + nI 1)) (u2 s 122 1 (s 122 1 + nI 1)) := by rw [show (h 122 1) = s 122 1 from hR.at RA_122]; exact hR.u RA_122
          refine v_iret K dX10_wear_51 ?_
          have eY : Y_wear s (nI j1) (nI 1) v = ((-1000000000) - nI 1, (u2 s 122 1 (s 122 1 + nI 1))) := by
            unfold Y_wear
            refine (@if_neg _ (Classical.propDecidable _) (fun q => absurd (by have q3 := q.2.2; rw [if_neg (by decide)] at q3; exact q3) (by assumption)) _ _ _).trans ?_
            first | rfl | ((try rw [cl_ix (show j1 < 2 ^ 31 by omega)]) ; (try rw [cl_ix (show 1 < 2 ^ 31 by omega)]))
          exact rfin eY hRf2
      · exact absurd c3 (by decide)
    · skip
      refine v_iload_n K dX10_wear_13 rfl ?_
      refine v_iconstN K 4 rfl dX10_wear_14 ?_
      refine v_icmp_eq (tgt := 23) K dX10_wear_15 rfl (fun c5 => ?_) (fun c5 => ?_)
      · skip
        subst c5
        refine v_iload_n K dX10_wear_23 rfl ?_
        refine v_i2l K dX10_wear_24 rfl ?_
        refine v_lconst (v := (nI 0).toInt64) K dX10_wear_25 (by decide) ?_
        refine v_iload_n K dX10_wear_26 rfl ?_
        refine v_iconstN K 5 rfl dX10_wear_27 ?_
        refine v_icmpN_ne (tgt := 37) K (by omega) (by omega) dX10_wear_28 rfl (fun c6 => ?_) (fun c6 => ?_)
        · skip
          refine v_ldc2 K kX10_141 dX10_wear_37 ?_
          refine v_topL (y := (nI 99).toInt64) (by decide) ?_
          refine v_callS (As := [.long v.toInt64, .long (nI 0).toInt64, .long (nI 99).toInt64]) K (c_X10_in h v (nI 0) (nI 99)) lX10_51 rfl ⟨by decide, by decide⟩ (Nat.le_of_ble_eq_true rfl) dX10_wear_40 (fun r7 h6 hp6 => ?_) rfl
          obtain ⟨rfl, rfl⟩ := hp6
          refine v_some ?_
          rw [show (nI 0 ≤ v ∧ v ≤ nI 99) = ix v 100 from in_ix (by decide)]
          refine v_ifB_ne (tgt := 52) K dX10_wear_43 rfl (fun c7 => ?_) (fun c7 => ?_)
          · skip
            obtain ⟨j3, Hj3, rfl⟩ := c7
            refine v_aload_n K dX10_wear_52 rfl ?_
            refine v_getr (q := 119) K fX10_7 sh_118 pl_118 gl_118_0 dX10_wear_53 ?_
            refine v_iload_n K dX10_wear_56 rfl ?_
            refine v_iload_n K dX10_wear_57 rfl ?_
            refine v_callS (As := [.ref 119, .int (nI j1), .int (nI 4)]) K (c_X10_of h 119 j1 4 mP_119 (by omega)) lX10_170 rfl ⟨by decide, by decide⟩ (Nat.le_of_ble_eq_true rfl) dX10_wear_58 (fun r8 h7 hp7 => ?_) rfl
            obtain ⟨rfl, rfl⟩ := hp7
            refine v_some ?_
            rw [show h 119 (46 + 6 * j1 + 4) = s 119 (46 + 6 * j1 + 4) from (hR.at RA_119)]
            refine v_istore (lv2 := [(4, .int (s 119 (46 + 6 * j1 + 4))), (0, .ref 118), (1, .int (nI j1)), (2, .int (nI 4)), (3, .int (nI j3))]) K dX10_wear_61 (by decide) rfl ?_
            refine v_aload_n K dX10_wear_63 rfl ?_
            refine v_getr (q := 119) K fX10_7 sh_118 pl_118 gl_118_0 dX10_wear_64 ?_
            refine v_bipushN K 46 rfl dX10_wear_67 ?_
            refine v_bipushN K 6 rfl dX10_wear_69 ?_
            refine v_iload_n K dX10_wear_71 rfl ?_
            refine v_imulN K dX10_wear_72 ?_
            refine v_iaddN K dX10_wear_73 ?_
            refine v_iload_n K dX10_wear_74 rfl ?_
            refine v_iaddN K dX10_wear_75 ?_
            refine v_iload_n K dX10_wear_76 rfl ?_
            refine v_iast K sh_119 pl_119 (by omega) dX10_wear_77 ?_
            have hRr9 : RR (u2 h 119 (46 + (6 * j1) + 4) (nI j3)) (u2 s 119 (46 + (6 * j1) + 4) (nI j3)) := hR.u RA_119
            refine v_iload K dX10_wear_78 rfl ?_
            refine v_iret K dX10_wear_80 ?_
            have eY : Y_wear s (nI j1) (nI 4) (nI j3) = (s 119 (46 + 6 * j1 + 4), (u2 s 119 (46 + (6 * j1) + 4) (nI j3))) := by
              unfold Y_wear
              refine (@if_pos _ (Classical.propDecidable _) ⟨⟨_, by assumption, rfl⟩, (by first | assumption | exact ⟨_, by assumption, rfl⟩ | exact Or.inl rfl | exact Or.inr (Or.inl rfl) | exact Or.inr (Or.inr rfl) | omega), (by rw [if_neg (by decide)]; exact ⟨_, by assumption, rfl⟩)⟩ _ _ _).trans ?_
              (rw [cl_ix (show j1 < 2 ^ 31 by omega)]; rfl)
            exact rfin eY hRr9
          · skip
            refine v_aload_n K dX10_wear_46 rfl ?_
            refine v_iconstN K 1 rfl dX10_wear_47 ?_
            refine v_callV (As := [.int (nI 1)]) K (c_X10_finds h 1 (by omega)) lX10_113 ck_X10 rfl sh_118 pl_118 rfl ⟨by decide, by decide⟩ (Nat.le_of_ble_eq_true rfl) dX10_wear_48 (fun r10 h8 hp8 => ?_) rfl
            obtain ⟨rfl, rfl⟩ := hp8
            refine v_some ?_
            have hRf3 : RR (u2 h 122 1 (h 122 1 + nI 1)) (u2 s 122 1 (s 122 1 + nI 1)) := by rw [show (h 122 1) = s 122 1 from hR.at RA_122]; exact hR.u RA_122
            refine v_iret K dX10_wear_51 ?_
            have eY : Y_wear s (nI j1) (nI 4) v = ((-1000000000) - nI 1, (u2 s 122 1 (s 122 1 + nI 1))) := by
              unfold Y_wear
              refine (@if_neg _ (Classical.propDecidable _) (fun q => absurd (by have q3 := q.2.2; rw [if_neg (by decide)] at q3; exact q3) (by assumption)) _ _ _).trans ?_
              first | rfl | ((try rw [cl_ix (show j1 < 2 ^ 31 by omega)]) ; (try rw [cl_ix (show 4 < 2 ^ 31 by omega)]))
            exact rfin eY hRf3
        · exact absurd c6 (by decide)
      · skip
        refine v_iload_n K dX10_wear_18 rfl ?_
        refine v_iconstN K 5 rfl dX10_wear_19 ?_
        refine v_icmp_ne (tgt := 46) K dX10_wear_20 rfl (fun c8 => ?_) (fun c8 => ?_)
        · skip
          refine v_aload_n K dX10_wear_46 rfl ?_
          refine v_iconstN K 1 rfl dX10_wear_47 ?_
          refine v_callV (As := [.int (nI 1)]) K (c_X10_finds h 1 (by omega)) lX10_113 ck_X10 rfl sh_118 pl_118 rfl ⟨by decide, by decide⟩ (Nat.le_of_ble_eq_true rfl) dX10_wear_48 (fun r11 h9 hp9 => ?_) rfl
          obtain ⟨rfl, rfl⟩ := hp9
          refine v_some ?_
          have hRf4 : RR (u2 h 122 1 (h 122 1 + nI 1)) (u2 s 122 1 (s 122 1 + nI 1)) := by rw [show (h 122 1) = s 122 1 from hR.at RA_122]; exact hR.u RA_122
          refine v_iret K dX10_wear_51 ?_
          have eY : Y_wear s (nI j1) k v = ((-1000000000) - nI 1, (u2 s 122 1 (s 122 1 + nI 1))) := by
            unfold Y_wear
            refine (@if_neg _ (Classical.propDecidable _) (fun q => by rcases q.2.1 with x | x | x <;> exact absurd x (by assumption)) _ _ _).trans ?_
            first | rfl | ((try rw [cl_ix (show j1 < 2 ^ 31 by omega)]))
          exact rfin eY hRf4
        · skip
          subst c8
          refine v_iload_n K dX10_wear_23 rfl ?_
          refine v_i2l K dX10_wear_24 rfl ?_
          refine v_lconst (v := (nI 0).toInt64) K dX10_wear_25 (by decide) ?_
          refine v_iload_n K dX10_wear_26 rfl ?_
          refine v_iconstN K 5 rfl dX10_wear_27 ?_
          refine v_icmpN_ne (tgt := 37) K (by omega) (by omega) dX10_wear_28 rfl (fun c9 => ?_) (fun c9 => ?_)
          · exact absurd c9 (by decide)
          · skip
            refine v_ldc2 K kX10_181 dX10_wear_31 ?_
            refine v_topL (y := (nI 9).toInt64) (by decide) ?_
            refine v_goto (tgt := 40) K dX10_wear_34 rfl ?_
            refine v_callS (As := [.long v.toInt64, .long (nI 0).toInt64, .long (nI 9).toInt64]) K (c_X10_in h v (nI 0) (nI 9)) lX10_51 rfl ⟨by decide, by decide⟩ (Nat.le_of_ble_eq_true rfl) dX10_wear_40 (fun r12 h10 hp10 => ?_) rfl
            obtain ⟨rfl, rfl⟩ := hp10
            refine v_some ?_
            rw [show (nI 0 ≤ v ∧ v ≤ nI 9) = ix v 10 from in_ix (by decide)]
            refine v_ifB_ne (tgt := 52) K dX10_wear_43 rfl (fun c10 => ?_) (fun c10 => ?_)
            · skip
              obtain ⟨j4, Hj4, rfl⟩ := c10
              refine v_aload_n K dX10_wear_52 rfl ?_
              refine v_getr (q := 119) K fX10_7 sh_118 pl_118 gl_118_0 dX10_wear_53 ?_
              refine v_iload_n K dX10_wear_56 rfl ?_
              refine v_iload_n K dX10_wear_57 rfl ?_
              refine v_callS (As := [.ref 119, .int (nI j1), .int (nI 5)]) K (c_X10_of h 119 j1 5 mP_119 (by omega)) lX10_170 rfl ⟨by decide, by decide⟩ (Nat.le_of_ble_eq_true rfl) dX10_wear_58 (fun r13 h11 hp11 => ?_) rfl
              obtain ⟨rfl, rfl⟩ := hp11
              refine v_some ?_
              rw [show h 119 (46 + 6 * j1 + 5) = s 119 (46 + 6 * j1 + 5) from (hR.at RA_119)]
              refine v_istore (lv2 := [(4, .int (s 119 (46 + 6 * j1 + 5))), (0, .ref 118), (1, .int (nI j1)), (2, .int (nI 5)), (3, .int (nI j4))]) K dX10_wear_61 (by decide) rfl ?_
              refine v_aload_n K dX10_wear_63 rfl ?_
              refine v_getr (q := 119) K fX10_7 sh_118 pl_118 gl_118_0 dX10_wear_64 ?_
              refine v_bipushN K 46 rfl dX10_wear_67 ?_
              refine v_bipushN K 6 rfl dX10_wear_69 ?_
              refine v_iload_n K dX10_wear_71 rfl ?_
              refine v_imulN K dX10_wear_72 ?_
              refine v_iaddN K dX10_wear_73 ?_
              refine v_iload_n K dX10_wear_74 rfl ?_
              refine v_iaddN K dX10_wear_75 ?_
              refine v_iload_n K dX10_wear_76 rfl ?_
              refine v_iast K sh_119 pl_119 (by omega) dX10_wear_77 ?_
              have hRr14 : RR (u2 h 119 (46 + (6 * j1) + 5) (nI j4)) (u2 s 119 (46 + (6 * j1) + 5) (nI j4)) := hR.u RA_119
              refine v_iload K dX10_wear_78 rfl ?_
              refine v_iret K dX10_wear_80 ?_
              have eY : Y_wear s (nI j1) (nI 5) (nI j4) = (s 119 (46 + 6 * j1 + 5), (u2 s 119 (46 + (6 * j1) + 5) (nI j4))) := by
                unfold Y_wear
                refine (@if_pos _ (Classical.propDecidable _) ⟨⟨_, by assumption, rfl⟩, (by first | assumption | exact ⟨_, by assumption, rfl⟩ | exact Or.inl rfl | exact Or.inr (Or.inl rfl) | exact Or.inr (Or.inr rfl) | omega), (by rw [if_pos rfl]; exact ⟨_, by assumption, rfl⟩)⟩ _ _ _).trans ?_
                (rw [cl_ix (show j1 < 2 ^ 31 by omega)]; rfl)
              exact rfin eY hRr14
            · skip
              refine v_aload_n K dX10_wear_46 rfl ?_
              refine v_iconstN K 1 rfl dX10_wear_47 ?_
              refine v_callV (As := [.int (nI 1)]) K (c_X10_finds h 1 (by omega)) lX10_113 ck_X10 rfl sh_118 pl_118 rfl ⟨by decide, by decide⟩ (Nat.le_of_ble_eq_true rfl) dX10_wear_48 (fun r15 h12 hp12 => ?_) rfl
              obtain ⟨rfl, rfl⟩ := hp12
              refine v_some ?_
              have hRf5 : RR (u2 h 122 1 (h 122 1 + nI 1)) (u2 s 122 1 (s 122 1 + nI 1)) := by rw [show (h 122 1) = s 122 1 from hR.at RA_122]; exact hR.u RA_122
              refine v_iret K dX10_wear_51 ?_
              have eY : Y_wear s (nI j1) (nI 5) v = ((-1000000000) - nI 1, (u2 s 122 1 (s 122 1 + nI 1))) := by
                unfold Y_wear
                refine (@if_neg _ (Classical.propDecidable _) (fun q => absurd (by have q3 := q.2.2; rw [if_pos rfl] at q3; exact q3) (by assumption)) _ _ _).trans ?_
                first | rfl | ((try rw [cl_ix (show j1 < 2 ^ 31 by omega)]) ; (try rw [cl_ix (show 5 < 2 ^ 31 by omega)]))
              exact rfin eY hRf5

abbrev P_X10_as (h s : Mm) (τ τk : Nat → List Int32) (w k : Int32) : Option Value → Mm → Prop := fun r h2 => r = some (.int (Y_as s w k).1) ∧ RR h2 (Y_as s w k).2
theorem c_X10_as {l : Launch} (h s : Mm) (τ τk : Nat → List Int32) (w k : Int32) (hR : RR h s) (hI : INV s τ τk) : Con l yX10_as cX10_as 3 (some .int) 2 46 132 GL h [.ref 118, .int w, .int k] (P_X10_as h s τ τk w k) := by
  refine Con.ofV (own := "FoxRoundsModel") (nm := "as") rfl rfl (by decide) (Nat.le_of_ble_eq_true rfl) ?_
  intro κ ρ hkl K
  subst hkl
  show V κ (QM κ (132, ρ, GL, 0, 0) (P_X10_as h s τ τk w k)) 3 (132, ρ, GL, 0, 0) h 0 [(0, .ref 118), (1, .int w), (2, .int k)] []
  have hd := hI.d
  have hn8 := hd.nw8
  have ht5 := hd.nt5
  refine v_aload_n K dX10_as_0 rfl ?_
  refine v_iload_n K dX10_as_1 rfl ?_
  refine v_callV (As := [.int w]) K (c_X10_isWay h w (nwD (s 119)) ((hR.at RA_119).trans hd.nw) (by omega)) lX10_174 ck_X10 rfl sh_118 pl_118 rfl ⟨by decide, by decide⟩ (Nat.le_of_ble_eq_true rfl) dX10_as_2 (fun r1 h1 hp1 => ?_) rfl
  obtain ⟨rfl, rfl⟩ := hp1
  refine v_some ?_
  refine v_ifB_eq (tgt := 20) K dX10_as_5 rfl (fun c1 => ?_) (fun c1 => ?_)
  · skip
    refine v_aload_n K dX10_as_20 rfl ?_
    refine v_iconstN K 1 rfl dX10_as_21 ?_
    refine v_callV (As := [.int (nI 1)]) K (c_X10_finds h 1 (by omega)) lX10_113 ck_X10 rfl sh_118 pl_118 rfl ⟨by decide, by decide⟩ (Nat.le_of_ble_eq_true rfl) dX10_as_22 (fun r2 h2 hp2 => ?_) rfl
    obtain ⟨rfl, rfl⟩ := hp2
    refine v_some ?_
    have hRf1 : RR (u2 h 122 1 (h 122 1 + nI 1)) (u2 s 122 1 (s 122 1 + nI 1)) := by rw [show (h 122 1) = s 122 1 from hR.at RA_122]; exact hR.u RA_122
    refine v_iret K dX10_as_25 ?_
    have eY : Y_as s w k = ((-1000000000) - nI 1, (u2 s 122 1 (s 122 1 + nI 1))) := by
      unfold Y_as
      refine (@if_pos _ (Classical.propDecidable _) (fun q => by first | exact absurd q.1 (by assumption) | exact absurd q.2 (by assumption)) _ _ _).trans ?_
      first | rfl | (rfl)
    exact rfin eY hRf1
  · skip
    obtain ⟨j1, Hj1, rfl⟩ := c1
    refine v_iload_n K dX10_as_8 rfl ?_
    refine v_i2l K dX10_as_9 rfl ?_
    refine v_lconst (v := (nI 0).toInt64) K dX10_as_10 (by decide) ?_
    refine v_ldc2 K kX10_159 dX10_as_11 ?_
    refine v_topL (y := (nI 6).toInt64) (by decide) ?_
    refine v_callS (As := [.long k.toInt64, .long (nI 0).toInt64, .long (nI 6).toInt64]) K (c_X10_in h k (nI 0) (nI 6)) lX10_51 rfl ⟨by decide, by decide⟩ (Nat.le_of_ble_eq_true rfl) dX10_as_14 (fun r3 h3 hp3 => ?_) rfl
    obtain ⟨rfl, rfl⟩ := hp3
    refine v_some ?_
    rw [show (nI 0 ≤ k ∧ k ≤ nI 6) = ix k 7 from in_ix (by decide)]
    refine v_ifB_ne (tgt := 26) K dX10_as_17 rfl (fun c2 => ?_) (fun c2 => ?_)
    · skip
      obtain ⟨j2, Hj2, rfl⟩ := c2
      refine v_aload_n K dX10_as_26 rfl ?_
      refine v_getr (q := 119) K fX10_7 sh_118 pl_118 gl_118_0 dX10_as_27 ?_
      refine v_iload_n K dX10_as_30 rfl ?_
      refine v_iconstN K 0 rfl dX10_as_31 ?_
      refine v_callS (As := [.ref 119, .int (nI j1), .int (nI 0)]) K (c_X10_of h 119 j1 0 mP_119 (by omega)) lX10_170 rfl ⟨by decide, by decide⟩ (Nat.le_of_ble_eq_true rfl) dX10_as_32 (fun r4 h4 hp4 => ?_) rfl
      obtain ⟨rfl, rfl⟩ := hp4
      refine v_some ?_
      rw [show h 119 (46 + 6 * j1 + 0) = s 119 (46 + 6 * j1 + 0) from (hR.at RA_119)]
      obtain ⟨o, ho7, eo⟩ := hd.kd (w := j1) (by omega)
      refine v_top (y := nI o) eo ?_
      refine v_iload_n K dX10_as_35 rfl ?_
      refine v_callS (As := [.int (nI o), .int (nI j2)]) K (c_X10_isOf h o j2 (by omega) (by omega)) lX10_183 rfl ⟨by decide, by decide⟩ (Nat.le_of_ble_eq_true rfl) dX10_as_36 (fun r5 h5 hp5 => ?_) rfl
      obtain ⟨rfl, rfl⟩ := hp5
      refine v_some ?_
      refine v_ifB_eq (tgt := 54) K dX10_as_39 rfl (fun c3 => ?_) (fun c3 => ?_)
      · skip
        refine v_aload_n K dX10_as_54 rfl ?_
        refine v_iconstN K 5 rfl dX10_as_55 ?_
        refine v_callV (As := [.int (nI 5)]) K (c_X10_finds h 5 (by omega)) lX10_113 ck_X10 rfl sh_118 pl_118 rfl ⟨by decide, by decide⟩ (Nat.le_of_ble_eq_true rfl) dX10_as_56 (fun r6 h6 hp6 => ?_) rfl
        obtain ⟨rfl, rfl⟩ := hp6
        refine v_some ?_
        have hRf2 : RR (u2 h 122 5 (h 122 5 + nI 1)) (u2 s 122 5 (s 122 5 + nI 1)) := by rw [show (h 122 5) = s 122 5 from hR.at RA_122]; exact hR.u RA_122
        refine v_iret K dX10_as_59 ?_
        have eY : Y_as s (nI j1) (nI j2) = ((-1000000000) - nI 5, (u2 s 122 5 (s 122 5 + nI 1))) := by
          unfold Y_as
          refine (@if_neg _ (Classical.propDecidable _) (fun q => q (by refine ⟨?_, ?_⟩ <;> (first | assumption | exact ⟨_, by assumption, rfl⟩ | exact Or.inl rfl | exact Or.inr (Or.inl rfl) | exact Or.inr (Or.inr rfl) | omega))) _ _ _).trans ?_
          refine (@if_neg _ (Classical.propDecidable _) (by rw [cl_ix (show j1 < 2 ^ 31 by omega), cl_ix (show j2 < 2 ^ 31 by omega), show s 119 (46 + 6 * j1 + 0) = nI o from eo, cl_ix (show o < 2 ^ 31 by omega)]; assumption) _ _ _).trans ?_
          first | rfl | ((try rw [cl_ix (show j1 < 2 ^ 31 by omega)]) ; (try rw [cl_ix (show j2 < 2 ^ 31 by omega)]))
        exact rfin eY hRf2
      · skip
        refine v_aload_n K dX10_as_42 rfl ?_
        refine v_getr (q := 119) K fX10_7 sh_118 pl_118 gl_118_0 dX10_as_43 ?_
        refine v_iload_n K dX10_as_46 rfl ?_
        refine v_iconstN K 1 rfl dX10_as_47 ?_
        refine v_callS (As := [.ref 119, .int (nI j1), .int (nI 1)]) K (c_X10_of h 119 j1 1 mP_119 (by omega)) lX10_170 rfl ⟨by decide, by decide⟩ (Nat.le_of_ble_eq_true rfl) dX10_as_48 (fun r7 h7 hp7 => ?_) rfl
        obtain ⟨rfl, rfl⟩ := hp7
        refine v_some ?_
        rw [show h 119 (46 + 6 * j1 + 1) = s 119 (46 + 6 * j1 + 1) from (hR.at RA_119)]
        refine v_goto (tgt := 59) K dX10_as_51 rfl ?_
        refine v_iret K dX10_as_59 ?_
        have eY : Y_as s (nI j1) (nI j2) = (s 119 (46 + 6 * j1 + 1), s) := by
          unfold Y_as
          refine (@if_neg _ (Classical.propDecidable _) (fun q => q (by refine ⟨?_, ?_⟩ <;> (first | assumption | exact ⟨_, by assumption, rfl⟩ | exact Or.inl rfl | exact Or.inr (Or.inl rfl) | exact Or.inr (Or.inr rfl) | omega))) _ _ _).trans ?_
          refine (@if_pos _ (Classical.propDecidable _) (by rw [cl_ix (show j1 < 2 ^ 31 by omega), cl_ix (show j2 < 2 ^ 31 by omega), show s 119 (46 + 6 * j1 + 0) = nI o from eo, cl_ix (show o < 2 ^ 31 by omega)]; assumption) _ _ _).trans ?_
          (rw [cl_ix (show j1 < 2 ^ 31 by omega)])
        exact rfin eY hR
    · skip
      refine v_aload_n K dX10_as_20 rfl ?_
      refine v_iconstN K 1 rfl dX10_as_21 ?_
      refine v_callV (As := [.int (nI 1)]) K (c_X10_finds h 1 (by omega)) lX10_113 ck_X10 rfl sh_118 pl_118 rfl ⟨by decide, by decide⟩ (Nat.le_of_ble_eq_true rfl) dX10_as_22 (fun r8 h8 hp8 => ?_) rfl
      obtain ⟨rfl, rfl⟩ := hp8
      refine v_some ?_
      have hRf3 : RR (u2 h 122 1 (h 122 1 + nI 1)) (u2 s 122 1 (s 122 1 + nI 1)) := by rw [show (h 122 1) = s 122 1 from hR.at RA_122]; exact hR.u RA_122
      refine v_iret K dX10_as_25 ?_
      have eY : Y_as s (nI j1) k = ((-1000000000) - nI 1, (u2 s 122 1 (s 122 1 + nI 1))) := by
        unfold Y_as
        refine (@if_pos _ (Classical.propDecidable _) (fun q => by first | exact absurd q.1 (by assumption) | exact absurd q.2 (by assumption)) _ _ _).trans ?_
        first | rfl | ((try rw [cl_ix (show j1 < 2 ^ 31 by omega)]))
      exact rfin eY hRf3

abbrev P_X10_mend (h s : Mm) (τ τk : Nat → List Int32) (w : Int32) : Option Value → Mm → Prop := fun r h2 => r = some (.int (Y_mend s w).1) ∧ RR h2 (Y_mend s w).2
theorem c_X10_mend {l : Launch} (h s : Mm) (τ τk : Nat → List Int32) (w : Int32) (hR : RR h s) (hI : INV s τ τk) : Con l yX10_mend cX10_mend 2 (some .int) 2 46 132 GL h [.ref 118, .int w] (P_X10_mend h s τ τk w) := by
  refine Con.ofV (own := "FoxRoundsModel") (nm := "mend") rfl rfl (by decide) (Nat.le_of_ble_eq_true rfl) ?_
  intro κ ρ hkl K
  subst hkl
  show V κ (QM κ (132, ρ, GL, 0, 0) (P_X10_mend h s τ τk w)) 2 (132, ρ, GL, 0, 0) h 0 [(0, .ref 118), (1, .int w)] []
  have hd := hI.d
  have hn8 := hd.nw8
  have ht5 := hd.nt5
  refine v_aload_n K dX10_mend_0 rfl ?_
  refine v_iload_n K dX10_mend_1 rfl ?_
  refine v_callV (As := [.int w]) K (c_X10_isWay h w (nwD (s 119)) ((hR.at RA_119).trans hd.nw) (by omega)) lX10_174 ck_X10 rfl sh_118 pl_118 rfl ⟨by decide, by decide⟩ (Nat.le_of_ble_eq_true rfl) dX10_mend_2 (fun r1 h1 hp1 => ?_) rfl
  obtain ⟨rfl, rfl⟩ := hp1
  refine v_some ?_
  refine v_ifB_ne (tgt := 14) K dX10_mend_5 rfl (fun c1 => ?_) (fun c1 => ?_)
  · skip
    obtain ⟨j1, Hj1, rfl⟩ := c1
    refine v_aload_n K dX10_mend_14 rfl ?_
    refine v_getr (q := 119) K fX10_7 sh_118 pl_118 gl_118_0 dX10_mend_15 ?_
    refine v_iload_n K dX10_mend_18 rfl ?_
    refine v_callS (As := [.ref 119, .int (nI j1)]) K (c_X10_mends h 119 j1 mP_119 (by omega)) lX10_189 rfl ⟨by decide, by decide⟩ (Nat.le_of_ble_eq_true rfl) dX10_mend_19 (fun r2 h2 hp2 => ?_) rfl
    obtain ⟨rfl, rfl⟩ := hp2
    refine v_none ?_
    have hRm : RR (rw2 h 119 (mendD (h 119) j1)) (rw2 s 119 (mendD (s 119) j1)) := by rw [hR.1 119 RA_119]; exact hR.rw RA_119
    refine v_aload_n K dX10_mend_22 rfl ?_
    refine v_getr (q := 119) K fX10_7 sh_118 pl_118 gl_118_0 dX10_mend_23 ?_
    refine v_iload_n K dX10_mend_26 rfl ?_
    refine v_iconstN K 1 rfl dX10_mend_27 ?_
    refine v_callS (As := [.ref 119, .int (nI j1), .int (nI 1)]) K (c_X10_of ((rw2 h 119 (mendD (h 119) j1))) 119 j1 1 mP_119 (by omega)) lX10_170 rfl ⟨by decide, by decide⟩ (Nat.le_of_ble_eq_true rfl) dX10_mend_28 (fun r3 h3 hp3 => ?_) rfl
    obtain ⟨rfl, rfl⟩ := hp3
    refine v_some ?_
    rw [show ((rw2 h 119 (mendD (h 119) j1))) 119 (46 + 6 * j1 + 1) = (rw2 s 119 (mendD (s 119) j1)) 119 (46 + 6 * j1 + 1) from (hRm.at RA_119)]
    refine v_iret K dX10_mend_31 ?_
    have eY : Y_mend s (nI j1) = ((rw2 s 119 (mendD (s 119) j1)) 119 (46 + 6 * j1 + 1), (rw2 s 119 (mendD (s 119) j1))) := by
      unfold Y_mend
      refine (@if_pos _ (Classical.propDecidable _) (by first | assumption | exact ⟨_, by assumption, rfl⟩ | exact Or.inl rfl | exact Or.inr (Or.inl rfl) | exact Or.inr (Or.inr rfl) | omega) _ _ _).trans ?_
      (rw [cl_ix (show j1 < 2 ^ 31 by omega)]; rfl)
    exact rfin eY hRm
  · skip
    refine v_aload_n K dX10_mend_8 rfl ?_
    refine v_iconstN K 1 rfl dX10_mend_9 ?_
    refine v_callV (As := [.int (nI 1)]) K (c_X10_finds h 1 (by omega)) lX10_113 ck_X10 rfl sh_118 pl_118 rfl ⟨by decide, by decide⟩ (Nat.le_of_ble_eq_true rfl) dX10_mend_10 (fun r4 h4 hp4 => ?_) rfl
    obtain ⟨rfl, rfl⟩ := hp4
    refine v_some ?_
    have hRf1 : RR (u2 h 122 1 (h 122 1 + nI 1)) (u2 s 122 1 (s 122 1 + nI 1)) := by rw [show (h 122 1) = s 122 1 from hR.at RA_122]; exact hR.u RA_122
    refine v_iret K dX10_mend_13 ?_
    have eY : Y_mend s w = ((-1000000000) - nI 1, (u2 s 122 1 (s 122 1 + nI 1))) := by
      unfold Y_mend
      refine (@if_neg _ (Classical.propDecidable _) (fun q => absurd q (by assumption)) _ _ _).trans ?_
      first | rfl | (rfl)
    exact rfin eY hRf1

abbrev P_X10_thing (h s : Mm) (τ τk : Nat → List Int32) (f g : Int32) : Option Value → Mm → Prop := fun r h2 => r = some (.int (Y_thing s f g).1) ∧ RR h2 (Y_thing s f g).2
theorem c_X10_thing {l : Launch} (h s : Mm) (τ τk : Nat → List Int32) (f g : Int32) (hR : RR h s) (hI : INV s τ τk) : Con l yX10_thing cX10_thing 4 (some .int) 1 25 132 GL h [.ref 118, .int f, .int g] (P_X10_thing h s τ τk f g) := by
  refine Con.ofV (own := "FoxRoundsModel") (nm := "thing") rfl rfl (by decide) (Nat.le_of_ble_eq_true rfl) ?_
  intro κ ρ hkl K
  subst hkl
  show V κ (QM κ (132, ρ, GL, 0, 0) (P_X10_thing h s τ τk f g)) 4 (132, ρ, GL, 0, 0) h 0 [(0, .ref 118), (1, .int f), (2, .int g)] []
  have hd := hI.d
  have hn8 := hd.nw8
  have ht5 := hd.nt5
  refine v_iload_n K dX10_thing_0 rfl ?_
  refine v_i2l K dX10_thing_1 rfl ?_
  refine v_lconst (v := (nI 0).toInt64) K dX10_thing_2 (by decide) ?_
  refine v_ldc2 K kX10_141 dX10_thing_3 ?_
  refine v_topL (y := (nI 99).toInt64) (by decide) ?_
  refine v_callS (As := [.long f.toInt64, .long (nI 0).toInt64, .long (nI 99).toInt64]) K (c_X10_in h f (nI 0) (nI 99)) lX10_51 rfl ⟨by decide, by decide⟩ (Nat.le_of_ble_eq_true rfl) dX10_thing_6 (fun r1 h1 hp1 => ?_) rfl
  obtain ⟨rfl, rfl⟩ := hp1
  refine v_some ?_
  rw [show (nI 0 ≤ f ∧ f ≤ nI 99) = ix f 100 from in_ix (by decide)]
  refine v_ifB_eq (tgt := 24) K dX10_thing_9 rfl (fun c1 => ?_) (fun c1 => ?_)
  · skip
    refine v_aload_n K dX10_thing_24 rfl ?_
    refine v_iconstN K 1 rfl dX10_thing_25 ?_
    refine v_callV (As := [.int (nI 1)]) K (c_X10_finds h 1 (by omega)) lX10_113 ck_X10 rfl sh_118 pl_118 rfl ⟨by decide, by decide⟩ (Nat.le_of_ble_eq_true rfl) dX10_thing_26 (fun r2 h2 hp2 => ?_) rfl
    obtain ⟨rfl, rfl⟩ := hp2
    refine v_some ?_
    have hRf1 : RR (u2 h 122 1 (h 122 1 + nI 1)) (u2 s 122 1 (s 122 1 + nI 1)) := by rw [show (h 122 1) = s 122 1 from hR.at RA_122]; exact hR.u RA_122
    refine v_iret K dX10_thing_29 ?_
    have eY : Y_thing s f g = ((-1000000000) - nI 1, (u2 s 122 1 (s 122 1 + nI 1))) := by
      unfold Y_thing
      refine (@if_pos _ (Classical.propDecidable _) (fun q => by first | exact absurd q.1 (by assumption) | exact absurd q.2 (by assumption)) _ _ _).trans ?_
      first | rfl | (rfl)
    exact rfin eY hRf1
  · skip
    obtain ⟨j1, Hj1, rfl⟩ := c1
    refine v_iload_n K dX10_thing_12 rfl ?_
    refine v_i2l K dX10_thing_13 rfl ?_
    refine v_lconst (v := (nI 0).toInt64) K dX10_thing_14 (by decide) ?_
    refine v_ldc2 K kX10_193 dX10_thing_15 ?_
    refine v_topL (y := (nI 30).toInt64) (by decide) ?_
    refine v_callS (As := [.long g.toInt64, .long (nI 0).toInt64, .long (nI 30).toInt64]) K (c_X10_in h g (nI 0) (nI 30)) lX10_51 rfl ⟨by decide, by decide⟩ (Nat.le_of_ble_eq_true rfl) dX10_thing_18 (fun r3 h3 hp3 => ?_) rfl
    obtain ⟨rfl, rfl⟩ := hp3
    refine v_some ?_
    rw [show (nI 0 ≤ g ∧ g ≤ nI 30) = ix g 31 from in_ix (by decide)]
    refine v_ifB_ne (tgt := 30) K dX10_thing_21 rfl (fun c2 => ?_) (fun c2 => ?_)
    · skip
      obtain ⟨j2, Hj2, rfl⟩ := c2
      refine v_aload_n K dX10_thing_30 rfl ?_
      refine v_getr (q := 119) K fX10_7 sh_118 pl_118 gl_118_0 dX10_thing_31 ?_
      refine v_bipushN K 11 rfl dX10_thing_34 ?_
      refine v_iald (x := nI (ntD (s 119))) K sh_119 pl_119 (by omega) ((hR.at RA_119).trans hd.nt) dX10_thing_36 ?_
      refine v_iconstN K 5 rfl dX10_thing_37 ?_
      refine v_icmpN_ne (tgt := 47) K (by omega) (by omega) dX10_thing_38 rfl (fun c3 => ?_) (fun c3 => ?_)
      · skip
        refine v_bipushN K 94 rfl dX10_thing_47 ?_
        refine v_iconstN K 3 rfl dX10_thing_49 ?_
        refine v_aload_n K dX10_thing_50 rfl ?_
        refine v_getr (q := 119) K fX10_7 sh_118 pl_118 gl_118_0 dX10_thing_51 ?_
        refine v_bipushN K 11 rfl dX10_thing_54 ?_
        refine v_iald (x := nI (ntD (s 119))) K sh_119 pl_119 (by omega) ((hR.at RA_119).trans hd.nt) dX10_thing_56 ?_
        refine v_imulN K dX10_thing_57 ?_
        refine v_iaddN K dX10_thing_58 ?_
        refine v_istore_n (lv2 := [(3, .int (nI (94 + (3 * (ntD (s 119)))))), (0, .ref 118), (1, .int (nI j1)), (2, .int (nI j2))]) K dX10_thing_59 (by decide) rfl ?_
        refine v_aload_n K dX10_thing_60 rfl ?_
        refine v_getr (q := 119) K fX10_7 sh_118 pl_118 gl_118_0 dX10_thing_61 ?_
        refine v_iload_n K dX10_thing_64 rfl ?_
        refine v_iload_n K dX10_thing_65 rfl ?_
        refine v_iast K sh_119 pl_119 (by omega) dX10_thing_66 ?_
        have hRr4 : RR (u2 h 119 (94 + (3 * (ntD (s 119)))) (nI j1)) (u2 s 119 (94 + (3 * (ntD (s 119)))) (nI j1)) := hR.u RA_119
        refine v_aload_n K dX10_thing_67 rfl ?_
        refine v_getr (q := 119) K fX10_7 sh_118 pl_118 gl_118_0 dX10_thing_68 ?_
        refine v_iload_n K dX10_thing_71 rfl ?_
        refine v_iconstN K 1 rfl dX10_thing_72 ?_
        refine v_iaddN K dX10_thing_73 ?_
        refine v_iload_n K dX10_thing_74 rfl ?_
        refine v_iast K sh_119 pl_119 (by omega) dX10_thing_75 ?_
        have hRr5 : RR (u2 (u2 h 119 (94 + (3 * (ntD (s 119)))) (nI j1)) 119 (94 + (3 * (ntD (s 119))) + 1) (nI j2)) (u2 (u2 s 119 (94 + (3 * (ntD (s 119)))) (nI j1)) 119 (94 + (3 * (ntD (s 119))) + 1) (nI j2)) := hRr4.u RA_119
        refine v_aload_n K dX10_thing_76 rfl ?_
        refine v_getr (q := 119) K fX10_7 sh_118 pl_118 gl_118_0 dX10_thing_77 ?_
        refine v_iload_n K dX10_thing_80 rfl ?_
        refine v_iconstN K 2 rfl dX10_thing_81 ?_
        refine v_iaddN K dX10_thing_82 ?_
        refine v_iconstN K 0 rfl dX10_thing_83 ?_
        refine v_iast K sh_119 pl_119 (by omega) dX10_thing_84 ?_
        have hRr6 : RR (u2 (u2 (u2 h 119 (94 + (3 * (ntD (s 119)))) (nI j1)) 119 (94 + (3 * (ntD (s 119))) + 1) (nI j2)) 119 (94 + (3 * (ntD (s 119))) + 2) (nI 0)) (u2 (u2 (u2 s 119 (94 + (3 * (ntD (s 119)))) (nI j1)) 119 (94 + (3 * (ntD (s 119))) + 1) (nI j2)) 119 (94 + (3 * (ntD (s 119))) + 2) (nI 0)) := hRr5.u RA_119
        refine v_aload_n K dX10_thing_85 rfl ?_
        refine v_getr (q := 119) K fX10_7 sh_118 pl_118 gl_118_0 dX10_thing_86 ?_
        refine v_bipushN K 11 rfl dX10_thing_89 ?_
        refine v_dup2 K dX10_thing_91 rfl rfl ?_
        refine v_iald (x := nI (ntD (s 119))) K sh_119 pl_119 (by omega) (((((hRr6.at RA_119).trans (u2_ne (by omega))).trans (u2_ne (by omega))).trans (u2_ne (by omega))).trans hd.nt) dX10_thing_92 ?_
        refine v_iconstN K 1 rfl dX10_thing_93 ?_
        refine v_iaddN K dX10_thing_94 ?_
        refine v_iast K sh_119 pl_119 (by omega) dX10_thing_95 ?_
        have hRr7 : RR (u2 (u2 (u2 (u2 h 119 (94 + (3 * (ntD (s 119)))) (nI j1)) 119 (94 + (3 * (ntD (s 119))) + 1) (nI j2)) 119 (94 + (3 * (ntD (s 119))) + 2) (nI 0)) 119 11 (nI (ntD (s 119) + 1))) (u2 (u2 (u2 (u2 s 119 (94 + (3 * (ntD (s 119)))) (nI j1)) 119 (94 + (3 * (ntD (s 119))) + 1) (nI j2)) 119 (94 + (3 * (ntD (s 119))) + 2) (nI 0)) 119 11 (nI (ntD (s 119) + 1))) := hRr6.u RA_119
        refine v_aload_n K dX10_thing_96 rfl ?_
        refine v_getr (q := 119) K fX10_7 sh_118 pl_118 gl_118_0 dX10_thing_97 ?_
        refine v_bipushN K 11 rfl dX10_thing_100 ?_
        refine v_iald (x := nI (ntD (s 119) + 1)) K sh_119 pl_119 (by omega) ((hRr7.at RA_119).trans u2_at) dX10_thing_102 ?_
        refine v_iconstN K 1 rfl dX10_thing_103 ?_
        refine v_isubN K (by omega) dX10_thing_104 ?_
        refine v_iret K dX10_thing_105 ?_
        have eY : Y_thing s (nI j1) (nI j2) = (nI (ntD (s 119) + 1 - 1), (u2 (u2 (u2 (u2 s 119 (94 + (3 * (ntD (s 119)))) (nI j1)) 119 (94 + (3 * (ntD (s 119))) + 1) (nI j2)) 119 (94 + (3 * (ntD (s 119))) + 2) (nI 0)) 119 11 (nI (ntD (s 119) + 1)))) := by
          unfold Y_thing
          refine (@if_neg _ (Classical.propDecidable _) (fun q => q (by refine ⟨?_, ?_⟩ <;> (first | assumption | exact ⟨_, by assumption, rfl⟩ | exact Or.inl rfl | exact Or.inr (Or.inl rfl) | exact Or.inr (Or.inr rfl) | omega))) _ _ _).trans ?_
          refine (@if_neg _ (Classical.propDecidable _) (fun q => absurd q (by assumption)) _ _ _).trans ?_
          refine Prod.ext (congrArg nI (by omega)) ?_; show rw2 s 119 (addTD (s 119) _ _) = _; unfold addTD; simp only [u2_rw, rw2_rw2, rw2_at]; rfl
        exact rfin eY hRr7
      · skip
        refine v_aload_n K dX10_thing_41 rfl ?_
        refine v_iconstN K 4 rfl dX10_thing_42 ?_
        refine v_callV (As := [.int (nI 4)]) K (c_X10_finds h 4 (by omega)) lX10_113 ck_X10 rfl sh_118 pl_118 rfl ⟨by decide, by decide⟩ (Nat.le_of_ble_eq_true rfl) dX10_thing_43 (fun r8 h4 hp4 => ?_) rfl
        obtain ⟨rfl, rfl⟩ := hp4
        refine v_some ?_
        have hRf2 : RR (u2 h 122 4 (h 122 4 + nI 1)) (u2 s 122 4 (s 122 4 + nI 1)) := by rw [show (h 122 4) = s 122 4 from hR.at RA_122]; exact hR.u RA_122
        refine v_iret K dX10_thing_46 ?_
        have eY : Y_thing s (nI j1) (nI j2) = ((-1000000000) - nI 4, (u2 s 122 4 (s 122 4 + nI 1))) := by
          unfold Y_thing
          refine (@if_neg _ (Classical.propDecidable _) (fun q => q (by refine ⟨?_, ?_⟩ <;> (first | assumption | exact ⟨_, by assumption, rfl⟩ | exact Or.inl rfl | exact Or.inr (Or.inl rfl) | exact Or.inr (Or.inr rfl) | omega))) _ _ _).trans ?_
          refine (@if_pos _ (Classical.propDecidable _) (by first | assumption | exact ⟨_, by assumption, rfl⟩ | exact Or.inl rfl | exact Or.inr (Or.inl rfl) | exact Or.inr (Or.inr rfl) | omega) _ _ _).trans ?_
          first | rfl | ((try rw [cl_ix (show j1 < 2 ^ 31 by omega)]) ; (try rw [cl_ix (show j2 < 2 ^ 31 by omega)]))
        exact rfin eY hRf2
    · skip
      refine v_aload_n K dX10_thing_24 rfl ?_
      refine v_iconstN K 1 rfl dX10_thing_25 ?_
      refine v_callV (As := [.int (nI 1)]) K (c_X10_finds h 1 (by omega)) lX10_113 ck_X10 rfl sh_118 pl_118 rfl ⟨by decide, by decide⟩ (Nat.le_of_ble_eq_true rfl) dX10_thing_26 (fun r9 h5 hp5 => ?_) rfl
      obtain ⟨rfl, rfl⟩ := hp5
      refine v_some ?_
      have hRf3 : RR (u2 h 122 1 (h 122 1 + nI 1)) (u2 s 122 1 (s 122 1 + nI 1)) := by rw [show (h 122 1) = s 122 1 from hR.at RA_122]; exact hR.u RA_122
      refine v_iret K dX10_thing_29 ?_
      have eY : Y_thing s (nI j1) g = ((-1000000000) - nI 1, (u2 s 122 1 (s 122 1 + nI 1))) := by
        unfold Y_thing
        refine (@if_pos _ (Classical.propDecidable _) (fun q => by first | exact absurd q.1 (by assumption) | exact absurd q.2 (by assumption)) _ _ _).trans ?_
        first | rfl | ((try rw [cl_ix (show j1 < 2 ^ 31 by omega)]))
      exact rfin eY hRf3

abbrev P_X10_tell (h s : Mm) (τ τk : Nat → List Int32) (v : Int32) : Option Value → Mm → Prop := fun r h2 => r = some (.int (Y_tell s v).1) ∧ RR h2 (Y_tell s v).2
theorem c_X10_tell {l : Launch} (h s : Mm) (τ τk : Nat → List Int32) (v : Int32) (hR : RR h s) (hI : INV s τ τk) : Con l yX10_tell cX10_tell 2 (some .int) 1 21 132 GL h [.ref 118, .int v] (P_X10_tell h s τ τk v) := by
  refine Con.ofV (own := "FoxRoundsModel") (nm := "tell") rfl rfl (by decide) (Nat.le_of_ble_eq_true rfl) ?_
  intro κ ρ hkl K
  subst hkl
  show V κ (QM κ (132, ρ, GL, 0, 0) (P_X10_tell h s τ τk v)) 2 (132, ρ, GL, 0, 0) h 0 [(0, .ref 118), (1, .int v)] []
  have hd := hI.d
  have hn8 := hd.nw8
  have ht5 := hd.nt5
  obtain ⟨t14, h14, e14⟩ := hI.t14
  refine v_aload_n K dX10_tell_0 rfl ?_
  refine v_getr (q := 119) K fX10_7 sh_118 pl_118 gl_118_0 dX10_tell_1 ?_
  refine v_bipushN K 14 rfl dX10_tell_4 ?_
  refine v_iald (x := nI t14) K sh_119 pl_119 (by omega) ((hR.at RA_119).trans e14) dX10_tell_6 ?_
  refine v_bipushN K 20 rfl dX10_tell_7 ?_
  refine v_icmpN_ne (tgt := 18) K (by omega) (by omega) dX10_tell_9 rfl (fun c1 => ?_) (fun c1 => ?_)
  · skip
    refine v_aload_n K dX10_tell_18 rfl ?_
    refine v_getr (q := 119) K fX10_7 sh_118 pl_118 gl_118_0 dX10_tell_19 ?_
    refine v_bipushN K 114 rfl dX10_tell_22 ?_
    refine v_aload_n K dX10_tell_24 rfl ?_
    refine v_getr (q := 119) K fX10_7 sh_118 pl_118 gl_118_0 dX10_tell_25 ?_
    refine v_bipushN K 14 rfl dX10_tell_28 ?_
    refine v_iald (x := nI t14) K sh_119 pl_119 (by omega) ((hR.at RA_119).trans e14) dX10_tell_30 ?_
    refine v_iaddN K dX10_tell_31 ?_
    refine v_iload_n K dX10_tell_32 rfl ?_
    refine v_iast K sh_119 pl_119 (by omega) dX10_tell_33 ?_
    have hRr1 : RR (u2 h 119 (114 + t14) v) (u2 s 119 (114 + t14) v) := hR.u RA_119
    refine v_aload_n K dX10_tell_34 rfl ?_
    refine v_getr (q := 119) K fX10_7 sh_118 pl_118 gl_118_0 dX10_tell_35 ?_
    refine v_bipushN K 14 rfl dX10_tell_38 ?_
    refine v_dup2 K dX10_tell_40 rfl rfl ?_
    refine v_iald (x := nI t14) K sh_119 pl_119 (by omega) (((hRr1.at RA_119).trans (u2_ne (by omega))).trans e14) dX10_tell_41 ?_
    refine v_iconstN K 1 rfl dX10_tell_42 ?_
    refine v_iaddN K dX10_tell_43 ?_
    refine v_iast K sh_119 pl_119 (by omega) dX10_tell_44 ?_
    have hRr2 : RR (u2 (u2 h 119 (114 + t14) v) 119 14 (nI (t14 + 1))) (u2 (u2 s 119 (114 + t14) v) 119 14 (nI (t14 + 1))) := hRr1.u RA_119
    refine v_aload_n K dX10_tell_45 rfl ?_
    refine v_getr (q := 119) K fX10_7 sh_118 pl_118 gl_118_0 dX10_tell_46 ?_
    refine v_bipushN K 14 rfl dX10_tell_49 ?_
    refine v_iald (x := nI (t14 + 1)) K sh_119 pl_119 (by omega) ((hRr2.at RA_119).trans u2_at) dX10_tell_51 ?_
    refine v_iret K dX10_tell_52 ?_
    have eY : Y_tell s v = (nI (t14 + 1), (u2 (u2 s 119 (114 + t14) v) 119 14 (nI (t14 + 1)))) := by
      unfold Y_tell
      refine (@if_neg _ (Classical.propDecidable _) (by rw [e14]; exact fun q => absurd (nI_inj (by omega) (by omega) q) (by omega)) _ _ _).trans ?_
      rw [e14, cl_ix (show t14 < 2 ^ 31 by omega), show nI t14 + nI 1 = nI (t14 + 1) from nI_add t14 1]
    exact rfin eY hRr2
  · skip
    refine v_aload_n K dX10_tell_12 rfl ?_
    refine v_iconstN K 4 rfl dX10_tell_13 ?_
    refine v_callV (As := [.int (nI 4)]) K (c_X10_finds h 4 (by omega)) lX10_113 ck_X10 rfl sh_118 pl_118 rfl ⟨by decide, by decide⟩ (Nat.le_of_ble_eq_true rfl) dX10_tell_14 (fun r3 h1 hp1 => ?_) rfl
    obtain ⟨rfl, rfl⟩ := hp1
    refine v_some ?_
    have hRf1 : RR (u2 h 122 4 (h 122 4 + nI 1)) (u2 s 122 4 (s 122 4 + nI 1)) := by rw [show (h 122 4) = s 122 4 from hR.at RA_122]; exact hR.u RA_122
    refine v_iret K dX10_tell_17 ?_
    have eY : Y_tell s v = ((-1000000000) - nI 4, (u2 s 122 4 (s 122 4 + nI 1))) := by
      unfold Y_tell
      refine (@if_pos _ (Classical.propDecidable _) (by rw [e14]; congr 1) _ _ _).trans ?_
      first | rfl | (rfl)
    exact rfin eY hRf1

abbrev P_X10_count (h s : Mm) (τ τk : Nat → List Int32) (k : Int32) : Option Value → Mm → Prop := fun r h2 => r = some (.int (Y_count s k).1) ∧ RR h2 (Y_count s k).2
theorem c_X10_count {l : Launch} (h s : Mm) (τ τk : Nat → List Int32) (k : Int32) (hR : RR h s) (hI : INV s τ τk) : Con l yX10_count cX10_count 2 (some .int) 1 21 132 GL h [.ref 118, .int k] (P_X10_count h s τ τk k) := by
  refine Con.ofV (own := "FoxRoundsModel") (nm := "count") rfl rfl (by decide) (Nat.le_of_ble_eq_true rfl) ?_
  intro κ ρ hkl K
  subst hkl
  show V κ (QM κ (132, ρ, GL, 0, 0) (P_X10_count h s τ τk k)) 2 (132, ρ, GL, 0, 0) h 0 [(0, .ref 118), (1, .int k)] []
  have hd := hI.d
  have hn8 := hd.nw8
  have ht5 := hd.nt5
  refine v_iload_n K dX10_count_0 rfl ?_
  rcases ixo_8 k with rfl | rfl | rfl | rfl | rfl | rfl | rfl | rfl | hout
  · skip
    refine v_tinN (off := 47) (tgt := 48) K (by decide) 0 dX10_count_1 (by decide) (by decide) (by decide) rfl rfl ?_
    refine v_aload_n K dX10_count_48 rfl ?_
    refine v_getr (q := 119) K fX10_7 sh_118 pl_118 gl_118_0 dX10_count_49 ?_
    refine v_bipushN K 8 rfl dX10_count_52 ?_
    refine v_iald (x := s 119 8) K sh_119 pl_119 (by omega) (hR.at RA_119) dX10_count_54 ?_
    refine v_iret K dX10_count_55 ?_
    have eY : Y_count s (nI 0) = (s 119 8, s) := by
      unfold Y_count
      refine (@if_pos _ (Classical.propDecidable _) rfl _ _ _).trans ?_
      first | rfl | ((try rw [cl_ix (show 0 < 2 ^ 31 by omega)]))
    exact rfin eY hR
  · skip
    refine v_tinN (off := 55) (tgt := 56) K (by decide) 1 dX10_count_1 (by decide) (by decide) (by decide) rfl rfl ?_
    refine v_aload_n K dX10_count_56 rfl ?_
    refine v_getr (q := 119) K fX10_7 sh_118 pl_118 gl_118_0 dX10_count_57 ?_
    refine v_bipushN K 10 rfl dX10_count_60 ?_
    refine v_iald (x := s 119 10) K sh_119 pl_119 (by omega) (hR.at RA_119) dX10_count_62 ?_
    refine v_iret K dX10_count_63 ?_
    have eY : Y_count s (nI 1) = (s 119 10, s) := by
      unfold Y_count
      refine (@if_neg _ (Classical.propDecidable _) (by decide) _ _ _).trans ?_
      refine (@if_pos _ (Classical.propDecidable _) rfl _ _ _).trans ?_
      first | rfl | ((try rw [cl_ix (show 1 < 2 ^ 31 by omega)]))
    exact rfin eY hR
  · skip
    refine v_tinN (off := 63) (tgt := 64) K (by decide) 2 dX10_count_1 (by decide) (by decide) (by decide) rfl rfl ?_
    refine v_aload_n K dX10_count_64 rfl ?_
    refine v_getr (q := 119) K fX10_7 sh_118 pl_118 gl_118_0 dX10_count_65 ?_
    refine v_bipushN K 11 rfl dX10_count_68 ?_
    refine v_iald (x := s 119 11) K sh_119 pl_119 (by omega) (hR.at RA_119) dX10_count_70 ?_
    refine v_iret K dX10_count_71 ?_
    have eY : Y_count s (nI 2) = (s 119 11, s) := by
      unfold Y_count
      refine (@if_neg _ (Classical.propDecidable _) (by decide) _ _ _).trans ?_
      refine (@if_neg _ (Classical.propDecidable _) (by decide) _ _ _).trans ?_
      refine (@if_pos _ (Classical.propDecidable _) rfl _ _ _).trans ?_
      first | rfl | ((try rw [cl_ix (show 2 < 2 ^ 31 by omega)]))
    exact rfin eY hR
  · skip
    refine v_tinN (off := 71) (tgt := 72) K (by decide) 3 dX10_count_1 (by decide) (by decide) (by decide) rfl rfl ?_
    refine v_aload_n K dX10_count_72 rfl ?_
    refine v_getr (q := 119) K fX10_7 sh_118 pl_118 gl_118_0 dX10_count_73 ?_
    refine v_bipushN K 9 rfl dX10_count_76 ?_
    refine v_iald (x := s 119 9) K sh_119 pl_119 (by omega) (hR.at RA_119) dX10_count_78 ?_
    refine v_iret K dX10_count_79 ?_
    have eY : Y_count s (nI 3) = (s 119 9, s) := by
      unfold Y_count
      refine (@if_neg _ (Classical.propDecidable _) (by decide) _ _ _).trans ?_
      refine (@if_neg _ (Classical.propDecidable _) (by decide) _ _ _).trans ?_
      refine (@if_neg _ (Classical.propDecidable _) (by decide) _ _ _).trans ?_
      refine (@if_pos _ (Classical.propDecidable _) rfl _ _ _).trans ?_
      first | rfl | ((try rw [cl_ix (show 3 < 2 ^ 31 by omega)]))
    exact rfin eY hR
  · skip
    refine v_tinN (off := 79) (tgt := 80) K (by decide) 4 dX10_count_1 (by decide) (by decide) (by decide) rfl rfl ?_
    refine v_aload_n K dX10_count_80 rfl ?_
    refine v_getr (q := 119) K fX10_7 sh_118 pl_118 gl_118_0 dX10_count_81 ?_
    refine v_bipushN K 13 rfl dX10_count_84 ?_
    refine v_iald (x := s 119 13) K sh_119 pl_119 (by omega) (hR.at RA_119) dX10_count_86 ?_
    refine v_iret K dX10_count_87 ?_
    have eY : Y_count s (nI 4) = (s 119 13, s) := by
      unfold Y_count
      refine (@if_neg _ (Classical.propDecidable _) (by decide) _ _ _).trans ?_
      refine (@if_neg _ (Classical.propDecidable _) (by decide) _ _ _).trans ?_
      refine (@if_neg _ (Classical.propDecidable _) (by decide) _ _ _).trans ?_
      refine (@if_neg _ (Classical.propDecidable _) (by decide) _ _ _).trans ?_
      refine (@if_pos _ (Classical.propDecidable _) rfl _ _ _).trans ?_
      first | rfl | ((try rw [cl_ix (show 4 < 2 ^ 31 by omega)]))
    exact rfin eY hR
  · skip
    refine v_tinN (off := 87) (tgt := 88) K (by decide) 5 dX10_count_1 (by decide) (by decide) (by decide) rfl rfl ?_
    refine v_aload_n K dX10_count_88 rfl ?_
    refine v_getr (q := 119) K fX10_7 sh_118 pl_118 gl_118_0 dX10_count_89 ?_
    refine v_bipushN K 14 rfl dX10_count_92 ?_
    refine v_iald (x := s 119 14) K sh_119 pl_119 (by omega) (hR.at RA_119) dX10_count_94 ?_
    refine v_iret K dX10_count_95 ?_
    have eY : Y_count s (nI 5) = (s 119 14, s) := by
      unfold Y_count
      refine (@if_neg _ (Classical.propDecidable _) (by decide) _ _ _).trans ?_
      refine (@if_neg _ (Classical.propDecidable _) (by decide) _ _ _).trans ?_
      refine (@if_neg _ (Classical.propDecidable _) (by decide) _ _ _).trans ?_
      refine (@if_neg _ (Classical.propDecidable _) (by decide) _ _ _).trans ?_
      refine (@if_neg _ (Classical.propDecidable _) (by decide) _ _ _).trans ?_
      refine (@if_pos _ (Classical.propDecidable _) rfl _ _ _).trans ?_
      first | rfl | ((try rw [cl_ix (show 5 < 2 ^ 31 by omega)]))
    exact rfin eY hR
  · skip
    refine v_tinN (off := 95) (tgt := 96) K (by decide) 6 dX10_count_1 (by decide) (by decide) (by decide) rfl rfl ?_
    refine v_aload_n K dX10_count_96 rfl ?_
    refine v_geti (x := s 118 16) K fX10_268 sh_118 pl_118 hR.2.2 dX10_count_97 ?_
    refine v_iret K dX10_count_100 ?_
    have eY : Y_count s (nI 6) = (s 118 16, s) := by
      unfold Y_count
      refine (@if_neg _ (Classical.propDecidable _) (by decide) _ _ _).trans ?_
      refine (@if_neg _ (Classical.propDecidable _) (by decide) _ _ _).trans ?_
      refine (@if_neg _ (Classical.propDecidable _) (by decide) _ _ _).trans ?_
      refine (@if_neg _ (Classical.propDecidable _) (by decide) _ _ _).trans ?_
      refine (@if_neg _ (Classical.propDecidable _) (by decide) _ _ _).trans ?_
      refine (@if_neg _ (Classical.propDecidable _) (by decide) _ _ _).trans ?_
      refine (@if_pos _ (Classical.propDecidable _) rfl _ _ _).trans ?_
      first | rfl | ((try rw [cl_ix (show 6 < 2 ^ 31 by omega)]))
    exact rfin eY hR
  · skip
    refine v_tinN (off := 100) (tgt := 101) K (by decide) 7 dX10_count_1 (by decide) (by decide) (by decide) rfl rfl ?_
    refine v_aload_n K dX10_count_101 rfl ?_
    refine v_getr (q := 119) K fX10_7 sh_118 pl_118 gl_118_0 dX10_count_102 ?_
    refine v_bipushN K 12 rfl dX10_count_105 ?_
    refine v_iald (x := s 119 12) K sh_119 pl_119 (by omega) (hR.at RA_119) dX10_count_107 ?_
    refine v_iret K dX10_count_108 ?_
    have eY : Y_count s (nI 7) = (s 119 12, s) := by
      unfold Y_count
      refine (@if_neg _ (Classical.propDecidable _) (by decide) _ _ _).trans ?_
      refine (@if_neg _ (Classical.propDecidable _) (by decide) _ _ _).trans ?_
      refine (@if_neg _ (Classical.propDecidable _) (by decide) _ _ _).trans ?_
      refine (@if_neg _ (Classical.propDecidable _) (by decide) _ _ _).trans ?_
      refine (@if_neg _ (Classical.propDecidable _) (by decide) _ _ _).trans ?_
      refine (@if_neg _ (Classical.propDecidable _) (by decide) _ _ _).trans ?_
      refine (@if_neg _ (Classical.propDecidable _) (by decide) _ _ _).trans ?_
      refine (@if_pos _ (Classical.propDecidable _) rfl _ _ _).trans ?_
      first | rfl | ((try rw [cl_ix (show 7 < 2 ^ 31 by omega)]))
    exact rfin eY hR
  · skip
    refine v_tout (tgt := 109) K dX10_count_1 (by exact hout) rfl ?_
    refine v_aload_n K dX10_count_109 rfl ?_
    refine v_iconstN K 1 rfl dX10_count_110 ?_
    refine v_callV (As := [.int (nI 1)]) K (c_X10_finds h 1 (by omega)) lX10_113 ck_X10 rfl sh_118 pl_118 rfl ⟨by decide, by decide⟩ (Nat.le_of_ble_eq_true rfl) dX10_count_111 (fun r1 h1 hp1 => ?_) rfl
    obtain ⟨rfl, rfl⟩ := hp1
    refine v_some ?_
    have hRf1 : RR (u2 h 122 1 (h 122 1 + nI 1)) (u2 s 122 1 (s 122 1 + nI 1)) := by rw [show (h 122 1) = s 122 1 from hR.at RA_122]; exact hR.u RA_122
    refine v_iret K dX10_count_114 ?_
    have eY : Y_count s k = ((-1000000000) - nI 1, (u2 s 122 1 (s 122 1 + nI 1))) := by
      unfold Y_count
      refine (@if_neg _ (Classical.propDecidable _) (fun q => by subst q; rw [nI_toInt (by decide)] at hout; omega) _ _ _).trans ?_
      refine (@if_neg _ (Classical.propDecidable _) (fun q => by subst q; rw [nI_toInt (by decide)] at hout; omega) _ _ _).trans ?_
      refine (@if_neg _ (Classical.propDecidable _) (fun q => by subst q; rw [nI_toInt (by decide)] at hout; omega) _ _ _).trans ?_
      refine (@if_neg _ (Classical.propDecidable _) (fun q => by subst q; rw [nI_toInt (by decide)] at hout; omega) _ _ _).trans ?_
      refine (@if_neg _ (Classical.propDecidable _) (fun q => by subst q; rw [nI_toInt (by decide)] at hout; omega) _ _ _).trans ?_
      refine (@if_neg _ (Classical.propDecidable _) (fun q => by subst q; rw [nI_toInt (by decide)] at hout; omega) _ _ _).trans ?_
      refine (@if_neg _ (Classical.propDecidable _) (fun q => by subst q; rw [nI_toInt (by decide)] at hout; omega) _ _ _).trans ?_
      refine (@if_neg _ (Classical.propDecidable _) (fun q => by subst q; rw [nI_toInt (by decide)] at hout; omega) _ _ _).trans ?_
      first | rfl | (rfl)
    exact rfin eY hRf1

theorem add_rw {s : Mm} {k m c : Int32} : u2 (u2 (u2 (u2 (u2 (u2 (u2 s 119 (46 + 6 * nwD (s 119) + 0) k) 119 (46 + 6 * nwD (s 119) + 1) (m / nI 100)) 119 (46 + 6 * nwD (s 119) + 2) (m - m / nI 100 * nI 100)) 119 (46 + 6 * nwD (s 119) + 3) c) 119 (46 + 6 * nwD (s 119) + 4) (nI 0)) 119 (46 + 6 * nwD (s 119) + 5) (nI 0)) 119 10 (nI (nwD (s 119) + 1)) = rw2 s 119 (addWD (s 119) k m c) := by
  unfold addWD; simp only [u2_rw, rw2_rw2, rw2_at]

abbrev P_X10_comes (h s : Mm) (k m c : Int32) : Option Value → Mm → Prop := fun r h2 => r = some (.int (nI (nwD (s 119)))) ∧ RR h2 (rw2 s 119 (addWD (s 119) k m c))
theorem c_X10_comes {l : Launch} (h s : Mm) (k m c : Int32) (hR : RR h s) (hd : DOK (s 119)) (hw : nwD (s 119) < 8) : Con l yX10_comes cX10_comes 5 (some .int) 0 0 132 GL h [.ref 118, .int k, .int m, .int c] (P_X10_comes h s k m c) := by
  refine Con.ofV (own := "FoxRoundsModel") (nm := "comes") rfl rfl (by decide) (Nat.le_of_ble_eq_true rfl) ?_
  intro κ ρ hkl K
  subst hkl
  show V κ (QM κ (132, ρ, GL, 0, 0) (P_X10_comes h s k m c)) 5 (132, ρ, GL, 0, 0) h 0 [(0, .ref 118), (1, .int k), (2, .int m), (3, .int c)] []
  refine v_bipushN K 46 rfl dX10_comes_0 ?_
  refine v_bipushN K 6 rfl dX10_comes_2 ?_
  refine v_aload_n K dX10_comes_4 rfl ?_
  refine v_getr (q := 119) K fX10_7 sh_118 pl_118 gl_118_0 dX10_comes_5 ?_
  refine v_bipushN K 10 rfl dX10_comes_8 ?_
  refine v_iald (x := nI (nwD (s 119))) K sh_119 pl_119 (by omega) ((hR.at RA_119).trans hd.nw) dX10_comes_10 ?_
  refine v_imulN K dX10_comes_11 ?_
  refine v_iaddN K dX10_comes_12 ?_
  refine v_istore (lv2 := [(4, .int (nI (46 + (6 * (nwD (s 119)))))), (0, .ref 118), (1, .int k), (2, .int m), (3, .int c)]) K dX10_comes_13 (by decide) rfl ?_
  refine v_aload_n K dX10_comes_15 rfl ?_
  refine v_getr (q := 119) K fX10_7 sh_118 pl_118 gl_118_0 dX10_comes_16 ?_
  refine v_iload K dX10_comes_19 rfl ?_
  refine v_iconstN K 0 rfl dX10_comes_21 ?_
  refine v_iaddN K dX10_comes_22 ?_
  refine v_iload_n K dX10_comes_23 rfl ?_
  refine v_iast K sh_119 pl_119 (by omega) dX10_comes_24 ?_
  have hRr1 : RR (u2 h 119 (46 + (6 * (nwD (s 119))) + 0) k) (u2 s 119 (46 + (6 * (nwD (s 119))) + 0) k) := hR.u RA_119
  refine v_aload_n K dX10_comes_25 rfl ?_
  refine v_getr (q := 119) K fX10_7 sh_118 pl_118 gl_118_0 dX10_comes_26 ?_
  refine v_iload K dX10_comes_29 rfl ?_
  refine v_iconstN K 1 rfl dX10_comes_31 ?_
  refine v_iaddN K dX10_comes_32 ?_
  refine v_iload_n K dX10_comes_33 rfl ?_
  refine v_bipushN K 100 rfl dX10_comes_34 ?_
  refine v_idiv K dX10_comes_36 (by decide) ?_
  refine v_iast K sh_119 pl_119 (by omega) dX10_comes_37 ?_
  have hRr2 : RR (u2 (u2 h 119 (46 + (6 * (nwD (s 119))) + 0) k) 119 (46 + (6 * (nwD (s 119))) + 1) (m / (nI 100))) (u2 (u2 s 119 (46 + (6 * (nwD (s 119))) + 0) k) 119 (46 + (6 * (nwD (s 119))) + 1) (m / (nI 100))) := hRr1.u RA_119
  refine v_aload_n K dX10_comes_38 rfl ?_
  refine v_getr (q := 119) K fX10_7 sh_118 pl_118 gl_118_0 dX10_comes_39 ?_
  refine v_iload K dX10_comes_42 rfl ?_
  refine v_iconstN K 2 rfl dX10_comes_44 ?_
  refine v_iaddN K dX10_comes_45 ?_
  refine v_iload_n K dX10_comes_46 rfl ?_
  refine v_bipushN K 100 rfl dX10_comes_47 ?_
  refine v_irem K dX10_comes_49 (by decide) ?_
  refine v_iast K sh_119 pl_119 (by omega) dX10_comes_50 ?_
  have hRr3 : RR (u2 (u2 (u2 h 119 (46 + (6 * (nwD (s 119))) + 0) k) 119 (46 + (6 * (nwD (s 119))) + 1) (m / (nI 100))) 119 (46 + (6 * (nwD (s 119))) + 2) (m - m / (nI 100) * (nI 100))) (u2 (u2 (u2 s 119 (46 + (6 * (nwD (s 119))) + 0) k) 119 (46 + (6 * (nwD (s 119))) + 1) (m / (nI 100))) 119 (46 + (6 * (nwD (s 119))) + 2) (m - m / (nI 100) * (nI 100))) := hRr2.u RA_119
  refine v_aload_n K dX10_comes_51 rfl ?_
  refine v_getr (q := 119) K fX10_7 sh_118 pl_118 gl_118_0 dX10_comes_52 ?_
  refine v_iload K dX10_comes_55 rfl ?_
  refine v_iconstN K 3 rfl dX10_comes_57 ?_
  refine v_iaddN K dX10_comes_58 ?_
  refine v_iload_n K dX10_comes_59 rfl ?_
  refine v_iast K sh_119 pl_119 (by omega) dX10_comes_60 ?_
  have hRr4 : RR (u2 (u2 (u2 (u2 h 119 (46 + (6 * (nwD (s 119))) + 0) k) 119 (46 + (6 * (nwD (s 119))) + 1) (m / (nI 100))) 119 (46 + (6 * (nwD (s 119))) + 2) (m - m / (nI 100) * (nI 100))) 119 (46 + (6 * (nwD (s 119))) + 3) c) (u2 (u2 (u2 (u2 s 119 (46 + (6 * (nwD (s 119))) + 0) k) 119 (46 + (6 * (nwD (s 119))) + 1) (m / (nI 100))) 119 (46 + (6 * (nwD (s 119))) + 2) (m - m / (nI 100) * (nI 100))) 119 (46 + (6 * (nwD (s 119))) + 3) c) := hRr3.u RA_119
  refine v_aload_n K dX10_comes_61 rfl ?_
  refine v_getr (q := 119) K fX10_7 sh_118 pl_118 gl_118_0 dX10_comes_62 ?_
  refine v_iload K dX10_comes_65 rfl ?_
  refine v_iconstN K 4 rfl dX10_comes_67 ?_
  refine v_iaddN K dX10_comes_68 ?_
  refine v_iconstN K 0 rfl dX10_comes_69 ?_
  refine v_iast K sh_119 pl_119 (by omega) dX10_comes_70 ?_
  have hRr5 : RR (u2 (u2 (u2 (u2 (u2 h 119 (46 + (6 * (nwD (s 119))) + 0) k) 119 (46 + (6 * (nwD (s 119))) + 1) (m / (nI 100))) 119 (46 + (6 * (nwD (s 119))) + 2) (m - m / (nI 100) * (nI 100))) 119 (46 + (6 * (nwD (s 119))) + 3) c) 119 (46 + (6 * (nwD (s 119))) + 4) (nI 0)) (u2 (u2 (u2 (u2 (u2 s 119 (46 + (6 * (nwD (s 119))) + 0) k) 119 (46 + (6 * (nwD (s 119))) + 1) (m / (nI 100))) 119 (46 + (6 * (nwD (s 119))) + 2) (m - m / (nI 100) * (nI 100))) 119 (46 + (6 * (nwD (s 119))) + 3) c) 119 (46 + (6 * (nwD (s 119))) + 4) (nI 0)) := hRr4.u RA_119
  refine v_aload_n K dX10_comes_71 rfl ?_
  refine v_getr (q := 119) K fX10_7 sh_118 pl_118 gl_118_0 dX10_comes_72 ?_
  refine v_iload K dX10_comes_75 rfl ?_
  refine v_iconstN K 5 rfl dX10_comes_77 ?_
  refine v_iaddN K dX10_comes_78 ?_
  refine v_iconstN K 0 rfl dX10_comes_79 ?_
  refine v_iast K sh_119 pl_119 (by omega) dX10_comes_80 ?_
  have hRr6 : RR (u2 (u2 (u2 (u2 (u2 (u2 h 119 (46 + (6 * (nwD (s 119))) + 0) k) 119 (46 + (6 * (nwD (s 119))) + 1) (m / (nI 100))) 119 (46 + (6 * (nwD (s 119))) + 2) (m - m / (nI 100) * (nI 100))) 119 (46 + (6 * (nwD (s 119))) + 3) c) 119 (46 + (6 * (nwD (s 119))) + 4) (nI 0)) 119 (46 + (6 * (nwD (s 119))) + 5) (nI 0)) (u2 (u2 (u2 (u2 (u2 (u2 s 119 (46 + (6 * (nwD (s 119))) + 0) k) 119 (46 + (6 * (nwD (s 119))) + 1) (m / (nI 100))) 119 (46 + (6 * (nwD (s 119))) + 2) (m - m / (nI 100) * (nI 100))) 119 (46 + (6 * (nwD (s 119))) + 3) c) 119 (46 + (6 * (nwD (s 119))) + 4) (nI 0)) 119 (46 + (6 * (nwD (s 119))) + 5) (nI 0)) := hRr5.u RA_119
  refine v_aload_n K dX10_comes_81 rfl ?_
  refine v_getr (q := 119) K fX10_7 sh_118 pl_118 gl_118_0 dX10_comes_82 ?_
  refine v_bipushN K 10 rfl dX10_comes_85 ?_
  refine v_dup2 K dX10_comes_87 rfl rfl ?_
  refine v_iald (x := nI (nwD (s 119))) K sh_119 pl_119 (by omega) ((((((((hRr6.at RA_119).trans (u2_ne (by omega))).trans (u2_ne (by omega))).trans (u2_ne (by omega))).trans (u2_ne (by omega))).trans (u2_ne (by omega))).trans (u2_ne (by omega))).trans hd.nw) dX10_comes_88 ?_
  refine v_iconstN K 1 rfl dX10_comes_89 ?_
  refine v_iaddN K dX10_comes_90 ?_
  refine v_iast K sh_119 pl_119 (by omega) dX10_comes_91 ?_
  have hRr7 : RR (u2 (u2 (u2 (u2 (u2 (u2 (u2 h 119 (46 + (6 * (nwD (s 119))) + 0) k) 119 (46 + (6 * (nwD (s 119))) + 1) (m / (nI 100))) 119 (46 + (6 * (nwD (s 119))) + 2) (m - m / (nI 100) * (nI 100))) 119 (46 + (6 * (nwD (s 119))) + 3) c) 119 (46 + (6 * (nwD (s 119))) + 4) (nI 0)) 119 (46 + (6 * (nwD (s 119))) + 5) (nI 0)) 119 10 (nI (nwD (s 119) + 1))) (u2 (u2 (u2 (u2 (u2 (u2 (u2 s 119 (46 + (6 * (nwD (s 119))) + 0) k) 119 (46 + (6 * (nwD (s 119))) + 1) (m / (nI 100))) 119 (46 + (6 * (nwD (s 119))) + 2) (m - m / (nI 100) * (nI 100))) 119 (46 + (6 * (nwD (s 119))) + 3) c) 119 (46 + (6 * (nwD (s 119))) + 4) (nI 0)) 119 (46 + (6 * (nwD (s 119))) + 5) (nI 0)) 119 10 (nI (nwD (s 119) + 1))) := hRr6.u RA_119
  refine v_aload_n K dX10_comes_92 rfl ?_
  refine v_getr (q := 119) K fX10_7 sh_118 pl_118 gl_118_0 dX10_comes_93 ?_
  refine v_bipushN K 10 rfl dX10_comes_96 ?_
  refine v_iald (x := nI (nwD (s 119) + 1)) K sh_119 pl_119 (by omega) ((hRr7.at RA_119).trans u2_at) dX10_comes_98 ?_
  refine v_iconstN K 1 rfl dX10_comes_99 ?_
  refine v_isubN K (by omega) dX10_comes_100 ?_
  refine v_iret K dX10_comes_101 ?_
  exact ⟨some_int (congrArg nI (by omega)), by rw [← add_rw]; exact hRr7⟩

abbrev P_X10_way (h s : Mm) (τ τk : Nat → List Int32) (k m c : Int32) : Option Value → Mm → Prop := fun r h2 => r = some (.int (Y_way s k m c).1) ∧ RR h2 (Y_way s k m c).2
theorem c_X10_way {l : Launch} (h s : Mm) (τ τk : Nat → List Int32) (k m c : Int32) (hR : RR h s) (hI : INV s τ τk) : Con l yX10_way cX10_way 4 (some .int) 2 47 132 GL h [.ref 118, .int k, .int m, .int c] (P_X10_way h s τ τk k m c) := by
  refine Con.ofV (own := "FoxRoundsModel") (nm := "way") rfl rfl (by decide) (Nat.le_of_ble_eq_true rfl) ?_
  intro κ ρ hkl K
  subst hkl
  show V κ (QM κ (132, ρ, GL, 0, 0) (P_X10_way h s τ τk k m c)) 4 (132, ρ, GL, 0, 0) h 0 [(0, .ref 118), (1, .int k), (2, .int m), (3, .int c)] []
  have hd := hI.d
  have hn8 := hd.nw8
  have ht5 := hd.nt5
  refine v_iload_n K dX10_way_0 rfl ?_
  refine v_iload_n K dX10_way_1 rfl ?_
  refine v_iload_n K dX10_way_2 rfl ?_
  refine v_callS (As := [.int k, .int m, .int c]) K (c_X10_isRight h k m c) lX10_163 rfl ⟨by decide, by decide⟩ (Nat.le_of_ble_eq_true rfl) dX10_way_3 (fun r1 h1 hp1 => ?_) rfl
  obtain ⟨rfl, rfl⟩ := hp1
  refine v_some ?_
  refine v_ifB_ne (tgt := 15) K dX10_way_6 rfl (fun c1 => ?_) (fun c1 => ?_)
  · skip
    refine v_aload_n K dX10_way_15 rfl ?_
    refine v_getr (q := 119) K fX10_7 sh_118 pl_118 gl_118_0 dX10_way_16 ?_
    refine v_bipushN K 10 rfl dX10_way_19 ?_
    refine v_iald (x := nI (nwD (s 119))) K sh_119 pl_119 (by omega) ((hR.at RA_119).trans hd.nw) dX10_way_21 ?_
    refine v_bipushN K 8 rfl dX10_way_22 ?_
    refine v_icmpN_ne (tgt := 35) K (by omega) (by omega) dX10_way_24 rfl (fun c2 => ?_) (fun c2 => ?_)
    · skip
      refine v_aload_n K dX10_way_35 rfl ?_
      refine v_iload_n K dX10_way_36 rfl ?_
      refine v_iload_n K dX10_way_37 rfl ?_
      refine v_iload_n K dX10_way_38 rfl ?_
      refine v_callV (As := [.int k, .int m, .int c]) K (c_X10_comes h s k m c hR hd (by omega)) lX10_167 ck_X10 rfl sh_118 pl_118 rfl ⟨by decide, by decide⟩ (Nat.le_of_ble_eq_true rfl) dX10_way_39 (fun r2 h2 hp2 => ?_) rfl
      obtain ⟨rfl, hRq1⟩ := hp2
      refine v_some ?_
      refine v_iret K dX10_way_42 ?_
      have eY : Y_way s k m c = (nI (nwD (s 119)), (rw2 s 119 (addWD (s 119) k m c))) := by
        unfold Y_way
        refine (@if_neg _ (Classical.propDecidable _) (fun q => q (by first | assumption | exact ⟨_, by assumption, rfl⟩ | exact Or.inl rfl | exact Or.inr (Or.inl rfl) | exact Or.inr (Or.inr rfl) | omega)) _ _ _).trans ?_
        refine (@if_neg _ (Classical.propDecidable _) (fun q => absurd q (by assumption)) _ _ _).trans ?_
        rfl
      exact rfin eY hRq1
    · skip
      refine v_aload_n K dX10_way_27 rfl ?_
      refine v_iconstN K 4 rfl dX10_way_28 ?_
      refine v_callV (As := [.int (nI 4)]) K (c_X10_finds h 4 (by omega)) lX10_113 ck_X10 rfl sh_118 pl_118 rfl ⟨by decide, by decide⟩ (Nat.le_of_ble_eq_true rfl) dX10_way_29 (fun r3 h3 hp3 => ?_) rfl
      obtain ⟨rfl, rfl⟩ := hp3
      refine v_some ?_
      have hRf1 : RR (u2 h 122 4 (h 122 4 + nI 1)) (u2 s 122 4 (s 122 4 + nI 1)) := by rw [show (h 122 4) = s 122 4 from hR.at RA_122]; exact hR.u RA_122
      refine v_goto (tgt := 42) K dX10_way_32 rfl ?_
      refine v_iret K dX10_way_42 ?_
      have eY : Y_way s k m c = ((-1000000000) - nI 4, (u2 s 122 4 (s 122 4 + nI 1))) := by
        unfold Y_way
        refine (@if_neg _ (Classical.propDecidable _) (fun q => q (by first | assumption | exact ⟨_, by assumption, rfl⟩ | exact Or.inl rfl | exact Or.inr (Or.inl rfl) | exact Or.inr (Or.inr rfl) | omega)) _ _ _).trans ?_
        refine (@if_pos _ (Classical.propDecidable _) (by first | assumption | exact ⟨_, by assumption, rfl⟩ | exact Or.inl rfl | exact Or.inr (Or.inl rfl) | exact Or.inr (Or.inr rfl) | omega) _ _ _).trans ?_
        first | rfl | (rfl)
      exact rfin eY hRf1
  · skip
    refine v_aload_n K dX10_way_9 rfl ?_
    refine v_iconstN K 1 rfl dX10_way_10 ?_
    refine v_callV (As := [.int (nI 1)]) K (c_X10_finds h 1 (by omega)) lX10_113 ck_X10 rfl sh_118 pl_118 rfl ⟨by decide, by decide⟩ (Nat.le_of_ble_eq_true rfl) dX10_way_11 (fun r4 h4 hp4 => ?_) rfl
    obtain ⟨rfl, rfl⟩ := hp4
    refine v_some ?_
    have hRf2 : RR (u2 h 122 1 (h 122 1 + nI 1)) (u2 s 122 1 (s 122 1 + nI 1)) := by rw [show (h 122 1) = s 122 1 from hR.at RA_122]; exact hR.u RA_122
    refine v_iret K dX10_way_14 ?_
    have eY : Y_way s k m c = ((-1000000000) - nI 1, (u2 s 122 1 (s 122 1 + nI 1))) := by
      unfold Y_way
      refine (@if_pos _ (Classical.propDecidable _) (fun q => absurd q (by assumption)) _ _ _).trans ?_
      first | rfl | (rfl)
    exact rfin eY hRf2

abbrev P_X10_harmOf (h s : Mm) (m : Int32) : Option Value → Mm → Prop := fun r h2 => r = some (.int (harmD (s 119) m 12)) ∧ h = h2
theorem c_X10_harmOf {l : Launch} (h s : Mm) (m : Int32) (hR : RR h s) : Con l yX10_harmOf cX10_harmOf 4 (some .int) 0 0 132 GL h [.ref 118, .int m] (P_X10_harmOf h s m) := by
  refine Con.ofV (own := "FoxRoundsModel") (nm := "harmOf") rfl rfl (by decide) (Nat.le_of_ble_eq_true rfl) ?_
  intro κ ρ hkl K
  subst hkl
  show V κ (QM κ (132, ρ, GL, 0, 0) (P_X10_harmOf h s m)) 4 (132, ρ, GL, 0, 0) h 0 [(0, .ref 118), (1, .int m)] []
  refine v_iconstN K 0 rfl dX10_harmOf_0 ?_
  refine v_istore_n (lv2 := [(2, .int (nI 0)), (0, .ref 118), (1, .int m)]) K dX10_harmOf_1 (by decide) rfl ?_
  refine v_iconstN K 0 rfl dX10_harmOf_2 ?_
  refine v_istore_n (lv2 := [(3, .int (nI 0)), (2, .int (nI 0)), (0, .ref 118), (1, .int m)]) K dX10_harmOf_3 (by decide) rfl ?_
  have L4 : ∀ (mm : Nat) (v : Int32) (k : Nat) (hk : k ≤ 12) (hv : harmD (s 119) m k = v), 13 - k < mm → V κ (QM κ (132, ρ, GL, 0, 0) (P_X10_harmOf h s m)) 4 (132, ρ, GL, 0, 0) h 4 [(0, .ref 118), (1, .int m), (2, .int v), (3, .int (nI k))] [] := by
    intro mm
    induction mm with
    | zero => intro v k hk hv hmm; exact absurd hmm (Nat.not_lt_zero _)
    | succ mm ih4 =>
      intro v k hk hv hmm
      refine v_iload_n K dX10_harmOf_4 rfl ?_
      refine v_bipushN K 12 rfl dX10_harmOf_5 ?_
      refine v_icmpN_ge (tgt := 74) K (by omega) (by omega) dX10_harmOf_7 rfl (fun c1 => ?_) (fun c1 => ?_)
      · skip
        refine v_iload_n K dX10_harmOf_74 rfl ?_
        refine v_iret K dX10_harmOf_75 ?_
        obtain rfl : k = 12 := by omega
        exact ⟨some_int hv.symm, rfl⟩
      · skip
        refine v_iload_n K dX10_harmOf_10 rfl ?_
        refine v_aload_n K dX10_harmOf_11 rfl ?_
        refine v_getr (q := 119) K fX10_7 sh_118 pl_118 gl_118_0 dX10_harmOf_12 ?_
        refine v_bipushN K 16 rfl dX10_harmOf_15 ?_
        refine v_iload_n K dX10_harmOf_17 rfl ?_
        refine v_iaddN K dX10_harmOf_18 ?_
        refine v_iald (x := s 119 (16 + k)) K sh_119 pl_119 (by omega) (hR.at RA_119) dX10_harmOf_19 ?_
        refine v_aload_n K dX10_harmOf_20 rfl ?_
        refine v_getr (q := 119) K fX10_7 sh_118 pl_118 gl_118_0 dX10_harmOf_21 ?_
        refine v_bipushN K 6 rfl dX10_harmOf_24 ?_
        refine v_iald (x := s 119 6) K sh_119 pl_119 (by omega) (hR.at RA_119) dX10_harmOf_26 ?_
        refine v_iadd K dX10_harmOf_27 ?_
        refine v_iload_n K dX10_harmOf_28 rfl ?_
        refine v_icmp_le (tgt := 36) K dX10_harmOf_29 rfl (fun c2 => ?_) (fun c2 => ?_)
        · skip
          refine v_iconstN K 0 rfl dX10_harmOf_36 ?_
          refine v_iadd K dX10_harmOf_37 ?_
          refine v_istore_n (lv2 := [(2, .int (v + (nI 0))), (0, .ref 118), (1, .int m), (3, .int (nI k))]) K dX10_harmOf_38 (by decide) rfl ?_
          refine v_iload_n K dX10_harmOf_39 rfl ?_
          refine v_iload_n K dX10_harmOf_40 rfl ?_
          refine v_aload_n K dX10_harmOf_41 rfl ?_
          refine v_getr (q := 119) K fX10_7 sh_118 pl_118 gl_118_0 dX10_harmOf_42 ?_
          refine v_bipushN K 16 rfl dX10_harmOf_45 ?_
          refine v_iload_n K dX10_harmOf_47 rfl ?_
          refine v_iaddN K dX10_harmOf_48 ?_
          refine v_iald (x := s 119 (16 + k)) K sh_119 pl_119 (by omega) (hR.at RA_119) dX10_harmOf_49 ?_
          refine v_aload_n K dX10_harmOf_50 rfl ?_
          refine v_getr (q := 119) K fX10_7 sh_118 pl_118 gl_118_0 dX10_harmOf_51 ?_
          refine v_bipushN K 7 rfl dX10_harmOf_54 ?_
          refine v_iald (x := s 119 7) K sh_119 pl_119 (by omega) (hR.at RA_119) dX10_harmOf_56 ?_
          refine v_iadd K dX10_harmOf_57 ?_
          refine v_icmp_le (tgt := 65) K dX10_harmOf_58 rfl (fun c3 => ?_) (fun c3 => ?_)
          · skip
            refine v_iconstN K 0 rfl dX10_harmOf_65 ?_
            refine v_iadd K dX10_harmOf_66 ?_
            refine v_istore_n (lv2 := [(2, .int ((v + (nI 0)) + (nI 0))), (0, .ref 118), (1, .int m), (3, .int (nI k))]) K dX10_harmOf_67 (by decide) rfl ?_
            refine v_iincN (lv2 := [(3, .int (nI (k + 1))), (2, .int ((v + (nI 0)) + (nI 0))), (0, .ref 118), (1, .int m)]) K 1 dX10_harmOf_68 rfl rfl (by decide) rfl ?_
            refine v_goto (tgt := 4) K dX10_harmOf_71 rfl ?_
            refine v_sub (lv2 := [(0, .ref 118), (1, .int m), (2, .int ((v + (nI 0)) + (nI 0))), (3, .int (nI (k + 1)))]) (by simp) ?_
            exact ih4 ((v + (nI 0)) + (nI 0)) (k + 1) (by first | assumption | omega | rfl) (by rw [harmD, if_neg (Int32.not_lt.mpr c2), if_neg (Int32.not_lt.mpr c3), hv]) (by omega)
          · skip
            refine v_iconstN K 5 rfl dX10_harmOf_61 ?_
            refine v_goto (tgt := 66) K dX10_harmOf_62 rfl ?_
            refine v_iadd K dX10_harmOf_66 ?_
            refine v_istore_n (lv2 := [(2, .int ((v + (nI 0)) + (nI 5))), (0, .ref 118), (1, .int m), (3, .int (nI k))]) K dX10_harmOf_67 (by decide) rfl ?_
            refine v_iincN (lv2 := [(3, .int (nI (k + 1))), (2, .int ((v + (nI 0)) + (nI 5))), (0, .ref 118), (1, .int m)]) K 1 dX10_harmOf_68 rfl rfl (by decide) rfl ?_
            refine v_goto (tgt := 4) K dX10_harmOf_71 rfl ?_
            refine v_sub (lv2 := [(0, .ref 118), (1, .int m), (2, .int ((v + (nI 0)) + (nI 5))), (3, .int (nI (k + 1)))]) (by simp) ?_
            exact ih4 ((v + (nI 0)) + (nI 5)) (k + 1) (by first | assumption | omega | rfl) (by rw [harmD, if_neg (Int32.not_lt.mpr c2), if_pos (Int32.not_le.mp c3), hv]) (by omega)
        · skip
          refine v_iconstN K 2 rfl dX10_harmOf_32 ?_
          refine v_goto (tgt := 37) K dX10_harmOf_33 rfl ?_
          refine v_iadd K dX10_harmOf_37 ?_
          refine v_istore_n (lv2 := [(2, .int (v + (nI 2))), (0, .ref 118), (1, .int m), (3, .int (nI k))]) K dX10_harmOf_38 (by decide) rfl ?_
          refine v_iload_n K dX10_harmOf_39 rfl ?_
          refine v_iload_n K dX10_harmOf_40 rfl ?_
          refine v_aload_n K dX10_harmOf_41 rfl ?_
          refine v_getr (q := 119) K fX10_7 sh_118 pl_118 gl_118_0 dX10_harmOf_42 ?_
          refine v_bipushN K 16 rfl dX10_harmOf_45 ?_
          refine v_iload_n K dX10_harmOf_47 rfl ?_
          refine v_iaddN K dX10_harmOf_48 ?_
          refine v_iald (x := s 119 (16 + k)) K sh_119 pl_119 (by omega) (hR.at RA_119) dX10_harmOf_49 ?_
          refine v_aload_n K dX10_harmOf_50 rfl ?_
          refine v_getr (q := 119) K fX10_7 sh_118 pl_118 gl_118_0 dX10_harmOf_51 ?_
          refine v_bipushN K 7 rfl dX10_harmOf_54 ?_
          refine v_iald (x := s 119 7) K sh_119 pl_119 (by omega) (hR.at RA_119) dX10_harmOf_56 ?_
          refine v_iadd K dX10_harmOf_57 ?_
          refine v_icmp_le (tgt := 65) K dX10_harmOf_58 rfl (fun c4 => ?_) (fun c4 => ?_)
          · skip
            refine v_iconstN K 0 rfl dX10_harmOf_65 ?_
            refine v_iadd K dX10_harmOf_66 ?_
            refine v_istore_n (lv2 := [(2, .int ((v + (nI 2)) + (nI 0))), (0, .ref 118), (1, .int m), (3, .int (nI k))]) K dX10_harmOf_67 (by decide) rfl ?_
            refine v_iincN (lv2 := [(3, .int (nI (k + 1))), (2, .int ((v + (nI 2)) + (nI 0))), (0, .ref 118), (1, .int m)]) K 1 dX10_harmOf_68 rfl rfl (by decide) rfl ?_
            refine v_goto (tgt := 4) K dX10_harmOf_71 rfl ?_
            refine v_sub (lv2 := [(0, .ref 118), (1, .int m), (2, .int ((v + (nI 2)) + (nI 0))), (3, .int (nI (k + 1)))]) (by simp) ?_
            exact ih4 ((v + (nI 2)) + (nI 0)) (k + 1) (by first | assumption | omega | rfl) (by rw [harmD, if_pos (Int32.not_le.mp c2), if_neg (Int32.not_lt.mpr c4), hv]) (by omega)
          · skip
            refine v_iconstN K 5 rfl dX10_harmOf_61 ?_
            refine v_goto (tgt := 66) K dX10_harmOf_62 rfl ?_
            refine v_iadd K dX10_harmOf_66 ?_
            refine v_istore_n (lv2 := [(2, .int ((v + (nI 2)) + (nI 5))), (0, .ref 118), (1, .int m), (3, .int (nI k))]) K dX10_harmOf_67 (by decide) rfl ?_
            refine v_iincN (lv2 := [(3, .int (nI (k + 1))), (2, .int ((v + (nI 2)) + (nI 5))), (0, .ref 118), (1, .int m)]) K 1 dX10_harmOf_68 rfl rfl (by decide) rfl ?_
            refine v_goto (tgt := 4) K dX10_harmOf_71 rfl ?_
            refine v_sub (lv2 := [(0, .ref 118), (1, .int m), (2, .int ((v + (nI 2)) + (nI 5))), (3, .int (nI (k + 1)))]) (by simp) ?_
            exact ih4 ((v + (nI 2)) + (nI 5)) (k + 1) (by first | assumption | omega | rfl) (by rw [harmD, if_pos (Int32.not_le.mp c2), if_pos (Int32.not_le.mp c4), hv]) (by omega)
  refine v_sub (lv2 := [(0, .ref 118), (1, .int m), (2, .int (nI 0)), (3, .int (nI 0))]) (by simp) ?_
  exact L4 (13 - 0 + 1) (nI 0) 0 (by first | assumption | omega | rfl) (by rfl) (Nat.lt_succ_self _)

abbrev P_X10_harm (h s : Mm) (τ τk : Nat → List Int32) (w : Int32) : Option Value → Mm → Prop := fun r h2 => r = some (.int (Y_harm s w).1) ∧ RR h2 (Y_harm s w).2
theorem c_X10_harm {l : Launch} (h s : Mm) (τ τk : Nat → List Int32) (w : Int32) (hR : RR h s) (hI : INV s τ τk) : Con l yX10_harm cX10_harm 2 (some .int) 1 25 132 GL h [.ref 118, .int w] (P_X10_harm h s τ τk w) := by
  refine Con.ofV (own := "FoxRoundsModel") (nm := "harm") rfl rfl (by decide) (Nat.le_of_ble_eq_true rfl) ?_
  intro κ ρ hkl K
  subst hkl
  show V κ (QM κ (132, ρ, GL, 0, 0) (P_X10_harm h s τ τk w)) 2 (132, ρ, GL, 0, 0) h 0 [(0, .ref 118), (1, .int w)] []
  have hd := hI.d
  have hn8 := hd.nw8
  have ht5 := hd.nt5
  refine v_iload_n K dX10_harm_0 rfl ?_
  refine v_i2l K dX10_harm_1 rfl ?_
  refine v_lconst (v := (nI 0).toInt64) K dX10_harm_2 (by decide) ?_
  refine v_ldc2 K kX10_249 dX10_harm_3 ?_
  refine v_topL (y := (nI 1439).toInt64) (by decide) ?_
  refine v_callS (As := [.long w.toInt64, .long (nI 0).toInt64, .long (nI 1439).toInt64]) K (c_X10_in h w (nI 0) (nI 1439)) lX10_51 rfl ⟨by decide, by decide⟩ (Nat.le_of_ble_eq_true rfl) dX10_harm_6 (fun r1 h1 hp1 => ?_) rfl
  obtain ⟨rfl, rfl⟩ := hp1
  refine v_some ?_
  rw [show (nI 0 ≤ w ∧ w ≤ nI 1439) = ix w 1440 from in_ix (by decide)]
  refine v_ifB_eq (tgt := 20) K dX10_harm_9 rfl (fun c1 => ?_) (fun c1 => ?_)
  · skip
    refine v_aload_n K dX10_harm_20 rfl ?_
    refine v_iconstN K 1 rfl dX10_harm_21 ?_
    refine v_callV (As := [.int (nI 1)]) K (c_X10_finds h 1 (by omega)) lX10_113 ck_X10 rfl sh_118 pl_118 rfl ⟨by decide, by decide⟩ (Nat.le_of_ble_eq_true rfl) dX10_harm_22 (fun r2 h2 hp2 => ?_) rfl
    obtain ⟨rfl, rfl⟩ := hp2
    refine v_some ?_
    have hRf1 : RR (u2 h 122 1 (h 122 1 + nI 1)) (u2 s 122 1 (s 122 1 + nI 1)) := by rw [show (h 122 1) = s 122 1 from hR.at RA_122]; exact hR.u RA_122
    refine v_iret K dX10_harm_25 ?_
    have eY : Y_harm s w = ((-1000000000) - nI 1, (u2 s 122 1 (s 122 1 + nI 1))) := by
      unfold Y_harm
      refine (@if_neg _ (Classical.propDecidable _) (fun q => absurd q (by assumption)) _ _ _).trans ?_
      first | rfl | (rfl)
    exact rfin eY hRf1
  · skip
    obtain ⟨j1, Hj1, rfl⟩ := c1
    refine v_aload_n K dX10_harm_12 rfl ?_
    refine v_iload_n K dX10_harm_13 rfl ?_
    refine v_callV (As := [.int (nI j1)]) K (c_X10_harmOf h s (nI j1) hR) lX10_251 ck_X10 rfl sh_118 pl_118 rfl ⟨by decide, by decide⟩ (Nat.le_of_ble_eq_true rfl) dX10_harm_14 (fun r3 h3 hp3 => ?_) rfl
    obtain ⟨rfl, rfl⟩ := hp3
    refine v_some ?_
    refine v_goto (tgt := 25) K dX10_harm_17 rfl ?_
    refine v_iret K dX10_harm_25 ?_
    have eY : Y_harm s (nI j1) = (harmD (s 119) (nI j1) 12, s) := by
      unfold Y_harm
      refine (@if_pos _ (Classical.propDecidable _) (by first | assumption | exact ⟨_, by assumption, rfl⟩ | exact Or.inl rfl | exact Or.inr (Or.inl rfl) | exact Or.inr (Or.inr rfl) | omega) _ _ _).trans ?_
      first | rfl | ((try rw [cl_ix (show j1 < 2 ^ 31 by omega)]))
    exact rfin eY hR

abbrev P_X10_clock (h s : Mm) (τ τk : Nat → List Int32) : Option Value → Mm → Prop := fun r h2 => r = some (.int (Y_clock s ).1) ∧ RR h2 (Y_clock s ).2
theorem c_X10_clock {l : Launch} (h s : Mm) (τ τk : Nat → List Int32) (hR : RR h s) (hI : INV s τ τk) : Con l yX10_clock cX10_clock 3 (some .int) 1 23 132 GL h [.ref 118] (P_X10_clock h s τ τk) := by
  refine Con.ofV (own := "FoxRoundsModel") (nm := "clock") rfl rfl (by decide) (Nat.le_of_ble_eq_true rfl) ?_
  intro κ ρ hkl K
  subst hkl
  show V κ (QM κ (132, ρ, GL, 0, 0) (P_X10_clock h s τ τk)) 3 (132, ρ, GL, 0, 0) h 0 [(0, .ref 118)] []
  have hd := hI.d
  have hn8 := hd.nw8
  have ht5 := hd.nt5
  refine v_iconstN K 0 rfl dX10_clock_0 ?_
  refine v_istore_n (lv2 := [(1, .int (nI 0)), (0, .ref 118)]) K dX10_clock_1 (by decide) rfl ?_
  refine v_iconstN K 1 rfl dX10_clock_2 ?_
  refine v_istore_n (lv2 := [(2, .int (nI 1)), (1, .int (nI 0)), (0, .ref 118)]) K dX10_clock_3 (by decide) rfl ?_
  have L4 : ∀ (mm : Nat) (b : Nat) (k : Nat) (hk : 1 ≤ k ∧ k ≤ 1440) (hb : bestM (s 119) (k - 1) = b), 1441 - k < mm → V κ (QM κ (132, ρ, GL, 0, 0) (P_X10_clock h s τ τk)) 3 (132, ρ, GL, 0, 0) h 4 [(0, .ref 118), (1, .int (nI b)), (2, .int (nI k))] [] := by
    intro mm
    induction mm with
    | zero => intro b k hk hb hmm; exact absurd hmm (Nat.not_lt_zero _)
    | succ mm ih4 =>
      intro b k hk hb hmm
      refine v_iload_n K dX10_clock_4 rfl ?_
      refine v_sipushN K 1440 rfl dX10_clock_5 ?_
      refine v_icmpN_ge (tgt := 36) K (by omega) (by omega) dX10_clock_8 rfl (fun c1 => ?_) (fun c1 => ?_)
      · skip
        refine v_iload_n K dX10_clock_36 rfl ?_
        refine v_iret K dX10_clock_37 ?_
        have eY : Y_clock s  = (nI b, s) := by
          unfold Y_clock
          rw [show (1439 : Nat) = k - 1 by omega, hb]
        exact rfin eY hR
      · skip
        refine v_aload_n K dX10_clock_11 rfl ?_
        refine v_iload_n K dX10_clock_12 rfl ?_
        refine v_callV (As := [.int (nI k)]) K (c_X10_harmOf h s (nI k) hR) lX10_251 ck_X10 rfl sh_118 pl_118 rfl ⟨by decide, by decide⟩ (Nat.le_of_ble_eq_true rfl) dX10_clock_13 (fun r1 h1 hp1 => ?_) rfl
        obtain ⟨rfl, rfl⟩ := hp1
        refine v_some ?_
        refine v_aload_n K dX10_clock_16 rfl ?_
        refine v_iload_n K dX10_clock_17 rfl ?_
        refine v_callV (As := [.int (nI b)]) K (c_X10_harmOf h s (nI b) hR) lX10_251 ck_X10 rfl sh_118 pl_118 rfl ⟨by decide, by decide⟩ (Nat.le_of_ble_eq_true rfl) dX10_clock_18 (fun r2 h2 hp2 => ?_) rfl
        obtain ⟨rfl, rfl⟩ := hp2
        refine v_some ?_
        refine v_icmp_ge (tgt := 28) K dX10_clock_21 rfl (fun c2 => ?_) (fun c2 => ?_)
        · skip
          refine v_iload_n K dX10_clock_28 rfl ?_
          refine v_istore_n (lv2 := [(1, .int (nI b)), (0, .ref 118), (2, .int (nI k))]) K dX10_clock_29 (by decide) rfl ?_
          refine v_iincN (lv2 := [(2, .int (nI (k + 1))), (1, .int (nI b)), (0, .ref 118)]) K 1 dX10_clock_30 rfl rfl (by decide) rfl ?_
          refine v_goto (tgt := 4) K dX10_clock_33 rfl ?_
          refine v_sub (lv2 := [(0, .ref 118), (1, .int (nI b)), (2, .int (nI (k + 1)))]) (by simp) ?_
          exact ih4 b (k + 1) (by omega) (by rw [show k + 1 - 1 = (k - 1) + 1 by omega, bestM, hb, show k - 1 + 1 = k by omega]; exact if_neg (Int32.not_lt.mpr c2)) (by omega)
        · skip
          refine v_iload_n K dX10_clock_24 rfl ?_
          refine v_goto (tgt := 29) K dX10_clock_25 rfl ?_
          refine v_istore_n (lv2 := [(1, .int (nI k)), (0, .ref 118), (2, .int (nI k))]) K dX10_clock_29 (by decide) rfl ?_
          refine v_iincN (lv2 := [(2, .int (nI (k + 1))), (1, .int (nI k)), (0, .ref 118)]) K 1 dX10_clock_30 rfl rfl (by decide) rfl ?_
          refine v_goto (tgt := 4) K dX10_clock_33 rfl ?_
          refine v_sub (lv2 := [(0, .ref 118), (1, .int (nI k)), (2, .int (nI (k + 1)))]) (by simp) ?_
          exact ih4 k (k + 1) (by omega) (by rw [show k + 1 - 1 = (k - 1) + 1 by omega, bestM, hb, show k - 1 + 1 = k by omega]; exact if_pos (Int32.not_le.mp c2)) (by omega)
  refine v_sub (lv2 := [(0, .ref 118), (1, .int (nI 0)), (2, .int (nI 1))]) (by simp) ?_
  exact L4 (1441 - 1 + 1) 0 1 (by omega) (by rfl) (Nat.lt_succ_self _)

abbrev P_X10_yard (h s : Mm) (τ τk : Nat → List Int32) (w p u v : Int32) : Option Value → Mm → Prop := fun r h2 => r = some (.int (Y_yard s w p u v).1) ∧ RR h2 (Y_yard s w p u v).2
theorem c_X10_yard {l : Launch} (h s : Mm) (τ τk : Nat → List Int32) (w p u v : Int32) (hR : RR h s) (hI : INV s τ τk) : Con l yX10_yard cX10_yard 7 (some .int) 1 25 132 GL h [.ref 118, .int w, .int p, .int u, .int v] (P_X10_yard h s τ τk w p u v) := by
  refine Con.ofV (own := "FoxRoundsModel") (nm := "yard") rfl rfl (by decide) (Nat.le_of_ble_eq_true rfl) ?_
  intro κ ρ hkl K
  subst hkl
  show V κ (QM κ (132, ρ, GL, 0, 0) (P_X10_yard h s τ τk w p u v)) 7 (132, ρ, GL, 0, 0) h 0 [(0, .ref 118), (1, .int w), (2, .int p), (3, .int u), (4, .int v)] []
  have hd := hI.d
  have hn8 := hd.nw8
  have ht5 := hd.nt5
  refine v_iload_n K dX10_yard_0 rfl ?_
  refine v_i2l K dX10_yard_1 rfl ?_
  refine v_lconst (v := (nI 0).toInt64) K dX10_yard_2 (by decide) ?_
  refine v_ldc2 K kX10_235 dX10_yard_3 ?_
  refine v_topL (y := (nI 5).toInt64) (by decide) ?_
  refine v_callS (As := [.long w.toInt64, .long (nI 0).toInt64, .long (nI 5).toInt64]) K (c_X10_in h w (nI 0) (nI 5)) lX10_51 rfl ⟨by decide, by decide⟩ (Nat.le_of_ble_eq_true rfl) dX10_yard_6 (fun r1 h1 hp1 => ?_) rfl
  obtain ⟨rfl, rfl⟩ := hp1
  refine v_some ?_
  rw [show (nI 0 ≤ w ∧ w ≤ nI 5) = ix w 6 from in_ix (by decide)]
  refine v_ifB_eq (tgt := 47) K dX10_yard_9 rfl (fun c1 => ?_) (fun c1 => ?_)
  · skip
    refine v_aload_n K dX10_yard_47 rfl ?_
    refine v_iconstN K 1 rfl dX10_yard_48 ?_
    refine v_callV (As := [.int (nI 1)]) K (c_X10_finds h 1 (by omega)) lX10_113 ck_X10 rfl sh_118 pl_118 rfl ⟨by decide, by decide⟩ (Nat.le_of_ble_eq_true rfl) dX10_yard_49 (fun r2 h2 hp2 => ?_) rfl
    obtain ⟨rfl, rfl⟩ := hp2
    refine v_some ?_
    have hRf1 : RR (u2 h 122 1 (h 122 1 + nI 1)) (u2 s 122 1 (s 122 1 + nI 1)) := by rw [show (h 122 1) = s 122 1 from hR.at RA_122]; exact hR.u RA_122
    refine v_iret K dX10_yard_52 ?_
    have eY : Y_yard s w p u v = ((-1000000000) - nI 1, (u2 s 122 1 (s 122 1 + nI 1))) := by
      unfold Y_yard
      refine (@if_neg _ (Classical.propDecidable _) (fun q => by first | exact absurd q.1 (by assumption) | exact absurd q.2.1 (by assumption) | exact absurd q.2.2.1 (by assumption) | exact absurd q.2.2.2 (by assumption)) _ _ _).trans ?_
      first | rfl | (rfl)
    exact rfin eY hRf1
  · skip
    obtain ⟨j1, Hj1, rfl⟩ := c1
    refine v_iload_n K dX10_yard_12 rfl ?_
    refine v_i2l K dX10_yard_13 rfl ?_
    refine v_lconst (v := (nI 0).toInt64) K dX10_yard_14 (by decide) ?_
    refine v_ldc2 K kX10_141 dX10_yard_15 ?_
    refine v_topL (y := (nI 99).toInt64) (by decide) ?_
    refine v_callS (As := [.long p.toInt64, .long (nI 0).toInt64, .long (nI 99).toInt64]) K (c_X10_in h p (nI 0) (nI 99)) lX10_51 rfl ⟨by decide, by decide⟩ (Nat.le_of_ble_eq_true rfl) dX10_yard_18 (fun r3 h3 hp3 => ?_) rfl
    obtain ⟨rfl, rfl⟩ := hp3
    refine v_some ?_
    rw [show (nI 0 ≤ p ∧ p ≤ nI 99) = ix p 100 from in_ix (by decide)]
    refine v_ifB_eq (tgt := 47) K dX10_yard_21 rfl (fun c2 => ?_) (fun c2 => ?_)
    · skip
      refine v_aload_n K dX10_yard_47 rfl ?_
      refine v_iconstN K 1 rfl dX10_yard_48 ?_
      refine v_callV (As := [.int (nI 1)]) K (c_X10_finds h 1 (by omega)) lX10_113 ck_X10 rfl sh_118 pl_118 rfl ⟨by decide, by decide⟩ (Nat.le_of_ble_eq_true rfl) dX10_yard_49 (fun r4 h4 hp4 => ?_) rfl
      obtain ⟨rfl, rfl⟩ := hp4
      refine v_some ?_
      have hRf2 : RR (u2 h 122 1 (h 122 1 + nI 1)) (u2 s 122 1 (s 122 1 + nI 1)) := by rw [show (h 122 1) = s 122 1 from hR.at RA_122]; exact hR.u RA_122
      refine v_iret K dX10_yard_52 ?_
      have eY : Y_yard s (nI j1) p u v = ((-1000000000) - nI 1, (u2 s 122 1 (s 122 1 + nI 1))) := by
        unfold Y_yard
        refine (@if_neg _ (Classical.propDecidable _) (fun q => by first | exact absurd q.1 (by assumption) | exact absurd q.2.1 (by assumption) | exact absurd q.2.2.1 (by assumption) | exact absurd q.2.2.2 (by assumption)) _ _ _).trans ?_
        first | rfl | ((try rw [cl_ix (show j1 < 2 ^ 31 by omega)]))
      exact rfin eY hRf2
    · skip
      obtain ⟨j2, Hj2, rfl⟩ := c2
      refine v_iload_n K dX10_yard_24 rfl ?_
      refine v_i2l K dX10_yard_25 rfl ?_
      refine v_lconst (v := (nI 0).toInt64) K dX10_yard_26 (by decide) ?_
      refine v_ldc2 K kX10_141 dX10_yard_27 ?_
      refine v_topL (y := (nI 99).toInt64) (by decide) ?_
      refine v_callS (As := [.long u.toInt64, .long (nI 0).toInt64, .long (nI 99).toInt64]) K (c_X10_in h u (nI 0) (nI 99)) lX10_51 rfl ⟨by decide, by decide⟩ (Nat.le_of_ble_eq_true rfl) dX10_yard_30 (fun r5 h5 hp5 => ?_) rfl
      obtain ⟨rfl, rfl⟩ := hp5
      refine v_some ?_
      rw [show (nI 0 ≤ u ∧ u ≤ nI 99) = ix u 100 from in_ix (by decide)]
      refine v_ifB_eq (tgt := 47) K dX10_yard_33 rfl (fun c3 => ?_) (fun c3 => ?_)
      · skip
        refine v_aload_n K dX10_yard_47 rfl ?_
        refine v_iconstN K 1 rfl dX10_yard_48 ?_
        refine v_callV (As := [.int (nI 1)]) K (c_X10_finds h 1 (by omega)) lX10_113 ck_X10 rfl sh_118 pl_118 rfl ⟨by decide, by decide⟩ (Nat.le_of_ble_eq_true rfl) dX10_yard_49 (fun r6 h6 hp6 => ?_) rfl
        obtain ⟨rfl, rfl⟩ := hp6
        refine v_some ?_
        have hRf3 : RR (u2 h 122 1 (h 122 1 + nI 1)) (u2 s 122 1 (s 122 1 + nI 1)) := by rw [show (h 122 1) = s 122 1 from hR.at RA_122]; exact hR.u RA_122
        refine v_iret K dX10_yard_52 ?_
        have eY : Y_yard s (nI j1) (nI j2) u v = ((-1000000000) - nI 1, (u2 s 122 1 (s 122 1 + nI 1))) := by
          unfold Y_yard
          refine (@if_neg _ (Classical.propDecidable _) (fun q => by first | exact absurd q.1 (by assumption) | exact absurd q.2.1 (by assumption) | exact absurd q.2.2.1 (by assumption) | exact absurd q.2.2.2 (by assumption)) _ _ _).trans ?_
          first | rfl | ((try rw [cl_ix (show j1 < 2 ^ 31 by omega)]) ; (try rw [cl_ix (show j2 < 2 ^ 31 by omega)]))
        exact rfin eY hRf3
      · skip
        obtain ⟨j3, Hj3, rfl⟩ := c3
        refine v_iload K dX10_yard_36 rfl ?_
        refine v_i2l K dX10_yard_38 rfl ?_
        refine v_lconst (v := (nI 0).toInt64) K dX10_yard_39 (by decide) ?_
        refine v_lconst (v := (nI 1).toInt64) K dX10_yard_40 (by decide) ?_
        refine v_callS (As := [.long v.toInt64, .long (nI 0).toInt64, .long (nI 1).toInt64]) K (c_X10_in h v (nI 0) (nI 1)) lX10_51 rfl ⟨by decide, by decide⟩ (Nat.le_of_ble_eq_true rfl) dX10_yard_41 (fun r7 h7 hp7 => ?_) rfl
        obtain ⟨rfl, rfl⟩ := hp7
        refine v_some ?_
        rw [show (nI 0 ≤ v ∧ v ≤ nI 1) = ix v 2 from in_ix (by decide)]
        refine v_ifB_ne (tgt := 53) K dX10_yard_44 rfl (fun c4 => ?_) (fun c4 => ?_)
        · skip
          obtain ⟨j4, Hj4, rfl⟩ := c4
          refine v_bipushN K 28 rfl dX10_yard_53 ?_
          refine v_iconstN K 3 rfl dX10_yard_55 ?_
          refine v_iload_n K dX10_yard_56 rfl ?_
          refine v_imulN K dX10_yard_57 ?_
          refine v_iaddN K dX10_yard_58 ?_
          refine v_istore (lv2 := [(5, .int (nI (28 + (3 * j1)))), (0, .ref 118), (1, .int (nI j1)), (2, .int (nI j2)), (3, .int (nI j3)), (4, .int (nI j4))]) K dX10_yard_59 (by decide) rfl ?_
          refine v_aload_n K dX10_yard_61 rfl ?_
          refine v_getr (q := 119) K fX10_7 sh_118 pl_118 gl_118_0 dX10_yard_62 ?_
          refine v_iload K dX10_yard_65 rfl ?_
          refine v_iald (x := s 119 (28 + (3 * j1))) K sh_119 pl_119 (by omega) (hR.at RA_119) dX10_yard_67 ?_
          refine v_istore (lv2 := [(6, .int (s 119 (28 + (3 * j1)))), (5, .int (nI (28 + (3 * j1)))), (0, .ref 118), (1, .int (nI j1)), (2, .int (nI j2)), (3, .int (nI j3)), (4, .int (nI j4))]) K dX10_yard_68 (by decide) rfl ?_
          refine v_aload_n K dX10_yard_70 rfl ?_
          refine v_getr (q := 119) K fX10_7 sh_118 pl_118 gl_118_0 dX10_yard_71 ?_
          refine v_iload K dX10_yard_74 rfl ?_
          refine v_iload_n K dX10_yard_76 rfl ?_
          refine v_iast K sh_119 pl_119 (by omega) dX10_yard_77 ?_
          have hRr8 : RR (u2 h 119 (28 + (3 * j1)) (nI j2)) (u2 s 119 (28 + (3 * j1)) (nI j2)) := hR.u RA_119
          refine v_aload_n K dX10_yard_78 rfl ?_
          refine v_getr (q := 119) K fX10_7 sh_118 pl_118 gl_118_0 dX10_yard_79 ?_
          refine v_iload K dX10_yard_82 rfl ?_
          refine v_iconstN K 1 rfl dX10_yard_84 ?_
          refine v_iaddN K dX10_yard_85 ?_
          refine v_iload_n K dX10_yard_86 rfl ?_
          refine v_iast K sh_119 pl_119 (by omega) dX10_yard_87 ?_
          have hRr9 : RR (u2 (u2 h 119 (28 + (3 * j1)) (nI j2)) 119 (28 + (3 * j1) + 1) (nI j3)) (u2 (u2 s 119 (28 + (3 * j1)) (nI j2)) 119 (28 + (3 * j1) + 1) (nI j3)) := hRr8.u RA_119
          refine v_aload_n K dX10_yard_88 rfl ?_
          refine v_getr (q := 119) K fX10_7 sh_118 pl_118 gl_118_0 dX10_yard_89 ?_
          refine v_iload K dX10_yard_92 rfl ?_
          refine v_iconstN K 2 rfl dX10_yard_94 ?_
          refine v_iaddN K dX10_yard_95 ?_
          refine v_iload K dX10_yard_96 rfl ?_
          refine v_iast K sh_119 pl_119 (by omega) dX10_yard_98 ?_
          have hRr10 : RR (u2 (u2 (u2 h 119 (28 + (3 * j1)) (nI j2)) 119 (28 + (3 * j1) + 1) (nI j3)) 119 (28 + (3 * j1) + 2) (nI j4)) (u2 (u2 (u2 s 119 (28 + (3 * j1)) (nI j2)) 119 (28 + (3 * j1) + 1) (nI j3)) 119 (28 + (3 * j1) + 2) (nI j4)) := hRr9.u RA_119
          refine v_iload K dX10_yard_99 rfl ?_
          refine v_iret K dX10_yard_101 ?_
          have eY : Y_yard s (nI j1) (nI j2) (nI j3) (nI j4) = (s 119 (28 + (3 * j1)), (u2 (u2 (u2 s 119 (28 + (3 * j1)) (nI j2)) 119 (28 + (3 * j1) + 1) (nI j3)) 119 (28 + (3 * j1) + 2) (nI j4))) := by
            unfold Y_yard
            refine (@if_pos _ (Classical.propDecidable _) (by refine ⟨?_, ?_, ?_, ?_⟩ <;> (first | assumption | exact ⟨_, by assumption, rfl⟩ | exact Or.inl rfl | exact Or.inr (Or.inl rfl) | exact Or.inr (Or.inr rfl) | omega)) _ _ _).trans ?_
            (rw [cl_ix (show j1 < 2 ^ 31 by omega)])
          exact rfin eY hRr10
        · skip
          refine v_aload_n K dX10_yard_47 rfl ?_
          refine v_iconstN K 1 rfl dX10_yard_48 ?_
          refine v_callV (As := [.int (nI 1)]) K (c_X10_finds h 1 (by omega)) lX10_113 ck_X10 rfl sh_118 pl_118 rfl ⟨by decide, by decide⟩ (Nat.le_of_ble_eq_true rfl) dX10_yard_49 (fun r11 h8 hp8 => ?_) rfl
          obtain ⟨rfl, rfl⟩ := hp8
          refine v_some ?_
          have hRf4 : RR (u2 h 122 1 (h 122 1 + nI 1)) (u2 s 122 1 (s 122 1 + nI 1)) := by rw [show (h 122 1) = s 122 1 from hR.at RA_122]; exact hR.u RA_122
          refine v_iret K dX10_yard_52 ?_
          have eY : Y_yard s (nI j1) (nI j2) (nI j3) v = ((-1000000000) - nI 1, (u2 s 122 1 (s 122 1 + nI 1))) := by
            unfold Y_yard
            refine (@if_neg _ (Classical.propDecidable _) (fun q => by first | exact absurd q.1 (by assumption) | exact absurd q.2.1 (by assumption) | exact absurd q.2.2.1 (by assumption) | exact absurd q.2.2.2 (by assumption)) _ _ _).trans ?_
            first | rfl | ((try rw [cl_ix (show j1 < 2 ^ 31 by omega)]) ; (try rw [cl_ix (show j2 < 2 ^ 31 by omega)]) ; (try rw [cl_ix (show j3 < 2 ^ 31 by omega)]))
          exact rfin eY hRf4

abbrev P_X10_trace (h s : Mm) (τ τk : Nat → List Int32) (w : Int32) : Option Value → Mm → Prop := fun r h2 => r = some (.int (Y_trace s w).1) ∧ RR h2 (Y_trace s w).2
theorem c_X10_trace {l : Launch} (h s : Mm) (τ τk : Nat → List Int32) (w : Int32) (hR : RR h s) (hI : INV s τ τk) : Con l yX10_trace cX10_trace 2 (some .int) 1 25 132 GL h [.ref 118, .int w] (P_X10_trace h s τ τk w) := by
  refine Con.ofV (own := "FoxRoundsModel") (nm := "trace") rfl rfl (by decide) (Nat.le_of_ble_eq_true rfl) ?_
  intro κ ρ hkl K
  subst hkl
  show V κ (QM κ (132, ρ, GL, 0, 0) (P_X10_trace h s τ τk w)) 2 (132, ρ, GL, 0, 0) h 0 [(0, .ref 118), (1, .int w)] []
  have hd := hI.d
  have hn8 := hd.nw8
  have ht5 := hd.nt5
  obtain ⟨tm, htm, etm⟩ := hI.2.2.2
  refine v_iload_n K dX10_trace_0 rfl ?_
  refine v_i2l K dX10_trace_1 rfl ?_
  refine v_lconst (v := (nI 0).toInt64) K dX10_trace_2 (by decide) ?_
  refine v_aload_n K dX10_trace_3 rfl ?_
  refine v_geti (x := nI tm) K fX10_268 sh_118 pl_118 (hR.2.2.trans etm) dX10_trace_4 ?_
  refine v_iconstN K 1 rfl dX10_trace_7 ?_
  refine v_isub K dX10_trace_8 ?_
  refine v_i2l K dX10_trace_9 rfl ?_
  refine v_callS (As := [.long w.toInt64, .long (nI 0).toInt64, .long ((nI tm) - (nI 1)).toInt64]) K (c_X10_in h w (nI 0) (nI tm - nI 1)) lX10_51 rfl ⟨by decide, by decide⟩ (Nat.le_of_ble_eq_true rfl) dX10_trace_10 (fun r1 h1 hp1 => ?_) rfl
  obtain ⟨rfl, rfl⟩ := hp1
  refine v_some ?_
  rw [show (nI 0 ≤ w ∧ w ≤ nI tm - nI 1) = ix w tm from propext (ix_rng1 (show tm < 2 ^ 30 by omega))]
  refine v_ifB_eq (tgt := 25) K dX10_trace_13 rfl (fun c1 => ?_) (fun c1 => ?_)
  · skip
    refine v_aload_n K dX10_trace_25 rfl ?_
    refine v_iconstN K 2 rfl dX10_trace_26 ?_
    refine v_callV (As := [.int (nI 2)]) K (c_X10_finds h 2 (by omega)) lX10_113 ck_X10 rfl sh_118 pl_118 rfl ⟨by decide, by decide⟩ (Nat.le_of_ble_eq_true rfl) dX10_trace_27 (fun r2 h2 hp2 => ?_) rfl
    obtain ⟨rfl, rfl⟩ := hp2
    refine v_some ?_
    have hRf1 : RR (u2 h 122 2 (h 122 2 + nI 1)) (u2 s 122 2 (s 122 2 + nI 1)) := by rw [show (h 122 2) = s 122 2 from hR.at RA_122]; exact hR.u RA_122
    refine v_iret K dX10_trace_30 ?_
    have eY : Y_trace s w = ((-1000000000) - nI 2, (u2 s 122 2 (s 122 2 + nI 1))) := by
      unfold Y_trace
      refine (@if_neg _ (Classical.propDecidable _) (by rw [etm, cl_ix (show tm < 2 ^ 31 by omega)]; assumption) _ _ _).trans ?_
      first | rfl | (rfl)
    exact rfin eY hRf1
  · skip
    obtain ⟨j1, Hj1, rfl⟩ := c1
    refine v_aload_n K dX10_trace_16 rfl ?_
    refine v_getr (q := 127) K fX10_35 sh_118 pl_118 gl_118_15 dX10_trace_17 ?_
    refine v_iload_n K dX10_trace_20 rfl ?_
    refine v_iald (x := s 127 j1) K sh_127 pl_127 (by omega) (hR.at RA_127) dX10_trace_21 ?_
    refine v_goto (tgt := 30) K dX10_trace_22 rfl ?_
    refine v_iret K dX10_trace_30 ?_
    have eY : Y_trace s (nI j1) = (s 127 j1, s) := by
      unfold Y_trace
      refine (@if_pos _ (Classical.propDecidable _) (by rw [etm, cl_ix (show tm < 2 ^ 31 by omega)]; exact ⟨_, by assumption, rfl⟩) _ _ _).trans ?_
      rw [cl_ix (show j1 < 2 ^ 31 by omega)]
    exact rfin eY hR

noncomputable def Y_image (s : Mm) : Rs := (s 118 3 + nI 1, u2 (rw2 s 121 (s 119)) 118 3 (s 118 3 + nI 1))
noncomputable def Y_restore (s : Mm) : Rs := @ite _ (s 118 3 = nI 0) (Classical.propDecidable _) (er s 2) ((s 121 8, rw2 s 119 (s 121)))

abbrev P_X10_image (h s : Mm) (τ τk : Nat → List Int32) : Option Value → Mm → Prop := fun r h2 => r = some (.int (Y_image s ).1) ∧ RR h2 (Y_image s ).2
theorem c_X10_image {l : Launch} (h s : Mm) (τ τk : Nat → List Int32) (hR : RR h s) (hI : INV s τ τk) : Con l yX10_image cX10_image 1 (some .int) 1 22 132 GL h [.ref 118] (P_X10_image h s τ τk) := by
  refine Con.ofV (own := "FoxRoundsModel") (nm := "image") rfl rfl (by decide) (Nat.le_of_ble_eq_true rfl) ?_
  intro κ ρ hkl K
  subst hkl
  show V κ (QM κ (132, ρ, GL, 0, 0) (P_X10_image h s τ τk)) 1 (132, ρ, GL, 0, 0) h 0 [(0, .ref 118)] []
  have hd := hI.d
  have hn8 := hd.nw8
  have ht5 := hd.nt5
  refine v_aload_n K dX10_image_0 rfl ?_
  refine v_getr (q := 119) K fX10_7 sh_118 pl_118 gl_118_0 dX10_image_1 ?_
  refine v_aload_n K dX10_image_4 rfl ?_
  refine v_getr (q := 121) K fX10_16 sh_118 pl_118 gl_118_2 dX10_image_5 ?_
  refine v_callS (As := [.ref 119, .ref 121]) K (c_X10_copies2 h 119 121 mP_119 mP_121 (by decide)) lX10_228 rfl ⟨by decide, by decide⟩ (Nat.le_of_ble_eq_true rfl) dX10_image_8 (fun r1 h1 hp1 => ?_) rfl
  obtain ⟨rfl, rfl⟩ := hp1
  refine v_none ?_
  have hRc1 : RR (rw2 h 121 (h 119)) (rw2 s 121 (s 119)) := by rw [hR.1 119 RA_119]; exact hR.rw RA_121
  refine v_aload_n K dX10_image_11 rfl ?_
  refine v_dup K dX10_image_12 rfl ?_
  refine v_geti (x := (rw2 s 121 (s 119)) 118 3) K fX10_297 sh_118 pl_118 hRc1.2.1 dX10_image_13 ?_
  refine v_iconstN K 1 rfl dX10_image_16 ?_
  refine v_iadd K dX10_image_17 ?_
  refine v_puti K pX10_297 sh_118 pl_118 dX10_image_18 ?_
  have hRr2 : RR (u2 (rw2 h 121 (h 119)) 118 3 (((rw2 s 121 (s 119)) 118 3) + (nI 1))) (u2 (rw2 s 121 (s 119)) 118 3 (((rw2 s 121 (s 119)) 118 3) + (nI 1))) := hRc1.o (by omega)
  refine v_aload_n K dX10_image_21 rfl ?_
  refine v_geti (x := (u2 (rw2 s 121 (s 119)) 118 3 (((rw2 s 121 (s 119)) 118 3) + (nI 1))) 118 3) K fX10_297 sh_118 pl_118 hRr2.2.1 dX10_image_22 ?_
  refine v_iret K dX10_image_25 ?_
  have eY : Y_image s  = ((u2 (rw2 s 121 (s 119)) 118 3 (((rw2 s 121 (s 119)) 118 3) + (nI 1))) 118 3, (u2 (rw2 s 121 (s 119)) 118 3 (((rw2 s 121 (s 119)) 118 3) + (nI 1)))) := by
    unfold Y_image
    rfl
  exact rfin eY hRr2

abbrev P_X10_restore (h s : Mm) (τ τk : Nat → List Int32) : Option Value → Mm → Prop := fun r h2 => r = some (.int (Y_restore s ).1) ∧ RR h2 (Y_restore s ).2
theorem c_X10_restore {l : Launch} (h s : Mm) (τ τk : Nat → List Int32) (hR : RR h s) (hI : INV s τ τk) : Con l yX10_restore cX10_restore 1 (some .int) 1 22 132 GL h [.ref 118] (P_X10_restore h s τ τk) := by
  refine Con.ofV (own := "FoxRoundsModel") (nm := "restore") rfl rfl (by decide) (Nat.le_of_ble_eq_true rfl) ?_
  intro κ ρ hkl K
  subst hkl
  show V κ (QM κ (132, ρ, GL, 0, 0) (P_X10_restore h s τ τk)) 1 (132, ρ, GL, 0, 0) h 0 [(0, .ref 118)] []
  have hd := hI.d
  have hn8 := hd.nw8
  have ht5 := hd.nt5
  refine v_aload_n K dX10_restore_0 rfl ?_
  refine v_geti (x := s 118 3) K fX10_297 sh_118 pl_118 hR.2.1 dX10_restore_1 ?_
  refine v_if_ne (tgt := 13) K dX10_restore_4 rfl (fun c1 => ?_) (fun c1 => ?_)
  · skip
    refine v_aload_n K dX10_restore_13 rfl ?_
    refine v_getr (q := 121) K fX10_16 sh_118 pl_118 gl_118_2 dX10_restore_14 ?_
    refine v_aload_n K dX10_restore_17 rfl ?_
    refine v_getr (q := 119) K fX10_7 sh_118 pl_118 gl_118_0 dX10_restore_18 ?_
    refine v_callS (As := [.ref 121, .ref 119]) K (c_X10_copies2 h 121 119 mP_121 mP_119 (by decide)) lX10_228 rfl ⟨by decide, by decide⟩ (Nat.le_of_ble_eq_true rfl) dX10_restore_21 (fun r1 h1 hp1 => ?_) rfl
    obtain ⟨rfl, rfl⟩ := hp1
    refine v_none ?_
    have hRc2 : RR (rw2 h 119 (h 121)) (rw2 s 119 (s 121)) := by rw [hR.1 121 RA_121]; exact hR.rw RA_119
    refine v_aload_n K dX10_restore_24 rfl ?_
    refine v_getr (q := 119) K fX10_7 sh_118 pl_118 gl_118_0 dX10_restore_25 ?_
    refine v_bipushN K 8 rfl dX10_restore_28 ?_
    refine v_iald (x := (rw2 s 119 (s 121)) 119 8) K sh_119 pl_119 (by omega) (hRc2.at RA_119) dX10_restore_30 ?_
    refine v_iret K dX10_restore_31 ?_
    have eY : Y_restore s  = ((rw2 s 119 (s 121)) 119 8, (rw2 s 119 (s 121))) := by
      unfold Y_restore
      refine (@if_neg _ (Classical.propDecidable _) (fun q => absurd q (by assumption)) _ _ _).trans ?_
      rfl
    exact rfin eY hRc2
  · skip
    refine v_aload_n K dX10_restore_7 rfl ?_
    refine v_iconstN K 2 rfl dX10_restore_8 ?_
    refine v_callV (As := [.int (nI 2)]) K (c_X10_finds h 2 (by omega)) lX10_113 ck_X10 rfl sh_118 pl_118 rfl ⟨by decide, by decide⟩ (Nat.le_of_ble_eq_true rfl) dX10_restore_9 (fun r2 h2 hp2 => ?_) rfl
    obtain ⟨rfl, rfl⟩ := hp2
    refine v_some ?_
    have hRf1 : RR (u2 h 122 2 (h 122 2 + nI 1)) (u2 s 122 2 (s 122 2 + nI 1)) := by rw [show (h 122 2) = s 122 2 from hR.at RA_122]; exact hR.u RA_122
    refine v_iret K dX10_restore_12 ?_
    have eY : Y_restore s  = ((-1000000000) - nI 2, (u2 s 122 2 (s 122 2 + nI 1))) := by
      unfold Y_restore
      refine (@if_pos _ (Classical.propDecidable _) (by first | assumption | exact ⟨_, by assumption, rfl⟩ | exact Or.inl rfl | exact Or.inr (Or.inl rfl) | exact Or.inr (Or.inr rfl) | omega) _ _ _).trans ?_
      rfl
    exact rfin eY hRf1

abbrev P_X10_sheet (h s : Mm) (τ τk : Nat → List Int32) (w b n : Int32) : Option Value → Mm → Prop := fun r h2 => r = some (.int (Y_sheet s w b n).1) ∧ RR h2 (Y_sheet s w b n).2
theorem c_X10_sheet {l : Launch} (h s : Mm) (τ τk : Nat → List Int32) (w b n : Int32) (hR : RR h s) (hI : INV s τ τk) : Con l yX10_sheet cX10_sheet 5 (some .int) 2 45 132 GL h [.ref 118, .int w, .int b, .int n] (P_X10_sheet h s τ τk w b n) := by
  refine Con.ofV (own := "FoxRoundsModel") (nm := "sheet") rfl rfl (by decide) (Nat.le_of_ble_eq_true rfl) ?_
  intro κ ρ hkl K
  subst hkl
  show V κ (QM κ (132, ρ, GL, 0, 0) (P_X10_sheet h s τ τk w b n)) 5 (132, ρ, GL, 0, 0) h 0 [(0, .ref 118), (1, .int w), (2, .int b), (3, .int n)] []
  have hd := hI.d
  have hn8 := hd.nw8
  have ht5 := hd.nt5
  refine v_iload_n K dX10_sheet_0 rfl ?_
  refine v_callS (As := [.int w]) K (c_X10_isSheet h w) lX10_186 rfl ⟨by decide, by decide⟩ (Nat.le_of_ble_eq_true rfl) dX10_sheet_1 (fun r1 h1 hp1 => ?_) rfl
  obtain ⟨rfl, rfl⟩ := hp1
  refine v_some ?_
  refine v_ifB_eq (tgt := 29) K dX10_sheet_4 rfl (fun c1 => ?_) (fun c1 => ?_)
  · skip
    refine v_aload_n K dX10_sheet_29 rfl ?_
    refine v_iconstN K 1 rfl dX10_sheet_30 ?_
    refine v_callV (As := [.int (nI 1)]) K (c_X10_finds h 1 (by omega)) lX10_113 ck_X10 rfl sh_118 pl_118 rfl ⟨by decide, by decide⟩ (Nat.le_of_ble_eq_true rfl) dX10_sheet_31 (fun r2 h2 hp2 => ?_) rfl
    obtain ⟨rfl, rfl⟩ := hp2
    refine v_some ?_
    have hRf1 : RR (u2 h 122 1 (h 122 1 + nI 1)) (u2 s 122 1 (s 122 1 + nI 1)) := by rw [show (h 122 1) = s 122 1 from hR.at RA_122]; exact hR.u RA_122
    refine v_iret K dX10_sheet_34 ?_
    have eY : Y_sheet s w b n = ((-1000000000) - nI 1, (u2 s 122 1 (s 122 1 + nI 1))) := by
      unfold Y_sheet
      refine (@if_pos _ (Classical.propDecidable _) (fun q => by first | exact absurd q.1 (by assumption) | exact absurd q.2 (by assumption)) _ _ _).trans ?_
      first | rfl | (rfl)
    exact rfin eY hRf1
  · skip
    obtain ⟨j1, Hj1, rfl⟩ := c1
    refine v_iload_n K dX10_sheet_7 rfl ?_
    refine v_if_eq (tgt := 35) K dX10_sheet_8 rfl (fun c2 => ?_) (fun c2 => ?_)
    · skip
      obtain rfl : b = nI 0 := c2
      refine v_iload_n K dX10_sheet_35 rfl ?_
      refine v_ifN_eq (tgt := 49) K (by omega) dX10_sheet_36 rfl (fun c3 => ?_) (fun c3 => ?_)
      · skip
        refine v_iload_n K dX10_sheet_49 rfl ?_
        refine v_ifN_eq (tgt := 65) K (by omega) dX10_sheet_50 rfl (fun c4 => ?_) (fun c4 => ?_)
        · skip
          refine v_aload_n K dX10_sheet_65 rfl ?_
          refine v_getr (q := 128) K fX10_38 sh_118 pl_118 gl_118_18 dX10_sheet_66 ?_
          refine v_iload_n K dX10_sheet_69 rfl ?_
          refine v_iload_n K dX10_sheet_70 rfl ?_
          refine v_iast K sh_128 pl_128 (by omega) dX10_sheet_71 ?_
          have hRr3 : RR (u2 h 128 j1 (nI 0)) (u2 s 128 j1 (nI 0)) := hR.u RA_128
          refine v_aload_n K dX10_sheet_72 rfl ?_
          refine v_getr (q := 129) K fX10_41 sh_118 pl_118 gl_118_19 dX10_sheet_73 ?_
          refine v_iload_n K dX10_sheet_76 rfl ?_
          refine v_iload_n K dX10_sheet_77 rfl ?_
          refine v_ifN_ne (tgt := 85) K (by omega) dX10_sheet_78 rfl (fun c5 => ?_) (fun c5 => ?_)
          · exact absurd c5 (by decide)
          · skip
            refine v_iconstN K 0 rfl dX10_sheet_81 ?_
            refine v_goto (tgt := 86) K dX10_sheet_82 rfl ?_
            refine v_iast K sh_129 pl_129 (by omega) dX10_sheet_86 ?_
            have hRr4 : RR (u2 (u2 h 128 j1 (nI 0)) 129 j1 (nI 0)) (u2 (u2 s 128 j1 (nI 0)) 129 j1 (nI 0)) := hRr3.u RA_129
            refine v_iconstN K 0 rfl dX10_sheet_87 ?_
            refine v_istore (lv2 := [(4, .int (nI 0)), (0, .ref 118), (1, .int (nI j1)), (2, .int (nI 0)), (3, .int n)]) K dX10_sheet_88 (by decide) rfl ?_
            have L90 : ∀ (mm : Nat) (a : Nat) (SS : Mm) (g1 : Mm) (hk : a ≤ 40) (hSS : SS = (u2 (u2 s 128 j1 (nI 0)) 129 j1 (nI 0))) (hZ : RR g1 (rw2 SS 130 (zerR (s 130) (40 * j1) a))), 41 - a < mm → V κ (QM κ (132, ρ, GL, 0, 0) (P_X10_sheet h s τ τk (nI j1) (nI 0) n)) 5 (132, ρ, GL, 0, 0) g1 90 [(0, .ref 118), (1, .int (nI j1)), (2, .int (nI 0)), (3, .int n), (4, .int (nI a))] [] := by
              intro mm
              induction mm with
              | zero => intro a SS g1 hk hSS hZ hmm; exact absurd hmm (Nat.not_lt_zero _)
              | succ mm ih90 =>
                intro a SS g1 hk hSS hZ hmm
                refine v_iload K dX10_sheet_90 rfl ?_
                refine v_bipushN K 40 rfl dX10_sheet_92 ?_
                refine v_icmpN_ge (tgt := 116) K (by omega) (by omega) dX10_sheet_94 rfl (fun c6 => ?_) (fun c6 => ?_)
                · skip
                  refine v_iconstN K 1 rfl dX10_sheet_116 ?_
                  refine v_iret K dX10_sheet_117 ?_
                  have eY : Y_sheet s (nI j1) (nI 0) n = (nI 1, (rw2 SS 130 (zerR (s 130) (40 * j1) a))) := by
                    unfold Y_sheet
                    refine (@if_neg _ (Classical.propDecidable _) (fun q => q ⟨⟨_, by assumption, rfl⟩, (by unfold bitOK; exact Or.inl rfl)⟩) _ _ _).trans ?_
                    refine (@if_neg _ (Classical.propDecidable _) (fun q => q.1 rfl) _ _ _).trans ?_
                    refine (@if_neg _ (Classical.propDecidable _) (fun q => q.1 rfl) _ _ _).trans ?_
                    subst hSS; obtain rfl : a = 40 := (by omega); rw [cl_ix (show j1 < 2 ^ 31 by omega)]; rfl
                  exact rfin eY hZ
                · skip
                  refine v_aload_n K dX10_sheet_97 rfl ?_
                  refine v_getr (q := 130) K fX10_44 sh_118 pl_118 gl_118_20 dX10_sheet_98 ?_
                  refine v_bipushN K 40 rfl dX10_sheet_101 ?_
                  refine v_iload_n K dX10_sheet_103 rfl ?_
                  refine v_imulN K dX10_sheet_104 ?_
                  refine v_iload K dX10_sheet_105 rfl ?_
                  refine v_iaddN K dX10_sheet_107 ?_
                  refine v_iconstN K 0 rfl dX10_sheet_108 ?_
                  refine v_iast K sh_130 pl_130 (by omega) dX10_sheet_109 ?_
                  have hRr5 : RR (u2 g1 130 (40 * j1 + a) (nI 0)) (rw2 SS 130 (zerR (s 130) (40 * j1) (a + 1))) := by have hx := hZ.u (k := 40 * j1 + a) (v := nI 0) RA_130; rw [u2_rw (h := rw2 SS 130 _), rw2_rw2, rw2_at, zer_s] at hx; exact hx
                  refine v_iincN (lv2 := [(4, .int (nI (a + 1))), (0, .ref 118), (1, .int (nI j1)), (2, .int (nI 0)), (3, .int n)]) K 1 dX10_sheet_110 rfl rfl (by decide) rfl ?_
                  refine v_goto (tgt := 90) K dX10_sheet_113 rfl ?_
                  refine v_sub (lv2 := [(0, .ref 118), (1, .int (nI j1)), (2, .int (nI 0)), (3, .int n), (4, .int (nI (a + 1)))]) (by simp) ?_
                  exact ih90 (a + 1) SS ((u2 g1 130 (40 * j1 + a) (nI 0))) (by first | assumption | omega | rfl) (by exact hSS) (by exact hRr5) (by omega)
            refine v_sub (lv2 := [(0, .ref 118), (1, .int (nI j1)), (2, .int (nI 0)), (3, .int n), (4, .int (nI 0))]) (by simp) ?_
            exact L90 (41 - 0 + 1) 0 ((u2 (u2 s 128 j1 (nI 0)) 129 j1 (nI 0))) ((u2 (u2 h 128 j1 (nI 0)) 129 j1 (nI 0))) (by first | assumption | omega | rfl) (by rfl) (by rw [zer_0, show s 130 = (u2 (u2 s 128 j1 (nI 0)) 129 j1 (nI 0)) 130 from rfl, rw2_self]; exact hRr4) (Nat.lt_succ_self _)
        · exact absurd c4 (by decide)
      · exact absurd c3 (by decide)
    · skip
      refine v_iload_n K dX10_sheet_11 rfl ?_
      refine v_bipushN K 8 rfl dX10_sheet_12 ?_
      refine v_icmp_eq (tgt := 35) K dX10_sheet_14 rfl (fun c7 => ?_) (fun c7 => ?_)
      · skip
        obtain rfl : b = nI 8 := c7
        refine v_iload_n K dX10_sheet_35 rfl ?_
        refine v_ifN_eq (tgt := 49) K (by omega) dX10_sheet_36 rfl (fun c8 => ?_) (fun c8 => ?_)
        · exact absurd c8 (by decide)
        · skip
          refine v_iload_n K dX10_sheet_39 rfl ?_
          refine v_if_ge (tgt := 49) K dX10_sheet_40 rfl (fun c9 => ?_) (fun c9 => ?_)
          · skip
            refine v_iload_n K dX10_sheet_49 rfl ?_
            refine v_ifN_eq (tgt := 65) K (by omega) dX10_sheet_50 rfl (fun c10 => ?_) (fun c10 => ?_)
            · exact absurd c10 (by decide)
            · skip
              refine v_iload_n K dX10_sheet_53 rfl ?_
              refine v_bipushN K 40 rfl dX10_sheet_54 ?_
              refine v_icmp_le (tgt := 65) K dX10_sheet_56 rfl (fun c11 => ?_) (fun c11 => ?_)
              · skip
                refine v_aload_n K dX10_sheet_65 rfl ?_
                refine v_getr (q := 128) K fX10_38 sh_118 pl_118 gl_118_18 dX10_sheet_66 ?_
                refine v_iload_n K dX10_sheet_69 rfl ?_
                refine v_iload_n K dX10_sheet_70 rfl ?_
                refine v_iast K sh_128 pl_128 (by omega) dX10_sheet_71 ?_
                have hRr6 : RR (u2 h 128 j1 (nI 8)) (u2 s 128 j1 (nI 8)) := hR.u RA_128
                refine v_aload_n K dX10_sheet_72 rfl ?_
                refine v_getr (q := 129) K fX10_41 sh_118 pl_118 gl_118_19 dX10_sheet_73 ?_
                refine v_iload_n K dX10_sheet_76 rfl ?_
                refine v_iload_n K dX10_sheet_77 rfl ?_
                refine v_ifN_ne (tgt := 85) K (by omega) dX10_sheet_78 rfl (fun c12 => ?_) (fun c12 => ?_)
                · skip
                  refine v_iload_n K dX10_sheet_85 rfl ?_
                  refine v_iast K sh_129 pl_129 (by omega) dX10_sheet_86 ?_
                  have hRr7 : RR (u2 (u2 h 128 j1 (nI 8)) 129 j1 n) (u2 (u2 s 128 j1 (nI 8)) 129 j1 n) := hRr6.u RA_129
                  refine v_iconstN K 0 rfl dX10_sheet_87 ?_
                  refine v_istore (lv2 := [(4, .int (nI 0)), (0, .ref 118), (1, .int (nI j1)), (2, .int (nI 8)), (3, .int n)]) K dX10_sheet_88 (by decide) rfl ?_
                  have L90 : ∀ (mm : Nat) (a : Nat) (SS : Mm) (g1 : Mm) (hk : a ≤ 40) (hSS : SS = (u2 (u2 s 128 j1 (nI 8)) 129 j1 n)) (hZ : RR g1 (rw2 SS 130 (zerR (s 130) (40 * j1) a))), 41 - a < mm → V κ (QM κ (132, ρ, GL, 0, 0) (P_X10_sheet h s τ τk (nI j1) (nI 8) n)) 5 (132, ρ, GL, 0, 0) g1 90 [(0, .ref 118), (1, .int (nI j1)), (2, .int (nI 8)), (3, .int n), (4, .int (nI a))] [] := by
                    intro mm
                    induction mm with
                    | zero => intro a SS g1 hk hSS hZ hmm; exact absurd hmm (Nat.not_lt_zero _)
                    | succ mm ih90 =>
                      intro a SS g1 hk hSS hZ hmm
                      refine v_iload K dX10_sheet_90 rfl ?_
                      refine v_bipushN K 40 rfl dX10_sheet_92 ?_
                      refine v_icmpN_ge (tgt := 116) K (by omega) (by omega) dX10_sheet_94 rfl (fun c13 => ?_) (fun c13 => ?_)
                      · skip
                        refine v_iconstN K 1 rfl dX10_sheet_116 ?_
                        refine v_iret K dX10_sheet_117 ?_
                        have eY : Y_sheet s (nI j1) (nI 8) n = (nI 1, (rw2 SS 130 (zerR (s 130) (40 * j1) a))) := by
                          unfold Y_sheet
                          refine (@if_neg _ (Classical.propDecidable _) (fun q => q ⟨⟨_, by assumption, rfl⟩, (by unfold bitOK; exact Or.inr (Or.inl rfl))⟩) _ _ _).trans ?_
                          refine (@if_neg _ (Classical.propDecidable _) (fun q => absurd q.2 (Int32.not_lt.mpr c9)) _ _ _).trans ?_
                          refine (@if_neg _ (Classical.propDecidable _) (fun q => absurd q.2 (Int32.not_lt.mpr c11)) _ _ _).trans ?_
                          subst hSS; obtain rfl : a = 40 := (by omega); rw [cl_ix (show j1 < 2 ^ 31 by omega)]; rfl
                        exact rfin eY hZ
                      · skip
                        refine v_aload_n K dX10_sheet_97 rfl ?_
                        refine v_getr (q := 130) K fX10_44 sh_118 pl_118 gl_118_20 dX10_sheet_98 ?_
                        refine v_bipushN K 40 rfl dX10_sheet_101 ?_
                        refine v_iload_n K dX10_sheet_103 rfl ?_
                        refine v_imulN K dX10_sheet_104 ?_
                        refine v_iload K dX10_sheet_105 rfl ?_
                        refine v_iaddN K dX10_sheet_107 ?_
                        refine v_iconstN K 0 rfl dX10_sheet_108 ?_
                        refine v_iast K sh_130 pl_130 (by omega) dX10_sheet_109 ?_
                        have hRr8 : RR (u2 g1 130 (40 * j1 + a) (nI 0)) (rw2 SS 130 (zerR (s 130) (40 * j1) (a + 1))) := by have hx := hZ.u (k := 40 * j1 + a) (v := nI 0) RA_130; rw [u2_rw (h := rw2 SS 130 _), rw2_rw2, rw2_at, zer_s] at hx; exact hx
                        refine v_iincN (lv2 := [(4, .int (nI (a + 1))), (0, .ref 118), (1, .int (nI j1)), (2, .int (nI 8)), (3, .int n)]) K 1 dX10_sheet_110 rfl rfl (by decide) rfl ?_
                        refine v_goto (tgt := 90) K dX10_sheet_113 rfl ?_
                        refine v_sub (lv2 := [(0, .ref 118), (1, .int (nI j1)), (2, .int (nI 8)), (3, .int n), (4, .int (nI (a + 1)))]) (by simp) ?_
                        exact ih90 (a + 1) SS ((u2 g1 130 (40 * j1 + a) (nI 0))) (by first | assumption | omega | rfl) (by exact hSS) (by exact hRr8) (by omega)
                  refine v_sub (lv2 := [(0, .ref 118), (1, .int (nI j1)), (2, .int (nI 8)), (3, .int n), (4, .int (nI 0))]) (by simp) ?_
                  exact L90 (41 - 0 + 1) 0 ((u2 (u2 s 128 j1 (nI 8)) 129 j1 n)) ((u2 (u2 h 128 j1 (nI 8)) 129 j1 n)) (by first | assumption | omega | rfl) (by rfl) (by rw [zer_0, show s 130 = (u2 (u2 s 128 j1 (nI 8)) 129 j1 n) 130 from rfl, rw2_self]; exact hRr7) (Nat.lt_succ_self _)
                · exact absurd c12 (by decide)
              · skip
                refine v_aload_n K dX10_sheet_59 rfl ?_
                refine v_iconstN K 1 rfl dX10_sheet_60 ?_
                refine v_callV (As := [.int (nI 1)]) K (c_X10_finds h 1 (by omega)) lX10_113 ck_X10 rfl sh_118 pl_118 rfl ⟨by decide, by decide⟩ (Nat.le_of_ble_eq_true rfl) dX10_sheet_61 (fun r9 h3 hp3 => ?_) rfl
                obtain ⟨rfl, rfl⟩ := hp3
                refine v_some ?_
                have hRf2 : RR (u2 h 122 1 (h 122 1 + nI 1)) (u2 s 122 1 (s 122 1 + nI 1)) := by rw [show (h 122 1) = s 122 1 from hR.at RA_122]; exact hR.u RA_122
                refine v_iret K dX10_sheet_64 ?_
                have eY : Y_sheet s (nI j1) (nI 8) n = ((-1000000000) - nI 1, (u2 s 122 1 (s 122 1 + nI 1))) := by
                  unfold Y_sheet
                  refine (@if_neg _ (Classical.propDecidable _) (fun q => q ⟨⟨_, by assumption, rfl⟩, (by unfold bitOK; exact Or.inr (Or.inl rfl))⟩) _ _ _).trans ?_
                  refine (@if_neg _ (Classical.propDecidable _) (fun q => absurd q.2 (Int32.not_lt.mpr c9)) _ _ _).trans ?_
                  refine (@if_pos _ (Classical.propDecidable _) ⟨by decide, Int32.not_le.mp c11⟩ _ _ _).trans ?_
                  first | rfl | ((try rw [cl_ix (show j1 < 2 ^ 31 by omega)]) ; (try rw [cl_ix (show 8 < 2 ^ 31 by omega)]))
                exact rfin eY hRf2
          · skip
            refine v_aload_n K dX10_sheet_43 rfl ?_
            refine v_iconstN K 3 rfl dX10_sheet_44 ?_
            refine v_callV (As := [.int (nI 3)]) K (c_X10_finds h 3 (by omega)) lX10_113 ck_X10 rfl sh_118 pl_118 rfl ⟨by decide, by decide⟩ (Nat.le_of_ble_eq_true rfl) dX10_sheet_45 (fun r10 h4 hp4 => ?_) rfl
            obtain ⟨rfl, rfl⟩ := hp4
            refine v_some ?_
            have hRf3 : RR (u2 h 122 3 (h 122 3 + nI 1)) (u2 s 122 3 (s 122 3 + nI 1)) := by rw [show (h 122 3) = s 122 3 from hR.at RA_122]; exact hR.u RA_122
            refine v_iret K dX10_sheet_48 ?_
            have eY : Y_sheet s (nI j1) (nI 8) n = ((-1000000000) - nI 3, (u2 s 122 3 (s 122 3 + nI 1))) := by
              unfold Y_sheet
              refine (@if_neg _ (Classical.propDecidable _) (fun q => q ⟨⟨_, by assumption, rfl⟩, (by unfold bitOK; exact Or.inr (Or.inl rfl))⟩) _ _ _).trans ?_
              refine (@if_pos _ (Classical.propDecidable _) ⟨by decide, Int32.not_le.mp c9⟩ _ _ _).trans ?_
              first | rfl | ((try rw [cl_ix (show j1 < 2 ^ 31 by omega)]) ; (try rw [cl_ix (show 8 < 2 ^ 31 by omega)]))
            exact rfin eY hRf3
      · skip
        refine v_iload_n K dX10_sheet_17 rfl ?_
        refine v_bipushN K 16 rfl dX10_sheet_18 ?_
        refine v_icmp_eq (tgt := 35) K dX10_sheet_20 rfl (fun c14 => ?_) (fun c14 => ?_)
        · skip
          obtain rfl : b = nI 16 := c14
          refine v_iload_n K dX10_sheet_35 rfl ?_
          refine v_ifN_eq (tgt := 49) K (by omega) dX10_sheet_36 rfl (fun c15 => ?_) (fun c15 => ?_)
          · exact absurd c15 (by decide)
          · skip
            refine v_iload_n K dX10_sheet_39 rfl ?_
            refine v_if_ge (tgt := 49) K dX10_sheet_40 rfl (fun c16 => ?_) (fun c16 => ?_)
            · skip
              refine v_iload_n K dX10_sheet_49 rfl ?_
              refine v_ifN_eq (tgt := 65) K (by omega) dX10_sheet_50 rfl (fun c17 => ?_) (fun c17 => ?_)
              · exact absurd c17 (by decide)
              · skip
                refine v_iload_n K dX10_sheet_53 rfl ?_
                refine v_bipushN K 40 rfl dX10_sheet_54 ?_
                refine v_icmp_le (tgt := 65) K dX10_sheet_56 rfl (fun c18 => ?_) (fun c18 => ?_)
                · skip
                  refine v_aload_n K dX10_sheet_65 rfl ?_
                  refine v_getr (q := 128) K fX10_38 sh_118 pl_118 gl_118_18 dX10_sheet_66 ?_
                  refine v_iload_n K dX10_sheet_69 rfl ?_
                  refine v_iload_n K dX10_sheet_70 rfl ?_
                  refine v_iast K sh_128 pl_128 (by omega) dX10_sheet_71 ?_
                  have hRr11 : RR (u2 h 128 j1 (nI 16)) (u2 s 128 j1 (nI 16)) := hR.u RA_128
                  refine v_aload_n K dX10_sheet_72 rfl ?_
                  refine v_getr (q := 129) K fX10_41 sh_118 pl_118 gl_118_19 dX10_sheet_73 ?_
                  refine v_iload_n K dX10_sheet_76 rfl ?_
                  refine v_iload_n K dX10_sheet_77 rfl ?_
                  refine v_ifN_ne (tgt := 85) K (by omega) dX10_sheet_78 rfl (fun c19 => ?_) (fun c19 => ?_)
                  · skip
                    refine v_iload_n K dX10_sheet_85 rfl ?_
                    refine v_iast K sh_129 pl_129 (by omega) dX10_sheet_86 ?_
                    have hRr12 : RR (u2 (u2 h 128 j1 (nI 16)) 129 j1 n) (u2 (u2 s 128 j1 (nI 16)) 129 j1 n) := hRr11.u RA_129
                    refine v_iconstN K 0 rfl dX10_sheet_87 ?_
                    refine v_istore (lv2 := [(4, .int (nI 0)), (0, .ref 118), (1, .int (nI j1)), (2, .int (nI 16)), (3, .int n)]) K dX10_sheet_88 (by decide) rfl ?_
                    have L90 : ∀ (mm : Nat) (a : Nat) (SS : Mm) (g1 : Mm) (hk : a ≤ 40) (hSS : SS = (u2 (u2 s 128 j1 (nI 16)) 129 j1 n)) (hZ : RR g1 (rw2 SS 130 (zerR (s 130) (40 * j1) a))), 41 - a < mm → V κ (QM κ (132, ρ, GL, 0, 0) (P_X10_sheet h s τ τk (nI j1) (nI 16) n)) 5 (132, ρ, GL, 0, 0) g1 90 [(0, .ref 118), (1, .int (nI j1)), (2, .int (nI 16)), (3, .int n), (4, .int (nI a))] [] := by
                      intro mm
                      induction mm with
                      | zero => intro a SS g1 hk hSS hZ hmm; exact absurd hmm (Nat.not_lt_zero _)
                      | succ mm ih90 =>
                        intro a SS g1 hk hSS hZ hmm
                        refine v_iload K dX10_sheet_90 rfl ?_
                        refine v_bipushN K 40 rfl dX10_sheet_92 ?_
                        refine v_icmpN_ge (tgt := 116) K (by omega) (by omega) dX10_sheet_94 rfl (fun c20 => ?_) (fun c20 => ?_)
                        · skip
                          refine v_iconstN K 1 rfl dX10_sheet_116 ?_
                          refine v_iret K dX10_sheet_117 ?_
                          have eY : Y_sheet s (nI j1) (nI 16) n = (nI 1, (rw2 SS 130 (zerR (s 130) (40 * j1) a))) := by
                            unfold Y_sheet
                            refine (@if_neg _ (Classical.propDecidable _) (fun q => q ⟨⟨_, by assumption, rfl⟩, (by unfold bitOK; exact Or.inr (Or.inr (Or.inl rfl)))⟩) _ _ _).trans ?_
                            refine (@if_neg _ (Classical.propDecidable _) (fun q => absurd q.2 (Int32.not_lt.mpr c16)) _ _ _).trans ?_
                            refine (@if_neg _ (Classical.propDecidable _) (fun q => absurd q.2 (Int32.not_lt.mpr c18)) _ _ _).trans ?_
                            subst hSS; obtain rfl : a = 40 := (by omega); rw [cl_ix (show j1 < 2 ^ 31 by omega)]; rfl
                          exact rfin eY hZ
                        · skip
                          refine v_aload_n K dX10_sheet_97 rfl ?_
                          refine v_getr (q := 130) K fX10_44 sh_118 pl_118 gl_118_20 dX10_sheet_98 ?_
                          refine v_bipushN K 40 rfl dX10_sheet_101 ?_
                          refine v_iload_n K dX10_sheet_103 rfl ?_
                          refine v_imulN K dX10_sheet_104 ?_
                          refine v_iload K dX10_sheet_105 rfl ?_
                          refine v_iaddN K dX10_sheet_107 ?_
                          refine v_iconstN K 0 rfl dX10_sheet_108 ?_
                          refine v_iast K sh_130 pl_130 (by omega) dX10_sheet_109 ?_
                          have hRr13 : RR (u2 g1 130 (40 * j1 + a) (nI 0)) (rw2 SS 130 (zerR (s 130) (40 * j1) (a + 1))) := by have hx := hZ.u (k := 40 * j1 + a) (v := nI 0) RA_130; rw [u2_rw (h := rw2 SS 130 _), rw2_rw2, rw2_at, zer_s] at hx; exact hx
                          refine v_iincN (lv2 := [(4, .int (nI (a + 1))), (0, .ref 118), (1, .int (nI j1)), (2, .int (nI 16)), (3, .int n)]) K 1 dX10_sheet_110 rfl rfl (by decide) rfl ?_
                          refine v_goto (tgt := 90) K dX10_sheet_113 rfl ?_
                          refine v_sub (lv2 := [(0, .ref 118), (1, .int (nI j1)), (2, .int (nI 16)), (3, .int n), (4, .int (nI (a + 1)))]) (by simp) ?_
                          exact ih90 (a + 1) SS ((u2 g1 130 (40 * j1 + a) (nI 0))) (by first | assumption | omega | rfl) (by exact hSS) (by exact hRr13) (by omega)
                    refine v_sub (lv2 := [(0, .ref 118), (1, .int (nI j1)), (2, .int (nI 16)), (3, .int n), (4, .int (nI 0))]) (by simp) ?_
                    exact L90 (41 - 0 + 1) 0 ((u2 (u2 s 128 j1 (nI 16)) 129 j1 n)) ((u2 (u2 h 128 j1 (nI 16)) 129 j1 n)) (by first | assumption | omega | rfl) (by rfl) (by rw [zer_0, show s 130 = (u2 (u2 s 128 j1 (nI 16)) 129 j1 n) 130 from rfl, rw2_self]; exact hRr12) (Nat.lt_succ_self _)
                  · exact absurd c19 (by decide)
                · skip
                  refine v_aload_n K dX10_sheet_59 rfl ?_
                  refine v_iconstN K 1 rfl dX10_sheet_60 ?_
                  refine v_callV (As := [.int (nI 1)]) K (c_X10_finds h 1 (by omega)) lX10_113 ck_X10 rfl sh_118 pl_118 rfl ⟨by decide, by decide⟩ (Nat.le_of_ble_eq_true rfl) dX10_sheet_61 (fun r14 h5 hp5 => ?_) rfl
                  obtain ⟨rfl, rfl⟩ := hp5
                  refine v_some ?_
                  have hRf4 : RR (u2 h 122 1 (h 122 1 + nI 1)) (u2 s 122 1 (s 122 1 + nI 1)) := by rw [show (h 122 1) = s 122 1 from hR.at RA_122]; exact hR.u RA_122
                  refine v_iret K dX10_sheet_64 ?_
                  have eY : Y_sheet s (nI j1) (nI 16) n = ((-1000000000) - nI 1, (u2 s 122 1 (s 122 1 + nI 1))) := by
                    unfold Y_sheet
                    refine (@if_neg _ (Classical.propDecidable _) (fun q => q ⟨⟨_, by assumption, rfl⟩, (by unfold bitOK; exact Or.inr (Or.inr (Or.inl rfl)))⟩) _ _ _).trans ?_
                    refine (@if_neg _ (Classical.propDecidable _) (fun q => absurd q.2 (Int32.not_lt.mpr c16)) _ _ _).trans ?_
                    refine (@if_pos _ (Classical.propDecidable _) ⟨by decide, Int32.not_le.mp c18⟩ _ _ _).trans ?_
                    first | rfl | ((try rw [cl_ix (show j1 < 2 ^ 31 by omega)]) ; (try rw [cl_ix (show 16 < 2 ^ 31 by omega)]))
                  exact rfin eY hRf4
            · skip
              refine v_aload_n K dX10_sheet_43 rfl ?_
              refine v_iconstN K 3 rfl dX10_sheet_44 ?_
              refine v_callV (As := [.int (nI 3)]) K (c_X10_finds h 3 (by omega)) lX10_113 ck_X10 rfl sh_118 pl_118 rfl ⟨by decide, by decide⟩ (Nat.le_of_ble_eq_true rfl) dX10_sheet_45 (fun r15 h6 hp6 => ?_) rfl
              obtain ⟨rfl, rfl⟩ := hp6
              refine v_some ?_
              have hRf5 : RR (u2 h 122 3 (h 122 3 + nI 1)) (u2 s 122 3 (s 122 3 + nI 1)) := by rw [show (h 122 3) = s 122 3 from hR.at RA_122]; exact hR.u RA_122
              refine v_iret K dX10_sheet_48 ?_
              have eY : Y_sheet s (nI j1) (nI 16) n = ((-1000000000) - nI 3, (u2 s 122 3 (s 122 3 + nI 1))) := by
                unfold Y_sheet
                refine (@if_neg _ (Classical.propDecidable _) (fun q => q ⟨⟨_, by assumption, rfl⟩, (by unfold bitOK; exact Or.inr (Or.inr (Or.inl rfl)))⟩) _ _ _).trans ?_
                refine (@if_pos _ (Classical.propDecidable _) ⟨by decide, Int32.not_le.mp c16⟩ _ _ _).trans ?_
                first | rfl | ((try rw [cl_ix (show j1 < 2 ^ 31 by omega)]) ; (try rw [cl_ix (show 16 < 2 ^ 31 by omega)]))
              exact rfin eY hRf5
        · skip
          refine v_iload_n K dX10_sheet_23 rfl ?_
          refine v_bipushN K 32 rfl dX10_sheet_24 ?_
          refine v_icmp_eq (tgt := 35) K dX10_sheet_26 rfl (fun c21 => ?_) (fun c21 => ?_)
          · skip
            obtain rfl : b = nI 32 := c21
            refine v_iload_n K dX10_sheet_35 rfl ?_
            refine v_ifN_eq (tgt := 49) K (by omega) dX10_sheet_36 rfl (fun c22 => ?_) (fun c22 => ?_)
            · exact absurd c22 (by decide)
            · skip
              refine v_iload_n K dX10_sheet_39 rfl ?_
              refine v_if_ge (tgt := 49) K dX10_sheet_40 rfl (fun c23 => ?_) (fun c23 => ?_)
              · skip
                refine v_iload_n K dX10_sheet_49 rfl ?_
                refine v_ifN_eq (tgt := 65) K (by omega) dX10_sheet_50 rfl (fun c24 => ?_) (fun c24 => ?_)
                · exact absurd c24 (by decide)
                · skip
                  refine v_iload_n K dX10_sheet_53 rfl ?_
                  refine v_bipushN K 40 rfl dX10_sheet_54 ?_
                  refine v_icmp_le (tgt := 65) K dX10_sheet_56 rfl (fun c25 => ?_) (fun c25 => ?_)
                  · skip
                    refine v_aload_n K dX10_sheet_65 rfl ?_
                    refine v_getr (q := 128) K fX10_38 sh_118 pl_118 gl_118_18 dX10_sheet_66 ?_
                    refine v_iload_n K dX10_sheet_69 rfl ?_
                    refine v_iload_n K dX10_sheet_70 rfl ?_
                    refine v_iast K sh_128 pl_128 (by omega) dX10_sheet_71 ?_
                    have hRr16 : RR (u2 h 128 j1 (nI 32)) (u2 s 128 j1 (nI 32)) := hR.u RA_128
                    refine v_aload_n K dX10_sheet_72 rfl ?_
                    refine v_getr (q := 129) K fX10_41 sh_118 pl_118 gl_118_19 dX10_sheet_73 ?_
                    refine v_iload_n K dX10_sheet_76 rfl ?_
                    refine v_iload_n K dX10_sheet_77 rfl ?_
                    refine v_ifN_ne (tgt := 85) K (by omega) dX10_sheet_78 rfl (fun c26 => ?_) (fun c26 => ?_)
                    · skip
                      refine v_iload_n K dX10_sheet_85 rfl ?_
                      refine v_iast K sh_129 pl_129 (by omega) dX10_sheet_86 ?_
                      have hRr17 : RR (u2 (u2 h 128 j1 (nI 32)) 129 j1 n) (u2 (u2 s 128 j1 (nI 32)) 129 j1 n) := hRr16.u RA_129
                      refine v_iconstN K 0 rfl dX10_sheet_87 ?_
                      refine v_istore (lv2 := [(4, .int (nI 0)), (0, .ref 118), (1, .int (nI j1)), (2, .int (nI 32)), (3, .int n)]) K dX10_sheet_88 (by decide) rfl ?_
                      have L90 : ∀ (mm : Nat) (a : Nat) (SS : Mm) (g1 : Mm) (hk : a ≤ 40) (hSS : SS = (u2 (u2 s 128 j1 (nI 32)) 129 j1 n)) (hZ : RR g1 (rw2 SS 130 (zerR (s 130) (40 * j1) a))), 41 - a < mm → V κ (QM κ (132, ρ, GL, 0, 0) (P_X10_sheet h s τ τk (nI j1) (nI 32) n)) 5 (132, ρ, GL, 0, 0) g1 90 [(0, .ref 118), (1, .int (nI j1)), (2, .int (nI 32)), (3, .int n), (4, .int (nI a))] [] := by
                        intro mm
                        induction mm with
                        | zero => intro a SS g1 hk hSS hZ hmm; exact absurd hmm (Nat.not_lt_zero _)
                        | succ mm ih90 =>
                          intro a SS g1 hk hSS hZ hmm
                          refine v_iload K dX10_sheet_90 rfl ?_
                          refine v_bipushN K 40 rfl dX10_sheet_92 ?_
                          refine v_icmpN_ge (tgt := 116) K (by omega) (by omega) dX10_sheet_94 rfl (fun c27 => ?_) (fun c27 => ?_)
                          · skip
                            refine v_iconstN K 1 rfl dX10_sheet_116 ?_
                            refine v_iret K dX10_sheet_117 ?_
                            have eY : Y_sheet s (nI j1) (nI 32) n = (nI 1, (rw2 SS 130 (zerR (s 130) (40 * j1) a))) := by
                              unfold Y_sheet
                              refine (@if_neg _ (Classical.propDecidable _) (fun q => q ⟨⟨_, by assumption, rfl⟩, (by unfold bitOK; exact Or.inr (Or.inr (Or.inr rfl)))⟩) _ _ _).trans ?_
                              refine (@if_neg _ (Classical.propDecidable _) (fun q => absurd q.2 (Int32.not_lt.mpr c23)) _ _ _).trans ?_
                              refine (@if_neg _ (Classical.propDecidable _) (fun q => absurd q.2 (Int32.not_lt.mpr c25)) _ _ _).trans ?_
                              subst hSS; obtain rfl : a = 40 := (by omega); rw [cl_ix (show j1 < 2 ^ 31 by omega)]; rfl
                            exact rfin eY hZ
                          · skip
                            refine v_aload_n K dX10_sheet_97 rfl ?_
                            refine v_getr (q := 130) K fX10_44 sh_118 pl_118 gl_118_20 dX10_sheet_98 ?_
                            refine v_bipushN K 40 rfl dX10_sheet_101 ?_
                            refine v_iload_n K dX10_sheet_103 rfl ?_
                            refine v_imulN K dX10_sheet_104 ?_
                            refine v_iload K dX10_sheet_105 rfl ?_
                            refine v_iaddN K dX10_sheet_107 ?_
                            refine v_iconstN K 0 rfl dX10_sheet_108 ?_
                            refine v_iast K sh_130 pl_130 (by omega) dX10_sheet_109 ?_
                            have hRr18 : RR (u2 g1 130 (40 * j1 + a) (nI 0)) (rw2 SS 130 (zerR (s 130) (40 * j1) (a + 1))) := by have hx := hZ.u (k := 40 * j1 + a) (v := nI 0) RA_130; rw [u2_rw (h := rw2 SS 130 _), rw2_rw2, rw2_at, zer_s] at hx; exact hx
                            refine v_iincN (lv2 := [(4, .int (nI (a + 1))), (0, .ref 118), (1, .int (nI j1)), (2, .int (nI 32)), (3, .int n)]) K 1 dX10_sheet_110 rfl rfl (by decide) rfl ?_
                            refine v_goto (tgt := 90) K dX10_sheet_113 rfl ?_
                            refine v_sub (lv2 := [(0, .ref 118), (1, .int (nI j1)), (2, .int (nI 32)), (3, .int n), (4, .int (nI (a + 1)))]) (by simp) ?_
                            exact ih90 (a + 1) SS ((u2 g1 130 (40 * j1 + a) (nI 0))) (by first | assumption | omega | rfl) (by exact hSS) (by exact hRr18) (by omega)
                      refine v_sub (lv2 := [(0, .ref 118), (1, .int (nI j1)), (2, .int (nI 32)), (3, .int n), (4, .int (nI 0))]) (by simp) ?_
                      exact L90 (41 - 0 + 1) 0 ((u2 (u2 s 128 j1 (nI 32)) 129 j1 n)) ((u2 (u2 h 128 j1 (nI 32)) 129 j1 n)) (by first | assumption | omega | rfl) (by rfl) (by rw [zer_0, show s 130 = (u2 (u2 s 128 j1 (nI 32)) 129 j1 n) 130 from rfl, rw2_self]; exact hRr17) (Nat.lt_succ_self _)
                    · exact absurd c26 (by decide)
                  · skip
                    refine v_aload_n K dX10_sheet_59 rfl ?_
                    refine v_iconstN K 1 rfl dX10_sheet_60 ?_
                    refine v_callV (As := [.int (nI 1)]) K (c_X10_finds h 1 (by omega)) lX10_113 ck_X10 rfl sh_118 pl_118 rfl ⟨by decide, by decide⟩ (Nat.le_of_ble_eq_true rfl) dX10_sheet_61 (fun r19 h7 hp7 => ?_) rfl
                    obtain ⟨rfl, rfl⟩ := hp7
                    refine v_some ?_
                    have hRf6 : RR (u2 h 122 1 (h 122 1 + nI 1)) (u2 s 122 1 (s 122 1 + nI 1)) := by rw [show (h 122 1) = s 122 1 from hR.at RA_122]; exact hR.u RA_122
                    refine v_iret K dX10_sheet_64 ?_
                    have eY : Y_sheet s (nI j1) (nI 32) n = ((-1000000000) - nI 1, (u2 s 122 1 (s 122 1 + nI 1))) := by
                      unfold Y_sheet
                      refine (@if_neg _ (Classical.propDecidable _) (fun q => q ⟨⟨_, by assumption, rfl⟩, (by unfold bitOK; exact Or.inr (Or.inr (Or.inr rfl)))⟩) _ _ _).trans ?_
                      refine (@if_neg _ (Classical.propDecidable _) (fun q => absurd q.2 (Int32.not_lt.mpr c23)) _ _ _).trans ?_
                      refine (@if_pos _ (Classical.propDecidable _) ⟨by decide, Int32.not_le.mp c25⟩ _ _ _).trans ?_
                      first | rfl | ((try rw [cl_ix (show j1 < 2 ^ 31 by omega)]) ; (try rw [cl_ix (show 32 < 2 ^ 31 by omega)]))
                    exact rfin eY hRf6
              · skip
                refine v_aload_n K dX10_sheet_43 rfl ?_
                refine v_iconstN K 3 rfl dX10_sheet_44 ?_
                refine v_callV (As := [.int (nI 3)]) K (c_X10_finds h 3 (by omega)) lX10_113 ck_X10 rfl sh_118 pl_118 rfl ⟨by decide, by decide⟩ (Nat.le_of_ble_eq_true rfl) dX10_sheet_45 (fun r20 h8 hp8 => ?_) rfl
                obtain ⟨rfl, rfl⟩ := hp8
                refine v_some ?_
                have hRf7 : RR (u2 h 122 3 (h 122 3 + nI 1)) (u2 s 122 3 (s 122 3 + nI 1)) := by rw [show (h 122 3) = s 122 3 from hR.at RA_122]; exact hR.u RA_122
                refine v_iret K dX10_sheet_48 ?_
                have eY : Y_sheet s (nI j1) (nI 32) n = ((-1000000000) - nI 3, (u2 s 122 3 (s 122 3 + nI 1))) := by
                  unfold Y_sheet
                  refine (@if_neg _ (Classical.propDecidable _) (fun q => q ⟨⟨_, by assumption, rfl⟩, (by unfold bitOK; exact Or.inr (Or.inr (Or.inr rfl)))⟩) _ _ _).trans ?_
                  refine (@if_pos _ (Classical.propDecidable _) ⟨by decide, Int32.not_le.mp c23⟩ _ _ _).trans ?_
                  first | rfl | ((try rw [cl_ix (show j1 < 2 ^ 31 by omega)]) ; (try rw [cl_ix (show 32 < 2 ^ 31 by omega)]))
                exact rfin eY hRf7
          · skip
            refine v_aload_n K dX10_sheet_29 rfl ?_
            refine v_iconstN K 1 rfl dX10_sheet_30 ?_
            refine v_callV (As := [.int (nI 1)]) K (c_X10_finds h 1 (by omega)) lX10_113 ck_X10 rfl sh_118 pl_118 rfl ⟨by decide, by decide⟩ (Nat.le_of_ble_eq_true rfl) dX10_sheet_31 (fun r21 h9 hp9 => ?_) rfl
            obtain ⟨rfl, rfl⟩ := hp9
            refine v_some ?_
            have hRf8 : RR (u2 h 122 1 (h 122 1 + nI 1)) (u2 s 122 1 (s 122 1 + nI 1)) := by rw [show (h 122 1) = s 122 1 from hR.at RA_122]; exact hR.u RA_122
            refine v_iret K dX10_sheet_34 ?_
            have eY : Y_sheet s (nI j1) b n = ((-1000000000) - nI 1, (u2 s 122 1 (s 122 1 + nI 1))) := by
              unfold Y_sheet
              refine (@if_pos _ (Classical.propDecidable _) (fun q => by rcases q.2 with x | x | x | x <;> exact absurd x (by assumption)) _ _ _).trans ?_
              first | rfl | ((try rw [cl_ix (show j1 < 2 ^ 31 by omega)]))
            exact rfin eY hRf8

abbrev P_X10_put (h s : Mm) (τ τk : Nat → List Int32) (w i v : Int32) : Option Value → Mm → Prop := fun r h2 => r = some (.int (Y_put s w i v).1) ∧ RR h2 (Y_put s w i v).2
theorem c_X10_put {l : Launch} (h s : Mm) (τ τk : Nat → List Int32) (w i v : Int32) (hR : RR h s) (hI : INV s τ τk) : Con l yX10_put cX10_put 4 (some .int) 2 45 132 GL h [.ref 118, .int w, .int i, .int v] (P_X10_put h s τ τk w i v) := by
  refine Con.ofV (own := "FoxRoundsModel") (nm := "put") rfl rfl (by decide) (Nat.le_of_ble_eq_true rfl) ?_
  intro κ ρ hkl K
  subst hkl
  show V κ (QM κ (132, ρ, GL, 0, 0) (P_X10_put h s τ τk w i v)) 4 (132, ρ, GL, 0, 0) h 0 [(0, .ref 118), (1, .int w), (2, .int i), (3, .int v)] []
  have hd := hI.d
  have hn8 := hd.nw8
  have ht5 := hd.nt5
  refine v_iload_n K dX10_put_0 rfl ?_
  refine v_callS (As := [.int w]) K (c_X10_isSheet h w) lX10_186 rfl ⟨by decide, by decide⟩ (Nat.le_of_ble_eq_true rfl) dX10_put_1 (fun r1 h1 hp1 => ?_) rfl
  obtain ⟨rfl, rfl⟩ := hp1
  refine v_some ?_
  refine v_ifB_ne (tgt := 13) K dX10_put_4 rfl (fun c1 => ?_) (fun c1 => ?_)
  · skip
    obtain ⟨j1, Hj1, rfl⟩ := c1
    refine v_aload_n K dX10_put_13 rfl ?_
    refine v_getr (q := 128) K fX10_38 sh_118 pl_118 gl_118_18 dX10_put_14 ?_
    refine v_iload_n K dX10_put_17 rfl ?_
    refine v_iald (x := s 128 j1) K sh_128 pl_128 (by omega) (hR.at RA_128) dX10_put_18 ?_
    refine v_if_ne (tgt := 28) K dX10_put_19 rfl (fun c2 => ?_) (fun c2 => ?_)
    · skip
      obtain ⟨hbo, sz, hsz, esz, -⟩ := hI.2.2.1 j1 (by omega)
      refine v_iload_n K dX10_put_28 rfl ?_
      refine v_i2l K dX10_put_29 rfl ?_
      refine v_lconst (v := (nI 0).toInt64) K dX10_put_30 (by decide) ?_
      refine v_aload_n K dX10_put_31 rfl ?_
      refine v_getr (q := 129) K fX10_41 sh_118 pl_118 gl_118_19 dX10_put_32 ?_
      refine v_iload_n K dX10_put_35 rfl ?_
      refine v_iald (x := nI sz) K sh_129 pl_129 (by omega) ((hR.at RA_129).trans esz) dX10_put_36 ?_
      refine v_iconstN K 1 rfl dX10_put_37 ?_
      refine v_isub K dX10_put_38 ?_
      refine v_i2l K dX10_put_39 rfl ?_
      refine v_callS (As := [.long i.toInt64, .long (nI 0).toInt64, .long ((nI sz) - (nI 1)).toInt64]) K (c_X10_in h i (nI 0) (nI sz - nI 1)) lX10_51 rfl ⟨by decide, by decide⟩ (Nat.le_of_ble_eq_true rfl) dX10_put_40 (fun r2 h2 hp2 => ?_) rfl
      obtain ⟨rfl, rfl⟩ := hp2
      refine v_some ?_
      rw [show (nI 0 ≤ i ∧ i ≤ nI sz - nI 1) = ix i sz from propext (ix_rng1 (show sz < 2 ^ 30 by omega))]
      refine v_ifB_ne (tgt := 52) K dX10_put_43 rfl (fun c3 => ?_) (fun c3 => ?_)
      · skip
        obtain ⟨j2, Hj2, rfl⟩ := c3
        refine v_aload_n K dX10_put_52 rfl ?_
        refine v_getr (q := 130) K fX10_44 sh_118 pl_118 gl_118_20 dX10_put_53 ?_
        refine v_bipushN K 40 rfl dX10_put_56 ?_
        refine v_iload_n K dX10_put_58 rfl ?_
        refine v_imulN K dX10_put_59 ?_
        refine v_iload_n K dX10_put_60 rfl ?_
        refine v_iaddN K dX10_put_61 ?_
        refine v_aload_n K dX10_put_62 rfl ?_
        refine v_getr (q := 128) K fX10_38 sh_118 pl_118 gl_118_18 dX10_put_63 ?_
        refine v_iload_n K dX10_put_66 rfl ?_
        refine v_iald (x := s 128 j1) K sh_128 pl_128 (by omega) (hR.at RA_128) dX10_put_67 ?_
        refine v_bipushN K 8 rfl dX10_put_68 ?_
        refine v_icmp_ne (tgt := 78) K dX10_put_70 rfl (fun c4 => ?_) (fun c4 => ?_)
        · skip
          refine v_aload_n K dX10_put_78 rfl ?_
          refine v_getr (q := 128) K fX10_38 sh_118 pl_118 gl_118_18 dX10_put_79 ?_
          refine v_iload_n K dX10_put_82 rfl ?_
          refine v_iald (x := s 128 j1) K sh_128 pl_128 (by omega) (hR.at RA_128) dX10_put_83 ?_
          refine v_bipushN K 16 rfl dX10_put_84 ?_
          refine v_icmp_ne (tgt := 94) K dX10_put_86 rfl (fun c5 => ?_) (fun c5 => ?_)
          · skip
            refine v_iload_n K dX10_put_94 rfl ?_
            refine v_iast K sh_130 pl_130 (by omega) dX10_put_95 ?_
            have hRr3 : RR (u2 h 130 (40 * j1 + j2) v) (u2 s 130 (40 * j1 + j2) v) := hR.u RA_130
            refine v_iconstN K 1 rfl dX10_put_96 ?_
            refine v_iret K dX10_put_97 ?_
            have eY : Y_put s (nI j1) (nI j2) v = (nI 1, (u2 s 130 (40 * j1 + j2) v)) := by
              unfold Y_put
              refine (@if_neg _ (Classical.propDecidable _) (fun q => q (by first | assumption | exact ⟨_, by assumption, rfl⟩ | exact Or.inl rfl | exact Or.inr (Or.inl rfl) | exact Or.inr (Or.inr rfl) | omega)) _ _ _).trans ?_
              refine (@if_neg _ (Classical.propDecidable _) (by rw [cl_ix (show j1 < 2 ^ 31 by omega)]; exact c2) _ _ _).trans ?_
              refine (@if_pos _ (Classical.propDecidable _) (by rw [cl_ix (show j1 < 2 ^ 31 by omega), esz, cl_ix (show sz < 2 ^ 31 by omega)]; exact ⟨_, by assumption, rfl⟩) _ _ _).trans ?_
              rw [cl_ix (show j1 < 2 ^ 31 by omega), cl_ix (show j2 < 2 ^ 31 by omega)]; unfold putV; rw [if_neg c4, if_neg c5]
            exact rfin eY hRr3
          · skip
            refine v_iload_n K dX10_put_89 rfl ?_
            refine v_i2s K dX10_put_90 rfl ?_
            refine v_goto (tgt := 95) K dX10_put_91 rfl ?_
            refine v_iast K sh_130 pl_130 (by omega) dX10_put_95 ?_
            have hRr4 : RR (u2 h 130 (40 * j1 + j2) v.toInt16.toInt32) (u2 s 130 (40 * j1 + j2) v.toInt16.toInt32) := hR.u RA_130
            refine v_iconstN K 1 rfl dX10_put_96 ?_
            refine v_iret K dX10_put_97 ?_
            have eY : Y_put s (nI j1) (nI j2) v = (nI 1, (u2 s 130 (40 * j1 + j2) v.toInt16.toInt32)) := by
              unfold Y_put
              refine (@if_neg _ (Classical.propDecidable _) (fun q => q (by first | assumption | exact ⟨_, by assumption, rfl⟩ | exact Or.inl rfl | exact Or.inr (Or.inl rfl) | exact Or.inr (Or.inr rfl) | omega)) _ _ _).trans ?_
              refine (@if_neg _ (Classical.propDecidable _) (by rw [cl_ix (show j1 < 2 ^ 31 by omega)]; exact c2) _ _ _).trans ?_
              refine (@if_pos _ (Classical.propDecidable _) (by rw [cl_ix (show j1 < 2 ^ 31 by omega), esz, cl_ix (show sz < 2 ^ 31 by omega)]; exact ⟨_, by assumption, rfl⟩) _ _ _).trans ?_
              rw [cl_ix (show j1 < 2 ^ 31 by omega), cl_ix (show j2 < 2 ^ 31 by omega)]; unfold putV; rw [if_neg c4, if_pos c5]
            exact rfin eY hRr4
        · skip
          refine v_iload_n K dX10_put_73 rfl ?_
          refine v_i2b K dX10_put_74 rfl ?_
          refine v_goto (tgt := 95) K dX10_put_75 rfl ?_
          refine v_iast K sh_130 pl_130 (by omega) dX10_put_95 ?_
          have hRr5 : RR (u2 h 130 (40 * j1 + j2) v.toInt8.toInt32) (u2 s 130 (40 * j1 + j2) v.toInt8.toInt32) := hR.u RA_130
          refine v_iconstN K 1 rfl dX10_put_96 ?_
          refine v_iret K dX10_put_97 ?_
          have eY : Y_put s (nI j1) (nI j2) v = (nI 1, (u2 s 130 (40 * j1 + j2) v.toInt8.toInt32)) := by
            unfold Y_put
            refine (@if_neg _ (Classical.propDecidable _) (fun q => q (by first | assumption | exact ⟨_, by assumption, rfl⟩ | exact Or.inl rfl | exact Or.inr (Or.inl rfl) | exact Or.inr (Or.inr rfl) | omega)) _ _ _).trans ?_
            refine (@if_neg _ (Classical.propDecidable _) (by rw [cl_ix (show j1 < 2 ^ 31 by omega)]; exact c2) _ _ _).trans ?_
            refine (@if_pos _ (Classical.propDecidable _) (by rw [cl_ix (show j1 < 2 ^ 31 by omega), esz, cl_ix (show sz < 2 ^ 31 by omega)]; exact ⟨_, by assumption, rfl⟩) _ _ _).trans ?_
            rw [cl_ix (show j1 < 2 ^ 31 by omega), cl_ix (show j2 < 2 ^ 31 by omega)]; unfold putV; rw [if_pos c4]
          exact rfin eY hRr5
      · skip
        refine v_aload_n K dX10_put_46 rfl ?_
        refine v_iconstN K 1 rfl dX10_put_47 ?_
        refine v_callV (As := [.int (nI 1)]) K (c_X10_finds h 1 (by omega)) lX10_113 ck_X10 rfl sh_118 pl_118 rfl ⟨by decide, by decide⟩ (Nat.le_of_ble_eq_true rfl) dX10_put_48 (fun r6 h3 hp3 => ?_) rfl
        obtain ⟨rfl, rfl⟩ := hp3
        refine v_some ?_
        have hRf1 : RR (u2 h 122 1 (h 122 1 + nI 1)) (u2 s 122 1 (s 122 1 + nI 1)) := by rw [show (h 122 1) = s 122 1 from hR.at RA_122]; exact hR.u RA_122
        refine v_iret K dX10_put_51 ?_
        have eY : Y_put s (nI j1) i v = ((-1000000000) - nI 1, (u2 s 122 1 (s 122 1 + nI 1))) := by
          unfold Y_put
          refine (@if_neg _ (Classical.propDecidable _) (fun q => q (by first | assumption | exact ⟨_, by assumption, rfl⟩ | exact Or.inl rfl | exact Or.inr (Or.inl rfl) | exact Or.inr (Or.inr rfl) | omega)) _ _ _).trans ?_
          refine (@if_neg _ (Classical.propDecidable _) (by rw [cl_ix (show j1 < 2 ^ 31 by omega)]; exact c2) _ _ _).trans ?_
          refine (@if_neg _ (Classical.propDecidable _) (by rw [cl_ix (show j1 < 2 ^ 31 by omega), esz, cl_ix (show sz < 2 ^ 31 by omega)]; assumption) _ _ _).trans ?_
          first | rfl | ((try rw [cl_ix (show j1 < 2 ^ 31 by omega)]))
        exact rfin eY hRf1
    · skip
      refine v_aload_n K dX10_put_22 rfl ?_
      refine v_iconstN K 2 rfl dX10_put_23 ?_
      refine v_callV (As := [.int (nI 2)]) K (c_X10_finds h 2 (by omega)) lX10_113 ck_X10 rfl sh_118 pl_118 rfl ⟨by decide, by decide⟩ (Nat.le_of_ble_eq_true rfl) dX10_put_24 (fun r7 h4 hp4 => ?_) rfl
      obtain ⟨rfl, rfl⟩ := hp4
      refine v_some ?_
      have hRf2 : RR (u2 h 122 2 (h 122 2 + nI 1)) (u2 s 122 2 (s 122 2 + nI 1)) := by rw [show (h 122 2) = s 122 2 from hR.at RA_122]; exact hR.u RA_122
      refine v_iret K dX10_put_27 ?_
      have eY : Y_put s (nI j1) i v = ((-1000000000) - nI 2, (u2 s 122 2 (s 122 2 + nI 1))) := by
        unfold Y_put
        refine (@if_neg _ (Classical.propDecidable _) (fun q => q (by first | assumption | exact ⟨_, by assumption, rfl⟩ | exact Or.inl rfl | exact Or.inr (Or.inl rfl) | exact Or.inr (Or.inr rfl) | omega)) _ _ _).trans ?_
        refine (@if_pos _ (Classical.propDecidable _) (by rw [cl_ix (show j1 < 2 ^ 31 by omega)]; exact c2) _ _ _).trans ?_
        first | rfl | ((try rw [cl_ix (show j1 < 2 ^ 31 by omega)]))
      exact rfin eY hRf2
  · skip
    refine v_aload_n K dX10_put_7 rfl ?_
    refine v_iconstN K 1 rfl dX10_put_8 ?_
    refine v_callV (As := [.int (nI 1)]) K (c_X10_finds h 1 (by omega)) lX10_113 ck_X10 rfl sh_118 pl_118 rfl ⟨by decide, by decide⟩ (Nat.le_of_ble_eq_true rfl) dX10_put_9 (fun r8 h5 hp5 => ?_) rfl
    obtain ⟨rfl, rfl⟩ := hp5
    refine v_some ?_
    have hRf3 : RR (u2 h 122 1 (h 122 1 + nI 1)) (u2 s 122 1 (s 122 1 + nI 1)) := by rw [show (h 122 1) = s 122 1 from hR.at RA_122]; exact hR.u RA_122
    refine v_iret K dX10_put_12 ?_
    have eY : Y_put s w i v = ((-1000000000) - nI 1, (u2 s 122 1 (s 122 1 + nI 1))) := by
      unfold Y_put
      refine (@if_pos _ (Classical.propDecidable _) (fun q => absurd q (by assumption)) _ _ _).trans ?_
      first | rfl | (rfl)
    exact rfin eY hRf3
