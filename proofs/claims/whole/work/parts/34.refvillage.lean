/-! the VILLAGE: who is shut, as bits -/
def comesV (d : Dm) (S k : Nat) : Int32 := if S % 2 ^ k = 2 ^ k - 1 then d (28 + 3 * k + 1) else nI 0
def flipV (d : Dm) (S k : Nat) : Prop := if bitN S k = 1 then comesV d S k < d (28 + 3 * k) else d (28 + 3 * k) < comesV d S k
def flipS (S k : Nat) : Nat := if bitN S k = 1 then S - 2 ^ k else S + 2 ^ k
noncomputable def rndV (d : Dm) (S : Nat) : Nat → Nat × Nat
  | 0 => (S, 0)
  | k + 1 => @ite _ (flipV d (rndV d S k).1 k) (Classical.propDecidable _) (flipS (rndV d S k).1 k, 1) (rndV d S k)
theorem rnd_y {d : Dm} {S k S2 c2 : Nat} (e : rndV d S k = (S2, c2)) (h : flipV d S2 k) : rndV d S (k + 1) = (flipS S2 k, 1) := by
  rw [rndV, e]; exact @if_pos _ (Classical.propDecidable _) h _ _ _
theorem rnd_n {d : Dm} {S k S2 c2 : Nat} (e : rndV d S k = (S2, c2)) (h : ¬ flipV d S2 k) : rndV d S (k + 1) = (S2, c2) := by
  rw [rndV, e]; exact @if_neg _ (Classical.propDecidable _) h _ _ _
noncomputable def vilG (d : Dm) : Nat → Nat → Nat → Nat × Nat × Nat
  | 0, r, S => (S, r, 1)
  | f + 1, r, S => if (rndV d S 6).2 = 0 then ((rndV d S 6).1, r + 1, 0) else vilG d f (r + 1) (rndV d S 6).1
theorem vil_e {d : Dm} {f r S S2 : Nat} (e : rndV d S 6 = (S2, 0)) : vilG d (f + 1) r S = (S2, r + 1, 0) := by rw [vilG, e]; exact if_pos rfl
theorem vil_o {d : Dm} {f r S S2 c : Nat} (e : rndV d S 6 = (S2, c)) (hc : ¬ c = 0) : vilG d (f + 1) r S = vilG d f (r + 1) S2 := by rw [vilG, e]; exact if_neg hc
def shutS (d : Dm) : Nat → Nat
  | 0 => 0
  | k + 1 => shutS d k + (d (28 + 3 * k + 2)).toNatClampNeg * 2 ^ k
noncomputable def vilR (d : Dm) : Nat × Nat × Nat := vilG d 20 0 (shutS d 6)
theorem p2_le {k : Nat} (hk : k < 6) : 1 ≤ 2 ^ k ∧ 2 ^ k ≤ 32 ∧ 2 ^ (k + 1) = 2 ^ k + 2 ^ k := by
  have : ∀ k, k < 6 → 1 ≤ 2 ^ k ∧ 2 ^ k ≤ 32 ∧ 2 ^ (k + 1) = 2 ^ k + 2 ^ k := by decide
  exact this k hk
theorem vb_or {S k b : Nat} (h1 : S < 64) (h2 : k < 6) (h3 : b < 2) (h4 : S < 2 ^ k) : nI S ||| (nI b <<< (nI k &&& 31)) = nI (S + b * 2 ^ k) := by
  have : ∀ S, S < 64 → ∀ k, k < 6 → ∀ b, b < 2 → S < 2 ^ k → nI S ||| (nI b <<< (nI k &&& 31)) = nI (S + b * 2 ^ k) := by decide +kernel
  exact this S h1 k h2 b h3 h4
theorem vb_and {S k : Nat} (h1 : S < 64) (h2 : k < 6) : nI S &&& (nI 1 <<< (nI k &&& 31) - nI 1) = nI (S % 2 ^ k) := by
  have : ∀ S, S < 64 → ∀ k, k < 6 → nI S &&& (nI 1 <<< (nI k &&& 31) - nI 1) = nI (S % 2 ^ k) := by decide +kernel
  exact this S h1 k h2
theorem vb_m1 {k : Nat} (h2 : k < 6) : nI 1 <<< (nI k &&& 31) - nI 1 = nI (2 ^ k - 1) := by
  have : ∀ k, k < 6 → nI 1 <<< (nI k &&& 31) - nI 1 = nI (2 ^ k - 1) := by decide +kernel
  exact this k h2
theorem vb_bit {S k : Nat} (h1 : S < 64) (h2 : k < 6) : (nI S >>> (nI k &&& 31)) &&& nI 1 = nI (bitN S k) := by
  have : ∀ S, S < 64 → ∀ k, k < 6 → (nI S >>> (nI k &&& 31)) &&& nI 1 = nI (bitN S k) := by decide +kernel
  exact this S h1 k h2
theorem vb_xor {S k : Nat} (h1 : S < 64) (h2 : k < 6) : nI S ^^^ (nI 1 <<< (nI k &&& 31)) = nI (flipS S k) := by
  have : ∀ S, S < 64 → ∀ k, k < 6 → nI S ^^^ (nI 1 <<< (nI k &&& 31)) = nI (flipS S k) := by decide +kernel
  exact this S h1 k h2
theorem fl_lt {S k : Nat} (h1 : S < 64) (h2 : k < 6) : flipS S k < 64 := by
  have : ∀ S, S < 64 → ∀ k, k < 6 → flipS S k < 64 := by decide +kernel
  exact this S h1 k h2
theorem bit_1 {S k : Nat} : ¬ bitN S k = 1 → bitN S k = 0 := by have := bitN_le (left := S) (k := k); omega

noncomputable def Y_village (s : Mm) (k : Int32) : Rs := @ite _ (¬ (ix k 2)) (Classical.propDecidable _) (er s 1) ( @ite _ (k = nI 1) (Classical.propDecidable _) ((nI (vilR (s 119)).1, s)) ( ((if (vilR (s 119)).2.2 = 1 then (-1) else nI (vilR (s 119)).2.1), s)))

abbrev P_X10_village (h s : Mm) (τ τk : Nat → List Int32) (k : Int32) : Option Value → Mm → Prop := fun r h2 => r = some (.int (Y_village s k).1) ∧ RR h2 (Y_village s k).2
theorem c_X10_village {l : Launch} (h s : Mm) (τ τk : Nat → List Int32) (k : Int32) (hR : RR h s) (hI : INV s τ τk) : Con l yX10_village cX10_village 8 (some .int) 1 25 132 GL h [.ref 118, .int k] (P_X10_village h s τ τk k) := by
  refine Con.ofV (own := "FoxRoundsModel") (nm := "village") rfl rfl (by decide) (Nat.le_of_ble_eq_true rfl) ?_
  intro κ ρ hkl K
  subst hkl
  show V κ (QM κ (132, ρ, GL, 0, 0) (P_X10_village h s τ τk k)) 8 (132, ρ, GL, 0, 0) h 0 [(0, .ref 118), (1, .int k)] []
  have hd := hI.d
  have hn8 := hd.nw8
  have ht5 := hd.nt5
  refine v_iload_n K dX10_village_0 rfl ?_
  refine v_i2l K dX10_village_1 rfl ?_
  refine v_lconst (v := (nI 0).toInt64) K dX10_village_2 (by decide) ?_
  refine v_lconst (v := (nI 1).toInt64) K dX10_village_3 (by decide) ?_
  refine v_callS (As := [.long k.toInt64, .long (nI 0).toInt64, .long (nI 1).toInt64]) K (c_X10_in h k (nI 0) (nI 1)) lX10_51 rfl ⟨by decide, by decide⟩ (Nat.le_of_ble_eq_true rfl) dX10_village_4 (fun r1 h1 hp1 => ?_) rfl
  obtain ⟨rfl, rfl⟩ := hp1
  refine v_some ?_
  rw [show (nI 0 ≤ k ∧ k ≤ nI 1) = ix k 2 from in_ix (by decide)]
  refine v_ifB_ne (tgt := 16) K dX10_village_7 rfl (fun c1 => ?_) (fun c1 => ?_)
  · skip
    obtain ⟨j1, Hj1, rfl⟩ := c1
    refine v_iconstN K 0 rfl dX10_village_16 ?_
    refine v_istore_n (lv2 := [(2, .int (nI 0)), (0, .ref 118), (1, .int (nI j1))]) K dX10_village_17 (by decide) rfl ?_
    refine v_iconstN K 0 rfl dX10_village_18 ?_
    refine v_istore_n (lv2 := [(3, .int (nI 0)), (2, .int (nI 0)), (0, .ref 118), (1, .int (nI j1))]) K dX10_village_19 (by decide) rfl ?_
    have L20 : ∀ (mm : Nat) (S : Nat) (a : Nat) (ha : a ≤ 6) (hSv : S = shutS (s 119) a) (hSl : S < 2 ^ a) (hS6 : S < 64), 7 - a < mm → V κ (QM κ (132, ρ, GL, 0, 0) (P_X10_village h s τ τk (nI j1))) 8 (132, ρ, GL, 0, 0) h 20 [(0, .ref 118), (1, .int (nI j1)), (2, .int (nI S)), (3, .int (nI a))] [] := by
      intro mm
      induction mm with
      | zero => intro S a ha hSv hSl hS6 hmm; exact absurd hmm (Nat.not_lt_zero _)
      | succ mm ih20 =>
        intro S a ha hSv hSl hS6 hmm
        refine v_iload_n K dX10_village_20 rfl ?_
        refine v_bipushN K 6 rfl dX10_village_21 ?_
        refine v_icmpN_ge (tgt := 50) K (by omega) (by omega) dX10_village_23 rfl (fun c2 => ?_) (fun c2 => ?_)
        · skip
          refine v_iconstN K 0 rfl dX10_village_50 ?_
          refine v_istore_n (lv2 := [(3, .int (nI 0)), (0, .ref 118), (1, .int (nI j1)), (2, .int (nI S))]) K dX10_village_51 (by decide) rfl ?_
          refine v_iconstN K 1 rfl dX10_village_52 ?_
          refine v_istore (lv2 := [(4, .int (nI 1)), (3, .int (nI 0)), (0, .ref 118), (1, .int (nI j1)), (2, .int (nI S))]) K dX10_village_53 (by decide) rfl ?_
          have L55 : ∀ (mm : Nat) (S : Nat) (r : Nat) (c : Nat) (hr20 : r ≤ 20) (hc : (c = 1 ∧ vilR (s 119) = vilG (s 119) (20 - r) r S ∧ S < 64) ∨ (c = 0 ∧ vilR (s 119) = (S, r, 0))), 21 - r < mm → V κ (QM κ (132, ρ, GL, 0, 0) (P_X10_village h s τ τk (nI j1))) 8 (132, ρ, GL, 0, 0) h 55 [(0, .ref 118), (1, .int (nI j1)), (2, .int (nI S)), (3, .int (nI r)), (4, .int (nI c))] [] := by
            intro mm
            induction mm with
            | zero => intro S r c hr20 hc hmm; exact absurd hmm (Nat.not_lt_zero _)
            | succ mm ih55 =>
              intro S r c hr20 hc hmm
              have hcl : c ≤ 1 := by omega
              refine v_iload_n K dX10_village_55 rfl ?_
              refine v_bipushN K 20 rfl dX10_village_56 ?_
              refine v_icmpN_ge (tgt := 197) K (by omega) (by omega) dX10_village_58 rfl (fun c3 => ?_) (fun c3 => ?_)
              · skip
                refine v_iload_n K dX10_village_197 rfl ?_
                refine v_iconstN K 1 rfl dX10_village_198 ?_
                refine v_icmpN_ne (tgt := 206) K (by omega) (by omega) dX10_village_199 rfl (fun c4 => ?_) (fun c4 => ?_)
                · skip
                  refine v_iload K dX10_village_206 rfl ?_
                  refine v_ifN_eq (tgt := 215) K (by omega) dX10_village_208 rfl (fun c5 => ?_) (fun c5 => ?_)
                  · skip
                    refine v_iload_n K dX10_village_215 rfl ?_
                    refine v_iret K dX10_village_216 ?_
                    have eY : Y_village s (nI j1) = (nI r, s) := by
                      unfold Y_village
                      refine (@if_neg _ (Classical.propDecidable _) (fun q => q (by first | assumption | exact ⟨_, by assumption, rfl⟩ | exact Or.inl rfl | exact Or.inr (Or.inl rfl) | exact Or.inr (Or.inr rfl) | omega)) _ _ _).trans ?_
                      refine (@if_neg _ (Classical.propDecidable _) (fun q => absurd (nI_inj (by omega) (by omega) q) (by omega)) _ _ _).trans ?_
                      rcases hc with ⟨hc1, hv, hS⟩ | ⟨hc0, hv⟩; (exact absurd hc1 (by omega)); rw [hv]; rfl
                    exact rfin eY hR
                  · skip
                    refine v_iconst (v := (-1)) K dX10_village_211 (by decide) ?_
                    refine v_goto (tgt := 216) K dX10_village_212 rfl ?_
                    refine v_iret K dX10_village_216 ?_
                    have eY : Y_village s (nI j1) = ((-1), s) := by
                      unfold Y_village
                      refine (@if_neg _ (Classical.propDecidable _) (fun q => q (by first | assumption | exact ⟨_, by assumption, rfl⟩ | exact Or.inl rfl | exact Or.inr (Or.inl rfl) | exact Or.inr (Or.inr rfl) | omega)) _ _ _).trans ?_
                      refine (@if_neg _ (Classical.propDecidable _) (fun q => absurd (nI_inj (by omega) (by omega) q) (by omega)) _ _ _).trans ?_
                      rcases hc with ⟨hc1, hv, hS⟩ | ⟨hc0, hv⟩; (rw [hv, show 20 - r = 0 by omega]; rfl); exact absurd hc0 (by omega)
                    exact rfin eY hR
                · skip
                  refine v_iload_n K dX10_village_202 rfl ?_
                  refine v_goto (tgt := 216) K dX10_village_203 rfl ?_
                  refine v_iret K dX10_village_216 ?_
                  have eY : Y_village s (nI j1) = (nI S, s) := by
                    unfold Y_village
                    refine (@if_neg _ (Classical.propDecidable _) (fun q => q (by first | assumption | exact ⟨_, by assumption, rfl⟩ | exact Or.inl rfl | exact Or.inr (Or.inl rfl) | exact Or.inr (Or.inr rfl) | omega)) _ _ _).trans ?_
                    refine (@if_pos _ (Classical.propDecidable _) (by rw [show j1 = 1 by omega]) _ _ _).trans ?_
                    have hfin : (vilR (s 119)).1 = S := (by rcases hc with ⟨hc1, hv, hS⟩ | ⟨hc0, hv⟩; (rw [hv, show 20 - r = 0 by omega]; rfl); rw [hv]); rw [hfin]
                  exact rfin eY hR
              · skip
                refine v_iload K dX10_village_61 rfl ?_
                refine v_ifN_eq (tgt := 197) K (by omega) dX10_village_63 rfl (fun c6 => ?_) (fun c6 => ?_)
                · skip
                  refine v_iload_n K dX10_village_197 rfl ?_
                  refine v_iconstN K 1 rfl dX10_village_198 ?_
                  refine v_icmpN_ne (tgt := 206) K (by omega) (by omega) dX10_village_199 rfl (fun c7 => ?_) (fun c7 => ?_)
                  · skip
                    refine v_iload K dX10_village_206 rfl ?_
                    refine v_ifN_eq (tgt := 215) K (by omega) dX10_village_208 rfl (fun c8 => ?_) (fun c8 => ?_)
                    · skip
                      refine v_iload_n K dX10_village_215 rfl ?_
                      refine v_iret K dX10_village_216 ?_
                      have eY : Y_village s (nI j1) = (nI r, s) := by
                        unfold Y_village
                        refine (@if_neg _ (Classical.propDecidable _) (fun q => q (by first | assumption | exact ⟨_, by assumption, rfl⟩ | exact Or.inl rfl | exact Or.inr (Or.inl rfl) | exact Or.inr (Or.inr rfl) | omega)) _ _ _).trans ?_
                        refine (@if_neg _ (Classical.propDecidable _) (fun q => absurd (nI_inj (by omega) (by omega) q) (by omega)) _ _ _).trans ?_
                        rcases hc with ⟨hc1, hv, hS⟩ | ⟨hc0, hv⟩; (exact absurd hc1 (by omega)); rw [hv]; rfl
                      exact rfin eY hR
                    · skip
                      refine v_iconst (v := (-1)) K dX10_village_211 (by decide) ?_
                      refine v_goto (tgt := 216) K dX10_village_212 rfl ?_
                      refine v_iret K dX10_village_216 ?_
                      have eY : Y_village s (nI j1) = ((-1), s) := by
                        unfold Y_village
                        refine (@if_neg _ (Classical.propDecidable _) (fun q => q (by first | assumption | exact ⟨_, by assumption, rfl⟩ | exact Or.inl rfl | exact Or.inr (Or.inl rfl) | exact Or.inr (Or.inr rfl) | omega)) _ _ _).trans ?_
                        refine (@if_neg _ (Classical.propDecidable _) (fun q => absurd (nI_inj (by omega) (by omega) q) (by omega)) _ _ _).trans ?_
                        rcases hc with ⟨hc1, hv, hS⟩ | ⟨hc0, hv⟩; (rw [hv, show 20 - r = 0 by omega]; rfl); exact absurd hc0 (by omega)
                      exact rfin eY hR
                  · skip
                    refine v_iload_n K dX10_village_202 rfl ?_
                    refine v_goto (tgt := 216) K dX10_village_203 rfl ?_
                    refine v_iret K dX10_village_216 ?_
                    have eY : Y_village s (nI j1) = (nI S, s) := by
                      unfold Y_village
                      refine (@if_neg _ (Classical.propDecidable _) (fun q => q (by first | assumption | exact ⟨_, by assumption, rfl⟩ | exact Or.inl rfl | exact Or.inr (Or.inl rfl) | exact Or.inr (Or.inr rfl) | omega)) _ _ _).trans ?_
                      refine (@if_pos _ (Classical.propDecidable _) (by rw [show j1 = 1 by omega]) _ _ _).trans ?_
                      have hfin : (vilR (s 119)).1 = S := (by rcases hc with ⟨hc1, hv, hS⟩ | ⟨hc0, hv⟩; (rw [hv, show 20 - r = 0 by omega]; rfl); rw [hv]); rw [hfin]
                    exact rfin eY hR
                · skip
                  refine v_iincN (lv2 := [(3, .int (nI (r + 1))), (0, .ref 118), (1, .int (nI j1)), (2, .int (nI S)), (4, .int (nI c))]) K 1 dX10_village_66 rfl rfl (by decide) rfl ?_
                  refine v_iconstN K 0 rfl dX10_village_69 ?_
                  refine v_istore (lv2 := [(4, .int (nI 0)), (3, .int (nI (r + 1))), (0, .ref 118), (1, .int (nI j1)), (2, .int (nI S))]) K dX10_village_70 (by decide) rfl ?_
                  refine v_iconstN K 0 rfl dX10_village_72 ?_
                  refine v_istore (lv2 := [(5, .int (nI 0)), (4, .int (nI 0)), (3, .int (nI (r + 1))), (0, .ref 118), (1, .int (nI j1)), (2, .int (nI S))]) K dX10_village_73 (by decide) rfl ?_
                  have L75 : ∀ (mm : Nat) (S2 : Nat) (c2 : Nat) (k : Nat) (hk : k ≤ 6) (hr : rndV (s 119) S k = (S2, c2)) (hS2 : S2 < 64) (hc2 : c2 ≤ 1), 7 - k < mm → V κ (QM κ (132, ρ, GL, 0, 0) (P_X10_village h s τ τk (nI j1))) 8 (132, ρ, GL, 0, 0) h 75 [(0, .ref 118), (1, .int (nI j1)), (2, .int (nI S2)), (3, .int (nI (r + 1))), (4, .int (nI c2)), (5, .int (nI k))] [] := by
                    intro mm
                    induction mm with
                    | zero => intro S2 c2 k hk hr hS2 hc2 hmm; exact absurd hmm (Nat.not_lt_zero _)
                    | succ mm ih75 =>
                      intro S2 c2 k hk hr hS2 hc2 hmm
                      have hbl : bitN S2 k ≤ 1 := bitN_le
                      refine v_iload K dX10_village_75 rfl ?_
                      refine v_bipushN K 6 rfl dX10_village_77 ?_
                      refine v_icmpN_ge (tgt := 194) K (by omega) (by omega) dX10_village_79 rfl (fun c9 => ?_) (fun c9 => ?_)
                      · skip
                        refine v_goto (tgt := 55) K dX10_village_194 rfl ?_
                        refine v_sub (lv2 := [(0, .ref 118), (1, .int (nI j1)), (2, .int (nI S2)), (3, .int (nI (r + 1))), (4, .int (nI c2))]) (by simp) ?_
                        exact ih55 S2 (r + 1) c2 (by omega) (by rw [show k = 6 by omega] at hr; rcases hc with ⟨hc1, hv, hS⟩ | ⟨hc0, hv⟩; (rw [show 20 - r = (20 - (r + 1)) + 1 by omega] at hv; by_cases q : c2 = 0; (subst q; exact Or.inr ⟨rfl, hv.trans (vil_e hr)⟩); exact Or.inl ⟨by omega, hv.trans (vil_o hr q), hS2⟩); exact absurd hc0 (by omega)) (by omega)
                      · skip
                        have hp2 := p2_le (k := k) (by omega)
                        refine v_iload_n K dX10_village_82 rfl ?_
                        refine v_iconstN K 1 rfl dX10_village_83 ?_
                        refine v_iload K dX10_village_84 rfl ?_
                        refine v_ishl K dX10_village_86 ?_
                        refine v_iconstN K 1 rfl dX10_village_87 ?_
                        refine v_isub K dX10_village_88 ?_
                        refine v_iand K dX10_village_89 ?_
                        refine v_top (y := nI (S2 % 2 ^ k)) (vb_and hS2 (by omega)) ?_
                        refine v_iconstN K 1 rfl dX10_village_90 ?_
                        refine v_iload K dX10_village_91 rfl ?_
                        refine v_ishl K dX10_village_93 ?_
                        refine v_iconstN K 1 rfl dX10_village_94 ?_
                        refine v_isub K dX10_village_95 ?_
                        refine v_top (y := nI (2 ^ k - 1)) (vb_m1 (by omega)) ?_
                        refine v_icmpN_ne (tgt := 116) K (by omega) (by omega) dX10_village_96 rfl (fun c10 => ?_) (fun c10 => ?_)
                        · skip
                          refine v_iconstN K 0 rfl dX10_village_116 ?_
                          refine v_istore (lv2 := [(6, .int (nI 0)), (0, .ref 118), (1, .int (nI j1)), (2, .int (nI S2)), (3, .int (nI (r + 1))), (4, .int (nI c2)), (5, .int (nI k))]) K dX10_village_117 (by decide) rfl ?_
                          refine v_iload_n K dX10_village_119 rfl ?_
                          refine v_iload K dX10_village_120 rfl ?_
                          refine v_ishr K dX10_village_122 ?_
                          refine v_iconstN K 1 rfl dX10_village_123 ?_
                          refine v_iand K dX10_village_124 ?_
                          refine v_top (y := nI (bitN S2 k)) (vb_bit hS2 (by omega)) ?_
                          refine v_iconstN K 1 rfl dX10_village_125 ?_
                          refine v_icmpN_ne (tgt := 133) K (by omega) (by omega) dX10_village_126 rfl (fun c11 => ?_) (fun c11 => ?_)
                          · skip
                            refine v_iconstN K 0 rfl dX10_village_133 ?_
                            refine v_istore (lv2 := [(7, .int (nI 0)), (6, .int (nI 0)), (0, .ref 118), (1, .int (nI j1)), (2, .int (nI S2)), (3, .int (nI (r + 1))), (4, .int (nI c2)), (5, .int (nI k))]) K dX10_village_134 (by decide) rfl ?_
                            refine v_iload K dX10_village_136 rfl ?_
                            refine v_ifN_eq (tgt := 161) K (by omega) dX10_village_138 rfl (fun c12 => ?_) (fun c12 => ?_)
                            · skip
                              refine v_aload_n K dX10_village_161 rfl ?_
                              refine v_getr (q := 119) K fX10_7 sh_118 pl_118 gl_118_0 dX10_village_162 ?_
                              refine v_bipushN K 28 rfl dX10_village_165 ?_
                              refine v_iconstN K 3 rfl dX10_village_167 ?_
                              refine v_iload K dX10_village_168 rfl ?_
                              refine v_imulN K dX10_village_170 ?_
                              refine v_iaddN K dX10_village_171 ?_
                              refine v_iald (x := s 119 (28 + (3 * k))) K sh_119 pl_119 (by omega) (hR.at RA_119) dX10_village_172 ?_
                              refine v_iload K dX10_village_173 rfl ?_
                              refine v_icmp_ge (tgt := 188) K dX10_village_175 rfl (fun c13 => ?_) (fun c13 => ?_)
                              · skip
                                refine v_iincN (lv2 := [(5, .int (nI (k + 1))), (7, .int (nI 0)), (6, .int (nI 0)), (0, .ref 118), (1, .int (nI j1)), (2, .int (nI S2)), (3, .int (nI (r + 1))), (4, .int (nI c2))]) K 1 dX10_village_188 rfl rfl (by decide) rfl ?_
                                refine v_goto (tgt := 75) K dX10_village_191 rfl ?_
                                refine v_sub (lv2 := [(0, .ref 118), (1, .int (nI j1)), (2, .int (nI S2)), (3, .int (nI (r + 1))), (4, .int (nI c2)), (5, .int (nI (k + 1)))]) (by simp) ?_
                                exact ih75 S2 c2 (k + 1) (by first | assumption | omega | rfl) (by exact rnd_n hr (by unfold flipV comesV; rw [if_neg c11, if_neg c10]; exact Int32.not_lt.mpr c13)) (by exact hS2) (by omega) (by omega)
                              · skip
                                refine v_iload_n K dX10_village_178 rfl ?_
                                refine v_iconstN K 1 rfl dX10_village_179 ?_
                                refine v_iload K dX10_village_180 rfl ?_
                                refine v_ishl K dX10_village_182 ?_
                                refine v_ixor K dX10_village_183 ?_
                                refine v_top (y := nI (flipS S2 k)) (vb_xor hS2 (by omega)) ?_
                                refine v_istore_n (lv2 := [(2, .int (nI (flipS S2 k))), (7, .int (nI 0)), (6, .int (nI 0)), (0, .ref 118), (1, .int (nI j1)), (3, .int (nI (r + 1))), (4, .int (nI c2)), (5, .int (nI k))]) K dX10_village_184 (by decide) rfl ?_
                                refine v_iconstN K 1 rfl dX10_village_185 ?_
                                refine v_istore (lv2 := [(4, .int (nI 1)), (2, .int (nI (flipS S2 k))), (7, .int (nI 0)), (6, .int (nI 0)), (0, .ref 118), (1, .int (nI j1)), (3, .int (nI (r + 1))), (5, .int (nI k))]) K dX10_village_186 (by decide) rfl ?_
                                refine v_iincN (lv2 := [(5, .int (nI (k + 1))), (4, .int (nI 1)), (2, .int (nI (flipS S2 k))), (7, .int (nI 0)), (6, .int (nI 0)), (0, .ref 118), (1, .int (nI j1)), (3, .int (nI (r + 1)))]) K 1 dX10_village_188 rfl rfl (by decide) rfl ?_
                                refine v_goto (tgt := 75) K dX10_village_191 rfl ?_
                                refine v_sub (lv2 := [(0, .ref 118), (1, .int (nI j1)), (2, .int (nI (flipS S2 k))), (3, .int (nI (r + 1))), (4, .int (nI 1)), (5, .int (nI (k + 1)))]) (by simp) ?_
                                exact ih75 (flipS S2 k) 1 (k + 1) (by first | assumption | omega | rfl) (by exact rnd_y hr (by unfold flipV comesV; rw [if_neg c11, if_neg c10]; exact Int32.not_le.mp c13)) (by exact fl_lt hS2 (by omega)) (by omega) (by omega)
                            · exact absurd c12 (by decide)
                          · skip
                            refine v_iconstN K 1 rfl dX10_village_129 ?_
                            refine v_goto (tgt := 134) K dX10_village_130 rfl ?_
                            refine v_istore (lv2 := [(7, .int (nI 1)), (6, .int (nI 0)), (0, .ref 118), (1, .int (nI j1)), (2, .int (nI S2)), (3, .int (nI (r + 1))), (4, .int (nI c2)), (5, .int (nI k))]) K dX10_village_134 (by decide) rfl ?_
                            refine v_iload K dX10_village_136 rfl ?_
                            refine v_ifN_eq (tgt := 161) K (by omega) dX10_village_138 rfl (fun c14 => ?_) (fun c14 => ?_)
                            · exact absurd c14 (by decide)
                            · skip
                              refine v_iload K dX10_village_141 rfl ?_
                              refine v_aload_n K dX10_village_143 rfl ?_
                              refine v_getr (q := 119) K fX10_7 sh_118 pl_118 gl_118_0 dX10_village_144 ?_
                              refine v_bipushN K 28 rfl dX10_village_147 ?_
                              refine v_iconstN K 3 rfl dX10_village_149 ?_
                              refine v_iload K dX10_village_150 rfl ?_
                              refine v_imulN K dX10_village_152 ?_
                              refine v_iaddN K dX10_village_153 ?_
                              refine v_iald (x := s 119 (28 + (3 * k))) K sh_119 pl_119 (by omega) (hR.at RA_119) dX10_village_154 ?_
                              refine v_icmp_ge (tgt := 188) K dX10_village_155 rfl (fun c15 => ?_) (fun c15 => ?_)
                              · skip
                                refine v_iincN (lv2 := [(5, .int (nI (k + 1))), (7, .int (nI 1)), (6, .int (nI 0)), (0, .ref 118), (1, .int (nI j1)), (2, .int (nI S2)), (3, .int (nI (r + 1))), (4, .int (nI c2))]) K 1 dX10_village_188 rfl rfl (by decide) rfl ?_
                                refine v_goto (tgt := 75) K dX10_village_191 rfl ?_
                                refine v_sub (lv2 := [(0, .ref 118), (1, .int (nI j1)), (2, .int (nI S2)), (3, .int (nI (r + 1))), (4, .int (nI c2)), (5, .int (nI (k + 1)))]) (by simp) ?_
                                exact ih75 S2 c2 (k + 1) (by first | assumption | omega | rfl) (by exact rnd_n hr (by unfold flipV comesV; rw [if_pos c11, if_neg c10]; exact Int32.not_lt.mpr c15)) (by exact hS2) (by omega) (by omega)
                              · skip
                                refine v_goto (tgt := 178) K dX10_village_158 rfl ?_
                                refine v_iload_n K dX10_village_178 rfl ?_
                                refine v_iconstN K 1 rfl dX10_village_179 ?_
                                refine v_iload K dX10_village_180 rfl ?_
                                refine v_ishl K dX10_village_182 ?_
                                refine v_ixor K dX10_village_183 ?_
                                refine v_top (y := nI (flipS S2 k)) (vb_xor hS2 (by omega)) ?_
                                refine v_istore_n (lv2 := [(2, .int (nI (flipS S2 k))), (7, .int (nI 1)), (6, .int (nI 0)), (0, .ref 118), (1, .int (nI j1)), (3, .int (nI (r + 1))), (4, .int (nI c2)), (5, .int (nI k))]) K dX10_village_184 (by decide) rfl ?_
                                refine v_iconstN K 1 rfl dX10_village_185 ?_
                                refine v_istore (lv2 := [(4, .int (nI 1)), (2, .int (nI (flipS S2 k))), (7, .int (nI 1)), (6, .int (nI 0)), (0, .ref 118), (1, .int (nI j1)), (3, .int (nI (r + 1))), (5, .int (nI k))]) K dX10_village_186 (by decide) rfl ?_
                                refine v_iincN (lv2 := [(5, .int (nI (k + 1))), (4, .int (nI 1)), (2, .int (nI (flipS S2 k))), (7, .int (nI 1)), (6, .int (nI 0)), (0, .ref 118), (1, .int (nI j1)), (3, .int (nI (r + 1)))]) K 1 dX10_village_188 rfl rfl (by decide) rfl ?_
                                refine v_goto (tgt := 75) K dX10_village_191 rfl ?_
                                refine v_sub (lv2 := [(0, .ref 118), (1, .int (nI j1)), (2, .int (nI (flipS S2 k))), (3, .int (nI (r + 1))), (4, .int (nI 1)), (5, .int (nI (k + 1)))]) (by simp) ?_
                                exact ih75 (flipS S2 k) 1 (k + 1) (by first | assumption | omega | rfl) (by exact rnd_y hr (by unfold flipV comesV; rw [if_pos c11, if_neg c10]; exact Int32.not_le.mp c15)) (by exact fl_lt hS2 (by omega)) (by omega) (by omega)
                        · skip
                          refine v_aload_n K dX10_village_99 rfl ?_
                          refine v_getr (q := 119) K fX10_7 sh_118 pl_118 gl_118_0 dX10_village_100 ?_
                          refine v_bipushN K 28 rfl dX10_village_103 ?_
                          refine v_iconstN K 3 rfl dX10_village_105 ?_
                          refine v_iload K dX10_village_106 rfl ?_
                          refine v_imulN K dX10_village_108 ?_
                          refine v_iaddN K dX10_village_109 ?_
                          refine v_iconstN K 1 rfl dX10_village_110 ?_
                          refine v_iaddN K dX10_village_111 ?_
                          refine v_iald (x := s 119 (28 + (3 * k) + 1)) K sh_119 pl_119 (by omega) (hR.at RA_119) dX10_village_112 ?_
                          refine v_goto (tgt := 117) K dX10_village_113 rfl ?_
                          refine v_istore (lv2 := [(6, .int (s 119 (28 + (3 * k) + 1))), (0, .ref 118), (1, .int (nI j1)), (2, .int (nI S2)), (3, .int (nI (r + 1))), (4, .int (nI c2)), (5, .int (nI k))]) K dX10_village_117 (by decide) rfl ?_
                          refine v_iload_n K dX10_village_119 rfl ?_
                          refine v_iload K dX10_village_120 rfl ?_
                          refine v_ishr K dX10_village_122 ?_
                          refine v_iconstN K 1 rfl dX10_village_123 ?_
                          refine v_iand K dX10_village_124 ?_
                          refine v_top (y := nI (bitN S2 k)) (vb_bit hS2 (by omega)) ?_
                          refine v_iconstN K 1 rfl dX10_village_125 ?_
                          refine v_icmpN_ne (tgt := 133) K (by omega) (by omega) dX10_village_126 rfl (fun c16 => ?_) (fun c16 => ?_)
                          · skip
                            refine v_iconstN K 0 rfl dX10_village_133 ?_
                            refine v_istore (lv2 := [(7, .int (nI 0)), (6, .int (s 119 (28 + (3 * k) + 1))), (0, .ref 118), (1, .int (nI j1)), (2, .int (nI S2)), (3, .int (nI (r + 1))), (4, .int (nI c2)), (5, .int (nI k))]) K dX10_village_134 (by decide) rfl ?_
                            refine v_iload K dX10_village_136 rfl ?_
                            refine v_ifN_eq (tgt := 161) K (by omega) dX10_village_138 rfl (fun c17 => ?_) (fun c17 => ?_)
                            · skip
                              refine v_aload_n K dX10_village_161 rfl ?_
                              refine v_getr (q := 119) K fX10_7 sh_118 pl_118 gl_118_0 dX10_village_162 ?_
                              refine v_bipushN K 28 rfl dX10_village_165 ?_
                              refine v_iconstN K 3 rfl dX10_village_167 ?_
                              refine v_iload K dX10_village_168 rfl ?_
                              refine v_imulN K dX10_village_170 ?_
                              refine v_iaddN K dX10_village_171 ?_
                              refine v_iald (x := s 119 (28 + (3 * k))) K sh_119 pl_119 (by omega) (hR.at RA_119) dX10_village_172 ?_
                              refine v_iload K dX10_village_173 rfl ?_
                              refine v_icmp_ge (tgt := 188) K dX10_village_175 rfl (fun c18 => ?_) (fun c18 => ?_)
                              · skip
                                refine v_iincN (lv2 := [(5, .int (nI (k + 1))), (7, .int (nI 0)), (6, .int (s 119 (28 + (3 * k) + 1))), (0, .ref 118), (1, .int (nI j1)), (2, .int (nI S2)), (3, .int (nI (r + 1))), (4, .int (nI c2))]) K 1 dX10_village_188 rfl rfl (by decide) rfl ?_
                                refine v_goto (tgt := 75) K dX10_village_191 rfl ?_
                                refine v_sub (lv2 := [(0, .ref 118), (1, .int (nI j1)), (2, .int (nI S2)), (3, .int (nI (r + 1))), (4, .int (nI c2)), (5, .int (nI (k + 1)))]) (by simp) ?_
                                exact ih75 S2 c2 (k + 1) (by first | assumption | omega | rfl) (by exact rnd_n hr (by unfold flipV comesV; rw [if_neg c16, if_pos c10]; exact Int32.not_lt.mpr c18)) (by exact hS2) (by omega) (by omega)
                              · skip
                                refine v_iload_n K dX10_village_178 rfl ?_
                                refine v_iconstN K 1 rfl dX10_village_179 ?_
                                refine v_iload K dX10_village_180 rfl ?_
                                refine v_ishl K dX10_village_182 ?_
                                refine v_ixor K dX10_village_183 ?_
                                refine v_top (y := nI (flipS S2 k)) (vb_xor hS2 (by omega)) ?_
                                refine v_istore_n (lv2 := [(2, .int (nI (flipS S2 k))), (7, .int (nI 0)), (6, .int (s 119 (28 + (3 * k) + 1))), (0, .ref 118), (1, .int (nI j1)), (3, .int (nI (r + 1))), (4, .int (nI c2)), (5, .int (nI k))]) K dX10_village_184 (by decide) rfl ?_
                                refine v_iconstN K 1 rfl dX10_village_185 ?_
                                refine v_istore (lv2 := [(4, .int (nI 1)), (2, .int (nI (flipS S2 k))), (7, .int (nI 0)), (6, .int (s 119 (28 + (3 * k) + 1))), (0, .ref 118), (1, .int (nI j1)), (3, .int (nI (r + 1))), (5, .int (nI k))]) K dX10_village_186 (by decide) rfl ?_
                                refine v_iincN (lv2 := [(5, .int (nI (k + 1))), (4, .int (nI 1)), (2, .int (nI (flipS S2 k))), (7, .int (nI 0)), (6, .int (s 119 (28 + (3 * k) + 1))), (0, .ref 118), (1, .int (nI j1)), (3, .int (nI (r + 1)))]) K 1 dX10_village_188 rfl rfl (by decide) rfl ?_
                                refine v_goto (tgt := 75) K dX10_village_191 rfl ?_
                                refine v_sub (lv2 := [(0, .ref 118), (1, .int (nI j1)), (2, .int (nI (flipS S2 k))), (3, .int (nI (r + 1))), (4, .int (nI 1)), (5, .int (nI (k + 1)))]) (by simp) ?_
                                exact ih75 (flipS S2 k) 1 (k + 1) (by first | assumption | omega | rfl) (by exact rnd_y hr (by unfold flipV comesV; rw [if_neg c16, if_pos c10]; exact Int32.not_le.mp c18)) (by exact fl_lt hS2 (by omega)) (by omega) (by omega)
                            · exact absurd c17 (by decide)
                          · skip
                            refine v_iconstN K 1 rfl dX10_village_129 ?_
                            refine v_goto (tgt := 134) K dX10_village_130 rfl ?_
                            refine v_istore (lv2 := [(7, .int (nI 1)), (6, .int (s 119 (28 + (3 * k) + 1))), (0, .ref 118), (1, .int (nI j1)), (2, .int (nI S2)), (3, .int (nI (r + 1))), (4, .int (nI c2)), (5, .int (nI k))]) K dX10_village_134 (by decide) rfl ?_
                            refine v_iload K dX10_village_136 rfl ?_
                            refine v_ifN_eq (tgt := 161) K (by omega) dX10_village_138 rfl (fun c19 => ?_) (fun c19 => ?_)
                            · exact absurd c19 (by decide)
                            · skip
                              refine v_iload K dX10_village_141 rfl ?_
                              refine v_aload_n K dX10_village_143 rfl ?_
                              refine v_getr (q := 119) K fX10_7 sh_118 pl_118 gl_118_0 dX10_village_144 ?_
                              refine v_bipushN K 28 rfl dX10_village_147 ?_
                              refine v_iconstN K 3 rfl dX10_village_149 ?_
                              refine v_iload K dX10_village_150 rfl ?_
                              refine v_imulN K dX10_village_152 ?_
                              refine v_iaddN K dX10_village_153 ?_
                              refine v_iald (x := s 119 (28 + (3 * k))) K sh_119 pl_119 (by omega) (hR.at RA_119) dX10_village_154 ?_
                              refine v_icmp_ge (tgt := 188) K dX10_village_155 rfl (fun c20 => ?_) (fun c20 => ?_)
                              · skip
                                refine v_iincN (lv2 := [(5, .int (nI (k + 1))), (7, .int (nI 1)), (6, .int (s 119 (28 + (3 * k) + 1))), (0, .ref 118), (1, .int (nI j1)), (2, .int (nI S2)), (3, .int (nI (r + 1))), (4, .int (nI c2))]) K 1 dX10_village_188 rfl rfl (by decide) rfl ?_
                                refine v_goto (tgt := 75) K dX10_village_191 rfl ?_
                                refine v_sub (lv2 := [(0, .ref 118), (1, .int (nI j1)), (2, .int (nI S2)), (3, .int (nI (r + 1))), (4, .int (nI c2)), (5, .int (nI (k + 1)))]) (by simp) ?_
                                exact ih75 S2 c2 (k + 1) (by first | assumption | omega | rfl) (by exact rnd_n hr (by unfold flipV comesV; rw [if_pos c16, if_pos c10]; exact Int32.not_lt.mpr c20)) (by exact hS2) (by omega) (by omega)
                              · skip
                                refine v_goto (tgt := 178) K dX10_village_158 rfl ?_
                                refine v_iload_n K dX10_village_178 rfl ?_
                                refine v_iconstN K 1 rfl dX10_village_179 ?_
                                refine v_iload K dX10_village_180 rfl ?_
                                refine v_ishl K dX10_village_182 ?_
                                refine v_ixor K dX10_village_183 ?_
                                refine v_top (y := nI (flipS S2 k)) (vb_xor hS2 (by omega)) ?_
                                refine v_istore_n (lv2 := [(2, .int (nI (flipS S2 k))), (7, .int (nI 1)), (6, .int (s 119 (28 + (3 * k) + 1))), (0, .ref 118), (1, .int (nI j1)), (3, .int (nI (r + 1))), (4, .int (nI c2)), (5, .int (nI k))]) K dX10_village_184 (by decide) rfl ?_
                                refine v_iconstN K 1 rfl dX10_village_185 ?_
                                refine v_istore (lv2 := [(4, .int (nI 1)), (2, .int (nI (flipS S2 k))), (7, .int (nI 1)), (6, .int (s 119 (28 + (3 * k) + 1))), (0, .ref 118), (1, .int (nI j1)), (3, .int (nI (r + 1))), (5, .int (nI k))]) K dX10_village_186 (by decide) rfl ?_
                                refine v_iincN (lv2 := [(5, .int (nI (k + 1))), (4, .int (nI 1)), (2, .int (nI (flipS S2 k))), (7, .int (nI 1)), (6, .int (s 119 (28 + (3 * k) + 1))), (0, .ref 118), (1, .int (nI j1)), (3, .int (nI (r + 1)))]) K 1 dX10_village_188 rfl rfl (by decide) rfl ?_
                                refine v_goto (tgt := 75) K dX10_village_191 rfl ?_
                                refine v_sub (lv2 := [(0, .ref 118), (1, .int (nI j1)), (2, .int (nI (flipS S2 k))), (3, .int (nI (r + 1))), (4, .int (nI 1)), (5, .int (nI (k + 1)))]) (by simp) ?_
                                exact ih75 (flipS S2 k) 1 (k + 1) (by first | assumption | omega | rfl) (by exact rnd_y hr (by unfold flipV comesV; rw [if_pos c16, if_pos c10]; exact Int32.not_le.mp c20)) (by exact fl_lt hS2 (by omega)) (by omega) (by omega)
                  refine v_sub (lv2 := [(0, .ref 118), (1, .int (nI j1)), (2, .int (nI S)), (3, .int (nI (r + 1))), (4, .int (nI 0)), (5, .int (nI 0))]) (by simp) ?_
                  exact L75 (7 - 0 + 1) S 0 0 (by first | assumption | omega | rfl) (by rfl) (by omega) (by omega) (Nat.lt_succ_self _)
          refine v_sub (lv2 := [(0, .ref 118), (1, .int (nI j1)), (2, .int (nI S)), (3, .int (nI 0)), (4, .int (nI 1))]) (by simp) ?_
          exact L55 (21 - 0 + 1) S 0 1 (by omega) (by exact Or.inl ⟨rfl, by rw [show a = 6 by omega] at hSv; rw [hSv]; rfl, hS6⟩) (Nat.lt_succ_self _)
        · skip
          refine v_iload_n K dX10_village_26 rfl ?_
          refine v_aload_n K dX10_village_27 rfl ?_
          refine v_getr (q := 119) K fX10_7 sh_118 pl_118 gl_118_0 dX10_village_28 ?_
          refine v_bipushN K 28 rfl dX10_village_31 ?_
          refine v_iconstN K 3 rfl dX10_village_33 ?_
          refine v_iload_n K dX10_village_34 rfl ?_
          refine v_imulN K dX10_village_35 ?_
          refine v_iaddN K dX10_village_36 ?_
          refine v_iconstN K 2 rfl dX10_village_37 ?_
          refine v_iaddN K dX10_village_38 ?_
          refine v_iald (x := s 119 (28 + (3 * a) + 2)) K sh_119 pl_119 (by omega) (hR.at RA_119) dX10_village_39 ?_
          refine v_iload_n K dX10_village_40 rfl ?_
          refine v_ishl K dX10_village_41 ?_
          refine v_ior K dX10_village_42 ?_
          obtain ⟨bb, hbb, ebb⟩ := hI.1.1.2.2.2.2.1 a (by omega)
          have hp2 := p2_le (k := a) (by omega)
          have hS2 : S + bb * 2 ^ a < 2 ^ (a + 1) := by obtain rfl | rfl : bb = 0 ∨ bb = 1 := (by omega); (omega); (omega)
          refine v_top (y := nI (S + bb * 2 ^ a)) (by rw [ebb]; exact vb_or (by omega) (by omega) hbb hSl) ?_
          refine v_istore_n (lv2 := [(2, .int (nI (S + bb * 2 ^ a))), (0, .ref 118), (1, .int (nI j1)), (3, .int (nI a))]) K dX10_village_43 (by decide) rfl ?_
          refine v_iincN (lv2 := [(3, .int (nI (a + 1))), (2, .int (nI (S + bb * 2 ^ a))), (0, .ref 118), (1, .int (nI j1))]) K 1 dX10_village_44 rfl rfl (by decide) rfl ?_
          refine v_goto (tgt := 20) K dX10_village_47 rfl ?_
          refine v_sub (lv2 := [(0, .ref 118), (1, .int (nI j1)), (2, .int (nI (S + bb * 2 ^ a))), (3, .int (nI (a + 1)))]) (by simp) ?_
          exact ih20 (S + bb * 2 ^ a) (a + 1) (by first | assumption | omega | rfl) (by rw [hSv, shutS, ebb, cl_ix (show bb < 2 ^ 31 by omega)]) (by exact hS2) (by omega) (by omega)
    refine v_sub (lv2 := [(0, .ref 118), (1, .int (nI j1)), (2, .int (nI 0)), (3, .int (nI 0))]) (by simp) ?_
    exact L20 (7 - 0 + 1) 0 0 (by first | assumption | omega | rfl) (by rfl) (by decide) (by decide) (Nat.lt_succ_self _)
  · skip
    refine v_aload_n K dX10_village_10 rfl ?_
    refine v_iconstN K 1 rfl dX10_village_11 ?_
    refine v_callV (As := [.int (nI 1)]) K (c_X10_finds h 1 (by omega)) lX10_113 ck_X10 rfl sh_118 pl_118 rfl ⟨by decide, by decide⟩ (Nat.le_of_ble_eq_true rfl) dX10_village_12 (fun r2 h2 hp2 => ?_) rfl
    obtain ⟨rfl, rfl⟩ := hp2
    refine v_some ?_
    have hRf1 : RR (u2 h 122 1 (h 122 1 + nI 1)) (u2 s 122 1 (s 122 1 + nI 1)) := by rw [show (h 122 1) = s 122 1 from hR.at RA_122]; exact hR.u RA_122
    refine v_iret K dX10_village_15 ?_
    have eY : Y_village s k = ((-1000000000) - nI 1, (u2 s 122 1 (s 122 1 + nI 1))) := by
      unfold Y_village
      refine (@if_pos _ (Classical.propDecidable _) (fun q => absurd q (by assumption)) _ _ _).trans ?_
      first | rfl | (rfl)
    exact rfin eY hRf1
