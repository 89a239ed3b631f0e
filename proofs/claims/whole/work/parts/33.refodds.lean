/-! ODDS -/
def oN (n : Nat) : Int64 := Int64.ofNat n
theorem oN_toInt {n : Nat} (h : n < 2 ^ 63) : (oN n).toInt = n := Int64.toInt_ofNat_of_lt h
theorem oN_w {n : Nat} (h : n < 2 ^ 31) : (nI n).toInt64 = oN n := by
  rw [← Int64.toInt_inj, Int32.toInt_toInt64, nI_toInt h, oN_toInt (by omega)]
theorem oN_mul {a b : Nat} : oN a * oN b = oN (a * b) := (Int64.ofNat_mul a b).symm
theorem oN_ne {b : Nat} (h : b < 2 ^ 63) (h0 : 0 < b) : ¬ oN b = 0 := fun q => by
  have := congrArg Int64.toInt q
  rw [oN_toInt h, show (0 : Int64).toInt = 0 from rfl] at this
  omega
theorem oN_div {a b : Nat} (ha : a < 2 ^ 63) (hb : b < 2 ^ 63) (h0 : 0 < b) : oN a / oN b = oN (a / b) := by
  rw [← Int64.toInt_inj, Int64.toInt_div_of_ne_right _ _ (fun q => by
    have := congrArg Int64.toInt q
    rw [oN_toInt hb, show (-1 : Int64).toInt = -1 from rfl] at this
    omega), oN_toInt ha, oN_toInt hb, oN_toInt (Nat.lt_of_le_of_lt (Nat.div_le_self _ _) ha), Int.tdiv_eq_ediv_of_nonneg (by omega)]
  rfl
theorem oN_sub {a b : Nat} (h : b ≤ a) : oN a - oN b = oN (a - b) := by
  have : oN a = oN (a - b) + oN b := by rw [show a = (a - b) + b by omega]; show Int64.ofNat _ = Int64.ofNat _ + Int64.ofNat _; rw [← Int64.ofNat_add, Nat.add_sub_cancel]
  rw [this, Int64.add_sub_cancel]
theorem oN_rem {a b : Nat} (ha : a < 2 ^ 63) (hb : b < 2 ^ 63) (h0 : 0 < b) : oN a - oN a / oN b * oN b = oN (a % b) := by
  rw [oN_div ha hb h0, oN_mul, oN_sub (Nat.div_mul_le_self a b)]
  congr 1
  have := Nat.div_add_mod a b
  rw [Nat.mul_comm] at this
  omega
theorem oN_cmp {y : Nat} (h : y < 2 ^ 63) : lg_cmp (oN y) (nI 0).toInt64 = 0 ↔ y = 0 := by
  rw [lg_eq]
  constructor
  · intro q
    have := congrArg Int64.toInt q
    rw [oN_toInt h, Int32.toInt_toInt64, nI_toInt (by omega)] at this
    omega
  · rintro rfl; rfl
def oddA (p q n : Nat) (k : Int32) : Nat := (if k = nI 0 then (q - p) ^ n else q ^ n) / Nat.gcd ((q - p) ^ n) (q ^ n)
def oddOK (pq n k : Int32) : Prop := (∃ v, v < 2 ^ 31 ∧ pq = nI v ∧ 1 ≤ v % 10 ∧ v / 10 ≤ v % 10) ∧ ix n 13 ∧ ix k 2
noncomputable def Y_odds (s : Mm) (pq n k : Int32) : Int64 × Mm := @ite _ (oddOK pq n k) (Classical.propDecidable _) (oN (oddA (pq.toNatClampNeg / 10) (pq.toNatClampNeg % 10) n.toNatClampNeg k), s) ((er s 1).1.toInt64, (er s 1).2)
theorem odd_y {s : Mm} {v j i : Nat} (hv : v < 2 ^ 31) (h1 : 1 ≤ v % 10) (h2 : v / 10 ≤ v % 10) (hj : j < 13) (hi : i < 2) : Y_odds s (nI v) (nI j) (nI i) = (oN (oddA (v / 10) (v % 10) j (nI i)), s) := by
  unfold Y_odds
  refine (@if_pos _ (Classical.propDecidable _) ⟨⟨v, hv, rfl, h1, h2⟩, ⟨j, hj, rfl⟩, ⟨i, hi, rfl⟩⟩ _ _ _).trans ?_
  rw [cl_ix hv, cl_ix (show j < 2 ^ 31 by omega)]
theorem odd_n {s : Mm} {pq n k : Int32} (h : ¬ oddOK pq n k) : Y_odds s pq n k = ((er s 1).1.toInt64, (er s 1).2) := @if_neg _ (Classical.propDecidable _) h _ _ _
theorem pow_le9 {b n : Nat} (hb : b ≤ 9) (hn : n ≤ 12) : b ^ n ≤ 282429536481 :=
  Nat.le_trans (Nat.pow_le_pow_left hb n) (Nat.le_trans (Nat.pow_le_pow_right (by decide) hn) (by decide))
theorem pow_pos9 {b n : Nat} (hb : 1 ≤ b) : 0 < b ^ n := Nat.pow_pos hb
theorem nN_of {x : Int32} (h : ¬ x < 0) : ∃ v, v < 2 ^ 31 ∧ x = nI v := nI_of h
theorem rfinL {y : Int64 × Mm} {v : Int64} {S h : Mm} (e : y = (v, S)) (H : RR h S) : some (Value.long v) = some (.long y.1) ∧ RR h y.2 := by rw [e]; exact ⟨rfl, H⟩

abbrev P_X10_common (h : Mm) (a b : Nat) : Option Value → Mm → Prop := fun r h2 => r = some (.long (oN (Nat.gcd a b))) ∧ h = h2
theorem c_X10_common {l : Launch} (h : Mm) (a b : Nat) (ha : a < 2 ^ 40) (hb : b < 2 ^ 40) : Con l yX10_common cX10_common 10 (some .long) 0 0 132 GL h [.long (oN a), .long (oN b)] (P_X10_common h a b) := by
  refine Con.ofV (own := "FoxRoundsModel") (nm := "common") rfl rfl (by decide) (Nat.le_of_ble_eq_true rfl) ?_
  intro κ ρ hkl K
  subst hkl
  show V κ (QM κ (132, ρ, GL, 0, 0) (P_X10_common h a b)) 10 (132, ρ, GL, 0, 0) h 0 [(0, .long (oN a)), (2, .long (oN b))] []
  refine v_lload_n K dX10_common_0 rfl ?_
  refine v_lstore (lv2 := [(4, .long (oN a)), (0, .long (oN a)), (2, .long (oN b))]) K dX10_common_1 (by decide) rfl ?_
  refine v_lload_n K dX10_common_3 rfl ?_
  refine v_lstore (lv2 := [(6, .long (oN b)), (4, .long (oN a)), (0, .long (oN a)), (2, .long (oN b))]) K dX10_common_4 (by decide) rfl ?_
  have L6 : ∀ (mm : Nat) (x : Nat) (y : Nat) (hx : x < 2 ^ 40) (hy : y < 2 ^ 40) (hg : Nat.gcd x y = Nat.gcd a b), y < mm → V κ (QM κ (132, ρ, GL, 0, 0) (P_X10_common h a b)) 10 (132, ρ, GL, 0, 0) h 6 [(4, .long (oN x)), (6, .long (oN y))] [] := by
    intro mm
    induction mm with
    | zero => intro x y hx hy hg hmm; exact absurd hmm (Nat.not_lt_zero _)
    | succ mm ih6 =>
      intro x y hx hy hg hmm
      refine v_lload K dX10_common_6 rfl ?_
      refine v_lconst (v := (nI 0).toInt64) K dX10_common_8 (by decide) ?_
      refine v_lcmp K dX10_common_9 ?_
      refine v_if_eq (tgt := 31) K dX10_common_10 rfl (fun c1 => ?_) (fun c1 => ?_)
      · skip
        have hy0 : y = 0 := (oN_cmp (by omega)).mp c1
        refine v_lload K dX10_common_31 rfl ?_
        refine v_lret K dX10_common_33 ?_
        exact ⟨by rw [← hg, hy0, Nat.gcd_zero_right], rfl⟩
      · skip
        have hy0 : 0 < y := Nat.pos_of_ne_zero (fun q => c1 ((oN_cmp (by omega)).mpr q))
        refine v_lload K dX10_common_13 rfl ?_
        refine v_lload K dX10_common_15 rfl ?_
        refine v_lrem K dX10_common_17 (by exact oN_ne (by omega) hy0) ?_
        refine v_topL (y := oN (x % y)) (oN_rem (by omega) (by omega) hy0) ?_
        refine v_lstore (lv2 := [(8, .long (oN (x % y))), (4, .long (oN x)), (6, .long (oN y))]) K dX10_common_18 (by decide) rfl ?_
        refine v_lload K dX10_common_20 rfl ?_
        refine v_lstore (lv2 := [(4, .long (oN y)), (8, .long (oN (x % y))), (6, .long (oN y))]) K dX10_common_22 (by decide) rfl ?_
        refine v_lload K dX10_common_24 rfl ?_
        refine v_lstore (lv2 := [(6, .long (oN (x % y))), (4, .long (oN y)), (8, .long (oN (x % y)))]) K dX10_common_26 (by decide) rfl ?_
        refine v_goto (tgt := 6) K dX10_common_28 rfl ?_
        refine v_sub (lv2 := [(4, .long (oN y)), (6, .long (oN (x % y)))]) (by simp) ?_
        exact ih6 y (x % y) (by exact hy) (by have := Nat.mod_lt x hy0; omega) (by rw [Nat.gcd_comm y, ← Nat.gcd_rec, Nat.gcd_comm]; exact hg) (by have := Nat.mod_lt x hy0; omega)
  refine v_sub (lv2 := [(4, .long (oN a)), (6, .long (oN b))]) (by simp) ?_
  exact L6 (b + 1) a b (by exact ha) (by exact hb) (by rfl) (Nat.lt_succ_self _)

abbrev P_X10_odds (h s : Mm) (τ τk : Nat → List Int32) (pq n k : Int32) : Option Value → Mm → Prop := fun r h2 => r = some (.long (Y_odds s pq n k).1) ∧ RR h2 (Y_odds s pq n k).2
theorem c_X10_odds {l : Launch} (h s : Mm) (τ τk : Nat → List Int32) (pq n k : Int32) (hR : RR h s) (hI : INV s τ τk) : Con l yX10_odds cX10_odds 11 (some .long) 1 29 132 GL h [.ref 118, .int pq, .int n, .int k] (P_X10_odds h s τ τk pq n k) := by
  refine Con.ofV (own := "FoxRoundsModel") (nm := "odds") rfl rfl (by decide) (Nat.le_of_ble_eq_true rfl) ?_
  intro κ ρ hkl K
  subst hkl
  show V κ (QM κ (132, ρ, GL, 0, 0) (P_X10_odds h s τ τk pq n k)) 11 (132, ρ, GL, 0, 0) h 0 [(0, .ref 118), (1, .int pq), (2, .int n), (3, .int k)] []
  refine v_iload_n K dX10_odds_0 rfl ?_
  refine v_bipushN K 10 rfl dX10_odds_1 ?_
  refine v_idiv K dX10_odds_3 (by decide) ?_
  refine v_istore (lv2 := [(4, .int (pq / (nI 10))), (0, .ref 118), (1, .int pq), (2, .int n), (3, .int k)]) K dX10_odds_4 (by decide) rfl ?_
  refine v_iload_n K dX10_odds_6 rfl ?_
  refine v_bipushN K 10 rfl dX10_odds_7 ?_
  refine v_irem K dX10_odds_9 (by decide) ?_
  refine v_istore (lv2 := [(5, .int (pq - pq / (nI 10) * (nI 10))), (4, .int (pq / (nI 10))), (0, .ref 118), (1, .int pq), (2, .int n), (3, .int k)]) K dX10_odds_10 (by decide) rfl ?_
  refine v_iload_n K dX10_odds_12 rfl ?_
  refine v_if_lt (tgt := 50) K dX10_odds_13 rfl (fun c1 => ?_) (fun c1 => ?_)
  · skip
    refine v_aload_n K dX10_odds_50 rfl ?_
    refine v_iconstN K 1 rfl dX10_odds_51 ?_
    refine v_callV (As := [.int (nI 1)]) K (c_X10_finds h 1 (by omega)) lX10_113 ck_X10 rfl sh_118 pl_118 rfl ⟨by decide, by decide⟩ (Nat.le_of_ble_eq_true rfl) dX10_odds_52 (fun r1 h1 hp1 => ?_) rfl
    obtain ⟨rfl, rfl⟩ := hp1
    refine v_some ?_
    have hRf1 : RR (u2 h 122 1 (h 122 1 + nI 1)) (u2 s 122 1 (s 122 1 + nI 1)) := by rw [show (h 122 1) = s 122 1 from hR.at RA_122]; exact hR.u RA_122
    refine v_i2l K dX10_odds_55 rfl ?_
    refine v_lret K dX10_odds_56 ?_
    exact rfinL (odd_n (fun q => by obtain ⟨⟨v, hv, e, -⟩, -⟩ := q; rw [e] at c1; exact nlt0 hv c1)) hRf1
  · skip
    obtain ⟨v, hv, rfl⟩ := nN_of c1
    have e4 : nI v / nI 10 = nI (v / 10) := pk_div hv (by omega) (by omega)
    have e5 : nI v - nI v / nI 10 * nI 10 = nI (v % 10) := pk_rem hv (by omega) (by omega)
    rw [e5, e4]
    refine v_iload K dX10_odds_16 rfl ?_
    refine v_ifN_eq (tgt := 50) K (by omega) dX10_odds_18 rfl (fun c2 => ?_) (fun c2 => ?_)
    · skip
      refine v_aload_n K dX10_odds_50 rfl ?_
      refine v_iconstN K 1 rfl dX10_odds_51 ?_
      refine v_callV (As := [.int (nI 1)]) K (c_X10_finds h 1 (by omega)) lX10_113 ck_X10 rfl sh_118 pl_118 rfl ⟨by decide, by decide⟩ (Nat.le_of_ble_eq_true rfl) dX10_odds_52 (fun r2 h2 hp2 => ?_) rfl
      obtain ⟨rfl, rfl⟩ := hp2
      refine v_some ?_
      have hRf2 : RR (u2 h 122 1 (h 122 1 + nI 1)) (u2 s 122 1 (s 122 1 + nI 1)) := by rw [show (h 122 1) = s 122 1 from hR.at RA_122]; exact hR.u RA_122
      refine v_i2l K dX10_odds_55 rfl ?_
      refine v_lret K dX10_odds_56 ?_
      exact rfinL (odd_n (fun q => by obtain ⟨⟨v2, hv2, e, h1, h2⟩, -⟩ := q; obtain rfl := nI_inj hv hv2 e; omega)) hRf2
    · skip
      refine v_iload K dX10_odds_21 rfl ?_
      refine v_iload K dX10_odds_23 rfl ?_
      refine v_icmpN_gt (tgt := 50) K (by omega) (by omega) dX10_odds_25 rfl (fun c3 => ?_) (fun c3 => ?_)
      · skip
        refine v_aload_n K dX10_odds_50 rfl ?_
        refine v_iconstN K 1 rfl dX10_odds_51 ?_
        refine v_callV (As := [.int (nI 1)]) K (c_X10_finds h 1 (by omega)) lX10_113 ck_X10 rfl sh_118 pl_118 rfl ⟨by decide, by decide⟩ (Nat.le_of_ble_eq_true rfl) dX10_odds_52 (fun r3 h3 hp3 => ?_) rfl
        obtain ⟨rfl, rfl⟩ := hp3
        refine v_some ?_
        have hRf3 : RR (u2 h 122 1 (h 122 1 + nI 1)) (u2 s 122 1 (s 122 1 + nI 1)) := by rw [show (h 122 1) = s 122 1 from hR.at RA_122]; exact hR.u RA_122
        refine v_i2l K dX10_odds_55 rfl ?_
        refine v_lret K dX10_odds_56 ?_
        exact rfinL (odd_n (fun q => by obtain ⟨⟨v2, hv2, e, h1, h2⟩, -⟩ := q; obtain rfl := nI_inj hv hv2 e; omega)) hRf3
      · skip
        refine v_iload_n K dX10_odds_28 rfl ?_
        refine v_i2l K dX10_odds_29 rfl ?_
        refine v_lconst (v := (nI 0).toInt64) K dX10_odds_30 (by decide) ?_
        refine v_ldc2 K kX10_254 dX10_odds_31 ?_
        refine v_topL (y := (nI 12).toInt64) (by decide) ?_
        refine v_callS (As := [.long n.toInt64, .long (nI 0).toInt64, .long (nI 12).toInt64]) K (c_X10_in h n (nI 0) (nI 12)) lX10_51 rfl ⟨by decide, by decide⟩ (Nat.le_of_ble_eq_true rfl) dX10_odds_34 (fun r4 h4 hp4 => ?_) rfl
        obtain ⟨rfl, rfl⟩ := hp4
        refine v_some ?_
        rw [show (nI 0 ≤ n ∧ n ≤ nI 12) = ix n 13 from in_ix (by decide)]
        refine v_ifB_eq (tgt := 50) K dX10_odds_37 rfl (fun c4 => ?_) (fun c4 => ?_)
        · skip
          refine v_aload_n K dX10_odds_50 rfl ?_
          refine v_iconstN K 1 rfl dX10_odds_51 ?_
          refine v_callV (As := [.int (nI 1)]) K (c_X10_finds h 1 (by omega)) lX10_113 ck_X10 rfl sh_118 pl_118 rfl ⟨by decide, by decide⟩ (Nat.le_of_ble_eq_true rfl) dX10_odds_52 (fun r5 h5 hp5 => ?_) rfl
          obtain ⟨rfl, rfl⟩ := hp5
          refine v_some ?_
          have hRf4 : RR (u2 h 122 1 (h 122 1 + nI 1)) (u2 s 122 1 (s 122 1 + nI 1)) := by rw [show (h 122 1) = s 122 1 from hR.at RA_122]; exact hR.u RA_122
          refine v_i2l K dX10_odds_55 rfl ?_
          refine v_lret K dX10_odds_56 ?_
          exact rfinL (odd_n (fun q => absurd q.2.1 (by assumption))) hRf4
        · skip
          obtain ⟨j1, Hj1, rfl⟩ := c4
          refine v_iload_n K dX10_odds_40 rfl ?_
          refine v_i2l K dX10_odds_41 rfl ?_
          refine v_lconst (v := (nI 0).toInt64) K dX10_odds_42 (by decide) ?_
          refine v_lconst (v := (nI 1).toInt64) K dX10_odds_43 (by decide) ?_
          refine v_callS (As := [.long k.toInt64, .long (nI 0).toInt64, .long (nI 1).toInt64]) K (c_X10_in h k (nI 0) (nI 1)) lX10_51 rfl ⟨by decide, by decide⟩ (Nat.le_of_ble_eq_true rfl) dX10_odds_44 (fun r6 h6 hp6 => ?_) rfl
          obtain ⟨rfl, rfl⟩ := hp6
          refine v_some ?_
          rw [show (nI 0 ≤ k ∧ k ≤ nI 1) = ix k 2 from in_ix (by decide)]
          refine v_ifB_ne (tgt := 57) K dX10_odds_47 rfl (fun c5 => ?_) (fun c5 => ?_)
          · skip
            obtain ⟨j2, Hj2, rfl⟩ := c5
            refine v_lconst (v := (nI 1).toInt64) K dX10_odds_57 (by decide) ?_
            refine v_lstore (lv2 := [(6, .long (nI 1).toInt64), (5, .int (nI (v % 10))), (4, .int (nI (v / 10))), (0, .ref 118), (1, .int (nI v)), (2, .int (nI j1)), (3, .int (nI j2))]) K dX10_odds_58 (by decide) rfl ?_
            refine v_lconst (v := (nI 1).toInt64) K dX10_odds_60 (by decide) ?_
            refine v_lstore (lv2 := [(8, .long (nI 1).toInt64), (6, .long (nI 1).toInt64), (5, .int (nI (v % 10))), (4, .int (nI (v / 10))), (0, .ref 118), (1, .int (nI v)), (2, .int (nI j1)), (3, .int (nI j2))]) K dX10_odds_61 (by decide) rfl ?_
            refine v_iconstN K 0 rfl dX10_odds_63 ?_
            refine v_istore (lv2 := [(10, .int (nI 0)), (8, .long (nI 1).toInt64), (6, .long (nI 1).toInt64), (5, .int (nI (v % 10))), (4, .int (nI (v / 10))), (0, .ref 118), (1, .int (nI v)), (2, .int (nI j1)), (3, .int (nI j2))]) K dX10_odds_64 (by decide) rfl ?_
            have L66 : ∀ (mm : Nat) (av : Nat) (bv : Nat) (a : Nat) (ha : a ≤ j1) (hab : av = (v % 10 - v / 10) ^ a) (hbl : bv = (v % 10) ^ a), j1 + 1 - a < mm → V κ (QM κ (132, ρ, GL, 0, 0) (P_X10_odds h s τ τk (nI v) (nI j1) (nI j2))) 11 (132, ρ, GL, 0, 0) h 66 [(0, .ref 118), (1, .int (nI v)), (2, .int (nI j1)), (3, .int (nI j2)), (4, .int (nI (v / 10))), (5, .int (nI (v % 10))), (6, .long (oN av)), (8, .long (oN bv)), (10, .int (nI a))] [] := by
              intro mm
              induction mm with
              | zero => intro av bv a ha hab hbl hmm; exact absurd hmm (Nat.not_lt_zero _)
              | succ mm ih66 =>
                intro av bv a ha hab hbl hmm
                refine v_iload K dX10_odds_66 rfl ?_
                refine v_iload_n K dX10_odds_68 rfl ?_
                refine v_icmpN_ge (tgt := 97) K (by omega) (by omega) dX10_odds_69 rfl (fun c6 => ?_) (fun c6 => ?_)
                · skip
                  obtain rfl : j1 = a := by omega
                  have q1 := pow_le9 (b := v % 10 - v / 10) (n := j1) (by omega) (by omega)
                  have q2 := pow_le9 (b := v % 10) (n := j1) (by omega) (by omega)
                  have q3 := pow_pos9 (b := v % 10) (n := j1) (by omega)
                  rw [← hab] at q1; rw [← hbl] at q2 q3
                  refine v_iload_n K dX10_odds_97 rfl ?_
                  refine v_ifN_ne (tgt := 106) K (by omega) dX10_odds_98 rfl (fun c7 => ?_) (fun c7 => ?_)
                  · skip
                    refine v_lload K dX10_odds_106 rfl ?_
                    refine v_lload K dX10_odds_108 rfl ?_
                    refine v_lload K dX10_odds_110 rfl ?_
                    refine v_callS (As := [.long (oN av), .long (oN bv)]) K (c_X10_common h av bv (by have := hab; omega) (by have := hbl; omega)) lX10_256 rfl ⟨by decide, by decide⟩ (Nat.le_of_ble_eq_true rfl) dX10_odds_112 (fun r7 h7 hp7 => ?_) rfl
                    obtain ⟨rfl, rfl⟩ := hp7
                    refine v_some ?_
                    refine v_ldiv K dX10_odds_115 (by exact oN_ne (by have := Nat.gcd_le_right av q3; omega) (Nat.gcd_pos_of_pos_right _ q3)) ?_
                    refine v_topL (y := oN (bv / Nat.gcd av bv)) (oN_div (by omega) (by have := Nat.gcd_le_right av q3; omega) (Nat.gcd_pos_of_pos_right _ q3)) ?_
                    refine v_lret K dX10_odds_116 ?_
                    exact rfinL ((odd_y hv (by omega) (by omega) (by omega) (by omega)).trans (by unfold oddA; rw [← hab, ← hbl, if_neg (fun q => absurd (nI_inj (by omega) (by omega) q) (by omega))])) hR
                  · skip
                    refine v_lload K dX10_odds_101 rfl ?_
                    refine v_goto (tgt := 108) K dX10_odds_103 rfl ?_
                    refine v_lload K dX10_odds_108 rfl ?_
                    refine v_lload K dX10_odds_110 rfl ?_
                    refine v_callS (As := [.long (oN av), .long (oN bv)]) K (c_X10_common h av bv (by have := hab; omega) (by have := hbl; omega)) lX10_256 rfl ⟨by decide, by decide⟩ (Nat.le_of_ble_eq_true rfl) dX10_odds_112 (fun r8 h8 hp8 => ?_) rfl
                    obtain ⟨rfl, rfl⟩ := hp8
                    refine v_some ?_
                    refine v_ldiv K dX10_odds_115 (by exact oN_ne (by have := Nat.gcd_le_right av q3; omega) (Nat.gcd_pos_of_pos_right _ q3)) ?_
                    refine v_topL (y := oN (av / Nat.gcd av bv)) (oN_div (by omega) (by have := Nat.gcd_le_right av q3; omega) (Nat.gcd_pos_of_pos_right _ q3)) ?_
                    refine v_lret K dX10_odds_116 ?_
                    exact rfinL ((odd_y hv (by omega) (by omega) (by omega) (by omega)).trans (by unfold oddA; rw [← hab, ← hbl, if_pos (by rw [show j2 = 0 by omega])])) hR
                · skip
                  refine v_lload K dX10_odds_72 rfl ?_
                  refine v_iload K dX10_odds_74 rfl ?_
                  refine v_iload K dX10_odds_76 rfl ?_
                  refine v_isubN K (by omega) dX10_odds_78 ?_
                  refine v_i2l K dX10_odds_79 rfl ?_
                  refine v_lmul K dX10_odds_80 ?_
                  refine v_topL (y := oN (av * (v % 10 - v / 10))) (by rw [oN_w (show _ < 2 ^ 31 by omega)]; exact oN_mul) ?_
                  refine v_lstore (lv2 := [(6, .long (oN (av * (v % 10 - v / 10)))), (0, .ref 118), (1, .int (nI v)), (2, .int (nI j1)), (3, .int (nI j2)), (4, .int (nI (v / 10))), (5, .int (nI (v % 10))), (8, .long (oN bv)), (10, .int (nI a))]) K dX10_odds_81 (by decide) rfl ?_
                  refine v_lload K dX10_odds_83 rfl ?_
                  refine v_iload K dX10_odds_85 rfl ?_
                  refine v_i2l K dX10_odds_87 rfl ?_
                  refine v_lmul K dX10_odds_88 ?_
                  refine v_topL (y := oN (bv * (v % 10))) (by rw [oN_w (show _ < 2 ^ 31 by omega)]; exact oN_mul) ?_
                  refine v_lstore (lv2 := [(8, .long (oN (bv * (v % 10)))), (6, .long (oN (av * (v % 10 - v / 10)))), (0, .ref 118), (1, .int (nI v)), (2, .int (nI j1)), (3, .int (nI j2)), (4, .int (nI (v / 10))), (5, .int (nI (v % 10))), (10, .int (nI a))]) K dX10_odds_89 (by decide) rfl ?_
                  refine v_iincN (lv2 := [(10, .int (nI (a + 1))), (8, .long (oN (bv * (v % 10)))), (6, .long (oN (av * (v % 10 - v / 10)))), (0, .ref 118), (1, .int (nI v)), (2, .int (nI j1)), (3, .int (nI j2)), (4, .int (nI (v / 10))), (5, .int (nI (v % 10)))]) K 1 dX10_odds_91 rfl rfl (by decide) rfl ?_
                  refine v_goto (tgt := 66) K dX10_odds_94 rfl ?_
                  refine v_sub (lv2 := [(0, .ref 118), (1, .int (nI v)), (2, .int (nI j1)), (3, .int (nI j2)), (4, .int (nI (v / 10))), (5, .int (nI (v % 10))), (6, .long (oN (av * (v % 10 - v / 10)))), (8, .long (oN (bv * (v % 10)))), (10, .int (nI (a + 1)))]) (by simp) ?_
                  exact ih66 (av * (v % 10 - v / 10)) (bv * (v % 10)) (a + 1) (by first | assumption | omega | rfl) (by rw [Nat.pow_succ, hab]) (by rw [Nat.pow_succ, hbl]) (by omega)
            refine v_sub (lv2 := [(0, .ref 118), (1, .int (nI v)), (2, .int (nI j1)), (3, .int (nI j2)), (4, .int (nI (v / 10))), (5, .int (nI (v % 10))), (6, .long (nI 1).toInt64), (8, .long (nI 1).toInt64), (10, .int (nI 0))]) (by simp) ?_
            exact L66 (j1 + 1 - 0 + 1) 1 1 0 (by first | assumption | omega | rfl) (by rfl) (by rfl) (Nat.lt_succ_self _)
          · skip
            refine v_aload_n K dX10_odds_50 rfl ?_
            refine v_iconstN K 1 rfl dX10_odds_51 ?_
            refine v_callV (As := [.int (nI 1)]) K (c_X10_finds h 1 (by omega)) lX10_113 ck_X10 rfl sh_118 pl_118 rfl ⟨by decide, by decide⟩ (Nat.le_of_ble_eq_true rfl) dX10_odds_52 (fun r9 h9 hp9 => ?_) rfl
            obtain ⟨rfl, rfl⟩ := hp9
            refine v_some ?_
            have hRf5 : RR (u2 h 122 1 (h 122 1 + nI 1)) (u2 s 122 1 (s 122 1 + nI 1)) := by rw [show (h 122 1) = s 122 1 from hR.at RA_122]; exact hR.u RA_122
            refine v_i2l K dX10_odds_55 rfl ?_
            refine v_lret K dX10_odds_56 ?_
            exact rfinL (odd_n (fun q => absurd q.2.2 (by assumption))) hRf5
