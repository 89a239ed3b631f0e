/-! bytes; odds of the class -/
theorem b255 {i : Nat} (hi : i < 8) : (nI 255).toBitVec.getLsbD i = true := by
  have : ∀ i, i < 8 → (nI 255).toBitVec.getLsbD i = true := by decide
  exact this i hi
theorem byt_k {w : Int64} {c : Nat} (hc : c ≤ 56) (e1 : ((BitVec.signExtend 64 (nI c).toBitVec).toNat &&& 63) % 64 = c) (e2 : ((BitVec.signExtend 64 (nI c).toBitVec &&& 63#64).smod 64#64).toNat = c) : BitVec.signExtend 8 ((w.toUInt64 >>> ((nI c).toInt64.toUInt64 &&& Int64.toUInt64 63)).toInt64).toBitVec = BitVec.signExtend 8 ((w >>> ((nI c).toInt64 &&& 63)).toBitVec &&& (nI 255).toInt64.toBitVec) := by
  ext i hi
  simp [BitVec.getElem_signExtend]
  rw [if_pos (show i < 64 by omega), dif_pos (show i < 64 by omega), if_pos (show i < 64 by omega), dif_pos (show i < 32 by omega), e1]
  have h5 : (nI 255).toBitVec[i] = true := by rw [← BitVec.getLsbD_eq_getElem]; exact b255 hi
  rw [h5, Bool.and_true, ← BitVec.getLsbD_eq_getElem, BitVec.getLsbD_sshiftRight, e2]
  simp [show i < 64 by omega, show c + i < 64 by omega]
theorem byt_eq {w : Int64} {k : Nat} (hk : k < 8) : ((((w.toUInt64 >>> ((nI (8 * k)).toInt64.toUInt64 &&& Int64.toUInt64 63)).toInt64).toInt32).toInt8.toInt32).toInt8.toInt32 = (bytV w k).toInt8.toInt32 := by
  rw [Int8.toInt8_toInt32]
  unfold bytV
  congr 1
  rw [Int64.toInt8_toInt32, Int64.toInt8_toInt32]
  apply Int8.toBitVec_inj.mp
  rw [Int64.toBitVec_toInt8, Int64.toBitVec_toInt8, Int64.toBitVec_and]
  obtain rfl | rfl | rfl | rfl | rfl | rfl | rfl | rfl : k = 0 ∨ k = 1 ∨ k = 2 ∨ k = 3 ∨ k = 4 ∨ k = 5 ∨ k = 6 ∨ k = 7 := by omega
  · exact byt_k (c := 0) (by decide) (by decide) (by decide)
  · exact byt_k (c := 8) (by decide) (by decide) (by decide)
  · exact byt_k (c := 16) (by decide) (by decide) (by decide)
  · exact byt_k (c := 24) (by decide) (by decide) (by decide)
  · exact byt_k (c := 32) (by decide) (by decide) (by decide)
  · exact byt_k (c := 40) (by decide) (by decide) (by decide)
  · exact byt_k (c := 48) (by decide) (by decide) (by decide)
  · exact byt_k (c := 56) (by decide) (by decide) (by decide)

theorem powL_N {b n : Nat} (hb : b < 2 ^ 31) : powL (nI b).toInt64 n = oN (b ^ n) := by
  induction n with
  | zero => exact oN_w (by omega)
  | succ n ih =>
    show powL (nI b).toInt64 n * (nI b).toInt64 = _
    rw [ih, oN_w hb, oN_mul, Nat.pow_succ]
theorem odd_0 {p q n : Nat} : ((q - p) / Nat.gcd (q - p) q) ^ n = oddA p q n (nI 0) := by
  unfold oddA
  rw [if_pos rfl, Nat.pow_gcd_pow, Nat.div_pow (Nat.gcd_dvd_left _ _)]
theorem odd_1 {p q n : Nat} {k : Int32} (h : ¬ k = nI 0) : (q / Nat.gcd (q - p) q) ^ n = oddA p q n k := by
  unfold oddA
  rw [if_neg h, Nat.pow_gcd_pow, Nat.div_pow (Nat.gcd_dvd_right _ _)]
theorem neg_rem {x : Int32} (h : x < 0) : ¬ (nI 1 ≤ x - x / nI 10 * nI 10 ∧ x - x / nI 10 * nI 10 ≤ nI 9) := by
  rintro ⟨h1, -⟩
  rw [i32_lt, show (0 : Int32).toInt = 0 from rfl] at h
  have b := Int32.le_toInt x
  have e1 : (x / nI 10).toInt = x.toInt.tdiv 10 := by rw [Int32.toInt_div_of_ne_right _ _ (by decide), nI_toInt (by omega)]; rfl
  have e0 := Int.tmod_def x.toInt 10
  have m1 : x.toInt.tmod 10 ≤ 0 := by
    have := Int.neg_tmod (-x.toInt) 10
    rw [Int.neg_neg] at this
    rw [this]
    have := Int.tmod_nonneg (a := -x.toInt) 10 (by omega)
    omega
  have m2 : -10 < x.toInt.tmod 10 := by
    have := Int.neg_tmod (-x.toInt) 10
    rw [Int.neg_neg] at this
    rw [this]
    have := Int.tmod_lt_of_pos (-x.toInt) (b := 10) (by omega)
    omega
  have e2 : (x / nI 10 * nI 10).toInt = x.toInt.tdiv 10 * 10 := by rw [Int32.toInt_mul, e1, nI_toInt (by omega), Int.bmod_eq_of_le] <;> omega
  rw [i32_le, Int32.toInt_sub, e2, nI_toInt (by omega), Int.bmod_eq_of_le] at h1 <;> omega

abbrev P_X9_feed (cM h s : Mm) (τ τk : Nat → List Int32) (w : Int64) (n : Int32) : Option Value → Mm → Prop := fun r h2 => r = some (.int (Y_feed s w n).1) ∧ CX cM h2 (Y_feed s w n).2 τ τk
theorem c_X9_feed {l : Launch} (cM h s : Mm) (τ τk : Nat → List Int32) (w : Int64) (n : Int32) (hC : CX cM h s τ τk) (hI : INV s τ τk) : Con l yX9_feed cX9_feed 5 (some .int) 2 43 132 GL h [.ref 0, .long w, .int n] (P_X9_feed cM h s τ τk w n) := by
  refine Con.ofV (own := "FoxRounds") (nm := "feed") rfl rfl (by decide) (Nat.le_of_ble_eq_true rfl) ?_
  intro κ ρ hkl K
  subst hkl
  show V κ (QM κ (132, ρ, GL, 0, 0) (P_X9_feed cM h s τ τk w n)) 5 (132, ρ, GL, 0, 0) h 0 [(0, .ref 0), (1, .long w), (3, .int n)] []
  have hd := hI.d
  have hn8 := hd.nw8
  have ht5 := hd.nt5
  obtain ⟨t13, h13, e13⟩ := hI.t13
  refine v_iload_n K dX9_feed_0 rfl ?_
  refine v_iconstN K 1 rfl dX9_feed_1 ?_
  refine v_bipushN K 8 rfl dX9_feed_2 ?_
  refine v_callS (As := [.int n, .int (nI 1), .int (nI 8)]) K (c_X9_within h n (nI 1) (nI 8)) lX9_65 rfl ⟨by decide, by decide⟩ (Nat.le_of_ble_eq_true rfl) dX9_feed_4 (fun r1 h1 hp1 => ?_) rfl
  obtain ⟨rfl, rfl⟩ := hp1
  refine v_some ?_
  refine v_ifB_ne (tgt := 16) K dX9_feed_7 rfl (fun c1 => ?_) (fun c1 => ?_)
  · skip
    have c0 := c1
    obtain ⟨j, hj1, hjn, rfl⟩ := in_lo (n := 8) (by decide) c1
    refine v_aload_n K dX9_feed_16 rfl ?_
    refine v_getr (q := 1) K fX9_10 sh_0 pl_0 gl_0_0 dX9_feed_17 ?_
    refine v_geti (x := nI t13) K fX9_139 sh_1 pl_1 (hC.W.2.2.2.2.1.trans e13) dX9_feed_20 ?_
    refine v_iload_n K dX9_feed_23 rfl ?_
    refine v_iaddN K dX9_feed_24 ?_
    refine v_bipushN K 50 rfl dX9_feed_25 ?_
    refine v_icmpN_le (tgt := 36) K (by omega) (by omega) dX9_feed_27 rfl (fun c2 => ?_) (fun c2 => ?_)
    · skip
      refine v_iconstN K 0 rfl dX9_feed_36 ?_
      refine v_istore (lv2 := [(4, .int (nI 0)), (0, .ref 0), (1, .long w), (3, .int (nI j))]) K dX9_feed_37 (by decide) rfl ?_
      have L39 : ∀ (mm : Nat) (a : Nat) (g : Mm) (ha : a ≤ j) (hZ : CX cM g (rw2 s 119 (fedR (s 119) t13 w a)) τ τk), j + 1 - a < mm → V κ (QM κ (132, ρ, GL, 0, 0) (P_X9_feed cM h s τ τk w (nI j))) 5 (132, ρ, GL, 0, 0) g 39 [(0, .ref 0), (1, .long w), (3, .int (nI j)), (4, .int (nI a))] [] := by
        intro mm
        induction mm with
        | zero => intro a g ha hZ hmm; exact absurd hmm (Nat.not_lt_zero _)
        | succ mm ih39 =>
          intro a g ha hZ hmm
          refine v_iload K dX9_feed_39 rfl ?_
          refine v_iload_n K dX9_feed_41 rfl ?_
          refine v_icmpN_ge (tgt := 88) K (by omega) (by omega) dX9_feed_42 rfl (fun c3 => ?_) (fun c3 => ?_)
          · skip
            refine v_aload_n K dX9_feed_88 rfl ?_
            refine v_getr (q := 1) K fX9_10 sh_0 pl_0 gl_0_0 dX9_feed_89 ?_
            refine v_geti (x := nI (t13 + a)) K fX9_139 sh_1 pl_1 (hZ.W.2.2.2.2.1.trans ((congrFun rw2_at _).trans fed_13)) dX9_feed_92 ?_
            refine v_iret K dX9_feed_95 ?_
            have eY : Y_feed s w (nI j) = (nI (t13 + a), (rw2 s 119 (fedR (s 119) t13 w a))) := by
              unfold Y_feed
              refine (@if_neg _ (Classical.propDecidable _) (fun q => q c0) _ _ _).trans ?_
              refine (@if_neg _ (Classical.propDecidable _) (by rw [e13, cl_ix (show t13 < 2 ^ 31 by omega), cl_ix (show j < 2 ^ 31 by omega)]; omega) _ _ _).trans ?_
              obtain rfl : a = j := (by omega); rw [e13, cl_ix (show t13 < 2 ^ 31 by omega), cl_ix (show a < 2 ^ 31 by omega)]
            exact xfin eY hZ
          · skip
            refine v_aload_n K dX9_feed_45 rfl ?_
            refine v_getr (q := 1) K fX9_10 sh_0 pl_0 gl_0_0 dX9_feed_46 ?_
            refine v_getr (q := 36) K fX9_142 sh_1 pl_1 gl_1_3 dX9_feed_49 ?_
            refine v_aload_n K dX9_feed_52 rfl ?_
            refine v_getr (q := 1) K fX9_10 sh_0 pl_0 gl_0_0 dX9_feed_53 ?_
            refine v_geti (x := nI (t13 + a)) K fX9_139 sh_1 pl_1 (hZ.W.2.2.2.2.1.trans ((congrFun rw2_at _).trans fed_13)) dX9_feed_56 ?_
            refine v_lload_n K dX9_feed_59 rfl ?_
            refine v_bipushN K 8 rfl dX9_feed_60 ?_
            refine v_iload K dX9_feed_62 rfl ?_
            refine v_imulN K dX9_feed_64 ?_
            refine v_lushr K dX9_feed_65 rfl ?_
            refine v_l2i K dX9_feed_66 rfl ?_
            refine v_i2b K dX9_feed_67 rfl ?_
            refine v_bast K sh_36 pl_36 (by omega) dX9_feed_68 ?_
            have hCx1 : CX cM (u2 g 36 (t13 + a) (((((w.toUInt64 >>> ((nI (8 * a)).toInt64.toUInt64 &&& Int64.toUInt64 63)).toInt64).toInt32).toInt8.toInt32).toInt8.toInt32)) (u2 (rw2 s 119 (fedR (s 119) t13 w a)) 119 (284 + (t13 + a)) (bytV w a)) τ τk := CX.w2 hZ (WX.tp hZ.W (by omega) (byt_eq (by omega))) (by omega) (by omega)
            refine v_aload_n K dX9_feed_69 rfl ?_
            refine v_getr (q := 1) K fX9_10 sh_0 pl_0 gl_0_0 dX9_feed_70 ?_
            refine v_dup K dX9_feed_73 rfl ?_
            refine v_geti (x := nI (t13 + a)) K fX9_139 sh_1 pl_1 ((hCx1.W.2.2.2.2.1.trans (u2_ne (by omega))).trans ((congrFun rw2_at _).trans fed_13)) dX9_feed_74 ?_
            refine v_iconstN K 1 rfl dX9_feed_77 ?_
            refine v_iaddN K dX9_feed_78 ?_
            refine v_puti K pX9_139 sh_1 pl_1 dX9_feed_79 ?_
            have hCx2 : CX cM (u2 (u2 g 36 (t13 + a) (((((w.toUInt64 >>> ((nI (8 * a)).toInt64.toUInt64 &&& Int64.toUInt64 63)).toInt64).toInt32).toInt8.toInt32).toInt8.toInt32)) 1 4 (nI (t13 + a + 1))) (u2 (u2 (rw2 s 119 (fedR (s 119) t13 w a)) 119 (284 + (t13 + a)) (bytV w a)) 119 13 (nI (t13 + a + 1))) τ τk := CX.w2 hCx1 (WX.o hCx1.W (by omega)) (by omega) (by omega)
            refine v_iincN (lv2 := [(4, .int (nI (a + 1))), (0, .ref 0), (1, .long w), (3, .int (nI j))]) K 1 dX9_feed_82 rfl rfl (by decide) rfl ?_
            refine v_goto (tgt := 39) K dX9_feed_85 rfl ?_
            refine v_sub (lv2 := [(0, .ref 0), (1, .long w), (3, .int (nI j)), (4, .int (nI (a + 1)))]) (by simp) ?_
            exact ih39 (a + 1) ((u2 (u2 g 36 (t13 + a) (((((w.toUInt64 >>> ((nI (8 * a)).toInt64.toUInt64 &&& Int64.toUInt64 63)).toInt64).toInt32).toInt8.toInt32).toInt8.toInt32)) 1 4 (nI (t13 + a + 1)))) (by first | assumption | omega | rfl) (by have hx := hCx2; rw [show (u2 (u2 (rw2 s 119 (fedR (s 119) t13 w a)) 119 (284 + (t13 + a)) (bytV w a)) 119 13 (nI (t13 + a + 1))) = rw2 s 119 (fedR (s 119) t13 w (a + 1)) from by simp only [u2_rw, rw2_rw2, rw2_at, fed_s]] at hx; exact hx) (by omega)
      refine v_sub (lv2 := [(0, .ref 0), (1, .long w), (3, .int (nI j)), (4, .int (nI 0))]) (by simp) ?_
      exact L39 (j + 1 - 0 + 1) 0 h (by first | assumption | omega | rfl) (by rw [fed_0 e13, rw2_self]; exact hC) (Nat.lt_succ_self _)
    · skip
      refine v_aload_n K dX9_feed_30 rfl ?_
      refine v_iconstN K 4 rfl dX9_feed_31 ?_
      refine v_callV (As := [.int (nI 4)]) K (c_X9_error h 4 (by omega)) lX9_75 ck_X9 rfl sh_0 pl_0 rfl ⟨by decide, by decide⟩ (Nat.le_of_ble_eq_true rfl) dX9_feed_32 (fun r2 h2 hp2 => ?_) rfl
      obtain ⟨rfl, rfl⟩ := hp2
      refine v_some ?_
      have hCe1 : CX cM (u2 h 109 4 (h 109 4 + nI 1)) (u2 s 122 4 (s 122 4 + nI 1)) τ τk := CX.er hC (by omega) (by omega)
      refine v_iret K dX9_feed_35 ?_
      have eY : Y_feed s w (nI j) = ((-1000000000) - nI 4, (u2 s 122 4 (s 122 4 + nI 1))) := by
        unfold Y_feed
        refine (@if_neg _ (Classical.propDecidable _) (fun q => q c0) _ _ _).trans ?_
        refine (@if_pos _ (Classical.propDecidable _) (by rw [e13, cl_ix (show t13 < 2 ^ 31 by omega), cl_ix (show j < 2 ^ 31 by omega)]; omega) _ _ _).trans ?_
        first | rfl | ((try rw [cl_ix (show j < 2 ^ 31 by omega)]))
      exact xfin eY hCe1
  · skip
    refine v_aload_n K dX9_feed_10 rfl ?_
    refine v_iconstN K 1 rfl dX9_feed_11 ?_
    refine v_callV (As := [.int (nI 1)]) K (c_X9_error h 1 (by omega)) lX9_75 ck_X9 rfl sh_0 pl_0 rfl ⟨by decide, by decide⟩ (Nat.le_of_ble_eq_true rfl) dX9_feed_12 (fun r3 h3 hp3 => ?_) rfl
    obtain ⟨rfl, rfl⟩ := hp3
    refine v_some ?_
    have hCe2 : CX cM (u2 h 109 1 (h 109 1 + nI 1)) (u2 s 122 1 (s 122 1 + nI 1)) τ τk := CX.er hC (by omega) (by omega)
    refine v_iret K dX9_feed_15 ?_
    have eY : Y_feed s w n = ((-1000000000) - nI 1, (u2 s 122 1 (s 122 1 + nI 1))) := by
      unfold Y_feed
      refine (@if_pos _ (Classical.propDecidable _) (by assumption) _ _ _).trans ?_
      first | rfl | (rfl)
    exact xfin eY hCe2

abbrev P_X9_odds (cM h s : Mm) (τ τk : Nat → List Int32) (pq n k : Int32) : Option Value → Mm → Prop := fun r h2 => r = some (.long (Y_odds s pq n k).1) ∧ CX cM h2 (Y_odds s pq n k).2 τ τk
theorem c_X9_odds {l : Launch} (cM h s : Mm) (τ τk : Nat → List Int32) (pq n k : Int32) (hC : CX cM h s τ τk) (hI : INV s τ τk) : Con l yX9_odds cX9_odds 7 (some .long) 2 43 132 GL h [.ref 0, .int pq, .int n, .int k] (P_X9_odds cM h s τ τk pq n k) := by
  refine Con.ofV (own := "FoxRounds") (nm := "odds") rfl rfl (by decide) (Nat.le_of_ble_eq_true rfl) ?_
  intro κ ρ hkl K
  subst hkl
  show V κ (QM κ (132, ρ, GL, 0, 0) (P_X9_odds cM h s τ τk pq n k)) 7 (132, ρ, GL, 0, 0) h 0 [(0, .ref 0), (1, .int pq), (2, .int n), (3, .int k)] []
  refine v_iload_n K dX9_odds_0 rfl ?_
  refine v_bipushN K 10 rfl dX9_odds_1 ?_
  refine v_idiv K dX9_odds_3 (by decide) ?_
  refine v_istore (lv2 := [(4, .int (pq / (nI 10))), (0, .ref 0), (1, .int pq), (2, .int n), (3, .int k)]) K dX9_odds_4 (by decide) rfl ?_
  refine v_iload_n K dX9_odds_6 rfl ?_
  refine v_bipushN K 10 rfl dX9_odds_7 ?_
  refine v_irem K dX9_odds_9 (by decide) ?_
  refine v_istore (lv2 := [(5, .int (pq - pq / (nI 10) * (nI 10))), (4, .int (pq / (nI 10))), (0, .ref 0), (1, .int pq), (2, .int n), (3, .int k)]) K dX9_odds_10 (by decide) rfl ?_
  by_cases hp : pq < 0
  · skip
    skip
    refine v_iload K dX9_odds_12 rfl ?_
    refine v_iconstN K 1 rfl dX9_odds_14 ?_
    refine v_bipushN K 9 rfl dX9_odds_15 ?_
    refine v_callS (As := [.int (pq - pq / (nI 10) * (nI 10)), .int (nI 1), .int (nI 9)]) K (c_X9_within h (pq - pq / (nI 10) * (nI 10)) (nI 1) (nI 9)) lX9_65 rfl ⟨by decide, by decide⟩ (Nat.le_of_ble_eq_true rfl) dX9_odds_17 (fun r1 h1 hp1 => ?_) rfl
    obtain ⟨rfl, rfl⟩ := hp1
    refine v_some ?_
    refine v_ifB_eq (tgt := 53) K dX9_odds_20 rfl (fun c1 => ?_) (fun c1 => ?_)
    · skip
      refine v_aload_n K dX9_odds_53 rfl ?_
      refine v_iconstN K 1 rfl dX9_odds_54 ?_
      refine v_callV (As := [.int (nI 1)]) K (c_X9_error h 1 (by omega)) lX9_75 ck_X9 rfl sh_0 pl_0 rfl ⟨by decide, by decide⟩ (Nat.le_of_ble_eq_true rfl) dX9_odds_55 (fun r2 h2 hp2 => ?_) rfl
      obtain ⟨rfl, rfl⟩ := hp2
      refine v_some ?_
      have hCe1 : CX cM (u2 h 109 1 (h 109 1 + nI 1)) (u2 s 122 1 (s 122 1 + nI 1)) τ τk := CX.er hC (by omega) (by omega)
      refine v_i2l K dX9_odds_58 rfl ?_
      refine v_lret K dX9_odds_59 ?_
      have eY := odd_n (s := s) (fun q : oddOK pq n k => by obtain ⟨⟨v, hv, e, -⟩, -⟩ := q; rw [e] at hp; exact nlt0 hv hp)
      exact ⟨by rw [eY]; rfl, by rw [eY]; exact hCe1⟩
    · skip
      exact absurd c1 (neg_rem hp)
  · skip
    obtain ⟨v, hv, rfl⟩ := nN_of hp
    have e4 : nI v / nI 10 = nI (v / 10) := pk_div hv (by omega) (by omega)
    have e5 : nI v - nI v / nI 10 * nI 10 = nI (v % 10) := pk_rem hv (by omega) (by omega)
    rw [e5, e4]
    refine v_iload K dX9_odds_12 rfl ?_
    refine v_iconstN K 1 rfl dX9_odds_14 ?_
    refine v_bipushN K 9 rfl dX9_odds_15 ?_
    refine v_callS (As := [.int (nI (v % 10)), .int (nI 1), .int (nI 9)]) K (c_X9_within h (nI (v % 10)) (nI 1) (nI 9)) lX9_65 rfl ⟨by decide, by decide⟩ (Nat.le_of_ble_eq_true rfl) dX9_odds_17 (fun r3 h3 hp3 => ?_) rfl
    obtain ⟨rfl, rfl⟩ := hp3
    refine v_some ?_
    refine v_ifB_eq (tgt := 53) K dX9_odds_20 rfl (fun c2 => ?_) (fun c2 => ?_)
    · skip
      refine v_aload_n K dX9_odds_53 rfl ?_
      refine v_iconstN K 1 rfl dX9_odds_54 ?_
      refine v_callV (As := [.int (nI 1)]) K (c_X9_error h 1 (by omega)) lX9_75 ck_X9 rfl sh_0 pl_0 rfl ⟨by decide, by decide⟩ (Nat.le_of_ble_eq_true rfl) dX9_odds_55 (fun r4 h4 hp4 => ?_) rfl
      obtain ⟨rfl, rfl⟩ := hp4
      refine v_some ?_
      have hCe2 : CX cM (u2 h 109 1 (h 109 1 + nI 1)) (u2 s 122 1 (s 122 1 + nI 1)) τ τk := CX.er hC (by omega) (by omega)
      refine v_i2l K dX9_odds_58 rfl ?_
      refine v_lret K dX9_odds_59 ?_
      have eY := odd_n (s := s) (fun q : oddOK (nI v) n k => by obtain ⟨⟨v2, hv2, e, h1, h2⟩, -⟩ := q; obtain rfl := nI_inj hv hv2 e; exact c2 ⟨(nI_leI (by omega) (by omega)).mpr h1, (nI_leI (by omega) (by omega)).mpr (by omega)⟩)
      exact ⟨by rw [eY]; rfl, by rw [eY]; exact hCe2⟩
    · skip
      have hq1 : 1 ≤ v % 10 := (nI_leI (by omega) (by omega)).mp c2.1
      refine v_iload K dX9_odds_23 rfl ?_
      refine v_iconstN K 0 rfl dX9_odds_25 ?_
      refine v_iload K dX9_odds_26 rfl ?_
      refine v_callS (As := [.int (nI (v / 10)), .int (nI 0), .int (nI (v % 10))]) K (c_X9_within h (nI (v / 10)) (nI 0) (nI (v % 10))) lX9_65 rfl ⟨by decide, by decide⟩ (Nat.le_of_ble_eq_true rfl) dX9_odds_28 (fun r5 h5 hp5 => ?_) rfl
      obtain ⟨rfl, rfl⟩ := hp5
      refine v_some ?_
      refine v_ifB_eq (tgt := 53) K dX9_odds_31 rfl (fun c3 => ?_) (fun c3 => ?_)
      · skip
        refine v_aload_n K dX9_odds_53 rfl ?_
        refine v_iconstN K 1 rfl dX9_odds_54 ?_
        refine v_callV (As := [.int (nI 1)]) K (c_X9_error h 1 (by omega)) lX9_75 ck_X9 rfl sh_0 pl_0 rfl ⟨by decide, by decide⟩ (Nat.le_of_ble_eq_true rfl) dX9_odds_55 (fun r6 h6 hp6 => ?_) rfl
        obtain ⟨rfl, rfl⟩ := hp6
        refine v_some ?_
        have hCe3 : CX cM (u2 h 109 1 (h 109 1 + nI 1)) (u2 s 122 1 (s 122 1 + nI 1)) τ τk := CX.er hC (by omega) (by omega)
        refine v_i2l K dX9_odds_58 rfl ?_
        refine v_lret K dX9_odds_59 ?_
        have eY := odd_n (s := s) (fun q : oddOK (nI v) n k => by obtain ⟨⟨v2, hv2, e, h1, h2⟩, -⟩ := q; obtain rfl := nI_inj hv hv2 e; exact c3 ⟨(nI_leI (by omega) (by omega)).mpr (by omega), (nI_leI (by omega) (by omega)).mpr h2⟩)
        exact ⟨by rw [eY]; rfl, by rw [eY]; exact hCe3⟩
      · skip
        have hq2 : v / 10 ≤ v % 10 := (nI_leI (by omega) (by omega)).mp c3.2
        refine v_iload_n K dX9_odds_34 rfl ?_
        refine v_iconstN K 0 rfl dX9_odds_35 ?_
        refine v_bipushN K 12 rfl dX9_odds_36 ?_
        refine v_callS (As := [.int n, .int (nI 0), .int (nI 12)]) K (c_X9_within h n (nI 0) (nI 12)) lX9_65 rfl ⟨by decide, by decide⟩ (Nat.le_of_ble_eq_true rfl) dX9_odds_38 (fun r7 h7 hp7 => ?_) rfl
        obtain ⟨rfl, rfl⟩ := hp7
        refine v_some ?_
        rw [show (nI 0 ≤ n ∧ n ≤ nI 12) = ix n 13 from in_ix (by decide)]
        refine v_ifB_eq (tgt := 53) K dX9_odds_41 rfl (fun c4 => ?_) (fun c4 => ?_)
        · skip
          refine v_aload_n K dX9_odds_53 rfl ?_
          refine v_iconstN K 1 rfl dX9_odds_54 ?_
          refine v_callV (As := [.int (nI 1)]) K (c_X9_error h 1 (by omega)) lX9_75 ck_X9 rfl sh_0 pl_0 rfl ⟨by decide, by decide⟩ (Nat.le_of_ble_eq_true rfl) dX9_odds_55 (fun r8 h8 hp8 => ?_) rfl
          obtain ⟨rfl, rfl⟩ := hp8
          refine v_some ?_
          have hCe4 : CX cM (u2 h 109 1 (h 109 1 + nI 1)) (u2 s 122 1 (s 122 1 + nI 1)) τ τk := CX.er hC (by omega) (by omega)
          refine v_i2l K dX9_odds_58 rfl ?_
          refine v_lret K dX9_odds_59 ?_
          have eY := odd_n (s := s) (fun q : oddOK (nI v) n k => absurd q.2.1 (by assumption))
          exact ⟨by rw [eY]; rfl, by rw [eY]; exact hCe4⟩
        · skip
          obtain ⟨j1, Hj1, rfl⟩ := c4
          refine v_iload_n K dX9_odds_44 rfl ?_
          refine v_iconstN K 0 rfl dX9_odds_45 ?_
          refine v_iconstN K 1 rfl dX9_odds_46 ?_
          refine v_callS (As := [.int k, .int (nI 0), .int (nI 1)]) K (c_X9_within h k (nI 0) (nI 1)) lX9_65 rfl ⟨by decide, by decide⟩ (Nat.le_of_ble_eq_true rfl) dX9_odds_47 (fun r9 h9 hp9 => ?_) rfl
          obtain ⟨rfl, rfl⟩ := hp9
          refine v_some ?_
          rw [show (nI 0 ≤ k ∧ k ≤ nI 1) = ix k 2 from in_ix (by decide)]
          refine v_ifB_ne (tgt := 60) K dX9_odds_50 rfl (fun c5 => ?_) (fun c5 => ?_)
          · skip
            obtain ⟨j2, Hj2, rfl⟩ := c5
            refine v_iconstN K 1 rfl dX9_odds_60 ?_
            refine v_iload K dX9_odds_61 rfl ?_
            refine v_iload K dX9_odds_63 rfl ?_
            refine v_isubN K (by omega) dX9_odds_65 ?_
            refine v_iload K dX9_odds_66 rfl ?_
            refine v_callS (As := [.int (nI (v % 10 - (v / 10))), .int (nI (v % 10))]) K (c_X9_commonDivisor h (v % 10 - (v / 10)) (v % 10) (by omega) (by omega)) lX9_231 rfl ⟨by decide, by decide⟩ (Nat.le_of_ble_eq_true rfl) dX9_odds_68 (fun r10 h10 hp10 => ?_) rfl
            obtain ⟨rfl, rfl⟩ := hp10
            refine v_some ?_
            refine v_max K jX9_234 jst_max jin_math jco_max ⟨by decide, by decide, Nat.zero_le _, Nat.zero_le _⟩ (Nat.le_of_ble_eq_true rfl) dX9_odds_71 ?_
            have hg9 := Nat.gcd_le_right (v % 10 - v / 10) (show 0 < v % 10 by omega)
            refine v_top (max1 (Nat.gcd_pos_of_pos_right _ (by omega)) (by omega)) ?_
            refine v_istore (lv2 := [(6, .int (nI (Nat.gcd (v % 10 - (v / 10)) (v % 10)))), (5, .int (nI (v % 10))), (4, .int (nI (v / 10))), (0, .ref 0), (1, .int (nI v)), (2, .int (nI j1)), (3, .int (nI j2))]) K dX9_odds_74 (by decide) rfl ?_
            refine v_iload_n K dX9_odds_76 rfl ?_
            refine v_ifN_ne (tgt := 88) K (by omega) dX9_odds_77 rfl (fun c6 => ?_) (fun c6 => ?_)
            · skip
              refine v_iload K dX9_odds_88 rfl ?_
              refine v_iload K dX9_odds_90 rfl ?_
              refine v_idivN K (by omega) (by exact Nat.gcd_pos_of_pos_right _ (by omega)) (by omega) dX9_odds_92 ?_
              refine v_iload_n K dX9_odds_93 rfl ?_
              refine v_callS (As := [.int (nI ((v % 10) / (Nat.gcd (v % 10 - (v / 10)) (v % 10)))), .int (nI j1)]) K (c_X9_power h (nI ((v % 10) / (Nat.gcd (v % 10 - (v / 10)) (v % 10)))) j1 (by omega)) lX9_239 rfl ⟨by decide, by decide⟩ (Nat.le_of_ble_eq_true rfl) dX9_odds_94 (fun r11 h11 hp11 => ?_) rfl
              obtain ⟨rfl, rfl⟩ := hp11
              refine v_some ?_
              rw [powL_N (b := (v % 10) / (Nat.gcd (v % 10 - (v / 10)) (v % 10))) (by have h1 := Nat.div_le_self (v % 10 - v / 10) (Nat.gcd (v % 10 - v / 10) (v % 10)); have h2 := Nat.div_le_self (v % 10) (Nat.gcd (v % 10 - v / 10) (v % 10)); omega)]
              refine v_lret K dX9_odds_97 ?_
              have eY := odd_y (s := s) hv hq1 hq2 (show j1 < 13 by omega) (show j2 < 2 by omega)
              exact ⟨by rw [eY]; exact congrArg (fun z => some (Value.long (oN z))) (odd_1 (fun q => absurd (nI_inj (by omega) (by omega) q) (by omega))), by rw [eY]; exact hC⟩
            · skip
              refine v_iload K dX9_odds_80 rfl ?_
              refine v_iload K dX9_odds_82 rfl ?_
              refine v_isubN K (by omega) dX9_odds_84 ?_
              refine v_goto (tgt := 90) K dX9_odds_85 rfl ?_
              refine v_iload K dX9_odds_90 rfl ?_
              refine v_idivN K (by omega) (by exact Nat.gcd_pos_of_pos_right _ (by omega)) (by omega) dX9_odds_92 ?_
              refine v_iload_n K dX9_odds_93 rfl ?_
              refine v_callS (As := [.int (nI ((v % 10 - (v / 10)) / (Nat.gcd (v % 10 - (v / 10)) (v % 10)))), .int (nI j1)]) K (c_X9_power h (nI ((v % 10 - (v / 10)) / (Nat.gcd (v % 10 - (v / 10)) (v % 10)))) j1 (by omega)) lX9_239 rfl ⟨by decide, by decide⟩ (Nat.le_of_ble_eq_true rfl) dX9_odds_94 (fun r12 h12 hp12 => ?_) rfl
              obtain ⟨rfl, rfl⟩ := hp12
              refine v_some ?_
              rw [powL_N (b := (v % 10 - (v / 10)) / (Nat.gcd (v % 10 - (v / 10)) (v % 10))) (by have h1 := Nat.div_le_self (v % 10 - v / 10) (Nat.gcd (v % 10 - v / 10) (v % 10)); have h2 := Nat.div_le_self (v % 10) (Nat.gcd (v % 10 - v / 10) (v % 10)); omega)]
              refine v_lret K dX9_odds_97 ?_
              have eY := odd_y (s := s) hv hq1 hq2 (show j1 < 13 by omega) (show j2 < 2 by omega)
              exact ⟨by rw [eY]; exact congrArg (fun z => some (Value.long (oN z))) (by rw [show j2 = 0 by omega]; exact odd_0), by rw [eY]; exact hC⟩
          · skip
            refine v_aload_n K dX9_odds_53 rfl ?_
            refine v_iconstN K 1 rfl dX9_odds_54 ?_
            refine v_callV (As := [.int (nI 1)]) K (c_X9_error h 1 (by omega)) lX9_75 ck_X9 rfl sh_0 pl_0 rfl ⟨by decide, by decide⟩ (Nat.le_of_ble_eq_true rfl) dX9_odds_55 (fun r13 h13 hp13 => ?_) rfl
            obtain ⟨rfl, rfl⟩ := hp13
            refine v_some ?_
            have hCe5 : CX cM (u2 h 109 1 (h 109 1 + nI 1)) (u2 s 122 1 (s 122 1 + nI 1)) τ τk := CX.er hC (by omega) (by omega)
            refine v_i2l K dX9_odds_58 rfl ?_
            refine v_lret K dX9_odds_59 ?_
            have eY := odd_n (s := s) (fun q : oddOK (nI v) (nI j1) k => absurd q.2.2 (by assumption))
            exact ⟨by rw [eY]; rfl, by rw [eY]; exact hCe5⟩
