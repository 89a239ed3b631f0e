/-! orders of the THINGS that aren't hung up -/
def facN : Nat → Nat
  | 0 => 1
  | 1 => 1
  | 2 => 2
  | 3 => 6
  | _ => 24
def bitN (left k : Nat) : Nat := left / 2 ^ k % 2
/-- the place behind so many that are left -/
def srF (left : Nat) : Nat → Nat → Nat → Option Nat
  | 0, _, _ => none
  | f + 1, k, skip => if bitN left k = 0 ∨ 0 < skip then srF left f (k + 1) (skip - bitN left k) else some k
def ordP (m r : Nat) : Nat → Nat × Nat
  | 0 => (r, 2 ^ m - 1)
  | i + 1 => ((ordP m r i).1 % facN (m - i - 1), (ordP m r i).2 - 2 ^ ((srF (ordP m r i).2 4 0 ((ordP m r i).1 / facN (m - i - 1))).getD 0))
def pmN (m r i : Nat) : Nat := (srF (ordP m r i).2 4 0 ((ordP m r i).1 / facN (m - i - 1))).getD 0
def pmOK (m r i : Nat) : Prop := (ordP m r i).1 < 24 ∧ (ordP m r i).2 < 16 ∧ srF (ordP m r i).2 4 0 ((ordP m r i).1 / facN (m - i - 1)) = some (pmN m r i) ∧ pmN m r i < m
def pmC (m r i : Nat) : Bool := !decide (r < facN m) || (!decide (i < m) || (decide ((ordP m r i).1 < 24) && decide ((ordP m r i).2 < 16) && decide (srF (ordP m r i).2 4 0 ((ordP m r i).1 / facN (m - i - 1)) = some (pmN m r i)) && decide (pmN m r i < m)))
theorem pm_ok {m r i : Nat} (hm : m ≤ 4) (hr : r < facN m) (hi : i < m) : pmOK m r i := by
  have f24 : facN m ≤ 24 := by
    have : ∀ m, m < 5 → facN m ≤ 24 := by decide
    exact this m (by omega)
  have key : ∀ m, m < 5 → ∀ r, r < 24 → ∀ i, i < 4 → pmC m r i = true := by decide +kernel
  have k2 := key m (by omega) r (by omega) i (by omega)
  unfold pmC at k2
  rw [decide_eq_true hr, decide_eq_true hi] at k2
  simp only [Bool.not_true, Bool.false_or, Bool.and_eq_true, decide_eq_true_eq] at k2
  exact ⟨k2.1.1.1, k2.1.1.2, k2.1.2, k2.2⟩
theorem fac_1 {x : Nat} (h : x = 0 ∨ x = 1) : facN 1 = facN x := by rcases h with rfl | rfl <;> rfl
theorem bitN_le {left k : Nat} : bitN left k ≤ 1 := by unfold bitN; omega
theorem bit_sh {left k : Nat} (h1 : left < 16) (h2 : k < 4) : (nI left >>> (nI k &&& 31)) &&& nI 1 = nI (bitN left k) := by
  have : ∀ left, left < 16 → ∀ k, k < 4 → (nI left >>> (nI k &&& 31)) &&& nI 1 = nI (bitN left k) := by decide +kernel
  exact this left h1 k h2
theorem bit_cl {left k : Nat} (h1 : left < 16) (h2 : k < 4) (h3 : ¬ bitN left k = 0) : nI left &&& ((nI 1 <<< (nI k &&& 31)) ^^^ (-1)) = nI (left - 2 ^ k) := by
  have : ∀ left, left < 16 → ∀ k, k < 4 → ¬ bitN left k = 0 → nI left &&& ((nI 1 <<< (nI k &&& 31)) ^^^ (-1)) = nI (left - 2 ^ k) := by decide +kernel
  exact this left h1 k h2 h3
theorem sr_k {left k skip p : Nat} (h : srF left (4 - k) k skip = some p) : k < 4 := by
  rcases Nat.lt_or_ge k 4 with q | q
  · exact q
  · rw [show 4 - k = 0 by omega] at h; cases h
theorem sr_on {left k skip p : Nat} (h : srF left (4 - k) k skip = some p) (c : bitN left k = 0 ∨ 0 < skip) : srF left (4 - (k + 1)) (k + 1) (skip - bitN left k) = some p := by
  have hk := sr_k h
  rw [show 4 - k = (4 - (k + 1)) + 1 by omega, srF, if_pos c] at h
  exact h
theorem sr_end {left k skip p : Nat} (h : srF left (4 - k) k skip = some p) (c1 : ¬ bitN left k = 0) (c2 : skip = 0) : k = p := by
  have hk := sr_k h
  rw [show 4 - k = (4 - (k + 1)) + 1 by omega, srF, if_neg (by omega)] at h
  exact Option.some.inj h
theorem fac_s {k : Nat} (h : 2 ≤ k) (h2 : k < 5) : facN (k - 1) * k = facN (k + 1 - 1) := by
  obtain rfl | rfl | rfl : k = 2 ∨ k = 3 ∨ k = 4 := by omega
  all_goals rfl
theorem fac_pos {k : Nat} : 0 < facN k ∧ facN k ≤ 24 := by
  match k with
  | 0 => decide
  | 1 => decide
  | 2 => decide
  | 3 => decide
  | k + 4 => exact ⟨by show 0 < 24; omega, Nat.le_refl _⟩
theorem shl_m1 {m : Nat} (h : m ≤ 4) : nI 1 <<< (nI m &&& 31) - nI 1 = nI (2 ^ m - 1) := by
  have : ∀ m, m < 5 → nI 1 <<< (nI m &&& 31) - nI 1 = nI (2 ^ m - 1) := by decide +kernel
  exact this m (by omega)
theorem pow2_pos {k : Nat} : 0 < 2 ^ k := Nat.two_pow_pos k

abbrev P_X10_orders (h : Mm) (w m : Nat) : Option Value → Mm → Prop := fun r h2 => r = none ∧ (∀ j, j < m → h2 126 j = h 125 (pmN m w j)) ∧ FrO 126 127 h h2
theorem c_X10_orders {l : Launch} (h : Mm) (w m : Nat) (hm4 : m ≤ 4) (hr : w < facN m) : Con l yX10_orders cX10_orders 9 none 0 0 132 GL h [.ref 118, .int (nI w), .int (nI m)] (P_X10_orders h w m) := by
  refine Con.ofV (own := "FoxRoundsModel") (nm := "orders") rfl rfl (by decide) (Nat.le_of_ble_eq_true rfl) ?_
  intro κ ρ hkl K
  subst hkl
  show V κ (QM κ (132, ρ, GL, 0, 0) (P_X10_orders h w m)) 9 (132, ρ, GL, 0, 0) h 0 [(0, .ref 118), (1, .int (nI w)), (2, .int (nI m))] []
  refine v_iload_n K dX10_orders_0 rfl ?_
  refine v_istore_n (lv2 := [(3, .int (nI w)), (0, .ref 118), (1, .int (nI w)), (2, .int (nI m))]) K dX10_orders_1 (by decide) rfl ?_
  refine v_iconstN K 1 rfl dX10_orders_2 ?_
  refine v_iload_n K dX10_orders_3 rfl ?_
  refine v_ishl K dX10_orders_4 ?_
  refine v_iconstN K 1 rfl dX10_orders_5 ?_
  refine v_isub K dX10_orders_6 ?_
  refine v_top (y := nI (2 ^ m - 1)) (shl_m1 hm4) ?_
  refine v_istore (lv2 := [(4, .int (nI (2 ^ m - 1))), (3, .int (nI w)), (0, .ref 118), (1, .int (nI w)), (2, .int (nI m))]) K dX10_orders_7 (by decide) rfl ?_
  refine v_iconstN K 0 rfl dX10_orders_9 ?_
  refine v_istore (lv2 := [(5, .int (nI 0)), (4, .int (nI (2 ^ m - 1))), (3, .int (nI w)), (0, .ref 118), (1, .int (nI w)), (2, .int (nI m))]) K dX10_orders_10 (by decide) rfl ?_
  have L12 : ∀ (mm : Nat) (rest : Nat) (left : Nat) (i : Nat) (g : Mm) (hi : i ≤ m) (ho : ordP m w i = (rest, left)) (hr1 : ∀ j, j < i → g 126 j = h 125 (pmN m w j)) (hF : FrO 126 127 h g), m + 1 - i < mm → V κ (QM κ (132, ρ, GL, 0, 0) (P_X10_orders h w m)) 9 (132, ρ, GL, 0, 0) g 12 [(0, .ref 118), (1, .int (nI w)), (2, .int (nI m)), (3, .int (nI rest)), (4, .int (nI left)), (5, .int (nI i))] [] := by
    intro mm
    induction mm with
    | zero => intro rest left i g hi ho hr1 hF hmm; exact absurd hmm (Nat.not_lt_zero _)
    | succ mm ih12 =>
      intro rest left i g hi ho hr1 hF hmm
      refine v_iload K dX10_orders_12 rfl ?_
      refine v_iload_n K dX10_orders_14 rfl ?_
      refine v_icmpN_ge (tgt := 124) K (by omega) (by omega) dX10_orders_15 rfl (fun c1 => ?_) (fun c1 => ?_)
      · skip
        refine v_vret K dX10_orders_124 ?_
        obtain rfl : i = m := by omega
        exact ⟨rfl, hr1, hF⟩
      · skip
        refine v_iconstN K 1 rfl dX10_orders_18 ?_
        refine v_istore (lv2 := [(6, .int (nI 1)), (0, .ref 118), (1, .int (nI w)), (2, .int (nI m)), (3, .int (nI rest)), (4, .int (nI left)), (5, .int (nI i))]) K dX10_orders_19 (by decide) rfl ?_
        have hpm := pm_ok (m := m) (r := w) (i := i) hm4 hr (by omega)
        unfold pmOK at hpm; rw [ho] at hpm
        obtain ⟨hp1, hp2, hp3, hp4⟩ := hpm
        have hp1 : rest < 24 := hp1
        have hp2 : left < 16 := hp2
        refine v_iconstN K 2 rfl dX10_orders_21 ?_
        refine v_istore (lv2 := [(7, .int (nI 2)), (6, .int (nI 1)), (0, .ref 118), (1, .int (nI w)), (2, .int (nI m)), (3, .int (nI rest)), (4, .int (nI left)), (5, .int (nI i))]) K dX10_orders_22 (by decide) rfl ?_
        have L24 : ∀ (mm : Nat) (b : Nat) (k : Nat) (hk : 2 ≤ k) (hk2 : k = 2 ∨ k ≤ m - i) (hb : b = facN (k - 1)), m + 3 - k < mm → V κ (QM κ (132, ρ, GL, 0, 0) (P_X10_orders h w m)) 9 (132, ρ, GL, 0, 0) g 24 [(0, .ref 118), (1, .int (nI w)), (2, .int (nI m)), (3, .int (nI rest)), (4, .int (nI left)), (5, .int (nI i)), (6, .int (nI b)), (7, .int (nI k))] [] := by
          intro mm
          induction mm with
          | zero => intro b k hk hk2 hb hmm; exact absurd hmm (Nat.not_lt_zero _)
          | succ mm ih24 =>
            intro b k hk hk2 hb hmm
            refine v_iload K dX10_orders_24 rfl ?_
            refine v_iload_n K dX10_orders_26 rfl ?_
            refine v_iload K dX10_orders_27 rfl ?_
            refine v_isubN K (by omega) dX10_orders_29 ?_
            refine v_icmpN_ge (tgt := 46) K (by omega) (by omega) dX10_orders_30 rfl (fun c2 => ?_) (fun c2 => ?_)
            · skip
              obtain rfl : b = facN (m - i - 1) := (by rw [hb]; rcases hk2 with q | q; (subst q; exact fac_1 (by omega)); (congr 1; omega))
              have hfp := fac_pos (k := m - i - 1)
              refine v_iload_n K dX10_orders_46 rfl ?_
              refine v_iload K dX10_orders_47 rfl ?_
              refine v_idivN K (by omega) (by exact hfp.1) (by omega) dX10_orders_49 ?_
              refine v_istore (lv2 := [(7, .int (nI (rest / ((facN (m - i - 1)))))), (0, .ref 118), (1, .int (nI w)), (2, .int (nI m)), (3, .int (nI rest)), (4, .int (nI left)), (5, .int (nI i)), (6, .int (nI ((facN (m - i - 1)))))]) K dX10_orders_50 (by decide) rfl ?_
              refine v_iload_n K dX10_orders_52 rfl ?_
              refine v_iload K dX10_orders_53 rfl ?_
              refine v_iremN K (by omega) (by exact hfp.1) (by omega) dX10_orders_55 ?_
              refine v_istore_n (lv2 := [(3, .int (nI (rest % ((facN (m - i - 1)))))), (7, .int (nI (rest / ((facN (m - i - 1)))))), (0, .ref 118), (1, .int (nI w)), (2, .int (nI m)), (4, .int (nI left)), (5, .int (nI i)), (6, .int (nI ((facN (m - i - 1)))))]) K dX10_orders_56 (by decide) rfl ?_
              refine v_iconstN K 0 rfl dX10_orders_57 ?_
              refine v_istore (lv2 := [(8, .int (nI 0)), (3, .int (nI (rest % ((facN (m - i - 1)))))), (7, .int (nI (rest / ((facN (m - i - 1)))))), (0, .ref 118), (1, .int (nI w)), (2, .int (nI m)), (4, .int (nI left)), (5, .int (nI i)), (6, .int (nI ((facN (m - i - 1)))))]) K dX10_orders_58 (by decide) rfl ?_
              have L60 : ∀ (mm : Nat) (skip : Nat) (k : Nat) (hs : srF left (4 - k) k skip = some (pmN m w i)) (hsk : skip < 24), 5 - k < mm → V κ (QM κ (132, ρ, GL, 0, 0) (P_X10_orders h w m)) 9 (132, ρ, GL, 0, 0) g 60 [(0, .ref 118), (1, .int (nI w)), (2, .int (nI m)), (3, .int (nI (rest % facN (m - i - 1)))), (4, .int (nI left)), (5, .int (nI i)), (6, .int (nI (facN (m - i - 1)))), (7, .int (nI skip)), (8, .int (nI k))] [] := by
                intro mm
                induction mm with
                | zero => intro skip k hs hsk hmm; exact absurd hmm (Nat.not_lt_zero _)
                | succ mm ih60 =>
                  intro skip k hs hsk hmm
                  refine v_iload K dX10_orders_60 rfl ?_
                  refine v_iload K dX10_orders_62 rfl ?_
                  refine v_ishr K dX10_orders_64 ?_
                  refine v_iconstN K 1 rfl dX10_orders_65 ?_
                  refine v_iand K dX10_orders_66 ?_
                  refine v_top (y := nI (bitN left k)) (bit_sh hp2 (sr_k hs)) ?_
                  have hbl : bitN left k ≤ 1 := bitN_le
                  refine v_ifN_eq (tgt := 75) K (by omega) dX10_orders_67 rfl (fun c3 => ?_) (fun c3 => ?_)
                  · skip
                    refine v_iload K dX10_orders_75 rfl ?_
                    refine v_iload K dX10_orders_77 rfl ?_
                    refine v_iload K dX10_orders_79 rfl ?_
                    refine v_ishr K dX10_orders_81 ?_
                    refine v_iconstN K 1 rfl dX10_orders_82 ?_
                    refine v_iand K dX10_orders_83 ?_
                    refine v_top (y := nI (bitN left k)) (bit_sh hp2 (sr_k hs)) ?_
                    refine v_isubN K (by have := bitN_le (left := left) (k := k); omega) dX10_orders_84 ?_
                    refine v_istore (lv2 := [(7, .int (nI (skip - (bitN left k)))), (0, .ref 118), (1, .int (nI w)), (2, .int (nI m)), (3, .int (nI (rest % facN (m - i - 1)))), (4, .int (nI left)), (5, .int (nI i)), (6, .int (nI (facN (m - i - 1)))), (8, .int (nI k))]) K dX10_orders_85 (by decide) rfl ?_
                    refine v_iincN (lv2 := [(8, .int (nI (k + 1))), (7, .int (nI (skip - (bitN left k)))), (0, .ref 118), (1, .int (nI w)), (2, .int (nI m)), (3, .int (nI (rest % facN (m - i - 1)))), (4, .int (nI left)), (5, .int (nI i)), (6, .int (nI (facN (m - i - 1))))]) K 1 dX10_orders_87 rfl rfl (by decide) rfl ?_
                    refine v_goto (tgt := 60) K dX10_orders_90 rfl ?_
                    refine v_sub (lv2 := [(0, .ref 118), (1, .int (nI w)), (2, .int (nI m)), (3, .int (nI (rest % facN (m - i - 1)))), (4, .int (nI left)), (5, .int (nI i)), (6, .int (nI (facN (m - i - 1)))), (7, .int (nI (skip - (bitN left k)))), (8, .int (nI (k + 1)))]) (by simp) ?_
                    exact ih60 (skip - (bitN left k)) (k + 1) (by exact sr_on hs (Or.inl c3)) (by omega) (by have := sr_k hs; omega)
                  · skip
                    refine v_iload K dX10_orders_70 rfl ?_
                    refine v_ifN_le (tgt := 93) K (by omega) dX10_orders_72 rfl (fun c4 => ?_) (fun c4 => ?_)
                    · skip
                      have hkp := sr_end hs (by omega) (by omega); have hk4 := sr_k hs
                      refine v_aload_n K dX10_orders_93 rfl ?_
                      refine v_getr (q := 126) K fX10_32 sh_118 pl_118 gl_118_14 dX10_orders_94 ?_
                      refine v_iload K dX10_orders_97 rfl ?_
                      refine v_aload_n K dX10_orders_99 rfl ?_
                      refine v_getr (q := 125) K fX10_29 sh_118 pl_118 gl_118_13 dX10_orders_100 ?_
                      refine v_iload K dX10_orders_103 rfl ?_
                      refine v_iald (x := h 125 k) K sh_125 pl_125 (by omega) (congrFun (hF 125 (by omega)) _) dX10_orders_105 ?_
                      refine v_iast K sh_126 pl_126 (by omega) dX10_orders_106 ?_
                      refine v_iload K dX10_orders_107 rfl ?_
                      refine v_iconstN K 1 rfl dX10_orders_109 ?_
                      refine v_iload K dX10_orders_110 rfl ?_
                      refine v_ishl K dX10_orders_112 ?_
                      refine v_iconst (v := (-1)) K dX10_orders_113 (by decide) ?_
                      refine v_ixor K dX10_orders_114 ?_
                      refine v_iand K dX10_orders_115 ?_
                      refine v_top (y := nI (left - 2 ^ k)) (bit_cl hp2 hk4 (by omega)) ?_
                      refine v_istore (lv2 := [(4, .int (nI (left - 2 ^ k))), (0, .ref 118), (1, .int (nI w)), (2, .int (nI m)), (3, .int (nI (rest % facN (m - i - 1)))), (5, .int (nI i)), (6, .int (nI (facN (m - i - 1)))), (7, .int (nI skip)), (8, .int (nI k))]) K dX10_orders_116 (by decide) rfl ?_
                      refine v_iincN (lv2 := [(5, .int (nI (i + 1))), (4, .int (nI (left - 2 ^ k))), (0, .ref 118), (1, .int (nI w)), (2, .int (nI m)), (3, .int (nI (rest % facN (m - i - 1)))), (6, .int (nI (facN (m - i - 1)))), (7, .int (nI skip)), (8, .int (nI k))]) K 1 dX10_orders_118 rfl rfl (by decide) rfl ?_
                      refine v_goto (tgt := 12) K dX10_orders_121 rfl ?_
                      refine v_sub (lv2 := [(0, .ref 118), (1, .int (nI w)), (2, .int (nI m)), (3, .int (nI (rest % facN (m - i - 1)))), (4, .int (nI (left - 2 ^ k))), (5, .int (nI (i + 1)))]) (by simp) ?_
                      exact ih12 (rest % facN (m - i - 1)) (left - 2 ^ k) (i + 1) ((u2 g 126 i (h 125 k))) (by first | assumption | omega | rfl) (by show (_, _) = (_, _); rw [ho]; show (rest % _, left - 2 ^ (Option.getD (srF left 4 0 (rest / _)) 0)) = _; rw [hp3, show Option.getD (some (pmN m w i)) 0 = pmN m w i from rfl, hkp]) (by intro j hj; by_cases q : j = i; (subst q; rw [u2_at, hkp]); rw [u2_ne (Or.inr q)]; exact hr1 j (by omega)) (by exact hF.u (by omega) (by omega)) (by omega)
                    · skip
                      refine v_iload K dX10_orders_75 rfl ?_
                      refine v_iload K dX10_orders_77 rfl ?_
                      refine v_iload K dX10_orders_79 rfl ?_
                      refine v_ishr K dX10_orders_81 ?_
                      refine v_iconstN K 1 rfl dX10_orders_82 ?_
                      refine v_iand K dX10_orders_83 ?_
                      refine v_top (y := nI (bitN left k)) (bit_sh hp2 (sr_k hs)) ?_
                      refine v_isubN K (by have := bitN_le (left := left) (k := k); omega) dX10_orders_84 ?_
                      refine v_istore (lv2 := [(7, .int (nI (skip - (bitN left k)))), (0, .ref 118), (1, .int (nI w)), (2, .int (nI m)), (3, .int (nI (rest % facN (m - i - 1)))), (4, .int (nI left)), (5, .int (nI i)), (6, .int (nI (facN (m - i - 1)))), (8, .int (nI k))]) K dX10_orders_85 (by decide) rfl ?_
                      refine v_iincN (lv2 := [(8, .int (nI (k + 1))), (7, .int (nI (skip - (bitN left k)))), (0, .ref 118), (1, .int (nI w)), (2, .int (nI m)), (3, .int (nI (rest % facN (m - i - 1)))), (4, .int (nI left)), (5, .int (nI i)), (6, .int (nI (facN (m - i - 1))))]) K 1 dX10_orders_87 rfl rfl (by decide) rfl ?_
                      refine v_goto (tgt := 60) K dX10_orders_90 rfl ?_
                      refine v_sub (lv2 := [(0, .ref 118), (1, .int (nI w)), (2, .int (nI m)), (3, .int (nI (rest % facN (m - i - 1)))), (4, .int (nI left)), (5, .int (nI i)), (6, .int (nI (facN (m - i - 1)))), (7, .int (nI (skip - (bitN left k)))), (8, .int (nI (k + 1)))]) (by simp) ?_
                      exact ih60 (skip - (bitN left k)) (k + 1) (by exact sr_on hs (Or.inr c4)) (by omega) (by have := sr_k hs; omega)
              refine v_sub (lv2 := [(0, .ref 118), (1, .int (nI w)), (2, .int (nI m)), (3, .int (nI (rest % ((facN (m - i - 1)))))), (4, .int (nI left)), (5, .int (nI i)), (6, .int (nI ((facN (m - i - 1))))), (7, .int (nI (rest / ((facN (m - i - 1)))))), (8, .int (nI 0))]) (by simp) ?_
              exact L60 (5 - 0 + 1) (rest / ((facN (m - i - 1)))) 0 (by exact hp3) (by have := Nat.div_le_self rest (facN (m - i - 1)); omega) (Nat.lt_succ_self _)
            · skip
              refine v_iload K dX10_orders_33 rfl ?_
              refine v_iload K dX10_orders_35 rfl ?_
              refine v_imulN K dX10_orders_37 ?_
              refine v_istore (lv2 := [(6, .int (nI (b * k))), (0, .ref 118), (1, .int (nI w)), (2, .int (nI m)), (3, .int (nI rest)), (4, .int (nI left)), (5, .int (nI i)), (7, .int (nI k))]) K dX10_orders_38 (by decide) rfl ?_
              refine v_iincN (lv2 := [(7, .int (nI (k + 1))), (6, .int (nI (b * k))), (0, .ref 118), (1, .int (nI w)), (2, .int (nI m)), (3, .int (nI rest)), (4, .int (nI left)), (5, .int (nI i))]) K 1 dX10_orders_40 rfl rfl (by decide) rfl ?_
              refine v_goto (tgt := 24) K dX10_orders_43 rfl ?_
              refine v_sub (lv2 := [(0, .ref 118), (1, .int (nI w)), (2, .int (nI m)), (3, .int (nI rest)), (4, .int (nI left)), (5, .int (nI i)), (6, .int (nI (b * k))), (7, .int (nI (k + 1)))]) (by simp) ?_
              exact ih24 (b * k) (k + 1) (by first | assumption | omega | rfl) (by omega) (by rw [hb]; exact fac_s hk (by omega)) (by omega)
        refine v_sub (lv2 := [(0, .ref 118), (1, .int (nI w)), (2, .int (nI m)), (3, .int (nI rest)), (4, .int (nI left)), (5, .int (nI i)), (6, .int (nI 1)), (7, .int (nI 2))]) (by simp) ?_
        exact L24 (m + 3 - 2 + 1) 1 2 (by first | assumption | omega | rfl) (by exact Or.inl rfl) (by rfl) (Nat.lt_succ_self _)
  refine v_sub (lv2 := [(0, .ref 118), (1, .int (nI w)), (2, .int (nI m)), (3, .int (nI w)), (4, .int (nI (2 ^ m - 1))), (5, .int (nI 0))]) (by simp) ?_
  exact L12 (m + 1 - 0 + 1) w (2 ^ m - 1) 0 h (by first | assumption | omega | rfl) (by rfl) (by intro j hj; exact absurd hj (Nat.not_lt_zero _)) (by exact FrO.r) (Nat.lt_succ_self _)
