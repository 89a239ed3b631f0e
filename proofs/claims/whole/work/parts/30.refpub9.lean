def bitI (S w : Nat) : Prop := (nI S >>> (nI w &&& 31)) &&& nI 1 = nI 1
noncomputable def costD (d : Dm) (S : Nat) : Nat → Int32
  | 0 => nI 0
  | w + 1 => @ite _ (bitI S w) (Classical.propDecidable _) (costD d S w + d (46 + 6 * w + 3)) (costD d S w)
noncomputable def mendS (d : Dm) (S : Nat) : Nat → Dm
  | 0 => d
  | w + 1 => @ite _ (bitI S w) (Classical.propDecidable _) (mendD (mendS d S w) w) (mendS d S w)
theorem cost_y {d : Dm} {S w : Nat} (h : bitI S w) : costD d S (w + 1) = costD d S w + d (46 + 6 * w + 3) := @if_pos _ (Classical.propDecidable _) h _ _ _
theorem cost_n {d : Dm} {S w : Nat} (h : ¬ bitI S w) : costD d S (w + 1) = costD d S w := @if_neg _ (Classical.propDecidable _) h _ _ _
theorem mendS_y {d : Dm} {S w : Nat} (h : bitI S w) : mendS d S (w + 1) = mendD (mendS d S w) w := @if_pos _ (Classical.propDecidable _) h _ _ _
theorem mendS_n {d : Dm} {S w : Nat} (h : ¬ bitI S w) : mendS d S (w + 1) = mendS d S w := @if_neg _ (Classical.propDecidable _) h _ _ _
theorem DOK.mend {d : Dm} (H : DOK d) {w : Nat} (hw : w < 8) : DOK (mendD d w) := by
  unfold mendD
  exact (H.set (by omega) (by omega) (fun q => by omega) (fun q => by omega) (fun w2 h2 => ⟨fun q => by omega, fun q => held_ix (by decide), fun q => by omega, fun q => by omega⟩) (fun t ht => ⟨fun q => by omega, fun q => by omega, fun q => by omega⟩)).set (by omega) (by omega) (fun q => by omega) (fun q => by omega) (fun w2 h2 => ⟨fun q => by omega, fun q => by omega, fun q => ⟨0, by omega, rfl⟩, fun q => by omega⟩) (fun t ht => ⟨fun q => by omega, fun q => by omega, fun q => by omega⟩)
theorem DOK.mendS {d : Dm} (H : DOK d) {S : Nat} : ∀ w, w ≤ 8 → DOK (mendS d S w)
  | 0, _ => H
  | w + 1, hw => by
    by_cases h : bitI S w
    · rw [mendS_y h]; exact (DOK.mendS H w (by omega)).mend (by omega)
    · rw [mendS_n h]; exact DOK.mendS H w (by omega)
/-- the best of the first sets -/
noncomputable def mdF (τ : Nat → List Int32) (d : Dm) (c : Int32) (n : Nat) : Nat → Int32 × Int32 × Int32
  | 0 => (nI 0, (-1), nI 0)
  | S + 1 => @ite _ (costD d S (nwD d) ≤ c ∧ ((mdF τ d c n S).2.1 < nightsD τ (mendS d S (nwD d)) n 0 ∨ (nightsD τ (mendS d S (nwD d)) n 0 = (mdF τ d c n S).2.1 ∧ costD d S (nwD d) < (mdF τ d c n S).2.2))) (Classical.propDecidable _) (nI S, nightsD τ (mendS d S (nwD d)) n 0, costD d S (nwD d)) (mdF τ d c n S)
theorem md_y {τ : Nat → List Int32} {d : Dm} {c : Int32} {n S : Nat} {p : Int32 × Int32 × Int32} (e : mdF τ d c n S = p) (h : costD d S (nwD d) ≤ c ∧ (p.2.1 < nightsD τ (mendS d S (nwD d)) n 0 ∨ (nightsD τ (mendS d S (nwD d)) n 0 = p.2.1 ∧ costD d S (nwD d) < p.2.2))) : mdF τ d c n (S + 1) = (nI S, nightsD τ (mendS d S (nwD d)) n 0, costD d S (nwD d)) := by subst e; exact @if_pos _ (Classical.propDecidable _) h _ _ _
theorem md_n {τ : Nat → List Int32} {d : Dm} {c : Int32} {n S : Nat} {p : Int32 × Int32 × Int32} (e : mdF τ d c n S = p) (h : ¬ (costD d S (nwD d) ≤ c ∧ (p.2.1 < nightsD τ (mendS d S (nwD d)) n 0 ∨ (nightsD τ (mendS d S (nwD d)) n 0 = p.2.1 ∧ costD d S (nwD d) < p.2.2)))) : mdF τ d c n (S + 1) = p := by subst e; exact @if_neg _ (Classical.propDecidable _) h _ _ _
theorem shl_pw {m : Nat} (hm : m ≤ 8) : nI 1 <<< (nI m &&& 31) = nI (2 ^ m) ∧ 2 ^ m ≤ 256 := by
  have : ∀ m, m < 9 → nI 1 <<< (nI m &&& 31) = nI (2 ^ m) ∧ 2 ^ m ≤ 256 := by decide
  exact this m (by omega)

noncomputable def Y_mends (s : Mm) (τ : Nat → List Int32) (c n k : Int32) : Rs := @ite _ (¬ (ix c 1000 ∧ ix n 61 ∧ ix k 2)) (Classical.propDecidable _) (er s 1) ( @ite _ (k = nI 0) (Classical.propDecidable _) ((mdF τ (s 119) c n.toNatClampNeg (2 ^ nwD (s 119))).1, s) ( ((mdF τ (s 119) c n.toNatClampNeg (2 ^ nwD (s 119))).2.1, s)))

abbrev P_X10_mends_ (h s : Mm) (τ τk : Nat → List Int32) (c n k : Int32) : Option Value → Mm → Prop := fun r h2 => r = some (.int (Y_mends s τ c n k).1) ∧ RR h2 (Y_mends s τ c n k).2
theorem c_X10_mends_ {l : Launch} (h s : Mm) (τ τk : Nat → List Int32) (c n k : Int32) (hR : RR h s) (hI : INV s τ τk) : Con l yX10_mends_ cX10_mends_ 10 (some .int) 44 1013 132 GL h [.ref 118, .int c, .int n, .int k] (P_X10_mends_ h s τ τk c n k) := by
  refine Con.ofV (own := "FoxRoundsModel") (nm := "mends") rfl rfl (by decide) (Nat.le_of_ble_eq_true rfl) ?_
  intro κ ρ hkl K
  subst hkl
  show V κ (QM κ (132, ρ, GL, 0, 0) (P_X10_mends_ h s τ τk c n k)) 10 (132, ρ, GL, 0, 0) h 0 [(0, .ref 118), (1, .int c), (2, .int n), (3, .int k)] []
  have hd := hI.d
  have hn8 := hd.nw8
  have ht5 := hd.nt5
  obtain ⟨pw, hpw⟩ : ∃ pw, pw = 2 ^ nwD (s 119) := ⟨_, rfl⟩
  have hp8 : pw ≤ 256 := by rw [hpw]; exact (shl_pw hn8).2
  refine v_iload_n K dX10_mends__0 rfl ?_
  refine v_i2l K dX10_mends__1 rfl ?_
  refine v_lconst (v := (nI 0).toInt64) K dX10_mends__2 (by decide) ?_
  refine v_ldc2 K kX10_241 dX10_mends__3 ?_
  refine v_topL (y := (nI 999).toInt64) (by decide) ?_
  refine v_callS (As := [.long c.toInt64, .long (nI 0).toInt64, .long (nI 999).toInt64]) K (c_X10_in h c (nI 0) (nI 999)) lX10_51 rfl ⟨by decide, by decide⟩ (Nat.le_of_ble_eq_true rfl) dX10_mends__6 (fun r1 h1 hp1 => ?_) rfl
  obtain ⟨rfl, rfl⟩ := hp1
  refine v_some ?_
  rw [show (nI 0 ≤ c ∧ c ≤ nI 999) = ix c 1000 from in_ix (by decide)]
  refine v_ifB_eq (tgt := 29) K dX10_mends__9 rfl (fun c1 => ?_) (fun c1 => ?_)
  · skip
    refine v_aload_n K dX10_mends__29 rfl ?_
    refine v_iconstN K 1 rfl dX10_mends__30 ?_
    refine v_callV (As := [.int (nI 1)]) K (c_X10_finds h 1 (by omega)) lX10_113 ck_X10 rfl sh_118 pl_118 rfl ⟨by decide, by decide⟩ (Nat.le_of_ble_eq_true rfl) dX10_mends__31 (fun r2 h2 hp2 => ?_) rfl
    obtain ⟨rfl, rfl⟩ := hp2
    refine v_some ?_
    have hRf1 : RR (u2 h 122 1 (h 122 1 + nI 1)) (u2 s 122 1 (s 122 1 + nI 1)) := by rw [show (h 122 1) = s 122 1 from hR.at RA_122]; exact hR.u RA_122
    refine v_iret K dX10_mends__34 ?_
    have eY : Y_mends s τ c n k = ((-1000000000) - nI 1, (u2 s 122 1 (s 122 1 + nI 1))) := by
      unfold Y_mends
      refine (@if_pos _ (Classical.propDecidable _) (fun q => by first | exact absurd q.1 (by assumption) | exact absurd q.2.1 (by assumption) | exact absurd q.2.2 (by assumption)) _ _ _).trans ?_
      first | rfl | (rfl)
    exact rfin eY hRf1
  · skip
    obtain ⟨j1, Hj1, rfl⟩ := c1
    refine v_iload_n K dX10_mends__12 rfl ?_
    refine v_callS (As := [.int n]) K (c_X10_isAhead h n) lX10_232 rfl ⟨by decide, by decide⟩ (Nat.le_of_ble_eq_true rfl) dX10_mends__13 (fun r3 h3 hp3 => ?_) rfl
    obtain ⟨rfl, rfl⟩ := hp3
    refine v_some ?_
    refine v_ifB_eq (tgt := 29) K dX10_mends__16 rfl (fun c2 => ?_) (fun c2 => ?_)
    · skip
      refine v_aload_n K dX10_mends__29 rfl ?_
      refine v_iconstN K 1 rfl dX10_mends__30 ?_
      refine v_callV (As := [.int (nI 1)]) K (c_X10_finds h 1 (by omega)) lX10_113 ck_X10 rfl sh_118 pl_118 rfl ⟨by decide, by decide⟩ (Nat.le_of_ble_eq_true rfl) dX10_mends__31 (fun r4 h4 hp4 => ?_) rfl
      obtain ⟨rfl, rfl⟩ := hp4
      refine v_some ?_
      have hRf2 : RR (u2 h 122 1 (h 122 1 + nI 1)) (u2 s 122 1 (s 122 1 + nI 1)) := by rw [show (h 122 1) = s 122 1 from hR.at RA_122]; exact hR.u RA_122
      refine v_iret K dX10_mends__34 ?_
      have eY : Y_mends s τ (nI j1) n k = ((-1000000000) - nI 1, (u2 s 122 1 (s 122 1 + nI 1))) := by
        unfold Y_mends
        refine (@if_pos _ (Classical.propDecidable _) (fun q => by first | exact absurd q.1 (by assumption) | exact absurd q.2.1 (by assumption) | exact absurd q.2.2 (by assumption)) _ _ _).trans ?_
        first | rfl | ((try rw [cl_ix (show j1 < 2 ^ 31 by omega)]))
      exact rfin eY hRf2
    · skip
      obtain ⟨j2, Hj2, rfl⟩ := c2
      refine v_iload_n K dX10_mends__19 rfl ?_
      refine v_i2l K dX10_mends__20 rfl ?_
      refine v_lconst (v := (nI 0).toInt64) K dX10_mends__21 (by decide) ?_
      refine v_lconst (v := (nI 1).toInt64) K dX10_mends__22 (by decide) ?_
      refine v_callS (As := [.long k.toInt64, .long (nI 0).toInt64, .long (nI 1).toInt64]) K (c_X10_in h k (nI 0) (nI 1)) lX10_51 rfl ⟨by decide, by decide⟩ (Nat.le_of_ble_eq_true rfl) dX10_mends__23 (fun r5 h5 hp5 => ?_) rfl
      obtain ⟨rfl, rfl⟩ := hp5
      refine v_some ?_
      rw [show (nI 0 ≤ k ∧ k ≤ nI 1) = ix k 2 from in_ix (by decide)]
      refine v_ifB_ne (tgt := 35) K dX10_mends__26 rfl (fun c3 => ?_) (fun c3 => ?_)
      · skip
        obtain ⟨j3, Hj3, rfl⟩ := c3
        refine v_iconstN K 0 rfl dX10_mends__35 ?_
        refine v_istore (lv2 := [(4, .int (nI 0)), (0, .ref 118), (1, .int (nI j1)), (2, .int (nI j2)), (3, .int (nI j3))]) K dX10_mends__36 (by decide) rfl ?_
        refine v_iconst (v := (-1)) K dX10_mends__38 (by decide) ?_
        refine v_istore (lv2 := [(5, .int ((-1))), (4, .int (nI 0)), (0, .ref 118), (1, .int (nI j1)), (2, .int (nI j2)), (3, .int (nI j3))]) K dX10_mends__39 (by decide) rfl ?_
        refine v_iconstN K 0 rfl dX10_mends__41 ?_
        refine v_istore (lv2 := [(6, .int (nI 0)), (5, .int ((-1))), (4, .int (nI 0)), (0, .ref 118), (1, .int (nI j1)), (2, .int (nI j2)), (3, .int (nI j3))]) K dX10_mends__42 (by decide) rfl ?_
        refine v_iconstN K 0 rfl dX10_mends__44 ?_
        refine v_istore (lv2 := [(7, .int (nI 0)), (6, .int (nI 0)), (5, .int ((-1))), (4, .int (nI 0)), (0, .ref 118), (1, .int (nI j1)), (2, .int (nI j2)), (3, .int (nI j3))]) K dX10_mends__45 (by decide) rfl ?_
        have L47 : ∀ (mm : Nat) (bst : Int32) (mst : Int32) (lst : Int32) (a : Nat) (g1 : Mm) (ha : a ≤ pw) (hZ : RR g1 s) (hl : mdF τ (s 119) (nI j1) j2 a = (bst, mst, lst)), pw + 1 - a < mm → V κ (QM κ (132, ρ, GL, 0, 0) (P_X10_mends_ h s τ τk (nI j1) (nI j2) (nI j3))) 10 (132, ρ, GL, 0, 0) g1 47 [(0, .ref 118), (1, .int (nI j1)), (2, .int (nI j2)), (3, .int (nI j3)), (4, .int bst), (5, .int mst), (6, .int lst), (7, .int (nI a))] [] := by
          intro mm
          induction mm with
          | zero => intro bst mst lst a g1 ha hZ hl hmm; exact absurd hmm (Nat.not_lt_zero _)
          | succ mm ih47 =>
            intro bst mst lst a g1 ha hZ hl hmm
            refine v_iload K dX10_mends__47 rfl ?_
            refine v_iconstN K 1 rfl dX10_mends__49 ?_
            refine v_aload_n K dX10_mends__50 rfl ?_
            refine v_getr (q := 119) K fX10_7 sh_118 pl_118 gl_118_0 dX10_mends__51 ?_
            refine v_bipushN K 10 rfl dX10_mends__54 ?_
            refine v_iald (x := nI (nwD (s 119))) K sh_119 pl_119 (by omega) ((hZ.at RA_119).trans hd.nw) dX10_mends__56 ?_
            refine v_ishl K dX10_mends__57 ?_
            refine v_top (y := nI pw) (by rw [hpw]; exact (shl_pw hn8).1) ?_
            refine v_icmpN_ge (tgt := 197) K (by omega) (by omega) dX10_mends__58 rfl (fun c4 => ?_) (fun c4 => ?_)
            · skip
              refine v_iload_n K dX10_mends__197 rfl ?_
              refine v_ifN_ne (tgt := 206) K (by omega) dX10_mends__198 rfl (fun c5 => ?_) (fun c5 => ?_)
              · skip
                refine v_iload K dX10_mends__206 rfl ?_
                refine v_iret K dX10_mends__208 ?_
                have eY : Y_mends s τ (nI j1) (nI j2) (nI j3) = (mst, s) := by
                  unfold Y_mends
                  refine (@if_neg _ (Classical.propDecidable _) (fun q => q (by refine ⟨?_, ?_, ?_⟩ <;> (first | assumption | exact ⟨_, by assumption, rfl⟩ | exact Or.inl rfl | exact Or.inr (Or.inl rfl) | exact Or.inr (Or.inr rfl) | omega))) _ _ _).trans ?_
                  refine (@if_neg _ (Classical.propDecidable _) (fun q => absurd (nI_inj (by omega) (by omega) q) (by omega)) _ _ _).trans ?_
                  rw [cl_ix (show j2 < 2 ^ 31 by omega), ← hpw, show pw = a by omega, hl]
                exact rfin eY hZ
              · skip
                refine v_iload K dX10_mends__201 rfl ?_
                refine v_goto (tgt := 208) K dX10_mends__203 rfl ?_
                refine v_iret K dX10_mends__208 ?_
                have eY : Y_mends s τ (nI j1) (nI j2) (nI j3) = (bst, s) := by
                  unfold Y_mends
                  refine (@if_neg _ (Classical.propDecidable _) (fun q => q (by refine ⟨?_, ?_, ?_⟩ <;> (first | assumption | exact ⟨_, by assumption, rfl⟩ | exact Or.inl rfl | exact Or.inr (Or.inl rfl) | exact Or.inr (Or.inr rfl) | omega))) _ _ _).trans ?_
                  refine (@if_pos _ (Classical.propDecidable _) (by first | exact c5 | (rw [show j3 = 0 by omega])) _ _ _).trans ?_
                  rw [cl_ix (show j2 < 2 ^ 31 by omega), ← hpw, show pw = a by omega, hl]
                exact rfin eY hZ
            · skip
              refine v_iconstN K 0 rfl dX10_mends__61 ?_
              refine v_istore (lv2 := [(8, .int (nI 0)), (0, .ref 118), (1, .int (nI j1)), (2, .int (nI j2)), (3, .int (nI j3)), (4, .int bst), (5, .int mst), (6, .int lst), (7, .int (nI a))]) K dX10_mends__62 (by decide) rfl ?_
              refine v_aload_n K dX10_mends__64 rfl ?_
              refine v_getr (q := 119) K fX10_7 sh_118 pl_118 gl_118_0 dX10_mends__65 ?_
              refine v_aload_n K dX10_mends__68 rfl ?_
              refine v_getr (q := 120) K fX10_13 sh_118 pl_118 gl_118_1 dX10_mends__69 ?_
              refine v_callS (As := [.ref 119, .ref 120]) K (c_X10_copies2 g1 119 120 mP_119 mP_120 (by decide)) lX10_228 rfl ⟨by decide, by decide⟩ (Nat.le_of_ble_eq_true rfl) dX10_mends__72 (fun r6 h6 hp6 => ?_) rfl
              obtain ⟨rfl, rfl⟩ := hp6
              refine v_none ?_
              have hRq1 : RR (rw2 g1 120 (g1 119)) s := hZ.rwn
              have hEq1 : (rw2 g1 120 (g1 119)) 120 = s 119 := rw2_at.trans ((hZ.1 119 RA_119))
              refine v_iconstN K 0 rfl dX10_mends__75 ?_
              refine v_istore (lv2 := [(9, .int (nI 0)), (8, .int (nI 0)), (0, .ref 118), (1, .int (nI j1)), (2, .int (nI j2)), (3, .int (nI j3)), (4, .int bst), (5, .int mst), (6, .int lst), (7, .int (nI a))]) K dX10_mends__76 (by decide) rfl ?_
              have L78 : ∀ (mm : Nat) (cst : Int32) (b : Nat) (g2 : Mm) (hb : b ≤ nwD (s 119)) (hZ2 : RR g2 s) (hE2 : g2 120 = mendS (s 119) a b) (hc : costD (s 119) a b = cst), nwD (s 119) + 1 - b < mm → V κ (QM κ (132, ρ, GL, 0, 0) (P_X10_mends_ h s τ τk (nI j1) (nI j2) (nI j3))) 10 (132, ρ, GL, 0, 0) g2 78 [(0, .ref 118), (1, .int (nI j1)), (2, .int (nI j2)), (3, .int (nI j3)), (4, .int bst), (5, .int mst), (6, .int lst), (7, .int (nI a)), (8, .int cst), (9, .int (nI b))] [] := by
                intro mm
                induction mm with
                | zero => intro cst b g2 hb hZ2 hE2 hc hmm; exact absurd hmm (Nat.not_lt_zero _)
                | succ mm ih78 =>
                  intro cst b g2 hb hZ2 hE2 hc hmm
                  refine v_iload K dX10_mends__78 rfl ?_
                  refine v_aload_n K dX10_mends__80 rfl ?_
                  refine v_getr (q := 119) K fX10_7 sh_118 pl_118 gl_118_0 dX10_mends__81 ?_
                  refine v_bipushN K 10 rfl dX10_mends__84 ?_
                  refine v_iald (x := nI (nwD (s 119))) K sh_119 pl_119 (by omega) ((hZ2.at RA_119).trans hd.nw) dX10_mends__86 ?_
                  refine v_icmpN_ge (tgt := 131) K (by omega) (by omega) dX10_mends__87 rfl (fun c6 => ?_) (fun c6 => ?_)
                  · skip
                    obtain rfl : b = nwD (s 119) := (by omega)
                    refine v_iload K dX10_mends__131 rfl ?_
                    refine v_iload_n K dX10_mends__133 rfl ?_
                    refine v_icmp_gt (tgt := 191) K dX10_mends__134 rfl (fun c7 => ?_) (fun c7 => ?_)
                    · skip
                      refine v_iincN (lv2 := [(7, .int (nI (a + 1))), (0, .ref 118), (1, .int (nI j1)), (2, .int (nI j2)), (3, .int (nI j3)), (4, .int bst), (5, .int mst), (6, .int lst), (8, .int cst), (9, .int (nI ((nwD (s 119)))))]) K 1 dX10_mends__191 rfl rfl (by decide) rfl ?_
                      refine v_goto (tgt := 47) K dX10_mends__194 rfl ?_
                      refine v_sub (lv2 := [(0, .ref 118), (1, .int (nI j1)), (2, .int (nI j2)), (3, .int (nI j3)), (4, .int bst), (5, .int mst), (6, .int lst), (7, .int (nI (a + 1)))]) (by simp) ?_
                      exact ih47 bst mst lst (a + 1) g2 (by first | assumption | omega | rfl) (by exact hZ2) (by exact md_n hl (fun q => absurd (hc ▸ q.1) (Int32.not_le.mpr c7))) (by omega)
                    · skip
                      refine v_aload_n K dX10_mends__137 rfl ?_
                      refine v_aload_n K dX10_mends__138 rfl ?_
                      refine v_getr (q := 120) K fX10_13 sh_118 pl_118 gl_118_1 dX10_mends__139 ?_
                      refine v_iload_n K dX10_mends__142 rfl ?_
                      refine v_callV (As := [.ref 120, .int (nI j2)]) K (c_X10_goesOn g2 τ 120 j2 mP_120 (by rw [hE2]; exact hd.mendS _ (by omega)) (by rw [hZ2.1 119 RA_119]; exact hI.x) (by omega)) lX10_222 ck_X10 rfl sh_118 pl_118 rfl ⟨by decide, by decide⟩ (Nat.le_of_ble_eq_true rfl) dX10_mends__143 (fun r7 h7 hp7 => ?_) rfl
                      obtain ⟨rfl, hDo, hTo, hGo⟩ := hp7
                      rw [hE2] at hDo
                      have hRo := hZ2.G (by unfold RA; omega) hGo
                      refine v_none ?_
                      refine v_aload_n K dX10_mends__146 rfl ?_
                      refine v_getr (q := 120) K fX10_13 sh_118 pl_118 gl_118_1 dX10_mends__147 ?_
                      refine v_iconstN K 0 rfl dX10_mends__150 ?_
                      refine v_iald (x := nightsD τ (mendS (s 119) a (nwD (s 119))) j2 0) K sh_120 pl_120 (by omega) (congrFun hDo _) dX10_mends__151 ?_
                      refine v_iload K dX10_mends__152 rfl ?_
                      refine v_icmp_gt (tgt := 175) K dX10_mends__154 rfl (fun c8 => ?_) (fun c8 => ?_)
                      · skip
                        refine v_iload K dX10_mends__175 rfl ?_
                        refine v_istore (lv2 := [(4, .int (nI a)), (0, .ref 118), (1, .int (nI j1)), (2, .int (nI j2)), (3, .int (nI j3)), (5, .int mst), (6, .int lst), (7, .int (nI a)), (8, .int cst), (9, .int (nI ((nwD (s 119)))))]) K dX10_mends__177 (by decide) rfl ?_
                        refine v_aload_n K dX10_mends__179 rfl ?_
                        refine v_getr (q := 120) K fX10_13 sh_118 pl_118 gl_118_1 dX10_mends__180 ?_
                        refine v_iconstN K 0 rfl dX10_mends__183 ?_
                        refine v_iald (x := nightsD τ (mendS (s 119) a (nwD (s 119))) j2 0) K sh_120 pl_120 (by omega) (congrFun hDo _) dX10_mends__184 ?_
                        refine v_istore (lv2 := [(5, .int (nightsD τ (mendS (s 119) a (nwD (s 119))) j2 0)), (4, .int (nI a)), (0, .ref 118), (1, .int (nI j1)), (2, .int (nI j2)), (3, .int (nI j3)), (6, .int lst), (7, .int (nI a)), (8, .int cst), (9, .int (nI ((nwD (s 119)))))]) K dX10_mends__185 (by decide) rfl ?_
                        refine v_iload K dX10_mends__187 rfl ?_
                        refine v_istore (lv2 := [(6, .int cst), (5, .int (nightsD τ (mendS (s 119) a (nwD (s 119))) j2 0)), (4, .int (nI a)), (0, .ref 118), (1, .int (nI j1)), (2, .int (nI j2)), (3, .int (nI j3)), (7, .int (nI a)), (8, .int cst), (9, .int (nI ((nwD (s 119)))))]) K dX10_mends__189 (by decide) rfl ?_
                        refine v_iincN (lv2 := [(7, .int (nI (a + 1))), (6, .int cst), (5, .int (nightsD τ (mendS (s 119) a (nwD (s 119))) j2 0)), (4, .int (nI a)), (0, .ref 118), (1, .int (nI j1)), (2, .int (nI j2)), (3, .int (nI j3)), (8, .int cst), (9, .int (nI ((nwD (s 119)))))]) K 1 dX10_mends__191 rfl rfl (by decide) rfl ?_
                        refine v_goto (tgt := 47) K dX10_mends__194 rfl ?_
                        refine v_sub (lv2 := [(0, .ref 118), (1, .int (nI j1)), (2, .int (nI j2)), (3, .int (nI j3)), (4, .int (nI a)), (5, .int (nightsD τ (mendS (s 119) a (nwD (s 119))) j2 0)), (6, .int cst), (7, .int (nI (a + 1)))]) (by simp) ?_
                        exact ih47 (nI a) (nightsD τ (mendS (s 119) a (nwD (s 119))) j2 0) cst (a + 1) h7 (by first | assumption | omega | rfl) (by exact hRo) (by rw [md_y hl ⟨(hc.symm ▸ Int32.not_lt.mp c7 : costD (s 119) a (nwD (s 119)) ≤ nI j1), Or.inl c8⟩, hc]) (by omega)
                      · skip
                        refine v_aload_n K dX10_mends__157 rfl ?_
                        refine v_getr (q := 120) K fX10_13 sh_118 pl_118 gl_118_1 dX10_mends__158 ?_
                        refine v_iconstN K 0 rfl dX10_mends__161 ?_
                        refine v_iald (x := nightsD τ (mendS (s 119) a (nwD (s 119))) j2 0) K sh_120 pl_120 (by omega) (congrFun hDo _) dX10_mends__162 ?_
                        refine v_iload K dX10_mends__163 rfl ?_
                        refine v_icmp_ne (tgt := 191) K dX10_mends__165 rfl (fun c9 => ?_) (fun c9 => ?_)
                        · skip
                          refine v_iincN (lv2 := [(7, .int (nI (a + 1))), (0, .ref 118), (1, .int (nI j1)), (2, .int (nI j2)), (3, .int (nI j3)), (4, .int bst), (5, .int mst), (6, .int lst), (8, .int cst), (9, .int (nI ((nwD (s 119)))))]) K 1 dX10_mends__191 rfl rfl (by decide) rfl ?_
                          refine v_goto (tgt := 47) K dX10_mends__194 rfl ?_
                          refine v_sub (lv2 := [(0, .ref 118), (1, .int (nI j1)), (2, .int (nI j2)), (3, .int (nI j3)), (4, .int bst), (5, .int mst), (6, .int lst), (7, .int (nI (a + 1)))]) (by simp) ?_
                          exact ih47 bst mst lst (a + 1) h7 (by first | assumption | omega | rfl) (by exact hRo) (by exact md_n hl (fun q => q.2.elim c8 (fun z => c9 z.1))) (by omega)
                        · skip
                          refine v_iload K dX10_mends__168 rfl ?_
                          refine v_iload K dX10_mends__170 rfl ?_
                          refine v_icmp_ge (tgt := 191) K dX10_mends__172 rfl (fun c10 => ?_) (fun c10 => ?_)
                          · skip
                            refine v_iincN (lv2 := [(7, .int (nI (a + 1))), (0, .ref 118), (1, .int (nI j1)), (2, .int (nI j2)), (3, .int (nI j3)), (4, .int bst), (5, .int mst), (6, .int lst), (8, .int cst), (9, .int (nI ((nwD (s 119)))))]) K 1 dX10_mends__191 rfl rfl (by decide) rfl ?_
                            refine v_goto (tgt := 47) K dX10_mends__194 rfl ?_
                            refine v_sub (lv2 := [(0, .ref 118), (1, .int (nI j1)), (2, .int (nI j2)), (3, .int (nI j3)), (4, .int bst), (5, .int mst), (6, .int lst), (7, .int (nI (a + 1)))]) (by simp) ?_
                            exact ih47 bst mst lst (a + 1) h7 (by first | assumption | omega | rfl) (by exact hRo) (by exact md_n hl (fun q => q.2.elim c8 (fun z => absurd (hc ▸ z.2) (Int32.not_lt.mpr c10)))) (by omega)
                          · skip
                            refine v_iload K dX10_mends__175 rfl ?_
                            refine v_istore (lv2 := [(4, .int (nI a)), (0, .ref 118), (1, .int (nI j1)), (2, .int (nI j2)), (3, .int (nI j3)), (5, .int mst), (6, .int lst), (7, .int (nI a)), (8, .int cst), (9, .int (nI ((nwD (s 119)))))]) K dX10_mends__177 (by decide) rfl ?_
                            refine v_aload_n K dX10_mends__179 rfl ?_
                            refine v_getr (q := 120) K fX10_13 sh_118 pl_118 gl_118_1 dX10_mends__180 ?_
                            refine v_iconstN K 0 rfl dX10_mends__183 ?_
                            refine v_iald (x := nightsD τ (mendS (s 119) a (nwD (s 119))) j2 0) K sh_120 pl_120 (by omega) (congrFun hDo _) dX10_mends__184 ?_
                            refine v_istore (lv2 := [(5, .int (nightsD τ (mendS (s 119) a (nwD (s 119))) j2 0)), (4, .int (nI a)), (0, .ref 118), (1, .int (nI j1)), (2, .int (nI j2)), (3, .int (nI j3)), (6, .int lst), (7, .int (nI a)), (8, .int cst), (9, .int (nI ((nwD (s 119)))))]) K dX10_mends__185 (by decide) rfl ?_
                            refine v_iload K dX10_mends__187 rfl ?_
                            refine v_istore (lv2 := [(6, .int cst), (5, .int (nightsD τ (mendS (s 119) a (nwD (s 119))) j2 0)), (4, .int (nI a)), (0, .ref 118), (1, .int (nI j1)), (2, .int (nI j2)), (3, .int (nI j3)), (7, .int (nI a)), (8, .int cst), (9, .int (nI ((nwD (s 119)))))]) K dX10_mends__189 (by decide) rfl ?_
                            refine v_iincN (lv2 := [(7, .int (nI (a + 1))), (6, .int cst), (5, .int (nightsD τ (mendS (s 119) a (nwD (s 119))) j2 0)), (4, .int (nI a)), (0, .ref 118), (1, .int (nI j1)), (2, .int (nI j2)), (3, .int (nI j3)), (8, .int cst), (9, .int (nI ((nwD (s 119)))))]) K 1 dX10_mends__191 rfl rfl (by decide) rfl ?_
                            refine v_goto (tgt := 47) K dX10_mends__194 rfl ?_
                            refine v_sub (lv2 := [(0, .ref 118), (1, .int (nI j1)), (2, .int (nI j2)), (3, .int (nI j3)), (4, .int (nI a)), (5, .int (nightsD τ (mendS (s 119) a (nwD (s 119))) j2 0)), (6, .int cst), (7, .int (nI (a + 1)))]) (by simp) ?_
                            exact ih47 (nI a) (nightsD τ (mendS (s 119) a (nwD (s 119))) j2 0) cst (a + 1) h7 (by first | assumption | omega | rfl) (by exact hRo) (by rw [md_y hl ⟨(hc.symm ▸ Int32.not_lt.mp c7 : costD (s 119) a (nwD (s 119)) ≤ nI j1), Or.inr ⟨c9, by rw [hc]; exact Int32.not_le.mp c10⟩⟩, hc]) (by omega)
                  · skip
                    refine v_iload K dX10_mends__90 rfl ?_
                    refine v_iload K dX10_mends__92 rfl ?_
                    refine v_ishr K dX10_mends__94 ?_
                    refine v_iconstN K 1 rfl dX10_mends__95 ?_
                    refine v_iand K dX10_mends__96 ?_
                    refine v_iconstN K 1 rfl dX10_mends__97 ?_
                    refine v_icmp_ne (tgt := 125) K dX10_mends__98 rfl (fun c11 => ?_) (fun c11 => ?_)
                    · skip
                      refine v_iincN (lv2 := [(9, .int (nI (b + 1))), (0, .ref 118), (1, .int (nI j1)), (2, .int (nI j2)), (3, .int (nI j3)), (4, .int bst), (5, .int mst), (6, .int lst), (7, .int (nI a)), (8, .int cst)]) K 1 dX10_mends__125 rfl rfl (by decide) rfl ?_
                      refine v_goto (tgt := 78) K dX10_mends__128 rfl ?_
                      refine v_sub (lv2 := [(0, .ref 118), (1, .int (nI j1)), (2, .int (nI j2)), (3, .int (nI j3)), (4, .int bst), (5, .int mst), (6, .int lst), (7, .int (nI a)), (8, .int cst), (9, .int (nI (b + 1)))]) (by simp) ?_
                      exact ih78 cst (b + 1) g2 (by first | assumption | omega | rfl) (by exact hZ2) (by rw [mendS_n c11]; exact hE2) (by rw [cost_n c11, hc]) (by omega)
                    · skip
                      refine v_iload K dX10_mends__101 rfl ?_
                      refine v_aload_n K dX10_mends__103 rfl ?_
                      refine v_getr (q := 119) K fX10_7 sh_118 pl_118 gl_118_0 dX10_mends__104 ?_
                      refine v_iload K dX10_mends__107 rfl ?_
                      refine v_iconstN K 3 rfl dX10_mends__109 ?_
                      refine v_callS (As := [.ref 119, .int (nI b), .int (nI 3)]) K (c_X10_of g2 119 b 3 mP_119 (by omega)) lX10_170 rfl ⟨by decide, by decide⟩ (Nat.le_of_ble_eq_true rfl) dX10_mends__110 (fun r8 h8 hp8 => ?_) rfl
                      obtain ⟨rfl, rfl⟩ := hp8
                      refine v_some ?_
                      rw [show g2 119 (46 + 6 * b + 3) = s 119 (46 + 6 * b + 3) from (hZ2.at RA_119)]
                      refine v_iadd K dX10_mends__113 ?_
                      refine v_istore (lv2 := [(8, .int (cst + (s 119 (46 + 6 * b + 3)))), (0, .ref 118), (1, .int (nI j1)), (2, .int (nI j2)), (3, .int (nI j3)), (4, .int bst), (5, .int mst), (6, .int lst), (7, .int (nI a)), (9, .int (nI b))]) K dX10_mends__114 (by decide) rfl ?_
                      refine v_aload_n K dX10_mends__116 rfl ?_
                      refine v_getr (q := 120) K fX10_13 sh_118 pl_118 gl_118_1 dX10_mends__117 ?_
                      refine v_iload K dX10_mends__120 rfl ?_
                      refine v_callS (As := [.ref 120, .int (nI b)]) K (c_X10_mends g2 120 b mP_120 (by omega)) lX10_189 rfl ⟨by decide, by decide⟩ (Nat.le_of_ble_eq_true rfl) dX10_mends__122 (fun r9 h9 hp9 => ?_) rfl
                      obtain ⟨rfl, rfl⟩ := hp9
                      refine v_none ?_
                      have hEm1 : (rw2 g2 120 (mendD (g2 120) b)) 120 = mendD (mendS (s 119) a b) b := by rw [rw2_at, hE2]
                      have hRm1 : RR (rw2 g2 120 (mendD (g2 120) b)) s := hZ2.rwn
                      refine v_iincN (lv2 := [(9, .int (nI (b + 1))), (8, .int (cst + (s 119 (46 + 6 * b + 3)))), (0, .ref 118), (1, .int (nI j1)), (2, .int (nI j2)), (3, .int (nI j3)), (4, .int bst), (5, .int mst), (6, .int lst), (7, .int (nI a))]) K 1 dX10_mends__125 rfl rfl (by decide) rfl ?_
                      refine v_goto (tgt := 78) K dX10_mends__128 rfl ?_
                      refine v_sub (lv2 := [(0, .ref 118), (1, .int (nI j1)), (2, .int (nI j2)), (3, .int (nI j3)), (4, .int bst), (5, .int mst), (6, .int lst), (7, .int (nI a)), (8, .int (cst + (s 119 (46 + 6 * b + 3)))), (9, .int (nI (b + 1)))]) (by simp) ?_
                      exact ih78 (cst + (s 119 (46 + 6 * b + 3))) (b + 1) ((rw2 g2 120 (mendD (g2 120) b))) (by first | assumption | omega | rfl) (by exact hRm1) (by rw [mendS_y c11]; exact hEm1) (by rw [cost_y c11, hc]) (by omega)
              refine v_sub (lv2 := [(0, .ref 118), (1, .int (nI j1)), (2, .int (nI j2)), (3, .int (nI j3)), (4, .int bst), (5, .int mst), (6, .int lst), (7, .int (nI a)), (8, .int (nI 0)), (9, .int (nI 0))]) (by simp) ?_
              exact L78 (nwD (s 119) + 1 - 0 + 1) (nI 0) 0 ((rw2 g1 120 (g1 119))) (by first | assumption | omega | rfl) (by exact hRq1) (by exact hEq1) (by rfl) (Nat.lt_succ_self _)
        refine v_sub (lv2 := [(0, .ref 118), (1, .int (nI j1)), (2, .int (nI j2)), (3, .int (nI j3)), (4, .int (nI 0)), (5, .int ((-1))), (6, .int (nI 0)), (7, .int (nI 0))]) (by simp) ?_
        exact L47 (pw + 1 - 0 + 1) (nI 0) ((-1)) (nI 0) 0 h (by first | assumption | omega | rfl) (by exact hR) (by rfl) (Nat.lt_succ_self _)
      · skip
        refine v_aload_n K dX10_mends__29 rfl ?_
        refine v_iconstN K 1 rfl dX10_mends__30 ?_
        refine v_callV (As := [.int (nI 1)]) K (c_X10_finds h 1 (by omega)) lX10_113 ck_X10 rfl sh_118 pl_118 rfl ⟨by decide, by decide⟩ (Nat.le_of_ble_eq_true rfl) dX10_mends__31 (fun r10 h10 hp10 => ?_) rfl
        obtain ⟨rfl, rfl⟩ := hp10
        refine v_some ?_
        have hRf3 : RR (u2 h 122 1 (h 122 1 + nI 1)) (u2 s 122 1 (s 122 1 + nI 1)) := by rw [show (h 122 1) = s 122 1 from hR.at RA_122]; exact hR.u RA_122
        refine v_iret K dX10_mends__34 ?_
        have eY : Y_mends s τ (nI j1) (nI j2) k = ((-1000000000) - nI 1, (u2 s 122 1 (s 122 1 + nI 1))) := by
          unfold Y_mends
          refine (@if_pos _ (Classical.propDecidable _) (fun q => by first | exact absurd q.1 (by assumption) | exact absurd q.2.1 (by assumption) | exact absurd q.2.2 (by assumption)) _ _ _).trans ?_
          first | rfl | ((try rw [cl_ix (show j1 < 2 ^ 31 by omega)]) ; (try rw [cl_ix (show j2 < 2 ^ 31 by omega)]))
        exact rfin eY hRf3
