/-! HANGS -/
def idleL (d : Dm) : Nat → List Nat
  | 0 => []
  | k + 1 => if d (94 + 3 * k + 2) = 0 then idleL d k ++ [k] else idleL d k
theorem idle_y {d : Dm} {k : Nat} (h : d (94 + 3 * k + 2) = 0) : idleL d (k + 1) = idleL d k ++ [k] := if_pos h
theorem idle_n {d : Dm} {k : Nat} (h : ¬ d (94 + 3 * k + 2) = 0) : idleL d (k + 1) = idleL d k := if_neg h
theorem idle_le {d : Dm} : ∀ k, (idleL d k).length ≤ k ∧ ∀ x ∈ idleL d k, x < k
  | 0 => ⟨Nat.le_refl _, fun x hx => absurd hx List.not_mem_nil⟩
  | k + 1 => by
    obtain ⟨h1, h2⟩ := idle_le (d := d) k
    by_cases c : d (94 + 3 * k + 2) = 0
    · rw [idle_y c]
      refine ⟨by rw [List.length_append]; simp; omega, fun x hx => ?_⟩
      rcases List.mem_append.mp hx with q | q
      · have := h2 x q; omega
      · have := List.mem_singleton.mp q; omega
    · rw [idle_n c]; exact ⟨by omega, fun x hx => by have := h2 x hx; omega⟩
def idlM (d : Dm) : Nat := (idleL d (ntD d)).length
/-- the i-th of the w-th order -/
def ordT (d : Dm) (w i : Nat) : Nat := (idleL d (ntD d)).getD (pmN (idlM d) w i) 0
theorem ordT_lt {d : Dm} (H : DOK d) {w i : Nat} (hm : idlM d ≤ 4) (hw : w < facN (idlM d)) (hi : i < idlM d) : ordT d w i < 5 := by
  have h1 : pmN (idlM d) w i < idlM d := (pm_ok hm hw hi).2.2.2
  have h2 := (idle_le (d := d) (ntD d)).2
  unfold ordT
  rw [List.getD_eq_getElem?_getD, List.getElem?_eq_getElem (show pmN (idlM d) w i < (idleL d (ntD d)).length from h1)]
  have h3 := h2 _ (List.getElem_mem (show pmN (idlM d) w i < (idleL d (ntD d)).length from h1))
  have := H.nt5
  show (idleL d (ntD d))[pmN (idlM d) w i] < 5
  omega
def hungD (d : Dm) (t : Nat) : Dm := upd d (94 + 3 * t + 2) (nI 1)
theorem DOK.hangD {d : Dm} (H : DOK d) {t : Nat} (ht : t < 5) : DOK (hungD d t) := by
  unfold hungD
  exact H.set (by omega) (by omega) (fun q => by omega) (fun q => by omega) (fun w2 h2 => ⟨fun q => by omega, fun q => by omega, fun q => by omega, fun q => by omega⟩) (fun t2 h2 => ⟨fun q => by omega, fun q => by omega, fun q => ⟨1, by omega, rfl⟩⟩)
/-- k nights on, one more being hung up each night -/
noncomputable def hgF (τ : Nat → List Int32) (d : Dm) (f : Nat → Nat) (m : Nat) : Nat → Dm
  | 0 => d
  | k + 1 => nightD τ (if k < m then hungD (hgF τ d f m k) (f k) else hgF τ d f m k)
theorem hg_y {τ : Nat → List Int32} {d : Dm} {f : Nat → Nat} {m k : Nat} (h : k < m) : hgF τ d f m (k + 1) = nightD τ (hungD (hgF τ d f m k) (f k)) := by rw [hgF, if_pos h]
theorem hg_n {τ : Nat → List Int32} {d : Dm} {f : Nat → Nat} {m k : Nat} (h : ¬ k < m) : hgF τ d f m (k + 1) = nightD τ (hgF τ d f m k) := by rw [hgF, if_neg h]
theorem DOK.hg {τ : Nat → List Int32} {d : Dm} (H : DOK d) {f : Nat → Nat} {m : Nat} (hf : ∀ i, i < m → f i < 5) : ∀ k, DOK (hgF τ d f m k)
  | 0 => H
  | k + 1 => by
    have ih := DOK.hg (τ := τ) H hf k
    by_cases c : k < m
    · rw [hg_y c]; exact (ih.hangD (hf k c)).night
    · rw [hg_n c]; exact ih.night
noncomputable def hgH (τ : Nat → List Int32) (d : Dm) (n w : Nat) : Int32 := hgF τ d (ordT d w) (idlM d) n 0
/-- the best of the first orders -/
noncomputable def hbF (τ : Nat → List Int32) (d : Dm) (n : Nat) : Nat → Nat × Int32
  | 0 => (0, (-1))
  | w + 1 => if (hbF τ d n w).2 < hgH τ d n w then (w, hgH τ d n w) else hbF τ d n w
theorem hb_y {τ : Nat → List Int32} {d : Dm} {n w : Nat} {p : Nat × Int32} (e : hbF τ d n w = p) (h : p.2 < hgH τ d n w) : hbF τ d n (w + 1) = (w, hgH τ d n w) := by subst e; exact if_pos h
theorem hb_n {τ : Nat → List Int32} {d : Dm} {n w : Nat} {p : Nat × Int32} (e : hbF τ d n w = p) (h : ¬ p.2 < hgH τ d n w) : hbF τ d n (w + 1) = p := by subst e; exact if_neg h
theorem hb_le {τ : Nat → List Int32} {d : Dm} {n : Nat} : ∀ w, 1 ≤ w → (hbF τ d n w).1 < w
  | w + 1, _ => by
    rw [hbF]
    split
    · exact Nat.lt_succ_self _
    · cases w with
      | zero => exact Nat.lt_succ_self _
      | succ v => have := hb_le (τ := τ) (d := d) (n := n) (v + 1) (by omega); omega
theorem ix_m1 {i : Int32} {n : Nat} (hn : n < 2 ^ 30) (h1 : (-1) ≤ i) (h2 : ¬ i = (-1)) (h3 : i < nI n) : ∃ j, j < n ∧ i = nI j := by
  rw [i32_le, show (-1 : Int32).toInt = -1 from rfl] at h1
  rw [i32_eq, show (-1 : Int32).toInt = -1 from rfl] at h2
  rw [i32_lt, nI_toInt (by omega)] at h3
  refine ⟨i.toInt.toNat, by omega, i32_eq.mpr ?_⟩
  rw [nI_toInt (by omega)]; omega
theorem nights_1 {τ : Nat → List Int32} {d : Dm} : nightsD τ d 1 = nightD τ d := rfl
theorem nights_0 {τ : Nat → List Int32} {d : Dm} : nightsD τ d 0 = d := rfl
theorem idleL_get {d : Dm} {k j : Nat} (h : j < (idleL d k).length) : (idleL d k ++ [k]).getD j 0 = (idleL d k).getD j 0 := by
  rw [List.getD_eq_getElem?_getD, List.getD_eq_getElem?_getD, List.getElem?_append_left h]
theorem idleL_last {d : Dm} {k : Nat} : (idleL d k ++ [k]).getD (idleL d k).length 0 = k := by
  rw [List.getD_eq_getElem?_getD, List.getElem?_append_right (Nat.le_refl _), Nat.sub_self]; rfl

noncomputable def Y_hangs (s : Mm) (τ : Nat → List Int32) (n i : Int32) : Rs := @ite _ (¬ (ix n 61 ∧ (-1) ≤ i)) (Classical.propDecidable _) (er s 1) ( @ite _ (4 < idlM (s 119)) (Classical.propDecidable _) (er s 3) ( @ite _ (nI (idlM (s 119)) ≤ i) (Classical.propDecidable _) (er s 2) ( @ite _ (i = (-1)) (Classical.propDecidable _) ((hbF τ (s 119) n.toNatClampNeg (facN (idlM (s 119)))).2, s) ( (nI (ordT (s 119) (hbF τ (s 119) n.toNatClampNeg (facN (idlM (s 119)))).1 i.toNatClampNeg), s)))))

abbrev P_X10_hangs (h s : Mm) (τ τk : Nat → List Int32) (n i : Int32) : Option Value → Mm → Prop := fun r h2 => r = some (.int (Y_hangs s τ n i).1) ∧ RR h2 (Y_hangs s τ n i).2
theorem c_X10_hangs {l : Launch} (h s : Mm) (τ τk : Nat → List Int32) (n i : Int32) (hR : RR h s) (hI : INV s τ τk) : Con l yX10_hangs cX10_hangs 9 (some .int) 44 1013 132 GL h [.ref 118, .int n, .int i] (P_X10_hangs h s τ τk n i) := by
  refine Con.ofV (own := "FoxRoundsModel") (nm := "hangs") rfl rfl (by decide) (Nat.le_of_ble_eq_true rfl) ?_
  intro κ ρ hkl K
  subst hkl
  show V κ (QM κ (132, ρ, GL, 0, 0) (P_X10_hangs h s τ τk n i)) 9 (132, ρ, GL, 0, 0) h 0 [(0, .ref 118), (1, .int n), (2, .int i)] []
  have hd := hI.d
  have hn8 := hd.nw8
  have ht5 := hd.nt5
  refine v_iload_n K dX10_hangs_0 rfl ?_
  refine v_callS (As := [.int n]) K (c_X10_isAhead h n) lX10_232 rfl ⟨by decide, by decide⟩ (Nat.le_of_ble_eq_true rfl) dX10_hangs_1 (fun r1 h1 hp1 => ?_) rfl
  obtain ⟨rfl, rfl⟩ := hp1
  refine v_some ?_
  refine v_ifB_eq (tgt := 12) K dX10_hangs_4 rfl (fun c1 => ?_) (fun c1 => ?_)
  · skip
    refine v_aload_n K dX10_hangs_12 rfl ?_
    refine v_iconstN K 1 rfl dX10_hangs_13 ?_
    refine v_callV (As := [.int (nI 1)]) K (c_X10_finds h 1 (by omega)) lX10_113 ck_X10 rfl sh_118 pl_118 rfl ⟨by decide, by decide⟩ (Nat.le_of_ble_eq_true rfl) dX10_hangs_14 (fun r2 h2 hp2 => ?_) rfl
    obtain ⟨rfl, rfl⟩ := hp2
    refine v_some ?_
    have hRf1 : RR (u2 h 122 1 (h 122 1 + nI 1)) (u2 s 122 1 (s 122 1 + nI 1)) := by rw [show (h 122 1) = s 122 1 from hR.at RA_122]; exact hR.u RA_122
    refine v_iret K dX10_hangs_17 ?_
    have eY : Y_hangs s τ n i = ((-1000000000) - nI 1, (u2 s 122 1 (s 122 1 + nI 1))) := by
      unfold Y_hangs
      refine (@if_pos _ (Classical.propDecidable _) (fun q => absurd q.1 (by assumption)) _ _ _).trans ?_
      first | rfl | (rfl)
    exact rfin eY hRf1
  · skip
    obtain ⟨j1, Hj1, rfl⟩ := c1
    refine v_iload_n K dX10_hangs_7 rfl ?_
    refine v_iconst (v := (-1)) K dX10_hangs_8 (by decide) ?_
    refine v_icmp_ge (tgt := 18) K dX10_hangs_9 rfl (fun c2 => ?_) (fun c2 => ?_)
    · skip
      have hlo : (-1) ≤ i := c2
      refine v_iconstN K 0 rfl dX10_hangs_18 ?_
      refine v_istore_n (lv2 := [(3, .int (nI 0)), (0, .ref 118), (1, .int (nI j1)), (2, .int i)]) K dX10_hangs_19 (by decide) rfl ?_
      refine v_iconstN K 0 rfl dX10_hangs_20 ?_
      refine v_istore (lv2 := [(4, .int (nI 0)), (3, .int (nI 0)), (0, .ref 118), (1, .int (nI j1)), (2, .int i)]) K dX10_hangs_21 (by decide) rfl ?_
      have L23 : ∀ (mm : Nat) (mn : Nat) (k : Nat) (g1 : Mm) (hk : k ≤ ntD (s 119)) (hmn : mn = (idleL (s 119) k).length) (hl : ∀ j, j < mn → g1 125 j = nI ((idleL (s 119) k).getD j 0)) (hZ : RR g1 s), ntD (s 119) + 1 - k < mm → V κ (QM κ (132, ρ, GL, 0, 0) (P_X10_hangs h s τ τk (nI j1) i)) 9 (132, ρ, GL, 0, 0) g1 23 [(0, .ref 118), (1, .int (nI j1)), (2, .int i), (3, .int (nI mn)), (4, .int (nI k))] [] := by
        intro mm
        induction mm with
        | zero => intro mn k g1 hk hmn hl hZ hmm; exact absurd hmm (Nat.not_lt_zero _)
        | succ mm ih23 =>
          intro mn k g1 hk hmn hl hZ hmm
          have hlk := (idle_le (d := s 119) k).1
          refine v_iload K dX10_hangs_23 rfl ?_
          refine v_aload_n K dX10_hangs_25 rfl ?_
          refine v_getr (q := 119) K fX10_7 sh_118 pl_118 gl_118_0 dX10_hangs_26 ?_
          refine v_bipushN K 11 rfl dX10_hangs_29 ?_
          refine v_iald (x := nI (ntD (s 119))) K sh_119 pl_119 (by omega) ((hZ.at RA_119).trans hd.nt) dX10_hangs_31 ?_
          refine v_icmpN_ge (tgt := 69) K (by omega) (by omega) dX10_hangs_32 rfl (fun c3 => ?_) (fun c3 => ?_)
          · skip
            obtain rfl : k = ntD (s 119) := by omega
            have hml : (idleL (s 119) (ntD (s 119))).length = idlM (s 119) := rfl
            obtain ⟨m, hm⟩ : ∃ m, m = idlM (s 119) := ⟨_, rfl⟩
            have hlm5 := (idle_le (d := s 119) (ntD (s 119))).1
            rw [hml, ← hm] at hmn hlm5
            obtain rfl : m = mn := by omega
            refine v_iload_n K dX10_hangs_69 rfl ?_
            refine v_iconstN K 4 rfl dX10_hangs_70 ?_
            refine v_icmpN_le (tgt := 80) K (by omega) (by omega) dX10_hangs_71 rfl (fun c4 => ?_) (fun c4 => ?_)
            · skip
              refine v_iload_n K dX10_hangs_80 rfl ?_
              refine v_iload_n K dX10_hangs_81 rfl ?_
              refine v_icmp_lt (tgt := 91) K dX10_hangs_82 rfl (fun c5 => ?_) (fun c5 => ?_)
              · skip
                have hhi : i < nI m := c5
                refine v_iconstN K 1 rfl dX10_hangs_91 ?_
                refine v_istore (lv2 := [(4, .int (nI 1)), (0, .ref 118), (1, .int (nI j1)), (2, .int i), (3, .int (nI m))]) K dX10_hangs_92 (by decide) rfl ?_
                refine v_iconstN K 2 rfl dX10_hangs_94 ?_
                refine v_istore (lv2 := [(5, .int (nI 2)), (4, .int (nI 1)), (0, .ref 118), (1, .int (nI j1)), (2, .int i), (3, .int (nI m))]) K dX10_hangs_95 (by decide) rfl ?_
                have L97 : ∀ (mm : Nat) (rw0 : Nat) (k : Nat) (hk : 2 ≤ k) (hk2 : k = 2 ∨ k ≤ m + 1) (hb : rw0 = facN (k - 1)), m + 3 - k < mm → V κ (QM κ (132, ρ, GL, 0, 0) (P_X10_hangs h s τ τk (nI j1) i)) 9 (132, ρ, GL, 0, 0) g1 97 [(0, .ref 118), (1, .int (nI j1)), (2, .int i), (3, .int (nI m)), (4, .int (nI rw0)), (5, .int (nI k))] [] := by
                  intro mm
                  induction mm with
                  | zero => intro rw0 k hk hk2 hb hmm; exact absurd hmm (Nat.not_lt_zero _)
                  | succ mm ih97 =>
                    intro rw0 k hk hk2 hb hmm
                    refine v_iload K dX10_hangs_97 rfl ?_
                    refine v_iload_n K dX10_hangs_99 rfl ?_
                    refine v_icmpN_gt (tgt := 116) K (by omega) (by omega) dX10_hangs_100 rfl (fun c6 => ?_) (fun c6 => ?_)
                    · skip
                      obtain rfl : rw0 = facN m := (by rw [hb]; rcases hk2 with q | q; (subst q; exact fac_1 (by omega)); (congr 1; omega))
                      have hfp := fac_pos (k := m)
                      refine v_iconstN K 0 rfl dX10_hangs_116 ?_
                      refine v_istore (lv2 := [(5, .int (nI 0)), (0, .ref 118), (1, .int (nI j1)), (2, .int i), (3, .int (nI m)), (4, .int (nI ((facN m))))]) K dX10_hangs_117 (by decide) rfl ?_
                      refine v_iconst (v := (-1)) K dX10_hangs_119 (by decide) ?_
                      refine v_istore (lv2 := [(6, .int ((-1))), (5, .int (nI 0)), (0, .ref 118), (1, .int (nI j1)), (2, .int i), (3, .int (nI m)), (4, .int (nI ((facN m))))]) K dX10_hangs_120 (by decide) rfl ?_
                      refine v_iconstN K 0 rfl dX10_hangs_122 ?_
                      refine v_istore (lv2 := [(7, .int (nI 0)), (6, .int ((-1))), (5, .int (nI 0)), (0, .ref 118), (1, .int (nI j1)), (2, .int i), (3, .int (nI m)), (4, .int (nI ((facN m))))]) K dX10_hangs_123 (by decide) rfl ?_
                      have L125 : ∀ (mm : Nat) (best : Nat) (most : Int32) (w : Nat) (g2 : Mm) (hw : w ≤ facN m) (hbt : hbF τ (s 119) j1 w = (best, most)) (hZ : RR g2 s) (hl2 : ∀ j, j < m → g2 125 j = nI ((idleL (s 119) (ntD (s 119))).getD j 0)), facN m + 1 - w < mm → V κ (QM κ (132, ρ, GL, 0, 0) (P_X10_hangs h s τ τk (nI j1) i)) 9 (132, ρ, GL, 0, 0) g2 125 [(0, .ref 118), (1, .int (nI j1)), (2, .int i), (3, .int (nI m)), (4, .int (nI ((facN m)))), (5, .int (nI best)), (6, .int most), (7, .int (nI w))] [] := by
                        intro mm
                        induction mm with
                        | zero => intro best most w g2 hw hbt hZ hl2 hmm; exact absurd hmm (Nat.not_lt_zero _)
                        | succ mm ih125 =>
                          intro best most w g2 hw hbt hZ hl2 hmm
                          refine v_iload K dX10_hangs_125 rfl ?_
                          refine v_iload K dX10_hangs_127 rfl ?_
                          refine v_icmpN_ge (tgt := 265) K (by omega) (by omega) dX10_hangs_129 rfl (fun c7 => ?_) (fun c7 => ?_)
                          · skip
                            have hbl : best < facN m := by have hx := hb_le (τ := τ) (d := s 119) (n := j1) w (by omega); rw [hbt] at hx; have hx : best < w := hx; omega
                            refine v_aload_n K dX10_hangs_265 rfl ?_
                            refine v_iload K dX10_hangs_266 rfl ?_
                            refine v_iload_n K dX10_hangs_268 rfl ?_
                            refine v_callV (As := [.int (nI best), .int (nI m)]) K (c_X10_orders g2 best m (by omega) (by omega)) lX10_243 ck_X10 rfl sh_118 pl_118 rfl ⟨by decide, by decide⟩ (Nat.le_of_ble_eq_true rfl) dX10_hangs_269 (fun r3 h3 hp3 => ?_) rfl
                            obtain ⟨rfl, hoo1, hfo1⟩ := hp3
                            have hRo1 : RR h3 s := hZ.fr (fun a ha => hfo1 a (by unfold RA at ha; omega)) (by rw [hfo1 118 (by omega)]) (by rw [hfo1 118 (by omega)])
                            have hoo1 : ∀ j, j < m → h3 126 j = nI (ordT (s 119) best j) := fun j hj => by rw [hoo1 j hj, hl2 _ (by have := (pm_ok (m := m) (r := best) (i := j) (by omega) (by omega) hj).2.2.2; omega)]; unfold ordT; rw [← hm]
                            have hlo1 : ∀ j, j < m → h3 125 j = nI ((idleL (s 119) (ntD (s 119))).getD j 0) := fun j hj => by rw [hfo1 125 (by omega)]; exact hl2 j hj
                            have hTo1 : ∀ j, j < m → ordT (s 119) best j < 5 := fun j hj => ordT_lt hd (by omega) (by rw [← hm]; exact (by omega)) (by omega)
                            refine v_none ?_
                            refine v_iload_n K dX10_hangs_272 rfl ?_
                            refine v_iconst (v := (-1)) K dX10_hangs_273 (by decide) ?_
                            refine v_icmp_ne (tgt := 282) K dX10_hangs_274 rfl (fun c8 => ?_) (fun c8 => ?_)
                            · skip
                              obtain ⟨ji, hji, rfl⟩ := ix_m1 (n := m) (by omega) hlo c8 hhi
                              refine v_aload_n K dX10_hangs_282 rfl ?_
                              refine v_getr (q := 126) K fX10_32 sh_118 pl_118 gl_118_14 dX10_hangs_283 ?_
                              refine v_iload_n K dX10_hangs_286 rfl ?_
                              refine v_iald (x := nI (ordT (s 119) best ji)) K sh_126 pl_126 (by omega) (hoo1 ji (by omega)) dX10_hangs_287 ?_
                              refine v_iret K dX10_hangs_288 ?_
                              have eY : Y_hangs s τ (nI j1) (nI ji) = (nI (ordT (s 119) best ji), s) := by
                                unfold Y_hangs
                                refine (@if_neg _ (Classical.propDecidable _) (fun q => q ⟨⟨j1, by assumption, rfl⟩, hlo⟩) _ _ _).trans ?_
                                refine (@if_neg _ (Classical.propDecidable _) (by omega) _ _ _).trans ?_
                                refine (@if_neg _ (Classical.propDecidable _) (by rw [← hm]; exact Int32.not_le.mpr hhi) _ _ _).trans ?_
                                refine (@if_neg _ (Classical.propDecidable _) (fun q => absurd q (by assumption)) _ _ _).trans ?_
                                rw [cl_ix (show j1 < 2 ^ 31 by omega), ← hm, ← show w = facN m by omega, hbt]; rw [cl_ix (show ji < 2 ^ 31 by omega)]
                              exact rfin eY hRo1
                            · skip
                              refine v_iload K dX10_hangs_277 rfl ?_
                              refine v_goto (tgt := 288) K dX10_hangs_279 rfl ?_
                              refine v_iret K dX10_hangs_288 ?_
                              have eY : Y_hangs s τ (nI j1) i = (most, s) := by
                                unfold Y_hangs
                                refine (@if_neg _ (Classical.propDecidable _) (fun q => q ⟨⟨j1, by assumption, rfl⟩, hlo⟩) _ _ _).trans ?_
                                refine (@if_neg _ (Classical.propDecidable _) (by omega) _ _ _).trans ?_
                                refine (@if_neg _ (Classical.propDecidable _) (by rw [← hm]; exact Int32.not_le.mpr hhi) _ _ _).trans ?_
                                refine (@if_pos _ (Classical.propDecidable _) (by first | assumption | exact ⟨_, by assumption, rfl⟩ | exact Or.inl rfl | exact Or.inr (Or.inl rfl) | exact Or.inr (Or.inr rfl) | omega) _ _ _).trans ?_
                                rw [cl_ix (show j1 < 2 ^ 31 by omega), ← hm, ← show w = facN m by omega, hbt]; try rfl
                              exact rfin eY hRo1
                          · skip
                            refine v_aload_n K dX10_hangs_132 rfl ?_
                            refine v_iload K dX10_hangs_133 rfl ?_
                            refine v_iload_n K dX10_hangs_135 rfl ?_
                            refine v_callV (As := [.int (nI w), .int (nI m)]) K (c_X10_orders g2 w m (by omega) (by omega)) lX10_243 ck_X10 rfl sh_118 pl_118 rfl ⟨by decide, by decide⟩ (Nat.le_of_ble_eq_true rfl) dX10_hangs_136 (fun r4 h4 hp4 => ?_) rfl
                            obtain ⟨rfl, hoo2, hfo2⟩ := hp4
                            have hRo2 : RR h4 s := hZ.fr (fun a ha => hfo2 a (by unfold RA at ha; omega)) (by rw [hfo2 118 (by omega)]) (by rw [hfo2 118 (by omega)])
                            have hoo2 : ∀ j, j < m → h4 126 j = nI (ordT (s 119) w j) := fun j hj => by rw [hoo2 j hj, hl2 _ (by have := (pm_ok (m := m) (r := w) (i := j) (by omega) (by omega) hj).2.2.2; omega)]; unfold ordT; rw [← hm]
                            have hlo2 : ∀ j, j < m → h4 125 j = nI ((idleL (s 119) (ntD (s 119))).getD j 0) := fun j hj => by rw [hfo2 125 (by omega)]; exact hl2 j hj
                            have hTo2 : ∀ j, j < m → ordT (s 119) w j < 5 := fun j hj => ordT_lt hd (by omega) (by rw [← hm]; exact (by omega)) (by omega)
                            refine v_none ?_
                            refine v_aload_n K dX10_hangs_139 rfl ?_
                            refine v_getr (q := 119) K fX10_7 sh_118 pl_118 gl_118_0 dX10_hangs_140 ?_
                            refine v_aload_n K dX10_hangs_143 rfl ?_
                            refine v_getr (q := 120) K fX10_13 sh_118 pl_118 gl_118_1 dX10_hangs_144 ?_
                            refine v_callS (As := [.ref 119, .ref 120]) K (c_X10_copies2 h4 119 120 mP_119 mP_120 (by decide)) lX10_228 rfl ⟨by decide, by decide⟩ (Nat.le_of_ble_eq_true rfl) dX10_hangs_147 (fun r5 h5 hp5 => ?_) rfl
                            obtain ⟨rfl, rfl⟩ := hp5
                            refine v_none ?_
                            have hRq1 : RR (rw2 h4 120 (h4 119)) s := hRo2.rwn
                            have hEq1 : (rw2 h4 120 (h4 119)) 120 = s 119 := rw2_at.trans ((hRo2.1 119 RA_119))
                            have hou1 : ∀ j, j < m → (rw2 h4 120 (h4 119)) 126 j = nI (ordT (s 119) w j) := fun j hj => by rw [rw2_off (by omega)]; exact hoo2 j hj
                            have hlu1 : ∀ j, j < m → (rw2 h4 120 (h4 119)) 125 j = nI ((idleL (s 119) (ntD (s 119))).getD j 0) := fun j hj => by rw [rw2_off (by omega)]; exact hlo2 j hj
                            refine v_iconstN K 0 rfl dX10_hangs_150 ?_
                            refine v_istore (lv2 := [(8, .int (nI 0)), (0, .ref 118), (1, .int (nI j1)), (2, .int i), (3, .int (nI m)), (4, .int (nI ((facN m)))), (5, .int (nI best)), (6, .int most), (7, .int (nI w))]) K dX10_hangs_151 (by decide) rfl ?_
                            have L153 : ∀ (mm : Nat) (k : Nat) (g3 : Mm) (hZ3 : RR g3 s) (ho3 : ∀ j, j < m → g3 126 j = nI (ordT (s 119) w j)) (hl3 : ∀ j, j < m → g3 125 j = nI ((idleL (s 119) (ntD (s 119))).getD j 0)) (hE : (k ≤ j1 ∧ g3 120 = hgF τ (s 119) (ordT (s 119) w) m k) ∨ (j1 = 0 ∧ k = 1 ∧ g3 120 0 = s 119 0)), j1 + 2 - k < mm → V κ (QM κ (132, ρ, GL, 0, 0) (P_X10_hangs h s τ τk (nI j1) i)) 9 (132, ρ, GL, 0, 0) g3 153 [(0, .ref 118), (1, .int (nI j1)), (2, .int i), (3, .int (nI m)), (4, .int (nI ((facN m)))), (5, .int (nI best)), (6, .int most), (7, .int (nI w)), (8, .int (nI k))] [] := by
                              intro mm
                              induction mm with
                              | zero => intro k g3 hZ3 ho3 hl3 hE hmm; exact absurd hmm (Nat.not_lt_zero _)
                              | succ mm ih153 =>
                                intro k g3 hZ3 ho3 hl3 hE hmm
                                have hTw : ∀ j, j < m → ordT (s 119) w j < 5 := fun j hj => ordT_lt hd (by omega) (by rw [← hm]; omega) (by omega)
                                rcases hE with ⟨hk3, hE3⟩ | ⟨hn0, hk1, hE0⟩
                                · skip
                                  skip
                                  refine v_iload K dX10_hangs_153 rfl ?_
                                  refine v_iload_n K dX10_hangs_155 rfl ?_
                                  refine v_icmpN_lt (tgt := 164) K (by omega) (by omega) dX10_hangs_156 rfl (fun c9 => ?_) (fun c9 => ?_)
                                  · skip
                                    refine v_iload K dX10_hangs_164 rfl ?_
                                    refine v_iload_n K dX10_hangs_166 rfl ?_
                                    refine v_icmpN_ge (tgt := 190) K (by omega) (by omega) dX10_hangs_167 rfl (fun c10 => ?_) (fun c10 => ?_)
                                    · skip
                                      refine v_aload_n K dX10_hangs_190 rfl ?_
                                      refine v_aload_n K dX10_hangs_191 rfl ?_
                                      refine v_getr (q := 120) K fX10_13 sh_118 pl_118 gl_118_1 dX10_hangs_192 ?_
                                      refine v_iload K dX10_hangs_195 rfl ?_
                                      refine v_iload_n K dX10_hangs_197 rfl ?_
                                      refine v_icmpN_ge (tgt := 205) K (by omega) (by omega) dX10_hangs_198 rfl (fun c11 => ?_) (fun c11 => ?_)
                                      · skip
                                        exfalso; omega
                                      · skip
                                        refine v_iconstN K 1 rfl dX10_hangs_201 ?_
                                        refine v_goto (tgt := 206) K dX10_hangs_202 rfl ?_
                                        refine v_callV (As := [.ref 120, .int (nI 1)]) K (c_X10_goesOn g3 τ 120 1 mP_120 (by rw [hE3]; exact (DOK.hg hd hTw k)) (by rw [hZ3.1 119 RA_119]; exact hI.x) (by omega)) lX10_222 ck_X10 rfl sh_118 pl_118 rfl ⟨by decide, by decide⟩ (Nat.le_of_ble_eq_true rfl) dX10_hangs_206 (fun r6 h6 hp6 => ?_) rfl
                                        obtain ⟨rfl, hDn1, hTn1, hGn1⟩ := hp6
                                        rw [hE3, nights_1] at hDn1
                                        have hRn1 := hZ3.G (by unfold RA; omega) hGn1
                                        have hon1 : ∀ j, j < m → h6 126 j = nI (ordT (s 119) w j) := fun j hj => by rw [hGn1.1 126 (by omega) (by omega) (by omega) (by omega)]; exact ho3 j hj
                                        have hln1 : ∀ j, j < m → h6 125 j = nI ((idleL (s 119) (ntD (s 119))).getD j 0) := fun j hj => by rw [hGn1.1 125 (by omega) (by omega) (by omega) (by omega)]; exact hl3 j hj
                                        refine v_none ?_
                                        refine v_iincN (lv2 := [(8, .int (nI (k + 1))), (0, .ref 118), (1, .int (nI j1)), (2, .int i), (3, .int (nI m)), (4, .int (nI ((facN m)))), (5, .int (nI best)), (6, .int most), (7, .int (nI w))]) K 1 dX10_hangs_209 rfl rfl (by decide) rfl ?_
                                        refine v_goto (tgt := 153) K dX10_hangs_212 rfl ?_
                                        refine v_sub (lv2 := [(0, .ref 118), (1, .int (nI j1)), (2, .int i), (3, .int (nI m)), (4, .int (nI ((facN m)))), (5, .int (nI best)), (6, .int most), (7, .int (nI w)), (8, .int (nI (k + 1)))]) (by simp) ?_
                                        exact ih153 (k + 1) h6 (by exact hRn1) (by exact hon1) (by exact hln1) (by exact Or.inl ⟨by omega, by rw [hDn1]; exact (hg_n (by omega)).symm⟩) (by omega)
                                    · skip
                                      refine v_aload_n K dX10_hangs_170 rfl ?_
                                      refine v_getr (q := 120) K fX10_13 sh_118 pl_118 gl_118_1 dX10_hangs_171 ?_
                                      refine v_bipushN K 94 rfl dX10_hangs_174 ?_
                                      refine v_iconstN K 3 rfl dX10_hangs_176 ?_
                                      refine v_aload_n K dX10_hangs_177 rfl ?_
                                      refine v_getr (q := 126) K fX10_32 sh_118 pl_118 gl_118_14 dX10_hangs_178 ?_
                                      refine v_iload K dX10_hangs_181 rfl ?_
                                      refine v_iald (x := nI (ordT (s 119) w k)) K sh_126 pl_126 (by omega) (ho3 k (by omega)) dX10_hangs_183 ?_
                                      refine v_imulN K dX10_hangs_184 ?_
                                      refine v_iaddN K dX10_hangs_185 ?_
                                      refine v_iconstN K 2 rfl dX10_hangs_186 ?_
                                      refine v_iaddN K dX10_hangs_187 ?_
                                      refine v_iconstN K 1 rfl dX10_hangs_188 ?_
                                      refine v_iast K sh_120 pl_120 (by have := hTw k (by omega); omega) dX10_hangs_189 ?_
                                      have hEs1 : (u2 g3 120 (94 + (3 * (ordT (s 119) w k)) + 2) (nI 1)) 120 = hungD (hgF τ (s 119) (ordT (s 119) w) m k) (ordT (s 119) w k) := by rw [u2_row, hE3]; rfl
                                      have hRs1 : RR (u2 g3 120 (94 + (3 * (ordT (s 119) w k)) + 2) (nI 1)) s := hZ3.n (by unfold RA; omega) (by omega)
                                      have hos1 : ∀ j, j < m → (u2 g3 120 (94 + (3 * (ordT (s 119) w k)) + 2) (nI 1)) 126 j = nI (ordT (s 119) w j) := fun j hj => by rw [u2_off (by omega)]; exact ho3 j hj
                                      have hls1 : ∀ j, j < m → (u2 g3 120 (94 + (3 * (ordT (s 119) w k)) + 2) (nI 1)) 125 j = nI ((idleL (s 119) (ntD (s 119))).getD j 0) := fun j hj => by rw [u2_off (by omega)]; exact hl3 j hj
                                      refine v_aload_n K dX10_hangs_190 rfl ?_
                                      refine v_aload_n K dX10_hangs_191 rfl ?_
                                      refine v_getr (q := 120) K fX10_13 sh_118 pl_118 gl_118_1 dX10_hangs_192 ?_
                                      refine v_iload K dX10_hangs_195 rfl ?_
                                      refine v_iload_n K dX10_hangs_197 rfl ?_
                                      refine v_icmpN_ge (tgt := 205) K (by omega) (by omega) dX10_hangs_198 rfl (fun c12 => ?_) (fun c12 => ?_)
                                      · skip
                                        exfalso; omega
                                      · skip
                                        refine v_iconstN K 1 rfl dX10_hangs_201 ?_
                                        refine v_goto (tgt := 206) K dX10_hangs_202 rfl ?_
                                        refine v_callV (As := [.ref 120, .int (nI 1)]) K (c_X10_goesOn ((u2 g3 120 (94 + (3 * (ordT (s 119) w k)) + 2) (nI 1))) τ 120 1 mP_120 (by rw [hEs1]; exact ((DOK.hg hd hTw k).hangD (hTw k (by omega)))) (by rw [hRs1.1 119 RA_119]; exact hI.x) (by omega)) lX10_222 ck_X10 rfl sh_118 pl_118 rfl ⟨by decide, by decide⟩ (Nat.le_of_ble_eq_true rfl) dX10_hangs_206 (fun r7 h7 hp7 => ?_) rfl
                                        obtain ⟨rfl, hDn2, hTn2, hGn2⟩ := hp7
                                        rw [hEs1, nights_1] at hDn2
                                        have hRn2 := hRs1.G (by unfold RA; omega) hGn2
                                        have hon2 : ∀ j, j < m → h7 126 j = nI (ordT (s 119) w j) := fun j hj => by rw [hGn2.1 126 (by omega) (by omega) (by omega) (by omega)]; exact hos1 j hj
                                        have hln2 : ∀ j, j < m → h7 125 j = nI ((idleL (s 119) (ntD (s 119))).getD j 0) := fun j hj => by rw [hGn2.1 125 (by omega) (by omega) (by omega) (by omega)]; exact hls1 j hj
                                        refine v_none ?_
                                        refine v_iincN (lv2 := [(8, .int (nI (k + 1))), (0, .ref 118), (1, .int (nI j1)), (2, .int i), (3, .int (nI m)), (4, .int (nI ((facN m)))), (5, .int (nI best)), (6, .int most), (7, .int (nI w))]) K 1 dX10_hangs_209 rfl rfl (by decide) rfl ?_
                                        refine v_goto (tgt := 153) K dX10_hangs_212 rfl ?_
                                        refine v_sub (lv2 := [(0, .ref 118), (1, .int (nI j1)), (2, .int i), (3, .int (nI m)), (4, .int (nI ((facN m)))), (5, .int (nI best)), (6, .int most), (7, .int (nI w)), (8, .int (nI (k + 1)))]) (by simp) ?_
                                        exact ih153 (k + 1) h7 (by exact hRn2) (by exact hon2) (by exact hln2) (by exact Or.inl ⟨by omega, by rw [hDn2]; exact (hg_y (by omega)).symm⟩) (by omega)
                                  · skip
                                    refine v_iload K dX10_hangs_159 rfl ?_
                                    refine v_ifN_ne (tgt := 215) K (by omega) dX10_hangs_161 rfl (fun c13 => ?_) (fun c13 => ?_)
                                    · skip
                                      have hen : g3 120 0 = hgH τ (s 119) j1 w := (by rw [hE3]; unfold hgH; rw [show k = j1 by omega, ← hm])
                                      refine v_aload_n K dX10_hangs_215 rfl ?_
                                      refine v_getr (q := 120) K fX10_13 sh_118 pl_118 gl_118_1 dX10_hangs_216 ?_
                                      refine v_iconstN K 0 rfl dX10_hangs_219 ?_
                                      refine v_iald (x := (g3 120 0)) K sh_120 pl_120 (by omega) rfl dX10_hangs_220 ?_
                                      refine v_iload K dX10_hangs_221 rfl ?_
                                      refine v_icmp_le (tgt := 231) K dX10_hangs_223 rfl (fun c14 => ?_) (fun c14 => ?_)
                                      · skip
                                        refine v_iload K dX10_hangs_231 rfl ?_
                                        refine v_istore (lv2 := [(5, .int (nI best)), (0, .ref 118), (1, .int (nI j1)), (2, .int i), (3, .int (nI m)), (4, .int (nI ((facN m)))), (6, .int most), (7, .int (nI w)), (8, .int (nI k))]) K dX10_hangs_233 (by decide) rfl ?_
                                        refine v_aload_n K dX10_hangs_235 rfl ?_
                                        refine v_getr (q := 120) K fX10_13 sh_118 pl_118 gl_118_1 dX10_hangs_236 ?_
                                        refine v_iconstN K 0 rfl dX10_hangs_239 ?_
                                        refine v_iald (x := (g3 120 0)) K sh_120 pl_120 (by omega) rfl dX10_hangs_240 ?_
                                        refine v_iload K dX10_hangs_241 rfl ?_
                                        refine v_icmp_le (tgt := 255) K dX10_hangs_243 rfl (fun c15 => ?_) (fun c15 => ?_)
                                        · skip
                                          refine v_iload K dX10_hangs_255 rfl ?_
                                          refine v_istore (lv2 := [(6, .int most), (5, .int (nI best)), (0, .ref 118), (1, .int (nI j1)), (2, .int i), (3, .int (nI m)), (4, .int (nI ((facN m)))), (7, .int (nI w)), (8, .int (nI k))]) K dX10_hangs_257 (by decide) rfl ?_
                                          refine v_iincN (lv2 := [(7, .int (nI (w + 1))), (6, .int most), (5, .int (nI best)), (0, .ref 118), (1, .int (nI j1)), (2, .int i), (3, .int (nI m)), (4, .int (nI ((facN m)))), (8, .int (nI k))]) K 1 dX10_hangs_259 rfl rfl (by decide) rfl ?_
                                          refine v_goto (tgt := 125) K dX10_hangs_262 rfl ?_
                                          refine v_sub (lv2 := [(0, .ref 118), (1, .int (nI j1)), (2, .int i), (3, .int (nI m)), (4, .int (nI ((facN m)))), (5, .int (nI best)), (6, .int most), (7, .int (nI (w + 1)))]) (by simp) ?_
                                          exact ih125 best most (w + 1) g3 (by first | assumption | omega | rfl) (by exact hb_n hbt (fun q => absurd (hen ▸ q) (Int32.not_lt.mpr c14))) (by exact hZ3) (by exact hl3) (by omega)
                                        · skip
                                          exact absurd c14 c15
                                      · skip
                                        refine v_iload K dX10_hangs_226 rfl ?_
                                        refine v_goto (tgt := 233) K dX10_hangs_228 rfl ?_
                                        refine v_istore (lv2 := [(5, .int (nI w)), (0, .ref 118), (1, .int (nI j1)), (2, .int i), (3, .int (nI m)), (4, .int (nI ((facN m)))), (6, .int most), (7, .int (nI w)), (8, .int (nI k))]) K dX10_hangs_233 (by decide) rfl ?_
                                        refine v_aload_n K dX10_hangs_235 rfl ?_
                                        refine v_getr (q := 120) K fX10_13 sh_118 pl_118 gl_118_1 dX10_hangs_236 ?_
                                        refine v_iconstN K 0 rfl dX10_hangs_239 ?_
                                        refine v_iald (x := (g3 120 0)) K sh_120 pl_120 (by omega) rfl dX10_hangs_240 ?_
                                        refine v_iload K dX10_hangs_241 rfl ?_
                                        refine v_icmp_le (tgt := 255) K dX10_hangs_243 rfl (fun c16 => ?_) (fun c16 => ?_)
                                        · skip
                                          exact absurd c16 c14
                                        · skip
                                          refine v_aload_n K dX10_hangs_246 rfl ?_
                                          refine v_getr (q := 120) K fX10_13 sh_118 pl_118 gl_118_1 dX10_hangs_247 ?_
                                          refine v_iconstN K 0 rfl dX10_hangs_250 ?_
                                          refine v_iald (x := (g3 120 0)) K sh_120 pl_120 (by omega) rfl dX10_hangs_251 ?_
                                          refine v_goto (tgt := 257) K dX10_hangs_252 rfl ?_
                                          refine v_istore (lv2 := [(6, .int ((g3 120 0))), (5, .int (nI w)), (0, .ref 118), (1, .int (nI j1)), (2, .int i), (3, .int (nI m)), (4, .int (nI ((facN m)))), (7, .int (nI w)), (8, .int (nI k))]) K dX10_hangs_257 (by decide) rfl ?_
                                          refine v_iincN (lv2 := [(7, .int (nI (w + 1))), (6, .int ((g3 120 0))), (5, .int (nI w)), (0, .ref 118), (1, .int (nI j1)), (2, .int i), (3, .int (nI m)), (4, .int (nI ((facN m)))), (8, .int (nI k))]) K 1 dX10_hangs_259 rfl rfl (by decide) rfl ?_
                                          refine v_goto (tgt := 125) K dX10_hangs_262 rfl ?_
                                          refine v_sub (lv2 := [(0, .ref 118), (1, .int (nI j1)), (2, .int i), (3, .int (nI m)), (4, .int (nI ((facN m)))), (5, .int (nI w)), (6, .int ((g3 120 0))), (7, .int (nI (w + 1)))]) (by simp) ?_
                                          exact ih125 w ((g3 120 0)) (w + 1) g3 (by first | assumption | omega | rfl) (by rw [hb_y hbt (hen ▸ Int32.not_le.mp c14), ← hen]) (by exact hZ3) (by exact hl3) (by omega)
                                    · skip
                                      refine v_iload K dX10_hangs_164 rfl ?_
                                      refine v_iload_n K dX10_hangs_166 rfl ?_
                                      refine v_icmpN_ge (tgt := 190) K (by omega) (by omega) dX10_hangs_167 rfl (fun c17 => ?_) (fun c17 => ?_)
                                      · skip
                                        refine v_aload_n K dX10_hangs_190 rfl ?_
                                        refine v_aload_n K dX10_hangs_191 rfl ?_
                                        refine v_getr (q := 120) K fX10_13 sh_118 pl_118 gl_118_1 dX10_hangs_192 ?_
                                        refine v_iload K dX10_hangs_195 rfl ?_
                                        refine v_iload_n K dX10_hangs_197 rfl ?_
                                        refine v_icmpN_ge (tgt := 205) K (by omega) (by omega) dX10_hangs_198 rfl (fun c18 => ?_) (fun c18 => ?_)
                                        · skip
                                          refine v_iconstN K 0 rfl dX10_hangs_205 ?_
                                          refine v_callV (As := [.ref 120, .int (nI 0)]) K (c_X10_goesOn g3 τ 120 0 mP_120 (by rw [hE3]; exact (DOK.hg hd hTw k)) (by rw [hZ3.1 119 RA_119]; exact hI.x) (by omega)) lX10_222 ck_X10 rfl sh_118 pl_118 rfl ⟨by decide, by decide⟩ (Nat.le_of_ble_eq_true rfl) dX10_hangs_206 (fun r8 h8 hp8 => ?_) rfl
                                          obtain ⟨rfl, hDn3, hTn3, hGn3⟩ := hp8
                                          rw [hE3, nights_0] at hDn3
                                          have hRn3 := hZ3.G (by unfold RA; omega) hGn3
                                          have hon3 : ∀ j, j < m → h8 126 j = nI (ordT (s 119) w j) := fun j hj => by rw [hGn3.1 126 (by omega) (by omega) (by omega) (by omega)]; exact ho3 j hj
                                          have hln3 : ∀ j, j < m → h8 125 j = nI ((idleL (s 119) (ntD (s 119))).getD j 0) := fun j hj => by rw [hGn3.1 125 (by omega) (by omega) (by omega) (by omega)]; exact hl3 j hj
                                          refine v_none ?_
                                          refine v_iincN (lv2 := [(8, .int (nI (k + 1))), (0, .ref 118), (1, .int (nI j1)), (2, .int i), (3, .int (nI m)), (4, .int (nI ((facN m)))), (5, .int (nI best)), (6, .int most), (7, .int (nI w))]) K 1 dX10_hangs_209 rfl rfl (by decide) rfl ?_
                                          refine v_goto (tgt := 153) K dX10_hangs_212 rfl ?_
                                          refine v_sub (lv2 := [(0, .ref 118), (1, .int (nI j1)), (2, .int i), (3, .int (nI m)), (4, .int (nI ((facN m)))), (5, .int (nI best)), (6, .int most), (7, .int (nI w)), (8, .int (nI (k + 1)))]) (by simp) ?_
                                          exact ih153 (k + 1) h8 (by exact hRn3) (by exact hon3) (by exact hln3) (by exact Or.inr ⟨by omega, by omega, by rw [hDn3]; rw [show k = 0 by omega]; rfl⟩) (by omega)
                                        · skip
                                          exfalso; omega
                                      · skip
                                        refine v_aload_n K dX10_hangs_170 rfl ?_
                                        refine v_getr (q := 120) K fX10_13 sh_118 pl_118 gl_118_1 dX10_hangs_171 ?_
                                        refine v_bipushN K 94 rfl dX10_hangs_174 ?_
                                        refine v_iconstN K 3 rfl dX10_hangs_176 ?_
                                        refine v_aload_n K dX10_hangs_177 rfl ?_
                                        refine v_getr (q := 126) K fX10_32 sh_118 pl_118 gl_118_14 dX10_hangs_178 ?_
                                        refine v_iload K dX10_hangs_181 rfl ?_
                                        refine v_iald (x := nI (ordT (s 119) w k)) K sh_126 pl_126 (by omega) (ho3 k (by omega)) dX10_hangs_183 ?_
                                        refine v_imulN K dX10_hangs_184 ?_
                                        refine v_iaddN K dX10_hangs_185 ?_
                                        refine v_iconstN K 2 rfl dX10_hangs_186 ?_
                                        refine v_iaddN K dX10_hangs_187 ?_
                                        refine v_iconstN K 1 rfl dX10_hangs_188 ?_
                                        refine v_iast K sh_120 pl_120 (by have := hTw k (by omega); omega) dX10_hangs_189 ?_
                                        have hEs2 : (u2 g3 120 (94 + (3 * (ordT (s 119) w k)) + 2) (nI 1)) 120 = hungD (hgF τ (s 119) (ordT (s 119) w) m k) (ordT (s 119) w k) := by rw [u2_row, hE3]; rfl
                                        have hRs2 : RR (u2 g3 120 (94 + (3 * (ordT (s 119) w k)) + 2) (nI 1)) s := hZ3.n (by unfold RA; omega) (by omega)
                                        have hos2 : ∀ j, j < m → (u2 g3 120 (94 + (3 * (ordT (s 119) w k)) + 2) (nI 1)) 126 j = nI (ordT (s 119) w j) := fun j hj => by rw [u2_off (by omega)]; exact ho3 j hj
                                        have hls2 : ∀ j, j < m → (u2 g3 120 (94 + (3 * (ordT (s 119) w k)) + 2) (nI 1)) 125 j = nI ((idleL (s 119) (ntD (s 119))).getD j 0) := fun j hj => by rw [u2_off (by omega)]; exact hl3 j hj
                                        refine v_aload_n K dX10_hangs_190 rfl ?_
                                        refine v_aload_n K dX10_hangs_191 rfl ?_
                                        refine v_getr (q := 120) K fX10_13 sh_118 pl_118 gl_118_1 dX10_hangs_192 ?_
                                        refine v_iload K dX10_hangs_195 rfl ?_
                                        refine v_iload_n K dX10_hangs_197 rfl ?_
                                        refine v_icmpN_ge (tgt := 205) K (by omega) (by omega) dX10_hangs_198 rfl (fun c19 => ?_) (fun c19 => ?_)
                                        · skip
                                          refine v_iconstN K 0 rfl dX10_hangs_205 ?_
                                          refine v_callV (As := [.ref 120, .int (nI 0)]) K (c_X10_goesOn ((u2 g3 120 (94 + (3 * (ordT (s 119) w k)) + 2) (nI 1))) τ 120 0 mP_120 (by rw [hEs2]; exact ((DOK.hg hd hTw k).hangD (hTw k (by omega)))) (by rw [hRs2.1 119 RA_119]; exact hI.x) (by omega)) lX10_222 ck_X10 rfl sh_118 pl_118 rfl ⟨by decide, by decide⟩ (Nat.le_of_ble_eq_true rfl) dX10_hangs_206 (fun r9 h9 hp9 => ?_) rfl
                                          obtain ⟨rfl, hDn4, hTn4, hGn4⟩ := hp9
                                          rw [hEs2, nights_0] at hDn4
                                          have hRn4 := hRs2.G (by unfold RA; omega) hGn4
                                          have hon4 : ∀ j, j < m → h9 126 j = nI (ordT (s 119) w j) := fun j hj => by rw [hGn4.1 126 (by omega) (by omega) (by omega) (by omega)]; exact hos2 j hj
                                          have hln4 : ∀ j, j < m → h9 125 j = nI ((idleL (s 119) (ntD (s 119))).getD j 0) := fun j hj => by rw [hGn4.1 125 (by omega) (by omega) (by omega) (by omega)]; exact hls2 j hj
                                          refine v_none ?_
                                          refine v_iincN (lv2 := [(8, .int (nI (k + 1))), (0, .ref 118), (1, .int (nI j1)), (2, .int i), (3, .int (nI m)), (4, .int (nI ((facN m)))), (5, .int (nI best)), (6, .int most), (7, .int (nI w))]) K 1 dX10_hangs_209 rfl rfl (by decide) rfl ?_
                                          refine v_goto (tgt := 153) K dX10_hangs_212 rfl ?_
                                          refine v_sub (lv2 := [(0, .ref 118), (1, .int (nI j1)), (2, .int i), (3, .int (nI m)), (4, .int (nI ((facN m)))), (5, .int (nI best)), (6, .int most), (7, .int (nI w)), (8, .int (nI (k + 1)))]) (by simp) ?_
                                          exact ih153 (k + 1) h9 (by exact hRn4) (by exact hon4) (by exact hln4) (by exact Or.inr ⟨by omega, by omega, by rw [hDn4]; show upd (hgF τ (s 119) (ordT (s 119) w) m k) _ _ 0 = _; rw [upd_ne (by omega), show k = 0 by omega]; rfl⟩) (by omega)
                                        · skip
                                          exfalso; omega
                                · skip
                                  skip
                                  refine v_iload K dX10_hangs_153 rfl ?_
                                  refine v_iload_n K dX10_hangs_155 rfl ?_
                                  refine v_icmpN_lt (tgt := 164) K (by omega) (by omega) dX10_hangs_156 rfl (fun c20 => ?_) (fun c20 => ?_)
                                  · skip
                                    exfalso; omega
                                  · skip
                                    refine v_iload K dX10_hangs_159 rfl ?_
                                    refine v_ifN_ne (tgt := 215) K (by omega) dX10_hangs_161 rfl (fun c21 => ?_) (fun c21 => ?_)
                                    · skip
                                      have hen : g3 120 0 = hgH τ (s 119) j1 w := (by rw [hE0]; unfold hgH; rw [hn0]; rfl)
                                      refine v_aload_n K dX10_hangs_215 rfl ?_
                                      refine v_getr (q := 120) K fX10_13 sh_118 pl_118 gl_118_1 dX10_hangs_216 ?_
                                      refine v_iconstN K 0 rfl dX10_hangs_219 ?_
                                      refine v_iald (x := (g3 120 0)) K sh_120 pl_120 (by omega) rfl dX10_hangs_220 ?_
                                      refine v_iload K dX10_hangs_221 rfl ?_
                                      refine v_icmp_le (tgt := 231) K dX10_hangs_223 rfl (fun c22 => ?_) (fun c22 => ?_)
                                      · skip
                                        refine v_iload K dX10_hangs_231 rfl ?_
                                        refine v_istore (lv2 := [(5, .int (nI best)), (0, .ref 118), (1, .int (nI j1)), (2, .int i), (3, .int (nI m)), (4, .int (nI ((facN m)))), (6, .int most), (7, .int (nI w)), (8, .int (nI k))]) K dX10_hangs_233 (by decide) rfl ?_
                                        refine v_aload_n K dX10_hangs_235 rfl ?_
                                        refine v_getr (q := 120) K fX10_13 sh_118 pl_118 gl_118_1 dX10_hangs_236 ?_
                                        refine v_iconstN K 0 rfl dX10_hangs_239 ?_
                                        refine v_iald (x := (g3 120 0)) K sh_120 pl_120 (by omega) rfl dX10_hangs_240 ?_
                                        refine v_iload K dX10_hangs_241 rfl ?_
                                        refine v_icmp_le (tgt := 255) K dX10_hangs_243 rfl (fun c23 => ?_) (fun c23 => ?_)
                                        · skip
                                          refine v_iload K dX10_hangs_255 rfl ?_
                                          refine v_istore (lv2 := [(6, .int most), (5, .int (nI best)), (0, .ref 118), (1, .int (nI j1)), (2, .int i), (3, .int (nI m)), (4, .int (nI ((facN m)))), (7, .int (nI w)), (8, .int (nI k))]) K dX10_hangs_257 (by decide) rfl ?_
                                          refine v_iincN (lv2 := [(7, .int (nI (w + 1))), (6, .int most), (5, .int (nI best)), (0, .ref 118), (1, .int (nI j1)), (2, .int i), (3, .int (nI m)), (4, .int (nI ((facN m)))), (8, .int (nI k))]) K 1 dX10_hangs_259 rfl rfl (by decide) rfl ?_
                                          refine v_goto (tgt := 125) K dX10_hangs_262 rfl ?_
                                          refine v_sub (lv2 := [(0, .ref 118), (1, .int (nI j1)), (2, .int i), (3, .int (nI m)), (4, .int (nI ((facN m)))), (5, .int (nI best)), (6, .int most), (7, .int (nI (w + 1)))]) (by simp) ?_
                                          exact ih125 best most (w + 1) g3 (by first | assumption | omega | rfl) (by exact hb_n hbt (fun q => absurd (hen ▸ q) (Int32.not_lt.mpr c22))) (by exact hZ3) (by exact hl3) (by omega)
                                        · skip
                                          exact absurd c22 c23
                                      · skip
                                        refine v_iload K dX10_hangs_226 rfl ?_
                                        refine v_goto (tgt := 233) K dX10_hangs_228 rfl ?_
                                        refine v_istore (lv2 := [(5, .int (nI w)), (0, .ref 118), (1, .int (nI j1)), (2, .int i), (3, .int (nI m)), (4, .int (nI ((facN m)))), (6, .int most), (7, .int (nI w)), (8, .int (nI k))]) K dX10_hangs_233 (by decide) rfl ?_
                                        refine v_aload_n K dX10_hangs_235 rfl ?_
                                        refine v_getr (q := 120) K fX10_13 sh_118 pl_118 gl_118_1 dX10_hangs_236 ?_
                                        refine v_iconstN K 0 rfl dX10_hangs_239 ?_
                                        refine v_iald (x := (g3 120 0)) K sh_120 pl_120 (by omega) rfl dX10_hangs_240 ?_
                                        refine v_iload K dX10_hangs_241 rfl ?_
                                        refine v_icmp_le (tgt := 255) K dX10_hangs_243 rfl (fun c24 => ?_) (fun c24 => ?_)
                                        · skip
                                          exact absurd c24 c22
                                        · skip
                                          refine v_aload_n K dX10_hangs_246 rfl ?_
                                          refine v_getr (q := 120) K fX10_13 sh_118 pl_118 gl_118_1 dX10_hangs_247 ?_
                                          refine v_iconstN K 0 rfl dX10_hangs_250 ?_
                                          refine v_iald (x := (g3 120 0)) K sh_120 pl_120 (by omega) rfl dX10_hangs_251 ?_
                                          refine v_goto (tgt := 257) K dX10_hangs_252 rfl ?_
                                          refine v_istore (lv2 := [(6, .int ((g3 120 0))), (5, .int (nI w)), (0, .ref 118), (1, .int (nI j1)), (2, .int i), (3, .int (nI m)), (4, .int (nI ((facN m)))), (7, .int (nI w)), (8, .int (nI k))]) K dX10_hangs_257 (by decide) rfl ?_
                                          refine v_iincN (lv2 := [(7, .int (nI (w + 1))), (6, .int ((g3 120 0))), (5, .int (nI w)), (0, .ref 118), (1, .int (nI j1)), (2, .int i), (3, .int (nI m)), (4, .int (nI ((facN m)))), (8, .int (nI k))]) K 1 dX10_hangs_259 rfl rfl (by decide) rfl ?_
                                          refine v_goto (tgt := 125) K dX10_hangs_262 rfl ?_
                                          refine v_sub (lv2 := [(0, .ref 118), (1, .int (nI j1)), (2, .int i), (3, .int (nI m)), (4, .int (nI ((facN m)))), (5, .int (nI w)), (6, .int ((g3 120 0))), (7, .int (nI (w + 1)))]) (by simp) ?_
                                          exact ih125 w ((g3 120 0)) (w + 1) g3 (by first | assumption | omega | rfl) (by rw [hb_y hbt (hen ▸ Int32.not_le.mp c22), ← hen]) (by exact hZ3) (by exact hl3) (by omega)
                                    · skip
                                      exfalso; omega
                            refine v_sub (lv2 := [(0, .ref 118), (1, .int (nI j1)), (2, .int i), (3, .int (nI m)), (4, .int (nI ((facN m)))), (5, .int (nI best)), (6, .int most), (7, .int (nI w)), (8, .int (nI 0))]) (by simp) ?_
                            exact L153 (j1 + 2 - 0 + 1) 0 ((rw2 h4 120 (h4 119))) (by exact hRq1) (by exact hou1) (by exact hlu1) (by exact Or.inl ⟨Nat.zero_le _, hEq1⟩) (Nat.lt_succ_self _)
                      refine v_sub (lv2 := [(0, .ref 118), (1, .int (nI j1)), (2, .int i), (3, .int (nI m)), (4, .int (nI ((facN m)))), (5, .int (nI 0)), (6, .int ((-1))), (7, .int (nI 0))]) (by simp) ?_
                      exact L125 (facN m + 1 - 0 + 1) 0 ((-1)) 0 g1 (by first | assumption | omega | rfl) (by rfl) (by exact hZ) (by exact hl) (Nat.lt_succ_self _)
                    · skip
                      refine v_iload K dX10_hangs_103 rfl ?_
                      refine v_iload K dX10_hangs_105 rfl ?_
                      refine v_imulN K dX10_hangs_107 ?_
                      refine v_istore (lv2 := [(4, .int (nI (rw0 * k))), (0, .ref 118), (1, .int (nI j1)), (2, .int i), (3, .int (nI m)), (5, .int (nI k))]) K dX10_hangs_108 (by decide) rfl ?_
                      refine v_iincN (lv2 := [(5, .int (nI (k + 1))), (4, .int (nI (rw0 * k))), (0, .ref 118), (1, .int (nI j1)), (2, .int i), (3, .int (nI m))]) K 1 dX10_hangs_110 rfl rfl (by decide) rfl ?_
                      refine v_goto (tgt := 97) K dX10_hangs_113 rfl ?_
                      refine v_sub (lv2 := [(0, .ref 118), (1, .int (nI j1)), (2, .int i), (3, .int (nI m)), (4, .int (nI (rw0 * k))), (5, .int (nI (k + 1)))]) (by simp) ?_
                      exact ih97 (rw0 * k) (k + 1) (by first | assumption | omega | rfl) (by omega) (by rw [hb]; exact fac_s hk (by omega)) (by omega)
                refine v_sub (lv2 := [(0, .ref 118), (1, .int (nI j1)), (2, .int i), (3, .int (nI m)), (4, .int (nI 1)), (5, .int (nI 2))]) (by simp) ?_
                exact L97 (m + 3 - 2 + 1) 1 2 (by first | assumption | omega | rfl) (by exact Or.inl rfl) (by rfl) (Nat.lt_succ_self _)
              · skip
                refine v_aload_n K dX10_hangs_85 rfl ?_
                refine v_iconstN K 2 rfl dX10_hangs_86 ?_
                refine v_callV (As := [.int (nI 2)]) K (c_X10_finds g1 2 (by omega)) lX10_113 ck_X10 rfl sh_118 pl_118 rfl ⟨by decide, by decide⟩ (Nat.le_of_ble_eq_true rfl) dX10_hangs_87 (fun r10 h10 hp10 => ?_) rfl
                obtain ⟨rfl, rfl⟩ := hp10
                refine v_some ?_
                have hRf2 : RR (u2 g1 122 2 (g1 122 2 + nI 1)) (u2 s 122 2 (s 122 2 + nI 1)) := by rw [show (g1 122 2) = s 122 2 from hZ.at RA_122]; exact hZ.u RA_122
                refine v_iret K dX10_hangs_90 ?_
                have eY : Y_hangs s τ (nI j1) i = ((-1000000000) - nI 2, (u2 s 122 2 (s 122 2 + nI 1))) := by
                  unfold Y_hangs
                  refine (@if_neg _ (Classical.propDecidable _) (fun q => q ⟨⟨j1, by assumption, rfl⟩, hlo⟩) _ _ _).trans ?_
                  refine (@if_neg _ (Classical.propDecidable _) (by omega) _ _ _).trans ?_
                  refine (@if_pos _ (Classical.propDecidable _) (by rw [← hm]; exact Int32.not_lt.mp (by assumption)) _ _ _).trans ?_
                  first | rfl | ((try rw [cl_ix (show j1 < 2 ^ 31 by omega)]))
                exact rfin eY hRf2
            · skip
              refine v_aload_n K dX10_hangs_74 rfl ?_
              refine v_iconstN K 3 rfl dX10_hangs_75 ?_
              refine v_callV (As := [.int (nI 3)]) K (c_X10_finds g1 3 (by omega)) lX10_113 ck_X10 rfl sh_118 pl_118 rfl ⟨by decide, by decide⟩ (Nat.le_of_ble_eq_true rfl) dX10_hangs_76 (fun r11 h11 hp11 => ?_) rfl
              obtain ⟨rfl, rfl⟩ := hp11
              refine v_some ?_
              have hRf3 : RR (u2 g1 122 3 (g1 122 3 + nI 1)) (u2 s 122 3 (s 122 3 + nI 1)) := by rw [show (g1 122 3) = s 122 3 from hZ.at RA_122]; exact hZ.u RA_122
              refine v_iret K dX10_hangs_79 ?_
              have eY : Y_hangs s τ (nI j1) i = ((-1000000000) - nI 3, (u2 s 122 3 (s 122 3 + nI 1))) := by
                unfold Y_hangs
                refine (@if_neg _ (Classical.propDecidable _) (fun q => q ⟨⟨j1, by assumption, rfl⟩, hlo⟩) _ _ _).trans ?_
                refine (@if_pos _ (Classical.propDecidable _) (by omega) _ _ _).trans ?_
                first | rfl | ((try rw [cl_ix (show j1 < 2 ^ 31 by omega)]))
              exact rfin eY hRf3
          · skip
            refine v_aload_n K dX10_hangs_35 rfl ?_
            refine v_getr (q := 119) K fX10_7 sh_118 pl_118 gl_118_0 dX10_hangs_36 ?_
            refine v_bipushN K 94 rfl dX10_hangs_39 ?_
            refine v_iconstN K 3 rfl dX10_hangs_41 ?_
            refine v_iload K dX10_hangs_42 rfl ?_
            refine v_imulN K dX10_hangs_44 ?_
            refine v_iaddN K dX10_hangs_45 ?_
            refine v_iconstN K 2 rfl dX10_hangs_46 ?_
            refine v_iaddN K dX10_hangs_47 ?_
            refine v_iald (x := s 119 (94 + (3 * k) + 2)) K sh_119 pl_119 (by omega) (hZ.at RA_119) dX10_hangs_48 ?_
            refine v_if_ne (tgt := 63) K dX10_hangs_49 rfl (fun c25 => ?_) (fun c25 => ?_)
            · skip
              refine v_iincN (lv2 := [(4, .int (nI (k + 1))), (0, .ref 118), (1, .int (nI j1)), (2, .int i), (3, .int (nI mn))]) K 1 dX10_hangs_63 rfl rfl (by decide) rfl ?_
              refine v_goto (tgt := 23) K dX10_hangs_66 rfl ?_
              refine v_sub (lv2 := [(0, .ref 118), (1, .int (nI j1)), (2, .int i), (3, .int (nI mn)), (4, .int (nI (k + 1)))]) (by simp) ?_
              exact ih23 mn (k + 1) g1 (by first | assumption | omega | rfl) (by rw [idle_n c25]; exact hmn) (by rw [idle_n c25]; exact hl) (by exact hZ) (by omega)
            · skip
              refine v_aload_n K dX10_hangs_52 rfl ?_
              refine v_getr (q := 125) K fX10_29 sh_118 pl_118 gl_118_13 dX10_hangs_53 ?_
              refine v_iload_n K dX10_hangs_56 rfl ?_
              refine v_iload K dX10_hangs_57 rfl ?_
              refine v_iast K sh_125 pl_125 (by omega) dX10_hangs_59 ?_
              have hR59 : RR (u2 g1 125 mn (nI k)) s := hZ.n (by unfold RA; omega) (by omega)
              refine v_iincN (lv2 := [(3, .int (nI (mn + 1))), (0, .ref 118), (1, .int (nI j1)), (2, .int i), (4, .int (nI k))]) K 1 dX10_hangs_60 rfl rfl (by decide) rfl ?_
              refine v_iincN (lv2 := [(4, .int (nI (k + 1))), (3, .int (nI (mn + 1))), (0, .ref 118), (1, .int (nI j1)), (2, .int i)]) K 1 dX10_hangs_63 rfl rfl (by decide) rfl ?_
              refine v_goto (tgt := 23) K dX10_hangs_66 rfl ?_
              refine v_sub (lv2 := [(0, .ref 118), (1, .int (nI j1)), (2, .int i), (3, .int (nI (mn + 1))), (4, .int (nI (k + 1)))]) (by simp) ?_
              exact ih23 (mn + 1) (k + 1) ((u2 g1 125 mn (nI k))) (by first | assumption | omega | rfl) (by rw [idle_y c25, List.length_append, ← hmn]; rfl) (by rw [idle_y c25]; intro j hj; by_cases q : j = mn; (rw [q, u2_at, hmn, idleL_last]); rw [u2_ne (Or.inr q), idleL_get (by omega)]; exact hl j (by omega)) (by exact hR59) (by omega)
      refine v_sub (lv2 := [(0, .ref 118), (1, .int (nI j1)), (2, .int i), (3, .int (nI 0)), (4, .int (nI 0))]) (by simp) ?_
      exact L23 (ntD (s 119) + 1 - 0 + 1) 0 0 h (by first | assumption | omega | rfl) (by rfl) (by intro j hj; exact absurd hj (Nat.not_lt_zero _)) (by exact hR) (Nat.lt_succ_self _)
    · skip
      refine v_aload_n K dX10_hangs_12 rfl ?_
      refine v_iconstN K 1 rfl dX10_hangs_13 ?_
      refine v_callV (As := [.int (nI 1)]) K (c_X10_finds h 1 (by omega)) lX10_113 ck_X10 rfl sh_118 pl_118 rfl ⟨by decide, by decide⟩ (Nat.le_of_ble_eq_true rfl) dX10_hangs_14 (fun r12 h12 hp12 => ?_) rfl
      obtain ⟨rfl, rfl⟩ := hp12
      refine v_some ?_
      have hRf4 : RR (u2 h 122 1 (h 122 1 + nI 1)) (u2 s 122 1 (s 122 1 + nI 1)) := by rw [show (h 122 1) = s 122 1 from hR.at RA_122]; exact hR.u RA_122
      refine v_iret K dX10_hangs_17 ?_
      have eY : Y_hangs s τ (nI j1) i = ((-1000000000) - nI 1, (u2 s 122 1 (s 122 1 + nI 1))) := by
        unfold Y_hangs
        refine (@if_pos _ (Classical.propDecidable _) (fun q => absurd q.2 (by assumption)) _ _ _).trans ?_
        first | rfl | ((try rw [cl_ix (show j1 < 2 ^ 31 by omega)]))
      exact rfin eY hRf4
