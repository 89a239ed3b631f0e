theorem unit_e0 {bt : Nat → Int32} {n u : Nat} (s : PSt) : unitP bt n u 0 s = if hereP bt n s = nI 33 ∨ hereP bt n s = nI 40 then ([], wrongP s) else leafP bt n u s := rfl

abbrev P_X10_unit_0 (h : Mm) (bt : Nat → Int32) (n B u : Nat) (nm : Nat → Int32) (s : PSt) : Option Value → Mm → Prop := fun r h2 => (∃ v, r = some (.int v) ∧ (((unitP bt n u 0) s).2.2.1 = none → ∀ st, runL ((unitP bt n u 0) s).1 nm st = v :: st)) ∧ PM h2 n ((unitP bt n u 0) s).2 ∧ FrP h h2
theorem c_X10_unit_0 {l : Launch} (h : Mm) (bt : Nat → Int32) (n B u : Nat) (nm : Nat → Int32) (s : PSt) (hX : PX h bt n B u nm) (hM : PM h n s) (hO : OKs n 0 s) : Con l yX10_unit cX10_unit 5 (some .int) 1 25 132 GL h [.ref 118] (P_X10_unit_0 h bt n B u nm s) := by
  refine Con.ofV (own := "FoxRoundsModel") (nm := "unit") rfl rfl (by decide) (Nat.le_of_ble_eq_true rfl) ?_
  intro κ ρ hkl K
  subst hkl
  show V κ (QM κ (132, ρ, GL, 0, 0) (P_X10_unit_0 h bt n B u nm s)) 5 (132, ρ, GL, 0, 0) h 0 [(0, .ref 118)] []
  have hn50 := hX.2.2.2.2.2.1
  have hBn := hX.2.2.2.2.1
  have hsn := hM.2.1
  have hs5 := hM.2.2.1
  refine v_aload_n K dX10_unit_0 rfl ?_
  refine v_callV (As := []) K (c_X10_here h bt n B u nm s hX hM) lX10_68 ck_X10 rfl sh_118 pl_118 rfl ⟨by decide, by decide⟩ (Nat.le_of_ble_eq_true rfl) dX10_unit_1 (fun r1 h1 hp1 => ?_) rfl
  obtain ⟨rfl, rfl⟩ := hp1
  refine v_some ?_
  refine v_istore_n (lv2 := [(1, .int (hereP bt n s)), (0, .ref 118)]) K dX10_unit_4 (by decide) rfl ?_
  refine v_iload_n K dX10_unit_5 rfl ?_
  refine v_bipushN K 33 rfl dX10_unit_6 ?_
  refine v_icmp_eq (tgt := 17) K dX10_unit_8 rfl (fun c1 => ?_) (fun c1 => ?_)
  · skip
    have eo : hereP bt n s = nI 33 := c1
    obtain ⟨hl0, hn0⟩ := hereP_lt eo (nI_m1 (by decide))
    refine v_aload_n K dX10_unit_17 rfl ?_
    refine v_geti (x := nI s.2.2) K fX10_94 sh_118 pl_118 hM.1.2.2 dX10_unit_18 ?_
    refine v_iconstN K 5 rfl dX10_unit_21 ?_
    refine v_icmpN_ne (tgt := 30) K (by omega) (by omega) dX10_unit_22 rfl (fun c2 => ?_) (fun c2 => ?_)
    · skip
      exact absurd (by have := hO.2.2; omega) c2
    · skip
      refine v_aload_n K dX10_unit_25 rfl ?_
      refine v_callV (As := []) K (c_X10_wrong h bt n B u nm s hX hM) lX10_97 ck_X10 rfl sh_118 pl_118 rfl ⟨by decide, by decide⟩ (Nat.le_of_ble_eq_true rfl) dX10_unit_26 (fun r2 h2 hp2 => ?_) rfl
      obtain ⟨rfl, hMq1, hFaq1⟩ := hp2
      have hFq1 := FrP.t (FrP.r (h := h)) hFaq1
      have hXq1 := PX.fr hX hFq1
      refine v_some ?_
      refine v_iret K dX10_unit_29 ?_
      have e2 : (unitP bt n u 0) s = ([], wrongP s) := by rw [unit_e0, if_pos (by first | exact Or.inl eo | exact Or.inr eo)]
      show (∃ v, _ ∧ (((unitP bt n u 0) s).2.2.1 = none → ∀ st, runL ((unitP bt n u 0) s).1 nm st = v :: st)) ∧ PM _ n ((unitP bt n u 0) s).2 ∧ _
      rw [e2]
      exact ⟨⟨_, rfl, fun q => absurd q wrong_some⟩, hMq1, hFq1⟩
  · skip
    refine v_iload_n K dX10_unit_11 rfl ?_
    refine v_bipushN K 40 rfl dX10_unit_12 ?_
    refine v_icmp_ne (tgt := 118) K dX10_unit_14 rfl (fun c3 => ?_) (fun c3 => ?_)
    · skip
      have eL : unitP bt n u 0 s = leafP bt n u s := by rw [unit_e0, if_neg (by rw [not_or]; exact ⟨c1, c3⟩)]
      refine v_aload_n K dX10_unit_118 rfl ?_
      refine v_iload_n K dX10_unit_119 rfl ?_
      refine v_callV (As := [.int (hereP bt n s)]) K (c_X10_nameOf h bt n B u nm s (hereP bt n s) hX hM) lX10_103 ck_X10 rfl sh_118 pl_118 rfl ⟨by decide, by decide⟩ (Nat.le_of_ble_eq_true rfl) dX10_unit_120 (fun r3 h3 hp3 => ?_) rfl
      obtain ⟨rfl, rfl⟩ := hp3
      refine v_some ?_
      refine v_nm (fun kk e_kk => ?_)
      refine v_istore_n (lv2 := [(2, .int kk), (1, .int (hereP bt n s)), (0, .ref 118)]) K dX10_unit_123 (by decide) rfl ?_
      refine v_iload_n K dX10_unit_124 rfl ?_
      refine v_if_lt (tgt := 145) K dX10_unit_125 rfl (fun c4 => ?_) (fun c4 => ?_)
      · skip
        have hno := nm_none (o := nameP u (hereP bt n s)) (fun j hj => Nat.lt_of_lt_of_le (name_lt hj) nn_le) (by rw [← e_kk]; exact c4)
        refine v_iconstN K 0 rfl dX10_unit_145 ?_
        refine v_istore_n (lv2 := [(3, .int (nI 0)), (2, .int kk), (1, .int (hereP bt n s)), (0, .ref 118)]) K dX10_unit_146 (by decide) rfl ?_
        refine v_iconstN K 0 rfl dX10_unit_147 ?_
        refine v_istore (lv2 := [(4, .int (nI 0)), (3, .int (nI 0)), (2, .int kk), (1, .int (hereP bt n s)), (0, .ref 118)]) K dX10_unit_148 (by decide) rfl ?_
        have L150 : ∀ (mm : Nat) (f : Nat) (m : Nat) (t : PSt) (v : Int32) (h1 : Mm) (hfm : f + m = 4) (hO1 : OKs n 0 t) (hM1 : PM h1 n t) (hF1 : FrP h h1) (he : (digP bt n 4 (nI 0) s) = ((digP bt n f v t).1, (digP bt n f v t).2.1 + m, (digP bt n f v t).2.2)), f < mm → V κ (QM κ (132, ρ, GL, 0, 0) (P_X10_unit_0 h bt n B u nm s)) 5 (132, ρ, GL, 0, 0) h1 150 [(0, .ref 118), (1, .int (hereP bt n s)), (2, .int kk), (3, .int v), (4, .int (nI m))] [] := by
          intro mm
          induction mm with
          | zero => intro f m t v h1 hfm hO1 hM1 hF1 he hmm; exact absurd hmm (Nat.not_lt_zero _)
          | succ mm ih150 =>
            intro f m t v h1 hfm hO1 hM1 hF1 he hmm
            have hX1 := PX.fr hX hF1
            have htn := hM1.2.1
            refine v_iload K dX10_unit_150 rfl ?_
            refine v_iconstN K 4 rfl dX10_unit_152 ?_
            refine v_icmpN_ge (tgt := 202) K (by omega) (by omega) dX10_unit_153 rfl (fun c5 => ?_) (fun c5 => ?_)
            · skip
              obtain rfl : f = 0 := by omega
              have eD : (digP bt n 4 (nI 0) s) = (v, m, t) := by rw [he, digP]; simp
              refine v_iload K dX10_unit_202 rfl ?_
              refine v_ifN_ne (tgt := 214) K (by omega) dX10_unit_204 rfl (fun c6 => ?_) (fun c6 => ?_)
              · skip
                refine v_iload_n K dX10_unit_214 rfl ?_
                refine v_iret K dX10_unit_215 ?_
                have e2 : (unitP bt n u 0) s = ([v], t) := by rw [eL, leafP, hno]; dsimp only; rw [eD]; exact if_neg (by show ¬ m = 0; omega)
                show (∃ v, _ ∧ (((unitP bt n u 0) s).2.2.1 = none → ∀ st, runL ((unitP bt n u 0) s).1 nm st = v :: st)) ∧ PM _ n ((unitP bt n u 0) s).2 ∧ _
                rw [e2]
                obtain ⟨a, ha, ea⟩ := dig_val (bt := bt) (n := n) 4 0 (nI 0) s (by omega) ⟨0, by decide, rfl⟩
                rw [eD] at ea
                have ea2 : v = nI a := ea
                subst ea2
                exact ⟨⟨_, rfl, fun _ st => run_num ha⟩, hM1, hF1⟩
              · skip
                refine v_aload_n K dX10_unit_207 rfl ?_
                refine v_callV (As := []) K (c_X10_wrong h1 bt n B u nm t hX1 hM1) lX10_97 ck_X10 rfl sh_118 pl_118 rfl ⟨by decide, by decide⟩ (Nat.le_of_ble_eq_true rfl) dX10_unit_208 (fun r4 h4 hp4 => ?_) rfl
                obtain ⟨rfl, hMq2, hFaq2⟩ := hp4
                have hFq2 := FrP.t hF1 hFaq2
                have hXq2 := PX.fr hX hFq2
                refine v_some ?_
                refine v_goto (tgt := 215) K dX10_unit_211 rfl ?_
                refine v_iret K dX10_unit_215 ?_
                have e2 : (unitP bt n u 0) s = ([], wrongP t) := by rw [eL, leafP, hno]; dsimp only; rw [eD]; exact if_pos (by show m = 0; omega)
                show (∃ v, _ ∧ (((unitP bt n u 0) s).2.2.1 = none → ∀ st, runL ((unitP bt n u 0) s).1 nm st = v :: st)) ∧ PM _ n ((unitP bt n u 0) s).2 ∧ _
                rw [e2]
                exact ⟨⟨_, rfl, fun q => absurd q wrong_some⟩, hMq2, hFq2⟩
            · skip
              obtain ⟨f, rfl⟩ : ∃ f0, f = f0 + 1 := ⟨f - 1, by omega⟩
              refine v_aload_n K dX10_unit_156 rfl ?_
              refine v_callV (As := []) K (c_X10_here h1 bt n B u nm t hX1 hM1) lX10_68 ck_X10 rfl sh_118 pl_118 rfl ⟨by decide, by decide⟩ (Nat.le_of_ble_eq_true rfl) dX10_unit_157 (fun r5 h5 hp5 => ?_) rfl
              obtain ⟨rfl, rfl⟩ := hp5
              refine v_some ?_
              refine v_i2l K dX10_unit_160 rfl ?_
              refine v_ldc2 K kX10_107 dX10_unit_161 ?_
              refine v_topL (y := (nI 48).toInt64) (by decide) ?_
              refine v_ldc2 K kX10_109 dX10_unit_164 ?_
              refine v_topL (y := (nI 57).toInt64) (by decide) ?_
              refine v_callS (As := [.long (hereP bt n t).toInt64, .long (nI 48).toInt64, .long (nI 57).toInt64]) K (c_X10_in h1 (hereP bt n t) (nI 48) (nI 57)) lX10_51 rfl ⟨by decide, by decide⟩ (Nat.le_of_ble_eq_true rfl) dX10_unit_167 (fun r6 h6 hp6 => ?_) rfl
              obtain ⟨rfl, rfl⟩ := hp6
              refine v_some ?_
              refine v_ifB_eq (tgt := 202) K dX10_unit_170 rfl (fun c7 => ?_) (fun c7 => ?_)
              · skip
                have eD : (digP bt n 4 (nI 0) s) = (v, m, t) := by rw [he, digP, if_neg c7]; simp
                refine v_iload K dX10_unit_202 rfl ?_
                refine v_ifN_ne (tgt := 214) K (by omega) dX10_unit_204 rfl (fun c8 => ?_) (fun c8 => ?_)
                · skip
                  refine v_iload_n K dX10_unit_214 rfl ?_
                  refine v_iret K dX10_unit_215 ?_
                  have e2 : (unitP bt n u 0) s = ([v], t) := by rw [eL, leafP, hno]; dsimp only; rw [eD]; exact if_neg (by show ¬ m = 0; omega)
                  show (∃ v, _ ∧ (((unitP bt n u 0) s).2.2.1 = none → ∀ st, runL ((unitP bt n u 0) s).1 nm st = v :: st)) ∧ PM _ n ((unitP bt n u 0) s).2 ∧ _
                  rw [e2]
                  obtain ⟨a, ha, ea⟩ := dig_val (bt := bt) (n := n) 4 0 (nI 0) s (by omega) ⟨0, by decide, rfl⟩
                  rw [eD] at ea
                  have ea2 : v = nI a := ea
                  subst ea2
                  exact ⟨⟨_, rfl, fun _ st => run_num ha⟩, hM1, hF1⟩
                · skip
                  refine v_aload_n K dX10_unit_207 rfl ?_
                  refine v_callV (As := []) K (c_X10_wrong h1 bt n B u nm t hX1 hM1) lX10_97 ck_X10 rfl sh_118 pl_118 rfl ⟨by decide, by decide⟩ (Nat.le_of_ble_eq_true rfl) dX10_unit_208 (fun r7 h7 hp7 => ?_) rfl
                  obtain ⟨rfl, hMq3, hFaq3⟩ := hp7
                  have hFq3 := FrP.t hF1 hFaq3
                  have hXq3 := PX.fr hX hFq3
                  refine v_some ?_
                  refine v_goto (tgt := 215) K dX10_unit_211 rfl ?_
                  refine v_iret K dX10_unit_215 ?_
                  have e2 : (unitP bt n u 0) s = ([], wrongP t) := by rw [eL, leafP, hno]; dsimp only; rw [eD]; exact if_pos (by show m = 0; omega)
                  show (∃ v, _ ∧ (((unitP bt n u 0) s).2.2.1 = none → ∀ st, runL ((unitP bt n u 0) s).1 nm st = v :: st)) ∧ PM _ n ((unitP bt n u 0) s).2 ∧ _
                  rw [e2]
                  exact ⟨⟨_, rfl, fun q => absurd q wrong_some⟩, hMq3, hFq3⟩
              · skip
                obtain ⟨hl1, hn1⟩ := hereP_lt (c := hereP bt n t) rfl (fun e => by rw [e] at c7; exact absurd c7.1 (by decide))
                refine v_bipushN K 10 rfl dX10_unit_173 ?_
                refine v_iload_n K dX10_unit_175 rfl ?_
                refine v_imul K dX10_unit_176 ?_
                refine v_aload_n K dX10_unit_177 rfl ?_
                refine v_callV (As := []) K (c_X10_here h1 bt n B u nm t hX1 hM1) lX10_68 ck_X10 rfl sh_118 pl_118 rfl ⟨by decide, by decide⟩ (Nat.le_of_ble_eq_true rfl) dX10_unit_178 (fun r8 h8 hp8 => ?_) rfl
                obtain ⟨rfl, rfl⟩ := hp8
                refine v_some ?_
                refine v_iadd K dX10_unit_181 ?_
                refine v_bipushN K 48 rfl dX10_unit_182 ?_
                refine v_isub K dX10_unit_184 ?_
                refine v_nm (fun x1 e_x1 => ?_)
                refine v_istore_n (lv2 := [(3, .int x1), (0, .ref 118), (1, .int (hereP bt n s)), (2, .int kk), (4, .int (nI m))]) K dX10_unit_185 (by decide) rfl ?_
                refine v_aload_n K dX10_unit_186 rfl ?_
                refine v_dup K dX10_unit_187 rfl ?_
                refine v_geti (x := nI t.1) K fX10_55 sh_118 pl_118 hM1.1.1 dX10_unit_188 ?_
                refine v_iconstN K 1 rfl dX10_unit_191 ?_
                refine v_iaddN K dX10_unit_192 ?_
                refine v_puti K pX10_55 sh_118 pl_118 dX10_unit_193 ?_
                have hMm1 : PM (u2 h1 118 6 (nI (t.1 + 1))) n (advP t) := hM1.adv hl1
                have hFm1 : FrP h (u2 h1 118 6 (nI (t.1 + 1))) := FrP.u hF1 (by omega)
                have hXm1 := PX.fr hX hFm1
                refine v_iincN (lv2 := [(4, .int (nI (m + 1))), (3, .int x1), (0, .ref 118), (1, .int (hereP bt n s)), (2, .int kk)]) K 1 dX10_unit_196 rfl rfl (by decide) rfl ?_
                refine v_goto (tgt := 150) K dX10_unit_199 rfl ?_
                refine v_sub (lv2 := [(0, .ref 118), (1, .int (hereP bt n s)), (2, .int kk), (3, .int x1), (4, .int (nI (m + 1)))]) (by simp) ?_
                exact ih150 f (m + 1) ((advP t)) x1 ((u2 h1 118 6 (nI (t.1 + 1)))) (by omega) (by exact hO1.adv hl1) (by exact hMm1) (by exact hFm1) (by rw [he, digP, if_pos c7, ← e_x1]; exact Prod.ext rfl (Prod.ext (by show _ + 1 + m = _ + (m + 1); omega) rfl)) (by omega)
        refine v_sub (lv2 := [(0, .ref 118), (1, .int (hereP bt n s)), (2, .int kk), (3, .int (nI 0)), (4, .int (nI 0))]) (by simp) ?_
        exact L150 (4 + 1) 4 0 s (nI 0) h (by rfl) (by exact hO) (by exact hM) (by exact (FrP.r (h := h))) (by rfl) (Nat.lt_succ_self _)
      · skip
        obtain ⟨j, hj⟩ := nm_some (o := nameP u (hereP bt n s)) (by rw [← e_kk]; exact c4)
        have hj5 : j < 5 := Nat.lt_of_lt_of_le (name_lt hj) nn_le
        rw [hj] at e_kk
        subst e_kk
        obtain ⟨hl0, hn0⟩ := hereP_lt (c := hereP bt n s) rfl (name_ne hj)
        show V κ (QM κ (132, ρ, GL, 0, 0) (P_X10_unit_0 h bt n B u nm s)) 5 (132, ρ, GL, 0, 0) h 128 [(2, .int (nI j)), (1, .int (hereP bt n s)), (0, .ref 118)] []
        refine v_aload_n K dX10_unit_128 rfl ?_
        refine v_dup K dX10_unit_129 rfl ?_
        refine v_geti (x := nI s.1) K fX10_55 sh_118 pl_118 hM.1.1 dX10_unit_130 ?_
        refine v_iconstN K 1 rfl dX10_unit_133 ?_
        refine v_iaddN K dX10_unit_134 ?_
        refine v_puti K pX10_55 sh_118 pl_118 dX10_unit_135 ?_
        have hMm2 : PM (u2 h 118 6 (nI (s.1 + 1))) n (advP s) := hM.adv hl0
        have hFm2 : FrP h (u2 h 118 6 (nI (s.1 + 1))) := FrP.u (FrP.r (h := h)) (by omega)
        have hXm2 := PX.fr hX hFm2
        refine v_aload_n K dX10_unit_138 rfl ?_
        refine v_getr (q := 123) K fX10_22 sh_118 pl_118 gl_118_11 dX10_unit_139 ?_
        refine v_iload_n K dX10_unit_142 rfl ?_
        refine v_iald (x := nm j) K sh_123 pl_123 (by omega) (hXm2.2.2.2.2.2.2.2 j (by omega)) dX10_unit_143 ?_
        refine v_iret K dX10_unit_144 ?_
        have e2 : (unitP bt n u 0) s = ([(-1) - nI j], advP s) := by rw [eL, leafP, hj]
        show (∃ v, _ ∧ (((unitP bt n u 0) s).2.2.1 = none → ∀ st, runL ((unitP bt n u 0) s).1 nm st = v :: st)) ∧ PM _ n ((unitP bt n u 0) s).2 ∧ _
        rw [e2]
        exact ⟨⟨_, rfl, fun _ st => run_name hj5⟩, hMm2, hFm2⟩
    · skip
      have eo : hereP bt n s = nI 40 := c3
      obtain ⟨hl0, hn0⟩ := hereP_lt eo (nI_m1 (by decide))
      refine v_aload_n K dX10_unit_17 rfl ?_
      refine v_geti (x := nI s.2.2) K fX10_94 sh_118 pl_118 hM.1.2.2 dX10_unit_18 ?_
      refine v_iconstN K 5 rfl dX10_unit_21 ?_
      refine v_icmpN_ne (tgt := 30) K (by omega) (by omega) dX10_unit_22 rfl (fun c9 => ?_) (fun c9 => ?_)
      · skip
        exact absurd (by have := hO.2.2; omega) c9
      · skip
        refine v_aload_n K dX10_unit_25 rfl ?_
        refine v_callV (As := []) K (c_X10_wrong h bt n B u nm s hX hM) lX10_97 ck_X10 rfl sh_118 pl_118 rfl ⟨by decide, by decide⟩ (Nat.le_of_ble_eq_true rfl) dX10_unit_26 (fun r9 h9 hp9 => ?_) rfl
        obtain ⟨rfl, hMq4, hFaq4⟩ := hp9
        have hFq4 := FrP.t (FrP.r (h := h)) hFaq4
        have hXq4 := PX.fr hX hFq4
        refine v_some ?_
        refine v_iret K dX10_unit_29 ?_
        have e2 : (unitP bt n u 0) s = ([], wrongP s) := by rw [unit_e0, if_pos (by first | exact Or.inl eo | exact Or.inr eo)]
        show (∃ v, _ ∧ (((unitP bt n u 0) s).2.2.1 = none → ∀ st, runL ((unitP bt n u 0) s).1 nm st = v :: st)) ∧ PM _ n ((unitP bt n u 0) s).2 ∧ _
        rw [e2]
        exact ⟨⟨_, rfl, fun q => absurd q wrong_some⟩, hMq4, hFq4⟩

abbrev P_X10_product_0 (h : Mm) (bt : Nat → Int32) (n B u : Nat) (nm : Nat → Int32) (s : PSt) : Option Value → Mm → Prop := fun r h2 => (∃ v, r = some (.int v) ∧ (((prodP bt n (unitP bt n u 0)) s).2.2.1 = none → ∀ st, runL ((prodP bt n (unitP bt n u 0)) s).1 nm st = v :: st)) ∧ PM h2 n ((prodP bt n (unitP bt n u 0)) s).2 ∧ FrP h h2
theorem c_X10_product_0 {l : Launch} (h : Mm) (bt : Nat → Int32) (n B u : Nat) (nm : Nat → Int32) (s : PSt) (hX : PX h bt n B u nm) (hM : PM h n s) (hO : OKs n 0 s) : Con l yX10_product cX10_product 4 (some .int) 2 49 132 GL h [.ref 118] (P_X10_product_0 h bt n B u nm s) := by
  refine Con.ofV (own := "FoxRoundsModel") (nm := "product") rfl rfl (by decide) (Nat.le_of_ble_eq_true rfl) ?_
  intro κ ρ hkl K
  subst hkl
  show V κ (QM κ (132, ρ, GL, 0, 0) (P_X10_product_0 h bt n B u nm s)) 4 (132, ρ, GL, 0, 0) h 0 [(0, .ref 118)] []
  have hn50 := hX.2.2.2.2.2.1
  have hBn := hX.2.2.2.2.1
  have hsn := hM.2.1
  have hs5 := hM.2.2.1
  refine v_aload_n K dX10_product_0 rfl ?_
  refine v_callV (As := []) K (c_X10_unit_0 h bt n B u nm s hX hM hO) lX10_91 ck_X10 rfl sh_118 pl_118 rfl ⟨by decide, by decide⟩ (Nat.le_of_ble_eq_true rfl) dX10_product_1 (fun r1 h1 hp1 => ?_) rfl
  obtain ⟨⟨v1, rfl, hvq1⟩, hMq1, hFaq1⟩ := hp1
  have hFq1 := FrP.t (FrP.r (h := h)) hFaq1
  have hXq1 := PX.fr hX hFq1
  have hGq1 : GP n s ((unitP bt n u 0) s).2 := (unit_good (bt := bt) (n := n) (u := u) 0) _ hO
  refine v_some ?_
  refine v_istore_n (lv2 := [(1, .int v1), (0, .ref 118)]) K dX10_product_4 (by decide) rfl ?_
  have L5 : ∀ (mm : Nat) (f : Nat) (cs : List Int32) (t : PSt) (v : Int32) (h1 : Mm) (hG : GP n s t) (hM1 : PM h1 n t) (hF1 : FrP h h1) (hv : t.2.1 = none → ∀ st, runL cs nm st = v :: st) (he : (prodP bt n (unitP bt n u 0)) s = loopP bt n [nI 42, nI 47, nI 37] (unitP bt n u 0) f cs t) (hfu : n + 1 ≤ f + t.1), f < mm → V κ (QM κ (132, ρ, GL, 0, 0) (P_X10_product_0 h bt n B u nm s)) 4 (132, ρ, GL, 0, 0) h1 5 [(0, .ref 118), (1, .int v)] [] := by
    intro mm
    induction mm with
    | zero => intro f cs t v h1 hG hM1 hF1 hv he hfu hmm; exact absurd hmm (Nat.not_lt_zero _)
    | succ mm ih5 =>
      intro f cs t v h1 hG hM1 hF1 hv he hfu hmm
      have hX1 := PX.fr hX hF1
      have htn := hM1.2.1
      have ht5 := hM1.2.2.1
      obtain ⟨f, rfl⟩ : ∃ f0, f = f0 + 1 := ⟨f - 1, by omega⟩
      refine v_aload_n K dX10_product_5 rfl ?_
      refine v_callV (As := []) K (c_X10_here h1 bt n B u nm t hX1 hM1) lX10_68 ck_X10 rfl sh_118 pl_118 rfl ⟨by decide, by decide⟩ (Nat.le_of_ble_eq_true rfl) dX10_product_6 (fun r2 h2 hp2 => ?_) rfl
      obtain ⟨rfl, rfl⟩ := hp2
      refine v_some ?_
      refine v_bipushN K 42 rfl dX10_product_9 ?_
      refine v_icmp_eq (tgt := 32) K dX10_product_11 rfl (fun c1 => ?_) (fun c1 => ?_)
      · skip
        have eo : hereP bt n t = nI 42 := c1
        obtain ⟨hl0, hn0⟩ := hereP_lt eo (nI_m1 (by decide))
        have hG0 := hG
        refine v_aload_n K dX10_product_32 rfl ?_
        refine v_callV (As := []) K (c_X10_here h1 bt n B u nm t hX1 hM1) lX10_68 ck_X10 rfl sh_118 pl_118 rfl ⟨by decide, by decide⟩ (Nat.le_of_ble_eq_true rfl) dX10_product_33 (fun r3 h3 hp3 => ?_) rfl
        obtain ⟨rfl, rfl⟩ := hp3
        refine v_some ?_
        refine v_istore_n (lv2 := [(2, .int (hereP bt n t)), (0, .ref 118), (1, .int v)]) K dX10_product_36 (by decide) rfl ?_
        refine v_aload_n K dX10_product_37 rfl ?_
        refine v_dup K dX10_product_38 rfl ?_
        refine v_geti (x := nI t.1) K fX10_55 sh_118 pl_118 hM1.1.1 dX10_product_39 ?_
        refine v_iconstN K 1 rfl dX10_product_42 ?_
        refine v_iaddN K dX10_product_43 ?_
        refine v_puti K pX10_55 sh_118 pl_118 dX10_product_44 ?_
        have hMm1 : PM (u2 h1 118 6 (nI (t.1 + 1))) n (advP t) := hM1.adv hl0
        have hFm1 : FrP h (u2 h1 118 6 (nI (t.1 + 1))) := FrP.u hF1 (by omega)
        have hXm1 := PX.fr hX hFm1
        refine v_aload_n K dX10_product_47 rfl ?_
        refine v_callV (As := []) K (c_X10_unit_0 ((u2 h1 118 6 (nI (t.1 + 1)))) bt n B u nm ((advP t)) hXm1 hMm1 ((hO.on hG0 hn0).adv hl0)) lX10_91 ck_X10 rfl sh_118 pl_118 rfl ⟨by decide, by decide⟩ (Nat.le_of_ble_eq_true rfl) dX10_product_48 (fun r4 h4 hp4 => ?_) rfl
        obtain ⟨⟨v2, rfl, hvq2⟩, hMq2, hFaq2⟩ := hp4
        have hFq2 := FrP.t hFm1 hFaq2
        have hXq2 := PX.fr hX hFq2
        have hGq2 : GP n (advP t) ((unitP bt n u 0) (advP t)).2 := (unit_good (bt := bt) (n := n) (u := u) 0) _ ((hO.on hG0 hn0).adv hl0)
        refine v_some ?_
        refine v_istore_n (lv2 := [(3, .int v2), (2, .int (hereP bt n t)), (0, .ref 118), (1, .int v)]) K dX10_product_51 (by decide) rfl ?_
        refine v_iload_n K dX10_product_52 rfl ?_
        refine v_bipushN K 42 rfl dX10_product_53 ?_
        refine v_icmp_ne (tgt := 64) K dX10_product_55 rfl (fun c2 => ?_) (fun c2 => ?_)
        · skip
          exact absurd eo c2
        · skip
          refine v_iload_n K dX10_product_58 rfl ?_
          refine v_iload_n K dX10_product_59 rfl ?_
          refine v_imul K dX10_product_60 ?_
          refine v_goto (tgt := 87) K dX10_product_61 rfl ?_
          refine v_top (y := joinR (nI 42) v v2) (by rw [j42]) ?_
          refine v_istore_n (lv2 := [(1, .int (joinR (nI 42) v v2)), (3, .int v2), (2, .int (hereP bt n t)), (0, .ref 118)]) K dX10_product_87 (by decide) rfl ?_
          refine v_goto (tgt := 5) K dX10_product_88 rfl ?_
          refine v_sub (lv2 := [(0, .ref 118), (1, .int (joinR (nI 42) v v2))]) (by simp) ?_
          exact ih5 f ((cs ++ ((unitP bt n u 0) (advP t)).1 ++ [-hereP bt n t])) (((unitP bt n u 0) (advP t)).2) (joinR (nI 42) v v2) h4 (by exact hG0.tr hn0 ((GP.adv (hO.on hG0 hn0) hl0).tr hn0 hGq2)) (by exact hMq2) (by exact hFq2) (by intro hn2; rw [eo]; exact val_on (by decide) (hv hn0) (hvq2 hn2) rfl) (by rw [he, loop_on (by rw [eo]; decide)]) (by have h1 : (advP t).1 = t.1 + 1 := rfl; have h2 := hGq2.1; omega) (by omega)
      · skip
        refine v_aload_n K dX10_product_14 rfl ?_
        refine v_callV (As := []) K (c_X10_here h1 bt n B u nm t hX1 hM1) lX10_68 ck_X10 rfl sh_118 pl_118 rfl ⟨by decide, by decide⟩ (Nat.le_of_ble_eq_true rfl) dX10_product_15 (fun r5 h5 hp5 => ?_) rfl
        obtain ⟨rfl, rfl⟩ := hp5
        refine v_some ?_
        refine v_bipushN K 47 rfl dX10_product_18 ?_
        refine v_icmp_eq (tgt := 32) K dX10_product_20 rfl (fun c3 => ?_) (fun c3 => ?_)
        · skip
          have eo : hereP bt n t = nI 47 := c3
          obtain ⟨hl0, hn0⟩ := hereP_lt eo (nI_m1 (by decide))
          have hG0 := hG
          refine v_aload_n K dX10_product_32 rfl ?_
          refine v_callV (As := []) K (c_X10_here h1 bt n B u nm t hX1 hM1) lX10_68 ck_X10 rfl sh_118 pl_118 rfl ⟨by decide, by decide⟩ (Nat.le_of_ble_eq_true rfl) dX10_product_33 (fun r6 h6 hp6 => ?_) rfl
          obtain ⟨rfl, rfl⟩ := hp6
          refine v_some ?_
          refine v_istore_n (lv2 := [(2, .int (hereP bt n t)), (0, .ref 118), (1, .int v)]) K dX10_product_36 (by decide) rfl ?_
          refine v_aload_n K dX10_product_37 rfl ?_
          refine v_dup K dX10_product_38 rfl ?_
          refine v_geti (x := nI t.1) K fX10_55 sh_118 pl_118 hM1.1.1 dX10_product_39 ?_
          refine v_iconstN K 1 rfl dX10_product_42 ?_
          refine v_iaddN K dX10_product_43 ?_
          refine v_puti K pX10_55 sh_118 pl_118 dX10_product_44 ?_
          have hMm2 : PM (u2 h1 118 6 (nI (t.1 + 1))) n (advP t) := hM1.adv hl0
          have hFm2 : FrP h (u2 h1 118 6 (nI (t.1 + 1))) := FrP.u hF1 (by omega)
          have hXm2 := PX.fr hX hFm2
          refine v_aload_n K dX10_product_47 rfl ?_
          refine v_callV (As := []) K (c_X10_unit_0 ((u2 h1 118 6 (nI (t.1 + 1)))) bt n B u nm ((advP t)) hXm2 hMm2 ((hO.on hG0 hn0).adv hl0)) lX10_91 ck_X10 rfl sh_118 pl_118 rfl ⟨by decide, by decide⟩ (Nat.le_of_ble_eq_true rfl) dX10_product_48 (fun r7 h7 hp7 => ?_) rfl
          obtain ⟨⟨v3, rfl, hvq3⟩, hMq3, hFaq3⟩ := hp7
          have hFq3 := FrP.t hFm2 hFaq3
          have hXq3 := PX.fr hX hFq3
          have hGq3 : GP n (advP t) ((unitP bt n u 0) (advP t)).2 := (unit_good (bt := bt) (n := n) (u := u) 0) _ ((hO.on hG0 hn0).adv hl0)
          refine v_some ?_
          refine v_istore_n (lv2 := [(3, .int v3), (2, .int (hereP bt n t)), (0, .ref 118), (1, .int v)]) K dX10_product_51 (by decide) rfl ?_
          refine v_iload_n K dX10_product_52 rfl ?_
          refine v_bipushN K 42 rfl dX10_product_53 ?_
          refine v_icmp_ne (tgt := 64) K dX10_product_55 rfl (fun c4 => ?_) (fun c4 => ?_)
          · skip
            refine v_iload_n K dX10_product_64 rfl ?_
            refine v_if_ne (tgt := 72) K dX10_product_65 rfl (fun c5 => ?_) (fun c5 => ?_)
            · skip
              refine v_iload_n K dX10_product_72 rfl ?_
              refine v_bipushN K 47 rfl dX10_product_73 ?_
              refine v_icmp_ne (tgt := 84) K dX10_product_75 rfl (fun c6 => ?_) (fun c6 => ?_)
              · skip
                exact absurd eo c6
              · skip
                refine v_iload_n K dX10_product_78 rfl ?_
                refine v_iload_n K dX10_product_79 rfl ?_
                refine v_idiv K dX10_product_80 (by assumption) ?_
                refine v_goto (tgt := 87) K dX10_product_81 rfl ?_
                refine v_top (y := joinR (nI 47) v v3) (by rw [j47, if_neg c5]) ?_
                refine v_istore_n (lv2 := [(1, .int (joinR (nI 47) v v3)), (3, .int v3), (2, .int (hereP bt n t)), (0, .ref 118)]) K dX10_product_87 (by decide) rfl ?_
                refine v_goto (tgt := 5) K dX10_product_88 rfl ?_
                refine v_sub (lv2 := [(0, .ref 118), (1, .int (joinR (nI 47) v v3))]) (by simp) ?_
                exact ih5 f ((cs ++ ((unitP bt n u 0) (advP t)).1 ++ [-hereP bt n t])) (((unitP bt n u 0) (advP t)).2) (joinR (nI 47) v v3) h7 (by exact hG0.tr hn0 ((GP.adv (hO.on hG0 hn0) hl0).tr hn0 hGq3)) (by exact hMq3) (by exact hFq3) (by intro hn2; rw [eo]; exact val_on (by decide) (hv hn0) (hvq3 hn2) rfl) (by rw [he, loop_on (by rw [eo]; decide)]) (by have h1 : (advP t).1 = t.1 + 1 := rfl; have h2 := hGq3.1; omega) (by omega)
            · skip
              refine v_iconstN K 0 rfl dX10_product_68 ?_
              refine v_goto (tgt := 87) K dX10_product_69 rfl ?_
              refine v_top (y := joinR (nI 47) v v3) (by rw [j47, if_pos c5]) ?_
              refine v_istore_n (lv2 := [(1, .int (joinR (nI 47) v v3)), (3, .int v3), (2, .int (hereP bt n t)), (0, .ref 118)]) K dX10_product_87 (by decide) rfl ?_
              refine v_goto (tgt := 5) K dX10_product_88 rfl ?_
              refine v_sub (lv2 := [(0, .ref 118), (1, .int (joinR (nI 47) v v3))]) (by simp) ?_
              exact ih5 f ((cs ++ ((unitP bt n u 0) (advP t)).1 ++ [-hereP bt n t])) (((unitP bt n u 0) (advP t)).2) (joinR (nI 47) v v3) h7 (by exact hG0.tr hn0 ((GP.adv (hO.on hG0 hn0) hl0).tr hn0 hGq3)) (by exact hMq3) (by exact hFq3) (by intro hn2; rw [eo]; exact val_on (by decide) (hv hn0) (hvq3 hn2) rfl) (by rw [he, loop_on (by rw [eo]; decide)]) (by have h1 : (advP t).1 = t.1 + 1 := rfl; have h2 := hGq3.1; omega) (by omega)
          · skip
            exact absurd (c4.symm.trans eo) (by decide)
        · skip
          refine v_aload_n K dX10_product_23 rfl ?_
          refine v_callV (As := []) K (c_X10_here h1 bt n B u nm t hX1 hM1) lX10_68 ck_X10 rfl sh_118 pl_118 rfl ⟨by decide, by decide⟩ (Nat.le_of_ble_eq_true rfl) dX10_product_24 (fun r8 h8 hp8 => ?_) rfl
          obtain ⟨rfl, rfl⟩ := hp8
          refine v_some ?_
          refine v_bipushN K 37 rfl dX10_product_27 ?_
          refine v_icmp_ne (tgt := 91) K dX10_product_29 rfl (fun c7 => ?_) (fun c7 => ?_)
          · skip
            refine v_iload_n K dX10_product_91 rfl ?_
            refine v_iret K dX10_product_92 ?_
            have e2 : (prodP bt n (unitP bt n u 0)) s = (cs, t) := by rw [he, loop_off (by simp only [List.mem_cons, List.not_mem_nil, or_false, not_or]; exact ⟨c1, c3, c7⟩)]
            show (∃ v, _ ∧ (((prodP bt n (unitP bt n u 0)) s).2.2.1 = none → ∀ st, runL ((prodP bt n (unitP bt n u 0)) s).1 nm st = v :: st)) ∧ PM _ n ((prodP bt n (unitP bt n u 0)) s).2 ∧ _
            rw [e2]
            exact ⟨⟨v, rfl, hv⟩, hM1, hF1⟩
          · skip
            have eo : hereP bt n t = nI 37 := c7
            obtain ⟨hl0, hn0⟩ := hereP_lt eo (nI_m1 (by decide))
            have hG0 := hG
            refine v_aload_n K dX10_product_32 rfl ?_
            refine v_callV (As := []) K (c_X10_here h1 bt n B u nm t hX1 hM1) lX10_68 ck_X10 rfl sh_118 pl_118 rfl ⟨by decide, by decide⟩ (Nat.le_of_ble_eq_true rfl) dX10_product_33 (fun r9 h9 hp9 => ?_) rfl
            obtain ⟨rfl, rfl⟩ := hp9
            refine v_some ?_
            refine v_istore_n (lv2 := [(2, .int (hereP bt n t)), (0, .ref 118), (1, .int v)]) K dX10_product_36 (by decide) rfl ?_
            refine v_aload_n K dX10_product_37 rfl ?_
            refine v_dup K dX10_product_38 rfl ?_
            refine v_geti (x := nI t.1) K fX10_55 sh_118 pl_118 hM1.1.1 dX10_product_39 ?_
            refine v_iconstN K 1 rfl dX10_product_42 ?_
            refine v_iaddN K dX10_product_43 ?_
            refine v_puti K pX10_55 sh_118 pl_118 dX10_product_44 ?_
            have hMm3 : PM (u2 h1 118 6 (nI (t.1 + 1))) n (advP t) := hM1.adv hl0
            have hFm3 : FrP h (u2 h1 118 6 (nI (t.1 + 1))) := FrP.u hF1 (by omega)
            have hXm3 := PX.fr hX hFm3
            refine v_aload_n K dX10_product_47 rfl ?_
            refine v_callV (As := []) K (c_X10_unit_0 ((u2 h1 118 6 (nI (t.1 + 1)))) bt n B u nm ((advP t)) hXm3 hMm3 ((hO.on hG0 hn0).adv hl0)) lX10_91 ck_X10 rfl sh_118 pl_118 rfl ⟨by decide, by decide⟩ (Nat.le_of_ble_eq_true rfl) dX10_product_48 (fun r10 h10 hp10 => ?_) rfl
            obtain ⟨⟨v4, rfl, hvq4⟩, hMq4, hFaq4⟩ := hp10
            have hFq4 := FrP.t hFm3 hFaq4
            have hXq4 := PX.fr hX hFq4
            have hGq4 : GP n (advP t) ((unitP bt n u 0) (advP t)).2 := (unit_good (bt := bt) (n := n) (u := u) 0) _ ((hO.on hG0 hn0).adv hl0)
            refine v_some ?_
            refine v_istore_n (lv2 := [(3, .int v4), (2, .int (hereP bt n t)), (0, .ref 118), (1, .int v)]) K dX10_product_51 (by decide) rfl ?_
            refine v_iload_n K dX10_product_52 rfl ?_
            refine v_bipushN K 42 rfl dX10_product_53 ?_
            refine v_icmp_ne (tgt := 64) K dX10_product_55 rfl (fun c8 => ?_) (fun c8 => ?_)
            · skip
              refine v_iload_n K dX10_product_64 rfl ?_
              refine v_if_ne (tgt := 72) K dX10_product_65 rfl (fun c9 => ?_) (fun c9 => ?_)
              · skip
                refine v_iload_n K dX10_product_72 rfl ?_
                refine v_bipushN K 47 rfl dX10_product_73 ?_
                refine v_icmp_ne (tgt := 84) K dX10_product_75 rfl (fun c10 => ?_) (fun c10 => ?_)
                · skip
                  refine v_iload_n K dX10_product_84 rfl ?_
                  refine v_iload_n K dX10_product_85 rfl ?_
                  refine v_irem K dX10_product_86 (by assumption) ?_
                  refine v_top (y := joinR (nI 37) v v4) (by rw [j37, if_neg c9]) ?_
                  refine v_istore_n (lv2 := [(1, .int (joinR (nI 37) v v4)), (3, .int v4), (2, .int (hereP bt n t)), (0, .ref 118)]) K dX10_product_87 (by decide) rfl ?_
                  refine v_goto (tgt := 5) K dX10_product_88 rfl ?_
                  refine v_sub (lv2 := [(0, .ref 118), (1, .int (joinR (nI 37) v v4))]) (by simp) ?_
                  exact ih5 f ((cs ++ ((unitP bt n u 0) (advP t)).1 ++ [-hereP bt n t])) (((unitP bt n u 0) (advP t)).2) (joinR (nI 37) v v4) h10 (by exact hG0.tr hn0 ((GP.adv (hO.on hG0 hn0) hl0).tr hn0 hGq4)) (by exact hMq4) (by exact hFq4) (by intro hn2; rw [eo]; exact val_on (by decide) (hv hn0) (hvq4 hn2) rfl) (by rw [he, loop_on (by rw [eo]; decide)]) (by have h1 : (advP t).1 = t.1 + 1 := rfl; have h2 := hGq4.1; omega) (by omega)
                · skip
                  exact absurd (c10.symm.trans eo) (by decide)
              · skip
                refine v_iconstN K 0 rfl dX10_product_68 ?_
                refine v_goto (tgt := 87) K dX10_product_69 rfl ?_
                refine v_top (y := joinR (nI 37) v v4) (by rw [j37, if_pos c9]) ?_
                refine v_istore_n (lv2 := [(1, .int (joinR (nI 37) v v4)), (3, .int v4), (2, .int (hereP bt n t)), (0, .ref 118)]) K dX10_product_87 (by decide) rfl ?_
                refine v_goto (tgt := 5) K dX10_product_88 rfl ?_
                refine v_sub (lv2 := [(0, .ref 118), (1, .int (joinR (nI 37) v v4))]) (by simp) ?_
                exact ih5 f ((cs ++ ((unitP bt n u 0) (advP t)).1 ++ [-hereP bt n t])) (((unitP bt n u 0) (advP t)).2) (joinR (nI 37) v v4) h10 (by exact hG0.tr hn0 ((GP.adv (hO.on hG0 hn0) hl0).tr hn0 hGq4)) (by exact hMq4) (by exact hFq4) (by intro hn2; rw [eo]; exact val_on (by decide) (hv hn0) (hvq4 hn2) rfl) (by rw [he, loop_on (by rw [eo]; decide)]) (by have h1 : (advP t).1 = t.1 + 1 := rfl; have h2 := hGq4.1; omega) (by omega)
            · skip
              exact absurd (c8.symm.trans eo) (by decide)
  refine v_sub (lv2 := [(0, .ref 118), (1, .int v1)]) (by simp) ?_
  exact L5 (52 + 1) 52 (((unitP bt n u 0) s).1) (((unitP bt n u 0) s).2) v1 h1 (by exact hGq1) (by exact hMq1) (by exact hFq1) (by exact hvq1) (by rfl) (by omega) (Nat.lt_succ_self _)

abbrev P_X10_sum_0 (h : Mm) (bt : Nat → Int32) (n B u : Nat) (nm : Nat → Int32) (s : PSt) : Option Value → Mm → Prop := fun r h2 => (∃ v, r = some (.int v) ∧ (((sumP bt n (unitP bt n u 0)) s).2.2.1 = none → ∀ st, runL ((sumP bt n (unitP bt n u 0)) s).1 nm st = v :: st)) ∧ PM h2 n ((sumP bt n (unitP bt n u 0)) s).2 ∧ FrP h h2
theorem c_X10_sum_0 {l : Launch} (h : Mm) (bt : Nat → Int32) (n B u : Nat) (nm : Nat → Int32) (s : PSt) (hX : PX h bt n B u nm) (hM : PM h n s) (hO : OKs n 0 s) : Con l yX10_sum cX10_sum 4 (some .int) 3 72 132 GL h [.ref 118] (P_X10_sum_0 h bt n B u nm s) := by
  refine Con.ofV (own := "FoxRoundsModel") (nm := "sum") rfl rfl (by decide) (Nat.le_of_ble_eq_true rfl) ?_
  intro κ ρ hkl K
  subst hkl
  show V κ (QM κ (132, ρ, GL, 0, 0) (P_X10_sum_0 h bt n B u nm s)) 4 (132, ρ, GL, 0, 0) h 0 [(0, .ref 118)] []
  have hn50 := hX.2.2.2.2.2.1
  have hBn := hX.2.2.2.2.1
  have hsn := hM.2.1
  have hs5 := hM.2.2.1
  refine v_aload_n K dX10_sum_0 rfl ?_
  refine v_callV (As := []) K (c_X10_product_0 h bt n B u nm s hX hM hO) lX10_88 ck_X10 rfl sh_118 pl_118 rfl ⟨by decide, by decide⟩ (Nat.le_of_ble_eq_true rfl) dX10_sum_1 (fun r1 h1 hp1 => ?_) rfl
  obtain ⟨⟨v1, rfl, hvq1⟩, hMq1, hFaq1⟩ := hp1
  have hFq1 := FrP.t (FrP.r (h := h)) hFaq1
  have hXq1 := PX.fr hX hFq1
  have hGq1 : GP n s ((prodP bt n (unitP bt n u 0)) s).2 := (row_good (unit_good (bt := bt) (n := n) (u := u) 0) (by decide)) _ hO
  refine v_some ?_
  refine v_istore_n (lv2 := [(1, .int v1), (0, .ref 118)]) K dX10_sum_4 (by decide) rfl ?_
  have L5 : ∀ (mm : Nat) (f : Nat) (cs : List Int32) (t : PSt) (v : Int32) (h1 : Mm) (hG : GP n s t) (hM1 : PM h1 n t) (hF1 : FrP h h1) (hv : t.2.1 = none → ∀ st, runL cs nm st = v :: st) (he : (sumP bt n (unitP bt n u 0)) s = loopP bt n [nI 43, nI 45] (prodP bt n (unitP bt n u 0)) f cs t) (hfu : n + 1 ≤ f + t.1), f < mm → V κ (QM κ (132, ρ, GL, 0, 0) (P_X10_sum_0 h bt n B u nm s)) 4 (132, ρ, GL, 0, 0) h1 5 [(0, .ref 118), (1, .int v)] [] := by
    intro mm
    induction mm with
    | zero => intro f cs t v h1 hG hM1 hF1 hv he hfu hmm; exact absurd hmm (Nat.not_lt_zero _)
    | succ mm ih5 =>
      intro f cs t v h1 hG hM1 hF1 hv he hfu hmm
      have hX1 := PX.fr hX hF1
      have htn := hM1.2.1
      have ht5 := hM1.2.2.1
      obtain ⟨f, rfl⟩ : ∃ f0, f = f0 + 1 := ⟨f - 1, by omega⟩
      refine v_aload_n K dX10_sum_5 rfl ?_
      refine v_callV (As := []) K (c_X10_here h1 bt n B u nm t hX1 hM1) lX10_68 ck_X10 rfl sh_118 pl_118 rfl ⟨by decide, by decide⟩ (Nat.le_of_ble_eq_true rfl) dX10_sum_6 (fun r2 h2 hp2 => ?_) rfl
      obtain ⟨rfl, rfl⟩ := hp2
      refine v_some ?_
      refine v_bipushN K 43 rfl dX10_sum_9 ?_
      refine v_icmp_eq (tgt := 23) K dX10_sum_11 rfl (fun c1 => ?_) (fun c1 => ?_)
      · skip
        have eo : hereP bt n t = nI 43 := c1
        obtain ⟨hl0, hn0⟩ := hereP_lt eo (nI_m1 (by decide))
        have hG0 := hG
        refine v_aload_n K dX10_sum_23 rfl ?_
        refine v_callV (As := []) K (c_X10_here h1 bt n B u nm t hX1 hM1) lX10_68 ck_X10 rfl sh_118 pl_118 rfl ⟨by decide, by decide⟩ (Nat.le_of_ble_eq_true rfl) dX10_sum_24 (fun r3 h3 hp3 => ?_) rfl
        obtain ⟨rfl, rfl⟩ := hp3
        refine v_some ?_
        refine v_istore_n (lv2 := [(2, .int (hereP bt n t)), (0, .ref 118), (1, .int v)]) K dX10_sum_27 (by decide) rfl ?_
        refine v_aload_n K dX10_sum_28 rfl ?_
        refine v_dup K dX10_sum_29 rfl ?_
        refine v_geti (x := nI t.1) K fX10_55 sh_118 pl_118 hM1.1.1 dX10_sum_30 ?_
        refine v_iconstN K 1 rfl dX10_sum_33 ?_
        refine v_iaddN K dX10_sum_34 ?_
        refine v_puti K pX10_55 sh_118 pl_118 dX10_sum_35 ?_
        have hMm1 : PM (u2 h1 118 6 (nI (t.1 + 1))) n (advP t) := hM1.adv hl0
        have hFm1 : FrP h (u2 h1 118 6 (nI (t.1 + 1))) := FrP.u hF1 (by omega)
        have hXm1 := PX.fr hX hFm1
        refine v_aload_n K dX10_sum_38 rfl ?_
        refine v_callV (As := []) K (c_X10_product_0 ((u2 h1 118 6 (nI (t.1 + 1)))) bt n B u nm ((advP t)) hXm1 hMm1 ((hO.on hG0 hn0).adv hl0)) lX10_88 ck_X10 rfl sh_118 pl_118 rfl ⟨by decide, by decide⟩ (Nat.le_of_ble_eq_true rfl) dX10_sum_39 (fun r4 h4 hp4 => ?_) rfl
        obtain ⟨⟨v2, rfl, hvq2⟩, hMq2, hFaq2⟩ := hp4
        have hFq2 := FrP.t hFm1 hFaq2
        have hXq2 := PX.fr hX hFq2
        have hGq2 : GP n (advP t) ((prodP bt n (unitP bt n u 0)) (advP t)).2 := (row_good (unit_good (bt := bt) (n := n) (u := u) 0) (by decide)) _ ((hO.on hG0 hn0).adv hl0)
        refine v_some ?_
        refine v_istore_n (lv2 := [(3, .int v2), (2, .int (hereP bt n t)), (0, .ref 118), (1, .int v)]) K dX10_sum_42 (by decide) rfl ?_
        refine v_iload_n K dX10_sum_43 rfl ?_
        refine v_bipushN K 43 rfl dX10_sum_44 ?_
        refine v_icmp_ne (tgt := 55) K dX10_sum_46 rfl (fun c2 => ?_) (fun c2 => ?_)
        · skip
          exact absurd eo c2
        · skip
          refine v_iload_n K dX10_sum_49 rfl ?_
          refine v_iload_n K dX10_sum_50 rfl ?_
          refine v_iadd K dX10_sum_51 ?_
          refine v_goto (tgt := 58) K dX10_sum_52 rfl ?_
          refine v_top (y := joinR (nI 43) v v2) (by rw [j43]) ?_
          refine v_istore_n (lv2 := [(1, .int (joinR (nI 43) v v2)), (3, .int v2), (2, .int (hereP bt n t)), (0, .ref 118)]) K dX10_sum_58 (by decide) rfl ?_
          refine v_goto (tgt := 5) K dX10_sum_59 rfl ?_
          refine v_sub (lv2 := [(0, .ref 118), (1, .int (joinR (nI 43) v v2))]) (by simp) ?_
          exact ih5 f ((cs ++ ((prodP bt n (unitP bt n u 0)) (advP t)).1 ++ [-hereP bt n t])) (((prodP bt n (unitP bt n u 0)) (advP t)).2) (joinR (nI 43) v v2) h4 (by exact hG0.tr hn0 ((GP.adv (hO.on hG0 hn0) hl0).tr hn0 hGq2)) (by exact hMq2) (by exact hFq2) (by intro hn2; rw [eo]; exact val_on (by decide) (hv hn0) (hvq2 hn2) rfl) (by rw [he, loop_on (by rw [eo]; decide)]) (by have h1 : (advP t).1 = t.1 + 1 := rfl; have h2 := hGq2.1; omega) (by omega)
      · skip
        refine v_aload_n K dX10_sum_14 rfl ?_
        refine v_callV (As := []) K (c_X10_here h1 bt n B u nm t hX1 hM1) lX10_68 ck_X10 rfl sh_118 pl_118 rfl ⟨by decide, by decide⟩ (Nat.le_of_ble_eq_true rfl) dX10_sum_15 (fun r5 h5 hp5 => ?_) rfl
        obtain ⟨rfl, rfl⟩ := hp5
        refine v_some ?_
        refine v_bipushN K 45 rfl dX10_sum_18 ?_
        refine v_icmp_ne (tgt := 62) K dX10_sum_20 rfl (fun c3 => ?_) (fun c3 => ?_)
        · skip
          refine v_iload_n K dX10_sum_62 rfl ?_
          refine v_iret K dX10_sum_63 ?_
          have e2 : (sumP bt n (unitP bt n u 0)) s = (cs, t) := by rw [he, loop_off (by simp only [List.mem_cons, List.not_mem_nil, or_false, not_or]; exact ⟨c1, c3⟩)]
          show (∃ v, _ ∧ (((sumP bt n (unitP bt n u 0)) s).2.2.1 = none → ∀ st, runL ((sumP bt n (unitP bt n u 0)) s).1 nm st = v :: st)) ∧ PM _ n ((sumP bt n (unitP bt n u 0)) s).2 ∧ _
          rw [e2]
          exact ⟨⟨v, rfl, hv⟩, hM1, hF1⟩
        · skip
          have eo : hereP bt n t = nI 45 := c3
          obtain ⟨hl0, hn0⟩ := hereP_lt eo (nI_m1 (by decide))
          have hG0 := hG
          refine v_aload_n K dX10_sum_23 rfl ?_
          refine v_callV (As := []) K (c_X10_here h1 bt n B u nm t hX1 hM1) lX10_68 ck_X10 rfl sh_118 pl_118 rfl ⟨by decide, by decide⟩ (Nat.le_of_ble_eq_true rfl) dX10_sum_24 (fun r6 h6 hp6 => ?_) rfl
          obtain ⟨rfl, rfl⟩ := hp6
          refine v_some ?_
          refine v_istore_n (lv2 := [(2, .int (hereP bt n t)), (0, .ref 118), (1, .int v)]) K dX10_sum_27 (by decide) rfl ?_
          refine v_aload_n K dX10_sum_28 rfl ?_
          refine v_dup K dX10_sum_29 rfl ?_
          refine v_geti (x := nI t.1) K fX10_55 sh_118 pl_118 hM1.1.1 dX10_sum_30 ?_
          refine v_iconstN K 1 rfl dX10_sum_33 ?_
          refine v_iaddN K dX10_sum_34 ?_
          refine v_puti K pX10_55 sh_118 pl_118 dX10_sum_35 ?_
          have hMm2 : PM (u2 h1 118 6 (nI (t.1 + 1))) n (advP t) := hM1.adv hl0
          have hFm2 : FrP h (u2 h1 118 6 (nI (t.1 + 1))) := FrP.u hF1 (by omega)
          have hXm2 := PX.fr hX hFm2
          refine v_aload_n K dX10_sum_38 rfl ?_
          refine v_callV (As := []) K (c_X10_product_0 ((u2 h1 118 6 (nI (t.1 + 1)))) bt n B u nm ((advP t)) hXm2 hMm2 ((hO.on hG0 hn0).adv hl0)) lX10_88 ck_X10 rfl sh_118 pl_118 rfl ⟨by decide, by decide⟩ (Nat.le_of_ble_eq_true rfl) dX10_sum_39 (fun r7 h7 hp7 => ?_) rfl
          obtain ⟨⟨v3, rfl, hvq3⟩, hMq3, hFaq3⟩ := hp7
          have hFq3 := FrP.t hFm2 hFaq3
          have hXq3 := PX.fr hX hFq3
          have hGq3 : GP n (advP t) ((prodP bt n (unitP bt n u 0)) (advP t)).2 := (row_good (unit_good (bt := bt) (n := n) (u := u) 0) (by decide)) _ ((hO.on hG0 hn0).adv hl0)
          refine v_some ?_
          refine v_istore_n (lv2 := [(3, .int v3), (2, .int (hereP bt n t)), (0, .ref 118), (1, .int v)]) K dX10_sum_42 (by decide) rfl ?_
          refine v_iload_n K dX10_sum_43 rfl ?_
          refine v_bipushN K 43 rfl dX10_sum_44 ?_
          refine v_icmp_ne (tgt := 55) K dX10_sum_46 rfl (fun c4 => ?_) (fun c4 => ?_)
          · skip
            refine v_iload_n K dX10_sum_55 rfl ?_
            refine v_iload_n K dX10_sum_56 rfl ?_
            refine v_isub K dX10_sum_57 ?_
            refine v_top (y := joinR (nI 45) v v3) (by rw [j45]) ?_
            refine v_istore_n (lv2 := [(1, .int (joinR (nI 45) v v3)), (3, .int v3), (2, .int (hereP bt n t)), (0, .ref 118)]) K dX10_sum_58 (by decide) rfl ?_
            refine v_goto (tgt := 5) K dX10_sum_59 rfl ?_
            refine v_sub (lv2 := [(0, .ref 118), (1, .int (joinR (nI 45) v v3))]) (by simp) ?_
            exact ih5 f ((cs ++ ((prodP bt n (unitP bt n u 0)) (advP t)).1 ++ [-hereP bt n t])) (((prodP bt n (unitP bt n u 0)) (advP t)).2) (joinR (nI 45) v v3) h7 (by exact hG0.tr hn0 ((GP.adv (hO.on hG0 hn0) hl0).tr hn0 hGq3)) (by exact hMq3) (by exact hFq3) (by intro hn2; rw [eo]; exact val_on (by decide) (hv hn0) (hvq3 hn2) rfl) (by rw [he, loop_on (by rw [eo]; decide)]) (by have h1 : (advP t).1 = t.1 + 1 := rfl; have h2 := hGq3.1; omega) (by omega)
          · skip
            exact absurd (c4.symm.trans eo) (by decide)
  refine v_sub (lv2 := [(0, .ref 118), (1, .int v1)]) (by simp) ?_
  exact L5 (52 + 1) 52 (((prodP bt n (unitP bt n u 0)) s).1) (((prodP bt n (unitP bt n u 0)) s).2) v1 h1 (by exact hGq1) (by exact hMq1) (by exact hFq1) (by exact hvq1) (by rfl) (by omega) (Nat.lt_succ_self _)

abbrev P_X10_compared_0 (h : Mm) (bt : Nat → Int32) (n B u : Nat) (nm : Nat → Int32) (s : PSt) : Option Value → Mm → Prop := fun r h2 => (∃ v, r = some (.int v) ∧ (((cmpP bt n (sumP bt n (unitP bt n u 0))) s).2.2.1 = none → ∀ st, runL ((cmpP bt n (sumP bt n (unitP bt n u 0))) s).1 nm st = v :: st)) ∧ PM h2 n ((cmpP bt n (sumP bt n (unitP bt n u 0))) s).2 ∧ FrP h h2
theorem c_X10_compared_0 {l : Launch} (h : Mm) (bt : Nat → Int32) (n B u : Nat) (nm : Nat → Int32) (s : PSt) (hX : PX h bt n B u nm) (hM : PM h n s) (hO : OKs n 0 s) : Con l yX10_compared cX10_compared 4 (some .int) 4 95 132 GL h [.ref 118] (P_X10_compared_0 h bt n B u nm s) := by
  refine Con.ofV (own := "FoxRoundsModel") (nm := "compared") rfl rfl (by decide) (Nat.le_of_ble_eq_true rfl) ?_
  intro κ ρ hkl K
  subst hkl
  show V κ (QM κ (132, ρ, GL, 0, 0) (P_X10_compared_0 h bt n B u nm s)) 4 (132, ρ, GL, 0, 0) h 0 [(0, .ref 118)] []
  have hn50 := hX.2.2.2.2.2.1
  have hBn := hX.2.2.2.2.1
  have hsn := hM.2.1
  have hs5 := hM.2.2.1
  refine v_aload_n K dX10_compared_0 rfl ?_
  refine v_callV (As := []) K (c_X10_sum_0 h bt n B u nm s hX hM hO) lX10_85 ck_X10 rfl sh_118 pl_118 rfl ⟨by decide, by decide⟩ (Nat.le_of_ble_eq_true rfl) dX10_compared_1 (fun r1 h1 hp1 => ?_) rfl
  obtain ⟨⟨v1, rfl, hvq1⟩, hMq1, hFaq1⟩ := hp1
  have hFq1 := FrP.t (FrP.r (h := h)) hFaq1
  have hXq1 := PX.fr hX hFq1
  have hGq1 : GP n s ((sumP bt n (unitP bt n u 0)) s).2 := (row_good (row_good (unit_good (bt := bt) (n := n) (u := u) 0) (by decide)) (by decide)) _ hO
  refine v_some ?_
  have hG1 := hGq1
  have hv1 := hvq1
  refine v_istore_n (lv2 := [(1, .int v1), (0, .ref 118)]) K dX10_compared_4 (by decide) rfl ?_
  refine v_aload_n K dX10_compared_5 rfl ?_
  refine v_callV (As := []) K (c_X10_here h1 bt n B u nm (((sumP bt n (unitP bt n u 0)) s).2) hXq1 hMq1) lX10_68 ck_X10 rfl sh_118 pl_118 rfl ⟨by decide, by decide⟩ (Nat.le_of_ble_eq_true rfl) dX10_compared_6 (fun r2 h2 hp2 => ?_) rfl
  obtain ⟨rfl, rfl⟩ := hp2
  refine v_some ?_
  refine v_istore_n (lv2 := [(2, .int (hereP bt n ((sumP bt n (unitP bt n u 0)) s).2)), (1, .int v1), (0, .ref 118)]) K dX10_compared_9 (by decide) rfl ?_
  refine v_iload_n K dX10_compared_10 rfl ?_
  refine v_bipushN K 60 rfl dX10_compared_11 ?_
  refine v_icmp_eq (tgt := 30) K dX10_compared_13 rfl (fun c1 => ?_) (fun c1 => ?_)
  · skip
    have eo : hereP bt n ((sumP bt n (unitP bt n u 0)) s).2 = nI 60 := c1
    obtain ⟨hl0, hn0⟩ := hereP_lt eo (nI_m1 (by decide))
    refine v_aload_n K dX10_compared_30 rfl ?_
    refine v_dup K dX10_compared_31 rfl ?_
    refine v_geti (x := nI (((sumP bt n (unitP bt n u 0)) s).2.1)) K fX10_55 sh_118 pl_118 hMq1.1.1 dX10_compared_32 ?_
    refine v_iconstN K 1 rfl dX10_compared_35 ?_
    refine v_iaddN K dX10_compared_36 ?_
    refine v_puti K pX10_55 sh_118 pl_118 dX10_compared_37 ?_
    have hMm1 : PM (u2 h1 118 6 (nI (((sumP bt n (unitP bt n u 0)) s).2.1 + 1))) n (advP ((sumP bt n (unitP bt n u 0)) s).2) := hMq1.adv hl0
    have hFm1 : FrP h (u2 h1 118 6 (nI (((sumP bt n (unitP bt n u 0)) s).2.1 + 1))) := FrP.u hFq1 (by omega)
    have hXm1 := PX.fr hX hFm1
    refine v_aload_n K dX10_compared_40 rfl ?_
    refine v_callV (As := []) K (c_X10_sum_0 ((u2 h1 118 6 (nI (((sumP bt n (unitP bt n u 0)) s).2.1 + 1)))) bt n B u nm ((advP ((sumP bt n (unitP bt n u 0)) s).2)) hXm1 hMm1 ((hO.on hG1 hn0).adv hl0)) lX10_85 ck_X10 rfl sh_118 pl_118 rfl ⟨by decide, by decide⟩ (Nat.le_of_ble_eq_true rfl) dX10_compared_41 (fun r3 h3 hp3 => ?_) rfl
    obtain ⟨⟨v2, rfl, hvq2⟩, hMq2, hFaq2⟩ := hp3
    have hFq2 := FrP.t hFm1 hFaq2
    have hXq2 := PX.fr hX hFq2
    have hGq2 : GP n (advP ((sumP bt n (unitP bt n u 0)) s).2) ((sumP bt n (unitP bt n u 0)) (advP ((sumP bt n (unitP bt n u 0)) s).2)).2 := (row_good (row_good (unit_good (bt := bt) (n := n) (u := u) 0) (by decide)) (by decide)) _ ((hO.on hG1 hn0).adv hl0)
    refine v_some ?_
    refine v_istore_n (lv2 := [(3, .int v2), (2, .int (hereP bt n ((sumP bt n (unitP bt n u 0)) s).2)), (1, .int v1), (0, .ref 118)]) K dX10_compared_44 (by decide) rfl ?_
    refine v_iload_n K dX10_compared_45 rfl ?_
    refine v_bipushN K 60 rfl dX10_compared_46 ?_
    refine v_icmp_ne (tgt := 59) K dX10_compared_48 rfl (fun c2 => ?_) (fun c2 => ?_)
    · skip
      exact absurd eo c2
    · skip
      refine v_iload_n K dX10_compared_51 rfl ?_
      refine v_iload_n K dX10_compared_52 rfl ?_
      refine v_icmp_ge (tgt := 82) K dX10_compared_53 rfl (fun c3 => ?_) (fun c3 => ?_)
      · skip
        refine v_iconstN K 0 rfl dX10_compared_82 ?_
        refine v_iret K dX10_compared_83 ?_
        have e2 : (cmpP bt n (sumP bt n (unitP bt n u 0))) s = (((sumP bt n (unitP bt n u 0)) s).1 ++ ((sumP bt n (unitP bt n u 0)) (advP ((sumP bt n (unitP bt n u 0)) s).2)).1 ++ [-hereP bt n ((sumP bt n (unitP bt n u 0)) s).2], ((sumP bt n (unitP bt n u 0)) (advP ((sumP bt n (unitP bt n u 0)) s).2)).2) := if_pos (by rw [eo]; decide)
        show (∃ v, _ ∧ (((cmpP bt n (sumP bt n (unitP bt n u 0))) s).2.2.1 = none → ∀ st, runL ((cmpP bt n (sumP bt n (unitP bt n u 0))) s).1 nm st = v :: st)) ∧ PM _ n ((cmpP bt n (sumP bt n (unitP bt n u 0))) s).2 ∧ _
        rw [e2]
        refine ⟨⟨_, rfl, fun hn2 => ?_⟩, hMq2, hFq2⟩
        rw [eo]
        exact val_on (by decide) (hv1 hn0) (hvq2 hn2) (by rw [j60]; exact (b2i_f (Int32.not_lt.mpr c3)).symm)
      · skip
        refine v_goto (tgt := 78) K dX10_compared_56 rfl ?_
        refine v_iconstN K 1 rfl dX10_compared_78 ?_
        refine v_goto (tgt := 83) K dX10_compared_79 rfl ?_
        refine v_iret K dX10_compared_83 ?_
        have e2 : (cmpP bt n (sumP bt n (unitP bt n u 0))) s = (((sumP bt n (unitP bt n u 0)) s).1 ++ ((sumP bt n (unitP bt n u 0)) (advP ((sumP bt n (unitP bt n u 0)) s).2)).1 ++ [-hereP bt n ((sumP bt n (unitP bt n u 0)) s).2], ((sumP bt n (unitP bt n u 0)) (advP ((sumP bt n (unitP bt n u 0)) s).2)).2) := if_pos (by rw [eo]; decide)
        show (∃ v, _ ∧ (((cmpP bt n (sumP bt n (unitP bt n u 0))) s).2.2.1 = none → ∀ st, runL ((cmpP bt n (sumP bt n (unitP bt n u 0))) s).1 nm st = v :: st)) ∧ PM _ n ((cmpP bt n (sumP bt n (unitP bt n u 0))) s).2 ∧ _
        rw [e2]
        refine ⟨⟨_, rfl, fun hn2 => ?_⟩, hMq2, hFq2⟩
        rw [eo]
        exact val_on (by decide) (hv1 hn0) (hvq2 hn2) (by rw [j60]; exact (b2i_t (Int32.not_le.mp c3)).symm)
  · skip
    refine v_iload_n K dX10_compared_16 rfl ?_
    refine v_bipushN K 61 rfl dX10_compared_17 ?_
    refine v_icmp_eq (tgt := 30) K dX10_compared_19 rfl (fun c4 => ?_) (fun c4 => ?_)
    · skip
      have eo : hereP bt n ((sumP bt n (unitP bt n u 0)) s).2 = nI 61 := c4
      obtain ⟨hl0, hn0⟩ := hereP_lt eo (nI_m1 (by decide))
      refine v_aload_n K dX10_compared_30 rfl ?_
      refine v_dup K dX10_compared_31 rfl ?_
      refine v_geti (x := nI (((sumP bt n (unitP bt n u 0)) s).2.1)) K fX10_55 sh_118 pl_118 hMq1.1.1 dX10_compared_32 ?_
      refine v_iconstN K 1 rfl dX10_compared_35 ?_
      refine v_iaddN K dX10_compared_36 ?_
      refine v_puti K pX10_55 sh_118 pl_118 dX10_compared_37 ?_
      have hMm2 : PM (u2 h1 118 6 (nI (((sumP bt n (unitP bt n u 0)) s).2.1 + 1))) n (advP ((sumP bt n (unitP bt n u 0)) s).2) := hMq1.adv hl0
      have hFm2 : FrP h (u2 h1 118 6 (nI (((sumP bt n (unitP bt n u 0)) s).2.1 + 1))) := FrP.u hFq1 (by omega)
      have hXm2 := PX.fr hX hFm2
      refine v_aload_n K dX10_compared_40 rfl ?_
      refine v_callV (As := []) K (c_X10_sum_0 ((u2 h1 118 6 (nI (((sumP bt n (unitP bt n u 0)) s).2.1 + 1)))) bt n B u nm ((advP ((sumP bt n (unitP bt n u 0)) s).2)) hXm2 hMm2 ((hO.on hG1 hn0).adv hl0)) lX10_85 ck_X10 rfl sh_118 pl_118 rfl ⟨by decide, by decide⟩ (Nat.le_of_ble_eq_true rfl) dX10_compared_41 (fun r4 h4 hp4 => ?_) rfl
      obtain ⟨⟨v3, rfl, hvq3⟩, hMq3, hFaq3⟩ := hp4
      have hFq3 := FrP.t hFm2 hFaq3
      have hXq3 := PX.fr hX hFq3
      have hGq3 : GP n (advP ((sumP bt n (unitP bt n u 0)) s).2) ((sumP bt n (unitP bt n u 0)) (advP ((sumP bt n (unitP bt n u 0)) s).2)).2 := (row_good (row_good (unit_good (bt := bt) (n := n) (u := u) 0) (by decide)) (by decide)) _ ((hO.on hG1 hn0).adv hl0)
      refine v_some ?_
      refine v_istore_n (lv2 := [(3, .int v3), (2, .int (hereP bt n ((sumP bt n (unitP bt n u 0)) s).2)), (1, .int v1), (0, .ref 118)]) K dX10_compared_44 (by decide) rfl ?_
      refine v_iload_n K dX10_compared_45 rfl ?_
      refine v_bipushN K 60 rfl dX10_compared_46 ?_
      refine v_icmp_ne (tgt := 59) K dX10_compared_48 rfl (fun c5 => ?_) (fun c5 => ?_)
      · skip
        refine v_iload_n K dX10_compared_59 rfl ?_
        refine v_bipushN K 61 rfl dX10_compared_60 ?_
        refine v_icmp_ne (tgt := 73) K dX10_compared_62 rfl (fun c6 => ?_) (fun c6 => ?_)
        · skip
          exact absurd eo c6
        · skip
          refine v_iload_n K dX10_compared_65 rfl ?_
          refine v_iload_n K dX10_compared_66 rfl ?_
          refine v_icmp_ne (tgt := 82) K dX10_compared_67 rfl (fun c7 => ?_) (fun c7 => ?_)
          · skip
            refine v_iconstN K 0 rfl dX10_compared_82 ?_
            refine v_iret K dX10_compared_83 ?_
            have e2 : (cmpP bt n (sumP bt n (unitP bt n u 0))) s = (((sumP bt n (unitP bt n u 0)) s).1 ++ ((sumP bt n (unitP bt n u 0)) (advP ((sumP bt n (unitP bt n u 0)) s).2)).1 ++ [-hereP bt n ((sumP bt n (unitP bt n u 0)) s).2], ((sumP bt n (unitP bt n u 0)) (advP ((sumP bt n (unitP bt n u 0)) s).2)).2) := if_pos (by rw [eo]; decide)
            show (∃ v, _ ∧ (((cmpP bt n (sumP bt n (unitP bt n u 0))) s).2.2.1 = none → ∀ st, runL ((cmpP bt n (sumP bt n (unitP bt n u 0))) s).1 nm st = v :: st)) ∧ PM _ n ((cmpP bt n (sumP bt n (unitP bt n u 0))) s).2 ∧ _
            rw [e2]
            refine ⟨⟨_, rfl, fun hn2 => ?_⟩, hMq3, hFq3⟩
            rw [eo]
            exact val_on (by decide) (hv1 hn0) (hvq3 hn2) (by rw [j61]; exact (b2i_f c7).symm)
          · skip
            refine v_goto (tgt := 78) K dX10_compared_70 rfl ?_
            refine v_iconstN K 1 rfl dX10_compared_78 ?_
            refine v_goto (tgt := 83) K dX10_compared_79 rfl ?_
            refine v_iret K dX10_compared_83 ?_
            have e2 : (cmpP bt n (sumP bt n (unitP bt n u 0))) s = (((sumP bt n (unitP bt n u 0)) s).1 ++ ((sumP bt n (unitP bt n u 0)) (advP ((sumP bt n (unitP bt n u 0)) s).2)).1 ++ [-hereP bt n ((sumP bt n (unitP bt n u 0)) s).2], ((sumP bt n (unitP bt n u 0)) (advP ((sumP bt n (unitP bt n u 0)) s).2)).2) := if_pos (by rw [eo]; decide)
            show (∃ v, _ ∧ (((cmpP bt n (sumP bt n (unitP bt n u 0))) s).2.2.1 = none → ∀ st, runL ((cmpP bt n (sumP bt n (unitP bt n u 0))) s).1 nm st = v :: st)) ∧ PM _ n ((cmpP bt n (sumP bt n (unitP bt n u 0))) s).2 ∧ _
            rw [e2]
            refine ⟨⟨_, rfl, fun hn2 => ?_⟩, hMq3, hFq3⟩
            rw [eo]
            exact val_on (by decide) (hv1 hn0) (hvq3 hn2) (by rw [j61]; exact (b2i_t c7).symm)
      · skip
        exact absurd (c5.symm.trans eo) (by decide)
    · skip
      refine v_iload_n K dX10_compared_22 rfl ?_
      refine v_bipushN K 62 rfl dX10_compared_23 ?_
      refine v_icmp_eq (tgt := 30) K dX10_compared_25 rfl (fun c8 => ?_) (fun c8 => ?_)
      · skip
        have eo : hereP bt n ((sumP bt n (unitP bt n u 0)) s).2 = nI 62 := c8
        obtain ⟨hl0, hn0⟩ := hereP_lt eo (nI_m1 (by decide))
        refine v_aload_n K dX10_compared_30 rfl ?_
        refine v_dup K dX10_compared_31 rfl ?_
        refine v_geti (x := nI (((sumP bt n (unitP bt n u 0)) s).2.1)) K fX10_55 sh_118 pl_118 hMq1.1.1 dX10_compared_32 ?_
        refine v_iconstN K 1 rfl dX10_compared_35 ?_
        refine v_iaddN K dX10_compared_36 ?_
        refine v_puti K pX10_55 sh_118 pl_118 dX10_compared_37 ?_
        have hMm3 : PM (u2 h1 118 6 (nI (((sumP bt n (unitP bt n u 0)) s).2.1 + 1))) n (advP ((sumP bt n (unitP bt n u 0)) s).2) := hMq1.adv hl0
        have hFm3 : FrP h (u2 h1 118 6 (nI (((sumP bt n (unitP bt n u 0)) s).2.1 + 1))) := FrP.u hFq1 (by omega)
        have hXm3 := PX.fr hX hFm3
        refine v_aload_n K dX10_compared_40 rfl ?_
        refine v_callV (As := []) K (c_X10_sum_0 ((u2 h1 118 6 (nI (((sumP bt n (unitP bt n u 0)) s).2.1 + 1)))) bt n B u nm ((advP ((sumP bt n (unitP bt n u 0)) s).2)) hXm3 hMm3 ((hO.on hG1 hn0).adv hl0)) lX10_85 ck_X10 rfl sh_118 pl_118 rfl ⟨by decide, by decide⟩ (Nat.le_of_ble_eq_true rfl) dX10_compared_41 (fun r5 h5 hp5 => ?_) rfl
        obtain ⟨⟨v4, rfl, hvq4⟩, hMq4, hFaq4⟩ := hp5
        have hFq4 := FrP.t hFm3 hFaq4
        have hXq4 := PX.fr hX hFq4
        have hGq4 : GP n (advP ((sumP bt n (unitP bt n u 0)) s).2) ((sumP bt n (unitP bt n u 0)) (advP ((sumP bt n (unitP bt n u 0)) s).2)).2 := (row_good (row_good (unit_good (bt := bt) (n := n) (u := u) 0) (by decide)) (by decide)) _ ((hO.on hG1 hn0).adv hl0)
        refine v_some ?_
        refine v_istore_n (lv2 := [(3, .int v4), (2, .int (hereP bt n ((sumP bt n (unitP bt n u 0)) s).2)), (1, .int v1), (0, .ref 118)]) K dX10_compared_44 (by decide) rfl ?_
        refine v_iload_n K dX10_compared_45 rfl ?_
        refine v_bipushN K 60 rfl dX10_compared_46 ?_
        refine v_icmp_ne (tgt := 59) K dX10_compared_48 rfl (fun c9 => ?_) (fun c9 => ?_)
        · skip
          refine v_iload_n K dX10_compared_59 rfl ?_
          refine v_bipushN K 61 rfl dX10_compared_60 ?_
          refine v_icmp_ne (tgt := 73) K dX10_compared_62 rfl (fun c10 => ?_) (fun c10 => ?_)
          · skip
            refine v_iload_n K dX10_compared_73 rfl ?_
            refine v_iload_n K dX10_compared_74 rfl ?_
            refine v_icmp_le (tgt := 82) K dX10_compared_75 rfl (fun c11 => ?_) (fun c11 => ?_)
            · skip
              refine v_iconstN K 0 rfl dX10_compared_82 ?_
              refine v_iret K dX10_compared_83 ?_
              have e2 : (cmpP bt n (sumP bt n (unitP bt n u 0))) s = (((sumP bt n (unitP bt n u 0)) s).1 ++ ((sumP bt n (unitP bt n u 0)) (advP ((sumP bt n (unitP bt n u 0)) s).2)).1 ++ [-hereP bt n ((sumP bt n (unitP bt n u 0)) s).2], ((sumP bt n (unitP bt n u 0)) (advP ((sumP bt n (unitP bt n u 0)) s).2)).2) := if_pos (by rw [eo]; decide)
              show (∃ v, _ ∧ (((cmpP bt n (sumP bt n (unitP bt n u 0))) s).2.2.1 = none → ∀ st, runL ((cmpP bt n (sumP bt n (unitP bt n u 0))) s).1 nm st = v :: st)) ∧ PM _ n ((cmpP bt n (sumP bt n (unitP bt n u 0))) s).2 ∧ _
              rw [e2]
              refine ⟨⟨_, rfl, fun hn2 => ?_⟩, hMq4, hFq4⟩
              rw [eo]
              exact val_on (by decide) (hv1 hn0) (hvq4 hn2) (by rw [j62]; exact (b2i_f (Int32.not_lt.mpr c11)).symm)
            · skip
              refine v_iconstN K 1 rfl dX10_compared_78 ?_
              refine v_goto (tgt := 83) K dX10_compared_79 rfl ?_
              refine v_iret K dX10_compared_83 ?_
              have e2 : (cmpP bt n (sumP bt n (unitP bt n u 0))) s = (((sumP bt n (unitP bt n u 0)) s).1 ++ ((sumP bt n (unitP bt n u 0)) (advP ((sumP bt n (unitP bt n u 0)) s).2)).1 ++ [-hereP bt n ((sumP bt n (unitP bt n u 0)) s).2], ((sumP bt n (unitP bt n u 0)) (advP ((sumP bt n (unitP bt n u 0)) s).2)).2) := if_pos (by rw [eo]; decide)
              show (∃ v, _ ∧ (((cmpP bt n (sumP bt n (unitP bt n u 0))) s).2.2.1 = none → ∀ st, runL ((cmpP bt n (sumP bt n (unitP bt n u 0))) s).1 nm st = v :: st)) ∧ PM _ n ((cmpP bt n (sumP bt n (unitP bt n u 0))) s).2 ∧ _
              rw [e2]
              refine ⟨⟨_, rfl, fun hn2 => ?_⟩, hMq4, hFq4⟩
              rw [eo]
              exact val_on (by decide) (hv1 hn0) (hvq4 hn2) (by rw [j62]; exact (b2i_t (Int32.not_le.mp c11)).symm)
          · skip
            exact absurd (c10.symm.trans eo) (by decide)
        · skip
          exact absurd (c9.symm.trans eo) (by decide)
      · skip
        refine v_iload_n K dX10_compared_28 rfl ?_
        refine v_iret K dX10_compared_29 ?_
        have e2 : (cmpP bt n (sumP bt n (unitP bt n u 0))) s = (sumP bt n (unitP bt n u 0)) s := if_neg (by simp only [List.mem_cons, List.not_mem_nil, or_false, not_or]; exact ⟨c1, c4, c8⟩)
        show (∃ v, _ ∧ (((cmpP bt n (sumP bt n (unitP bt n u 0))) s).2.2.1 = none → ∀ st, runL ((cmpP bt n (sumP bt n (unitP bt n u 0))) s).1 nm st = v :: st)) ∧ PM _ n ((cmpP bt n (sumP bt n (unitP bt n u 0))) s).2 ∧ _
        rw [e2]
        exact ⟨⟨_, rfl, hv1⟩, hMq1, hFq1⟩

abbrev P_X10_both_0 (h : Mm) (bt : Nat → Int32) (n B u : Nat) (nm : Nat → Int32) (s : PSt) : Option Value → Mm → Prop := fun r h2 => (∃ v, r = some (.int v) ∧ (((bothP bt n (unitP bt n u 0)) s).2.2.1 = none → ∀ st, runL ((bothP bt n (unitP bt n u 0)) s).1 nm st = v :: st)) ∧ PM h2 n ((bothP bt n (unitP bt n u 0)) s).2 ∧ FrP h h2
theorem c_X10_both_0 {l : Launch} (h : Mm) (bt : Nat → Int32) (n B u : Nat) (nm : Nat → Int32) (s : PSt) (hX : PX h bt n B u nm) (hM : PM h n s) (hO : OKs n 0 s) : Con l yX10_both cX10_both 3 (some .int) 5 118 132 GL h [.ref 118] (P_X10_both_0 h bt n B u nm s) := by
  refine Con.ofV (own := "FoxRoundsModel") (nm := "both") rfl rfl (by decide) (Nat.le_of_ble_eq_true rfl) ?_
  intro κ ρ hkl K
  subst hkl
  show V κ (QM κ (132, ρ, GL, 0, 0) (P_X10_both_0 h bt n B u nm s)) 3 (132, ρ, GL, 0, 0) h 0 [(0, .ref 118)] []
  have hn50 := hX.2.2.2.2.2.1
  have hBn := hX.2.2.2.2.1
  have hsn := hM.2.1
  have hs5 := hM.2.2.1
  refine v_aload_n K dX10_both_0 rfl ?_
  refine v_callV (As := []) K (c_X10_compared_0 h bt n B u nm s hX hM hO) lX10_82 ck_X10 rfl sh_118 pl_118 rfl ⟨by decide, by decide⟩ (Nat.le_of_ble_eq_true rfl) dX10_both_1 (fun r1 h1 hp1 => ?_) rfl
  obtain ⟨⟨v1, rfl, hvq1⟩, hMq1, hFaq1⟩ := hp1
  have hFq1 := FrP.t (FrP.r (h := h)) hFaq1
  have hXq1 := PX.fr hX hFq1
  have hGq1 : GP n s ((cmpP bt n (sumP bt n (unitP bt n u 0))) s).2 := (cmp_good (row_good (row_good (unit_good (bt := bt) (n := n) (u := u) 0) (by decide)) (by decide))) _ hO
  refine v_some ?_
  refine v_istore_n (lv2 := [(1, .int v1), (0, .ref 118)]) K dX10_both_4 (by decide) rfl ?_
  have L5 : ∀ (mm : Nat) (f : Nat) (cs : List Int32) (t : PSt) (v : Int32) (h1 : Mm) (hG : GP n s t) (hM1 : PM h1 n t) (hF1 : FrP h h1) (hv : t.2.1 = none → ∀ st, runL cs nm st = v :: st) (he : (bothP bt n (unitP bt n u 0)) s = loopP bt n [nI 38] (cmpP bt n (sumP bt n (unitP bt n u 0))) f cs t) (hfu : n + 1 ≤ f + t.1), f < mm → V κ (QM κ (132, ρ, GL, 0, 0) (P_X10_both_0 h bt n B u nm s)) 3 (132, ρ, GL, 0, 0) h1 5 [(0, .ref 118), (1, .int v)] [] := by
    intro mm
    induction mm with
    | zero => intro f cs t v h1 hG hM1 hF1 hv he hfu hmm; exact absurd hmm (Nat.not_lt_zero _)
    | succ mm ih5 =>
      intro f cs t v h1 hG hM1 hF1 hv he hfu hmm
      have hX1 := PX.fr hX hF1
      have htn := hM1.2.1
      have ht5 := hM1.2.2.1
      obtain ⟨f, rfl⟩ : ∃ f0, f = f0 + 1 := ⟨f - 1, by omega⟩
      refine v_aload_n K dX10_both_5 rfl ?_
      refine v_bipushN K 38 rfl dX10_both_6 ?_
      refine v_callV (As := [.int (nI 38)]) K (c_X10_takes h1 bt n B u nm t 38 hX1 hM1 (by decide)) lX10_78 ck_X10 rfl sh_118 pl_118 rfl ⟨by decide, by decide⟩ (Nat.le_of_ble_eq_true rfl) dX10_both_8 (fun r2 h2 hp2 => ?_) rfl
      obtain ⟨rfl, hMq2, hFaq2⟩ := hp2
      have hFq2 := FrP.t hF1 hFaq2
      have hXq2 := PX.fr hX hFq2
      refine v_some ?_
      refine v_ifB_eq (tgt := 36) K dX10_both_11 rfl (fun c1 => ?_) (fun c1 => ?_)
      · skip
        rw [tk_n c1] at hMq2
        refine v_iload_n K dX10_both_36 rfl ?_
        refine v_iret K dX10_both_37 ?_
        have e2 : (bothP bt n (unitP bt n u 0)) s = (cs, t) := by rw [he, loop_off (by simp only [List.mem_cons, List.not_mem_nil, or_false]; exact c1)]
        show (∃ v, _ ∧ (((bothP bt n (unitP bt n u 0)) s).2.2.1 = none → ∀ st, runL ((bothP bt n (unitP bt n u 0)) s).1 nm st = v :: st)) ∧ PM _ n ((bothP bt n (unitP bt n u 0)) s).2 ∧ _
        rw [e2]
        exact ⟨⟨v, rfl, hv⟩, hMq2, hFq2⟩
      · skip
        have eo : hereP bt n t = nI 38 := c1
        obtain ⟨hl0, hn0⟩ := hereP_lt eo (nI_m1 (by decide))
        have hG0 := hG
        rw [tk_y eo] at hMq2
        refine v_aload_n K dX10_both_14 rfl ?_
        refine v_callV (As := []) K (c_X10_compared_0 h2 bt n B u nm ((advP t)) hXq2 hMq2 ((hO.on hG0 hn0).adv hl0)) lX10_82 ck_X10 rfl sh_118 pl_118 rfl ⟨by decide, by decide⟩ (Nat.le_of_ble_eq_true rfl) dX10_both_15 (fun r3 h3 hp3 => ?_) rfl
        obtain ⟨⟨v2, rfl, hvq3⟩, hMq3, hFaq3⟩ := hp3
        have hFq3 := FrP.t hFq2 hFaq3
        have hXq3 := PX.fr hX hFq3
        have hGq3 : GP n (advP t) ((cmpP bt n (sumP bt n (unitP bt n u 0))) (advP t)).2 := (cmp_good (row_good (row_good (unit_good (bt := bt) (n := n) (u := u) 0) (by decide)) (by decide))) _ ((hO.on hG0 hn0).adv hl0)
        refine v_some ?_
        refine v_istore_n (lv2 := [(2, .int v2), (0, .ref 118), (1, .int v)]) K dX10_both_18 (by decide) rfl ?_
        refine v_iload_n K dX10_both_19 rfl ?_
        refine v_if_eq (tgt := 31) K dX10_both_20 rfl (fun c2 => ?_) (fun c2 => ?_)
        · skip
          refine v_iconstN K 0 rfl dX10_both_31 ?_
          refine v_top (y := joinR (nI 38) v v2) (by rw [j38]; exact (b2i_f (fun q => q.1 c2)).symm) ?_
          refine v_istore_n (lv2 := [(1, .int (joinR (nI 38) v v2)), (2, .int v2), (0, .ref 118)]) K dX10_both_32 (by decide) rfl ?_
          refine v_goto (tgt := 5) K dX10_both_33 rfl ?_
          refine v_sub (lv2 := [(0, .ref 118), (1, .int (joinR (nI 38) v v2))]) (by simp) ?_
          exact ih5 f ((cs ++ ((cmpP bt n (sumP bt n (unitP bt n u 0))) (advP t)).1 ++ [-hereP bt n t])) (((cmpP bt n (sumP bt n (unitP bt n u 0))) (advP t)).2) (joinR (nI 38) v v2) h3 (by exact hG0.tr hn0 ((GP.adv (hO.on hG0 hn0) hl0).tr hn0 hGq3)) (by exact hMq3) (by exact hFq3) (by intro hn2; rw [eo]; exact val_on (by decide) (hv hn0) (hvq3 hn2) rfl) (by rw [he, loop_on (by rw [eo]; decide)]) (by have h1 : (advP t).1 = t.1 + 1 := rfl; have h2 := hGq3.1; omega) (by omega)
        · skip
          refine v_iload_n K dX10_both_23 rfl ?_
          refine v_if_eq (tgt := 31) K dX10_both_24 rfl (fun c3 => ?_) (fun c3 => ?_)
          · skip
            refine v_iconstN K 0 rfl dX10_both_31 ?_
            refine v_top (y := joinR (nI 38) v v2) (by rw [j38]; exact (b2i_f (fun q => q.2 c3)).symm) ?_
            refine v_istore_n (lv2 := [(1, .int (joinR (nI 38) v v2)), (2, .int v2), (0, .ref 118)]) K dX10_both_32 (by decide) rfl ?_
            refine v_goto (tgt := 5) K dX10_both_33 rfl ?_
            refine v_sub (lv2 := [(0, .ref 118), (1, .int (joinR (nI 38) v v2))]) (by simp) ?_
            exact ih5 f ((cs ++ ((cmpP bt n (sumP bt n (unitP bt n u 0))) (advP t)).1 ++ [-hereP bt n t])) (((cmpP bt n (sumP bt n (unitP bt n u 0))) (advP t)).2) (joinR (nI 38) v v2) h3 (by exact hG0.tr hn0 ((GP.adv (hO.on hG0 hn0) hl0).tr hn0 hGq3)) (by exact hMq3) (by exact hFq3) (by intro hn2; rw [eo]; exact val_on (by decide) (hv hn0) (hvq3 hn2) rfl) (by rw [he, loop_on (by rw [eo]; decide)]) (by have h1 : (advP t).1 = t.1 + 1 := rfl; have h2 := hGq3.1; omega) (by omega)
          · skip
            refine v_iconstN K 1 rfl dX10_both_27 ?_
            refine v_goto (tgt := 32) K dX10_both_28 rfl ?_
            refine v_top (y := joinR (nI 38) v v2) (by rw [j38]; exact (b2i_t ⟨c2, c3⟩).symm) ?_
            refine v_istore_n (lv2 := [(1, .int (joinR (nI 38) v v2)), (2, .int v2), (0, .ref 118)]) K dX10_both_32 (by decide) rfl ?_
            refine v_goto (tgt := 5) K dX10_both_33 rfl ?_
            refine v_sub (lv2 := [(0, .ref 118), (1, .int (joinR (nI 38) v v2))]) (by simp) ?_
            exact ih5 f ((cs ++ ((cmpP bt n (sumP bt n (unitP bt n u 0))) (advP t)).1 ++ [-hereP bt n t])) (((cmpP bt n (sumP bt n (unitP bt n u 0))) (advP t)).2) (joinR (nI 38) v v2) h3 (by exact hG0.tr hn0 ((GP.adv (hO.on hG0 hn0) hl0).tr hn0 hGq3)) (by exact hMq3) (by exact hFq3) (by intro hn2; rw [eo]; exact val_on (by decide) (hv hn0) (hvq3 hn2) rfl) (by rw [he, loop_on (by rw [eo]; decide)]) (by have h1 : (advP t).1 = t.1 + 1 := rfl; have h2 := hGq3.1; omega) (by omega)
  refine v_sub (lv2 := [(0, .ref 118), (1, .int v1)]) (by simp) ?_
  exact L5 (52 + 1) 52 (((cmpP bt n (sumP bt n (unitP bt n u 0))) s).1) (((cmpP bt n (sumP bt n (unitP bt n u 0))) s).2) v1 h1 (by exact hGq1) (by exact hMq1) (by exact hFq1) (by exact hvq1) (by rfl) (by omega) (Nat.lt_succ_self _)

abbrev P_X10_either_0 (h : Mm) (bt : Nat → Int32) (n B u : Nat) (nm : Nat → Int32) (s : PSt) : Option Value → Mm → Prop := fun r h2 => (∃ v, r = some (.int v) ∧ (((eitherP bt n (unitP bt n u 0)) s).2.2.1 = none → ∀ st, runL ((eitherP bt n (unitP bt n u 0)) s).1 nm st = v :: st)) ∧ PM h2 n ((eitherP bt n (unitP bt n u 0)) s).2 ∧ FrP h h2
theorem c_X10_either_0 {l : Launch} (h : Mm) (bt : Nat → Int32) (n B u : Nat) (nm : Nat → Int32) (s : PSt) (hX : PX h bt n B u nm) (hM : PM h n s) (hO : OKs n 0 s) : Con l yX10_either cX10_either 3 (some .int) 6 140 132 GL h [.ref 118] (P_X10_either_0 h bt n B u nm s) := by
  refine Con.ofV (own := "FoxRoundsModel") (nm := "either") rfl rfl (by decide) (Nat.le_of_ble_eq_true rfl) ?_
  intro κ ρ hkl K
  subst hkl
  show V κ (QM κ (132, ρ, GL, 0, 0) (P_X10_either_0 h bt n B u nm s)) 3 (132, ρ, GL, 0, 0) h 0 [(0, .ref 118)] []
  have hn50 := hX.2.2.2.2.2.1
  have hBn := hX.2.2.2.2.1
  have hsn := hM.2.1
  have hs5 := hM.2.2.1
  refine v_aload_n K dX10_either_0 rfl ?_
  refine v_callV (As := []) K (c_X10_both_0 h bt n B u nm s hX hM hO) lX10_75 ck_X10 rfl sh_118 pl_118 rfl ⟨by decide, by decide⟩ (Nat.le_of_ble_eq_true rfl) dX10_either_1 (fun r1 h1 hp1 => ?_) rfl
  obtain ⟨⟨v1, rfl, hvq1⟩, hMq1, hFaq1⟩ := hp1
  have hFq1 := FrP.t (FrP.r (h := h)) hFaq1
  have hXq1 := PX.fr hX hFq1
  have hGq1 : GP n s ((bothP bt n (unitP bt n u 0)) s).2 := (row_good (cmp_good (row_good (row_good (unit_good (bt := bt) (n := n) (u := u) 0) (by decide)) (by decide))) (by decide)) _ hO
  refine v_some ?_
  refine v_istore_n (lv2 := [(1, .int v1), (0, .ref 118)]) K dX10_either_4 (by decide) rfl ?_
  have L5 : ∀ (mm : Nat) (f : Nat) (cs : List Int32) (t : PSt) (v : Int32) (h1 : Mm) (hG : GP n s t) (hM1 : PM h1 n t) (hF1 : FrP h h1) (hv : t.2.1 = none → ∀ st, runL cs nm st = v :: st) (he : (eitherP bt n (unitP bt n u 0)) s = loopP bt n [nI 124] (bothP bt n (unitP bt n u 0)) f cs t) (hfu : n + 1 ≤ f + t.1), f < mm → V κ (QM κ (132, ρ, GL, 0, 0) (P_X10_either_0 h bt n B u nm s)) 3 (132, ρ, GL, 0, 0) h1 5 [(0, .ref 118), (1, .int v)] [] := by
    intro mm
    induction mm with
    | zero => intro f cs t v h1 hG hM1 hF1 hv he hfu hmm; exact absurd hmm (Nat.not_lt_zero _)
    | succ mm ih5 =>
      intro f cs t v h1 hG hM1 hF1 hv he hfu hmm
      have hX1 := PX.fr hX hF1
      have htn := hM1.2.1
      have ht5 := hM1.2.2.1
      obtain ⟨f, rfl⟩ : ∃ f0, f = f0 + 1 := ⟨f - 1, by omega⟩
      refine v_aload_n K dX10_either_5 rfl ?_
      refine v_bipushN K 124 rfl dX10_either_6 ?_
      refine v_callV (As := [.int (nI 124)]) K (c_X10_takes h1 bt n B u nm t 124 hX1 hM1 (by decide)) lX10_78 ck_X10 rfl sh_118 pl_118 rfl ⟨by decide, by decide⟩ (Nat.le_of_ble_eq_true rfl) dX10_either_8 (fun r2 h2 hp2 => ?_) rfl
      obtain ⟨rfl, hMq2, hFaq2⟩ := hp2
      have hFq2 := FrP.t hF1 hFaq2
      have hXq2 := PX.fr hX hFq2
      refine v_some ?_
      refine v_ifB_eq (tgt := 36) K dX10_either_11 rfl (fun c1 => ?_) (fun c1 => ?_)
      · skip
        rw [tk_n c1] at hMq2
        refine v_iload_n K dX10_either_36 rfl ?_
        refine v_iret K dX10_either_37 ?_
        have e2 : (eitherP bt n (unitP bt n u 0)) s = (cs, t) := by rw [he, loop_off (by simp only [List.mem_cons, List.not_mem_nil, or_false]; exact c1)]
        show (∃ v, _ ∧ (((eitherP bt n (unitP bt n u 0)) s).2.2.1 = none → ∀ st, runL ((eitherP bt n (unitP bt n u 0)) s).1 nm st = v :: st)) ∧ PM _ n ((eitherP bt n (unitP bt n u 0)) s).2 ∧ _
        rw [e2]
        exact ⟨⟨v, rfl, hv⟩, hMq2, hFq2⟩
      · skip
        have eo : hereP bt n t = nI 124 := c1
        obtain ⟨hl0, hn0⟩ := hereP_lt eo (nI_m1 (by decide))
        have hG0 := hG
        rw [tk_y eo] at hMq2
        refine v_aload_n K dX10_either_14 rfl ?_
        refine v_callV (As := []) K (c_X10_both_0 h2 bt n B u nm ((advP t)) hXq2 hMq2 ((hO.on hG0 hn0).adv hl0)) lX10_75 ck_X10 rfl sh_118 pl_118 rfl ⟨by decide, by decide⟩ (Nat.le_of_ble_eq_true rfl) dX10_either_15 (fun r3 h3 hp3 => ?_) rfl
        obtain ⟨⟨v2, rfl, hvq3⟩, hMq3, hFaq3⟩ := hp3
        have hFq3 := FrP.t hFq2 hFaq3
        have hXq3 := PX.fr hX hFq3
        have hGq3 : GP n (advP t) ((bothP bt n (unitP bt n u 0)) (advP t)).2 := (row_good (cmp_good (row_good (row_good (unit_good (bt := bt) (n := n) (u := u) 0) (by decide)) (by decide))) (by decide)) _ ((hO.on hG0 hn0).adv hl0)
        refine v_some ?_
        refine v_istore_n (lv2 := [(2, .int v2), (0, .ref 118), (1, .int v)]) K dX10_either_18 (by decide) rfl ?_
        refine v_iload_n K dX10_either_19 rfl ?_
        refine v_if_ne (tgt := 27) K dX10_either_20 rfl (fun c2 => ?_) (fun c2 => ?_)
        · skip
          refine v_iconstN K 1 rfl dX10_either_27 ?_
          refine v_goto (tgt := 32) K dX10_either_28 rfl ?_
          refine v_top (y := joinR (nI 124) v v2) (by rw [j124]; exact (b2i_t (Or.inl c2)).symm) ?_
          refine v_istore_n (lv2 := [(1, .int (joinR (nI 124) v v2)), (2, .int v2), (0, .ref 118)]) K dX10_either_32 (by decide) rfl ?_
          refine v_goto (tgt := 5) K dX10_either_33 rfl ?_
          refine v_sub (lv2 := [(0, .ref 118), (1, .int (joinR (nI 124) v v2))]) (by simp) ?_
          exact ih5 f ((cs ++ ((bothP bt n (unitP bt n u 0)) (advP t)).1 ++ [-hereP bt n t])) (((bothP bt n (unitP bt n u 0)) (advP t)).2) (joinR (nI 124) v v2) h3 (by exact hG0.tr hn0 ((GP.adv (hO.on hG0 hn0) hl0).tr hn0 hGq3)) (by exact hMq3) (by exact hFq3) (by intro hn2; rw [eo]; exact val_on (by decide) (hv hn0) (hvq3 hn2) rfl) (by rw [he, loop_on (by rw [eo]; decide)]) (by have h1 : (advP t).1 = t.1 + 1 := rfl; have h2 := hGq3.1; omega) (by omega)
        · skip
          refine v_iload_n K dX10_either_23 rfl ?_
          refine v_if_eq (tgt := 31) K dX10_either_24 rfl (fun c3 => ?_) (fun c3 => ?_)
          · skip
            refine v_iconstN K 0 rfl dX10_either_31 ?_
            refine v_top (y := joinR (nI 124) v v2) (by rw [j124]; exact (b2i_f (by rw [not_or]; exact ⟨fun q => q c2, fun q => q c3⟩)).symm) ?_
            refine v_istore_n (lv2 := [(1, .int (joinR (nI 124) v v2)), (2, .int v2), (0, .ref 118)]) K dX10_either_32 (by decide) rfl ?_
            refine v_goto (tgt := 5) K dX10_either_33 rfl ?_
            refine v_sub (lv2 := [(0, .ref 118), (1, .int (joinR (nI 124) v v2))]) (by simp) ?_
            exact ih5 f ((cs ++ ((bothP bt n (unitP bt n u 0)) (advP t)).1 ++ [-hereP bt n t])) (((bothP bt n (unitP bt n u 0)) (advP t)).2) (joinR (nI 124) v v2) h3 (by exact hG0.tr hn0 ((GP.adv (hO.on hG0 hn0) hl0).tr hn0 hGq3)) (by exact hMq3) (by exact hFq3) (by intro hn2; rw [eo]; exact val_on (by decide) (hv hn0) (hvq3 hn2) rfl) (by rw [he, loop_on (by rw [eo]; decide)]) (by have h1 : (advP t).1 = t.1 + 1 := rfl; have h2 := hGq3.1; omega) (by omega)
          · skip
            refine v_iconstN K 1 rfl dX10_either_27 ?_
            refine v_goto (tgt := 32) K dX10_either_28 rfl ?_
            refine v_top (y := joinR (nI 124) v v2) (by rw [j124]; exact (b2i_t (Or.inr c3)).symm) ?_
            refine v_istore_n (lv2 := [(1, .int (joinR (nI 124) v v2)), (2, .int v2), (0, .ref 118)]) K dX10_either_32 (by decide) rfl ?_
            refine v_goto (tgt := 5) K dX10_either_33 rfl ?_
            refine v_sub (lv2 := [(0, .ref 118), (1, .int (joinR (nI 124) v v2))]) (by simp) ?_
            exact ih5 f ((cs ++ ((bothP bt n (unitP bt n u 0)) (advP t)).1 ++ [-hereP bt n t])) (((bothP bt n (unitP bt n u 0)) (advP t)).2) (joinR (nI 124) v v2) h3 (by exact hG0.tr hn0 ((GP.adv (hO.on hG0 hn0) hl0).tr hn0 hGq3)) (by exact hMq3) (by exact hFq3) (by intro hn2; rw [eo]; exact val_on (by decide) (hv hn0) (hvq3 hn2) rfl) (by rw [he, loop_on (by rw [eo]; decide)]) (by have h1 : (advP t).1 = t.1 + 1 := rfl; have h2 := hGq3.1; omega) (by omega)
  refine v_sub (lv2 := [(0, .ref 118), (1, .int v1)]) (by simp) ?_
  exact L5 (52 + 1) 52 (((bothP bt n (unitP bt n u 0)) s).1) (((bothP bt n (unitP bt n u 0)) s).2) v1 h1 (by exact hGq1) (by exact hMq1) (by exact hFq1) (by exact hvq1) (by rfl) (by omega) (Nat.lt_succ_self _)

theorem unit_e1 {bt : Nat → Int32} {n u : Nat} (s : PSt) : unitP bt n u 1 s = if hereP bt n s = nI 40 then (if hereP bt n ((eitherP bt n (unitP bt n u 0)) (advP (openP s))).2 = nI 41 then (((eitherP bt n (unitP bt n u 0)) (advP (openP s))).1, closeP (advP ((eitherP bt n (unitP bt n u 0)) (advP (openP s))).2)) else ([], wrongP ((eitherP bt n (unitP bt n u 0)) (advP (openP s))).2)) else if hereP bt n s = nI 33 then (((unitP bt n u 0) (advP (openP s))).1 ++ [(-33)], closeP ((unitP bt n u 0) (advP (openP s))).2) else leafP bt n u s := rfl

abbrev P_X10_unit_1 (h : Mm) (bt : Nat → Int32) (n B u : Nat) (nm : Nat → Int32) (s : PSt) : Option Value → Mm → Prop := fun r h2 => (∃ v, r = some (.int v) ∧ (((unitP bt n u 1) s).2.2.1 = none → ∀ st, runL ((unitP bt n u 1) s).1 nm st = v :: st)) ∧ PM h2 n ((unitP bt n u 1) s).2 ∧ FrP h h2
theorem c_X10_unit_1 {l : Launch} (h : Mm) (bt : Nat → Int32) (n B u : Nat) (nm : Nat → Int32) (s : PSt) (hX : PX h bt n B u nm) (hM : PM h n s) (hO : OKs n 1 s) : Con l yX10_unit cX10_unit 5 (some .int) 7 162 132 GL h [.ref 118] (P_X10_unit_1 h bt n B u nm s) := by
  refine Con.ofV (own := "FoxRoundsModel") (nm := "unit") rfl rfl (by decide) (Nat.le_of_ble_eq_true rfl) ?_
  intro κ ρ hkl K
  subst hkl
  show V κ (QM κ (132, ρ, GL, 0, 0) (P_X10_unit_1 h bt n B u nm s)) 5 (132, ρ, GL, 0, 0) h 0 [(0, .ref 118)] []
  have hn50 := hX.2.2.2.2.2.1
  have hBn := hX.2.2.2.2.1
  have hsn := hM.2.1
  have hs5 := hM.2.2.1
  refine v_aload_n K dX10_unit_0 rfl ?_
  refine v_callV (As := []) K (c_X10_here h bt n B u nm s hX hM) lX10_68 ck_X10 rfl sh_118 pl_118 rfl ⟨by decide, by decide⟩ (Nat.le_of_ble_eq_true rfl) dX10_unit_1 (fun r1 h1 hp1 => ?_) rfl
  obtain ⟨rfl, rfl⟩ := hp1
  refine v_some ?_
  refine v_istore_n (lv2 := [(1, .int (hereP bt n s)), (0, .ref 118)]) K dX10_unit_4 (by decide) rfl ?_
  refine v_iload_n K dX10_unit_5 rfl ?_
  refine v_bipushN K 33 rfl dX10_unit_6 ?_
  refine v_icmp_eq (tgt := 17) K dX10_unit_8 rfl (fun c1 => ?_) (fun c1 => ?_)
  · skip
    have eo : hereP bt n s = nI 33 := c1
    obtain ⟨hl0, hn0⟩ := hereP_lt eo (nI_m1 (by decide))
    refine v_aload_n K dX10_unit_17 rfl ?_
    refine v_geti (x := nI s.2.2) K fX10_94 sh_118 pl_118 hM.1.2.2 dX10_unit_18 ?_
    refine v_iconstN K 5 rfl dX10_unit_21 ?_
    refine v_icmpN_ne (tgt := 30) K (by omega) (by omega) dX10_unit_22 rfl (fun c2 => ?_) (fun c2 => ?_)
    · skip
      refine v_aload_n K dX10_unit_30 rfl ?_
      refine v_dup K dX10_unit_31 rfl ?_
      refine v_geti (x := nI s.2.2) K fX10_94 sh_118 pl_118 hM.1.2.2 dX10_unit_32 ?_
      refine v_iconstN K 1 rfl dX10_unit_35 ?_
      refine v_iaddN K dX10_unit_36 ?_
      refine v_puti K pX10_94 sh_118 pl_118 dX10_unit_37 ?_
      have hMm1 : PM (u2 h 118 9 (nI (s.2.2 + 1))) n (openP s) := hM.opn (by have := hO.2.2; omega)
      have hFm1 : FrP h (u2 h 118 9 (nI (s.2.2 + 1))) := FrP.u (FrP.r (h := h)) (by omega)
      have hXm1 := PX.fr hX hFm1
      refine v_aload_n K dX10_unit_40 rfl ?_
      refine v_dup K dX10_unit_41 rfl ?_
      refine v_geti (x := nI ((openP s).1)) K fX10_55 sh_118 pl_118 hMm1.1.1 dX10_unit_42 ?_
      refine v_iconstN K 1 rfl dX10_unit_45 ?_
      refine v_iaddN K dX10_unit_46 ?_
      refine v_puti K pX10_55 sh_118 pl_118 dX10_unit_47 ?_
      have hMm2 : PM (u2 (u2 h 118 9 (nI (s.2.2 + 1))) 118 6 (nI ((openP s).1 + 1))) n (advP (openP s)) := hMm1.adv hl0
      have hFm2 : FrP h (u2 (u2 h 118 9 (nI (s.2.2 + 1))) 118 6 (nI ((openP s).1 + 1))) := FrP.u hFm1 (by omega)
      have hXm2 := PX.fr hX hFm2
      refine v_iload_n K dX10_unit_50 rfl ?_
      refine v_bipushN K 40 rfl dX10_unit_51 ?_
      refine v_icmp_ne (tgt := 63) K dX10_unit_53 rfl (fun c3 => ?_) (fun c3 => ?_)
      · skip
        refine v_aload_n K dX10_unit_63 rfl ?_
        refine v_callV (As := []) K (c_X10_unit_0 ((u2 (u2 h 118 9 (nI (s.2.2 + 1))) 118 6 (nI ((openP s).1 + 1)))) bt n B u nm ((advP (openP s))) hXm2 hMm2 ⟨hl0, hn0, by show s.2.2 + 1 + 0 = 5; have := hO.2.2; omega⟩) lX10_91 ck_X10 rfl sh_118 pl_118 rfl ⟨by decide, by decide⟩ (Nat.le_of_ble_eq_true rfl) dX10_unit_64 (fun r2 h2 hp2 => ?_) rfl
        obtain ⟨⟨v1, rfl, hvq1⟩, hMq1, hFaq1⟩ := hp2
        have hFq1 := FrP.t hFm2 hFaq1
        have hXq1 := PX.fr hX hFq1
        have hGq1 : GP n (advP (openP s)) ((unitP bt n u 0) (advP (openP s))).2 := (unit_good (bt := bt) (n := n) (u := u) 0) _ ⟨hl0, hn0, by show s.2.2 + 1 + 0 = 5; have := hO.2.2; omega⟩
        refine v_some ?_
        have hG1 := hGq1
        have hv1 := hvq1
        have ho1 : s.2.2 + 1 ≤ ((unitP bt n u 0) (advP (openP s))).2.2.2 := hG1.2.2.2.1
        refine v_istore_n (lv2 := [(2, .int v1), (1, .int (hereP bt n s)), (0, .ref 118)]) K dX10_unit_67 (by decide) rfl ?_
        refine v_iload_n K dX10_unit_68 rfl ?_
        refine v_bipushN K 40 rfl dX10_unit_69 ?_
        refine v_icmp_ne (tgt := 88) K dX10_unit_71 rfl (fun c4 => ?_) (fun c4 => ?_)
        · skip
          refine v_aload_n K dX10_unit_88 rfl ?_
          refine v_dup K dX10_unit_89 rfl ?_
          refine v_geti (x := nI (((unitP bt n u 0) (advP (openP s))).2.2.2)) K fX10_94 sh_118 pl_118 hMq1.1.2.2 dX10_unit_90 ?_
          refine v_iconstN K 1 rfl dX10_unit_93 ?_
          refine v_isubN K (by first | exact Nat.le_trans (Nat.succ_le_succ (Nat.zero_le _)) ho1 | (have := ho1; omega)) dX10_unit_94 ?_
          refine v_puti K pX10_94 sh_118 pl_118 dX10_unit_95 ?_
          have hMm3 : PM (u2 h2 118 9 (nI (((unitP bt n u 0) (advP (openP s))).2.2.2 - 1))) n (closeP ((unitP bt n u 0) (advP (openP s))).2) := hMq1.cls
          have hFm3 : FrP h (u2 h2 118 9 (nI (((unitP bt n u 0) (advP (openP s))).2.2.2 - 1))) := FrP.u hFq1 (by omega)
          have hXm3 := PX.fr hX hFm3
          refine v_iload_n K dX10_unit_98 rfl ?_
          refine v_bipushN K 40 rfl dX10_unit_99 ?_
          refine v_icmp_ne (tgt := 108) K dX10_unit_101 rfl (fun c5 => ?_) (fun c5 => ?_)
          · skip
            refine v_iload_n K dX10_unit_108 rfl ?_
            refine v_if_ne (tgt := 116) K dX10_unit_109 rfl (fun c6 => ?_) (fun c6 => ?_)
            · skip
              refine v_iconstN K 0 rfl dX10_unit_116 ?_
              refine v_iret K dX10_unit_117 ?_
              have e2 : (unitP bt n u 1) s = (((unitP bt n u 0) (advP (openP s))).1 ++ [(-33)], closeP ((unitP bt n u 0) (advP (openP s))).2) := by rw [unit_e1, if_neg (fun q => absurd (q.symm.trans eo) (by decide)), if_pos eo]
              show (∃ v, _ ∧ (((unitP bt n u 1) s).2.2.1 = none → ∀ st, runL ((unitP bt n u 1) s).1 nm st = v :: st)) ∧ PM _ n ((unitP bt n u 1) s).2 ∧ _
              rw [e2]
              refine ⟨⟨_, rfl, fun q st => ?_⟩, hMm3, hFm3⟩
              rw [runL_app, hv1 q, run_bang, b2i_f c6]
              rfl
            · skip
              refine v_iconstN K 1 rfl dX10_unit_112 ?_
              refine v_goto (tgt := 117) K dX10_unit_113 rfl ?_
              refine v_iret K dX10_unit_117 ?_
              have e2 : (unitP bt n u 1) s = (((unitP bt n u 0) (advP (openP s))).1 ++ [(-33)], closeP ((unitP bt n u 0) (advP (openP s))).2) := by rw [unit_e1, if_neg (fun q => absurd (q.symm.trans eo) (by decide)), if_pos eo]
              show (∃ v, _ ∧ (((unitP bt n u 1) s).2.2.1 = none → ∀ st, runL ((unitP bt n u 1) s).1 nm st = v :: st)) ∧ PM _ n ((unitP bt n u 1) s).2 ∧ _
              rw [e2]
              refine ⟨⟨_, rfl, fun q st => ?_⟩, hMm3, hFm3⟩
              rw [runL_app, hv1 q, run_bang, b2i_t c6]
              rfl
          · skip
            exact absurd (c5.symm.trans eo) (by decide)
        · skip
          exact absurd (c4.symm.trans eo) (by decide)
      · skip
        exact absurd (c3.symm.trans eo) (by decide)
    · skip
      exfalso; have := hO.2.2; omega
  · skip
    refine v_iload_n K dX10_unit_11 rfl ?_
    refine v_bipushN K 40 rfl dX10_unit_12 ?_
    refine v_icmp_ne (tgt := 118) K dX10_unit_14 rfl (fun c7 => ?_) (fun c7 => ?_)
    · skip
      have eL : unitP bt n u 1 s = leafP bt n u s := by rw [unit_e1, if_neg c7, if_neg c1]
      refine v_aload_n K dX10_unit_118 rfl ?_
      refine v_iload_n K dX10_unit_119 rfl ?_
      refine v_callV (As := [.int (hereP bt n s)]) K (c_X10_nameOf h bt n B u nm s (hereP bt n s) hX hM) lX10_103 ck_X10 rfl sh_118 pl_118 rfl ⟨by decide, by decide⟩ (Nat.le_of_ble_eq_true rfl) dX10_unit_120 (fun r3 h3 hp3 => ?_) rfl
      obtain ⟨rfl, rfl⟩ := hp3
      refine v_some ?_
      refine v_nm (fun kk e_kk => ?_)
      refine v_istore_n (lv2 := [(2, .int kk), (1, .int (hereP bt n s)), (0, .ref 118)]) K dX10_unit_123 (by decide) rfl ?_
      refine v_iload_n K dX10_unit_124 rfl ?_
      refine v_if_lt (tgt := 145) K dX10_unit_125 rfl (fun c8 => ?_) (fun c8 => ?_)
      · skip
        have hno := nm_none (o := nameP u (hereP bt n s)) (fun j hj => Nat.lt_of_lt_of_le (name_lt hj) nn_le) (by rw [← e_kk]; exact c8)
        refine v_iconstN K 0 rfl dX10_unit_145 ?_
        refine v_istore_n (lv2 := [(3, .int (nI 0)), (2, .int kk), (1, .int (hereP bt n s)), (0, .ref 118)]) K dX10_unit_146 (by decide) rfl ?_
        refine v_iconstN K 0 rfl dX10_unit_147 ?_
        refine v_istore (lv2 := [(4, .int (nI 0)), (3, .int (nI 0)), (2, .int kk), (1, .int (hereP bt n s)), (0, .ref 118)]) K dX10_unit_148 (by decide) rfl ?_
        have L150 : ∀ (mm : Nat) (f : Nat) (m : Nat) (t : PSt) (v : Int32) (h1 : Mm) (hfm : f + m = 4) (hO1 : OKs n 1 t) (hM1 : PM h1 n t) (hF1 : FrP h h1) (he : (digP bt n 4 (nI 0) s) = ((digP bt n f v t).1, (digP bt n f v t).2.1 + m, (digP bt n f v t).2.2)), f < mm → V κ (QM κ (132, ρ, GL, 0, 0) (P_X10_unit_1 h bt n B u nm s)) 5 (132, ρ, GL, 0, 0) h1 150 [(0, .ref 118), (1, .int (hereP bt n s)), (2, .int kk), (3, .int v), (4, .int (nI m))] [] := by
          intro mm
          induction mm with
          | zero => intro f m t v h1 hfm hO1 hM1 hF1 he hmm; exact absurd hmm (Nat.not_lt_zero _)
          | succ mm ih150 =>
            intro f m t v h1 hfm hO1 hM1 hF1 he hmm
            have hX1 := PX.fr hX hF1
            have htn := hM1.2.1
            refine v_iload K dX10_unit_150 rfl ?_
            refine v_iconstN K 4 rfl dX10_unit_152 ?_
            refine v_icmpN_ge (tgt := 202) K (by omega) (by omega) dX10_unit_153 rfl (fun c9 => ?_) (fun c9 => ?_)
            · skip
              obtain rfl : f = 0 := by omega
              have eD : (digP bt n 4 (nI 0) s) = (v, m, t) := by rw [he, digP]; simp
              refine v_iload K dX10_unit_202 rfl ?_
              refine v_ifN_ne (tgt := 214) K (by omega) dX10_unit_204 rfl (fun c10 => ?_) (fun c10 => ?_)
              · skip
                refine v_iload_n K dX10_unit_214 rfl ?_
                refine v_iret K dX10_unit_215 ?_
                have e2 : (unitP bt n u 1) s = ([v], t) := by rw [eL, leafP, hno]; dsimp only; rw [eD]; exact if_neg (by show ¬ m = 0; omega)
                show (∃ v, _ ∧ (((unitP bt n u 1) s).2.2.1 = none → ∀ st, runL ((unitP bt n u 1) s).1 nm st = v :: st)) ∧ PM _ n ((unitP bt n u 1) s).2 ∧ _
                rw [e2]
                obtain ⟨a, ha, ea⟩ := dig_val (bt := bt) (n := n) 4 0 (nI 0) s (by omega) ⟨0, by decide, rfl⟩
                rw [eD] at ea
                have ea2 : v = nI a := ea
                subst ea2
                exact ⟨⟨_, rfl, fun _ st => run_num ha⟩, hM1, hF1⟩
              · skip
                refine v_aload_n K dX10_unit_207 rfl ?_
                refine v_callV (As := []) K (c_X10_wrong h1 bt n B u nm t hX1 hM1) lX10_97 ck_X10 rfl sh_118 pl_118 rfl ⟨by decide, by decide⟩ (Nat.le_of_ble_eq_true rfl) dX10_unit_208 (fun r4 h4 hp4 => ?_) rfl
                obtain ⟨rfl, hMq2, hFaq2⟩ := hp4
                have hFq2 := FrP.t hF1 hFaq2
                have hXq2 := PX.fr hX hFq2
                refine v_some ?_
                refine v_goto (tgt := 215) K dX10_unit_211 rfl ?_
                refine v_iret K dX10_unit_215 ?_
                have e2 : (unitP bt n u 1) s = ([], wrongP t) := by rw [eL, leafP, hno]; dsimp only; rw [eD]; exact if_pos (by show m = 0; omega)
                show (∃ v, _ ∧ (((unitP bt n u 1) s).2.2.1 = none → ∀ st, runL ((unitP bt n u 1) s).1 nm st = v :: st)) ∧ PM _ n ((unitP bt n u 1) s).2 ∧ _
                rw [e2]
                exact ⟨⟨_, rfl, fun q => absurd q wrong_some⟩, hMq2, hFq2⟩
            · skip
              obtain ⟨f, rfl⟩ : ∃ f0, f = f0 + 1 := ⟨f - 1, by omega⟩
              refine v_aload_n K dX10_unit_156 rfl ?_
              refine v_callV (As := []) K (c_X10_here h1 bt n B u nm t hX1 hM1) lX10_68 ck_X10 rfl sh_118 pl_118 rfl ⟨by decide, by decide⟩ (Nat.le_of_ble_eq_true rfl) dX10_unit_157 (fun r5 h5 hp5 => ?_) rfl
              obtain ⟨rfl, rfl⟩ := hp5
              refine v_some ?_
              refine v_i2l K dX10_unit_160 rfl ?_
              refine v_ldc2 K kX10_107 dX10_unit_161 ?_
              refine v_topL (y := (nI 48).toInt64) (by decide) ?_
              refine v_ldc2 K kX10_109 dX10_unit_164 ?_
              refine v_topL (y := (nI 57).toInt64) (by decide) ?_
              refine v_callS (As := [.long (hereP bt n t).toInt64, .long (nI 48).toInt64, .long (nI 57).toInt64]) K (c_X10_in h1 (hereP bt n t) (nI 48) (nI 57)) lX10_51 rfl ⟨by decide, by decide⟩ (Nat.le_of_ble_eq_true rfl) dX10_unit_167 (fun r6 h6 hp6 => ?_) rfl
              obtain ⟨rfl, rfl⟩ := hp6
              refine v_some ?_
              refine v_ifB_eq (tgt := 202) K dX10_unit_170 rfl (fun c11 => ?_) (fun c11 => ?_)
              · skip
                have eD : (digP bt n 4 (nI 0) s) = (v, m, t) := by rw [he, digP, if_neg c11]; simp
                refine v_iload K dX10_unit_202 rfl ?_
                refine v_ifN_ne (tgt := 214) K (by omega) dX10_unit_204 rfl (fun c12 => ?_) (fun c12 => ?_)
                · skip
                  refine v_iload_n K dX10_unit_214 rfl ?_
                  refine v_iret K dX10_unit_215 ?_
                  have e2 : (unitP bt n u 1) s = ([v], t) := by rw [eL, leafP, hno]; dsimp only; rw [eD]; exact if_neg (by show ¬ m = 0; omega)
                  show (∃ v, _ ∧ (((unitP bt n u 1) s).2.2.1 = none → ∀ st, runL ((unitP bt n u 1) s).1 nm st = v :: st)) ∧ PM _ n ((unitP bt n u 1) s).2 ∧ _
                  rw [e2]
                  obtain ⟨a, ha, ea⟩ := dig_val (bt := bt) (n := n) 4 0 (nI 0) s (by omega) ⟨0, by decide, rfl⟩
                  rw [eD] at ea
                  have ea2 : v = nI a := ea
                  subst ea2
                  exact ⟨⟨_, rfl, fun _ st => run_num ha⟩, hM1, hF1⟩
                · skip
                  refine v_aload_n K dX10_unit_207 rfl ?_
                  refine v_callV (As := []) K (c_X10_wrong h1 bt n B u nm t hX1 hM1) lX10_97 ck_X10 rfl sh_118 pl_118 rfl ⟨by decide, by decide⟩ (Nat.le_of_ble_eq_true rfl) dX10_unit_208 (fun r7 h7 hp7 => ?_) rfl
                  obtain ⟨rfl, hMq3, hFaq3⟩ := hp7
                  have hFq3 := FrP.t hF1 hFaq3
                  have hXq3 := PX.fr hX hFq3
                  refine v_some ?_
                  refine v_goto (tgt := 215) K dX10_unit_211 rfl ?_
                  refine v_iret K dX10_unit_215 ?_
                  have e2 : (unitP bt n u 1) s = ([], wrongP t) := by rw [eL, leafP, hno]; dsimp only; rw [eD]; exact if_pos (by show m = 0; omega)
                  show (∃ v, _ ∧ (((unitP bt n u 1) s).2.2.1 = none → ∀ st, runL ((unitP bt n u 1) s).1 nm st = v :: st)) ∧ PM _ n ((unitP bt n u 1) s).2 ∧ _
                  rw [e2]
                  exact ⟨⟨_, rfl, fun q => absurd q wrong_some⟩, hMq3, hFq3⟩
              · skip
                obtain ⟨hl1, hn1⟩ := hereP_lt (c := hereP bt n t) rfl (fun e => by rw [e] at c11; exact absurd c11.1 (by decide))
                refine v_bipushN K 10 rfl dX10_unit_173 ?_
                refine v_iload_n K dX10_unit_175 rfl ?_
                refine v_imul K dX10_unit_176 ?_
                refine v_aload_n K dX10_unit_177 rfl ?_
                refine v_callV (As := []) K (c_X10_here h1 bt n B u nm t hX1 hM1) lX10_68 ck_X10 rfl sh_118 pl_118 rfl ⟨by decide, by decide⟩ (Nat.le_of_ble_eq_true rfl) dX10_unit_178 (fun r8 h8 hp8 => ?_) rfl
                obtain ⟨rfl, rfl⟩ := hp8
                refine v_some ?_
                refine v_iadd K dX10_unit_181 ?_
                refine v_bipushN K 48 rfl dX10_unit_182 ?_
                refine v_isub K dX10_unit_184 ?_
                refine v_nm (fun x1 e_x1 => ?_)
                refine v_istore_n (lv2 := [(3, .int x1), (0, .ref 118), (1, .int (hereP bt n s)), (2, .int kk), (4, .int (nI m))]) K dX10_unit_185 (by decide) rfl ?_
                refine v_aload_n K dX10_unit_186 rfl ?_
                refine v_dup K dX10_unit_187 rfl ?_
                refine v_geti (x := nI t.1) K fX10_55 sh_118 pl_118 hM1.1.1 dX10_unit_188 ?_
                refine v_iconstN K 1 rfl dX10_unit_191 ?_
                refine v_iaddN K dX10_unit_192 ?_
                refine v_puti K pX10_55 sh_118 pl_118 dX10_unit_193 ?_
                have hMm4 : PM (u2 h1 118 6 (nI (t.1 + 1))) n (advP t) := hM1.adv hl1
                have hFm4 : FrP h (u2 h1 118 6 (nI (t.1 + 1))) := FrP.u hF1 (by omega)
                have hXm4 := PX.fr hX hFm4
                refine v_iincN (lv2 := [(4, .int (nI (m + 1))), (3, .int x1), (0, .ref 118), (1, .int (hereP bt n s)), (2, .int kk)]) K 1 dX10_unit_196 rfl rfl (by decide) rfl ?_
                refine v_goto (tgt := 150) K dX10_unit_199 rfl ?_
                refine v_sub (lv2 := [(0, .ref 118), (1, .int (hereP bt n s)), (2, .int kk), (3, .int x1), (4, .int (nI (m + 1)))]) (by simp) ?_
                exact ih150 f (m + 1) ((advP t)) x1 ((u2 h1 118 6 (nI (t.1 + 1)))) (by omega) (by exact hO1.adv hl1) (by exact hMm4) (by exact hFm4) (by rw [he, digP, if_pos c11, ← e_x1]; exact Prod.ext rfl (Prod.ext (by show _ + 1 + m = _ + (m + 1); omega) rfl)) (by omega)
        refine v_sub (lv2 := [(0, .ref 118), (1, .int (hereP bt n s)), (2, .int kk), (3, .int (nI 0)), (4, .int (nI 0))]) (by simp) ?_
        exact L150 (4 + 1) 4 0 s (nI 0) h (by rfl) (by exact hO) (by exact hM) (by exact (FrP.r (h := h))) (by rfl) (Nat.lt_succ_self _)
      · skip
        obtain ⟨j, hj⟩ := nm_some (o := nameP u (hereP bt n s)) (by rw [← e_kk]; exact c8)
        have hj5 : j < 5 := Nat.lt_of_lt_of_le (name_lt hj) nn_le
        rw [hj] at e_kk
        subst e_kk
        obtain ⟨hl0, hn0⟩ := hereP_lt (c := hereP bt n s) rfl (name_ne hj)
        show V κ (QM κ (132, ρ, GL, 0, 0) (P_X10_unit_1 h bt n B u nm s)) 5 (132, ρ, GL, 0, 0) h 128 [(2, .int (nI j)), (1, .int (hereP bt n s)), (0, .ref 118)] []
        refine v_aload_n K dX10_unit_128 rfl ?_
        refine v_dup K dX10_unit_129 rfl ?_
        refine v_geti (x := nI s.1) K fX10_55 sh_118 pl_118 hM.1.1 dX10_unit_130 ?_
        refine v_iconstN K 1 rfl dX10_unit_133 ?_
        refine v_iaddN K dX10_unit_134 ?_
        refine v_puti K pX10_55 sh_118 pl_118 dX10_unit_135 ?_
        have hMm5 : PM (u2 h 118 6 (nI (s.1 + 1))) n (advP s) := hM.adv hl0
        have hFm5 : FrP h (u2 h 118 6 (nI (s.1 + 1))) := FrP.u (FrP.r (h := h)) (by omega)
        have hXm5 := PX.fr hX hFm5
        refine v_aload_n K dX10_unit_138 rfl ?_
        refine v_getr (q := 123) K fX10_22 sh_118 pl_118 gl_118_11 dX10_unit_139 ?_
        refine v_iload_n K dX10_unit_142 rfl ?_
        refine v_iald (x := nm j) K sh_123 pl_123 (by omega) (hXm5.2.2.2.2.2.2.2 j (by omega)) dX10_unit_143 ?_
        refine v_iret K dX10_unit_144 ?_
        have e2 : (unitP bt n u 1) s = ([(-1) - nI j], advP s) := by rw [eL, leafP, hj]
        show (∃ v, _ ∧ (((unitP bt n u 1) s).2.2.1 = none → ∀ st, runL ((unitP bt n u 1) s).1 nm st = v :: st)) ∧ PM _ n ((unitP bt n u 1) s).2 ∧ _
        rw [e2]
        exact ⟨⟨_, rfl, fun _ st => run_name hj5⟩, hMm5, hFm5⟩
    · skip
      have eo : hereP bt n s = nI 40 := c7
      obtain ⟨hl0, hn0⟩ := hereP_lt eo (nI_m1 (by decide))
      refine v_aload_n K dX10_unit_17 rfl ?_
      refine v_geti (x := nI s.2.2) K fX10_94 sh_118 pl_118 hM.1.2.2 dX10_unit_18 ?_
      refine v_iconstN K 5 rfl dX10_unit_21 ?_
      refine v_icmpN_ne (tgt := 30) K (by omega) (by omega) dX10_unit_22 rfl (fun c13 => ?_) (fun c13 => ?_)
      · skip
        refine v_aload_n K dX10_unit_30 rfl ?_
        refine v_dup K dX10_unit_31 rfl ?_
        refine v_geti (x := nI s.2.2) K fX10_94 sh_118 pl_118 hM.1.2.2 dX10_unit_32 ?_
        refine v_iconstN K 1 rfl dX10_unit_35 ?_
        refine v_iaddN K dX10_unit_36 ?_
        refine v_puti K pX10_94 sh_118 pl_118 dX10_unit_37 ?_
        have hMm6 : PM (u2 h 118 9 (nI (s.2.2 + 1))) n (openP s) := hM.opn (by have := hO.2.2; omega)
        have hFm6 : FrP h (u2 h 118 9 (nI (s.2.2 + 1))) := FrP.u (FrP.r (h := h)) (by omega)
        have hXm6 := PX.fr hX hFm6
        refine v_aload_n K dX10_unit_40 rfl ?_
        refine v_dup K dX10_unit_41 rfl ?_
        refine v_geti (x := nI ((openP s).1)) K fX10_55 sh_118 pl_118 hMm6.1.1 dX10_unit_42 ?_
        refine v_iconstN K 1 rfl dX10_unit_45 ?_
        refine v_iaddN K dX10_unit_46 ?_
        refine v_puti K pX10_55 sh_118 pl_118 dX10_unit_47 ?_
        have hMm7 : PM (u2 (u2 h 118 9 (nI (s.2.2 + 1))) 118 6 (nI ((openP s).1 + 1))) n (advP (openP s)) := hMm6.adv hl0
        have hFm7 : FrP h (u2 (u2 h 118 9 (nI (s.2.2 + 1))) 118 6 (nI ((openP s).1 + 1))) := FrP.u hFm6 (by omega)
        have hXm7 := PX.fr hX hFm7
        refine v_iload_n K dX10_unit_50 rfl ?_
        refine v_bipushN K 40 rfl dX10_unit_51 ?_
        refine v_icmp_ne (tgt := 63) K dX10_unit_53 rfl (fun c14 => ?_) (fun c14 => ?_)
        · skip
          exact absurd eo c14
        · skip
          refine v_aload_n K dX10_unit_56 rfl ?_
          refine v_callV (As := []) K (c_X10_either_0 ((u2 (u2 h 118 9 (nI (s.2.2 + 1))) 118 6 (nI ((openP s).1 + 1)))) bt n B u nm ((advP (openP s))) hXm7 hMm7 ⟨hl0, hn0, by show s.2.2 + 1 + 0 = 5; have := hO.2.2; omega⟩) lX10_100 ck_X10 rfl sh_118 pl_118 rfl ⟨by decide, by decide⟩ (Nat.le_of_ble_eq_true rfl) dX10_unit_57 (fun r9 h9 hp9 => ?_) rfl
          obtain ⟨⟨v2, rfl, hvq4⟩, hMq4, hFaq4⟩ := hp9
          have hFq4 := FrP.t hFm7 hFaq4
          have hXq4 := PX.fr hX hFq4
          have hGq4 : GP n (advP (openP s)) ((eitherP bt n (unitP bt n u 0)) (advP (openP s))).2 := (either_good (unit_good (bt := bt) (n := n) (u := u) 0)) _ ⟨hl0, hn0, by show s.2.2 + 1 + 0 = 5; have := hO.2.2; omega⟩
          refine v_some ?_
          refine v_goto (tgt := 67) K dX10_unit_60 rfl ?_
          have hG1 := hGq4
          have hv1 := hvq4
          have ho1 : s.2.2 + 1 ≤ ((eitherP bt n (unitP bt n u 0)) (advP (openP s))).2.2.2 := hG1.2.2.2.1
          refine v_istore_n (lv2 := [(2, .int v2), (1, .int (hereP bt n s)), (0, .ref 118)]) K dX10_unit_67 (by decide) rfl ?_
          refine v_iload_n K dX10_unit_68 rfl ?_
          refine v_bipushN K 40 rfl dX10_unit_69 ?_
          refine v_icmp_ne (tgt := 88) K dX10_unit_71 rfl (fun c15 => ?_) (fun c15 => ?_)
          · skip
            exact absurd eo c15
          · skip
            refine v_aload_n K dX10_unit_74 rfl ?_
            refine v_bipushN K 41 rfl dX10_unit_75 ?_
            refine v_callV (As := [.int (nI 41)]) K (c_X10_takes h9 bt n B u nm (((eitherP bt n (unitP bt n u 0)) (advP (openP s))).2) 41 hXq4 hMq4 (by decide)) lX10_78 ck_X10 rfl sh_118 pl_118 rfl ⟨by decide, by decide⟩ (Nat.le_of_ble_eq_true rfl) dX10_unit_77 (fun r10 h10 hp10 => ?_) rfl
            obtain ⟨rfl, hMq5, hFaq5⟩ := hp10
            have hFq5 := FrP.t hFq4 hFaq5
            have hXq5 := PX.fr hX hFq5
            refine v_some ?_
            refine v_ifB_ne (tgt := 88) K dX10_unit_80 rfl (fun c16 => ?_) (fun c16 => ?_)
            · skip
              rw [tk_y c16] at hMq5
              refine v_aload_n K dX10_unit_88 rfl ?_
              refine v_dup K dX10_unit_89 rfl ?_
              refine v_geti (x := nI ((advP ((eitherP bt n (unitP bt n u 0)) (advP (openP s))).2).2.2)) K fX10_94 sh_118 pl_118 hMq5.1.2.2 dX10_unit_90 ?_
              refine v_iconstN K 1 rfl dX10_unit_93 ?_
              refine v_isubN K (by first | exact Nat.le_trans (Nat.succ_le_succ (Nat.zero_le _)) ho1 | (have := ho1; omega)) dX10_unit_94 ?_
              refine v_puti K pX10_94 sh_118 pl_118 dX10_unit_95 ?_
              have hMm8 : PM (u2 h10 118 9 (nI ((advP ((eitherP bt n (unitP bt n u 0)) (advP (openP s))).2).2.2 - 1))) n (closeP (advP ((eitherP bt n (unitP bt n u 0)) (advP (openP s))).2)) := hMq5.cls
              have hFm8 : FrP h (u2 h10 118 9 (nI ((advP ((eitherP bt n (unitP bt n u 0)) (advP (openP s))).2).2.2 - 1))) := FrP.u hFq5 (by omega)
              have hXm8 := PX.fr hX hFm8
              refine v_iload_n K dX10_unit_98 rfl ?_
              refine v_bipushN K 40 rfl dX10_unit_99 ?_
              refine v_icmp_ne (tgt := 108) K dX10_unit_101 rfl (fun c17 => ?_) (fun c17 => ?_)
              · skip
                exact absurd eo c17
              · skip
                refine v_iload_n K dX10_unit_104 rfl ?_
                refine v_goto (tgt := 117) K dX10_unit_105 rfl ?_
                refine v_iret K dX10_unit_117 ?_
                have e2 : (unitP bt n u 1) s = (((eitherP bt n (unitP bt n u 0)) (advP (openP s))).1, closeP (advP ((eitherP bt n (unitP bt n u 0)) (advP (openP s))).2)) := by rw [unit_e1, if_pos eo, if_pos c16]
                show (∃ v, _ ∧ (((unitP bt n u 1) s).2.2.1 = none → ∀ st, runL ((unitP bt n u 1) s).1 nm st = v :: st)) ∧ PM _ n ((unitP bt n u 1) s).2 ∧ _
                rw [e2]
                exact ⟨⟨_, rfl, fun q => hv1 q⟩, hMm8, hFm8⟩
            · skip
              rw [tk_n c16] at hMq5
              refine v_aload_n K dX10_unit_83 rfl ?_
              refine v_callV (As := []) K (c_X10_wrong h10 bt n B u nm (((eitherP bt n (unitP bt n u 0)) (advP (openP s))).2) hXq5 hMq5) lX10_97 ck_X10 rfl sh_118 pl_118 rfl ⟨by decide, by decide⟩ (Nat.le_of_ble_eq_true rfl) dX10_unit_84 (fun r11 h11 hp11 => ?_) rfl
              obtain ⟨rfl, hMq6, hFaq6⟩ := hp11
              have hFq6 := FrP.t hFq5 hFaq6
              have hXq6 := PX.fr hX hFq6
              refine v_some ?_
              refine v_iret K dX10_unit_87 ?_
              have e2 : (unitP bt n u 1) s = ([], wrongP ((eitherP bt n (unitP bt n u 0)) (advP (openP s))).2) := by rw [unit_e1, if_pos eo, if_neg c16]
              show (∃ v, _ ∧ (((unitP bt n u 1) s).2.2.1 = none → ∀ st, runL ((unitP bt n u 1) s).1 nm st = v :: st)) ∧ PM _ n ((unitP bt n u 1) s).2 ∧ _
              rw [e2]
              exact ⟨⟨_, rfl, fun q => absurd q wrong_some⟩, hMq6, hFq6⟩
      · skip
        exfalso; have := hO.2.2; omega

abbrev P_X10_product_1 (h : Mm) (bt : Nat → Int32) (n B u : Nat) (nm : Nat → Int32) (s : PSt) : Option Value → Mm → Prop := fun r h2 => (∃ v, r = some (.int v) ∧ (((prodP bt n (unitP bt n u 1)) s).2.2.1 = none → ∀ st, runL ((prodP bt n (unitP bt n u 1)) s).1 nm st = v :: st)) ∧ PM h2 n ((prodP bt n (unitP bt n u 1)) s).2 ∧ FrP h h2
theorem c_X10_product_1 {l : Launch} (h : Mm) (bt : Nat → Int32) (n B u : Nat) (nm : Nat → Int32) (s : PSt) (hX : PX h bt n B u nm) (hM : PM h n s) (hO : OKs n 1 s) : Con l yX10_product cX10_product 4 (some .int) 8 186 132 GL h [.ref 118] (P_X10_product_1 h bt n B u nm s) := by
  refine Con.ofV (own := "FoxRoundsModel") (nm := "product") rfl rfl (by decide) (Nat.le_of_ble_eq_true rfl) ?_
  intro κ ρ hkl K
  subst hkl
  show V κ (QM κ (132, ρ, GL, 0, 0) (P_X10_product_1 h bt n B u nm s)) 4 (132, ρ, GL, 0, 0) h 0 [(0, .ref 118)] []
  have hn50 := hX.2.2.2.2.2.1
  have hBn := hX.2.2.2.2.1
  have hsn := hM.2.1
  have hs5 := hM.2.2.1
  refine v_aload_n K dX10_product_0 rfl ?_
  refine v_callV (As := []) K (c_X10_unit_1 h bt n B u nm s hX hM hO) lX10_91 ck_X10 rfl sh_118 pl_118 rfl ⟨by decide, by decide⟩ (Nat.le_of_ble_eq_true rfl) dX10_product_1 (fun r1 h1 hp1 => ?_) rfl
  obtain ⟨⟨v1, rfl, hvq1⟩, hMq1, hFaq1⟩ := hp1
  have hFq1 := FrP.t (FrP.r (h := h)) hFaq1
  have hXq1 := PX.fr hX hFq1
  have hGq1 : GP n s ((unitP bt n u 1) s).2 := (unit_good (bt := bt) (n := n) (u := u) 1) _ hO
  refine v_some ?_
  refine v_istore_n (lv2 := [(1, .int v1), (0, .ref 118)]) K dX10_product_4 (by decide) rfl ?_
  have L5 : ∀ (mm : Nat) (f : Nat) (cs : List Int32) (t : PSt) (v : Int32) (h1 : Mm) (hG : GP n s t) (hM1 : PM h1 n t) (hF1 : FrP h h1) (hv : t.2.1 = none → ∀ st, runL cs nm st = v :: st) (he : (prodP bt n (unitP bt n u 1)) s = loopP bt n [nI 42, nI 47, nI 37] (unitP bt n u 1) f cs t) (hfu : n + 1 ≤ f + t.1), f < mm → V κ (QM κ (132, ρ, GL, 0, 0) (P_X10_product_1 h bt n B u nm s)) 4 (132, ρ, GL, 0, 0) h1 5 [(0, .ref 118), (1, .int v)] [] := by
    intro mm
    induction mm with
    | zero => intro f cs t v h1 hG hM1 hF1 hv he hfu hmm; exact absurd hmm (Nat.not_lt_zero _)
    | succ mm ih5 =>
      intro f cs t v h1 hG hM1 hF1 hv he hfu hmm
      have hX1 := PX.fr hX hF1
      have htn := hM1.2.1
      have ht5 := hM1.2.2.1
      obtain ⟨f, rfl⟩ : ∃ f0, f = f0 + 1 := ⟨f - 1, by omega⟩
      refine v_aload_n K dX10_product_5 rfl ?_
      refine v_callV (As := []) K (c_X10_here h1 bt n B u nm t hX1 hM1) lX10_68 ck_X10 rfl sh_118 pl_118 rfl ⟨by decide, by decide⟩ (Nat.le_of_ble_eq_true rfl) dX10_product_6 (fun r2 h2 hp2 => ?_) rfl
      obtain ⟨rfl, rfl⟩ := hp2
      refine v_some ?_
      refine v_bipushN K 42 rfl dX10_product_9 ?_
      refine v_icmp_eq (tgt := 32) K dX10_product_11 rfl (fun c1 => ?_) (fun c1 => ?_)
      · skip
        have eo : hereP bt n t = nI 42 := c1
        obtain ⟨hl0, hn0⟩ := hereP_lt eo (nI_m1 (by decide))
        have hG0 := hG
        refine v_aload_n K dX10_product_32 rfl ?_
        refine v_callV (As := []) K (c_X10_here h1 bt n B u nm t hX1 hM1) lX10_68 ck_X10 rfl sh_118 pl_118 rfl ⟨by decide, by decide⟩ (Nat.le_of_ble_eq_true rfl) dX10_product_33 (fun r3 h3 hp3 => ?_) rfl
        obtain ⟨rfl, rfl⟩ := hp3
        refine v_some ?_
        refine v_istore_n (lv2 := [(2, .int (hereP bt n t)), (0, .ref 118), (1, .int v)]) K dX10_product_36 (by decide) rfl ?_
        refine v_aload_n K dX10_product_37 rfl ?_
        refine v_dup K dX10_product_38 rfl ?_
        refine v_geti (x := nI t.1) K fX10_55 sh_118 pl_118 hM1.1.1 dX10_product_39 ?_
        refine v_iconstN K 1 rfl dX10_product_42 ?_
        refine v_iaddN K dX10_product_43 ?_
        refine v_puti K pX10_55 sh_118 pl_118 dX10_product_44 ?_
        have hMm1 : PM (u2 h1 118 6 (nI (t.1 + 1))) n (advP t) := hM1.adv hl0
        have hFm1 : FrP h (u2 h1 118 6 (nI (t.1 + 1))) := FrP.u hF1 (by omega)
        have hXm1 := PX.fr hX hFm1
        refine v_aload_n K dX10_product_47 rfl ?_
        refine v_callV (As := []) K (c_X10_unit_1 ((u2 h1 118 6 (nI (t.1 + 1)))) bt n B u nm ((advP t)) hXm1 hMm1 ((hO.on hG0 hn0).adv hl0)) lX10_91 ck_X10 rfl sh_118 pl_118 rfl ⟨by decide, by decide⟩ (Nat.le_of_ble_eq_true rfl) dX10_product_48 (fun r4 h4 hp4 => ?_) rfl
        obtain ⟨⟨v2, rfl, hvq2⟩, hMq2, hFaq2⟩ := hp4
        have hFq2 := FrP.t hFm1 hFaq2
        have hXq2 := PX.fr hX hFq2
        have hGq2 : GP n (advP t) ((unitP bt n u 1) (advP t)).2 := (unit_good (bt := bt) (n := n) (u := u) 1) _ ((hO.on hG0 hn0).adv hl0)
        refine v_some ?_
        refine v_istore_n (lv2 := [(3, .int v2), (2, .int (hereP bt n t)), (0, .ref 118), (1, .int v)]) K dX10_product_51 (by decide) rfl ?_
        refine v_iload_n K dX10_product_52 rfl ?_
        refine v_bipushN K 42 rfl dX10_product_53 ?_
        refine v_icmp_ne (tgt := 64) K dX10_product_55 rfl (fun c2 => ?_) (fun c2 => ?_)
        · skip
          exact absurd eo c2
        · skip
          refine v_iload_n K dX10_product_58 rfl ?_
          refine v_iload_n K dX10_product_59 rfl ?_
          refine v_imul K dX10_product_60 ?_
          refine v_goto (tgt := 87) K dX10_product_61 rfl ?_
          refine v_top (y := joinR (nI 42) v v2) (by rw [j42]) ?_
          refine v_istore_n (lv2 := [(1, .int (joinR (nI 42) v v2)), (3, .int v2), (2, .int (hereP bt n t)), (0, .ref 118)]) K dX10_product_87 (by decide) rfl ?_
          refine v_goto (tgt := 5) K dX10_product_88 rfl ?_
          refine v_sub (lv2 := [(0, .ref 118), (1, .int (joinR (nI 42) v v2))]) (by simp) ?_
          exact ih5 f ((cs ++ ((unitP bt n u 1) (advP t)).1 ++ [-hereP bt n t])) (((unitP bt n u 1) (advP t)).2) (joinR (nI 42) v v2) h4 (by exact hG0.tr hn0 ((GP.adv (hO.on hG0 hn0) hl0).tr hn0 hGq2)) (by exact hMq2) (by exact hFq2) (by intro hn2; rw [eo]; exact val_on (by decide) (hv hn0) (hvq2 hn2) rfl) (by rw [he, loop_on (by rw [eo]; decide)]) (by have h1 : (advP t).1 = t.1 + 1 := rfl; have h2 := hGq2.1; omega) (by omega)
      · skip
        refine v_aload_n K dX10_product_14 rfl ?_
        refine v_callV (As := []) K (c_X10_here h1 bt n B u nm t hX1 hM1) lX10_68 ck_X10 rfl sh_118 pl_118 rfl ⟨by decide, by decide⟩ (Nat.le_of_ble_eq_true rfl) dX10_product_15 (fun r5 h5 hp5 => ?_) rfl
        obtain ⟨rfl, rfl⟩ := hp5
        refine v_some ?_
        refine v_bipushN K 47 rfl dX10_product_18 ?_
        refine v_icmp_eq (tgt := 32) K dX10_product_20 rfl (fun c3 => ?_) (fun c3 => ?_)
        · skip
          have eo : hereP bt n t = nI 47 := c3
          obtain ⟨hl0, hn0⟩ := hereP_lt eo (nI_m1 (by decide))
          have hG0 := hG
          refine v_aload_n K dX10_product_32 rfl ?_
          refine v_callV (As := []) K (c_X10_here h1 bt n B u nm t hX1 hM1) lX10_68 ck_X10 rfl sh_118 pl_118 rfl ⟨by decide, by decide⟩ (Nat.le_of_ble_eq_true rfl) dX10_product_33 (fun r6 h6 hp6 => ?_) rfl
          obtain ⟨rfl, rfl⟩ := hp6
          refine v_some ?_
          refine v_istore_n (lv2 := [(2, .int (hereP bt n t)), (0, .ref 118), (1, .int v)]) K dX10_product_36 (by decide) rfl ?_
          refine v_aload_n K dX10_product_37 rfl ?_
          refine v_dup K dX10_product_38 rfl ?_
          refine v_geti (x := nI t.1) K fX10_55 sh_118 pl_118 hM1.1.1 dX10_product_39 ?_
          refine v_iconstN K 1 rfl dX10_product_42 ?_
          refine v_iaddN K dX10_product_43 ?_
          refine v_puti K pX10_55 sh_118 pl_118 dX10_product_44 ?_
          have hMm2 : PM (u2 h1 118 6 (nI (t.1 + 1))) n (advP t) := hM1.adv hl0
          have hFm2 : FrP h (u2 h1 118 6 (nI (t.1 + 1))) := FrP.u hF1 (by omega)
          have hXm2 := PX.fr hX hFm2
          refine v_aload_n K dX10_product_47 rfl ?_
          refine v_callV (As := []) K (c_X10_unit_1 ((u2 h1 118 6 (nI (t.1 + 1)))) bt n B u nm ((advP t)) hXm2 hMm2 ((hO.on hG0 hn0).adv hl0)) lX10_91 ck_X10 rfl sh_118 pl_118 rfl ⟨by decide, by decide⟩ (Nat.le_of_ble_eq_true rfl) dX10_product_48 (fun r7 h7 hp7 => ?_) rfl
          obtain ⟨⟨v3, rfl, hvq3⟩, hMq3, hFaq3⟩ := hp7
          have hFq3 := FrP.t hFm2 hFaq3
          have hXq3 := PX.fr hX hFq3
          have hGq3 : GP n (advP t) ((unitP bt n u 1) (advP t)).2 := (unit_good (bt := bt) (n := n) (u := u) 1) _ ((hO.on hG0 hn0).adv hl0)
          refine v_some ?_
          refine v_istore_n (lv2 := [(3, .int v3), (2, .int (hereP bt n t)), (0, .ref 118), (1, .int v)]) K dX10_product_51 (by decide) rfl ?_
          refine v_iload_n K dX10_product_52 rfl ?_
          refine v_bipushN K 42 rfl dX10_product_53 ?_
          refine v_icmp_ne (tgt := 64) K dX10_product_55 rfl (fun c4 => ?_) (fun c4 => ?_)
          · skip
            refine v_iload_n K dX10_product_64 rfl ?_
            refine v_if_ne (tgt := 72) K dX10_product_65 rfl (fun c5 => ?_) (fun c5 => ?_)
            · skip
              refine v_iload_n K dX10_product_72 rfl ?_
              refine v_bipushN K 47 rfl dX10_product_73 ?_
              refine v_icmp_ne (tgt := 84) K dX10_product_75 rfl (fun c6 => ?_) (fun c6 => ?_)
              · skip
                exact absurd eo c6
              · skip
                refine v_iload_n K dX10_product_78 rfl ?_
                refine v_iload_n K dX10_product_79 rfl ?_
                refine v_idiv K dX10_product_80 (by assumption) ?_
                refine v_goto (tgt := 87) K dX10_product_81 rfl ?_
                refine v_top (y := joinR (nI 47) v v3) (by rw [j47, if_neg c5]) ?_
                refine v_istore_n (lv2 := [(1, .int (joinR (nI 47) v v3)), (3, .int v3), (2, .int (hereP bt n t)), (0, .ref 118)]) K dX10_product_87 (by decide) rfl ?_
                refine v_goto (tgt := 5) K dX10_product_88 rfl ?_
                refine v_sub (lv2 := [(0, .ref 118), (1, .int (joinR (nI 47) v v3))]) (by simp) ?_
                exact ih5 f ((cs ++ ((unitP bt n u 1) (advP t)).1 ++ [-hereP bt n t])) (((unitP bt n u 1) (advP t)).2) (joinR (nI 47) v v3) h7 (by exact hG0.tr hn0 ((GP.adv (hO.on hG0 hn0) hl0).tr hn0 hGq3)) (by exact hMq3) (by exact hFq3) (by intro hn2; rw [eo]; exact val_on (by decide) (hv hn0) (hvq3 hn2) rfl) (by rw [he, loop_on (by rw [eo]; decide)]) (by have h1 : (advP t).1 = t.1 + 1 := rfl; have h2 := hGq3.1; omega) (by omega)
            · skip
              refine v_iconstN K 0 rfl dX10_product_68 ?_
              refine v_goto (tgt := 87) K dX10_product_69 rfl ?_
              refine v_top (y := joinR (nI 47) v v3) (by rw [j47, if_pos c5]) ?_
              refine v_istore_n (lv2 := [(1, .int (joinR (nI 47) v v3)), (3, .int v3), (2, .int (hereP bt n t)), (0, .ref 118)]) K dX10_product_87 (by decide) rfl ?_
              refine v_goto (tgt := 5) K dX10_product_88 rfl ?_
              refine v_sub (lv2 := [(0, .ref 118), (1, .int (joinR (nI 47) v v3))]) (by simp) ?_
              exact ih5 f ((cs ++ ((unitP bt n u 1) (advP t)).1 ++ [-hereP bt n t])) (((unitP bt n u 1) (advP t)).2) (joinR (nI 47) v v3) h7 (by exact hG0.tr hn0 ((GP.adv (hO.on hG0 hn0) hl0).tr hn0 hGq3)) (by exact hMq3) (by exact hFq3) (by intro hn2; rw [eo]; exact val_on (by decide) (hv hn0) (hvq3 hn2) rfl) (by rw [he, loop_on (by rw [eo]; decide)]) (by have h1 : (advP t).1 = t.1 + 1 := rfl; have h2 := hGq3.1; omega) (by omega)
          · skip
            exact absurd (c4.symm.trans eo) (by decide)
        · skip
          refine v_aload_n K dX10_product_23 rfl ?_
          refine v_callV (As := []) K (c_X10_here h1 bt n B u nm t hX1 hM1) lX10_68 ck_X10 rfl sh_118 pl_118 rfl ⟨by decide, by decide⟩ (Nat.le_of_ble_eq_true rfl) dX10_product_24 (fun r8 h8 hp8 => ?_) rfl
          obtain ⟨rfl, rfl⟩ := hp8
          refine v_some ?_
          refine v_bipushN K 37 rfl dX10_product_27 ?_
          refine v_icmp_ne (tgt := 91) K dX10_product_29 rfl (fun c7 => ?_) (fun c7 => ?_)
          · skip
            refine v_iload_n K dX10_product_91 rfl ?_
            refine v_iret K dX10_product_92 ?_
            have e2 : (prodP bt n (unitP bt n u 1)) s = (cs, t) := by rw [he, loop_off (by simp only [List.mem_cons, List.not_mem_nil, or_false, not_or]; exact ⟨c1, c3, c7⟩)]
            show (∃ v, _ ∧ (((prodP bt n (unitP bt n u 1)) s).2.2.1 = none → ∀ st, runL ((prodP bt n (unitP bt n u 1)) s).1 nm st = v :: st)) ∧ PM _ n ((prodP bt n (unitP bt n u 1)) s).2 ∧ _
            rw [e2]
            exact ⟨⟨v, rfl, hv⟩, hM1, hF1⟩
          · skip
            have eo : hereP bt n t = nI 37 := c7
            obtain ⟨hl0, hn0⟩ := hereP_lt eo (nI_m1 (by decide))
            have hG0 := hG
            refine v_aload_n K dX10_product_32 rfl ?_
            refine v_callV (As := []) K (c_X10_here h1 bt n B u nm t hX1 hM1) lX10_68 ck_X10 rfl sh_118 pl_118 rfl ⟨by decide, by decide⟩ (Nat.le_of_ble_eq_true rfl) dX10_product_33 (fun r9 h9 hp9 => ?_) rfl
            obtain ⟨rfl, rfl⟩ := hp9
            refine v_some ?_
            refine v_istore_n (lv2 := [(2, .int (hereP bt n t)), (0, .ref 118), (1, .int v)]) K dX10_product_36 (by decide) rfl ?_
            refine v_aload_n K dX10_product_37 rfl ?_
            refine v_dup K dX10_product_38 rfl ?_
            refine v_geti (x := nI t.1) K fX10_55 sh_118 pl_118 hM1.1.1 dX10_product_39 ?_
            refine v_iconstN K 1 rfl dX10_product_42 ?_
            refine v_iaddN K dX10_product_43 ?_
            refine v_puti K pX10_55 sh_118 pl_118 dX10_product_44 ?_
            have hMm3 : PM (u2 h1 118 6 (nI (t.1 + 1))) n (advP t) := hM1.adv hl0
            have hFm3 : FrP h (u2 h1 118 6 (nI (t.1 + 1))) := FrP.u hF1 (by omega)
            have hXm3 := PX.fr hX hFm3
            refine v_aload_n K dX10_product_47 rfl ?_
            refine v_callV (As := []) K (c_X10_unit_1 ((u2 h1 118 6 (nI (t.1 + 1)))) bt n B u nm ((advP t)) hXm3 hMm3 ((hO.on hG0 hn0).adv hl0)) lX10_91 ck_X10 rfl sh_118 pl_118 rfl ⟨by decide, by decide⟩ (Nat.le_of_ble_eq_true rfl) dX10_product_48 (fun r10 h10 hp10 => ?_) rfl
            obtain ⟨⟨v4, rfl, hvq4⟩, hMq4, hFaq4⟩ := hp10
            have hFq4 := FrP.t hFm3 hFaq4
            have hXq4 := PX.fr hX hFq4
            have hGq4 : GP n (advP t) ((unitP bt n u 1) (advP t)).2 := (unit_good (bt := bt) (n := n) (u := u) 1) _ ((hO.on hG0 hn0).adv hl0)
            refine v_some ?_
            refine v_istore_n (lv2 := [(3, .int v4), (2, .int (hereP bt n t)), (0, .ref 118), (1, .int v)]) K dX10_product_51 (by decide) rfl ?_
            refine v_iload_n K dX10_product_52 rfl ?_
            refine v_bipushN K 42 rfl dX10_product_53 ?_
            refine v_icmp_ne (tgt := 64) K dX10_product_55 rfl (fun c8 => ?_) (fun c8 => ?_)
            · skip
              refine v_iload_n K dX10_product_64 rfl ?_
              refine v_if_ne (tgt := 72) K dX10_product_65 rfl (fun c9 => ?_) (fun c9 => ?_)
              · skip
                refine v_iload_n K dX10_product_72 rfl ?_
                refine v_bipushN K 47 rfl dX10_product_73 ?_
                refine v_icmp_ne (tgt := 84) K dX10_product_75 rfl (fun c10 => ?_) (fun c10 => ?_)
                · skip
                  refine v_iload_n K dX10_product_84 rfl ?_
                  refine v_iload_n K dX10_product_85 rfl ?_
                  refine v_irem K dX10_product_86 (by assumption) ?_
                  refine v_top (y := joinR (nI 37) v v4) (by rw [j37, if_neg c9]) ?_
                  refine v_istore_n (lv2 := [(1, .int (joinR (nI 37) v v4)), (3, .int v4), (2, .int (hereP bt n t)), (0, .ref 118)]) K dX10_product_87 (by decide) rfl ?_
                  refine v_goto (tgt := 5) K dX10_product_88 rfl ?_
                  refine v_sub (lv2 := [(0, .ref 118), (1, .int (joinR (nI 37) v v4))]) (by simp) ?_
                  exact ih5 f ((cs ++ ((unitP bt n u 1) (advP t)).1 ++ [-hereP bt n t])) (((unitP bt n u 1) (advP t)).2) (joinR (nI 37) v v4) h10 (by exact hG0.tr hn0 ((GP.adv (hO.on hG0 hn0) hl0).tr hn0 hGq4)) (by exact hMq4) (by exact hFq4) (by intro hn2; rw [eo]; exact val_on (by decide) (hv hn0) (hvq4 hn2) rfl) (by rw [he, loop_on (by rw [eo]; decide)]) (by have h1 : (advP t).1 = t.1 + 1 := rfl; have h2 := hGq4.1; omega) (by omega)
                · skip
                  exact absurd (c10.symm.trans eo) (by decide)
              · skip
                refine v_iconstN K 0 rfl dX10_product_68 ?_
                refine v_goto (tgt := 87) K dX10_product_69 rfl ?_
                refine v_top (y := joinR (nI 37) v v4) (by rw [j37, if_pos c9]) ?_
                refine v_istore_n (lv2 := [(1, .int (joinR (nI 37) v v4)), (3, .int v4), (2, .int (hereP bt n t)), (0, .ref 118)]) K dX10_product_87 (by decide) rfl ?_
                refine v_goto (tgt := 5) K dX10_product_88 rfl ?_
                refine v_sub (lv2 := [(0, .ref 118), (1, .int (joinR (nI 37) v v4))]) (by simp) ?_
                exact ih5 f ((cs ++ ((unitP bt n u 1) (advP t)).1 ++ [-hereP bt n t])) (((unitP bt n u 1) (advP t)).2) (joinR (nI 37) v v4) h10 (by exact hG0.tr hn0 ((GP.adv (hO.on hG0 hn0) hl0).tr hn0 hGq4)) (by exact hMq4) (by exact hFq4) (by intro hn2; rw [eo]; exact val_on (by decide) (hv hn0) (hvq4 hn2) rfl) (by rw [he, loop_on (by rw [eo]; decide)]) (by have h1 : (advP t).1 = t.1 + 1 := rfl; have h2 := hGq4.1; omega) (by omega)
            · skip
              exact absurd (c8.symm.trans eo) (by decide)
  refine v_sub (lv2 := [(0, .ref 118), (1, .int v1)]) (by simp) ?_
  exact L5 (52 + 1) 52 (((unitP bt n u 1) s).1) (((unitP bt n u 1) s).2) v1 h1 (by exact hGq1) (by exact hMq1) (by exact hFq1) (by exact hvq1) (by rfl) (by omega) (Nat.lt_succ_self _)

abbrev P_X10_sum_1 (h : Mm) (bt : Nat → Int32) (n B u : Nat) (nm : Nat → Int32) (s : PSt) : Option Value → Mm → Prop := fun r h2 => (∃ v, r = some (.int v) ∧ (((sumP bt n (unitP bt n u 1)) s).2.2.1 = none → ∀ st, runL ((sumP bt n (unitP bt n u 1)) s).1 nm st = v :: st)) ∧ PM h2 n ((sumP bt n (unitP bt n u 1)) s).2 ∧ FrP h h2
theorem c_X10_sum_1 {l : Launch} (h : Mm) (bt : Nat → Int32) (n B u : Nat) (nm : Nat → Int32) (s : PSt) (hX : PX h bt n B u nm) (hM : PM h n s) (hO : OKs n 1 s) : Con l yX10_sum cX10_sum 4 (some .int) 9 209 132 GL h [.ref 118] (P_X10_sum_1 h bt n B u nm s) := by
  refine Con.ofV (own := "FoxRoundsModel") (nm := "sum") rfl rfl (by decide) (Nat.le_of_ble_eq_true rfl) ?_
  intro κ ρ hkl K
  subst hkl
  show V κ (QM κ (132, ρ, GL, 0, 0) (P_X10_sum_1 h bt n B u nm s)) 4 (132, ρ, GL, 0, 0) h 0 [(0, .ref 118)] []
  have hn50 := hX.2.2.2.2.2.1
  have hBn := hX.2.2.2.2.1
  have hsn := hM.2.1
  have hs5 := hM.2.2.1
  refine v_aload_n K dX10_sum_0 rfl ?_
  refine v_callV (As := []) K (c_X10_product_1 h bt n B u nm s hX hM hO) lX10_88 ck_X10 rfl sh_118 pl_118 rfl ⟨by decide, by decide⟩ (Nat.le_of_ble_eq_true rfl) dX10_sum_1 (fun r1 h1 hp1 => ?_) rfl
  obtain ⟨⟨v1, rfl, hvq1⟩, hMq1, hFaq1⟩ := hp1
  have hFq1 := FrP.t (FrP.r (h := h)) hFaq1
  have hXq1 := PX.fr hX hFq1
  have hGq1 : GP n s ((prodP bt n (unitP bt n u 1)) s).2 := (row_good (unit_good (bt := bt) (n := n) (u := u) 1) (by decide)) _ hO
  refine v_some ?_
  refine v_istore_n (lv2 := [(1, .int v1), (0, .ref 118)]) K dX10_sum_4 (by decide) rfl ?_
  have L5 : ∀ (mm : Nat) (f : Nat) (cs : List Int32) (t : PSt) (v : Int32) (h1 : Mm) (hG : GP n s t) (hM1 : PM h1 n t) (hF1 : FrP h h1) (hv : t.2.1 = none → ∀ st, runL cs nm st = v :: st) (he : (sumP bt n (unitP bt n u 1)) s = loopP bt n [nI 43, nI 45] (prodP bt n (unitP bt n u 1)) f cs t) (hfu : n + 1 ≤ f + t.1), f < mm → V κ (QM κ (132, ρ, GL, 0, 0) (P_X10_sum_1 h bt n B u nm s)) 4 (132, ρ, GL, 0, 0) h1 5 [(0, .ref 118), (1, .int v)] [] := by
    intro mm
    induction mm with
    | zero => intro f cs t v h1 hG hM1 hF1 hv he hfu hmm; exact absurd hmm (Nat.not_lt_zero _)
    | succ mm ih5 =>
      intro f cs t v h1 hG hM1 hF1 hv he hfu hmm
      have hX1 := PX.fr hX hF1
      have htn := hM1.2.1
      have ht5 := hM1.2.2.1
      obtain ⟨f, rfl⟩ : ∃ f0, f = f0 + 1 := ⟨f - 1, by omega⟩
      refine v_aload_n K dX10_sum_5 rfl ?_
      refine v_callV (As := []) K (c_X10_here h1 bt n B u nm t hX1 hM1) lX10_68 ck_X10 rfl sh_118 pl_118 rfl ⟨by decide, by decide⟩ (Nat.le_of_ble_eq_true rfl) dX10_sum_6 (fun r2 h2 hp2 => ?_) rfl
      obtain ⟨rfl, rfl⟩ := hp2
      refine v_some ?_
      refine v_bipushN K 43 rfl dX10_sum_9 ?_
      refine v_icmp_eq (tgt := 23) K dX10_sum_11 rfl (fun c1 => ?_) (fun c1 => ?_)
      · skip
        have eo : hereP bt n t = nI 43 := c1
        obtain ⟨hl0, hn0⟩ := hereP_lt eo (nI_m1 (by decide))
        have hG0 := hG
        refine v_aload_n K dX10_sum_23 rfl ?_
        refine v_callV (As := []) K (c_X10_here h1 bt n B u nm t hX1 hM1) lX10_68 ck_X10 rfl sh_118 pl_118 rfl ⟨by decide, by decide⟩ (Nat.le_of_ble_eq_true rfl) dX10_sum_24 (fun r3 h3 hp3 => ?_) rfl
        obtain ⟨rfl, rfl⟩ := hp3
        refine v_some ?_
        refine v_istore_n (lv2 := [(2, .int (hereP bt n t)), (0, .ref 118), (1, .int v)]) K dX10_sum_27 (by decide) rfl ?_
        refine v_aload_n K dX10_sum_28 rfl ?_
        refine v_dup K dX10_sum_29 rfl ?_
        refine v_geti (x := nI t.1) K fX10_55 sh_118 pl_118 hM1.1.1 dX10_sum_30 ?_
        refine v_iconstN K 1 rfl dX10_sum_33 ?_
        refine v_iaddN K dX10_sum_34 ?_
        refine v_puti K pX10_55 sh_118 pl_118 dX10_sum_35 ?_
        have hMm1 : PM (u2 h1 118 6 (nI (t.1 + 1))) n (advP t) := hM1.adv hl0
        have hFm1 : FrP h (u2 h1 118 6 (nI (t.1 + 1))) := FrP.u hF1 (by omega)
        have hXm1 := PX.fr hX hFm1
        refine v_aload_n K dX10_sum_38 rfl ?_
        refine v_callV (As := []) K (c_X10_product_1 ((u2 h1 118 6 (nI (t.1 + 1)))) bt n B u nm ((advP t)) hXm1 hMm1 ((hO.on hG0 hn0).adv hl0)) lX10_88 ck_X10 rfl sh_118 pl_118 rfl ⟨by decide, by decide⟩ (Nat.le_of_ble_eq_true rfl) dX10_sum_39 (fun r4 h4 hp4 => ?_) rfl
        obtain ⟨⟨v2, rfl, hvq2⟩, hMq2, hFaq2⟩ := hp4
        have hFq2 := FrP.t hFm1 hFaq2
        have hXq2 := PX.fr hX hFq2
        have hGq2 : GP n (advP t) ((prodP bt n (unitP bt n u 1)) (advP t)).2 := (row_good (unit_good (bt := bt) (n := n) (u := u) 1) (by decide)) _ ((hO.on hG0 hn0).adv hl0)
        refine v_some ?_
        refine v_istore_n (lv2 := [(3, .int v2), (2, .int (hereP bt n t)), (0, .ref 118), (1, .int v)]) K dX10_sum_42 (by decide) rfl ?_
        refine v_iload_n K dX10_sum_43 rfl ?_
        refine v_bipushN K 43 rfl dX10_sum_44 ?_
        refine v_icmp_ne (tgt := 55) K dX10_sum_46 rfl (fun c2 => ?_) (fun c2 => ?_)
        · skip
          exact absurd eo c2
        · skip
          refine v_iload_n K dX10_sum_49 rfl ?_
          refine v_iload_n K dX10_sum_50 rfl ?_
          refine v_iadd K dX10_sum_51 ?_
          refine v_goto (tgt := 58) K dX10_sum_52 rfl ?_
          refine v_top (y := joinR (nI 43) v v2) (by rw [j43]) ?_
          refine v_istore_n (lv2 := [(1, .int (joinR (nI 43) v v2)), (3, .int v2), (2, .int (hereP bt n t)), (0, .ref 118)]) K dX10_sum_58 (by decide) rfl ?_
          refine v_goto (tgt := 5) K dX10_sum_59 rfl ?_
          refine v_sub (lv2 := [(0, .ref 118), (1, .int (joinR (nI 43) v v2))]) (by simp) ?_
          exact ih5 f ((cs ++ ((prodP bt n (unitP bt n u 1)) (advP t)).1 ++ [-hereP bt n t])) (((prodP bt n (unitP bt n u 1)) (advP t)).2) (joinR (nI 43) v v2) h4 (by exact hG0.tr hn0 ((GP.adv (hO.on hG0 hn0) hl0).tr hn0 hGq2)) (by exact hMq2) (by exact hFq2) (by intro hn2; rw [eo]; exact val_on (by decide) (hv hn0) (hvq2 hn2) rfl) (by rw [he, loop_on (by rw [eo]; decide)]) (by have h1 : (advP t).1 = t.1 + 1 := rfl; have h2 := hGq2.1; omega) (by omega)
      · skip
        refine v_aload_n K dX10_sum_14 rfl ?_
        refine v_callV (As := []) K (c_X10_here h1 bt n B u nm t hX1 hM1) lX10_68 ck_X10 rfl sh_118 pl_118 rfl ⟨by decide, by decide⟩ (Nat.le_of_ble_eq_true rfl) dX10_sum_15 (fun r5 h5 hp5 => ?_) rfl
        obtain ⟨rfl, rfl⟩ := hp5
        refine v_some ?_
        refine v_bipushN K 45 rfl dX10_sum_18 ?_
        refine v_icmp_ne (tgt := 62) K dX10_sum_20 rfl (fun c3 => ?_) (fun c3 => ?_)
        · skip
          refine v_iload_n K dX10_sum_62 rfl ?_
          refine v_iret K dX10_sum_63 ?_
          have e2 : (sumP bt n (unitP bt n u 1)) s = (cs, t) := by rw [he, loop_off (by simp only [List.mem_cons, List.not_mem_nil, or_false, not_or]; exact ⟨c1, c3⟩)]
          show (∃ v, _ ∧ (((sumP bt n (unitP bt n u 1)) s).2.2.1 = none → ∀ st, runL ((sumP bt n (unitP bt n u 1)) s).1 nm st = v :: st)) ∧ PM _ n ((sumP bt n (unitP bt n u 1)) s).2 ∧ _
          rw [e2]
          exact ⟨⟨v, rfl, hv⟩, hM1, hF1⟩
        · skip
          have eo : hereP bt n t = nI 45 := c3
          obtain ⟨hl0, hn0⟩ := hereP_lt eo (nI_m1 (by decide))
          have hG0 := hG
          refine v_aload_n K dX10_sum_23 rfl ?_
          refine v_callV (As := []) K (c_X10_here h1 bt n B u nm t hX1 hM1) lX10_68 ck_X10 rfl sh_118 pl_118 rfl ⟨by decide, by decide⟩ (Nat.le_of_ble_eq_true rfl) dX10_sum_24 (fun r6 h6 hp6 => ?_) rfl
          obtain ⟨rfl, rfl⟩ := hp6
          refine v_some ?_
          refine v_istore_n (lv2 := [(2, .int (hereP bt n t)), (0, .ref 118), (1, .int v)]) K dX10_sum_27 (by decide) rfl ?_
          refine v_aload_n K dX10_sum_28 rfl ?_
          refine v_dup K dX10_sum_29 rfl ?_
          refine v_geti (x := nI t.1) K fX10_55 sh_118 pl_118 hM1.1.1 dX10_sum_30 ?_
          refine v_iconstN K 1 rfl dX10_sum_33 ?_
          refine v_iaddN K dX10_sum_34 ?_
          refine v_puti K pX10_55 sh_118 pl_118 dX10_sum_35 ?_
          have hMm2 : PM (u2 h1 118 6 (nI (t.1 + 1))) n (advP t) := hM1.adv hl0
          have hFm2 : FrP h (u2 h1 118 6 (nI (t.1 + 1))) := FrP.u hF1 (by omega)
          have hXm2 := PX.fr hX hFm2
          refine v_aload_n K dX10_sum_38 rfl ?_
          refine v_callV (As := []) K (c_X10_product_1 ((u2 h1 118 6 (nI (t.1 + 1)))) bt n B u nm ((advP t)) hXm2 hMm2 ((hO.on hG0 hn0).adv hl0)) lX10_88 ck_X10 rfl sh_118 pl_118 rfl ⟨by decide, by decide⟩ (Nat.le_of_ble_eq_true rfl) dX10_sum_39 (fun r7 h7 hp7 => ?_) rfl
          obtain ⟨⟨v3, rfl, hvq3⟩, hMq3, hFaq3⟩ := hp7
          have hFq3 := FrP.t hFm2 hFaq3
          have hXq3 := PX.fr hX hFq3
          have hGq3 : GP n (advP t) ((prodP bt n (unitP bt n u 1)) (advP t)).2 := (row_good (unit_good (bt := bt) (n := n) (u := u) 1) (by decide)) _ ((hO.on hG0 hn0).adv hl0)
          refine v_some ?_
          refine v_istore_n (lv2 := [(3, .int v3), (2, .int (hereP bt n t)), (0, .ref 118), (1, .int v)]) K dX10_sum_42 (by decide) rfl ?_
          refine v_iload_n K dX10_sum_43 rfl ?_
          refine v_bipushN K 43 rfl dX10_sum_44 ?_
          refine v_icmp_ne (tgt := 55) K dX10_sum_46 rfl (fun c4 => ?_) (fun c4 => ?_)
          · skip
            refine v_iload_n K dX10_sum_55 rfl ?_
            refine v_iload_n K dX10_sum_56 rfl ?_
            refine v_isub K dX10_sum_57 ?_
            refine v_top (y := joinR (nI 45) v v3) (by rw [j45]) ?_
            refine v_istore_n (lv2 := [(1, .int (joinR (nI 45) v v3)), (3, .int v3), (2, .int (hereP bt n t)), (0, .ref 118)]) K dX10_sum_58 (by decide) rfl ?_
            refine v_goto (tgt := 5) K dX10_sum_59 rfl ?_
            refine v_sub (lv2 := [(0, .ref 118), (1, .int (joinR (nI 45) v v3))]) (by simp) ?_
            exact ih5 f ((cs ++ ((prodP bt n (unitP bt n u 1)) (advP t)).1 ++ [-hereP bt n t])) (((prodP bt n (unitP bt n u 1)) (advP t)).2) (joinR (nI 45) v v3) h7 (by exact hG0.tr hn0 ((GP.adv (hO.on hG0 hn0) hl0).tr hn0 hGq3)) (by exact hMq3) (by exact hFq3) (by intro hn2; rw [eo]; exact val_on (by decide) (hv hn0) (hvq3 hn2) rfl) (by rw [he, loop_on (by rw [eo]; decide)]) (by have h1 : (advP t).1 = t.1 + 1 := rfl; have h2 := hGq3.1; omega) (by omega)
          · skip
            exact absurd (c4.symm.trans eo) (by decide)
  refine v_sub (lv2 := [(0, .ref 118), (1, .int v1)]) (by simp) ?_
  exact L5 (52 + 1) 52 (((prodP bt n (unitP bt n u 1)) s).1) (((prodP bt n (unitP bt n u 1)) s).2) v1 h1 (by exact hGq1) (by exact hMq1) (by exact hFq1) (by exact hvq1) (by rfl) (by omega) (Nat.lt_succ_self _)

abbrev P_X10_compared_1 (h : Mm) (bt : Nat → Int32) (n B u : Nat) (nm : Nat → Int32) (s : PSt) : Option Value → Mm → Prop := fun r h2 => (∃ v, r = some (.int v) ∧ (((cmpP bt n (sumP bt n (unitP bt n u 1))) s).2.2.1 = none → ∀ st, runL ((cmpP bt n (sumP bt n (unitP bt n u 1))) s).1 nm st = v :: st)) ∧ PM h2 n ((cmpP bt n (sumP bt n (unitP bt n u 1))) s).2 ∧ FrP h h2
theorem c_X10_compared_1 {l : Launch} (h : Mm) (bt : Nat → Int32) (n B u : Nat) (nm : Nat → Int32) (s : PSt) (hX : PX h bt n B u nm) (hM : PM h n s) (hO : OKs n 1 s) : Con l yX10_compared cX10_compared 4 (some .int) 10 232 132 GL h [.ref 118] (P_X10_compared_1 h bt n B u nm s) := by
  refine Con.ofV (own := "FoxRoundsModel") (nm := "compared") rfl rfl (by decide) (Nat.le_of_ble_eq_true rfl) ?_
  intro κ ρ hkl K
  subst hkl
  show V κ (QM κ (132, ρ, GL, 0, 0) (P_X10_compared_1 h bt n B u nm s)) 4 (132, ρ, GL, 0, 0) h 0 [(0, .ref 118)] []
  have hn50 := hX.2.2.2.2.2.1
  have hBn := hX.2.2.2.2.1
  have hsn := hM.2.1
  have hs5 := hM.2.2.1
  refine v_aload_n K dX10_compared_0 rfl ?_
  refine v_callV (As := []) K (c_X10_sum_1 h bt n B u nm s hX hM hO) lX10_85 ck_X10 rfl sh_118 pl_118 rfl ⟨by decide, by decide⟩ (Nat.le_of_ble_eq_true rfl) dX10_compared_1 (fun r1 h1 hp1 => ?_) rfl
  obtain ⟨⟨v1, rfl, hvq1⟩, hMq1, hFaq1⟩ := hp1
  have hFq1 := FrP.t (FrP.r (h := h)) hFaq1
  have hXq1 := PX.fr hX hFq1
  have hGq1 : GP n s ((sumP bt n (unitP bt n u 1)) s).2 := (row_good (row_good (unit_good (bt := bt) (n := n) (u := u) 1) (by decide)) (by decide)) _ hO
  refine v_some ?_
  have hG1 := hGq1
  have hv1 := hvq1
  refine v_istore_n (lv2 := [(1, .int v1), (0, .ref 118)]) K dX10_compared_4 (by decide) rfl ?_
  refine v_aload_n K dX10_compared_5 rfl ?_
  refine v_callV (As := []) K (c_X10_here h1 bt n B u nm (((sumP bt n (unitP bt n u 1)) s).2) hXq1 hMq1) lX10_68 ck_X10 rfl sh_118 pl_118 rfl ⟨by decide, by decide⟩ (Nat.le_of_ble_eq_true rfl) dX10_compared_6 (fun r2 h2 hp2 => ?_) rfl
  obtain ⟨rfl, rfl⟩ := hp2
  refine v_some ?_
  refine v_istore_n (lv2 := [(2, .int (hereP bt n ((sumP bt n (unitP bt n u 1)) s).2)), (1, .int v1), (0, .ref 118)]) K dX10_compared_9 (by decide) rfl ?_
  refine v_iload_n K dX10_compared_10 rfl ?_
  refine v_bipushN K 60 rfl dX10_compared_11 ?_
  refine v_icmp_eq (tgt := 30) K dX10_compared_13 rfl (fun c1 => ?_) (fun c1 => ?_)
  · skip
    have eo : hereP bt n ((sumP bt n (unitP bt n u 1)) s).2 = nI 60 := c1
    obtain ⟨hl0, hn0⟩ := hereP_lt eo (nI_m1 (by decide))
    refine v_aload_n K dX10_compared_30 rfl ?_
    refine v_dup K dX10_compared_31 rfl ?_
    refine v_geti (x := nI (((sumP bt n (unitP bt n u 1)) s).2.1)) K fX10_55 sh_118 pl_118 hMq1.1.1 dX10_compared_32 ?_
    refine v_iconstN K 1 rfl dX10_compared_35 ?_
    refine v_iaddN K dX10_compared_36 ?_
    refine v_puti K pX10_55 sh_118 pl_118 dX10_compared_37 ?_
    have hMm1 : PM (u2 h1 118 6 (nI (((sumP bt n (unitP bt n u 1)) s).2.1 + 1))) n (advP ((sumP bt n (unitP bt n u 1)) s).2) := hMq1.adv hl0
    have hFm1 : FrP h (u2 h1 118 6 (nI (((sumP bt n (unitP bt n u 1)) s).2.1 + 1))) := FrP.u hFq1 (by omega)
    have hXm1 := PX.fr hX hFm1
    refine v_aload_n K dX10_compared_40 rfl ?_
    refine v_callV (As := []) K (c_X10_sum_1 ((u2 h1 118 6 (nI (((sumP bt n (unitP bt n u 1)) s).2.1 + 1)))) bt n B u nm ((advP ((sumP bt n (unitP bt n u 1)) s).2)) hXm1 hMm1 ((hO.on hG1 hn0).adv hl0)) lX10_85 ck_X10 rfl sh_118 pl_118 rfl ⟨by decide, by decide⟩ (Nat.le_of_ble_eq_true rfl) dX10_compared_41 (fun r3 h3 hp3 => ?_) rfl
    obtain ⟨⟨v2, rfl, hvq2⟩, hMq2, hFaq2⟩ := hp3
    have hFq2 := FrP.t hFm1 hFaq2
    have hXq2 := PX.fr hX hFq2
    have hGq2 : GP n (advP ((sumP bt n (unitP bt n u 1)) s).2) ((sumP bt n (unitP bt n u 1)) (advP ((sumP bt n (unitP bt n u 1)) s).2)).2 := (row_good (row_good (unit_good (bt := bt) (n := n) (u := u) 1) (by decide)) (by decide)) _ ((hO.on hG1 hn0).adv hl0)
    refine v_some ?_
    refine v_istore_n (lv2 := [(3, .int v2), (2, .int (hereP bt n ((sumP bt n (unitP bt n u 1)) s).2)), (1, .int v1), (0, .ref 118)]) K dX10_compared_44 (by decide) rfl ?_
    refine v_iload_n K dX10_compared_45 rfl ?_
    refine v_bipushN K 60 rfl dX10_compared_46 ?_
    refine v_icmp_ne (tgt := 59) K dX10_compared_48 rfl (fun c2 => ?_) (fun c2 => ?_)
    · skip
      exact absurd eo c2
    · skip
      refine v_iload_n K dX10_compared_51 rfl ?_
      refine v_iload_n K dX10_compared_52 rfl ?_
      refine v_icmp_ge (tgt := 82) K dX10_compared_53 rfl (fun c3 => ?_) (fun c3 => ?_)
      · skip
        refine v_iconstN K 0 rfl dX10_compared_82 ?_
        refine v_iret K dX10_compared_83 ?_
        have e2 : (cmpP bt n (sumP bt n (unitP bt n u 1))) s = (((sumP bt n (unitP bt n u 1)) s).1 ++ ((sumP bt n (unitP bt n u 1)) (advP ((sumP bt n (unitP bt n u 1)) s).2)).1 ++ [-hereP bt n ((sumP bt n (unitP bt n u 1)) s).2], ((sumP bt n (unitP bt n u 1)) (advP ((sumP bt n (unitP bt n u 1)) s).2)).2) := if_pos (by rw [eo]; decide)
        show (∃ v, _ ∧ (((cmpP bt n (sumP bt n (unitP bt n u 1))) s).2.2.1 = none → ∀ st, runL ((cmpP bt n (sumP bt n (unitP bt n u 1))) s).1 nm st = v :: st)) ∧ PM _ n ((cmpP bt n (sumP bt n (unitP bt n u 1))) s).2 ∧ _
        rw [e2]
        refine ⟨⟨_, rfl, fun hn2 => ?_⟩, hMq2, hFq2⟩
        rw [eo]
        exact val_on (by decide) (hv1 hn0) (hvq2 hn2) (by rw [j60]; exact (b2i_f (Int32.not_lt.mpr c3)).symm)
      · skip
        refine v_goto (tgt := 78) K dX10_compared_56 rfl ?_
        refine v_iconstN K 1 rfl dX10_compared_78 ?_
        refine v_goto (tgt := 83) K dX10_compared_79 rfl ?_
        refine v_iret K dX10_compared_83 ?_
        have e2 : (cmpP bt n (sumP bt n (unitP bt n u 1))) s = (((sumP bt n (unitP bt n u 1)) s).1 ++ ((sumP bt n (unitP bt n u 1)) (advP ((sumP bt n (unitP bt n u 1)) s).2)).1 ++ [-hereP bt n ((sumP bt n (unitP bt n u 1)) s).2], ((sumP bt n (unitP bt n u 1)) (advP ((sumP bt n (unitP bt n u 1)) s).2)).2) := if_pos (by rw [eo]; decide)
        show (∃ v, _ ∧ (((cmpP bt n (sumP bt n (unitP bt n u 1))) s).2.2.1 = none → ∀ st, runL ((cmpP bt n (sumP bt n (unitP bt n u 1))) s).1 nm st = v :: st)) ∧ PM _ n ((cmpP bt n (sumP bt n (unitP bt n u 1))) s).2 ∧ _
        rw [e2]
        refine ⟨⟨_, rfl, fun hn2 => ?_⟩, hMq2, hFq2⟩
        rw [eo]
        exact val_on (by decide) (hv1 hn0) (hvq2 hn2) (by rw [j60]; exact (b2i_t (Int32.not_le.mp c3)).symm)
  · skip
    refine v_iload_n K dX10_compared_16 rfl ?_
    refine v_bipushN K 61 rfl dX10_compared_17 ?_
    refine v_icmp_eq (tgt := 30) K dX10_compared_19 rfl (fun c4 => ?_) (fun c4 => ?_)
    · skip
      have eo : hereP bt n ((sumP bt n (unitP bt n u 1)) s).2 = nI 61 := c4
      obtain ⟨hl0, hn0⟩ := hereP_lt eo (nI_m1 (by decide))
      refine v_aload_n K dX10_compared_30 rfl ?_
      refine v_dup K dX10_compared_31 rfl ?_
      refine v_geti (x := nI (((sumP bt n (unitP bt n u 1)) s).2.1)) K fX10_55 sh_118 pl_118 hMq1.1.1 dX10_compared_32 ?_
      refine v_iconstN K 1 rfl dX10_compared_35 ?_
      refine v_iaddN K dX10_compared_36 ?_
      refine v_puti K pX10_55 sh_118 pl_118 dX10_compared_37 ?_
      have hMm2 : PM (u2 h1 118 6 (nI (((sumP bt n (unitP bt n u 1)) s).2.1 + 1))) n (advP ((sumP bt n (unitP bt n u 1)) s).2) := hMq1.adv hl0
      have hFm2 : FrP h (u2 h1 118 6 (nI (((sumP bt n (unitP bt n u 1)) s).2.1 + 1))) := FrP.u hFq1 (by omega)
      have hXm2 := PX.fr hX hFm2
      refine v_aload_n K dX10_compared_40 rfl ?_
      refine v_callV (As := []) K (c_X10_sum_1 ((u2 h1 118 6 (nI (((sumP bt n (unitP bt n u 1)) s).2.1 + 1)))) bt n B u nm ((advP ((sumP bt n (unitP bt n u 1)) s).2)) hXm2 hMm2 ((hO.on hG1 hn0).adv hl0)) lX10_85 ck_X10 rfl sh_118 pl_118 rfl ⟨by decide, by decide⟩ (Nat.le_of_ble_eq_true rfl) dX10_compared_41 (fun r4 h4 hp4 => ?_) rfl
      obtain ⟨⟨v3, rfl, hvq3⟩, hMq3, hFaq3⟩ := hp4
      have hFq3 := FrP.t hFm2 hFaq3
      have hXq3 := PX.fr hX hFq3
      have hGq3 : GP n (advP ((sumP bt n (unitP bt n u 1)) s).2) ((sumP bt n (unitP bt n u 1)) (advP ((sumP bt n (unitP bt n u 1)) s).2)).2 := (row_good (row_good (unit_good (bt := bt) (n := n) (u := u) 1) (by decide)) (by decide)) _ ((hO.on hG1 hn0).adv hl0)
      refine v_some ?_
      refine v_istore_n (lv2 := [(3, .int v3), (2, .int (hereP bt n ((sumP bt n (unitP bt n u 1)) s).2)), (1, .int v1), (0, .ref 118)]) K dX10_compared_44 (by decide) rfl ?_
      refine v_iload_n K dX10_compared_45 rfl ?_
      refine v_bipushN K 60 rfl dX10_compared_46 ?_
      refine v_icmp_ne (tgt := 59) K dX10_compared_48 rfl (fun c5 => ?_) (fun c5 => ?_)
      · skip
        refine v_iload_n K dX10_compared_59 rfl ?_
        refine v_bipushN K 61 rfl dX10_compared_60 ?_
        refine v_icmp_ne (tgt := 73) K dX10_compared_62 rfl (fun c6 => ?_) (fun c6 => ?_)
        · skip
          exact absurd eo c6
        · skip
          refine v_iload_n K dX10_compared_65 rfl ?_
          refine v_iload_n K dX10_compared_66 rfl ?_
          refine v_icmp_ne (tgt := 82) K dX10_compared_67 rfl (fun c7 => ?_) (fun c7 => ?_)
          · skip
            refine v_iconstN K 0 rfl dX10_compared_82 ?_
            refine v_iret K dX10_compared_83 ?_
            have e2 : (cmpP bt n (sumP bt n (unitP bt n u 1))) s = (((sumP bt n (unitP bt n u 1)) s).1 ++ ((sumP bt n (unitP bt n u 1)) (advP ((sumP bt n (unitP bt n u 1)) s).2)).1 ++ [-hereP bt n ((sumP bt n (unitP bt n u 1)) s).2], ((sumP bt n (unitP bt n u 1)) (advP ((sumP bt n (unitP bt n u 1)) s).2)).2) := if_pos (by rw [eo]; decide)
            show (∃ v, _ ∧ (((cmpP bt n (sumP bt n (unitP bt n u 1))) s).2.2.1 = none → ∀ st, runL ((cmpP bt n (sumP bt n (unitP bt n u 1))) s).1 nm st = v :: st)) ∧ PM _ n ((cmpP bt n (sumP bt n (unitP bt n u 1))) s).2 ∧ _
            rw [e2]
            refine ⟨⟨_, rfl, fun hn2 => ?_⟩, hMq3, hFq3⟩
            rw [eo]
            exact val_on (by decide) (hv1 hn0) (hvq3 hn2) (by rw [j61]; exact (b2i_f c7).symm)
          · skip
            refine v_goto (tgt := 78) K dX10_compared_70 rfl ?_
            refine v_iconstN K 1 rfl dX10_compared_78 ?_
            refine v_goto (tgt := 83) K dX10_compared_79 rfl ?_
            refine v_iret K dX10_compared_83 ?_
            have e2 : (cmpP bt n (sumP bt n (unitP bt n u 1))) s = (((sumP bt n (unitP bt n u 1)) s).1 ++ ((sumP bt n (unitP bt n u 1)) (advP ((sumP bt n (unitP bt n u 1)) s).2)).1 ++ [-hereP bt n ((sumP bt n (unitP bt n u 1)) s).2], ((sumP bt n (unitP bt n u 1)) (advP ((sumP bt n (unitP bt n u 1)) s).2)).2) := if_pos (by rw [eo]; decide)
            show (∃ v, _ ∧ (((cmpP bt n (sumP bt n (unitP bt n u 1))) s).2.2.1 = none → ∀ st, runL ((cmpP bt n (sumP bt n (unitP bt n u 1))) s).1 nm st = v :: st)) ∧ PM _ n ((cmpP bt n (sumP bt n (unitP bt n u 1))) s).2 ∧ _
            rw [e2]
            refine ⟨⟨_, rfl, fun hn2 => ?_⟩, hMq3, hFq3⟩
            rw [eo]
            exact val_on (by decide) (hv1 hn0) (hvq3 hn2) (by rw [j61]; exact (b2i_t c7).symm)
      · skip
        exact absurd (c5.symm.trans eo) (by decide)
    · skip
      refine v_iload_n K dX10_compared_22 rfl ?_
      refine v_bipushN K 62 rfl dX10_compared_23 ?_
      refine v_icmp_eq (tgt := 30) K dX10_compared_25 rfl (fun c8 => ?_) (fun c8 => ?_)
      · skip
        have eo : hereP bt n ((sumP bt n (unitP bt n u 1)) s).2 = nI 62 := c8
        obtain ⟨hl0, hn0⟩ := hereP_lt eo (nI_m1 (by decide))
        refine v_aload_n K dX10_compared_30 rfl ?_
        refine v_dup K dX10_compared_31 rfl ?_
        refine v_geti (x := nI (((sumP bt n (unitP bt n u 1)) s).2.1)) K fX10_55 sh_118 pl_118 hMq1.1.1 dX10_compared_32 ?_
        refine v_iconstN K 1 rfl dX10_compared_35 ?_
        refine v_iaddN K dX10_compared_36 ?_
        refine v_puti K pX10_55 sh_118 pl_118 dX10_compared_37 ?_
        have hMm3 : PM (u2 h1 118 6 (nI (((sumP bt n (unitP bt n u 1)) s).2.1 + 1))) n (advP ((sumP bt n (unitP bt n u 1)) s).2) := hMq1.adv hl0
        have hFm3 : FrP h (u2 h1 118 6 (nI (((sumP bt n (unitP bt n u 1)) s).2.1 + 1))) := FrP.u hFq1 (by omega)
        have hXm3 := PX.fr hX hFm3
        refine v_aload_n K dX10_compared_40 rfl ?_
        refine v_callV (As := []) K (c_X10_sum_1 ((u2 h1 118 6 (nI (((sumP bt n (unitP bt n u 1)) s).2.1 + 1)))) bt n B u nm ((advP ((sumP bt n (unitP bt n u 1)) s).2)) hXm3 hMm3 ((hO.on hG1 hn0).adv hl0)) lX10_85 ck_X10 rfl sh_118 pl_118 rfl ⟨by decide, by decide⟩ (Nat.le_of_ble_eq_true rfl) dX10_compared_41 (fun r5 h5 hp5 => ?_) rfl
        obtain ⟨⟨v4, rfl, hvq4⟩, hMq4, hFaq4⟩ := hp5
        have hFq4 := FrP.t hFm3 hFaq4
        have hXq4 := PX.fr hX hFq4
        have hGq4 : GP n (advP ((sumP bt n (unitP bt n u 1)) s).2) ((sumP bt n (unitP bt n u 1)) (advP ((sumP bt n (unitP bt n u 1)) s).2)).2 := (row_good (row_good (unit_good (bt := bt) (n := n) (u := u) 1) (by decide)) (by decide)) _ ((hO.on hG1 hn0).adv hl0)
        refine v_some ?_
        refine v_istore_n (lv2 := [(3, .int v4), (2, .int (hereP bt n ((sumP bt n (unitP bt n u 1)) s).2)), (1, .int v1), (0, .ref 118)]) K dX10_compared_44 (by decide) rfl ?_
        refine v_iload_n K dX10_compared_45 rfl ?_
        refine v_bipushN K 60 rfl dX10_compared_46 ?_
        refine v_icmp_ne (tgt := 59) K dX10_compared_48 rfl (fun c9 => ?_) (fun c9 => ?_)
        · skip
          refine v_iload_n K dX10_compared_59 rfl ?_
          refine v_bipushN K 61 rfl dX10_compared_60 ?_
          refine v_icmp_ne (tgt := 73) K dX10_compared_62 rfl (fun c10 => ?_) (fun c10 => ?_)
          · skip
            refine v_iload_n K dX10_compared_73 rfl ?_
            refine v_iload_n K dX10_compared_74 rfl ?_
            refine v_icmp_le (tgt := 82) K dX10_compared_75 rfl (fun c11 => ?_) (fun c11 => ?_)
            · skip
              refine v_iconstN K 0 rfl dX10_compared_82 ?_
              refine v_iret K dX10_compared_83 ?_
              have e2 : (cmpP bt n (sumP bt n (unitP bt n u 1))) s = (((sumP bt n (unitP bt n u 1)) s).1 ++ ((sumP bt n (unitP bt n u 1)) (advP ((sumP bt n (unitP bt n u 1)) s).2)).1 ++ [-hereP bt n ((sumP bt n (unitP bt n u 1)) s).2], ((sumP bt n (unitP bt n u 1)) (advP ((sumP bt n (unitP bt n u 1)) s).2)).2) := if_pos (by rw [eo]; decide)
              show (∃ v, _ ∧ (((cmpP bt n (sumP bt n (unitP bt n u 1))) s).2.2.1 = none → ∀ st, runL ((cmpP bt n (sumP bt n (unitP bt n u 1))) s).1 nm st = v :: st)) ∧ PM _ n ((cmpP bt n (sumP bt n (unitP bt n u 1))) s).2 ∧ _
              rw [e2]
              refine ⟨⟨_, rfl, fun hn2 => ?_⟩, hMq4, hFq4⟩
              rw [eo]
              exact val_on (by decide) (hv1 hn0) (hvq4 hn2) (by rw [j62]; exact (b2i_f (Int32.not_lt.mpr c11)).symm)
            · skip
              refine v_iconstN K 1 rfl dX10_compared_78 ?_
              refine v_goto (tgt := 83) K dX10_compared_79 rfl ?_
              refine v_iret K dX10_compared_83 ?_
              have e2 : (cmpP bt n (sumP bt n (unitP bt n u 1))) s = (((sumP bt n (unitP bt n u 1)) s).1 ++ ((sumP bt n (unitP bt n u 1)) (advP ((sumP bt n (unitP bt n u 1)) s).2)).1 ++ [-hereP bt n ((sumP bt n (unitP bt n u 1)) s).2], ((sumP bt n (unitP bt n u 1)) (advP ((sumP bt n (unitP bt n u 1)) s).2)).2) := if_pos (by rw [eo]; decide)
              show (∃ v, _ ∧ (((cmpP bt n (sumP bt n (unitP bt n u 1))) s).2.2.1 = none → ∀ st, runL ((cmpP bt n (sumP bt n (unitP bt n u 1))) s).1 nm st = v :: st)) ∧ PM _ n ((cmpP bt n (sumP bt n (unitP bt n u 1))) s).2 ∧ _
              rw [e2]
              refine ⟨⟨_, rfl, fun hn2 => ?_⟩, hMq4, hFq4⟩
              rw [eo]
              exact val_on (by decide) (hv1 hn0) (hvq4 hn2) (by rw [j62]; exact (b2i_t (Int32.not_le.mp c11)).symm)
          · skip
            exact absurd (c10.symm.trans eo) (by decide)
        · skip
          exact absurd (c9.symm.trans eo) (by decide)
      · skip
        refine v_iload_n K dX10_compared_28 rfl ?_
        refine v_iret K dX10_compared_29 ?_
        have e2 : (cmpP bt n (sumP bt n (unitP bt n u 1))) s = (sumP bt n (unitP bt n u 1)) s := if_neg (by simp only [List.mem_cons, List.not_mem_nil, or_false, not_or]; exact ⟨c1, c4, c8⟩)
        show (∃ v, _ ∧ (((cmpP bt n (sumP bt n (unitP bt n u 1))) s).2.2.1 = none → ∀ st, runL ((cmpP bt n (sumP bt n (unitP bt n u 1))) s).1 nm st = v :: st)) ∧ PM _ n ((cmpP bt n (sumP bt n (unitP bt n u 1))) s).2 ∧ _
        rw [e2]
        exact ⟨⟨_, rfl, hv1⟩, hMq1, hFq1⟩

abbrev P_X10_both_1 (h : Mm) (bt : Nat → Int32) (n B u : Nat) (nm : Nat → Int32) (s : PSt) : Option Value → Mm → Prop := fun r h2 => (∃ v, r = some (.int v) ∧ (((bothP bt n (unitP bt n u 1)) s).2.2.1 = none → ∀ st, runL ((bothP bt n (unitP bt n u 1)) s).1 nm st = v :: st)) ∧ PM h2 n ((bothP bt n (unitP bt n u 1)) s).2 ∧ FrP h h2
theorem c_X10_both_1 {l : Launch} (h : Mm) (bt : Nat → Int32) (n B u : Nat) (nm : Nat → Int32) (s : PSt) (hX : PX h bt n B u nm) (hM : PM h n s) (hO : OKs n 1 s) : Con l yX10_both cX10_both 3 (some .int) 11 255 132 GL h [.ref 118] (P_X10_both_1 h bt n B u nm s) := by
  refine Con.ofV (own := "FoxRoundsModel") (nm := "both") rfl rfl (by decide) (Nat.le_of_ble_eq_true rfl) ?_
  intro κ ρ hkl K
  subst hkl
  show V κ (QM κ (132, ρ, GL, 0, 0) (P_X10_both_1 h bt n B u nm s)) 3 (132, ρ, GL, 0, 0) h 0 [(0, .ref 118)] []
  have hn50 := hX.2.2.2.2.2.1
  have hBn := hX.2.2.2.2.1
  have hsn := hM.2.1
  have hs5 := hM.2.2.1
  refine v_aload_n K dX10_both_0 rfl ?_
  refine v_callV (As := []) K (c_X10_compared_1 h bt n B u nm s hX hM hO) lX10_82 ck_X10 rfl sh_118 pl_118 rfl ⟨by decide, by decide⟩ (Nat.le_of_ble_eq_true rfl) dX10_both_1 (fun r1 h1 hp1 => ?_) rfl
  obtain ⟨⟨v1, rfl, hvq1⟩, hMq1, hFaq1⟩ := hp1
  have hFq1 := FrP.t (FrP.r (h := h)) hFaq1
  have hXq1 := PX.fr hX hFq1
  have hGq1 : GP n s ((cmpP bt n (sumP bt n (unitP bt n u 1))) s).2 := (cmp_good (row_good (row_good (unit_good (bt := bt) (n := n) (u := u) 1) (by decide)) (by decide))) _ hO
  refine v_some ?_
  refine v_istore_n (lv2 := [(1, .int v1), (0, .ref 118)]) K dX10_both_4 (by decide) rfl ?_
  have L5 : ∀ (mm : Nat) (f : Nat) (cs : List Int32) (t : PSt) (v : Int32) (h1 : Mm) (hG : GP n s t) (hM1 : PM h1 n t) (hF1 : FrP h h1) (hv : t.2.1 = none → ∀ st, runL cs nm st = v :: st) (he : (bothP bt n (unitP bt n u 1)) s = loopP bt n [nI 38] (cmpP bt n (sumP bt n (unitP bt n u 1))) f cs t) (hfu : n + 1 ≤ f + t.1), f < mm → V κ (QM κ (132, ρ, GL, 0, 0) (P_X10_both_1 h bt n B u nm s)) 3 (132, ρ, GL, 0, 0) h1 5 [(0, .ref 118), (1, .int v)] [] := by
    intro mm
    induction mm with
    | zero => intro f cs t v h1 hG hM1 hF1 hv he hfu hmm; exact absurd hmm (Nat.not_lt_zero _)
    | succ mm ih5 =>
      intro f cs t v h1 hG hM1 hF1 hv he hfu hmm
      have hX1 := PX.fr hX hF1
      have htn := hM1.2.1
      have ht5 := hM1.2.2.1
      obtain ⟨f, rfl⟩ : ∃ f0, f = f0 + 1 := ⟨f - 1, by omega⟩
      refine v_aload_n K dX10_both_5 rfl ?_
      refine v_bipushN K 38 rfl dX10_both_6 ?_
      refine v_callV (As := [.int (nI 38)]) K (c_X10_takes h1 bt n B u nm t 38 hX1 hM1 (by decide)) lX10_78 ck_X10 rfl sh_118 pl_118 rfl ⟨by decide, by decide⟩ (Nat.le_of_ble_eq_true rfl) dX10_both_8 (fun r2 h2 hp2 => ?_) rfl
      obtain ⟨rfl, hMq2, hFaq2⟩ := hp2
      have hFq2 := FrP.t hF1 hFaq2
      have hXq2 := PX.fr hX hFq2
      refine v_some ?_
      refine v_ifB_eq (tgt := 36) K dX10_both_11 rfl (fun c1 => ?_) (fun c1 => ?_)
      · skip
        rw [tk_n c1] at hMq2
        refine v_iload_n K dX10_both_36 rfl ?_
        refine v_iret K dX10_both_37 ?_
        have e2 : (bothP bt n (unitP bt n u 1)) s = (cs, t) := by rw [he, loop_off (by simp only [List.mem_cons, List.not_mem_nil, or_false]; exact c1)]
        show (∃ v, _ ∧ (((bothP bt n (unitP bt n u 1)) s).2.2.1 = none → ∀ st, runL ((bothP bt n (unitP bt n u 1)) s).1 nm st = v :: st)) ∧ PM _ n ((bothP bt n (unitP bt n u 1)) s).2 ∧ _
        rw [e2]
        exact ⟨⟨v, rfl, hv⟩, hMq2, hFq2⟩
      · skip
        have eo : hereP bt n t = nI 38 := c1
        obtain ⟨hl0, hn0⟩ := hereP_lt eo (nI_m1 (by decide))
        have hG0 := hG
        rw [tk_y eo] at hMq2
        refine v_aload_n K dX10_both_14 rfl ?_
        refine v_callV (As := []) K (c_X10_compared_1 h2 bt n B u nm ((advP t)) hXq2 hMq2 ((hO.on hG0 hn0).adv hl0)) lX10_82 ck_X10 rfl sh_118 pl_118 rfl ⟨by decide, by decide⟩ (Nat.le_of_ble_eq_true rfl) dX10_both_15 (fun r3 h3 hp3 => ?_) rfl
        obtain ⟨⟨v2, rfl, hvq3⟩, hMq3, hFaq3⟩ := hp3
        have hFq3 := FrP.t hFq2 hFaq3
        have hXq3 := PX.fr hX hFq3
        have hGq3 : GP n (advP t) ((cmpP bt n (sumP bt n (unitP bt n u 1))) (advP t)).2 := (cmp_good (row_good (row_good (unit_good (bt := bt) (n := n) (u := u) 1) (by decide)) (by decide))) _ ((hO.on hG0 hn0).adv hl0)
        refine v_some ?_
        refine v_istore_n (lv2 := [(2, .int v2), (0, .ref 118), (1, .int v)]) K dX10_both_18 (by decide) rfl ?_
        refine v_iload_n K dX10_both_19 rfl ?_
        refine v_if_eq (tgt := 31) K dX10_both_20 rfl (fun c2 => ?_) (fun c2 => ?_)
        · skip
          refine v_iconstN K 0 rfl dX10_both_31 ?_
          refine v_top (y := joinR (nI 38) v v2) (by rw [j38]; exact (b2i_f (fun q => q.1 c2)).symm) ?_
          refine v_istore_n (lv2 := [(1, .int (joinR (nI 38) v v2)), (2, .int v2), (0, .ref 118)]) K dX10_both_32 (by decide) rfl ?_
          refine v_goto (tgt := 5) K dX10_both_33 rfl ?_
          refine v_sub (lv2 := [(0, .ref 118), (1, .int (joinR (nI 38) v v2))]) (by simp) ?_
          exact ih5 f ((cs ++ ((cmpP bt n (sumP bt n (unitP bt n u 1))) (advP t)).1 ++ [-hereP bt n t])) (((cmpP bt n (sumP bt n (unitP bt n u 1))) (advP t)).2) (joinR (nI 38) v v2) h3 (by exact hG0.tr hn0 ((GP.adv (hO.on hG0 hn0) hl0).tr hn0 hGq3)) (by exact hMq3) (by exact hFq3) (by intro hn2; rw [eo]; exact val_on (by decide) (hv hn0) (hvq3 hn2) rfl) (by rw [he, loop_on (by rw [eo]; decide)]) (by have h1 : (advP t).1 = t.1 + 1 := rfl; have h2 := hGq3.1; omega) (by omega)
        · skip
          refine v_iload_n K dX10_both_23 rfl ?_
          refine v_if_eq (tgt := 31) K dX10_both_24 rfl (fun c3 => ?_) (fun c3 => ?_)
          · skip
            refine v_iconstN K 0 rfl dX10_both_31 ?_
            refine v_top (y := joinR (nI 38) v v2) (by rw [j38]; exact (b2i_f (fun q => q.2 c3)).symm) ?_
            refine v_istore_n (lv2 := [(1, .int (joinR (nI 38) v v2)), (2, .int v2), (0, .ref 118)]) K dX10_both_32 (by decide) rfl ?_
            refine v_goto (tgt := 5) K dX10_both_33 rfl ?_
            refine v_sub (lv2 := [(0, .ref 118), (1, .int (joinR (nI 38) v v2))]) (by simp) ?_
            exact ih5 f ((cs ++ ((cmpP bt n (sumP bt n (unitP bt n u 1))) (advP t)).1 ++ [-hereP bt n t])) (((cmpP bt n (sumP bt n (unitP bt n u 1))) (advP t)).2) (joinR (nI 38) v v2) h3 (by exact hG0.tr hn0 ((GP.adv (hO.on hG0 hn0) hl0).tr hn0 hGq3)) (by exact hMq3) (by exact hFq3) (by intro hn2; rw [eo]; exact val_on (by decide) (hv hn0) (hvq3 hn2) rfl) (by rw [he, loop_on (by rw [eo]; decide)]) (by have h1 : (advP t).1 = t.1 + 1 := rfl; have h2 := hGq3.1; omega) (by omega)
          · skip
            refine v_iconstN K 1 rfl dX10_both_27 ?_
            refine v_goto (tgt := 32) K dX10_both_28 rfl ?_
            refine v_top (y := joinR (nI 38) v v2) (by rw [j38]; exact (b2i_t ⟨c2, c3⟩).symm) ?_
            refine v_istore_n (lv2 := [(1, .int (joinR (nI 38) v v2)), (2, .int v2), (0, .ref 118)]) K dX10_both_32 (by decide) rfl ?_
            refine v_goto (tgt := 5) K dX10_both_33 rfl ?_
            refine v_sub (lv2 := [(0, .ref 118), (1, .int (joinR (nI 38) v v2))]) (by simp) ?_
            exact ih5 f ((cs ++ ((cmpP bt n (sumP bt n (unitP bt n u 1))) (advP t)).1 ++ [-hereP bt n t])) (((cmpP bt n (sumP bt n (unitP bt n u 1))) (advP t)).2) (joinR (nI 38) v v2) h3 (by exact hG0.tr hn0 ((GP.adv (hO.on hG0 hn0) hl0).tr hn0 hGq3)) (by exact hMq3) (by exact hFq3) (by intro hn2; rw [eo]; exact val_on (by decide) (hv hn0) (hvq3 hn2) rfl) (by rw [he, loop_on (by rw [eo]; decide)]) (by have h1 : (advP t).1 = t.1 + 1 := rfl; have h2 := hGq3.1; omega) (by omega)
  refine v_sub (lv2 := [(0, .ref 118), (1, .int v1)]) (by simp) ?_
  exact L5 (52 + 1) 52 (((cmpP bt n (sumP bt n (unitP bt n u 1))) s).1) (((cmpP bt n (sumP bt n (unitP bt n u 1))) s).2) v1 h1 (by exact hGq1) (by exact hMq1) (by exact hFq1) (by exact hvq1) (by rfl) (by omega) (Nat.lt_succ_self _)

abbrev P_X10_either_1 (h : Mm) (bt : Nat → Int32) (n B u : Nat) (nm : Nat → Int32) (s : PSt) : Option Value → Mm → Prop := fun r h2 => (∃ v, r = some (.int v) ∧ (((eitherP bt n (unitP bt n u 1)) s).2.2.1 = none → ∀ st, runL ((eitherP bt n (unitP bt n u 1)) s).1 nm st = v :: st)) ∧ PM h2 n ((eitherP bt n (unitP bt n u 1)) s).2 ∧ FrP h h2
theorem c_X10_either_1 {l : Launch} (h : Mm) (bt : Nat → Int32) (n B u : Nat) (nm : Nat → Int32) (s : PSt) (hX : PX h bt n B u nm) (hM : PM h n s) (hO : OKs n 1 s) : Con l yX10_either cX10_either 3 (some .int) 12 277 132 GL h [.ref 118] (P_X10_either_1 h bt n B u nm s) := by
  refine Con.ofV (own := "FoxRoundsModel") (nm := "either") rfl rfl (by decide) (Nat.le_of_ble_eq_true rfl) ?_
  intro κ ρ hkl K
  subst hkl
  show V κ (QM κ (132, ρ, GL, 0, 0) (P_X10_either_1 h bt n B u nm s)) 3 (132, ρ, GL, 0, 0) h 0 [(0, .ref 118)] []
  have hn50 := hX.2.2.2.2.2.1
  have hBn := hX.2.2.2.2.1
  have hsn := hM.2.1
  have hs5 := hM.2.2.1
  refine v_aload_n K dX10_either_0 rfl ?_
  refine v_callV (As := []) K (c_X10_both_1 h bt n B u nm s hX hM hO) lX10_75 ck_X10 rfl sh_118 pl_118 rfl ⟨by decide, by decide⟩ (Nat.le_of_ble_eq_true rfl) dX10_either_1 (fun r1 h1 hp1 => ?_) rfl
  obtain ⟨⟨v1, rfl, hvq1⟩, hMq1, hFaq1⟩ := hp1
  have hFq1 := FrP.t (FrP.r (h := h)) hFaq1
  have hXq1 := PX.fr hX hFq1
  have hGq1 : GP n s ((bothP bt n (unitP bt n u 1)) s).2 := (row_good (cmp_good (row_good (row_good (unit_good (bt := bt) (n := n) (u := u) 1) (by decide)) (by decide))) (by decide)) _ hO
  refine v_some ?_
  refine v_istore_n (lv2 := [(1, .int v1), (0, .ref 118)]) K dX10_either_4 (by decide) rfl ?_
  have L5 : ∀ (mm : Nat) (f : Nat) (cs : List Int32) (t : PSt) (v : Int32) (h1 : Mm) (hG : GP n s t) (hM1 : PM h1 n t) (hF1 : FrP h h1) (hv : t.2.1 = none → ∀ st, runL cs nm st = v :: st) (he : (eitherP bt n (unitP bt n u 1)) s = loopP bt n [nI 124] (bothP bt n (unitP bt n u 1)) f cs t) (hfu : n + 1 ≤ f + t.1), f < mm → V κ (QM κ (132, ρ, GL, 0, 0) (P_X10_either_1 h bt n B u nm s)) 3 (132, ρ, GL, 0, 0) h1 5 [(0, .ref 118), (1, .int v)] [] := by
    intro mm
    induction mm with
    | zero => intro f cs t v h1 hG hM1 hF1 hv he hfu hmm; exact absurd hmm (Nat.not_lt_zero _)
    | succ mm ih5 =>
      intro f cs t v h1 hG hM1 hF1 hv he hfu hmm
      have hX1 := PX.fr hX hF1
      have htn := hM1.2.1
      have ht5 := hM1.2.2.1
      obtain ⟨f, rfl⟩ : ∃ f0, f = f0 + 1 := ⟨f - 1, by omega⟩
      refine v_aload_n K dX10_either_5 rfl ?_
      refine v_bipushN K 124 rfl dX10_either_6 ?_
      refine v_callV (As := [.int (nI 124)]) K (c_X10_takes h1 bt n B u nm t 124 hX1 hM1 (by decide)) lX10_78 ck_X10 rfl sh_118 pl_118 rfl ⟨by decide, by decide⟩ (Nat.le_of_ble_eq_true rfl) dX10_either_8 (fun r2 h2 hp2 => ?_) rfl
      obtain ⟨rfl, hMq2, hFaq2⟩ := hp2
      have hFq2 := FrP.t hF1 hFaq2
      have hXq2 := PX.fr hX hFq2
      refine v_some ?_
      refine v_ifB_eq (tgt := 36) K dX10_either_11 rfl (fun c1 => ?_) (fun c1 => ?_)
      · skip
        rw [tk_n c1] at hMq2
        refine v_iload_n K dX10_either_36 rfl ?_
        refine v_iret K dX10_either_37 ?_
        have e2 : (eitherP bt n (unitP bt n u 1)) s = (cs, t) := by rw [he, loop_off (by simp only [List.mem_cons, List.not_mem_nil, or_false]; exact c1)]
        show (∃ v, _ ∧ (((eitherP bt n (unitP bt n u 1)) s).2.2.1 = none → ∀ st, runL ((eitherP bt n (unitP bt n u 1)) s).1 nm st = v :: st)) ∧ PM _ n ((eitherP bt n (unitP bt n u 1)) s).2 ∧ _
        rw [e2]
        exact ⟨⟨v, rfl, hv⟩, hMq2, hFq2⟩
      · skip
        have eo : hereP bt n t = nI 124 := c1
        obtain ⟨hl0, hn0⟩ := hereP_lt eo (nI_m1 (by decide))
        have hG0 := hG
        rw [tk_y eo] at hMq2
        refine v_aload_n K dX10_either_14 rfl ?_
        refine v_callV (As := []) K (c_X10_both_1 h2 bt n B u nm ((advP t)) hXq2 hMq2 ((hO.on hG0 hn0).adv hl0)) lX10_75 ck_X10 rfl sh_118 pl_118 rfl ⟨by decide, by decide⟩ (Nat.le_of_ble_eq_true rfl) dX10_either_15 (fun r3 h3 hp3 => ?_) rfl
        obtain ⟨⟨v2, rfl, hvq3⟩, hMq3, hFaq3⟩ := hp3
        have hFq3 := FrP.t hFq2 hFaq3
        have hXq3 := PX.fr hX hFq3
        have hGq3 : GP n (advP t) ((bothP bt n (unitP bt n u 1)) (advP t)).2 := (row_good (cmp_good (row_good (row_good (unit_good (bt := bt) (n := n) (u := u) 1) (by decide)) (by decide))) (by decide)) _ ((hO.on hG0 hn0).adv hl0)
        refine v_some ?_
        refine v_istore_n (lv2 := [(2, .int v2), (0, .ref 118), (1, .int v)]) K dX10_either_18 (by decide) rfl ?_
        refine v_iload_n K dX10_either_19 rfl ?_
        refine v_if_ne (tgt := 27) K dX10_either_20 rfl (fun c2 => ?_) (fun c2 => ?_)
        · skip
          refine v_iconstN K 1 rfl dX10_either_27 ?_
          refine v_goto (tgt := 32) K dX10_either_28 rfl ?_
          refine v_top (y := joinR (nI 124) v v2) (by rw [j124]; exact (b2i_t (Or.inl c2)).symm) ?_
          refine v_istore_n (lv2 := [(1, .int (joinR (nI 124) v v2)), (2, .int v2), (0, .ref 118)]) K dX10_either_32 (by decide) rfl ?_
          refine v_goto (tgt := 5) K dX10_either_33 rfl ?_
          refine v_sub (lv2 := [(0, .ref 118), (1, .int (joinR (nI 124) v v2))]) (by simp) ?_
          exact ih5 f ((cs ++ ((bothP bt n (unitP bt n u 1)) (advP t)).1 ++ [-hereP bt n t])) (((bothP bt n (unitP bt n u 1)) (advP t)).2) (joinR (nI 124) v v2) h3 (by exact hG0.tr hn0 ((GP.adv (hO.on hG0 hn0) hl0).tr hn0 hGq3)) (by exact hMq3) (by exact hFq3) (by intro hn2; rw [eo]; exact val_on (by decide) (hv hn0) (hvq3 hn2) rfl) (by rw [he, loop_on (by rw [eo]; decide)]) (by have h1 : (advP t).1 = t.1 + 1 := rfl; have h2 := hGq3.1; omega) (by omega)
        · skip
          refine v_iload_n K dX10_either_23 rfl ?_
          refine v_if_eq (tgt := 31) K dX10_either_24 rfl (fun c3 => ?_) (fun c3 => ?_)
          · skip
            refine v_iconstN K 0 rfl dX10_either_31 ?_
            refine v_top (y := joinR (nI 124) v v2) (by rw [j124]; exact (b2i_f (by rw [not_or]; exact ⟨fun q => q c2, fun q => q c3⟩)).symm) ?_
            refine v_istore_n (lv2 := [(1, .int (joinR (nI 124) v v2)), (2, .int v2), (0, .ref 118)]) K dX10_either_32 (by decide) rfl ?_
            refine v_goto (tgt := 5) K dX10_either_33 rfl ?_
            refine v_sub (lv2 := [(0, .ref 118), (1, .int (joinR (nI 124) v v2))]) (by simp) ?_
            exact ih5 f ((cs ++ ((bothP bt n (unitP bt n u 1)) (advP t)).1 ++ [-hereP bt n t])) (((bothP bt n (unitP bt n u 1)) (advP t)).2) (joinR (nI 124) v v2) h3 (by exact hG0.tr hn0 ((GP.adv (hO.on hG0 hn0) hl0).tr hn0 hGq3)) (by exact hMq3) (by exact hFq3) (by intro hn2; rw [eo]; exact val_on (by decide) (hv hn0) (hvq3 hn2) rfl) (by rw [he, loop_on (by rw [eo]; decide)]) (by have h1 : (advP t).1 = t.1 + 1 := rfl; have h2 := hGq3.1; omega) (by omega)
          · skip
            refine v_iconstN K 1 rfl dX10_either_27 ?_
            refine v_goto (tgt := 32) K dX10_either_28 rfl ?_
            refine v_top (y := joinR (nI 124) v v2) (by rw [j124]; exact (b2i_t (Or.inr c3)).symm) ?_
            refine v_istore_n (lv2 := [(1, .int (joinR (nI 124) v v2)), (2, .int v2), (0, .ref 118)]) K dX10_either_32 (by decide) rfl ?_
            refine v_goto (tgt := 5) K dX10_either_33 rfl ?_
            refine v_sub (lv2 := [(0, .ref 118), (1, .int (joinR (nI 124) v v2))]) (by simp) ?_
            exact ih5 f ((cs ++ ((bothP bt n (unitP bt n u 1)) (advP t)).1 ++ [-hereP bt n t])) (((bothP bt n (unitP bt n u 1)) (advP t)).2) (joinR (nI 124) v v2) h3 (by exact hG0.tr hn0 ((GP.adv (hO.on hG0 hn0) hl0).tr hn0 hGq3)) (by exact hMq3) (by exact hFq3) (by intro hn2; rw [eo]; exact val_on (by decide) (hv hn0) (hvq3 hn2) rfl) (by rw [he, loop_on (by rw [eo]; decide)]) (by have h1 : (advP t).1 = t.1 + 1 := rfl; have h2 := hGq3.1; omega) (by omega)
  refine v_sub (lv2 := [(0, .ref 118), (1, .int v1)]) (by simp) ?_
  exact L5 (52 + 1) 52 (((bothP bt n (unitP bt n u 1)) s).1) (((bothP bt n (unitP bt n u 1)) s).2) v1 h1 (by exact hGq1) (by exact hMq1) (by exact hFq1) (by exact hvq1) (by rfl) (by omega) (Nat.lt_succ_self _)

theorem unit_e2 {bt : Nat → Int32} {n u : Nat} (s : PSt) : unitP bt n u 2 s = if hereP bt n s = nI 40 then (if hereP bt n ((eitherP bt n (unitP bt n u 1)) (advP (openP s))).2 = nI 41 then (((eitherP bt n (unitP bt n u 1)) (advP (openP s))).1, closeP (advP ((eitherP bt n (unitP bt n u 1)) (advP (openP s))).2)) else ([], wrongP ((eitherP bt n (unitP bt n u 1)) (advP (openP s))).2)) else if hereP bt n s = nI 33 then (((unitP bt n u 1) (advP (openP s))).1 ++ [(-33)], closeP ((unitP bt n u 1) (advP (openP s))).2) else leafP bt n u s := rfl

abbrev P_X10_unit_2 (h : Mm) (bt : Nat → Int32) (n B u : Nat) (nm : Nat → Int32) (s : PSt) : Option Value → Mm → Prop := fun r h2 => (∃ v, r = some (.int v) ∧ (((unitP bt n u 2) s).2.2.1 = none → ∀ st, runL ((unitP bt n u 2) s).1 nm st = v :: st)) ∧ PM h2 n ((unitP bt n u 2) s).2 ∧ FrP h h2
theorem c_X10_unit_2 {l : Launch} (h : Mm) (bt : Nat → Int32) (n B u : Nat) (nm : Nat → Int32) (s : PSt) (hX : PX h bt n B u nm) (hM : PM h n s) (hO : OKs n 2 s) : Con l yX10_unit cX10_unit 5 (some .int) 13 299 132 GL h [.ref 118] (P_X10_unit_2 h bt n B u nm s) := by
  refine Con.ofV (own := "FoxRoundsModel") (nm := "unit") rfl rfl (by decide) (Nat.le_of_ble_eq_true rfl) ?_
  intro κ ρ hkl K
  subst hkl
  show V κ (QM κ (132, ρ, GL, 0, 0) (P_X10_unit_2 h bt n B u nm s)) 5 (132, ρ, GL, 0, 0) h 0 [(0, .ref 118)] []
  have hn50 := hX.2.2.2.2.2.1
  have hBn := hX.2.2.2.2.1
  have hsn := hM.2.1
  have hs5 := hM.2.2.1
  refine v_aload_n K dX10_unit_0 rfl ?_
  refine v_callV (As := []) K (c_X10_here h bt n B u nm s hX hM) lX10_68 ck_X10 rfl sh_118 pl_118 rfl ⟨by decide, by decide⟩ (Nat.le_of_ble_eq_true rfl) dX10_unit_1 (fun r1 h1 hp1 => ?_) rfl
  obtain ⟨rfl, rfl⟩ := hp1
  refine v_some ?_
  refine v_istore_n (lv2 := [(1, .int (hereP bt n s)), (0, .ref 118)]) K dX10_unit_4 (by decide) rfl ?_
  refine v_iload_n K dX10_unit_5 rfl ?_
  refine v_bipushN K 33 rfl dX10_unit_6 ?_
  refine v_icmp_eq (tgt := 17) K dX10_unit_8 rfl (fun c1 => ?_) (fun c1 => ?_)
  · skip
    have eo : hereP bt n s = nI 33 := c1
    obtain ⟨hl0, hn0⟩ := hereP_lt eo (nI_m1 (by decide))
    refine v_aload_n K dX10_unit_17 rfl ?_
    refine v_geti (x := nI s.2.2) K fX10_94 sh_118 pl_118 hM.1.2.2 dX10_unit_18 ?_
    refine v_iconstN K 5 rfl dX10_unit_21 ?_
    refine v_icmpN_ne (tgt := 30) K (by omega) (by omega) dX10_unit_22 rfl (fun c2 => ?_) (fun c2 => ?_)
    · skip
      refine v_aload_n K dX10_unit_30 rfl ?_
      refine v_dup K dX10_unit_31 rfl ?_
      refine v_geti (x := nI s.2.2) K fX10_94 sh_118 pl_118 hM.1.2.2 dX10_unit_32 ?_
      refine v_iconstN K 1 rfl dX10_unit_35 ?_
      refine v_iaddN K dX10_unit_36 ?_
      refine v_puti K pX10_94 sh_118 pl_118 dX10_unit_37 ?_
      have hMm1 : PM (u2 h 118 9 (nI (s.2.2 + 1))) n (openP s) := hM.opn (by have := hO.2.2; omega)
      have hFm1 : FrP h (u2 h 118 9 (nI (s.2.2 + 1))) := FrP.u (FrP.r (h := h)) (by omega)
      have hXm1 := PX.fr hX hFm1
      refine v_aload_n K dX10_unit_40 rfl ?_
      refine v_dup K dX10_unit_41 rfl ?_
      refine v_geti (x := nI ((openP s).1)) K fX10_55 sh_118 pl_118 hMm1.1.1 dX10_unit_42 ?_
      refine v_iconstN K 1 rfl dX10_unit_45 ?_
      refine v_iaddN K dX10_unit_46 ?_
      refine v_puti K pX10_55 sh_118 pl_118 dX10_unit_47 ?_
      have hMm2 : PM (u2 (u2 h 118 9 (nI (s.2.2 + 1))) 118 6 (nI ((openP s).1 + 1))) n (advP (openP s)) := hMm1.adv hl0
      have hFm2 : FrP h (u2 (u2 h 118 9 (nI (s.2.2 + 1))) 118 6 (nI ((openP s).1 + 1))) := FrP.u hFm1 (by omega)
      have hXm2 := PX.fr hX hFm2
      refine v_iload_n K dX10_unit_50 rfl ?_
      refine v_bipushN K 40 rfl dX10_unit_51 ?_
      refine v_icmp_ne (tgt := 63) K dX10_unit_53 rfl (fun c3 => ?_) (fun c3 => ?_)
      · skip
        refine v_aload_n K dX10_unit_63 rfl ?_
        refine v_callV (As := []) K (c_X10_unit_1 ((u2 (u2 h 118 9 (nI (s.2.2 + 1))) 118 6 (nI ((openP s).1 + 1)))) bt n B u nm ((advP (openP s))) hXm2 hMm2 ⟨hl0, hn0, by show s.2.2 + 1 + 1 = 5; have := hO.2.2; omega⟩) lX10_91 ck_X10 rfl sh_118 pl_118 rfl ⟨by decide, by decide⟩ (Nat.le_of_ble_eq_true rfl) dX10_unit_64 (fun r2 h2 hp2 => ?_) rfl
        obtain ⟨⟨v1, rfl, hvq1⟩, hMq1, hFaq1⟩ := hp2
        have hFq1 := FrP.t hFm2 hFaq1
        have hXq1 := PX.fr hX hFq1
        have hGq1 : GP n (advP (openP s)) ((unitP bt n u 1) (advP (openP s))).2 := (unit_good (bt := bt) (n := n) (u := u) 1) _ ⟨hl0, hn0, by show s.2.2 + 1 + 1 = 5; have := hO.2.2; omega⟩
        refine v_some ?_
        have hG1 := hGq1
        have hv1 := hvq1
        have ho1 : s.2.2 + 1 ≤ ((unitP bt n u 1) (advP (openP s))).2.2.2 := hG1.2.2.2.1
        refine v_istore_n (lv2 := [(2, .int v1), (1, .int (hereP bt n s)), (0, .ref 118)]) K dX10_unit_67 (by decide) rfl ?_
        refine v_iload_n K dX10_unit_68 rfl ?_
        refine v_bipushN K 40 rfl dX10_unit_69 ?_
        refine v_icmp_ne (tgt := 88) K dX10_unit_71 rfl (fun c4 => ?_) (fun c4 => ?_)
        · skip
          refine v_aload_n K dX10_unit_88 rfl ?_
          refine v_dup K dX10_unit_89 rfl ?_
          refine v_geti (x := nI (((unitP bt n u 1) (advP (openP s))).2.2.2)) K fX10_94 sh_118 pl_118 hMq1.1.2.2 dX10_unit_90 ?_
          refine v_iconstN K 1 rfl dX10_unit_93 ?_
          refine v_isubN K (by first | exact Nat.le_trans (Nat.succ_le_succ (Nat.zero_le _)) ho1 | (have := ho1; omega)) dX10_unit_94 ?_
          refine v_puti K pX10_94 sh_118 pl_118 dX10_unit_95 ?_
          have hMm3 : PM (u2 h2 118 9 (nI (((unitP bt n u 1) (advP (openP s))).2.2.2 - 1))) n (closeP ((unitP bt n u 1) (advP (openP s))).2) := hMq1.cls
          have hFm3 : FrP h (u2 h2 118 9 (nI (((unitP bt n u 1) (advP (openP s))).2.2.2 - 1))) := FrP.u hFq1 (by omega)
          have hXm3 := PX.fr hX hFm3
          refine v_iload_n K dX10_unit_98 rfl ?_
          refine v_bipushN K 40 rfl dX10_unit_99 ?_
          refine v_icmp_ne (tgt := 108) K dX10_unit_101 rfl (fun c5 => ?_) (fun c5 => ?_)
          · skip
            refine v_iload_n K dX10_unit_108 rfl ?_
            refine v_if_ne (tgt := 116) K dX10_unit_109 rfl (fun c6 => ?_) (fun c6 => ?_)
            · skip
              refine v_iconstN K 0 rfl dX10_unit_116 ?_
              refine v_iret K dX10_unit_117 ?_
              have e2 : (unitP bt n u 2) s = (((unitP bt n u 1) (advP (openP s))).1 ++ [(-33)], closeP ((unitP bt n u 1) (advP (openP s))).2) := by rw [unit_e2, if_neg (fun q => absurd (q.symm.trans eo) (by decide)), if_pos eo]
              show (∃ v, _ ∧ (((unitP bt n u 2) s).2.2.1 = none → ∀ st, runL ((unitP bt n u 2) s).1 nm st = v :: st)) ∧ PM _ n ((unitP bt n u 2) s).2 ∧ _
              rw [e2]
              refine ⟨⟨_, rfl, fun q st => ?_⟩, hMm3, hFm3⟩
              rw [runL_app, hv1 q, run_bang, b2i_f c6]
              rfl
            · skip
              refine v_iconstN K 1 rfl dX10_unit_112 ?_
              refine v_goto (tgt := 117) K dX10_unit_113 rfl ?_
              refine v_iret K dX10_unit_117 ?_
              have e2 : (unitP bt n u 2) s = (((unitP bt n u 1) (advP (openP s))).1 ++ [(-33)], closeP ((unitP bt n u 1) (advP (openP s))).2) := by rw [unit_e2, if_neg (fun q => absurd (q.symm.trans eo) (by decide)), if_pos eo]
              show (∃ v, _ ∧ (((unitP bt n u 2) s).2.2.1 = none → ∀ st, runL ((unitP bt n u 2) s).1 nm st = v :: st)) ∧ PM _ n ((unitP bt n u 2) s).2 ∧ _
              rw [e2]
              refine ⟨⟨_, rfl, fun q st => ?_⟩, hMm3, hFm3⟩
              rw [runL_app, hv1 q, run_bang, b2i_t c6]
              rfl
          · skip
            exact absurd (c5.symm.trans eo) (by decide)
        · skip
          exact absurd (c4.symm.trans eo) (by decide)
      · skip
        exact absurd (c3.symm.trans eo) (by decide)
    · skip
      exfalso; have := hO.2.2; omega
  · skip
    refine v_iload_n K dX10_unit_11 rfl ?_
    refine v_bipushN K 40 rfl dX10_unit_12 ?_
    refine v_icmp_ne (tgt := 118) K dX10_unit_14 rfl (fun c7 => ?_) (fun c7 => ?_)
    · skip
      have eL : unitP bt n u 2 s = leafP bt n u s := by rw [unit_e2, if_neg c7, if_neg c1]
      refine v_aload_n K dX10_unit_118 rfl ?_
      refine v_iload_n K dX10_unit_119 rfl ?_
      refine v_callV (As := [.int (hereP bt n s)]) K (c_X10_nameOf h bt n B u nm s (hereP bt n s) hX hM) lX10_103 ck_X10 rfl sh_118 pl_118 rfl ⟨by decide, by decide⟩ (Nat.le_of_ble_eq_true rfl) dX10_unit_120 (fun r3 h3 hp3 => ?_) rfl
      obtain ⟨rfl, rfl⟩ := hp3
      refine v_some ?_
      refine v_nm (fun kk e_kk => ?_)
      refine v_istore_n (lv2 := [(2, .int kk), (1, .int (hereP bt n s)), (0, .ref 118)]) K dX10_unit_123 (by decide) rfl ?_
      refine v_iload_n K dX10_unit_124 rfl ?_
      refine v_if_lt (tgt := 145) K dX10_unit_125 rfl (fun c8 => ?_) (fun c8 => ?_)
      · skip
        have hno := nm_none (o := nameP u (hereP bt n s)) (fun j hj => Nat.lt_of_lt_of_le (name_lt hj) nn_le) (by rw [← e_kk]; exact c8)
        refine v_iconstN K 0 rfl dX10_unit_145 ?_
        refine v_istore_n (lv2 := [(3, .int (nI 0)), (2, .int kk), (1, .int (hereP bt n s)), (0, .ref 118)]) K dX10_unit_146 (by decide) rfl ?_
        refine v_iconstN K 0 rfl dX10_unit_147 ?_
        refine v_istore (lv2 := [(4, .int (nI 0)), (3, .int (nI 0)), (2, .int kk), (1, .int (hereP bt n s)), (0, .ref 118)]) K dX10_unit_148 (by decide) rfl ?_
        have L150 : ∀ (mm : Nat) (f : Nat) (m : Nat) (t : PSt) (v : Int32) (h1 : Mm) (hfm : f + m = 4) (hO1 : OKs n 2 t) (hM1 : PM h1 n t) (hF1 : FrP h h1) (he : (digP bt n 4 (nI 0) s) = ((digP bt n f v t).1, (digP bt n f v t).2.1 + m, (digP bt n f v t).2.2)), f < mm → V κ (QM κ (132, ρ, GL, 0, 0) (P_X10_unit_2 h bt n B u nm s)) 5 (132, ρ, GL, 0, 0) h1 150 [(0, .ref 118), (1, .int (hereP bt n s)), (2, .int kk), (3, .int v), (4, .int (nI m))] [] := by
          intro mm
          induction mm with
          | zero => intro f m t v h1 hfm hO1 hM1 hF1 he hmm; exact absurd hmm (Nat.not_lt_zero _)
          | succ mm ih150 =>
            intro f m t v h1 hfm hO1 hM1 hF1 he hmm
            have hX1 := PX.fr hX hF1
            have htn := hM1.2.1
            refine v_iload K dX10_unit_150 rfl ?_
            refine v_iconstN K 4 rfl dX10_unit_152 ?_
            refine v_icmpN_ge (tgt := 202) K (by omega) (by omega) dX10_unit_153 rfl (fun c9 => ?_) (fun c9 => ?_)
            · skip
              obtain rfl : f = 0 := by omega
              have eD : (digP bt n 4 (nI 0) s) = (v, m, t) := by rw [he, digP]; simp
              refine v_iload K dX10_unit_202 rfl ?_
              refine v_ifN_ne (tgt := 214) K (by omega) dX10_unit_204 rfl (fun c10 => ?_) (fun c10 => ?_)
              · skip
                refine v_iload_n K dX10_unit_214 rfl ?_
                refine v_iret K dX10_unit_215 ?_
                have e2 : (unitP bt n u 2) s = ([v], t) := by rw [eL, leafP, hno]; dsimp only; rw [eD]; exact if_neg (by show ¬ m = 0; omega)
                show (∃ v, _ ∧ (((unitP bt n u 2) s).2.2.1 = none → ∀ st, runL ((unitP bt n u 2) s).1 nm st = v :: st)) ∧ PM _ n ((unitP bt n u 2) s).2 ∧ _
                rw [e2]
                obtain ⟨a, ha, ea⟩ := dig_val (bt := bt) (n := n) 4 0 (nI 0) s (by omega) ⟨0, by decide, rfl⟩
                rw [eD] at ea
                have ea2 : v = nI a := ea
                subst ea2
                exact ⟨⟨_, rfl, fun _ st => run_num ha⟩, hM1, hF1⟩
              · skip
                refine v_aload_n K dX10_unit_207 rfl ?_
                refine v_callV (As := []) K (c_X10_wrong h1 bt n B u nm t hX1 hM1) lX10_97 ck_X10 rfl sh_118 pl_118 rfl ⟨by decide, by decide⟩ (Nat.le_of_ble_eq_true rfl) dX10_unit_208 (fun r4 h4 hp4 => ?_) rfl
                obtain ⟨rfl, hMq2, hFaq2⟩ := hp4
                have hFq2 := FrP.t hF1 hFaq2
                have hXq2 := PX.fr hX hFq2
                refine v_some ?_
                refine v_goto (tgt := 215) K dX10_unit_211 rfl ?_
                refine v_iret K dX10_unit_215 ?_
                have e2 : (unitP bt n u 2) s = ([], wrongP t) := by rw [eL, leafP, hno]; dsimp only; rw [eD]; exact if_pos (by show m = 0; omega)
                show (∃ v, _ ∧ (((unitP bt n u 2) s).2.2.1 = none → ∀ st, runL ((unitP bt n u 2) s).1 nm st = v :: st)) ∧ PM _ n ((unitP bt n u 2) s).2 ∧ _
                rw [e2]
                exact ⟨⟨_, rfl, fun q => absurd q wrong_some⟩, hMq2, hFq2⟩
            · skip
              obtain ⟨f, rfl⟩ : ∃ f0, f = f0 + 1 := ⟨f - 1, by omega⟩
              refine v_aload_n K dX10_unit_156 rfl ?_
              refine v_callV (As := []) K (c_X10_here h1 bt n B u nm t hX1 hM1) lX10_68 ck_X10 rfl sh_118 pl_118 rfl ⟨by decide, by decide⟩ (Nat.le_of_ble_eq_true rfl) dX10_unit_157 (fun r5 h5 hp5 => ?_) rfl
              obtain ⟨rfl, rfl⟩ := hp5
              refine v_some ?_
              refine v_i2l K dX10_unit_160 rfl ?_
              refine v_ldc2 K kX10_107 dX10_unit_161 ?_
              refine v_topL (y := (nI 48).toInt64) (by decide) ?_
              refine v_ldc2 K kX10_109 dX10_unit_164 ?_
              refine v_topL (y := (nI 57).toInt64) (by decide) ?_
              refine v_callS (As := [.long (hereP bt n t).toInt64, .long (nI 48).toInt64, .long (nI 57).toInt64]) K (c_X10_in h1 (hereP bt n t) (nI 48) (nI 57)) lX10_51 rfl ⟨by decide, by decide⟩ (Nat.le_of_ble_eq_true rfl) dX10_unit_167 (fun r6 h6 hp6 => ?_) rfl
              obtain ⟨rfl, rfl⟩ := hp6
              refine v_some ?_
              refine v_ifB_eq (tgt := 202) K dX10_unit_170 rfl (fun c11 => ?_) (fun c11 => ?_)
              · skip
                have eD : (digP bt n 4 (nI 0) s) = (v, m, t) := by rw [he, digP, if_neg c11]; simp
                refine v_iload K dX10_unit_202 rfl ?_
                refine v_ifN_ne (tgt := 214) K (by omega) dX10_unit_204 rfl (fun c12 => ?_) (fun c12 => ?_)
                · skip
                  refine v_iload_n K dX10_unit_214 rfl ?_
                  refine v_iret K dX10_unit_215 ?_
                  have e2 : (unitP bt n u 2) s = ([v], t) := by rw [eL, leafP, hno]; dsimp only; rw [eD]; exact if_neg (by show ¬ m = 0; omega)
                  show (∃ v, _ ∧ (((unitP bt n u 2) s).2.2.1 = none → ∀ st, runL ((unitP bt n u 2) s).1 nm st = v :: st)) ∧ PM _ n ((unitP bt n u 2) s).2 ∧ _
                  rw [e2]
                  obtain ⟨a, ha, ea⟩ := dig_val (bt := bt) (n := n) 4 0 (nI 0) s (by omega) ⟨0, by decide, rfl⟩
                  rw [eD] at ea
                  have ea2 : v = nI a := ea
                  subst ea2
                  exact ⟨⟨_, rfl, fun _ st => run_num ha⟩, hM1, hF1⟩
                · skip
                  refine v_aload_n K dX10_unit_207 rfl ?_
                  refine v_callV (As := []) K (c_X10_wrong h1 bt n B u nm t hX1 hM1) lX10_97 ck_X10 rfl sh_118 pl_118 rfl ⟨by decide, by decide⟩ (Nat.le_of_ble_eq_true rfl) dX10_unit_208 (fun r7 h7 hp7 => ?_) rfl
                  obtain ⟨rfl, hMq3, hFaq3⟩ := hp7
                  have hFq3 := FrP.t hF1 hFaq3
                  have hXq3 := PX.fr hX hFq3
                  refine v_some ?_
                  refine v_goto (tgt := 215) K dX10_unit_211 rfl ?_
                  refine v_iret K dX10_unit_215 ?_
                  have e2 : (unitP bt n u 2) s = ([], wrongP t) := by rw [eL, leafP, hno]; dsimp only; rw [eD]; exact if_pos (by show m = 0; omega)
                  show (∃ v, _ ∧ (((unitP bt n u 2) s).2.2.1 = none → ∀ st, runL ((unitP bt n u 2) s).1 nm st = v :: st)) ∧ PM _ n ((unitP bt n u 2) s).2 ∧ _
                  rw [e2]
                  exact ⟨⟨_, rfl, fun q => absurd q wrong_some⟩, hMq3, hFq3⟩
              · skip
                obtain ⟨hl1, hn1⟩ := hereP_lt (c := hereP bt n t) rfl (fun e => by rw [e] at c11; exact absurd c11.1 (by decide))
                refine v_bipushN K 10 rfl dX10_unit_173 ?_
                refine v_iload_n K dX10_unit_175 rfl ?_
                refine v_imul K dX10_unit_176 ?_
                refine v_aload_n K dX10_unit_177 rfl ?_
                refine v_callV (As := []) K (c_X10_here h1 bt n B u nm t hX1 hM1) lX10_68 ck_X10 rfl sh_118 pl_118 rfl ⟨by decide, by decide⟩ (Nat.le_of_ble_eq_true rfl) dX10_unit_178 (fun r8 h8 hp8 => ?_) rfl
                obtain ⟨rfl, rfl⟩ := hp8
                refine v_some ?_
                refine v_iadd K dX10_unit_181 ?_
                refine v_bipushN K 48 rfl dX10_unit_182 ?_
                refine v_isub K dX10_unit_184 ?_
                refine v_nm (fun x1 e_x1 => ?_)
                refine v_istore_n (lv2 := [(3, .int x1), (0, .ref 118), (1, .int (hereP bt n s)), (2, .int kk), (4, .int (nI m))]) K dX10_unit_185 (by decide) rfl ?_
                refine v_aload_n K dX10_unit_186 rfl ?_
                refine v_dup K dX10_unit_187 rfl ?_
                refine v_geti (x := nI t.1) K fX10_55 sh_118 pl_118 hM1.1.1 dX10_unit_188 ?_
                refine v_iconstN K 1 rfl dX10_unit_191 ?_
                refine v_iaddN K dX10_unit_192 ?_
                refine v_puti K pX10_55 sh_118 pl_118 dX10_unit_193 ?_
                have hMm4 : PM (u2 h1 118 6 (nI (t.1 + 1))) n (advP t) := hM1.adv hl1
                have hFm4 : FrP h (u2 h1 118 6 (nI (t.1 + 1))) := FrP.u hF1 (by omega)
                have hXm4 := PX.fr hX hFm4
                refine v_iincN (lv2 := [(4, .int (nI (m + 1))), (3, .int x1), (0, .ref 118), (1, .int (hereP bt n s)), (2, .int kk)]) K 1 dX10_unit_196 rfl rfl (by decide) rfl ?_
                refine v_goto (tgt := 150) K dX10_unit_199 rfl ?_
                refine v_sub (lv2 := [(0, .ref 118), (1, .int (hereP bt n s)), (2, .int kk), (3, .int x1), (4, .int (nI (m + 1)))]) (by simp) ?_
                exact ih150 f (m + 1) ((advP t)) x1 ((u2 h1 118 6 (nI (t.1 + 1)))) (by omega) (by exact hO1.adv hl1) (by exact hMm4) (by exact hFm4) (by rw [he, digP, if_pos c11, ← e_x1]; exact Prod.ext rfl (Prod.ext (by show _ + 1 + m = _ + (m + 1); omega) rfl)) (by omega)
        refine v_sub (lv2 := [(0, .ref 118), (1, .int (hereP bt n s)), (2, .int kk), (3, .int (nI 0)), (4, .int (nI 0))]) (by simp) ?_
        exact L150 (4 + 1) 4 0 s (nI 0) h (by rfl) (by exact hO) (by exact hM) (by exact (FrP.r (h := h))) (by rfl) (Nat.lt_succ_self _)
      · skip
        obtain ⟨j, hj⟩ := nm_some (o := nameP u (hereP bt n s)) (by rw [← e_kk]; exact c8)
        have hj5 : j < 5 := Nat.lt_of_lt_of_le (name_lt hj) nn_le
        rw [hj] at e_kk
        subst e_kk
        obtain ⟨hl0, hn0⟩ := hereP_lt (c := hereP bt n s) rfl (name_ne hj)
        show V κ (QM κ (132, ρ, GL, 0, 0) (P_X10_unit_2 h bt n B u nm s)) 5 (132, ρ, GL, 0, 0) h 128 [(2, .int (nI j)), (1, .int (hereP bt n s)), (0, .ref 118)] []
        refine v_aload_n K dX10_unit_128 rfl ?_
        refine v_dup K dX10_unit_129 rfl ?_
        refine v_geti (x := nI s.1) K fX10_55 sh_118 pl_118 hM.1.1 dX10_unit_130 ?_
        refine v_iconstN K 1 rfl dX10_unit_133 ?_
        refine v_iaddN K dX10_unit_134 ?_
        refine v_puti K pX10_55 sh_118 pl_118 dX10_unit_135 ?_
        have hMm5 : PM (u2 h 118 6 (nI (s.1 + 1))) n (advP s) := hM.adv hl0
        have hFm5 : FrP h (u2 h 118 6 (nI (s.1 + 1))) := FrP.u (FrP.r (h := h)) (by omega)
        have hXm5 := PX.fr hX hFm5
        refine v_aload_n K dX10_unit_138 rfl ?_
        refine v_getr (q := 123) K fX10_22 sh_118 pl_118 gl_118_11 dX10_unit_139 ?_
        refine v_iload_n K dX10_unit_142 rfl ?_
        refine v_iald (x := nm j) K sh_123 pl_123 (by omega) (hXm5.2.2.2.2.2.2.2 j (by omega)) dX10_unit_143 ?_
        refine v_iret K dX10_unit_144 ?_
        have e2 : (unitP bt n u 2) s = ([(-1) - nI j], advP s) := by rw [eL, leafP, hj]
        show (∃ v, _ ∧ (((unitP bt n u 2) s).2.2.1 = none → ∀ st, runL ((unitP bt n u 2) s).1 nm st = v :: st)) ∧ PM _ n ((unitP bt n u 2) s).2 ∧ _
        rw [e2]
        exact ⟨⟨_, rfl, fun _ st => run_name hj5⟩, hMm5, hFm5⟩
    · skip
      have eo : hereP bt n s = nI 40 := c7
      obtain ⟨hl0, hn0⟩ := hereP_lt eo (nI_m1 (by decide))
      refine v_aload_n K dX10_unit_17 rfl ?_
      refine v_geti (x := nI s.2.2) K fX10_94 sh_118 pl_118 hM.1.2.2 dX10_unit_18 ?_
      refine v_iconstN K 5 rfl dX10_unit_21 ?_
      refine v_icmpN_ne (tgt := 30) K (by omega) (by omega) dX10_unit_22 rfl (fun c13 => ?_) (fun c13 => ?_)
      · skip
        refine v_aload_n K dX10_unit_30 rfl ?_
        refine v_dup K dX10_unit_31 rfl ?_
        refine v_geti (x := nI s.2.2) K fX10_94 sh_118 pl_118 hM.1.2.2 dX10_unit_32 ?_
        refine v_iconstN K 1 rfl dX10_unit_35 ?_
        refine v_iaddN K dX10_unit_36 ?_
        refine v_puti K pX10_94 sh_118 pl_118 dX10_unit_37 ?_
        have hMm6 : PM (u2 h 118 9 (nI (s.2.2 + 1))) n (openP s) := hM.opn (by have := hO.2.2; omega)
        have hFm6 : FrP h (u2 h 118 9 (nI (s.2.2 + 1))) := FrP.u (FrP.r (h := h)) (by omega)
        have hXm6 := PX.fr hX hFm6
        refine v_aload_n K dX10_unit_40 rfl ?_
        refine v_dup K dX10_unit_41 rfl ?_
        refine v_geti (x := nI ((openP s).1)) K fX10_55 sh_118 pl_118 hMm6.1.1 dX10_unit_42 ?_
        refine v_iconstN K 1 rfl dX10_unit_45 ?_
        refine v_iaddN K dX10_unit_46 ?_
        refine v_puti K pX10_55 sh_118 pl_118 dX10_unit_47 ?_
        have hMm7 : PM (u2 (u2 h 118 9 (nI (s.2.2 + 1))) 118 6 (nI ((openP s).1 + 1))) n (advP (openP s)) := hMm6.adv hl0
        have hFm7 : FrP h (u2 (u2 h 118 9 (nI (s.2.2 + 1))) 118 6 (nI ((openP s).1 + 1))) := FrP.u hFm6 (by omega)
        have hXm7 := PX.fr hX hFm7
        refine v_iload_n K dX10_unit_50 rfl ?_
        refine v_bipushN K 40 rfl dX10_unit_51 ?_
        refine v_icmp_ne (tgt := 63) K dX10_unit_53 rfl (fun c14 => ?_) (fun c14 => ?_)
        · skip
          exact absurd eo c14
        · skip
          refine v_aload_n K dX10_unit_56 rfl ?_
          refine v_callV (As := []) K (c_X10_either_1 ((u2 (u2 h 118 9 (nI (s.2.2 + 1))) 118 6 (nI ((openP s).1 + 1)))) bt n B u nm ((advP (openP s))) hXm7 hMm7 ⟨hl0, hn0, by show s.2.2 + 1 + 1 = 5; have := hO.2.2; omega⟩) lX10_100 ck_X10 rfl sh_118 pl_118 rfl ⟨by decide, by decide⟩ (Nat.le_of_ble_eq_true rfl) dX10_unit_57 (fun r9 h9 hp9 => ?_) rfl
          obtain ⟨⟨v2, rfl, hvq4⟩, hMq4, hFaq4⟩ := hp9
          have hFq4 := FrP.t hFm7 hFaq4
          have hXq4 := PX.fr hX hFq4
          have hGq4 : GP n (advP (openP s)) ((eitherP bt n (unitP bt n u 1)) (advP (openP s))).2 := (either_good (unit_good (bt := bt) (n := n) (u := u) 1)) _ ⟨hl0, hn0, by show s.2.2 + 1 + 1 = 5; have := hO.2.2; omega⟩
          refine v_some ?_
          refine v_goto (tgt := 67) K dX10_unit_60 rfl ?_
          have hG1 := hGq4
          have hv1 := hvq4
          have ho1 : s.2.2 + 1 ≤ ((eitherP bt n (unitP bt n u 1)) (advP (openP s))).2.2.2 := hG1.2.2.2.1
          refine v_istore_n (lv2 := [(2, .int v2), (1, .int (hereP bt n s)), (0, .ref 118)]) K dX10_unit_67 (by decide) rfl ?_
          refine v_iload_n K dX10_unit_68 rfl ?_
          refine v_bipushN K 40 rfl dX10_unit_69 ?_
          refine v_icmp_ne (tgt := 88) K dX10_unit_71 rfl (fun c15 => ?_) (fun c15 => ?_)
          · skip
            exact absurd eo c15
          · skip
            refine v_aload_n K dX10_unit_74 rfl ?_
            refine v_bipushN K 41 rfl dX10_unit_75 ?_
            refine v_callV (As := [.int (nI 41)]) K (c_X10_takes h9 bt n B u nm (((eitherP bt n (unitP bt n u 1)) (advP (openP s))).2) 41 hXq4 hMq4 (by decide)) lX10_78 ck_X10 rfl sh_118 pl_118 rfl ⟨by decide, by decide⟩ (Nat.le_of_ble_eq_true rfl) dX10_unit_77 (fun r10 h10 hp10 => ?_) rfl
            obtain ⟨rfl, hMq5, hFaq5⟩ := hp10
            have hFq5 := FrP.t hFq4 hFaq5
            have hXq5 := PX.fr hX hFq5
            refine v_some ?_
            refine v_ifB_ne (tgt := 88) K dX10_unit_80 rfl (fun c16 => ?_) (fun c16 => ?_)
            · skip
              rw [tk_y c16] at hMq5
              refine v_aload_n K dX10_unit_88 rfl ?_
              refine v_dup K dX10_unit_89 rfl ?_
              refine v_geti (x := nI ((advP ((eitherP bt n (unitP bt n u 1)) (advP (openP s))).2).2.2)) K fX10_94 sh_118 pl_118 hMq5.1.2.2 dX10_unit_90 ?_
              refine v_iconstN K 1 rfl dX10_unit_93 ?_
              refine v_isubN K (by first | exact Nat.le_trans (Nat.succ_le_succ (Nat.zero_le _)) ho1 | (have := ho1; omega)) dX10_unit_94 ?_
              refine v_puti K pX10_94 sh_118 pl_118 dX10_unit_95 ?_
              have hMm8 : PM (u2 h10 118 9 (nI ((advP ((eitherP bt n (unitP bt n u 1)) (advP (openP s))).2).2.2 - 1))) n (closeP (advP ((eitherP bt n (unitP bt n u 1)) (advP (openP s))).2)) := hMq5.cls
              have hFm8 : FrP h (u2 h10 118 9 (nI ((advP ((eitherP bt n (unitP bt n u 1)) (advP (openP s))).2).2.2 - 1))) := FrP.u hFq5 (by omega)
              have hXm8 := PX.fr hX hFm8
              refine v_iload_n K dX10_unit_98 rfl ?_
              refine v_bipushN K 40 rfl dX10_unit_99 ?_
              refine v_icmp_ne (tgt := 108) K dX10_unit_101 rfl (fun c17 => ?_) (fun c17 => ?_)
              · skip
                exact absurd eo c17
              · skip
                refine v_iload_n K dX10_unit_104 rfl ?_
                refine v_goto (tgt := 117) K dX10_unit_105 rfl ?_
                refine v_iret K dX10_unit_117 ?_
                have e2 : (unitP bt n u 2) s = (((eitherP bt n (unitP bt n u 1)) (advP (openP s))).1, closeP (advP ((eitherP bt n (unitP bt n u 1)) (advP (openP s))).2)) := by rw [unit_e2, if_pos eo, if_pos c16]
                show (∃ v, _ ∧ (((unitP bt n u 2) s).2.2.1 = none → ∀ st, runL ((unitP bt n u 2) s).1 nm st = v :: st)) ∧ PM _ n ((unitP bt n u 2) s).2 ∧ _
                rw [e2]
                exact ⟨⟨_, rfl, fun q => hv1 q⟩, hMm8, hFm8⟩
            · skip
              rw [tk_n c16] at hMq5
              refine v_aload_n K dX10_unit_83 rfl ?_
              refine v_callV (As := []) K (c_X10_wrong h10 bt n B u nm (((eitherP bt n (unitP bt n u 1)) (advP (openP s))).2) hXq5 hMq5) lX10_97 ck_X10 rfl sh_118 pl_118 rfl ⟨by decide, by decide⟩ (Nat.le_of_ble_eq_true rfl) dX10_unit_84 (fun r11 h11 hp11 => ?_) rfl
              obtain ⟨rfl, hMq6, hFaq6⟩ := hp11
              have hFq6 := FrP.t hFq5 hFaq6
              have hXq6 := PX.fr hX hFq6
              refine v_some ?_
              refine v_iret K dX10_unit_87 ?_
              have e2 : (unitP bt n u 2) s = ([], wrongP ((eitherP bt n (unitP bt n u 1)) (advP (openP s))).2) := by rw [unit_e2, if_pos eo, if_neg c16]
              show (∃ v, _ ∧ (((unitP bt n u 2) s).2.2.1 = none → ∀ st, runL ((unitP bt n u 2) s).1 nm st = v :: st)) ∧ PM _ n ((unitP bt n u 2) s).2 ∧ _
              rw [e2]
              exact ⟨⟨_, rfl, fun q => absurd q wrong_some⟩, hMq6, hFq6⟩
      · skip
        exfalso; have := hO.2.2; omega

abbrev P_X10_product_2 (h : Mm) (bt : Nat → Int32) (n B u : Nat) (nm : Nat → Int32) (s : PSt) : Option Value → Mm → Prop := fun r h2 => (∃ v, r = some (.int v) ∧ (((prodP bt n (unitP bt n u 2)) s).2.2.1 = none → ∀ st, runL ((prodP bt n (unitP bt n u 2)) s).1 nm st = v :: st)) ∧ PM h2 n ((prodP bt n (unitP bt n u 2)) s).2 ∧ FrP h h2
theorem c_X10_product_2 {l : Launch} (h : Mm) (bt : Nat → Int32) (n B u : Nat) (nm : Nat → Int32) (s : PSt) (hX : PX h bt n B u nm) (hM : PM h n s) (hO : OKs n 2 s) : Con l yX10_product cX10_product 4 (some .int) 14 323 132 GL h [.ref 118] (P_X10_product_2 h bt n B u nm s) := by
  refine Con.ofV (own := "FoxRoundsModel") (nm := "product") rfl rfl (by decide) (Nat.le_of_ble_eq_true rfl) ?_
  intro κ ρ hkl K
  subst hkl
  show V κ (QM κ (132, ρ, GL, 0, 0) (P_X10_product_2 h bt n B u nm s)) 4 (132, ρ, GL, 0, 0) h 0 [(0, .ref 118)] []
  have hn50 := hX.2.2.2.2.2.1
  have hBn := hX.2.2.2.2.1
  have hsn := hM.2.1
  have hs5 := hM.2.2.1
  refine v_aload_n K dX10_product_0 rfl ?_
  refine v_callV (As := []) K (c_X10_unit_2 h bt n B u nm s hX hM hO) lX10_91 ck_X10 rfl sh_118 pl_118 rfl ⟨by decide, by decide⟩ (Nat.le_of_ble_eq_true rfl) dX10_product_1 (fun r1 h1 hp1 => ?_) rfl
  obtain ⟨⟨v1, rfl, hvq1⟩, hMq1, hFaq1⟩ := hp1
  have hFq1 := FrP.t (FrP.r (h := h)) hFaq1
  have hXq1 := PX.fr hX hFq1
  have hGq1 : GP n s ((unitP bt n u 2) s).2 := (unit_good (bt := bt) (n := n) (u := u) 2) _ hO
  refine v_some ?_
  refine v_istore_n (lv2 := [(1, .int v1), (0, .ref 118)]) K dX10_product_4 (by decide) rfl ?_
  have L5 : ∀ (mm : Nat) (f : Nat) (cs : List Int32) (t : PSt) (v : Int32) (h1 : Mm) (hG : GP n s t) (hM1 : PM h1 n t) (hF1 : FrP h h1) (hv : t.2.1 = none → ∀ st, runL cs nm st = v :: st) (he : (prodP bt n (unitP bt n u 2)) s = loopP bt n [nI 42, nI 47, nI 37] (unitP bt n u 2) f cs t) (hfu : n + 1 ≤ f + t.1), f < mm → V κ (QM κ (132, ρ, GL, 0, 0) (P_X10_product_2 h bt n B u nm s)) 4 (132, ρ, GL, 0, 0) h1 5 [(0, .ref 118), (1, .int v)] [] := by
    intro mm
    induction mm with
    | zero => intro f cs t v h1 hG hM1 hF1 hv he hfu hmm; exact absurd hmm (Nat.not_lt_zero _)
    | succ mm ih5 =>
      intro f cs t v h1 hG hM1 hF1 hv he hfu hmm
      have hX1 := PX.fr hX hF1
      have htn := hM1.2.1
      have ht5 := hM1.2.2.1
      obtain ⟨f, rfl⟩ : ∃ f0, f = f0 + 1 := ⟨f - 1, by omega⟩
      refine v_aload_n K dX10_product_5 rfl ?_
      refine v_callV (As := []) K (c_X10_here h1 bt n B u nm t hX1 hM1) lX10_68 ck_X10 rfl sh_118 pl_118 rfl ⟨by decide, by decide⟩ (Nat.le_of_ble_eq_true rfl) dX10_product_6 (fun r2 h2 hp2 => ?_) rfl
      obtain ⟨rfl, rfl⟩ := hp2
      refine v_some ?_
      refine v_bipushN K 42 rfl dX10_product_9 ?_
      refine v_icmp_eq (tgt := 32) K dX10_product_11 rfl (fun c1 => ?_) (fun c1 => ?_)
      · skip
        have eo : hereP bt n t = nI 42 := c1
        obtain ⟨hl0, hn0⟩ := hereP_lt eo (nI_m1 (by decide))
        have hG0 := hG
        refine v_aload_n K dX10_product_32 rfl ?_
        refine v_callV (As := []) K (c_X10_here h1 bt n B u nm t hX1 hM1) lX10_68 ck_X10 rfl sh_118 pl_118 rfl ⟨by decide, by decide⟩ (Nat.le_of_ble_eq_true rfl) dX10_product_33 (fun r3 h3 hp3 => ?_) rfl
        obtain ⟨rfl, rfl⟩ := hp3
        refine v_some ?_
        refine v_istore_n (lv2 := [(2, .int (hereP bt n t)), (0, .ref 118), (1, .int v)]) K dX10_product_36 (by decide) rfl ?_
        refine v_aload_n K dX10_product_37 rfl ?_
        refine v_dup K dX10_product_38 rfl ?_
        refine v_geti (x := nI t.1) K fX10_55 sh_118 pl_118 hM1.1.1 dX10_product_39 ?_
        refine v_iconstN K 1 rfl dX10_product_42 ?_
        refine v_iaddN K dX10_product_43 ?_
        refine v_puti K pX10_55 sh_118 pl_118 dX10_product_44 ?_
        have hMm1 : PM (u2 h1 118 6 (nI (t.1 + 1))) n (advP t) := hM1.adv hl0
        have hFm1 : FrP h (u2 h1 118 6 (nI (t.1 + 1))) := FrP.u hF1 (by omega)
        have hXm1 := PX.fr hX hFm1
        refine v_aload_n K dX10_product_47 rfl ?_
        refine v_callV (As := []) K (c_X10_unit_2 ((u2 h1 118 6 (nI (t.1 + 1)))) bt n B u nm ((advP t)) hXm1 hMm1 ((hO.on hG0 hn0).adv hl0)) lX10_91 ck_X10 rfl sh_118 pl_118 rfl ⟨by decide, by decide⟩ (Nat.le_of_ble_eq_true rfl) dX10_product_48 (fun r4 h4 hp4 => ?_) rfl
        obtain ⟨⟨v2, rfl, hvq2⟩, hMq2, hFaq2⟩ := hp4
        have hFq2 := FrP.t hFm1 hFaq2
        have hXq2 := PX.fr hX hFq2
        have hGq2 : GP n (advP t) ((unitP bt n u 2) (advP t)).2 := (unit_good (bt := bt) (n := n) (u := u) 2) _ ((hO.on hG0 hn0).adv hl0)
        refine v_some ?_
        refine v_istore_n (lv2 := [(3, .int v2), (2, .int (hereP bt n t)), (0, .ref 118), (1, .int v)]) K dX10_product_51 (by decide) rfl ?_
        refine v_iload_n K dX10_product_52 rfl ?_
        refine v_bipushN K 42 rfl dX10_product_53 ?_
        refine v_icmp_ne (tgt := 64) K dX10_product_55 rfl (fun c2 => ?_) (fun c2 => ?_)
        · skip
          exact absurd eo c2
        · skip
          refine v_iload_n K dX10_product_58 rfl ?_
          refine v_iload_n K dX10_product_59 rfl ?_
          refine v_imul K dX10_product_60 ?_
          refine v_goto (tgt := 87) K dX10_product_61 rfl ?_
          refine v_top (y := joinR (nI 42) v v2) (by rw [j42]) ?_
          refine v_istore_n (lv2 := [(1, .int (joinR (nI 42) v v2)), (3, .int v2), (2, .int (hereP bt n t)), (0, .ref 118)]) K dX10_product_87 (by decide) rfl ?_
          refine v_goto (tgt := 5) K dX10_product_88 rfl ?_
          refine v_sub (lv2 := [(0, .ref 118), (1, .int (joinR (nI 42) v v2))]) (by simp) ?_
          exact ih5 f ((cs ++ ((unitP bt n u 2) (advP t)).1 ++ [-hereP bt n t])) (((unitP bt n u 2) (advP t)).2) (joinR (nI 42) v v2) h4 (by exact hG0.tr hn0 ((GP.adv (hO.on hG0 hn0) hl0).tr hn0 hGq2)) (by exact hMq2) (by exact hFq2) (by intro hn2; rw [eo]; exact val_on (by decide) (hv hn0) (hvq2 hn2) rfl) (by rw [he, loop_on (by rw [eo]; decide)]) (by have h1 : (advP t).1 = t.1 + 1 := rfl; have h2 := hGq2.1; omega) (by omega)
      · skip
        refine v_aload_n K dX10_product_14 rfl ?_
        refine v_callV (As := []) K (c_X10_here h1 bt n B u nm t hX1 hM1) lX10_68 ck_X10 rfl sh_118 pl_118 rfl ⟨by decide, by decide⟩ (Nat.le_of_ble_eq_true rfl) dX10_product_15 (fun r5 h5 hp5 => ?_) rfl
        obtain ⟨rfl, rfl⟩ := hp5
        refine v_some ?_
        refine v_bipushN K 47 rfl dX10_product_18 ?_
        refine v_icmp_eq (tgt := 32) K dX10_product_20 rfl (fun c3 => ?_) (fun c3 => ?_)
        · skip
          have eo : hereP bt n t = nI 47 := c3
          obtain ⟨hl0, hn0⟩ := hereP_lt eo (nI_m1 (by decide))
          have hG0 := hG
          refine v_aload_n K dX10_product_32 rfl ?_
          refine v_callV (As := []) K (c_X10_here h1 bt n B u nm t hX1 hM1) lX10_68 ck_X10 rfl sh_118 pl_118 rfl ⟨by decide, by decide⟩ (Nat.le_of_ble_eq_true rfl) dX10_product_33 (fun r6 h6 hp6 => ?_) rfl
          obtain ⟨rfl, rfl⟩ := hp6
          refine v_some ?_
          refine v_istore_n (lv2 := [(2, .int (hereP bt n t)), (0, .ref 118), (1, .int v)]) K dX10_product_36 (by decide) rfl ?_
          refine v_aload_n K dX10_product_37 rfl ?_
          refine v_dup K dX10_product_38 rfl ?_
          refine v_geti (x := nI t.1) K fX10_55 sh_118 pl_118 hM1.1.1 dX10_product_39 ?_
          refine v_iconstN K 1 rfl dX10_product_42 ?_
          refine v_iaddN K dX10_product_43 ?_
          refine v_puti K pX10_55 sh_118 pl_118 dX10_product_44 ?_
          have hMm2 : PM (u2 h1 118 6 (nI (t.1 + 1))) n (advP t) := hM1.adv hl0
          have hFm2 : FrP h (u2 h1 118 6 (nI (t.1 + 1))) := FrP.u hF1 (by omega)
          have hXm2 := PX.fr hX hFm2
          refine v_aload_n K dX10_product_47 rfl ?_
          refine v_callV (As := []) K (c_X10_unit_2 ((u2 h1 118 6 (nI (t.1 + 1)))) bt n B u nm ((advP t)) hXm2 hMm2 ((hO.on hG0 hn0).adv hl0)) lX10_91 ck_X10 rfl sh_118 pl_118 rfl ⟨by decide, by decide⟩ (Nat.le_of_ble_eq_true rfl) dX10_product_48 (fun r7 h7 hp7 => ?_) rfl
          obtain ⟨⟨v3, rfl, hvq3⟩, hMq3, hFaq3⟩ := hp7
          have hFq3 := FrP.t hFm2 hFaq3
          have hXq3 := PX.fr hX hFq3
          have hGq3 : GP n (advP t) ((unitP bt n u 2) (advP t)).2 := (unit_good (bt := bt) (n := n) (u := u) 2) _ ((hO.on hG0 hn0).adv hl0)
          refine v_some ?_
          refine v_istore_n (lv2 := [(3, .int v3), (2, .int (hereP bt n t)), (0, .ref 118), (1, .int v)]) K dX10_product_51 (by decide) rfl ?_
          refine v_iload_n K dX10_product_52 rfl ?_
          refine v_bipushN K 42 rfl dX10_product_53 ?_
          refine v_icmp_ne (tgt := 64) K dX10_product_55 rfl (fun c4 => ?_) (fun c4 => ?_)
          · skip
            refine v_iload_n K dX10_product_64 rfl ?_
            refine v_if_ne (tgt := 72) K dX10_product_65 rfl (fun c5 => ?_) (fun c5 => ?_)
            · skip
              refine v_iload_n K dX10_product_72 rfl ?_
              refine v_bipushN K 47 rfl dX10_product_73 ?_
              refine v_icmp_ne (tgt := 84) K dX10_product_75 rfl (fun c6 => ?_) (fun c6 => ?_)
              · skip
                exact absurd eo c6
              · skip
                refine v_iload_n K dX10_product_78 rfl ?_
                refine v_iload_n K dX10_product_79 rfl ?_
                refine v_idiv K dX10_product_80 (by assumption) ?_
                refine v_goto (tgt := 87) K dX10_product_81 rfl ?_
                refine v_top (y := joinR (nI 47) v v3) (by rw [j47, if_neg c5]) ?_
                refine v_istore_n (lv2 := [(1, .int (joinR (nI 47) v v3)), (3, .int v3), (2, .int (hereP bt n t)), (0, .ref 118)]) K dX10_product_87 (by decide) rfl ?_
                refine v_goto (tgt := 5) K dX10_product_88 rfl ?_
                refine v_sub (lv2 := [(0, .ref 118), (1, .int (joinR (nI 47) v v3))]) (by simp) ?_
                exact ih5 f ((cs ++ ((unitP bt n u 2) (advP t)).1 ++ [-hereP bt n t])) (((unitP bt n u 2) (advP t)).2) (joinR (nI 47) v v3) h7 (by exact hG0.tr hn0 ((GP.adv (hO.on hG0 hn0) hl0).tr hn0 hGq3)) (by exact hMq3) (by exact hFq3) (by intro hn2; rw [eo]; exact val_on (by decide) (hv hn0) (hvq3 hn2) rfl) (by rw [he, loop_on (by rw [eo]; decide)]) (by have h1 : (advP t).1 = t.1 + 1 := rfl; have h2 := hGq3.1; omega) (by omega)
            · skip
              refine v_iconstN K 0 rfl dX10_product_68 ?_
              refine v_goto (tgt := 87) K dX10_product_69 rfl ?_
              refine v_top (y := joinR (nI 47) v v3) (by rw [j47, if_pos c5]) ?_
              refine v_istore_n (lv2 := [(1, .int (joinR (nI 47) v v3)), (3, .int v3), (2, .int (hereP bt n t)), (0, .ref 118)]) K dX10_product_87 (by decide) rfl ?_
              refine v_goto (tgt := 5) K dX10_product_88 rfl ?_
              refine v_sub (lv2 := [(0, .ref 118), (1, .int (joinR (nI 47) v v3))]) (by simp) ?_
              exact ih5 f ((cs ++ ((unitP bt n u 2) (advP t)).1 ++ [-hereP bt n t])) (((unitP bt n u 2) (advP t)).2) (joinR (nI 47) v v3) h7 (by exact hG0.tr hn0 ((GP.adv (hO.on hG0 hn0) hl0).tr hn0 hGq3)) (by exact hMq3) (by exact hFq3) (by intro hn2; rw [eo]; exact val_on (by decide) (hv hn0) (hvq3 hn2) rfl) (by rw [he, loop_on (by rw [eo]; decide)]) (by have h1 : (advP t).1 = t.1 + 1 := rfl; have h2 := hGq3.1; omega) (by omega)
          · skip
            exact absurd (c4.symm.trans eo) (by decide)
        · skip
          refine v_aload_n K dX10_product_23 rfl ?_
          refine v_callV (As := []) K (c_X10_here h1 bt n B u nm t hX1 hM1) lX10_68 ck_X10 rfl sh_118 pl_118 rfl ⟨by decide, by decide⟩ (Nat.le_of_ble_eq_true rfl) dX10_product_24 (fun r8 h8 hp8 => ?_) rfl
          obtain ⟨rfl, rfl⟩ := hp8
          refine v_some ?_
          refine v_bipushN K 37 rfl dX10_product_27 ?_
          refine v_icmp_ne (tgt := 91) K dX10_product_29 rfl (fun c7 => ?_) (fun c7 => ?_)
          · skip
            refine v_iload_n K dX10_product_91 rfl ?_
            refine v_iret K dX10_product_92 ?_
            have e2 : (prodP bt n (unitP bt n u 2)) s = (cs, t) := by rw [he, loop_off (by simp only [List.mem_cons, List.not_mem_nil, or_false, not_or]; exact ⟨c1, c3, c7⟩)]
            show (∃ v, _ ∧ (((prodP bt n (unitP bt n u 2)) s).2.2.1 = none → ∀ st, runL ((prodP bt n (unitP bt n u 2)) s).1 nm st = v :: st)) ∧ PM _ n ((prodP bt n (unitP bt n u 2)) s).2 ∧ _
            rw [e2]
            exact ⟨⟨v, rfl, hv⟩, hM1, hF1⟩
          · skip
            have eo : hereP bt n t = nI 37 := c7
            obtain ⟨hl0, hn0⟩ := hereP_lt eo (nI_m1 (by decide))
            have hG0 := hG
            refine v_aload_n K dX10_product_32 rfl ?_
            refine v_callV (As := []) K (c_X10_here h1 bt n B u nm t hX1 hM1) lX10_68 ck_X10 rfl sh_118 pl_118 rfl ⟨by decide, by decide⟩ (Nat.le_of_ble_eq_true rfl) dX10_product_33 (fun r9 h9 hp9 => ?_) rfl
            obtain ⟨rfl, rfl⟩ := hp9
            refine v_some ?_
            refine v_istore_n (lv2 := [(2, .int (hereP bt n t)), (0, .ref 118), (1, .int v)]) K dX10_product_36 (by decide) rfl ?_
            refine v_aload_n K dX10_product_37 rfl ?_
            refine v_dup K dX10_product_38 rfl ?_
            refine v_geti (x := nI t.1) K fX10_55 sh_118 pl_118 hM1.1.1 dX10_product_39 ?_
            refine v_iconstN K 1 rfl dX10_product_42 ?_
            refine v_iaddN K dX10_product_43 ?_
            refine v_puti K pX10_55 sh_118 pl_118 dX10_product_44 ?_
            have hMm3 : PM (u2 h1 118 6 (nI (t.1 + 1))) n (advP t) := hM1.adv hl0
            have hFm3 : FrP h (u2 h1 118 6 (nI (t.1 + 1))) := FrP.u hF1 (by omega)
            have hXm3 := PX.fr hX hFm3
            refine v_aload_n K dX10_product_47 rfl ?_
            refine v_callV (As := []) K (c_X10_unit_2 ((u2 h1 118 6 (nI (t.1 + 1)))) bt n B u nm ((advP t)) hXm3 hMm3 ((hO.on hG0 hn0).adv hl0)) lX10_91 ck_X10 rfl sh_118 pl_118 rfl ⟨by decide, by decide⟩ (Nat.le_of_ble_eq_true rfl) dX10_product_48 (fun r10 h10 hp10 => ?_) rfl
            obtain ⟨⟨v4, rfl, hvq4⟩, hMq4, hFaq4⟩ := hp10
            have hFq4 := FrP.t hFm3 hFaq4
            have hXq4 := PX.fr hX hFq4
            have hGq4 : GP n (advP t) ((unitP bt n u 2) (advP t)).2 := (unit_good (bt := bt) (n := n) (u := u) 2) _ ((hO.on hG0 hn0).adv hl0)
            refine v_some ?_
            refine v_istore_n (lv2 := [(3, .int v4), (2, .int (hereP bt n t)), (0, .ref 118), (1, .int v)]) K dX10_product_51 (by decide) rfl ?_
            refine v_iload_n K dX10_product_52 rfl ?_
            refine v_bipushN K 42 rfl dX10_product_53 ?_
            refine v_icmp_ne (tgt := 64) K dX10_product_55 rfl (fun c8 => ?_) (fun c8 => ?_)
            · skip
              refine v_iload_n K dX10_product_64 rfl ?_
              refine v_if_ne (tgt := 72) K dX10_product_65 rfl (fun c9 => ?_) (fun c9 => ?_)
              · skip
                refine v_iload_n K dX10_product_72 rfl ?_
                refine v_bipushN K 47 rfl dX10_product_73 ?_
                refine v_icmp_ne (tgt := 84) K dX10_product_75 rfl (fun c10 => ?_) (fun c10 => ?_)
                · skip
                  refine v_iload_n K dX10_product_84 rfl ?_
                  refine v_iload_n K dX10_product_85 rfl ?_
                  refine v_irem K dX10_product_86 (by assumption) ?_
                  refine v_top (y := joinR (nI 37) v v4) (by rw [j37, if_neg c9]) ?_
                  refine v_istore_n (lv2 := [(1, .int (joinR (nI 37) v v4)), (3, .int v4), (2, .int (hereP bt n t)), (0, .ref 118)]) K dX10_product_87 (by decide) rfl ?_
                  refine v_goto (tgt := 5) K dX10_product_88 rfl ?_
                  refine v_sub (lv2 := [(0, .ref 118), (1, .int (joinR (nI 37) v v4))]) (by simp) ?_
                  exact ih5 f ((cs ++ ((unitP bt n u 2) (advP t)).1 ++ [-hereP bt n t])) (((unitP bt n u 2) (advP t)).2) (joinR (nI 37) v v4) h10 (by exact hG0.tr hn0 ((GP.adv (hO.on hG0 hn0) hl0).tr hn0 hGq4)) (by exact hMq4) (by exact hFq4) (by intro hn2; rw [eo]; exact val_on (by decide) (hv hn0) (hvq4 hn2) rfl) (by rw [he, loop_on (by rw [eo]; decide)]) (by have h1 : (advP t).1 = t.1 + 1 := rfl; have h2 := hGq4.1; omega) (by omega)
                · skip
                  exact absurd (c10.symm.trans eo) (by decide)
              · skip
                refine v_iconstN K 0 rfl dX10_product_68 ?_
                refine v_goto (tgt := 87) K dX10_product_69 rfl ?_
                refine v_top (y := joinR (nI 37) v v4) (by rw [j37, if_pos c9]) ?_
                refine v_istore_n (lv2 := [(1, .int (joinR (nI 37) v v4)), (3, .int v4), (2, .int (hereP bt n t)), (0, .ref 118)]) K dX10_product_87 (by decide) rfl ?_
                refine v_goto (tgt := 5) K dX10_product_88 rfl ?_
                refine v_sub (lv2 := [(0, .ref 118), (1, .int (joinR (nI 37) v v4))]) (by simp) ?_
                exact ih5 f ((cs ++ ((unitP bt n u 2) (advP t)).1 ++ [-hereP bt n t])) (((unitP bt n u 2) (advP t)).2) (joinR (nI 37) v v4) h10 (by exact hG0.tr hn0 ((GP.adv (hO.on hG0 hn0) hl0).tr hn0 hGq4)) (by exact hMq4) (by exact hFq4) (by intro hn2; rw [eo]; exact val_on (by decide) (hv hn0) (hvq4 hn2) rfl) (by rw [he, loop_on (by rw [eo]; decide)]) (by have h1 : (advP t).1 = t.1 + 1 := rfl; have h2 := hGq4.1; omega) (by omega)
            · skip
              exact absurd (c8.symm.trans eo) (by decide)
  refine v_sub (lv2 := [(0, .ref 118), (1, .int v1)]) (by simp) ?_
  exact L5 (52 + 1) 52 (((unitP bt n u 2) s).1) (((unitP bt n u 2) s).2) v1 h1 (by exact hGq1) (by exact hMq1) (by exact hFq1) (by exact hvq1) (by rfl) (by omega) (Nat.lt_succ_self _)

abbrev P_X10_sum_2 (h : Mm) (bt : Nat → Int32) (n B u : Nat) (nm : Nat → Int32) (s : PSt) : Option Value → Mm → Prop := fun r h2 => (∃ v, r = some (.int v) ∧ (((sumP bt n (unitP bt n u 2)) s).2.2.1 = none → ∀ st, runL ((sumP bt n (unitP bt n u 2)) s).1 nm st = v :: st)) ∧ PM h2 n ((sumP bt n (unitP bt n u 2)) s).2 ∧ FrP h h2
theorem c_X10_sum_2 {l : Launch} (h : Mm) (bt : Nat → Int32) (n B u : Nat) (nm : Nat → Int32) (s : PSt) (hX : PX h bt n B u nm) (hM : PM h n s) (hO : OKs n 2 s) : Con l yX10_sum cX10_sum 4 (some .int) 15 346 132 GL h [.ref 118] (P_X10_sum_2 h bt n B u nm s) := by
  refine Con.ofV (own := "FoxRoundsModel") (nm := "sum") rfl rfl (by decide) (Nat.le_of_ble_eq_true rfl) ?_
  intro κ ρ hkl K
  subst hkl
  show V κ (QM κ (132, ρ, GL, 0, 0) (P_X10_sum_2 h bt n B u nm s)) 4 (132, ρ, GL, 0, 0) h 0 [(0, .ref 118)] []
  have hn50 := hX.2.2.2.2.2.1
  have hBn := hX.2.2.2.2.1
  have hsn := hM.2.1
  have hs5 := hM.2.2.1
  refine v_aload_n K dX10_sum_0 rfl ?_
  refine v_callV (As := []) K (c_X10_product_2 h bt n B u nm s hX hM hO) lX10_88 ck_X10 rfl sh_118 pl_118 rfl ⟨by decide, by decide⟩ (Nat.le_of_ble_eq_true rfl) dX10_sum_1 (fun r1 h1 hp1 => ?_) rfl
  obtain ⟨⟨v1, rfl, hvq1⟩, hMq1, hFaq1⟩ := hp1
  have hFq1 := FrP.t (FrP.r (h := h)) hFaq1
  have hXq1 := PX.fr hX hFq1
  have hGq1 : GP n s ((prodP bt n (unitP bt n u 2)) s).2 := (row_good (unit_good (bt := bt) (n := n) (u := u) 2) (by decide)) _ hO
  refine v_some ?_
  refine v_istore_n (lv2 := [(1, .int v1), (0, .ref 118)]) K dX10_sum_4 (by decide) rfl ?_
  have L5 : ∀ (mm : Nat) (f : Nat) (cs : List Int32) (t : PSt) (v : Int32) (h1 : Mm) (hG : GP n s t) (hM1 : PM h1 n t) (hF1 : FrP h h1) (hv : t.2.1 = none → ∀ st, runL cs nm st = v :: st) (he : (sumP bt n (unitP bt n u 2)) s = loopP bt n [nI 43, nI 45] (prodP bt n (unitP bt n u 2)) f cs t) (hfu : n + 1 ≤ f + t.1), f < mm → V κ (QM κ (132, ρ, GL, 0, 0) (P_X10_sum_2 h bt n B u nm s)) 4 (132, ρ, GL, 0, 0) h1 5 [(0, .ref 118), (1, .int v)] [] := by
    intro mm
    induction mm with
    | zero => intro f cs t v h1 hG hM1 hF1 hv he hfu hmm; exact absurd hmm (Nat.not_lt_zero _)
    | succ mm ih5 =>
      intro f cs t v h1 hG hM1 hF1 hv he hfu hmm
      have hX1 := PX.fr hX hF1
      have htn := hM1.2.1
      have ht5 := hM1.2.2.1
      obtain ⟨f, rfl⟩ : ∃ f0, f = f0 + 1 := ⟨f - 1, by omega⟩
      refine v_aload_n K dX10_sum_5 rfl ?_
      refine v_callV (As := []) K (c_X10_here h1 bt n B u nm t hX1 hM1) lX10_68 ck_X10 rfl sh_118 pl_118 rfl ⟨by decide, by decide⟩ (Nat.le_of_ble_eq_true rfl) dX10_sum_6 (fun r2 h2 hp2 => ?_) rfl
      obtain ⟨rfl, rfl⟩ := hp2
      refine v_some ?_
      refine v_bipushN K 43 rfl dX10_sum_9 ?_
      refine v_icmp_eq (tgt := 23) K dX10_sum_11 rfl (fun c1 => ?_) (fun c1 => ?_)
      · skip
        have eo : hereP bt n t = nI 43 := c1
        obtain ⟨hl0, hn0⟩ := hereP_lt eo (nI_m1 (by decide))
        have hG0 := hG
        refine v_aload_n K dX10_sum_23 rfl ?_
        refine v_callV (As := []) K (c_X10_here h1 bt n B u nm t hX1 hM1) lX10_68 ck_X10 rfl sh_118 pl_118 rfl ⟨by decide, by decide⟩ (Nat.le_of_ble_eq_true rfl) dX10_sum_24 (fun r3 h3 hp3 => ?_) rfl
        obtain ⟨rfl, rfl⟩ := hp3
        refine v_some ?_
        refine v_istore_n (lv2 := [(2, .int (hereP bt n t)), (0, .ref 118), (1, .int v)]) K dX10_sum_27 (by decide) rfl ?_
        refine v_aload_n K dX10_sum_28 rfl ?_
        refine v_dup K dX10_sum_29 rfl ?_
        refine v_geti (x := nI t.1) K fX10_55 sh_118 pl_118 hM1.1.1 dX10_sum_30 ?_
        refine v_iconstN K 1 rfl dX10_sum_33 ?_
        refine v_iaddN K dX10_sum_34 ?_
        refine v_puti K pX10_55 sh_118 pl_118 dX10_sum_35 ?_
        have hMm1 : PM (u2 h1 118 6 (nI (t.1 + 1))) n (advP t) := hM1.adv hl0
        have hFm1 : FrP h (u2 h1 118 6 (nI (t.1 + 1))) := FrP.u hF1 (by omega)
        have hXm1 := PX.fr hX hFm1
        refine v_aload_n K dX10_sum_38 rfl ?_
        refine v_callV (As := []) K (c_X10_product_2 ((u2 h1 118 6 (nI (t.1 + 1)))) bt n B u nm ((advP t)) hXm1 hMm1 ((hO.on hG0 hn0).adv hl0)) lX10_88 ck_X10 rfl sh_118 pl_118 rfl ⟨by decide, by decide⟩ (Nat.le_of_ble_eq_true rfl) dX10_sum_39 (fun r4 h4 hp4 => ?_) rfl
        obtain ⟨⟨v2, rfl, hvq2⟩, hMq2, hFaq2⟩ := hp4
        have hFq2 := FrP.t hFm1 hFaq2
        have hXq2 := PX.fr hX hFq2
        have hGq2 : GP n (advP t) ((prodP bt n (unitP bt n u 2)) (advP t)).2 := (row_good (unit_good (bt := bt) (n := n) (u := u) 2) (by decide)) _ ((hO.on hG0 hn0).adv hl0)
        refine v_some ?_
        refine v_istore_n (lv2 := [(3, .int v2), (2, .int (hereP bt n t)), (0, .ref 118), (1, .int v)]) K dX10_sum_42 (by decide) rfl ?_
        refine v_iload_n K dX10_sum_43 rfl ?_
        refine v_bipushN K 43 rfl dX10_sum_44 ?_
        refine v_icmp_ne (tgt := 55) K dX10_sum_46 rfl (fun c2 => ?_) (fun c2 => ?_)
        · skip
          exact absurd eo c2
        · skip
          refine v_iload_n K dX10_sum_49 rfl ?_
          refine v_iload_n K dX10_sum_50 rfl ?_
          refine v_iadd K dX10_sum_51 ?_
          refine v_goto (tgt := 58) K dX10_sum_52 rfl ?_
          refine v_top (y := joinR (nI 43) v v2) (by rw [j43]) ?_
          refine v_istore_n (lv2 := [(1, .int (joinR (nI 43) v v2)), (3, .int v2), (2, .int (hereP bt n t)), (0, .ref 118)]) K dX10_sum_58 (by decide) rfl ?_
          refine v_goto (tgt := 5) K dX10_sum_59 rfl ?_
          refine v_sub (lv2 := [(0, .ref 118), (1, .int (joinR (nI 43) v v2))]) (by simp) ?_
          exact ih5 f ((cs ++ ((prodP bt n (unitP bt n u 2)) (advP t)).1 ++ [-hereP bt n t])) (((prodP bt n (unitP bt n u 2)) (advP t)).2) (joinR (nI 43) v v2) h4 (by exact hG0.tr hn0 ((GP.adv (hO.on hG0 hn0) hl0).tr hn0 hGq2)) (by exact hMq2) (by exact hFq2) (by intro hn2; rw [eo]; exact val_on (by decide) (hv hn0) (hvq2 hn2) rfl) (by rw [he, loop_on (by rw [eo]; decide)]) (by have h1 : (advP t).1 = t.1 + 1 := rfl; have h2 := hGq2.1; omega) (by omega)
      · skip
        refine v_aload_n K dX10_sum_14 rfl ?_
        refine v_callV (As := []) K (c_X10_here h1 bt n B u nm t hX1 hM1) lX10_68 ck_X10 rfl sh_118 pl_118 rfl ⟨by decide, by decide⟩ (Nat.le_of_ble_eq_true rfl) dX10_sum_15 (fun r5 h5 hp5 => ?_) rfl
        obtain ⟨rfl, rfl⟩ := hp5
        refine v_some ?_
        refine v_bipushN K 45 rfl dX10_sum_18 ?_
        refine v_icmp_ne (tgt := 62) K dX10_sum_20 rfl (fun c3 => ?_) (fun c3 => ?_)
        · skip
          refine v_iload_n K dX10_sum_62 rfl ?_
          refine v_iret K dX10_sum_63 ?_
          have e2 : (sumP bt n (unitP bt n u 2)) s = (cs, t) := by rw [he, loop_off (by simp only [List.mem_cons, List.not_mem_nil, or_false, not_or]; exact ⟨c1, c3⟩)]
          show (∃ v, _ ∧ (((sumP bt n (unitP bt n u 2)) s).2.2.1 = none → ∀ st, runL ((sumP bt n (unitP bt n u 2)) s).1 nm st = v :: st)) ∧ PM _ n ((sumP bt n (unitP bt n u 2)) s).2 ∧ _
          rw [e2]
          exact ⟨⟨v, rfl, hv⟩, hM1, hF1⟩
        · skip
          have eo : hereP bt n t = nI 45 := c3
          obtain ⟨hl0, hn0⟩ := hereP_lt eo (nI_m1 (by decide))
          have hG0 := hG
          refine v_aload_n K dX10_sum_23 rfl ?_
          refine v_callV (As := []) K (c_X10_here h1 bt n B u nm t hX1 hM1) lX10_68 ck_X10 rfl sh_118 pl_118 rfl ⟨by decide, by decide⟩ (Nat.le_of_ble_eq_true rfl) dX10_sum_24 (fun r6 h6 hp6 => ?_) rfl
          obtain ⟨rfl, rfl⟩ := hp6
          refine v_some ?_
          refine v_istore_n (lv2 := [(2, .int (hereP bt n t)), (0, .ref 118), (1, .int v)]) K dX10_sum_27 (by decide) rfl ?_
          refine v_aload_n K dX10_sum_28 rfl ?_
          refine v_dup K dX10_sum_29 rfl ?_
          refine v_geti (x := nI t.1) K fX10_55 sh_118 pl_118 hM1.1.1 dX10_sum_30 ?_
          refine v_iconstN K 1 rfl dX10_sum_33 ?_
          refine v_iaddN K dX10_sum_34 ?_
          refine v_puti K pX10_55 sh_118 pl_118 dX10_sum_35 ?_
          have hMm2 : PM (u2 h1 118 6 (nI (t.1 + 1))) n (advP t) := hM1.adv hl0
          have hFm2 : FrP h (u2 h1 118 6 (nI (t.1 + 1))) := FrP.u hF1 (by omega)
          have hXm2 := PX.fr hX hFm2
          refine v_aload_n K dX10_sum_38 rfl ?_
          refine v_callV (As := []) K (c_X10_product_2 ((u2 h1 118 6 (nI (t.1 + 1)))) bt n B u nm ((advP t)) hXm2 hMm2 ((hO.on hG0 hn0).adv hl0)) lX10_88 ck_X10 rfl sh_118 pl_118 rfl ⟨by decide, by decide⟩ (Nat.le_of_ble_eq_true rfl) dX10_sum_39 (fun r7 h7 hp7 => ?_) rfl
          obtain ⟨⟨v3, rfl, hvq3⟩, hMq3, hFaq3⟩ := hp7
          have hFq3 := FrP.t hFm2 hFaq3
          have hXq3 := PX.fr hX hFq3
          have hGq3 : GP n (advP t) ((prodP bt n (unitP bt n u 2)) (advP t)).2 := (row_good (unit_good (bt := bt) (n := n) (u := u) 2) (by decide)) _ ((hO.on hG0 hn0).adv hl0)
          refine v_some ?_
          refine v_istore_n (lv2 := [(3, .int v3), (2, .int (hereP bt n t)), (0, .ref 118), (1, .int v)]) K dX10_sum_42 (by decide) rfl ?_
          refine v_iload_n K dX10_sum_43 rfl ?_
          refine v_bipushN K 43 rfl dX10_sum_44 ?_
          refine v_icmp_ne (tgt := 55) K dX10_sum_46 rfl (fun c4 => ?_) (fun c4 => ?_)
          · skip
            refine v_iload_n K dX10_sum_55 rfl ?_
            refine v_iload_n K dX10_sum_56 rfl ?_
            refine v_isub K dX10_sum_57 ?_
            refine v_top (y := joinR (nI 45) v v3) (by rw [j45]) ?_
            refine v_istore_n (lv2 := [(1, .int (joinR (nI 45) v v3)), (3, .int v3), (2, .int (hereP bt n t)), (0, .ref 118)]) K dX10_sum_58 (by decide) rfl ?_
            refine v_goto (tgt := 5) K dX10_sum_59 rfl ?_
            refine v_sub (lv2 := [(0, .ref 118), (1, .int (joinR (nI 45) v v3))]) (by simp) ?_
            exact ih5 f ((cs ++ ((prodP bt n (unitP bt n u 2)) (advP t)).1 ++ [-hereP bt n t])) (((prodP bt n (unitP bt n u 2)) (advP t)).2) (joinR (nI 45) v v3) h7 (by exact hG0.tr hn0 ((GP.adv (hO.on hG0 hn0) hl0).tr hn0 hGq3)) (by exact hMq3) (by exact hFq3) (by intro hn2; rw [eo]; exact val_on (by decide) (hv hn0) (hvq3 hn2) rfl) (by rw [he, loop_on (by rw [eo]; decide)]) (by have h1 : (advP t).1 = t.1 + 1 := rfl; have h2 := hGq3.1; omega) (by omega)
          · skip
            exact absurd (c4.symm.trans eo) (by decide)
  refine v_sub (lv2 := [(0, .ref 118), (1, .int v1)]) (by simp) ?_
  exact L5 (52 + 1) 52 (((prodP bt n (unitP bt n u 2)) s).1) (((prodP bt n (unitP bt n u 2)) s).2) v1 h1 (by exact hGq1) (by exact hMq1) (by exact hFq1) (by exact hvq1) (by rfl) (by omega) (Nat.lt_succ_self _)

abbrev P_X10_compared_2 (h : Mm) (bt : Nat → Int32) (n B u : Nat) (nm : Nat → Int32) (s : PSt) : Option Value → Mm → Prop := fun r h2 => (∃ v, r = some (.int v) ∧ (((cmpP bt n (sumP bt n (unitP bt n u 2))) s).2.2.1 = none → ∀ st, runL ((cmpP bt n (sumP bt n (unitP bt n u 2))) s).1 nm st = v :: st)) ∧ PM h2 n ((cmpP bt n (sumP bt n (unitP bt n u 2))) s).2 ∧ FrP h h2
theorem c_X10_compared_2 {l : Launch} (h : Mm) (bt : Nat → Int32) (n B u : Nat) (nm : Nat → Int32) (s : PSt) (hX : PX h bt n B u nm) (hM : PM h n s) (hO : OKs n 2 s) : Con l yX10_compared cX10_compared 4 (some .int) 16 369 132 GL h [.ref 118] (P_X10_compared_2 h bt n B u nm s) := by
  refine Con.ofV (own := "FoxRoundsModel") (nm := "compared") rfl rfl (by decide) (Nat.le_of_ble_eq_true rfl) ?_
  intro κ ρ hkl K
  subst hkl
  show V κ (QM κ (132, ρ, GL, 0, 0) (P_X10_compared_2 h bt n B u nm s)) 4 (132, ρ, GL, 0, 0) h 0 [(0, .ref 118)] []
  have hn50 := hX.2.2.2.2.2.1
  have hBn := hX.2.2.2.2.1
  have hsn := hM.2.1
  have hs5 := hM.2.2.1
  refine v_aload_n K dX10_compared_0 rfl ?_
  refine v_callV (As := []) K (c_X10_sum_2 h bt n B u nm s hX hM hO) lX10_85 ck_X10 rfl sh_118 pl_118 rfl ⟨by decide, by decide⟩ (Nat.le_of_ble_eq_true rfl) dX10_compared_1 (fun r1 h1 hp1 => ?_) rfl
  obtain ⟨⟨v1, rfl, hvq1⟩, hMq1, hFaq1⟩ := hp1
  have hFq1 := FrP.t (FrP.r (h := h)) hFaq1
  have hXq1 := PX.fr hX hFq1
  have hGq1 : GP n s ((sumP bt n (unitP bt n u 2)) s).2 := (row_good (row_good (unit_good (bt := bt) (n := n) (u := u) 2) (by decide)) (by decide)) _ hO
  refine v_some ?_
  have hG1 := hGq1
  have hv1 := hvq1
  refine v_istore_n (lv2 := [(1, .int v1), (0, .ref 118)]) K dX10_compared_4 (by decide) rfl ?_
  refine v_aload_n K dX10_compared_5 rfl ?_
  refine v_callV (As := []) K (c_X10_here h1 bt n B u nm (((sumP bt n (unitP bt n u 2)) s).2) hXq1 hMq1) lX10_68 ck_X10 rfl sh_118 pl_118 rfl ⟨by decide, by decide⟩ (Nat.le_of_ble_eq_true rfl) dX10_compared_6 (fun r2 h2 hp2 => ?_) rfl
  obtain ⟨rfl, rfl⟩ := hp2
  refine v_some ?_
  refine v_istore_n (lv2 := [(2, .int (hereP bt n ((sumP bt n (unitP bt n u 2)) s).2)), (1, .int v1), (0, .ref 118)]) K dX10_compared_9 (by decide) rfl ?_
  refine v_iload_n K dX10_compared_10 rfl ?_
  refine v_bipushN K 60 rfl dX10_compared_11 ?_
  refine v_icmp_eq (tgt := 30) K dX10_compared_13 rfl (fun c1 => ?_) (fun c1 => ?_)
  · skip
    have eo : hereP bt n ((sumP bt n (unitP bt n u 2)) s).2 = nI 60 := c1
    obtain ⟨hl0, hn0⟩ := hereP_lt eo (nI_m1 (by decide))
    refine v_aload_n K dX10_compared_30 rfl ?_
    refine v_dup K dX10_compared_31 rfl ?_
    refine v_geti (x := nI (((sumP bt n (unitP bt n u 2)) s).2.1)) K fX10_55 sh_118 pl_118 hMq1.1.1 dX10_compared_32 ?_
    refine v_iconstN K 1 rfl dX10_compared_35 ?_
    refine v_iaddN K dX10_compared_36 ?_
    refine v_puti K pX10_55 sh_118 pl_118 dX10_compared_37 ?_
    have hMm1 : PM (u2 h1 118 6 (nI (((sumP bt n (unitP bt n u 2)) s).2.1 + 1))) n (advP ((sumP bt n (unitP bt n u 2)) s).2) := hMq1.adv hl0
    have hFm1 : FrP h (u2 h1 118 6 (nI (((sumP bt n (unitP bt n u 2)) s).2.1 + 1))) := FrP.u hFq1 (by omega)
    have hXm1 := PX.fr hX hFm1
    refine v_aload_n K dX10_compared_40 rfl ?_
    refine v_callV (As := []) K (c_X10_sum_2 ((u2 h1 118 6 (nI (((sumP bt n (unitP bt n u 2)) s).2.1 + 1)))) bt n B u nm ((advP ((sumP bt n (unitP bt n u 2)) s).2)) hXm1 hMm1 ((hO.on hG1 hn0).adv hl0)) lX10_85 ck_X10 rfl sh_118 pl_118 rfl ⟨by decide, by decide⟩ (Nat.le_of_ble_eq_true rfl) dX10_compared_41 (fun r3 h3 hp3 => ?_) rfl
    obtain ⟨⟨v2, rfl, hvq2⟩, hMq2, hFaq2⟩ := hp3
    have hFq2 := FrP.t hFm1 hFaq2
    have hXq2 := PX.fr hX hFq2
    have hGq2 : GP n (advP ((sumP bt n (unitP bt n u 2)) s).2) ((sumP bt n (unitP bt n u 2)) (advP ((sumP bt n (unitP bt n u 2)) s).2)).2 := (row_good (row_good (unit_good (bt := bt) (n := n) (u := u) 2) (by decide)) (by decide)) _ ((hO.on hG1 hn0).adv hl0)
    refine v_some ?_
    refine v_istore_n (lv2 := [(3, .int v2), (2, .int (hereP bt n ((sumP bt n (unitP bt n u 2)) s).2)), (1, .int v1), (0, .ref 118)]) K dX10_compared_44 (by decide) rfl ?_
    refine v_iload_n K dX10_compared_45 rfl ?_
    refine v_bipushN K 60 rfl dX10_compared_46 ?_
    refine v_icmp_ne (tgt := 59) K dX10_compared_48 rfl (fun c2 => ?_) (fun c2 => ?_)
    · skip
      exact absurd eo c2
    · skip
      refine v_iload_n K dX10_compared_51 rfl ?_
      refine v_iload_n K dX10_compared_52 rfl ?_
      refine v_icmp_ge (tgt := 82) K dX10_compared_53 rfl (fun c3 => ?_) (fun c3 => ?_)
      · skip
        refine v_iconstN K 0 rfl dX10_compared_82 ?_
        refine v_iret K dX10_compared_83 ?_
        have e2 : (cmpP bt n (sumP bt n (unitP bt n u 2))) s = (((sumP bt n (unitP bt n u 2)) s).1 ++ ((sumP bt n (unitP bt n u 2)) (advP ((sumP bt n (unitP bt n u 2)) s).2)).1 ++ [-hereP bt n ((sumP bt n (unitP bt n u 2)) s).2], ((sumP bt n (unitP bt n u 2)) (advP ((sumP bt n (unitP bt n u 2)) s).2)).2) := if_pos (by rw [eo]; decide)
        show (∃ v, _ ∧ (((cmpP bt n (sumP bt n (unitP bt n u 2))) s).2.2.1 = none → ∀ st, runL ((cmpP bt n (sumP bt n (unitP bt n u 2))) s).1 nm st = v :: st)) ∧ PM _ n ((cmpP bt n (sumP bt n (unitP bt n u 2))) s).2 ∧ _
        rw [e2]
        refine ⟨⟨_, rfl, fun hn2 => ?_⟩, hMq2, hFq2⟩
        rw [eo]
        exact val_on (by decide) (hv1 hn0) (hvq2 hn2) (by rw [j60]; exact (b2i_f (Int32.not_lt.mpr c3)).symm)
      · skip
        refine v_goto (tgt := 78) K dX10_compared_56 rfl ?_
        refine v_iconstN K 1 rfl dX10_compared_78 ?_
        refine v_goto (tgt := 83) K dX10_compared_79 rfl ?_
        refine v_iret K dX10_compared_83 ?_
        have e2 : (cmpP bt n (sumP bt n (unitP bt n u 2))) s = (((sumP bt n (unitP bt n u 2)) s).1 ++ ((sumP bt n (unitP bt n u 2)) (advP ((sumP bt n (unitP bt n u 2)) s).2)).1 ++ [-hereP bt n ((sumP bt n (unitP bt n u 2)) s).2], ((sumP bt n (unitP bt n u 2)) (advP ((sumP bt n (unitP bt n u 2)) s).2)).2) := if_pos (by rw [eo]; decide)
        show (∃ v, _ ∧ (((cmpP bt n (sumP bt n (unitP bt n u 2))) s).2.2.1 = none → ∀ st, runL ((cmpP bt n (sumP bt n (unitP bt n u 2))) s).1 nm st = v :: st)) ∧ PM _ n ((cmpP bt n (sumP bt n (unitP bt n u 2))) s).2 ∧ _
        rw [e2]
        refine ⟨⟨_, rfl, fun hn2 => ?_⟩, hMq2, hFq2⟩
        rw [eo]
        exact val_on (by decide) (hv1 hn0) (hvq2 hn2) (by rw [j60]; exact (b2i_t (Int32.not_le.mp c3)).symm)
  · skip
    refine v_iload_n K dX10_compared_16 rfl ?_
    refine v_bipushN K 61 rfl dX10_compared_17 ?_
    refine v_icmp_eq (tgt := 30) K dX10_compared_19 rfl (fun c4 => ?_) (fun c4 => ?_)
    · skip
      have eo : hereP bt n ((sumP bt n (unitP bt n u 2)) s).2 = nI 61 := c4
      obtain ⟨hl0, hn0⟩ := hereP_lt eo (nI_m1 (by decide))
      refine v_aload_n K dX10_compared_30 rfl ?_
      refine v_dup K dX10_compared_31 rfl ?_
      refine v_geti (x := nI (((sumP bt n (unitP bt n u 2)) s).2.1)) K fX10_55 sh_118 pl_118 hMq1.1.1 dX10_compared_32 ?_
      refine v_iconstN K 1 rfl dX10_compared_35 ?_
      refine v_iaddN K dX10_compared_36 ?_
      refine v_puti K pX10_55 sh_118 pl_118 dX10_compared_37 ?_
      have hMm2 : PM (u2 h1 118 6 (nI (((sumP bt n (unitP bt n u 2)) s).2.1 + 1))) n (advP ((sumP bt n (unitP bt n u 2)) s).2) := hMq1.adv hl0
      have hFm2 : FrP h (u2 h1 118 6 (nI (((sumP bt n (unitP bt n u 2)) s).2.1 + 1))) := FrP.u hFq1 (by omega)
      have hXm2 := PX.fr hX hFm2
      refine v_aload_n K dX10_compared_40 rfl ?_
      refine v_callV (As := []) K (c_X10_sum_2 ((u2 h1 118 6 (nI (((sumP bt n (unitP bt n u 2)) s).2.1 + 1)))) bt n B u nm ((advP ((sumP bt n (unitP bt n u 2)) s).2)) hXm2 hMm2 ((hO.on hG1 hn0).adv hl0)) lX10_85 ck_X10 rfl sh_118 pl_118 rfl ⟨by decide, by decide⟩ (Nat.le_of_ble_eq_true rfl) dX10_compared_41 (fun r4 h4 hp4 => ?_) rfl
      obtain ⟨⟨v3, rfl, hvq3⟩, hMq3, hFaq3⟩ := hp4
      have hFq3 := FrP.t hFm2 hFaq3
      have hXq3 := PX.fr hX hFq3
      have hGq3 : GP n (advP ((sumP bt n (unitP bt n u 2)) s).2) ((sumP bt n (unitP bt n u 2)) (advP ((sumP bt n (unitP bt n u 2)) s).2)).2 := (row_good (row_good (unit_good (bt := bt) (n := n) (u := u) 2) (by decide)) (by decide)) _ ((hO.on hG1 hn0).adv hl0)
      refine v_some ?_
      refine v_istore_n (lv2 := [(3, .int v3), (2, .int (hereP bt n ((sumP bt n (unitP bt n u 2)) s).2)), (1, .int v1), (0, .ref 118)]) K dX10_compared_44 (by decide) rfl ?_
      refine v_iload_n K dX10_compared_45 rfl ?_
      refine v_bipushN K 60 rfl dX10_compared_46 ?_
      refine v_icmp_ne (tgt := 59) K dX10_compared_48 rfl (fun c5 => ?_) (fun c5 => ?_)
      · skip
        refine v_iload_n K dX10_compared_59 rfl ?_
        refine v_bipushN K 61 rfl dX10_compared_60 ?_
        refine v_icmp_ne (tgt := 73) K dX10_compared_62 rfl (fun c6 => ?_) (fun c6 => ?_)
        · skip
          exact absurd eo c6
        · skip
          refine v_iload_n K dX10_compared_65 rfl ?_
          refine v_iload_n K dX10_compared_66 rfl ?_
          refine v_icmp_ne (tgt := 82) K dX10_compared_67 rfl (fun c7 => ?_) (fun c7 => ?_)
          · skip
            refine v_iconstN K 0 rfl dX10_compared_82 ?_
            refine v_iret K dX10_compared_83 ?_
            have e2 : (cmpP bt n (sumP bt n (unitP bt n u 2))) s = (((sumP bt n (unitP bt n u 2)) s).1 ++ ((sumP bt n (unitP bt n u 2)) (advP ((sumP bt n (unitP bt n u 2)) s).2)).1 ++ [-hereP bt n ((sumP bt n (unitP bt n u 2)) s).2], ((sumP bt n (unitP bt n u 2)) (advP ((sumP bt n (unitP bt n u 2)) s).2)).2) := if_pos (by rw [eo]; decide)
            show (∃ v, _ ∧ (((cmpP bt n (sumP bt n (unitP bt n u 2))) s).2.2.1 = none → ∀ st, runL ((cmpP bt n (sumP bt n (unitP bt n u 2))) s).1 nm st = v :: st)) ∧ PM _ n ((cmpP bt n (sumP bt n (unitP bt n u 2))) s).2 ∧ _
            rw [e2]
            refine ⟨⟨_, rfl, fun hn2 => ?_⟩, hMq3, hFq3⟩
            rw [eo]
            exact val_on (by decide) (hv1 hn0) (hvq3 hn2) (by rw [j61]; exact (b2i_f c7).symm)
          · skip
            refine v_goto (tgt := 78) K dX10_compared_70 rfl ?_
            refine v_iconstN K 1 rfl dX10_compared_78 ?_
            refine v_goto (tgt := 83) K dX10_compared_79 rfl ?_
            refine v_iret K dX10_compared_83 ?_
            have e2 : (cmpP bt n (sumP bt n (unitP bt n u 2))) s = (((sumP bt n (unitP bt n u 2)) s).1 ++ ((sumP bt n (unitP bt n u 2)) (advP ((sumP bt n (unitP bt n u 2)) s).2)).1 ++ [-hereP bt n ((sumP bt n (unitP bt n u 2)) s).2], ((sumP bt n (unitP bt n u 2)) (advP ((sumP bt n (unitP bt n u 2)) s).2)).2) := if_pos (by rw [eo]; decide)
            show (∃ v, _ ∧ (((cmpP bt n (sumP bt n (unitP bt n u 2))) s).2.2.1 = none → ∀ st, runL ((cmpP bt n (sumP bt n (unitP bt n u 2))) s).1 nm st = v :: st)) ∧ PM _ n ((cmpP bt n (sumP bt n (unitP bt n u 2))) s).2 ∧ _
            rw [e2]
            refine ⟨⟨_, rfl, fun hn2 => ?_⟩, hMq3, hFq3⟩
            rw [eo]
            exact val_on (by decide) (hv1 hn0) (hvq3 hn2) (by rw [j61]; exact (b2i_t c7).symm)
      · skip
        exact absurd (c5.symm.trans eo) (by decide)
    · skip
      refine v_iload_n K dX10_compared_22 rfl ?_
      refine v_bipushN K 62 rfl dX10_compared_23 ?_
      refine v_icmp_eq (tgt := 30) K dX10_compared_25 rfl (fun c8 => ?_) (fun c8 => ?_)
      · skip
        have eo : hereP bt n ((sumP bt n (unitP bt n u 2)) s).2 = nI 62 := c8
        obtain ⟨hl0, hn0⟩ := hereP_lt eo (nI_m1 (by decide))
        refine v_aload_n K dX10_compared_30 rfl ?_
        refine v_dup K dX10_compared_31 rfl ?_
        refine v_geti (x := nI (((sumP bt n (unitP bt n u 2)) s).2.1)) K fX10_55 sh_118 pl_118 hMq1.1.1 dX10_compared_32 ?_
        refine v_iconstN K 1 rfl dX10_compared_35 ?_
        refine v_iaddN K dX10_compared_36 ?_
        refine v_puti K pX10_55 sh_118 pl_118 dX10_compared_37 ?_
        have hMm3 : PM (u2 h1 118 6 (nI (((sumP bt n (unitP bt n u 2)) s).2.1 + 1))) n (advP ((sumP bt n (unitP bt n u 2)) s).2) := hMq1.adv hl0
        have hFm3 : FrP h (u2 h1 118 6 (nI (((sumP bt n (unitP bt n u 2)) s).2.1 + 1))) := FrP.u hFq1 (by omega)
        have hXm3 := PX.fr hX hFm3
        refine v_aload_n K dX10_compared_40 rfl ?_
        refine v_callV (As := []) K (c_X10_sum_2 ((u2 h1 118 6 (nI (((sumP bt n (unitP bt n u 2)) s).2.1 + 1)))) bt n B u nm ((advP ((sumP bt n (unitP bt n u 2)) s).2)) hXm3 hMm3 ((hO.on hG1 hn0).adv hl0)) lX10_85 ck_X10 rfl sh_118 pl_118 rfl ⟨by decide, by decide⟩ (Nat.le_of_ble_eq_true rfl) dX10_compared_41 (fun r5 h5 hp5 => ?_) rfl
        obtain ⟨⟨v4, rfl, hvq4⟩, hMq4, hFaq4⟩ := hp5
        have hFq4 := FrP.t hFm3 hFaq4
        have hXq4 := PX.fr hX hFq4
        have hGq4 : GP n (advP ((sumP bt n (unitP bt n u 2)) s).2) ((sumP bt n (unitP bt n u 2)) (advP ((sumP bt n (unitP bt n u 2)) s).2)).2 := (row_good (row_good (unit_good (bt := bt) (n := n) (u := u) 2) (by decide)) (by decide)) _ ((hO.on hG1 hn0).adv hl0)
        refine v_some ?_
        refine v_istore_n (lv2 := [(3, .int v4), (2, .int (hereP bt n ((sumP bt n (unitP bt n u 2)) s).2)), (1, .int v1), (0, .ref 118)]) K dX10_compared_44 (by decide) rfl ?_
        refine v_iload_n K dX10_compared_45 rfl ?_
        refine v_bipushN K 60 rfl dX10_compared_46 ?_
        refine v_icmp_ne (tgt := 59) K dX10_compared_48 rfl (fun c9 => ?_) (fun c9 => ?_)
        · skip
          refine v_iload_n K dX10_compared_59 rfl ?_
          refine v_bipushN K 61 rfl dX10_compared_60 ?_
          refine v_icmp_ne (tgt := 73) K dX10_compared_62 rfl (fun c10 => ?_) (fun c10 => ?_)
          · skip
            refine v_iload_n K dX10_compared_73 rfl ?_
            refine v_iload_n K dX10_compared_74 rfl ?_
            refine v_icmp_le (tgt := 82) K dX10_compared_75 rfl (fun c11 => ?_) (fun c11 => ?_)
            · skip
              refine v_iconstN K 0 rfl dX10_compared_82 ?_
              refine v_iret K dX10_compared_83 ?_
              have e2 : (cmpP bt n (sumP bt n (unitP bt n u 2))) s = (((sumP bt n (unitP bt n u 2)) s).1 ++ ((sumP bt n (unitP bt n u 2)) (advP ((sumP bt n (unitP bt n u 2)) s).2)).1 ++ [-hereP bt n ((sumP bt n (unitP bt n u 2)) s).2], ((sumP bt n (unitP bt n u 2)) (advP ((sumP bt n (unitP bt n u 2)) s).2)).2) := if_pos (by rw [eo]; decide)
              show (∃ v, _ ∧ (((cmpP bt n (sumP bt n (unitP bt n u 2))) s).2.2.1 = none → ∀ st, runL ((cmpP bt n (sumP bt n (unitP bt n u 2))) s).1 nm st = v :: st)) ∧ PM _ n ((cmpP bt n (sumP bt n (unitP bt n u 2))) s).2 ∧ _
              rw [e2]
              refine ⟨⟨_, rfl, fun hn2 => ?_⟩, hMq4, hFq4⟩
              rw [eo]
              exact val_on (by decide) (hv1 hn0) (hvq4 hn2) (by rw [j62]; exact (b2i_f (Int32.not_lt.mpr c11)).symm)
            · skip
              refine v_iconstN K 1 rfl dX10_compared_78 ?_
              refine v_goto (tgt := 83) K dX10_compared_79 rfl ?_
              refine v_iret K dX10_compared_83 ?_
              have e2 : (cmpP bt n (sumP bt n (unitP bt n u 2))) s = (((sumP bt n (unitP bt n u 2)) s).1 ++ ((sumP bt n (unitP bt n u 2)) (advP ((sumP bt n (unitP bt n u 2)) s).2)).1 ++ [-hereP bt n ((sumP bt n (unitP bt n u 2)) s).2], ((sumP bt n (unitP bt n u 2)) (advP ((sumP bt n (unitP bt n u 2)) s).2)).2) := if_pos (by rw [eo]; decide)
              show (∃ v, _ ∧ (((cmpP bt n (sumP bt n (unitP bt n u 2))) s).2.2.1 = none → ∀ st, runL ((cmpP bt n (sumP bt n (unitP bt n u 2))) s).1 nm st = v :: st)) ∧ PM _ n ((cmpP bt n (sumP bt n (unitP bt n u 2))) s).2 ∧ _
              rw [e2]
              refine ⟨⟨_, rfl, fun hn2 => ?_⟩, hMq4, hFq4⟩
              rw [eo]
              exact val_on (by decide) (hv1 hn0) (hvq4 hn2) (by rw [j62]; exact (b2i_t (Int32.not_le.mp c11)).symm)
          · skip
            exact absurd (c10.symm.trans eo) (by decide)
        · skip
          exact absurd (c9.symm.trans eo) (by decide)
      · skip
        refine v_iload_n K dX10_compared_28 rfl ?_
        refine v_iret K dX10_compared_29 ?_
        have e2 : (cmpP bt n (sumP bt n (unitP bt n u 2))) s = (sumP bt n (unitP bt n u 2)) s := if_neg (by simp only [List.mem_cons, List.not_mem_nil, or_false, not_or]; exact ⟨c1, c4, c8⟩)
        show (∃ v, _ ∧ (((cmpP bt n (sumP bt n (unitP bt n u 2))) s).2.2.1 = none → ∀ st, runL ((cmpP bt n (sumP bt n (unitP bt n u 2))) s).1 nm st = v :: st)) ∧ PM _ n ((cmpP bt n (sumP bt n (unitP bt n u 2))) s).2 ∧ _
        rw [e2]
        exact ⟨⟨_, rfl, hv1⟩, hMq1, hFq1⟩

abbrev P_X10_both_2 (h : Mm) (bt : Nat → Int32) (n B u : Nat) (nm : Nat → Int32) (s : PSt) : Option Value → Mm → Prop := fun r h2 => (∃ v, r = some (.int v) ∧ (((bothP bt n (unitP bt n u 2)) s).2.2.1 = none → ∀ st, runL ((bothP bt n (unitP bt n u 2)) s).1 nm st = v :: st)) ∧ PM h2 n ((bothP bt n (unitP bt n u 2)) s).2 ∧ FrP h h2
theorem c_X10_both_2 {l : Launch} (h : Mm) (bt : Nat → Int32) (n B u : Nat) (nm : Nat → Int32) (s : PSt) (hX : PX h bt n B u nm) (hM : PM h n s) (hO : OKs n 2 s) : Con l yX10_both cX10_both 3 (some .int) 17 392 132 GL h [.ref 118] (P_X10_both_2 h bt n B u nm s) := by
  refine Con.ofV (own := "FoxRoundsModel") (nm := "both") rfl rfl (by decide) (Nat.le_of_ble_eq_true rfl) ?_
  intro κ ρ hkl K
  subst hkl
  show V κ (QM κ (132, ρ, GL, 0, 0) (P_X10_both_2 h bt n B u nm s)) 3 (132, ρ, GL, 0, 0) h 0 [(0, .ref 118)] []
  have hn50 := hX.2.2.2.2.2.1
  have hBn := hX.2.2.2.2.1
  have hsn := hM.2.1
  have hs5 := hM.2.2.1
  refine v_aload_n K dX10_both_0 rfl ?_
  refine v_callV (As := []) K (c_X10_compared_2 h bt n B u nm s hX hM hO) lX10_82 ck_X10 rfl sh_118 pl_118 rfl ⟨by decide, by decide⟩ (Nat.le_of_ble_eq_true rfl) dX10_both_1 (fun r1 h1 hp1 => ?_) rfl
  obtain ⟨⟨v1, rfl, hvq1⟩, hMq1, hFaq1⟩ := hp1
  have hFq1 := FrP.t (FrP.r (h := h)) hFaq1
  have hXq1 := PX.fr hX hFq1
  have hGq1 : GP n s ((cmpP bt n (sumP bt n (unitP bt n u 2))) s).2 := (cmp_good (row_good (row_good (unit_good (bt := bt) (n := n) (u := u) 2) (by decide)) (by decide))) _ hO
  refine v_some ?_
  refine v_istore_n (lv2 := [(1, .int v1), (0, .ref 118)]) K dX10_both_4 (by decide) rfl ?_
  have L5 : ∀ (mm : Nat) (f : Nat) (cs : List Int32) (t : PSt) (v : Int32) (h1 : Mm) (hG : GP n s t) (hM1 : PM h1 n t) (hF1 : FrP h h1) (hv : t.2.1 = none → ∀ st, runL cs nm st = v :: st) (he : (bothP bt n (unitP bt n u 2)) s = loopP bt n [nI 38] (cmpP bt n (sumP bt n (unitP bt n u 2))) f cs t) (hfu : n + 1 ≤ f + t.1), f < mm → V κ (QM κ (132, ρ, GL, 0, 0) (P_X10_both_2 h bt n B u nm s)) 3 (132, ρ, GL, 0, 0) h1 5 [(0, .ref 118), (1, .int v)] [] := by
    intro mm
    induction mm with
    | zero => intro f cs t v h1 hG hM1 hF1 hv he hfu hmm; exact absurd hmm (Nat.not_lt_zero _)
    | succ mm ih5 =>
      intro f cs t v h1 hG hM1 hF1 hv he hfu hmm
      have hX1 := PX.fr hX hF1
      have htn := hM1.2.1
      have ht5 := hM1.2.2.1
      obtain ⟨f, rfl⟩ : ∃ f0, f = f0 + 1 := ⟨f - 1, by omega⟩
      refine v_aload_n K dX10_both_5 rfl ?_
      refine v_bipushN K 38 rfl dX10_both_6 ?_
      refine v_callV (As := [.int (nI 38)]) K (c_X10_takes h1 bt n B u nm t 38 hX1 hM1 (by decide)) lX10_78 ck_X10 rfl sh_118 pl_118 rfl ⟨by decide, by decide⟩ (Nat.le_of_ble_eq_true rfl) dX10_both_8 (fun r2 h2 hp2 => ?_) rfl
      obtain ⟨rfl, hMq2, hFaq2⟩ := hp2
      have hFq2 := FrP.t hF1 hFaq2
      have hXq2 := PX.fr hX hFq2
      refine v_some ?_
      refine v_ifB_eq (tgt := 36) K dX10_both_11 rfl (fun c1 => ?_) (fun c1 => ?_)
      · skip
        rw [tk_n c1] at hMq2
        refine v_iload_n K dX10_both_36 rfl ?_
        refine v_iret K dX10_both_37 ?_
        have e2 : (bothP bt n (unitP bt n u 2)) s = (cs, t) := by rw [he, loop_off (by simp only [List.mem_cons, List.not_mem_nil, or_false]; exact c1)]
        show (∃ v, _ ∧ (((bothP bt n (unitP bt n u 2)) s).2.2.1 = none → ∀ st, runL ((bothP bt n (unitP bt n u 2)) s).1 nm st = v :: st)) ∧ PM _ n ((bothP bt n (unitP bt n u 2)) s).2 ∧ _
        rw [e2]
        exact ⟨⟨v, rfl, hv⟩, hMq2, hFq2⟩
      · skip
        have eo : hereP bt n t = nI 38 := c1
        obtain ⟨hl0, hn0⟩ := hereP_lt eo (nI_m1 (by decide))
        have hG0 := hG
        rw [tk_y eo] at hMq2
        refine v_aload_n K dX10_both_14 rfl ?_
        refine v_callV (As := []) K (c_X10_compared_2 h2 bt n B u nm ((advP t)) hXq2 hMq2 ((hO.on hG0 hn0).adv hl0)) lX10_82 ck_X10 rfl sh_118 pl_118 rfl ⟨by decide, by decide⟩ (Nat.le_of_ble_eq_true rfl) dX10_both_15 (fun r3 h3 hp3 => ?_) rfl
        obtain ⟨⟨v2, rfl, hvq3⟩, hMq3, hFaq3⟩ := hp3
        have hFq3 := FrP.t hFq2 hFaq3
        have hXq3 := PX.fr hX hFq3
        have hGq3 : GP n (advP t) ((cmpP bt n (sumP bt n (unitP bt n u 2))) (advP t)).2 := (cmp_good (row_good (row_good (unit_good (bt := bt) (n := n) (u := u) 2) (by decide)) (by decide))) _ ((hO.on hG0 hn0).adv hl0)
        refine v_some ?_
        refine v_istore_n (lv2 := [(2, .int v2), (0, .ref 118), (1, .int v)]) K dX10_both_18 (by decide) rfl ?_
        refine v_iload_n K dX10_both_19 rfl ?_
        refine v_if_eq (tgt := 31) K dX10_both_20 rfl (fun c2 => ?_) (fun c2 => ?_)
        · skip
          refine v_iconstN K 0 rfl dX10_both_31 ?_
          refine v_top (y := joinR (nI 38) v v2) (by rw [j38]; exact (b2i_f (fun q => q.1 c2)).symm) ?_
          refine v_istore_n (lv2 := [(1, .int (joinR (nI 38) v v2)), (2, .int v2), (0, .ref 118)]) K dX10_both_32 (by decide) rfl ?_
          refine v_goto (tgt := 5) K dX10_both_33 rfl ?_
          refine v_sub (lv2 := [(0, .ref 118), (1, .int (joinR (nI 38) v v2))]) (by simp) ?_
          exact ih5 f ((cs ++ ((cmpP bt n (sumP bt n (unitP bt n u 2))) (advP t)).1 ++ [-hereP bt n t])) (((cmpP bt n (sumP bt n (unitP bt n u 2))) (advP t)).2) (joinR (nI 38) v v2) h3 (by exact hG0.tr hn0 ((GP.adv (hO.on hG0 hn0) hl0).tr hn0 hGq3)) (by exact hMq3) (by exact hFq3) (by intro hn2; rw [eo]; exact val_on (by decide) (hv hn0) (hvq3 hn2) rfl) (by rw [he, loop_on (by rw [eo]; decide)]) (by have h1 : (advP t).1 = t.1 + 1 := rfl; have h2 := hGq3.1; omega) (by omega)
        · skip
          refine v_iload_n K dX10_both_23 rfl ?_
          refine v_if_eq (tgt := 31) K dX10_both_24 rfl (fun c3 => ?_) (fun c3 => ?_)
          · skip
            refine v_iconstN K 0 rfl dX10_both_31 ?_
            refine v_top (y := joinR (nI 38) v v2) (by rw [j38]; exact (b2i_f (fun q => q.2 c3)).symm) ?_
            refine v_istore_n (lv2 := [(1, .int (joinR (nI 38) v v2)), (2, .int v2), (0, .ref 118)]) K dX10_both_32 (by decide) rfl ?_
            refine v_goto (tgt := 5) K dX10_both_33 rfl ?_
            refine v_sub (lv2 := [(0, .ref 118), (1, .int (joinR (nI 38) v v2))]) (by simp) ?_
            exact ih5 f ((cs ++ ((cmpP bt n (sumP bt n (unitP bt n u 2))) (advP t)).1 ++ [-hereP bt n t])) (((cmpP bt n (sumP bt n (unitP bt n u 2))) (advP t)).2) (joinR (nI 38) v v2) h3 (by exact hG0.tr hn0 ((GP.adv (hO.on hG0 hn0) hl0).tr hn0 hGq3)) (by exact hMq3) (by exact hFq3) (by intro hn2; rw [eo]; exact val_on (by decide) (hv hn0) (hvq3 hn2) rfl) (by rw [he, loop_on (by rw [eo]; decide)]) (by have h1 : (advP t).1 = t.1 + 1 := rfl; have h2 := hGq3.1; omega) (by omega)
          · skip
            refine v_iconstN K 1 rfl dX10_both_27 ?_
            refine v_goto (tgt := 32) K dX10_both_28 rfl ?_
            refine v_top (y := joinR (nI 38) v v2) (by rw [j38]; exact (b2i_t ⟨c2, c3⟩).symm) ?_
            refine v_istore_n (lv2 := [(1, .int (joinR (nI 38) v v2)), (2, .int v2), (0, .ref 118)]) K dX10_both_32 (by decide) rfl ?_
            refine v_goto (tgt := 5) K dX10_both_33 rfl ?_
            refine v_sub (lv2 := [(0, .ref 118), (1, .int (joinR (nI 38) v v2))]) (by simp) ?_
            exact ih5 f ((cs ++ ((cmpP bt n (sumP bt n (unitP bt n u 2))) (advP t)).1 ++ [-hereP bt n t])) (((cmpP bt n (sumP bt n (unitP bt n u 2))) (advP t)).2) (joinR (nI 38) v v2) h3 (by exact hG0.tr hn0 ((GP.adv (hO.on hG0 hn0) hl0).tr hn0 hGq3)) (by exact hMq3) (by exact hFq3) (by intro hn2; rw [eo]; exact val_on (by decide) (hv hn0) (hvq3 hn2) rfl) (by rw [he, loop_on (by rw [eo]; decide)]) (by have h1 : (advP t).1 = t.1 + 1 := rfl; have h2 := hGq3.1; omega) (by omega)
  refine v_sub (lv2 := [(0, .ref 118), (1, .int v1)]) (by simp) ?_
  exact L5 (52 + 1) 52 (((cmpP bt n (sumP bt n (unitP bt n u 2))) s).1) (((cmpP bt n (sumP bt n (unitP bt n u 2))) s).2) v1 h1 (by exact hGq1) (by exact hMq1) (by exact hFq1) (by exact hvq1) (by rfl) (by omega) (Nat.lt_succ_self _)

abbrev P_X10_either_2 (h : Mm) (bt : Nat → Int32) (n B u : Nat) (nm : Nat → Int32) (s : PSt) : Option Value → Mm → Prop := fun r h2 => (∃ v, r = some (.int v) ∧ (((eitherP bt n (unitP bt n u 2)) s).2.2.1 = none → ∀ st, runL ((eitherP bt n (unitP bt n u 2)) s).1 nm st = v :: st)) ∧ PM h2 n ((eitherP bt n (unitP bt n u 2)) s).2 ∧ FrP h h2
theorem c_X10_either_2 {l : Launch} (h : Mm) (bt : Nat → Int32) (n B u : Nat) (nm : Nat → Int32) (s : PSt) (hX : PX h bt n B u nm) (hM : PM h n s) (hO : OKs n 2 s) : Con l yX10_either cX10_either 3 (some .int) 18 414 132 GL h [.ref 118] (P_X10_either_2 h bt n B u nm s) := by
  refine Con.ofV (own := "FoxRoundsModel") (nm := "either") rfl rfl (by decide) (Nat.le_of_ble_eq_true rfl) ?_
  intro κ ρ hkl K
  subst hkl
  show V κ (QM κ (132, ρ, GL, 0, 0) (P_X10_either_2 h bt n B u nm s)) 3 (132, ρ, GL, 0, 0) h 0 [(0, .ref 118)] []
  have hn50 := hX.2.2.2.2.2.1
  have hBn := hX.2.2.2.2.1
  have hsn := hM.2.1
  have hs5 := hM.2.2.1
  refine v_aload_n K dX10_either_0 rfl ?_
  refine v_callV (As := []) K (c_X10_both_2 h bt n B u nm s hX hM hO) lX10_75 ck_X10 rfl sh_118 pl_118 rfl ⟨by decide, by decide⟩ (Nat.le_of_ble_eq_true rfl) dX10_either_1 (fun r1 h1 hp1 => ?_) rfl
  obtain ⟨⟨v1, rfl, hvq1⟩, hMq1, hFaq1⟩ := hp1
  have hFq1 := FrP.t (FrP.r (h := h)) hFaq1
  have hXq1 := PX.fr hX hFq1
  have hGq1 : GP n s ((bothP bt n (unitP bt n u 2)) s).2 := (row_good (cmp_good (row_good (row_good (unit_good (bt := bt) (n := n) (u := u) 2) (by decide)) (by decide))) (by decide)) _ hO
  refine v_some ?_
  refine v_istore_n (lv2 := [(1, .int v1), (0, .ref 118)]) K dX10_either_4 (by decide) rfl ?_
  have L5 : ∀ (mm : Nat) (f : Nat) (cs : List Int32) (t : PSt) (v : Int32) (h1 : Mm) (hG : GP n s t) (hM1 : PM h1 n t) (hF1 : FrP h h1) (hv : t.2.1 = none → ∀ st, runL cs nm st = v :: st) (he : (eitherP bt n (unitP bt n u 2)) s = loopP bt n [nI 124] (bothP bt n (unitP bt n u 2)) f cs t) (hfu : n + 1 ≤ f + t.1), f < mm → V κ (QM κ (132, ρ, GL, 0, 0) (P_X10_either_2 h bt n B u nm s)) 3 (132, ρ, GL, 0, 0) h1 5 [(0, .ref 118), (1, .int v)] [] := by
    intro mm
    induction mm with
    | zero => intro f cs t v h1 hG hM1 hF1 hv he hfu hmm; exact absurd hmm (Nat.not_lt_zero _)
    | succ mm ih5 =>
      intro f cs t v h1 hG hM1 hF1 hv he hfu hmm
      have hX1 := PX.fr hX hF1
      have htn := hM1.2.1
      have ht5 := hM1.2.2.1
      obtain ⟨f, rfl⟩ : ∃ f0, f = f0 + 1 := ⟨f - 1, by omega⟩
      refine v_aload_n K dX10_either_5 rfl ?_
      refine v_bipushN K 124 rfl dX10_either_6 ?_
      refine v_callV (As := [.int (nI 124)]) K (c_X10_takes h1 bt n B u nm t 124 hX1 hM1 (by decide)) lX10_78 ck_X10 rfl sh_118 pl_118 rfl ⟨by decide, by decide⟩ (Nat.le_of_ble_eq_true rfl) dX10_either_8 (fun r2 h2 hp2 => ?_) rfl
      obtain ⟨rfl, hMq2, hFaq2⟩ := hp2
      have hFq2 := FrP.t hF1 hFaq2
      have hXq2 := PX.fr hX hFq2
      refine v_some ?_
      refine v_ifB_eq (tgt := 36) K dX10_either_11 rfl (fun c1 => ?_) (fun c1 => ?_)
      · skip
        rw [tk_n c1] at hMq2
        refine v_iload_n K dX10_either_36 rfl ?_
        refine v_iret K dX10_either_37 ?_
        have e2 : (eitherP bt n (unitP bt n u 2)) s = (cs, t) := by rw [he, loop_off (by simp only [List.mem_cons, List.not_mem_nil, or_false]; exact c1)]
        show (∃ v, _ ∧ (((eitherP bt n (unitP bt n u 2)) s).2.2.1 = none → ∀ st, runL ((eitherP bt n (unitP bt n u 2)) s).1 nm st = v :: st)) ∧ PM _ n ((eitherP bt n (unitP bt n u 2)) s).2 ∧ _
        rw [e2]
        exact ⟨⟨v, rfl, hv⟩, hMq2, hFq2⟩
      · skip
        have eo : hereP bt n t = nI 124 := c1
        obtain ⟨hl0, hn0⟩ := hereP_lt eo (nI_m1 (by decide))
        have hG0 := hG
        rw [tk_y eo] at hMq2
        refine v_aload_n K dX10_either_14 rfl ?_
        refine v_callV (As := []) K (c_X10_both_2 h2 bt n B u nm ((advP t)) hXq2 hMq2 ((hO.on hG0 hn0).adv hl0)) lX10_75 ck_X10 rfl sh_118 pl_118 rfl ⟨by decide, by decide⟩ (Nat.le_of_ble_eq_true rfl) dX10_either_15 (fun r3 h3 hp3 => ?_) rfl
        obtain ⟨⟨v2, rfl, hvq3⟩, hMq3, hFaq3⟩ := hp3
        have hFq3 := FrP.t hFq2 hFaq3
        have hXq3 := PX.fr hX hFq3
        have hGq3 : GP n (advP t) ((bothP bt n (unitP bt n u 2)) (advP t)).2 := (row_good (cmp_good (row_good (row_good (unit_good (bt := bt) (n := n) (u := u) 2) (by decide)) (by decide))) (by decide)) _ ((hO.on hG0 hn0).adv hl0)
        refine v_some ?_
        refine v_istore_n (lv2 := [(2, .int v2), (0, .ref 118), (1, .int v)]) K dX10_either_18 (by decide) rfl ?_
        refine v_iload_n K dX10_either_19 rfl ?_
        refine v_if_ne (tgt := 27) K dX10_either_20 rfl (fun c2 => ?_) (fun c2 => ?_)
        · skip
          refine v_iconstN K 1 rfl dX10_either_27 ?_
          refine v_goto (tgt := 32) K dX10_either_28 rfl ?_
          refine v_top (y := joinR (nI 124) v v2) (by rw [j124]; exact (b2i_t (Or.inl c2)).symm) ?_
          refine v_istore_n (lv2 := [(1, .int (joinR (nI 124) v v2)), (2, .int v2), (0, .ref 118)]) K dX10_either_32 (by decide) rfl ?_
          refine v_goto (tgt := 5) K dX10_either_33 rfl ?_
          refine v_sub (lv2 := [(0, .ref 118), (1, .int (joinR (nI 124) v v2))]) (by simp) ?_
          exact ih5 f ((cs ++ ((bothP bt n (unitP bt n u 2)) (advP t)).1 ++ [-hereP bt n t])) (((bothP bt n (unitP bt n u 2)) (advP t)).2) (joinR (nI 124) v v2) h3 (by exact hG0.tr hn0 ((GP.adv (hO.on hG0 hn0) hl0).tr hn0 hGq3)) (by exact hMq3) (by exact hFq3) (by intro hn2; rw [eo]; exact val_on (by decide) (hv hn0) (hvq3 hn2) rfl) (by rw [he, loop_on (by rw [eo]; decide)]) (by have h1 : (advP t).1 = t.1 + 1 := rfl; have h2 := hGq3.1; omega) (by omega)
        · skip
          refine v_iload_n K dX10_either_23 rfl ?_
          refine v_if_eq (tgt := 31) K dX10_either_24 rfl (fun c3 => ?_) (fun c3 => ?_)
          · skip
            refine v_iconstN K 0 rfl dX10_either_31 ?_
            refine v_top (y := joinR (nI 124) v v2) (by rw [j124]; exact (b2i_f (by rw [not_or]; exact ⟨fun q => q c2, fun q => q c3⟩)).symm) ?_
            refine v_istore_n (lv2 := [(1, .int (joinR (nI 124) v v2)), (2, .int v2), (0, .ref 118)]) K dX10_either_32 (by decide) rfl ?_
            refine v_goto (tgt := 5) K dX10_either_33 rfl ?_
            refine v_sub (lv2 := [(0, .ref 118), (1, .int (joinR (nI 124) v v2))]) (by simp) ?_
            exact ih5 f ((cs ++ ((bothP bt n (unitP bt n u 2)) (advP t)).1 ++ [-hereP bt n t])) (((bothP bt n (unitP bt n u 2)) (advP t)).2) (joinR (nI 124) v v2) h3 (by exact hG0.tr hn0 ((GP.adv (hO.on hG0 hn0) hl0).tr hn0 hGq3)) (by exact hMq3) (by exact hFq3) (by intro hn2; rw [eo]; exact val_on (by decide) (hv hn0) (hvq3 hn2) rfl) (by rw [he, loop_on (by rw [eo]; decide)]) (by have h1 : (advP t).1 = t.1 + 1 := rfl; have h2 := hGq3.1; omega) (by omega)
          · skip
            refine v_iconstN K 1 rfl dX10_either_27 ?_
            refine v_goto (tgt := 32) K dX10_either_28 rfl ?_
            refine v_top (y := joinR (nI 124) v v2) (by rw [j124]; exact (b2i_t (Or.inr c3)).symm) ?_
            refine v_istore_n (lv2 := [(1, .int (joinR (nI 124) v v2)), (2, .int v2), (0, .ref 118)]) K dX10_either_32 (by decide) rfl ?_
            refine v_goto (tgt := 5) K dX10_either_33 rfl ?_
            refine v_sub (lv2 := [(0, .ref 118), (1, .int (joinR (nI 124) v v2))]) (by simp) ?_
            exact ih5 f ((cs ++ ((bothP bt n (unitP bt n u 2)) (advP t)).1 ++ [-hereP bt n t])) (((bothP bt n (unitP bt n u 2)) (advP t)).2) (joinR (nI 124) v v2) h3 (by exact hG0.tr hn0 ((GP.adv (hO.on hG0 hn0) hl0).tr hn0 hGq3)) (by exact hMq3) (by exact hFq3) (by intro hn2; rw [eo]; exact val_on (by decide) (hv hn0) (hvq3 hn2) rfl) (by rw [he, loop_on (by rw [eo]; decide)]) (by have h1 : (advP t).1 = t.1 + 1 := rfl; have h2 := hGq3.1; omega) (by omega)
  refine v_sub (lv2 := [(0, .ref 118), (1, .int v1)]) (by simp) ?_
  exact L5 (52 + 1) 52 (((bothP bt n (unitP bt n u 2)) s).1) (((bothP bt n (unitP bt n u 2)) s).2) v1 h1 (by exact hGq1) (by exact hMq1) (by exact hFq1) (by exact hvq1) (by rfl) (by omega) (Nat.lt_succ_self _)

theorem unit_e3 {bt : Nat → Int32} {n u : Nat} (s : PSt) : unitP bt n u 3 s = if hereP bt n s = nI 40 then (if hereP bt n ((eitherP bt n (unitP bt n u 2)) (advP (openP s))).2 = nI 41 then (((eitherP bt n (unitP bt n u 2)) (advP (openP s))).1, closeP (advP ((eitherP bt n (unitP bt n u 2)) (advP (openP s))).2)) else ([], wrongP ((eitherP bt n (unitP bt n u 2)) (advP (openP s))).2)) else if hereP bt n s = nI 33 then (((unitP bt n u 2) (advP (openP s))).1 ++ [(-33)], closeP ((unitP bt n u 2) (advP (openP s))).2) else leafP bt n u s := rfl

abbrev P_X10_unit_3 (h : Mm) (bt : Nat → Int32) (n B u : Nat) (nm : Nat → Int32) (s : PSt) : Option Value → Mm → Prop := fun r h2 => (∃ v, r = some (.int v) ∧ (((unitP bt n u 3) s).2.2.1 = none → ∀ st, runL ((unitP bt n u 3) s).1 nm st = v :: st)) ∧ PM h2 n ((unitP bt n u 3) s).2 ∧ FrP h h2
theorem c_X10_unit_3 {l : Launch} (h : Mm) (bt : Nat → Int32) (n B u : Nat) (nm : Nat → Int32) (s : PSt) (hX : PX h bt n B u nm) (hM : PM h n s) (hO : OKs n 3 s) : Con l yX10_unit cX10_unit 5 (some .int) 19 436 132 GL h [.ref 118] (P_X10_unit_3 h bt n B u nm s) := by
  refine Con.ofV (own := "FoxRoundsModel") (nm := "unit") rfl rfl (by decide) (Nat.le_of_ble_eq_true rfl) ?_
  intro κ ρ hkl K
  subst hkl
  show V κ (QM κ (132, ρ, GL, 0, 0) (P_X10_unit_3 h bt n B u nm s)) 5 (132, ρ, GL, 0, 0) h 0 [(0, .ref 118)] []
  have hn50 := hX.2.2.2.2.2.1
  have hBn := hX.2.2.2.2.1
  have hsn := hM.2.1
  have hs5 := hM.2.2.1
  refine v_aload_n K dX10_unit_0 rfl ?_
  refine v_callV (As := []) K (c_X10_here h bt n B u nm s hX hM) lX10_68 ck_X10 rfl sh_118 pl_118 rfl ⟨by decide, by decide⟩ (Nat.le_of_ble_eq_true rfl) dX10_unit_1 (fun r1 h1 hp1 => ?_) rfl
  obtain ⟨rfl, rfl⟩ := hp1
  refine v_some ?_
  refine v_istore_n (lv2 := [(1, .int (hereP bt n s)), (0, .ref 118)]) K dX10_unit_4 (by decide) rfl ?_
  refine v_iload_n K dX10_unit_5 rfl ?_
  refine v_bipushN K 33 rfl dX10_unit_6 ?_
  refine v_icmp_eq (tgt := 17) K dX10_unit_8 rfl (fun c1 => ?_) (fun c1 => ?_)
  · skip
    have eo : hereP bt n s = nI 33 := c1
    obtain ⟨hl0, hn0⟩ := hereP_lt eo (nI_m1 (by decide))
    refine v_aload_n K dX10_unit_17 rfl ?_
    refine v_geti (x := nI s.2.2) K fX10_94 sh_118 pl_118 hM.1.2.2 dX10_unit_18 ?_
    refine v_iconstN K 5 rfl dX10_unit_21 ?_
    refine v_icmpN_ne (tgt := 30) K (by omega) (by omega) dX10_unit_22 rfl (fun c2 => ?_) (fun c2 => ?_)
    · skip
      refine v_aload_n K dX10_unit_30 rfl ?_
      refine v_dup K dX10_unit_31 rfl ?_
      refine v_geti (x := nI s.2.2) K fX10_94 sh_118 pl_118 hM.1.2.2 dX10_unit_32 ?_
      refine v_iconstN K 1 rfl dX10_unit_35 ?_
      refine v_iaddN K dX10_unit_36 ?_
      refine v_puti K pX10_94 sh_118 pl_118 dX10_unit_37 ?_
      have hMm1 : PM (u2 h 118 9 (nI (s.2.2 + 1))) n (openP s) := hM.opn (by have := hO.2.2; omega)
      have hFm1 : FrP h (u2 h 118 9 (nI (s.2.2 + 1))) := FrP.u (FrP.r (h := h)) (by omega)
      have hXm1 := PX.fr hX hFm1
      refine v_aload_n K dX10_unit_40 rfl ?_
      refine v_dup K dX10_unit_41 rfl ?_
      refine v_geti (x := nI ((openP s).1)) K fX10_55 sh_118 pl_118 hMm1.1.1 dX10_unit_42 ?_
      refine v_iconstN K 1 rfl dX10_unit_45 ?_
      refine v_iaddN K dX10_unit_46 ?_
      refine v_puti K pX10_55 sh_118 pl_118 dX10_unit_47 ?_
      have hMm2 : PM (u2 (u2 h 118 9 (nI (s.2.2 + 1))) 118 6 (nI ((openP s).1 + 1))) n (advP (openP s)) := hMm1.adv hl0
      have hFm2 : FrP h (u2 (u2 h 118 9 (nI (s.2.2 + 1))) 118 6 (nI ((openP s).1 + 1))) := FrP.u hFm1 (by omega)
      have hXm2 := PX.fr hX hFm2
      refine v_iload_n K dX10_unit_50 rfl ?_
      refine v_bipushN K 40 rfl dX10_unit_51 ?_
      refine v_icmp_ne (tgt := 63) K dX10_unit_53 rfl (fun c3 => ?_) (fun c3 => ?_)
      · skip
        refine v_aload_n K dX10_unit_63 rfl ?_
        refine v_callV (As := []) K (c_X10_unit_2 ((u2 (u2 h 118 9 (nI (s.2.2 + 1))) 118 6 (nI ((openP s).1 + 1)))) bt n B u nm ((advP (openP s))) hXm2 hMm2 ⟨hl0, hn0, by show s.2.2 + 1 + 2 = 5; have := hO.2.2; omega⟩) lX10_91 ck_X10 rfl sh_118 pl_118 rfl ⟨by decide, by decide⟩ (Nat.le_of_ble_eq_true rfl) dX10_unit_64 (fun r2 h2 hp2 => ?_) rfl
        obtain ⟨⟨v1, rfl, hvq1⟩, hMq1, hFaq1⟩ := hp2
        have hFq1 := FrP.t hFm2 hFaq1
        have hXq1 := PX.fr hX hFq1
        have hGq1 : GP n (advP (openP s)) ((unitP bt n u 2) (advP (openP s))).2 := (unit_good (bt := bt) (n := n) (u := u) 2) _ ⟨hl0, hn0, by show s.2.2 + 1 + 2 = 5; have := hO.2.2; omega⟩
        refine v_some ?_
        have hG1 := hGq1
        have hv1 := hvq1
        have ho1 : s.2.2 + 1 ≤ ((unitP bt n u 2) (advP (openP s))).2.2.2 := hG1.2.2.2.1
        refine v_istore_n (lv2 := [(2, .int v1), (1, .int (hereP bt n s)), (0, .ref 118)]) K dX10_unit_67 (by decide) rfl ?_
        refine v_iload_n K dX10_unit_68 rfl ?_
        refine v_bipushN K 40 rfl dX10_unit_69 ?_
        refine v_icmp_ne (tgt := 88) K dX10_unit_71 rfl (fun c4 => ?_) (fun c4 => ?_)
        · skip
          refine v_aload_n K dX10_unit_88 rfl ?_
          refine v_dup K dX10_unit_89 rfl ?_
          refine v_geti (x := nI (((unitP bt n u 2) (advP (openP s))).2.2.2)) K fX10_94 sh_118 pl_118 hMq1.1.2.2 dX10_unit_90 ?_
          refine v_iconstN K 1 rfl dX10_unit_93 ?_
          refine v_isubN K (by first | exact Nat.le_trans (Nat.succ_le_succ (Nat.zero_le _)) ho1 | (have := ho1; omega)) dX10_unit_94 ?_
          refine v_puti K pX10_94 sh_118 pl_118 dX10_unit_95 ?_
          have hMm3 : PM (u2 h2 118 9 (nI (((unitP bt n u 2) (advP (openP s))).2.2.2 - 1))) n (closeP ((unitP bt n u 2) (advP (openP s))).2) := hMq1.cls
          have hFm3 : FrP h (u2 h2 118 9 (nI (((unitP bt n u 2) (advP (openP s))).2.2.2 - 1))) := FrP.u hFq1 (by omega)
          have hXm3 := PX.fr hX hFm3
          refine v_iload_n K dX10_unit_98 rfl ?_
          refine v_bipushN K 40 rfl dX10_unit_99 ?_
          refine v_icmp_ne (tgt := 108) K dX10_unit_101 rfl (fun c5 => ?_) (fun c5 => ?_)
          · skip
            refine v_iload_n K dX10_unit_108 rfl ?_
            refine v_if_ne (tgt := 116) K dX10_unit_109 rfl (fun c6 => ?_) (fun c6 => ?_)
            · skip
              refine v_iconstN K 0 rfl dX10_unit_116 ?_
              refine v_iret K dX10_unit_117 ?_
              have e2 : (unitP bt n u 3) s = (((unitP bt n u 2) (advP (openP s))).1 ++ [(-33)], closeP ((unitP bt n u 2) (advP (openP s))).2) := by rw [unit_e3, if_neg (fun q => absurd (q.symm.trans eo) (by decide)), if_pos eo]
              show (∃ v, _ ∧ (((unitP bt n u 3) s).2.2.1 = none → ∀ st, runL ((unitP bt n u 3) s).1 nm st = v :: st)) ∧ PM _ n ((unitP bt n u 3) s).2 ∧ _
              rw [e2]
              refine ⟨⟨_, rfl, fun q st => ?_⟩, hMm3, hFm3⟩
              rw [runL_app, hv1 q, run_bang, b2i_f c6]
              rfl
            · skip
              refine v_iconstN K 1 rfl dX10_unit_112 ?_
              refine v_goto (tgt := 117) K dX10_unit_113 rfl ?_
              refine v_iret K dX10_unit_117 ?_
              have e2 : (unitP bt n u 3) s = (((unitP bt n u 2) (advP (openP s))).1 ++ [(-33)], closeP ((unitP bt n u 2) (advP (openP s))).2) := by rw [unit_e3, if_neg (fun q => absurd (q.symm.trans eo) (by decide)), if_pos eo]
              show (∃ v, _ ∧ (((unitP bt n u 3) s).2.2.1 = none → ∀ st, runL ((unitP bt n u 3) s).1 nm st = v :: st)) ∧ PM _ n ((unitP bt n u 3) s).2 ∧ _
              rw [e2]
              refine ⟨⟨_, rfl, fun q st => ?_⟩, hMm3, hFm3⟩
              rw [runL_app, hv1 q, run_bang, b2i_t c6]
              rfl
          · skip
            exact absurd (c5.symm.trans eo) (by decide)
        · skip
          exact absurd (c4.symm.trans eo) (by decide)
      · skip
        exact absurd (c3.symm.trans eo) (by decide)
    · skip
      exfalso; have := hO.2.2; omega
  · skip
    refine v_iload_n K dX10_unit_11 rfl ?_
    refine v_bipushN K 40 rfl dX10_unit_12 ?_
    refine v_icmp_ne (tgt := 118) K dX10_unit_14 rfl (fun c7 => ?_) (fun c7 => ?_)
    · skip
      have eL : unitP bt n u 3 s = leafP bt n u s := by rw [unit_e3, if_neg c7, if_neg c1]
      refine v_aload_n K dX10_unit_118 rfl ?_
      refine v_iload_n K dX10_unit_119 rfl ?_
      refine v_callV (As := [.int (hereP bt n s)]) K (c_X10_nameOf h bt n B u nm s (hereP bt n s) hX hM) lX10_103 ck_X10 rfl sh_118 pl_118 rfl ⟨by decide, by decide⟩ (Nat.le_of_ble_eq_true rfl) dX10_unit_120 (fun r3 h3 hp3 => ?_) rfl
      obtain ⟨rfl, rfl⟩ := hp3
      refine v_some ?_
      refine v_nm (fun kk e_kk => ?_)
      refine v_istore_n (lv2 := [(2, .int kk), (1, .int (hereP bt n s)), (0, .ref 118)]) K dX10_unit_123 (by decide) rfl ?_
      refine v_iload_n K dX10_unit_124 rfl ?_
      refine v_if_lt (tgt := 145) K dX10_unit_125 rfl (fun c8 => ?_) (fun c8 => ?_)
      · skip
        have hno := nm_none (o := nameP u (hereP bt n s)) (fun j hj => Nat.lt_of_lt_of_le (name_lt hj) nn_le) (by rw [← e_kk]; exact c8)
        refine v_iconstN K 0 rfl dX10_unit_145 ?_
        refine v_istore_n (lv2 := [(3, .int (nI 0)), (2, .int kk), (1, .int (hereP bt n s)), (0, .ref 118)]) K dX10_unit_146 (by decide) rfl ?_
        refine v_iconstN K 0 rfl dX10_unit_147 ?_
        refine v_istore (lv2 := [(4, .int (nI 0)), (3, .int (nI 0)), (2, .int kk), (1, .int (hereP bt n s)), (0, .ref 118)]) K dX10_unit_148 (by decide) rfl ?_
        have L150 : ∀ (mm : Nat) (f : Nat) (m : Nat) (t : PSt) (v : Int32) (h1 : Mm) (hfm : f + m = 4) (hO1 : OKs n 3 t) (hM1 : PM h1 n t) (hF1 : FrP h h1) (he : (digP bt n 4 (nI 0) s) = ((digP bt n f v t).1, (digP bt n f v t).2.1 + m, (digP bt n f v t).2.2)), f < mm → V κ (QM κ (132, ρ, GL, 0, 0) (P_X10_unit_3 h bt n B u nm s)) 5 (132, ρ, GL, 0, 0) h1 150 [(0, .ref 118), (1, .int (hereP bt n s)), (2, .int kk), (3, .int v), (4, .int (nI m))] [] := by
          intro mm
          induction mm with
          | zero => intro f m t v h1 hfm hO1 hM1 hF1 he hmm; exact absurd hmm (Nat.not_lt_zero _)
          | succ mm ih150 =>
            intro f m t v h1 hfm hO1 hM1 hF1 he hmm
            have hX1 := PX.fr hX hF1
            have htn := hM1.2.1
            refine v_iload K dX10_unit_150 rfl ?_
            refine v_iconstN K 4 rfl dX10_unit_152 ?_
            refine v_icmpN_ge (tgt := 202) K (by omega) (by omega) dX10_unit_153 rfl (fun c9 => ?_) (fun c9 => ?_)
            · skip
              obtain rfl : f = 0 := by omega
              have eD : (digP bt n 4 (nI 0) s) = (v, m, t) := by rw [he, digP]; simp
              refine v_iload K dX10_unit_202 rfl ?_
              refine v_ifN_ne (tgt := 214) K (by omega) dX10_unit_204 rfl (fun c10 => ?_) (fun c10 => ?_)
              · skip
                refine v_iload_n K dX10_unit_214 rfl ?_
                refine v_iret K dX10_unit_215 ?_
                have e2 : (unitP bt n u 3) s = ([v], t) := by rw [eL, leafP, hno]; dsimp only; rw [eD]; exact if_neg (by show ¬ m = 0; omega)
                show (∃ v, _ ∧ (((unitP bt n u 3) s).2.2.1 = none → ∀ st, runL ((unitP bt n u 3) s).1 nm st = v :: st)) ∧ PM _ n ((unitP bt n u 3) s).2 ∧ _
                rw [e2]
                obtain ⟨a, ha, ea⟩ := dig_val (bt := bt) (n := n) 4 0 (nI 0) s (by omega) ⟨0, by decide, rfl⟩
                rw [eD] at ea
                have ea2 : v = nI a := ea
                subst ea2
                exact ⟨⟨_, rfl, fun _ st => run_num ha⟩, hM1, hF1⟩
              · skip
                refine v_aload_n K dX10_unit_207 rfl ?_
                refine v_callV (As := []) K (c_X10_wrong h1 bt n B u nm t hX1 hM1) lX10_97 ck_X10 rfl sh_118 pl_118 rfl ⟨by decide, by decide⟩ (Nat.le_of_ble_eq_true rfl) dX10_unit_208 (fun r4 h4 hp4 => ?_) rfl
                obtain ⟨rfl, hMq2, hFaq2⟩ := hp4
                have hFq2 := FrP.t hF1 hFaq2
                have hXq2 := PX.fr hX hFq2
                refine v_some ?_
                refine v_goto (tgt := 215) K dX10_unit_211 rfl ?_
                refine v_iret K dX10_unit_215 ?_
                have e2 : (unitP bt n u 3) s = ([], wrongP t) := by rw [eL, leafP, hno]; dsimp only; rw [eD]; exact if_pos (by show m = 0; omega)
                show (∃ v, _ ∧ (((unitP bt n u 3) s).2.2.1 = none → ∀ st, runL ((unitP bt n u 3) s).1 nm st = v :: st)) ∧ PM _ n ((unitP bt n u 3) s).2 ∧ _
                rw [e2]
                exact ⟨⟨_, rfl, fun q => absurd q wrong_some⟩, hMq2, hFq2⟩
            · skip
              obtain ⟨f, rfl⟩ : ∃ f0, f = f0 + 1 := ⟨f - 1, by omega⟩
              refine v_aload_n K dX10_unit_156 rfl ?_
              refine v_callV (As := []) K (c_X10_here h1 bt n B u nm t hX1 hM1) lX10_68 ck_X10 rfl sh_118 pl_118 rfl ⟨by decide, by decide⟩ (Nat.le_of_ble_eq_true rfl) dX10_unit_157 (fun r5 h5 hp5 => ?_) rfl
              obtain ⟨rfl, rfl⟩ := hp5
              refine v_some ?_
              refine v_i2l K dX10_unit_160 rfl ?_
              refine v_ldc2 K kX10_107 dX10_unit_161 ?_
              refine v_topL (y := (nI 48).toInt64) (by decide) ?_
              refine v_ldc2 K kX10_109 dX10_unit_164 ?_
              refine v_topL (y := (nI 57).toInt64) (by decide) ?_
              refine v_callS (As := [.long (hereP bt n t).toInt64, .long (nI 48).toInt64, .long (nI 57).toInt64]) K (c_X10_in h1 (hereP bt n t) (nI 48) (nI 57)) lX10_51 rfl ⟨by decide, by decide⟩ (Nat.le_of_ble_eq_true rfl) dX10_unit_167 (fun r6 h6 hp6 => ?_) rfl
              obtain ⟨rfl, rfl⟩ := hp6
              refine v_some ?_
              refine v_ifB_eq (tgt := 202) K dX10_unit_170 rfl (fun c11 => ?_) (fun c11 => ?_)
              · skip
                have eD : (digP bt n 4 (nI 0) s) = (v, m, t) := by rw [he, digP, if_neg c11]; simp
                refine v_iload K dX10_unit_202 rfl ?_
                refine v_ifN_ne (tgt := 214) K (by omega) dX10_unit_204 rfl (fun c12 => ?_) (fun c12 => ?_)
                · skip
                  refine v_iload_n K dX10_unit_214 rfl ?_
                  refine v_iret K dX10_unit_215 ?_
                  have e2 : (unitP bt n u 3) s = ([v], t) := by rw [eL, leafP, hno]; dsimp only; rw [eD]; exact if_neg (by show ¬ m = 0; omega)
                  show (∃ v, _ ∧ (((unitP bt n u 3) s).2.2.1 = none → ∀ st, runL ((unitP bt n u 3) s).1 nm st = v :: st)) ∧ PM _ n ((unitP bt n u 3) s).2 ∧ _
                  rw [e2]
                  obtain ⟨a, ha, ea⟩ := dig_val (bt := bt) (n := n) 4 0 (nI 0) s (by omega) ⟨0, by decide, rfl⟩
                  rw [eD] at ea
                  have ea2 : v = nI a := ea
                  subst ea2
                  exact ⟨⟨_, rfl, fun _ st => run_num ha⟩, hM1, hF1⟩
                · skip
                  refine v_aload_n K dX10_unit_207 rfl ?_
                  refine v_callV (As := []) K (c_X10_wrong h1 bt n B u nm t hX1 hM1) lX10_97 ck_X10 rfl sh_118 pl_118 rfl ⟨by decide, by decide⟩ (Nat.le_of_ble_eq_true rfl) dX10_unit_208 (fun r7 h7 hp7 => ?_) rfl
                  obtain ⟨rfl, hMq3, hFaq3⟩ := hp7
                  have hFq3 := FrP.t hF1 hFaq3
                  have hXq3 := PX.fr hX hFq3
                  refine v_some ?_
                  refine v_goto (tgt := 215) K dX10_unit_211 rfl ?_
                  refine v_iret K dX10_unit_215 ?_
                  have e2 : (unitP bt n u 3) s = ([], wrongP t) := by rw [eL, leafP, hno]; dsimp only; rw [eD]; exact if_pos (by show m = 0; omega)
                  show (∃ v, _ ∧ (((unitP bt n u 3) s).2.2.1 = none → ∀ st, runL ((unitP bt n u 3) s).1 nm st = v :: st)) ∧ PM _ n ((unitP bt n u 3) s).2 ∧ _
                  rw [e2]
                  exact ⟨⟨_, rfl, fun q => absurd q wrong_some⟩, hMq3, hFq3⟩
              · skip
                obtain ⟨hl1, hn1⟩ := hereP_lt (c := hereP bt n t) rfl (fun e => by rw [e] at c11; exact absurd c11.1 (by decide))
                refine v_bipushN K 10 rfl dX10_unit_173 ?_
                refine v_iload_n K dX10_unit_175 rfl ?_
                refine v_imul K dX10_unit_176 ?_
                refine v_aload_n K dX10_unit_177 rfl ?_
                refine v_callV (As := []) K (c_X10_here h1 bt n B u nm t hX1 hM1) lX10_68 ck_X10 rfl sh_118 pl_118 rfl ⟨by decide, by decide⟩ (Nat.le_of_ble_eq_true rfl) dX10_unit_178 (fun r8 h8 hp8 => ?_) rfl
                obtain ⟨rfl, rfl⟩ := hp8
                refine v_some ?_
                refine v_iadd K dX10_unit_181 ?_
                refine v_bipushN K 48 rfl dX10_unit_182 ?_
                refine v_isub K dX10_unit_184 ?_
                refine v_nm (fun x1 e_x1 => ?_)
                refine v_istore_n (lv2 := [(3, .int x1), (0, .ref 118), (1, .int (hereP bt n s)), (2, .int kk), (4, .int (nI m))]) K dX10_unit_185 (by decide) rfl ?_
                refine v_aload_n K dX10_unit_186 rfl ?_
                refine v_dup K dX10_unit_187 rfl ?_
                refine v_geti (x := nI t.1) K fX10_55 sh_118 pl_118 hM1.1.1 dX10_unit_188 ?_
                refine v_iconstN K 1 rfl dX10_unit_191 ?_
                refine v_iaddN K dX10_unit_192 ?_
                refine v_puti K pX10_55 sh_118 pl_118 dX10_unit_193 ?_
                have hMm4 : PM (u2 h1 118 6 (nI (t.1 + 1))) n (advP t) := hM1.adv hl1
                have hFm4 : FrP h (u2 h1 118 6 (nI (t.1 + 1))) := FrP.u hF1 (by omega)
                have hXm4 := PX.fr hX hFm4
                refine v_iincN (lv2 := [(4, .int (nI (m + 1))), (3, .int x1), (0, .ref 118), (1, .int (hereP bt n s)), (2, .int kk)]) K 1 dX10_unit_196 rfl rfl (by decide) rfl ?_
                refine v_goto (tgt := 150) K dX10_unit_199 rfl ?_
                refine v_sub (lv2 := [(0, .ref 118), (1, .int (hereP bt n s)), (2, .int kk), (3, .int x1), (4, .int (nI (m + 1)))]) (by simp) ?_
                exact ih150 f (m + 1) ((advP t)) x1 ((u2 h1 118 6 (nI (t.1 + 1)))) (by omega) (by exact hO1.adv hl1) (by exact hMm4) (by exact hFm4) (by rw [he, digP, if_pos c11, ← e_x1]; exact Prod.ext rfl (Prod.ext (by show _ + 1 + m = _ + (m + 1); omega) rfl)) (by omega)
        refine v_sub (lv2 := [(0, .ref 118), (1, .int (hereP bt n s)), (2, .int kk), (3, .int (nI 0)), (4, .int (nI 0))]) (by simp) ?_
        exact L150 (4 + 1) 4 0 s (nI 0) h (by rfl) (by exact hO) (by exact hM) (by exact (FrP.r (h := h))) (by rfl) (Nat.lt_succ_self _)
      · skip
        obtain ⟨j, hj⟩ := nm_some (o := nameP u (hereP bt n s)) (by rw [← e_kk]; exact c8)
        have hj5 : j < 5 := Nat.lt_of_lt_of_le (name_lt hj) nn_le
        rw [hj] at e_kk
        subst e_kk
        obtain ⟨hl0, hn0⟩ := hereP_lt (c := hereP bt n s) rfl (name_ne hj)
        show V κ (QM κ (132, ρ, GL, 0, 0) (P_X10_unit_3 h bt n B u nm s)) 5 (132, ρ, GL, 0, 0) h 128 [(2, .int (nI j)), (1, .int (hereP bt n s)), (0, .ref 118)] []
        refine v_aload_n K dX10_unit_128 rfl ?_
        refine v_dup K dX10_unit_129 rfl ?_
        refine v_geti (x := nI s.1) K fX10_55 sh_118 pl_118 hM.1.1 dX10_unit_130 ?_
        refine v_iconstN K 1 rfl dX10_unit_133 ?_
        refine v_iaddN K dX10_unit_134 ?_
        refine v_puti K pX10_55 sh_118 pl_118 dX10_unit_135 ?_
        have hMm5 : PM (u2 h 118 6 (nI (s.1 + 1))) n (advP s) := hM.adv hl0
        have hFm5 : FrP h (u2 h 118 6 (nI (s.1 + 1))) := FrP.u (FrP.r (h := h)) (by omega)
        have hXm5 := PX.fr hX hFm5
        refine v_aload_n K dX10_unit_138 rfl ?_
        refine v_getr (q := 123) K fX10_22 sh_118 pl_118 gl_118_11 dX10_unit_139 ?_
        refine v_iload_n K dX10_unit_142 rfl ?_
        refine v_iald (x := nm j) K sh_123 pl_123 (by omega) (hXm5.2.2.2.2.2.2.2 j (by omega)) dX10_unit_143 ?_
        refine v_iret K dX10_unit_144 ?_
        have e2 : (unitP bt n u 3) s = ([(-1) - nI j], advP s) := by rw [eL, leafP, hj]
        show (∃ v, _ ∧ (((unitP bt n u 3) s).2.2.1 = none → ∀ st, runL ((unitP bt n u 3) s).1 nm st = v :: st)) ∧ PM _ n ((unitP bt n u 3) s).2 ∧ _
        rw [e2]
        exact ⟨⟨_, rfl, fun _ st => run_name hj5⟩, hMm5, hFm5⟩
    · skip
      have eo : hereP bt n s = nI 40 := c7
      obtain ⟨hl0, hn0⟩ := hereP_lt eo (nI_m1 (by decide))
      refine v_aload_n K dX10_unit_17 rfl ?_
      refine v_geti (x := nI s.2.2) K fX10_94 sh_118 pl_118 hM.1.2.2 dX10_unit_18 ?_
      refine v_iconstN K 5 rfl dX10_unit_21 ?_
      refine v_icmpN_ne (tgt := 30) K (by omega) (by omega) dX10_unit_22 rfl (fun c13 => ?_) (fun c13 => ?_)
      · skip
        refine v_aload_n K dX10_unit_30 rfl ?_
        refine v_dup K dX10_unit_31 rfl ?_
        refine v_geti (x := nI s.2.2) K fX10_94 sh_118 pl_118 hM.1.2.2 dX10_unit_32 ?_
        refine v_iconstN K 1 rfl dX10_unit_35 ?_
        refine v_iaddN K dX10_unit_36 ?_
        refine v_puti K pX10_94 sh_118 pl_118 dX10_unit_37 ?_
        have hMm6 : PM (u2 h 118 9 (nI (s.2.2 + 1))) n (openP s) := hM.opn (by have := hO.2.2; omega)
        have hFm6 : FrP h (u2 h 118 9 (nI (s.2.2 + 1))) := FrP.u (FrP.r (h := h)) (by omega)
        have hXm6 := PX.fr hX hFm6
        refine v_aload_n K dX10_unit_40 rfl ?_
        refine v_dup K dX10_unit_41 rfl ?_
        refine v_geti (x := nI ((openP s).1)) K fX10_55 sh_118 pl_118 hMm6.1.1 dX10_unit_42 ?_
        refine v_iconstN K 1 rfl dX10_unit_45 ?_
        refine v_iaddN K dX10_unit_46 ?_
        refine v_puti K pX10_55 sh_118 pl_118 dX10_unit_47 ?_
        have hMm7 : PM (u2 (u2 h 118 9 (nI (s.2.2 + 1))) 118 6 (nI ((openP s).1 + 1))) n (advP (openP s)) := hMm6.adv hl0
        have hFm7 : FrP h (u2 (u2 h 118 9 (nI (s.2.2 + 1))) 118 6 (nI ((openP s).1 + 1))) := FrP.u hFm6 (by omega)
        have hXm7 := PX.fr hX hFm7
        refine v_iload_n K dX10_unit_50 rfl ?_
        refine v_bipushN K 40 rfl dX10_unit_51 ?_
        refine v_icmp_ne (tgt := 63) K dX10_unit_53 rfl (fun c14 => ?_) (fun c14 => ?_)
        · skip
          exact absurd eo c14
        · skip
          refine v_aload_n K dX10_unit_56 rfl ?_
          refine v_callV (As := []) K (c_X10_either_2 ((u2 (u2 h 118 9 (nI (s.2.2 + 1))) 118 6 (nI ((openP s).1 + 1)))) bt n B u nm ((advP (openP s))) hXm7 hMm7 ⟨hl0, hn0, by show s.2.2 + 1 + 2 = 5; have := hO.2.2; omega⟩) lX10_100 ck_X10 rfl sh_118 pl_118 rfl ⟨by decide, by decide⟩ (Nat.le_of_ble_eq_true rfl) dX10_unit_57 (fun r9 h9 hp9 => ?_) rfl
          obtain ⟨⟨v2, rfl, hvq4⟩, hMq4, hFaq4⟩ := hp9
          have hFq4 := FrP.t hFm7 hFaq4
          have hXq4 := PX.fr hX hFq4
          have hGq4 : GP n (advP (openP s)) ((eitherP bt n (unitP bt n u 2)) (advP (openP s))).2 := (either_good (unit_good (bt := bt) (n := n) (u := u) 2)) _ ⟨hl0, hn0, by show s.2.2 + 1 + 2 = 5; have := hO.2.2; omega⟩
          refine v_some ?_
          refine v_goto (tgt := 67) K dX10_unit_60 rfl ?_
          have hG1 := hGq4
          have hv1 := hvq4
          have ho1 : s.2.2 + 1 ≤ ((eitherP bt n (unitP bt n u 2)) (advP (openP s))).2.2.2 := hG1.2.2.2.1
          refine v_istore_n (lv2 := [(2, .int v2), (1, .int (hereP bt n s)), (0, .ref 118)]) K dX10_unit_67 (by decide) rfl ?_
          refine v_iload_n K dX10_unit_68 rfl ?_
          refine v_bipushN K 40 rfl dX10_unit_69 ?_
          refine v_icmp_ne (tgt := 88) K dX10_unit_71 rfl (fun c15 => ?_) (fun c15 => ?_)
          · skip
            exact absurd eo c15
          · skip
            refine v_aload_n K dX10_unit_74 rfl ?_
            refine v_bipushN K 41 rfl dX10_unit_75 ?_
            refine v_callV (As := [.int (nI 41)]) K (c_X10_takes h9 bt n B u nm (((eitherP bt n (unitP bt n u 2)) (advP (openP s))).2) 41 hXq4 hMq4 (by decide)) lX10_78 ck_X10 rfl sh_118 pl_118 rfl ⟨by decide, by decide⟩ (Nat.le_of_ble_eq_true rfl) dX10_unit_77 (fun r10 h10 hp10 => ?_) rfl
            obtain ⟨rfl, hMq5, hFaq5⟩ := hp10
            have hFq5 := FrP.t hFq4 hFaq5
            have hXq5 := PX.fr hX hFq5
            refine v_some ?_
            refine v_ifB_ne (tgt := 88) K dX10_unit_80 rfl (fun c16 => ?_) (fun c16 => ?_)
            · skip
              rw [tk_y c16] at hMq5
              refine v_aload_n K dX10_unit_88 rfl ?_
              refine v_dup K dX10_unit_89 rfl ?_
              refine v_geti (x := nI ((advP ((eitherP bt n (unitP bt n u 2)) (advP (openP s))).2).2.2)) K fX10_94 sh_118 pl_118 hMq5.1.2.2 dX10_unit_90 ?_
              refine v_iconstN K 1 rfl dX10_unit_93 ?_
              refine v_isubN K (by first | exact Nat.le_trans (Nat.succ_le_succ (Nat.zero_le _)) ho1 | (have := ho1; omega)) dX10_unit_94 ?_
              refine v_puti K pX10_94 sh_118 pl_118 dX10_unit_95 ?_
              have hMm8 : PM (u2 h10 118 9 (nI ((advP ((eitherP bt n (unitP bt n u 2)) (advP (openP s))).2).2.2 - 1))) n (closeP (advP ((eitherP bt n (unitP bt n u 2)) (advP (openP s))).2)) := hMq5.cls
              have hFm8 : FrP h (u2 h10 118 9 (nI ((advP ((eitherP bt n (unitP bt n u 2)) (advP (openP s))).2).2.2 - 1))) := FrP.u hFq5 (by omega)
              have hXm8 := PX.fr hX hFm8
              refine v_iload_n K dX10_unit_98 rfl ?_
              refine v_bipushN K 40 rfl dX10_unit_99 ?_
              refine v_icmp_ne (tgt := 108) K dX10_unit_101 rfl (fun c17 => ?_) (fun c17 => ?_)
              · skip
                exact absurd eo c17
              · skip
                refine v_iload_n K dX10_unit_104 rfl ?_
                refine v_goto (tgt := 117) K dX10_unit_105 rfl ?_
                refine v_iret K dX10_unit_117 ?_
                have e2 : (unitP bt n u 3) s = (((eitherP bt n (unitP bt n u 2)) (advP (openP s))).1, closeP (advP ((eitherP bt n (unitP bt n u 2)) (advP (openP s))).2)) := by rw [unit_e3, if_pos eo, if_pos c16]
                show (∃ v, _ ∧ (((unitP bt n u 3) s).2.2.1 = none → ∀ st, runL ((unitP bt n u 3) s).1 nm st = v :: st)) ∧ PM _ n ((unitP bt n u 3) s).2 ∧ _
                rw [e2]
                exact ⟨⟨_, rfl, fun q => hv1 q⟩, hMm8, hFm8⟩
            · skip
              rw [tk_n c16] at hMq5
              refine v_aload_n K dX10_unit_83 rfl ?_
              refine v_callV (As := []) K (c_X10_wrong h10 bt n B u nm (((eitherP bt n (unitP bt n u 2)) (advP (openP s))).2) hXq5 hMq5) lX10_97 ck_X10 rfl sh_118 pl_118 rfl ⟨by decide, by decide⟩ (Nat.le_of_ble_eq_true rfl) dX10_unit_84 (fun r11 h11 hp11 => ?_) rfl
              obtain ⟨rfl, hMq6, hFaq6⟩ := hp11
              have hFq6 := FrP.t hFq5 hFaq6
              have hXq6 := PX.fr hX hFq6
              refine v_some ?_
              refine v_iret K dX10_unit_87 ?_
              have e2 : (unitP bt n u 3) s = ([], wrongP ((eitherP bt n (unitP bt n u 2)) (advP (openP s))).2) := by rw [unit_e3, if_pos eo, if_neg c16]
              show (∃ v, _ ∧ (((unitP bt n u 3) s).2.2.1 = none → ∀ st, runL ((unitP bt n u 3) s).1 nm st = v :: st)) ∧ PM _ n ((unitP bt n u 3) s).2 ∧ _
              rw [e2]
              exact ⟨⟨_, rfl, fun q => absurd q wrong_some⟩, hMq6, hFq6⟩
      · skip
        exfalso; have := hO.2.2; omega

abbrev P_X10_product_3 (h : Mm) (bt : Nat → Int32) (n B u : Nat) (nm : Nat → Int32) (s : PSt) : Option Value → Mm → Prop := fun r h2 => (∃ v, r = some (.int v) ∧ (((prodP bt n (unitP bt n u 3)) s).2.2.1 = none → ∀ st, runL ((prodP bt n (unitP bt n u 3)) s).1 nm st = v :: st)) ∧ PM h2 n ((prodP bt n (unitP bt n u 3)) s).2 ∧ FrP h h2
theorem c_X10_product_3 {l : Launch} (h : Mm) (bt : Nat → Int32) (n B u : Nat) (nm : Nat → Int32) (s : PSt) (hX : PX h bt n B u nm) (hM : PM h n s) (hO : OKs n 3 s) : Con l yX10_product cX10_product 4 (some .int) 20 460 132 GL h [.ref 118] (P_X10_product_3 h bt n B u nm s) := by
  refine Con.ofV (own := "FoxRoundsModel") (nm := "product") rfl rfl (by decide) (Nat.le_of_ble_eq_true rfl) ?_
  intro κ ρ hkl K
  subst hkl
  show V κ (QM κ (132, ρ, GL, 0, 0) (P_X10_product_3 h bt n B u nm s)) 4 (132, ρ, GL, 0, 0) h 0 [(0, .ref 118)] []
  have hn50 := hX.2.2.2.2.2.1
  have hBn := hX.2.2.2.2.1
  have hsn := hM.2.1
  have hs5 := hM.2.2.1
  refine v_aload_n K dX10_product_0 rfl ?_
  refine v_callV (As := []) K (c_X10_unit_3 h bt n B u nm s hX hM hO) lX10_91 ck_X10 rfl sh_118 pl_118 rfl ⟨by decide, by decide⟩ (Nat.le_of_ble_eq_true rfl) dX10_product_1 (fun r1 h1 hp1 => ?_) rfl
  obtain ⟨⟨v1, rfl, hvq1⟩, hMq1, hFaq1⟩ := hp1
  have hFq1 := FrP.t (FrP.r (h := h)) hFaq1
  have hXq1 := PX.fr hX hFq1
  have hGq1 : GP n s ((unitP bt n u 3) s).2 := (unit_good (bt := bt) (n := n) (u := u) 3) _ hO
  refine v_some ?_
  refine v_istore_n (lv2 := [(1, .int v1), (0, .ref 118)]) K dX10_product_4 (by decide) rfl ?_
  have L5 : ∀ (mm : Nat) (f : Nat) (cs : List Int32) (t : PSt) (v : Int32) (h1 : Mm) (hG : GP n s t) (hM1 : PM h1 n t) (hF1 : FrP h h1) (hv : t.2.1 = none → ∀ st, runL cs nm st = v :: st) (he : (prodP bt n (unitP bt n u 3)) s = loopP bt n [nI 42, nI 47, nI 37] (unitP bt n u 3) f cs t) (hfu : n + 1 ≤ f + t.1), f < mm → V κ (QM κ (132, ρ, GL, 0, 0) (P_X10_product_3 h bt n B u nm s)) 4 (132, ρ, GL, 0, 0) h1 5 [(0, .ref 118), (1, .int v)] [] := by
    intro mm
    induction mm with
    | zero => intro f cs t v h1 hG hM1 hF1 hv he hfu hmm; exact absurd hmm (Nat.not_lt_zero _)
    | succ mm ih5 =>
      intro f cs t v h1 hG hM1 hF1 hv he hfu hmm
      have hX1 := PX.fr hX hF1
      have htn := hM1.2.1
      have ht5 := hM1.2.2.1
      obtain ⟨f, rfl⟩ : ∃ f0, f = f0 + 1 := ⟨f - 1, by omega⟩
      refine v_aload_n K dX10_product_5 rfl ?_
      refine v_callV (As := []) K (c_X10_here h1 bt n B u nm t hX1 hM1) lX10_68 ck_X10 rfl sh_118 pl_118 rfl ⟨by decide, by decide⟩ (Nat.le_of_ble_eq_true rfl) dX10_product_6 (fun r2 h2 hp2 => ?_) rfl
      obtain ⟨rfl, rfl⟩ := hp2
      refine v_some ?_
      refine v_bipushN K 42 rfl dX10_product_9 ?_
      refine v_icmp_eq (tgt := 32) K dX10_product_11 rfl (fun c1 => ?_) (fun c1 => ?_)
      · skip
        have eo : hereP bt n t = nI 42 := c1
        obtain ⟨hl0, hn0⟩ := hereP_lt eo (nI_m1 (by decide))
        have hG0 := hG
        refine v_aload_n K dX10_product_32 rfl ?_
        refine v_callV (As := []) K (c_X10_here h1 bt n B u nm t hX1 hM1) lX10_68 ck_X10 rfl sh_118 pl_118 rfl ⟨by decide, by decide⟩ (Nat.le_of_ble_eq_true rfl) dX10_product_33 (fun r3 h3 hp3 => ?_) rfl
        obtain ⟨rfl, rfl⟩ := hp3
        refine v_some ?_
        refine v_istore_n (lv2 := [(2, .int (hereP bt n t)), (0, .ref 118), (1, .int v)]) K dX10_product_36 (by decide) rfl ?_
        refine v_aload_n K dX10_product_37 rfl ?_
        refine v_dup K dX10_product_38 rfl ?_
        refine v_geti (x := nI t.1) K fX10_55 sh_118 pl_118 hM1.1.1 dX10_product_39 ?_
        refine v_iconstN K 1 rfl dX10_product_42 ?_
        refine v_iaddN K dX10_product_43 ?_
        refine v_puti K pX10_55 sh_118 pl_118 dX10_product_44 ?_
        have hMm1 : PM (u2 h1 118 6 (nI (t.1 + 1))) n (advP t) := hM1.adv hl0
        have hFm1 : FrP h (u2 h1 118 6 (nI (t.1 + 1))) := FrP.u hF1 (by omega)
        have hXm1 := PX.fr hX hFm1
        refine v_aload_n K dX10_product_47 rfl ?_
        refine v_callV (As := []) K (c_X10_unit_3 ((u2 h1 118 6 (nI (t.1 + 1)))) bt n B u nm ((advP t)) hXm1 hMm1 ((hO.on hG0 hn0).adv hl0)) lX10_91 ck_X10 rfl sh_118 pl_118 rfl ⟨by decide, by decide⟩ (Nat.le_of_ble_eq_true rfl) dX10_product_48 (fun r4 h4 hp4 => ?_) rfl
        obtain ⟨⟨v2, rfl, hvq2⟩, hMq2, hFaq2⟩ := hp4
        have hFq2 := FrP.t hFm1 hFaq2
        have hXq2 := PX.fr hX hFq2
        have hGq2 : GP n (advP t) ((unitP bt n u 3) (advP t)).2 := (unit_good (bt := bt) (n := n) (u := u) 3) _ ((hO.on hG0 hn0).adv hl0)
        refine v_some ?_
        refine v_istore_n (lv2 := [(3, .int v2), (2, .int (hereP bt n t)), (0, .ref 118), (1, .int v)]) K dX10_product_51 (by decide) rfl ?_
        refine v_iload_n K dX10_product_52 rfl ?_
        refine v_bipushN K 42 rfl dX10_product_53 ?_
        refine v_icmp_ne (tgt := 64) K dX10_product_55 rfl (fun c2 => ?_) (fun c2 => ?_)
        · skip
          exact absurd eo c2
        · skip
          refine v_iload_n K dX10_product_58 rfl ?_
          refine v_iload_n K dX10_product_59 rfl ?_
          refine v_imul K dX10_product_60 ?_
          refine v_goto (tgt := 87) K dX10_product_61 rfl ?_
          refine v_top (y := joinR (nI 42) v v2) (by rw [j42]) ?_
          refine v_istore_n (lv2 := [(1, .int (joinR (nI 42) v v2)), (3, .int v2), (2, .int (hereP bt n t)), (0, .ref 118)]) K dX10_product_87 (by decide) rfl ?_
          refine v_goto (tgt := 5) K dX10_product_88 rfl ?_
          refine v_sub (lv2 := [(0, .ref 118), (1, .int (joinR (nI 42) v v2))]) (by simp) ?_
          exact ih5 f ((cs ++ ((unitP bt n u 3) (advP t)).1 ++ [-hereP bt n t])) (((unitP bt n u 3) (advP t)).2) (joinR (nI 42) v v2) h4 (by exact hG0.tr hn0 ((GP.adv (hO.on hG0 hn0) hl0).tr hn0 hGq2)) (by exact hMq2) (by exact hFq2) (by intro hn2; rw [eo]; exact val_on (by decide) (hv hn0) (hvq2 hn2) rfl) (by rw [he, loop_on (by rw [eo]; decide)]) (by have h1 : (advP t).1 = t.1 + 1 := rfl; have h2 := hGq2.1; omega) (by omega)
      · skip
        refine v_aload_n K dX10_product_14 rfl ?_
        refine v_callV (As := []) K (c_X10_here h1 bt n B u nm t hX1 hM1) lX10_68 ck_X10 rfl sh_118 pl_118 rfl ⟨by decide, by decide⟩ (Nat.le_of_ble_eq_true rfl) dX10_product_15 (fun r5 h5 hp5 => ?_) rfl
        obtain ⟨rfl, rfl⟩ := hp5
        refine v_some ?_
        refine v_bipushN K 47 rfl dX10_product_18 ?_
        refine v_icmp_eq (tgt := 32) K dX10_product_20 rfl (fun c3 => ?_) (fun c3 => ?_)
        · skip
          have eo : hereP bt n t = nI 47 := c3
          obtain ⟨hl0, hn0⟩ := hereP_lt eo (nI_m1 (by decide))
          have hG0 := hG
          refine v_aload_n K dX10_product_32 rfl ?_
          refine v_callV (As := []) K (c_X10_here h1 bt n B u nm t hX1 hM1) lX10_68 ck_X10 rfl sh_118 pl_118 rfl ⟨by decide, by decide⟩ (Nat.le_of_ble_eq_true rfl) dX10_product_33 (fun r6 h6 hp6 => ?_) rfl
          obtain ⟨rfl, rfl⟩ := hp6
          refine v_some ?_
          refine v_istore_n (lv2 := [(2, .int (hereP bt n t)), (0, .ref 118), (1, .int v)]) K dX10_product_36 (by decide) rfl ?_
          refine v_aload_n K dX10_product_37 rfl ?_
          refine v_dup K dX10_product_38 rfl ?_
          refine v_geti (x := nI t.1) K fX10_55 sh_118 pl_118 hM1.1.1 dX10_product_39 ?_
          refine v_iconstN K 1 rfl dX10_product_42 ?_
          refine v_iaddN K dX10_product_43 ?_
          refine v_puti K pX10_55 sh_118 pl_118 dX10_product_44 ?_
          have hMm2 : PM (u2 h1 118 6 (nI (t.1 + 1))) n (advP t) := hM1.adv hl0
          have hFm2 : FrP h (u2 h1 118 6 (nI (t.1 + 1))) := FrP.u hF1 (by omega)
          have hXm2 := PX.fr hX hFm2
          refine v_aload_n K dX10_product_47 rfl ?_
          refine v_callV (As := []) K (c_X10_unit_3 ((u2 h1 118 6 (nI (t.1 + 1)))) bt n B u nm ((advP t)) hXm2 hMm2 ((hO.on hG0 hn0).adv hl0)) lX10_91 ck_X10 rfl sh_118 pl_118 rfl ⟨by decide, by decide⟩ (Nat.le_of_ble_eq_true rfl) dX10_product_48 (fun r7 h7 hp7 => ?_) rfl
          obtain ⟨⟨v3, rfl, hvq3⟩, hMq3, hFaq3⟩ := hp7
          have hFq3 := FrP.t hFm2 hFaq3
          have hXq3 := PX.fr hX hFq3
          have hGq3 : GP n (advP t) ((unitP bt n u 3) (advP t)).2 := (unit_good (bt := bt) (n := n) (u := u) 3) _ ((hO.on hG0 hn0).adv hl0)
          refine v_some ?_
          refine v_istore_n (lv2 := [(3, .int v3), (2, .int (hereP bt n t)), (0, .ref 118), (1, .int v)]) K dX10_product_51 (by decide) rfl ?_
          refine v_iload_n K dX10_product_52 rfl ?_
          refine v_bipushN K 42 rfl dX10_product_53 ?_
          refine v_icmp_ne (tgt := 64) K dX10_product_55 rfl (fun c4 => ?_) (fun c4 => ?_)
          · skip
            refine v_iload_n K dX10_product_64 rfl ?_
            refine v_if_ne (tgt := 72) K dX10_product_65 rfl (fun c5 => ?_) (fun c5 => ?_)
            · skip
              refine v_iload_n K dX10_product_72 rfl ?_
              refine v_bipushN K 47 rfl dX10_product_73 ?_
              refine v_icmp_ne (tgt := 84) K dX10_product_75 rfl (fun c6 => ?_) (fun c6 => ?_)
              · skip
                exact absurd eo c6
              · skip
                refine v_iload_n K dX10_product_78 rfl ?_
                refine v_iload_n K dX10_product_79 rfl ?_
                refine v_idiv K dX10_product_80 (by assumption) ?_
                refine v_goto (tgt := 87) K dX10_product_81 rfl ?_
                refine v_top (y := joinR (nI 47) v v3) (by rw [j47, if_neg c5]) ?_
                refine v_istore_n (lv2 := [(1, .int (joinR (nI 47) v v3)), (3, .int v3), (2, .int (hereP bt n t)), (0, .ref 118)]) K dX10_product_87 (by decide) rfl ?_
                refine v_goto (tgt := 5) K dX10_product_88 rfl ?_
                refine v_sub (lv2 := [(0, .ref 118), (1, .int (joinR (nI 47) v v3))]) (by simp) ?_
                exact ih5 f ((cs ++ ((unitP bt n u 3) (advP t)).1 ++ [-hereP bt n t])) (((unitP bt n u 3) (advP t)).2) (joinR (nI 47) v v3) h7 (by exact hG0.tr hn0 ((GP.adv (hO.on hG0 hn0) hl0).tr hn0 hGq3)) (by exact hMq3) (by exact hFq3) (by intro hn2; rw [eo]; exact val_on (by decide) (hv hn0) (hvq3 hn2) rfl) (by rw [he, loop_on (by rw [eo]; decide)]) (by have h1 : (advP t).1 = t.1 + 1 := rfl; have h2 := hGq3.1; omega) (by omega)
            · skip
              refine v_iconstN K 0 rfl dX10_product_68 ?_
              refine v_goto (tgt := 87) K dX10_product_69 rfl ?_
              refine v_top (y := joinR (nI 47) v v3) (by rw [j47, if_pos c5]) ?_
              refine v_istore_n (lv2 := [(1, .int (joinR (nI 47) v v3)), (3, .int v3), (2, .int (hereP bt n t)), (0, .ref 118)]) K dX10_product_87 (by decide) rfl ?_
              refine v_goto (tgt := 5) K dX10_product_88 rfl ?_
              refine v_sub (lv2 := [(0, .ref 118), (1, .int (joinR (nI 47) v v3))]) (by simp) ?_
              exact ih5 f ((cs ++ ((unitP bt n u 3) (advP t)).1 ++ [-hereP bt n t])) (((unitP bt n u 3) (advP t)).2) (joinR (nI 47) v v3) h7 (by exact hG0.tr hn0 ((GP.adv (hO.on hG0 hn0) hl0).tr hn0 hGq3)) (by exact hMq3) (by exact hFq3) (by intro hn2; rw [eo]; exact val_on (by decide) (hv hn0) (hvq3 hn2) rfl) (by rw [he, loop_on (by rw [eo]; decide)]) (by have h1 : (advP t).1 = t.1 + 1 := rfl; have h2 := hGq3.1; omega) (by omega)
          · skip
            exact absurd (c4.symm.trans eo) (by decide)
        · skip
          refine v_aload_n K dX10_product_23 rfl ?_
          refine v_callV (As := []) K (c_X10_here h1 bt n B u nm t hX1 hM1) lX10_68 ck_X10 rfl sh_118 pl_118 rfl ⟨by decide, by decide⟩ (Nat.le_of_ble_eq_true rfl) dX10_product_24 (fun r8 h8 hp8 => ?_) rfl
          obtain ⟨rfl, rfl⟩ := hp8
          refine v_some ?_
          refine v_bipushN K 37 rfl dX10_product_27 ?_
          refine v_icmp_ne (tgt := 91) K dX10_product_29 rfl (fun c7 => ?_) (fun c7 => ?_)
          · skip
            refine v_iload_n K dX10_product_91 rfl ?_
            refine v_iret K dX10_product_92 ?_
            have e2 : (prodP bt n (unitP bt n u 3)) s = (cs, t) := by rw [he, loop_off (by simp only [List.mem_cons, List.not_mem_nil, or_false, not_or]; exact ⟨c1, c3, c7⟩)]
            show (∃ v, _ ∧ (((prodP bt n (unitP bt n u 3)) s).2.2.1 = none → ∀ st, runL ((prodP bt n (unitP bt n u 3)) s).1 nm st = v :: st)) ∧ PM _ n ((prodP bt n (unitP bt n u 3)) s).2 ∧ _
            rw [e2]
            exact ⟨⟨v, rfl, hv⟩, hM1, hF1⟩
          · skip
            have eo : hereP bt n t = nI 37 := c7
            obtain ⟨hl0, hn0⟩ := hereP_lt eo (nI_m1 (by decide))
            have hG0 := hG
            refine v_aload_n K dX10_product_32 rfl ?_
            refine v_callV (As := []) K (c_X10_here h1 bt n B u nm t hX1 hM1) lX10_68 ck_X10 rfl sh_118 pl_118 rfl ⟨by decide, by decide⟩ (Nat.le_of_ble_eq_true rfl) dX10_product_33 (fun r9 h9 hp9 => ?_) rfl
            obtain ⟨rfl, rfl⟩ := hp9
            refine v_some ?_
            refine v_istore_n (lv2 := [(2, .int (hereP bt n t)), (0, .ref 118), (1, .int v)]) K dX10_product_36 (by decide) rfl ?_
            refine v_aload_n K dX10_product_37 rfl ?_
            refine v_dup K dX10_product_38 rfl ?_
            refine v_geti (x := nI t.1) K fX10_55 sh_118 pl_118 hM1.1.1 dX10_product_39 ?_
            refine v_iconstN K 1 rfl dX10_product_42 ?_
            refine v_iaddN K dX10_product_43 ?_
            refine v_puti K pX10_55 sh_118 pl_118 dX10_product_44 ?_
            have hMm3 : PM (u2 h1 118 6 (nI (t.1 + 1))) n (advP t) := hM1.adv hl0
            have hFm3 : FrP h (u2 h1 118 6 (nI (t.1 + 1))) := FrP.u hF1 (by omega)
            have hXm3 := PX.fr hX hFm3
            refine v_aload_n K dX10_product_47 rfl ?_
            refine v_callV (As := []) K (c_X10_unit_3 ((u2 h1 118 6 (nI (t.1 + 1)))) bt n B u nm ((advP t)) hXm3 hMm3 ((hO.on hG0 hn0).adv hl0)) lX10_91 ck_X10 rfl sh_118 pl_118 rfl ⟨by decide, by decide⟩ (Nat.le_of_ble_eq_true rfl) dX10_product_48 (fun r10 h10 hp10 => ?_) rfl
            obtain ⟨⟨v4, rfl, hvq4⟩, hMq4, hFaq4⟩ := hp10
            have hFq4 := FrP.t hFm3 hFaq4
            have hXq4 := PX.fr hX hFq4
            have hGq4 : GP n (advP t) ((unitP bt n u 3) (advP t)).2 := (unit_good (bt := bt) (n := n) (u := u) 3) _ ((hO.on hG0 hn0).adv hl0)
            refine v_some ?_
            refine v_istore_n (lv2 := [(3, .int v4), (2, .int (hereP bt n t)), (0, .ref 118), (1, .int v)]) K dX10_product_51 (by decide) rfl ?_
            refine v_iload_n K dX10_product_52 rfl ?_
            refine v_bipushN K 42 rfl dX10_product_53 ?_
            refine v_icmp_ne (tgt := 64) K dX10_product_55 rfl (fun c8 => ?_) (fun c8 => ?_)
            · skip
              refine v_iload_n K dX10_product_64 rfl ?_
              refine v_if_ne (tgt := 72) K dX10_product_65 rfl (fun c9 => ?_) (fun c9 => ?_)
              · skip
                refine v_iload_n K dX10_product_72 rfl ?_
                refine v_bipushN K 47 rfl dX10_product_73 ?_
                refine v_icmp_ne (tgt := 84) K dX10_product_75 rfl (fun c10 => ?_) (fun c10 => ?_)
                · skip
                  refine v_iload_n K dX10_product_84 rfl ?_
                  refine v_iload_n K dX10_product_85 rfl ?_
                  refine v_irem K dX10_product_86 (by assumption) ?_
                  refine v_top (y := joinR (nI 37) v v4) (by rw [j37, if_neg c9]) ?_
                  refine v_istore_n (lv2 := [(1, .int (joinR (nI 37) v v4)), (3, .int v4), (2, .int (hereP bt n t)), (0, .ref 118)]) K dX10_product_87 (by decide) rfl ?_
                  refine v_goto (tgt := 5) K dX10_product_88 rfl ?_
                  refine v_sub (lv2 := [(0, .ref 118), (1, .int (joinR (nI 37) v v4))]) (by simp) ?_
                  exact ih5 f ((cs ++ ((unitP bt n u 3) (advP t)).1 ++ [-hereP bt n t])) (((unitP bt n u 3) (advP t)).2) (joinR (nI 37) v v4) h10 (by exact hG0.tr hn0 ((GP.adv (hO.on hG0 hn0) hl0).tr hn0 hGq4)) (by exact hMq4) (by exact hFq4) (by intro hn2; rw [eo]; exact val_on (by decide) (hv hn0) (hvq4 hn2) rfl) (by rw [he, loop_on (by rw [eo]; decide)]) (by have h1 : (advP t).1 = t.1 + 1 := rfl; have h2 := hGq4.1; omega) (by omega)
                · skip
                  exact absurd (c10.symm.trans eo) (by decide)
              · skip
                refine v_iconstN K 0 rfl dX10_product_68 ?_
                refine v_goto (tgt := 87) K dX10_product_69 rfl ?_
                refine v_top (y := joinR (nI 37) v v4) (by rw [j37, if_pos c9]) ?_
                refine v_istore_n (lv2 := [(1, .int (joinR (nI 37) v v4)), (3, .int v4), (2, .int (hereP bt n t)), (0, .ref 118)]) K dX10_product_87 (by decide) rfl ?_
                refine v_goto (tgt := 5) K dX10_product_88 rfl ?_
                refine v_sub (lv2 := [(0, .ref 118), (1, .int (joinR (nI 37) v v4))]) (by simp) ?_
                exact ih5 f ((cs ++ ((unitP bt n u 3) (advP t)).1 ++ [-hereP bt n t])) (((unitP bt n u 3) (advP t)).2) (joinR (nI 37) v v4) h10 (by exact hG0.tr hn0 ((GP.adv (hO.on hG0 hn0) hl0).tr hn0 hGq4)) (by exact hMq4) (by exact hFq4) (by intro hn2; rw [eo]; exact val_on (by decide) (hv hn0) (hvq4 hn2) rfl) (by rw [he, loop_on (by rw [eo]; decide)]) (by have h1 : (advP t).1 = t.1 + 1 := rfl; have h2 := hGq4.1; omega) (by omega)
            · skip
              exact absurd (c8.symm.trans eo) (by decide)
  refine v_sub (lv2 := [(0, .ref 118), (1, .int v1)]) (by simp) ?_
  exact L5 (52 + 1) 52 (((unitP bt n u 3) s).1) (((unitP bt n u 3) s).2) v1 h1 (by exact hGq1) (by exact hMq1) (by exact hFq1) (by exact hvq1) (by rfl) (by omega) (Nat.lt_succ_self _)

abbrev P_X10_sum_3 (h : Mm) (bt : Nat → Int32) (n B u : Nat) (nm : Nat → Int32) (s : PSt) : Option Value → Mm → Prop := fun r h2 => (∃ v, r = some (.int v) ∧ (((sumP bt n (unitP bt n u 3)) s).2.2.1 = none → ∀ st, runL ((sumP bt n (unitP bt n u 3)) s).1 nm st = v :: st)) ∧ PM h2 n ((sumP bt n (unitP bt n u 3)) s).2 ∧ FrP h h2
theorem c_X10_sum_3 {l : Launch} (h : Mm) (bt : Nat → Int32) (n B u : Nat) (nm : Nat → Int32) (s : PSt) (hX : PX h bt n B u nm) (hM : PM h n s) (hO : OKs n 3 s) : Con l yX10_sum cX10_sum 4 (some .int) 21 483 132 GL h [.ref 118] (P_X10_sum_3 h bt n B u nm s) := by
  refine Con.ofV (own := "FoxRoundsModel") (nm := "sum") rfl rfl (by decide) (Nat.le_of_ble_eq_true rfl) ?_
  intro κ ρ hkl K
  subst hkl
  show V κ (QM κ (132, ρ, GL, 0, 0) (P_X10_sum_3 h bt n B u nm s)) 4 (132, ρ, GL, 0, 0) h 0 [(0, .ref 118)] []
  have hn50 := hX.2.2.2.2.2.1
  have hBn := hX.2.2.2.2.1
  have hsn := hM.2.1
  have hs5 := hM.2.2.1
  refine v_aload_n K dX10_sum_0 rfl ?_
  refine v_callV (As := []) K (c_X10_product_3 h bt n B u nm s hX hM hO) lX10_88 ck_X10 rfl sh_118 pl_118 rfl ⟨by decide, by decide⟩ (Nat.le_of_ble_eq_true rfl) dX10_sum_1 (fun r1 h1 hp1 => ?_) rfl
  obtain ⟨⟨v1, rfl, hvq1⟩, hMq1, hFaq1⟩ := hp1
  have hFq1 := FrP.t (FrP.r (h := h)) hFaq1
  have hXq1 := PX.fr hX hFq1
  have hGq1 : GP n s ((prodP bt n (unitP bt n u 3)) s).2 := (row_good (unit_good (bt := bt) (n := n) (u := u) 3) (by decide)) _ hO
  refine v_some ?_
  refine v_istore_n (lv2 := [(1, .int v1), (0, .ref 118)]) K dX10_sum_4 (by decide) rfl ?_
  have L5 : ∀ (mm : Nat) (f : Nat) (cs : List Int32) (t : PSt) (v : Int32) (h1 : Mm) (hG : GP n s t) (hM1 : PM h1 n t) (hF1 : FrP h h1) (hv : t.2.1 = none → ∀ st, runL cs nm st = v :: st) (he : (sumP bt n (unitP bt n u 3)) s = loopP bt n [nI 43, nI 45] (prodP bt n (unitP bt n u 3)) f cs t) (hfu : n + 1 ≤ f + t.1), f < mm → V κ (QM κ (132, ρ, GL, 0, 0) (P_X10_sum_3 h bt n B u nm s)) 4 (132, ρ, GL, 0, 0) h1 5 [(0, .ref 118), (1, .int v)] [] := by
    intro mm
    induction mm with
    | zero => intro f cs t v h1 hG hM1 hF1 hv he hfu hmm; exact absurd hmm (Nat.not_lt_zero _)
    | succ mm ih5 =>
      intro f cs t v h1 hG hM1 hF1 hv he hfu hmm
      have hX1 := PX.fr hX hF1
      have htn := hM1.2.1
      have ht5 := hM1.2.2.1
      obtain ⟨f, rfl⟩ : ∃ f0, f = f0 + 1 := ⟨f - 1, by omega⟩
      refine v_aload_n K dX10_sum_5 rfl ?_
      refine v_callV (As := []) K (c_X10_here h1 bt n B u nm t hX1 hM1) lX10_68 ck_X10 rfl sh_118 pl_118 rfl ⟨by decide, by decide⟩ (Nat.le_of_ble_eq_true rfl) dX10_sum_6 (fun r2 h2 hp2 => ?_) rfl
      obtain ⟨rfl, rfl⟩ := hp2
      refine v_some ?_
      refine v_bipushN K 43 rfl dX10_sum_9 ?_
      refine v_icmp_eq (tgt := 23) K dX10_sum_11 rfl (fun c1 => ?_) (fun c1 => ?_)
      · skip
        have eo : hereP bt n t = nI 43 := c1
        obtain ⟨hl0, hn0⟩ := hereP_lt eo (nI_m1 (by decide))
        have hG0 := hG
        refine v_aload_n K dX10_sum_23 rfl ?_
        refine v_callV (As := []) K (c_X10_here h1 bt n B u nm t hX1 hM1) lX10_68 ck_X10 rfl sh_118 pl_118 rfl ⟨by decide, by decide⟩ (Nat.le_of_ble_eq_true rfl) dX10_sum_24 (fun r3 h3 hp3 => ?_) rfl
        obtain ⟨rfl, rfl⟩ := hp3
        refine v_some ?_
        refine v_istore_n (lv2 := [(2, .int (hereP bt n t)), (0, .ref 118), (1, .int v)]) K dX10_sum_27 (by decide) rfl ?_
        refine v_aload_n K dX10_sum_28 rfl ?_
        refine v_dup K dX10_sum_29 rfl ?_
        refine v_geti (x := nI t.1) K fX10_55 sh_118 pl_118 hM1.1.1 dX10_sum_30 ?_
        refine v_iconstN K 1 rfl dX10_sum_33 ?_
        refine v_iaddN K dX10_sum_34 ?_
        refine v_puti K pX10_55 sh_118 pl_118 dX10_sum_35 ?_
        have hMm1 : PM (u2 h1 118 6 (nI (t.1 + 1))) n (advP t) := hM1.adv hl0
        have hFm1 : FrP h (u2 h1 118 6 (nI (t.1 + 1))) := FrP.u hF1 (by omega)
        have hXm1 := PX.fr hX hFm1
        refine v_aload_n K dX10_sum_38 rfl ?_
        refine v_callV (As := []) K (c_X10_product_3 ((u2 h1 118 6 (nI (t.1 + 1)))) bt n B u nm ((advP t)) hXm1 hMm1 ((hO.on hG0 hn0).adv hl0)) lX10_88 ck_X10 rfl sh_118 pl_118 rfl ⟨by decide, by decide⟩ (Nat.le_of_ble_eq_true rfl) dX10_sum_39 (fun r4 h4 hp4 => ?_) rfl
        obtain ⟨⟨v2, rfl, hvq2⟩, hMq2, hFaq2⟩ := hp4
        have hFq2 := FrP.t hFm1 hFaq2
        have hXq2 := PX.fr hX hFq2
        have hGq2 : GP n (advP t) ((prodP bt n (unitP bt n u 3)) (advP t)).2 := (row_good (unit_good (bt := bt) (n := n) (u := u) 3) (by decide)) _ ((hO.on hG0 hn0).adv hl0)
        refine v_some ?_
        refine v_istore_n (lv2 := [(3, .int v2), (2, .int (hereP bt n t)), (0, .ref 118), (1, .int v)]) K dX10_sum_42 (by decide) rfl ?_
        refine v_iload_n K dX10_sum_43 rfl ?_
        refine v_bipushN K 43 rfl dX10_sum_44 ?_
        refine v_icmp_ne (tgt := 55) K dX10_sum_46 rfl (fun c2 => ?_) (fun c2 => ?_)
        · skip
          exact absurd eo c2
        · skip
          refine v_iload_n K dX10_sum_49 rfl ?_
          refine v_iload_n K dX10_sum_50 rfl ?_
          refine v_iadd K dX10_sum_51 ?_
          refine v_goto (tgt := 58) K dX10_sum_52 rfl ?_
          refine v_top (y := joinR (nI 43) v v2) (by rw [j43]) ?_
          refine v_istore_n (lv2 := [(1, .int (joinR (nI 43) v v2)), (3, .int v2), (2, .int (hereP bt n t)), (0, .ref 118)]) K dX10_sum_58 (by decide) rfl ?_
          refine v_goto (tgt := 5) K dX10_sum_59 rfl ?_
          refine v_sub (lv2 := [(0, .ref 118), (1, .int (joinR (nI 43) v v2))]) (by simp) ?_
          exact ih5 f ((cs ++ ((prodP bt n (unitP bt n u 3)) (advP t)).1 ++ [-hereP bt n t])) (((prodP bt n (unitP bt n u 3)) (advP t)).2) (joinR (nI 43) v v2) h4 (by exact hG0.tr hn0 ((GP.adv (hO.on hG0 hn0) hl0).tr hn0 hGq2)) (by exact hMq2) (by exact hFq2) (by intro hn2; rw [eo]; exact val_on (by decide) (hv hn0) (hvq2 hn2) rfl) (by rw [he, loop_on (by rw [eo]; decide)]) (by have h1 : (advP t).1 = t.1 + 1 := rfl; have h2 := hGq2.1; omega) (by omega)
      · skip
        refine v_aload_n K dX10_sum_14 rfl ?_
        refine v_callV (As := []) K (c_X10_here h1 bt n B u nm t hX1 hM1) lX10_68 ck_X10 rfl sh_118 pl_118 rfl ⟨by decide, by decide⟩ (Nat.le_of_ble_eq_true rfl) dX10_sum_15 (fun r5 h5 hp5 => ?_) rfl
        obtain ⟨rfl, rfl⟩ := hp5
        refine v_some ?_
        refine v_bipushN K 45 rfl dX10_sum_18 ?_
        refine v_icmp_ne (tgt := 62) K dX10_sum_20 rfl (fun c3 => ?_) (fun c3 => ?_)
        · skip
          refine v_iload_n K dX10_sum_62 rfl ?_
          refine v_iret K dX10_sum_63 ?_
          have e2 : (sumP bt n (unitP bt n u 3)) s = (cs, t) := by rw [he, loop_off (by simp only [List.mem_cons, List.not_mem_nil, or_false, not_or]; exact ⟨c1, c3⟩)]
          show (∃ v, _ ∧ (((sumP bt n (unitP bt n u 3)) s).2.2.1 = none → ∀ st, runL ((sumP bt n (unitP bt n u 3)) s).1 nm st = v :: st)) ∧ PM _ n ((sumP bt n (unitP bt n u 3)) s).2 ∧ _
          rw [e2]
          exact ⟨⟨v, rfl, hv⟩, hM1, hF1⟩
        · skip
          have eo : hereP bt n t = nI 45 := c3
          obtain ⟨hl0, hn0⟩ := hereP_lt eo (nI_m1 (by decide))
          have hG0 := hG
          refine v_aload_n K dX10_sum_23 rfl ?_
          refine v_callV (As := []) K (c_X10_here h1 bt n B u nm t hX1 hM1) lX10_68 ck_X10 rfl sh_118 pl_118 rfl ⟨by decide, by decide⟩ (Nat.le_of_ble_eq_true rfl) dX10_sum_24 (fun r6 h6 hp6 => ?_) rfl
          obtain ⟨rfl, rfl⟩ := hp6
          refine v_some ?_
          refine v_istore_n (lv2 := [(2, .int (hereP bt n t)), (0, .ref 118), (1, .int v)]) K dX10_sum_27 (by decide) rfl ?_
          refine v_aload_n K dX10_sum_28 rfl ?_
          refine v_dup K dX10_sum_29 rfl ?_
          refine v_geti (x := nI t.1) K fX10_55 sh_118 pl_118 hM1.1.1 dX10_sum_30 ?_
          refine v_iconstN K 1 rfl dX10_sum_33 ?_
          refine v_iaddN K dX10_sum_34 ?_
          refine v_puti K pX10_55 sh_118 pl_118 dX10_sum_35 ?_
          have hMm2 : PM (u2 h1 118 6 (nI (t.1 + 1))) n (advP t) := hM1.adv hl0
          have hFm2 : FrP h (u2 h1 118 6 (nI (t.1 + 1))) := FrP.u hF1 (by omega)
          have hXm2 := PX.fr hX hFm2
          refine v_aload_n K dX10_sum_38 rfl ?_
          refine v_callV (As := []) K (c_X10_product_3 ((u2 h1 118 6 (nI (t.1 + 1)))) bt n B u nm ((advP t)) hXm2 hMm2 ((hO.on hG0 hn0).adv hl0)) lX10_88 ck_X10 rfl sh_118 pl_118 rfl ⟨by decide, by decide⟩ (Nat.le_of_ble_eq_true rfl) dX10_sum_39 (fun r7 h7 hp7 => ?_) rfl
          obtain ⟨⟨v3, rfl, hvq3⟩, hMq3, hFaq3⟩ := hp7
          have hFq3 := FrP.t hFm2 hFaq3
          have hXq3 := PX.fr hX hFq3
          have hGq3 : GP n (advP t) ((prodP bt n (unitP bt n u 3)) (advP t)).2 := (row_good (unit_good (bt := bt) (n := n) (u := u) 3) (by decide)) _ ((hO.on hG0 hn0).adv hl0)
          refine v_some ?_
          refine v_istore_n (lv2 := [(3, .int v3), (2, .int (hereP bt n t)), (0, .ref 118), (1, .int v)]) K dX10_sum_42 (by decide) rfl ?_
          refine v_iload_n K dX10_sum_43 rfl ?_
          refine v_bipushN K 43 rfl dX10_sum_44 ?_
          refine v_icmp_ne (tgt := 55) K dX10_sum_46 rfl (fun c4 => ?_) (fun c4 => ?_)
          · skip
            refine v_iload_n K dX10_sum_55 rfl ?_
            refine v_iload_n K dX10_sum_56 rfl ?_
            refine v_isub K dX10_sum_57 ?_
            refine v_top (y := joinR (nI 45) v v3) (by rw [j45]) ?_
            refine v_istore_n (lv2 := [(1, .int (joinR (nI 45) v v3)), (3, .int v3), (2, .int (hereP bt n t)), (0, .ref 118)]) K dX10_sum_58 (by decide) rfl ?_
            refine v_goto (tgt := 5) K dX10_sum_59 rfl ?_
            refine v_sub (lv2 := [(0, .ref 118), (1, .int (joinR (nI 45) v v3))]) (by simp) ?_
            exact ih5 f ((cs ++ ((prodP bt n (unitP bt n u 3)) (advP t)).1 ++ [-hereP bt n t])) (((prodP bt n (unitP bt n u 3)) (advP t)).2) (joinR (nI 45) v v3) h7 (by exact hG0.tr hn0 ((GP.adv (hO.on hG0 hn0) hl0).tr hn0 hGq3)) (by exact hMq3) (by exact hFq3) (by intro hn2; rw [eo]; exact val_on (by decide) (hv hn0) (hvq3 hn2) rfl) (by rw [he, loop_on (by rw [eo]; decide)]) (by have h1 : (advP t).1 = t.1 + 1 := rfl; have h2 := hGq3.1; omega) (by omega)
          · skip
            exact absurd (c4.symm.trans eo) (by decide)
  refine v_sub (lv2 := [(0, .ref 118), (1, .int v1)]) (by simp) ?_
  exact L5 (52 + 1) 52 (((prodP bt n (unitP bt n u 3)) s).1) (((prodP bt n (unitP bt n u 3)) s).2) v1 h1 (by exact hGq1) (by exact hMq1) (by exact hFq1) (by exact hvq1) (by rfl) (by omega) (Nat.lt_succ_self _)

abbrev P_X10_compared_3 (h : Mm) (bt : Nat → Int32) (n B u : Nat) (nm : Nat → Int32) (s : PSt) : Option Value → Mm → Prop := fun r h2 => (∃ v, r = some (.int v) ∧ (((cmpP bt n (sumP bt n (unitP bt n u 3))) s).2.2.1 = none → ∀ st, runL ((cmpP bt n (sumP bt n (unitP bt n u 3))) s).1 nm st = v :: st)) ∧ PM h2 n ((cmpP bt n (sumP bt n (unitP bt n u 3))) s).2 ∧ FrP h h2
theorem c_X10_compared_3 {l : Launch} (h : Mm) (bt : Nat → Int32) (n B u : Nat) (nm : Nat → Int32) (s : PSt) (hX : PX h bt n B u nm) (hM : PM h n s) (hO : OKs n 3 s) : Con l yX10_compared cX10_compared 4 (some .int) 22 506 132 GL h [.ref 118] (P_X10_compared_3 h bt n B u nm s) := by
  refine Con.ofV (own := "FoxRoundsModel") (nm := "compared") rfl rfl (by decide) (Nat.le_of_ble_eq_true rfl) ?_
  intro κ ρ hkl K
  subst hkl
  show V κ (QM κ (132, ρ, GL, 0, 0) (P_X10_compared_3 h bt n B u nm s)) 4 (132, ρ, GL, 0, 0) h 0 [(0, .ref 118)] []
  have hn50 := hX.2.2.2.2.2.1
  have hBn := hX.2.2.2.2.1
  have hsn := hM.2.1
  have hs5 := hM.2.2.1
  refine v_aload_n K dX10_compared_0 rfl ?_
  refine v_callV (As := []) K (c_X10_sum_3 h bt n B u nm s hX hM hO) lX10_85 ck_X10 rfl sh_118 pl_118 rfl ⟨by decide, by decide⟩ (Nat.le_of_ble_eq_true rfl) dX10_compared_1 (fun r1 h1 hp1 => ?_) rfl
  obtain ⟨⟨v1, rfl, hvq1⟩, hMq1, hFaq1⟩ := hp1
  have hFq1 := FrP.t (FrP.r (h := h)) hFaq1
  have hXq1 := PX.fr hX hFq1
  have hGq1 : GP n s ((sumP bt n (unitP bt n u 3)) s).2 := (row_good (row_good (unit_good (bt := bt) (n := n) (u := u) 3) (by decide)) (by decide)) _ hO
  refine v_some ?_
  have hG1 := hGq1
  have hv1 := hvq1
  refine v_istore_n (lv2 := [(1, .int v1), (0, .ref 118)]) K dX10_compared_4 (by decide) rfl ?_
  refine v_aload_n K dX10_compared_5 rfl ?_
  refine v_callV (As := []) K (c_X10_here h1 bt n B u nm (((sumP bt n (unitP bt n u 3)) s).2) hXq1 hMq1) lX10_68 ck_X10 rfl sh_118 pl_118 rfl ⟨by decide, by decide⟩ (Nat.le_of_ble_eq_true rfl) dX10_compared_6 (fun r2 h2 hp2 => ?_) rfl
  obtain ⟨rfl, rfl⟩ := hp2
  refine v_some ?_
  refine v_istore_n (lv2 := [(2, .int (hereP bt n ((sumP bt n (unitP bt n u 3)) s).2)), (1, .int v1), (0, .ref 118)]) K dX10_compared_9 (by decide) rfl ?_
  refine v_iload_n K dX10_compared_10 rfl ?_
  refine v_bipushN K 60 rfl dX10_compared_11 ?_
  refine v_icmp_eq (tgt := 30) K dX10_compared_13 rfl (fun c1 => ?_) (fun c1 => ?_)
  · skip
    have eo : hereP bt n ((sumP bt n (unitP bt n u 3)) s).2 = nI 60 := c1
    obtain ⟨hl0, hn0⟩ := hereP_lt eo (nI_m1 (by decide))
    refine v_aload_n K dX10_compared_30 rfl ?_
    refine v_dup K dX10_compared_31 rfl ?_
    refine v_geti (x := nI (((sumP bt n (unitP bt n u 3)) s).2.1)) K fX10_55 sh_118 pl_118 hMq1.1.1 dX10_compared_32 ?_
    refine v_iconstN K 1 rfl dX10_compared_35 ?_
    refine v_iaddN K dX10_compared_36 ?_
    refine v_puti K pX10_55 sh_118 pl_118 dX10_compared_37 ?_
    have hMm1 : PM (u2 h1 118 6 (nI (((sumP bt n (unitP bt n u 3)) s).2.1 + 1))) n (advP ((sumP bt n (unitP bt n u 3)) s).2) := hMq1.adv hl0
    have hFm1 : FrP h (u2 h1 118 6 (nI (((sumP bt n (unitP bt n u 3)) s).2.1 + 1))) := FrP.u hFq1 (by omega)
    have hXm1 := PX.fr hX hFm1
    refine v_aload_n K dX10_compared_40 rfl ?_
    refine v_callV (As := []) K (c_X10_sum_3 ((u2 h1 118 6 (nI (((sumP bt n (unitP bt n u 3)) s).2.1 + 1)))) bt n B u nm ((advP ((sumP bt n (unitP bt n u 3)) s).2)) hXm1 hMm1 ((hO.on hG1 hn0).adv hl0)) lX10_85 ck_X10 rfl sh_118 pl_118 rfl ⟨by decide, by decide⟩ (Nat.le_of_ble_eq_true rfl) dX10_compared_41 (fun r3 h3 hp3 => ?_) rfl
    obtain ⟨⟨v2, rfl, hvq2⟩, hMq2, hFaq2⟩ := hp3
    have hFq2 := FrP.t hFm1 hFaq2
    have hXq2 := PX.fr hX hFq2
    have hGq2 : GP n (advP ((sumP bt n (unitP bt n u 3)) s).2) ((sumP bt n (unitP bt n u 3)) (advP ((sumP bt n (unitP bt n u 3)) s).2)).2 := (row_good (row_good (unit_good (bt := bt) (n := n) (u := u) 3) (by decide)) (by decide)) _ ((hO.on hG1 hn0).adv hl0)
    refine v_some ?_
    refine v_istore_n (lv2 := [(3, .int v2), (2, .int (hereP bt n ((sumP bt n (unitP bt n u 3)) s).2)), (1, .int v1), (0, .ref 118)]) K dX10_compared_44 (by decide) rfl ?_
    refine v_iload_n K dX10_compared_45 rfl ?_
    refine v_bipushN K 60 rfl dX10_compared_46 ?_
    refine v_icmp_ne (tgt := 59) K dX10_compared_48 rfl (fun c2 => ?_) (fun c2 => ?_)
    · skip
      exact absurd eo c2
    · skip
      refine v_iload_n K dX10_compared_51 rfl ?_
      refine v_iload_n K dX10_compared_52 rfl ?_
      refine v_icmp_ge (tgt := 82) K dX10_compared_53 rfl (fun c3 => ?_) (fun c3 => ?_)
      · skip
        refine v_iconstN K 0 rfl dX10_compared_82 ?_
        refine v_iret K dX10_compared_83 ?_
        have e2 : (cmpP bt n (sumP bt n (unitP bt n u 3))) s = (((sumP bt n (unitP bt n u 3)) s).1 ++ ((sumP bt n (unitP bt n u 3)) (advP ((sumP bt n (unitP bt n u 3)) s).2)).1 ++ [-hereP bt n ((sumP bt n (unitP bt n u 3)) s).2], ((sumP bt n (unitP bt n u 3)) (advP ((sumP bt n (unitP bt n u 3)) s).2)).2) := if_pos (by rw [eo]; decide)
        show (∃ v, _ ∧ (((cmpP bt n (sumP bt n (unitP bt n u 3))) s).2.2.1 = none → ∀ st, runL ((cmpP bt n (sumP bt n (unitP bt n u 3))) s).1 nm st = v :: st)) ∧ PM _ n ((cmpP bt n (sumP bt n (unitP bt n u 3))) s).2 ∧ _
        rw [e2]
        refine ⟨⟨_, rfl, fun hn2 => ?_⟩, hMq2, hFq2⟩
        rw [eo]
        exact val_on (by decide) (hv1 hn0) (hvq2 hn2) (by rw [j60]; exact (b2i_f (Int32.not_lt.mpr c3)).symm)
      · skip
        refine v_goto (tgt := 78) K dX10_compared_56 rfl ?_
        refine v_iconstN K 1 rfl dX10_compared_78 ?_
        refine v_goto (tgt := 83) K dX10_compared_79 rfl ?_
        refine v_iret K dX10_compared_83 ?_
        have e2 : (cmpP bt n (sumP bt n (unitP bt n u 3))) s = (((sumP bt n (unitP bt n u 3)) s).1 ++ ((sumP bt n (unitP bt n u 3)) (advP ((sumP bt n (unitP bt n u 3)) s).2)).1 ++ [-hereP bt n ((sumP bt n (unitP bt n u 3)) s).2], ((sumP bt n (unitP bt n u 3)) (advP ((sumP bt n (unitP bt n u 3)) s).2)).2) := if_pos (by rw [eo]; decide)
        show (∃ v, _ ∧ (((cmpP bt n (sumP bt n (unitP bt n u 3))) s).2.2.1 = none → ∀ st, runL ((cmpP bt n (sumP bt n (unitP bt n u 3))) s).1 nm st = v :: st)) ∧ PM _ n ((cmpP bt n (sumP bt n (unitP bt n u 3))) s).2 ∧ _
        rw [e2]
        refine ⟨⟨_, rfl, fun hn2 => ?_⟩, hMq2, hFq2⟩
        rw [eo]
        exact val_on (by decide) (hv1 hn0) (hvq2 hn2) (by rw [j60]; exact (b2i_t (Int32.not_le.mp c3)).symm)
  · skip
    refine v_iload_n K dX10_compared_16 rfl ?_
    refine v_bipushN K 61 rfl dX10_compared_17 ?_
    refine v_icmp_eq (tgt := 30) K dX10_compared_19 rfl (fun c4 => ?_) (fun c4 => ?_)
    · skip
      have eo : hereP bt n ((sumP bt n (unitP bt n u 3)) s).2 = nI 61 := c4
      obtain ⟨hl0, hn0⟩ := hereP_lt eo (nI_m1 (by decide))
      refine v_aload_n K dX10_compared_30 rfl ?_
      refine v_dup K dX10_compared_31 rfl ?_
      refine v_geti (x := nI (((sumP bt n (unitP bt n u 3)) s).2.1)) K fX10_55 sh_118 pl_118 hMq1.1.1 dX10_compared_32 ?_
      refine v_iconstN K 1 rfl dX10_compared_35 ?_
      refine v_iaddN K dX10_compared_36 ?_
      refine v_puti K pX10_55 sh_118 pl_118 dX10_compared_37 ?_
      have hMm2 : PM (u2 h1 118 6 (nI (((sumP bt n (unitP bt n u 3)) s).2.1 + 1))) n (advP ((sumP bt n (unitP bt n u 3)) s).2) := hMq1.adv hl0
      have hFm2 : FrP h (u2 h1 118 6 (nI (((sumP bt n (unitP bt n u 3)) s).2.1 + 1))) := FrP.u hFq1 (by omega)
      have hXm2 := PX.fr hX hFm2
      refine v_aload_n K dX10_compared_40 rfl ?_
      refine v_callV (As := []) K (c_X10_sum_3 ((u2 h1 118 6 (nI (((sumP bt n (unitP bt n u 3)) s).2.1 + 1)))) bt n B u nm ((advP ((sumP bt n (unitP bt n u 3)) s).2)) hXm2 hMm2 ((hO.on hG1 hn0).adv hl0)) lX10_85 ck_X10 rfl sh_118 pl_118 rfl ⟨by decide, by decide⟩ (Nat.le_of_ble_eq_true rfl) dX10_compared_41 (fun r4 h4 hp4 => ?_) rfl
      obtain ⟨⟨v3, rfl, hvq3⟩, hMq3, hFaq3⟩ := hp4
      have hFq3 := FrP.t hFm2 hFaq3
      have hXq3 := PX.fr hX hFq3
      have hGq3 : GP n (advP ((sumP bt n (unitP bt n u 3)) s).2) ((sumP bt n (unitP bt n u 3)) (advP ((sumP bt n (unitP bt n u 3)) s).2)).2 := (row_good (row_good (unit_good (bt := bt) (n := n) (u := u) 3) (by decide)) (by decide)) _ ((hO.on hG1 hn0).adv hl0)
      refine v_some ?_
      refine v_istore_n (lv2 := [(3, .int v3), (2, .int (hereP bt n ((sumP bt n (unitP bt n u 3)) s).2)), (1, .int v1), (0, .ref 118)]) K dX10_compared_44 (by decide) rfl ?_
      refine v_iload_n K dX10_compared_45 rfl ?_
      refine v_bipushN K 60 rfl dX10_compared_46 ?_
      refine v_icmp_ne (tgt := 59) K dX10_compared_48 rfl (fun c5 => ?_) (fun c5 => ?_)
      · skip
        refine v_iload_n K dX10_compared_59 rfl ?_
        refine v_bipushN K 61 rfl dX10_compared_60 ?_
        refine v_icmp_ne (tgt := 73) K dX10_compared_62 rfl (fun c6 => ?_) (fun c6 => ?_)
        · skip
          exact absurd eo c6
        · skip
          refine v_iload_n K dX10_compared_65 rfl ?_
          refine v_iload_n K dX10_compared_66 rfl ?_
          refine v_icmp_ne (tgt := 82) K dX10_compared_67 rfl (fun c7 => ?_) (fun c7 => ?_)
          · skip
            refine v_iconstN K 0 rfl dX10_compared_82 ?_
            refine v_iret K dX10_compared_83 ?_
            have e2 : (cmpP bt n (sumP bt n (unitP bt n u 3))) s = (((sumP bt n (unitP bt n u 3)) s).1 ++ ((sumP bt n (unitP bt n u 3)) (advP ((sumP bt n (unitP bt n u 3)) s).2)).1 ++ [-hereP bt n ((sumP bt n (unitP bt n u 3)) s).2], ((sumP bt n (unitP bt n u 3)) (advP ((sumP bt n (unitP bt n u 3)) s).2)).2) := if_pos (by rw [eo]; decide)
            show (∃ v, _ ∧ (((cmpP bt n (sumP bt n (unitP bt n u 3))) s).2.2.1 = none → ∀ st, runL ((cmpP bt n (sumP bt n (unitP bt n u 3))) s).1 nm st = v :: st)) ∧ PM _ n ((cmpP bt n (sumP bt n (unitP bt n u 3))) s).2 ∧ _
            rw [e2]
            refine ⟨⟨_, rfl, fun hn2 => ?_⟩, hMq3, hFq3⟩
            rw [eo]
            exact val_on (by decide) (hv1 hn0) (hvq3 hn2) (by rw [j61]; exact (b2i_f c7).symm)
          · skip
            refine v_goto (tgt := 78) K dX10_compared_70 rfl ?_
            refine v_iconstN K 1 rfl dX10_compared_78 ?_
            refine v_goto (tgt := 83) K dX10_compared_79 rfl ?_
            refine v_iret K dX10_compared_83 ?_
            have e2 : (cmpP bt n (sumP bt n (unitP bt n u 3))) s = (((sumP bt n (unitP bt n u 3)) s).1 ++ ((sumP bt n (unitP bt n u 3)) (advP ((sumP bt n (unitP bt n u 3)) s).2)).1 ++ [-hereP bt n ((sumP bt n (unitP bt n u 3)) s).2], ((sumP bt n (unitP bt n u 3)) (advP ((sumP bt n (unitP bt n u 3)) s).2)).2) := if_pos (by rw [eo]; decide)
            show (∃ v, _ ∧ (((cmpP bt n (sumP bt n (unitP bt n u 3))) s).2.2.1 = none → ∀ st, runL ((cmpP bt n (sumP bt n (unitP bt n u 3))) s).1 nm st = v :: st)) ∧ PM _ n ((cmpP bt n (sumP bt n (unitP bt n u 3))) s).2 ∧ _
            rw [e2]
            refine ⟨⟨_, rfl, fun hn2 => ?_⟩, hMq3, hFq3⟩
            rw [eo]
            exact val_on (by decide) (hv1 hn0) (hvq3 hn2) (by rw [j61]; exact (b2i_t c7).symm)
      · skip
        exact absurd (c5.symm.trans eo) (by decide)
    · skip
      refine v_iload_n K dX10_compared_22 rfl ?_
      refine v_bipushN K 62 rfl dX10_compared_23 ?_
      refine v_icmp_eq (tgt := 30) K dX10_compared_25 rfl (fun c8 => ?_) (fun c8 => ?_)
      · skip
        have eo : hereP bt n ((sumP bt n (unitP bt n u 3)) s).2 = nI 62 := c8
        obtain ⟨hl0, hn0⟩ := hereP_lt eo (nI_m1 (by decide))
        refine v_aload_n K dX10_compared_30 rfl ?_
        refine v_dup K dX10_compared_31 rfl ?_
        refine v_geti (x := nI (((sumP bt n (unitP bt n u 3)) s).2.1)) K fX10_55 sh_118 pl_118 hMq1.1.1 dX10_compared_32 ?_
        refine v_iconstN K 1 rfl dX10_compared_35 ?_
        refine v_iaddN K dX10_compared_36 ?_
        refine v_puti K pX10_55 sh_118 pl_118 dX10_compared_37 ?_
        have hMm3 : PM (u2 h1 118 6 (nI (((sumP bt n (unitP bt n u 3)) s).2.1 + 1))) n (advP ((sumP bt n (unitP bt n u 3)) s).2) := hMq1.adv hl0
        have hFm3 : FrP h (u2 h1 118 6 (nI (((sumP bt n (unitP bt n u 3)) s).2.1 + 1))) := FrP.u hFq1 (by omega)
        have hXm3 := PX.fr hX hFm3
        refine v_aload_n K dX10_compared_40 rfl ?_
        refine v_callV (As := []) K (c_X10_sum_3 ((u2 h1 118 6 (nI (((sumP bt n (unitP bt n u 3)) s).2.1 + 1)))) bt n B u nm ((advP ((sumP bt n (unitP bt n u 3)) s).2)) hXm3 hMm3 ((hO.on hG1 hn0).adv hl0)) lX10_85 ck_X10 rfl sh_118 pl_118 rfl ⟨by decide, by decide⟩ (Nat.le_of_ble_eq_true rfl) dX10_compared_41 (fun r5 h5 hp5 => ?_) rfl
        obtain ⟨⟨v4, rfl, hvq4⟩, hMq4, hFaq4⟩ := hp5
        have hFq4 := FrP.t hFm3 hFaq4
        have hXq4 := PX.fr hX hFq4
        have hGq4 : GP n (advP ((sumP bt n (unitP bt n u 3)) s).2) ((sumP bt n (unitP bt n u 3)) (advP ((sumP bt n (unitP bt n u 3)) s).2)).2 := (row_good (row_good (unit_good (bt := bt) (n := n) (u := u) 3) (by decide)) (by decide)) _ ((hO.on hG1 hn0).adv hl0)
        refine v_some ?_
        refine v_istore_n (lv2 := [(3, .int v4), (2, .int (hereP bt n ((sumP bt n (unitP bt n u 3)) s).2)), (1, .int v1), (0, .ref 118)]) K dX10_compared_44 (by decide) rfl ?_
        refine v_iload_n K dX10_compared_45 rfl ?_
        refine v_bipushN K 60 rfl dX10_compared_46 ?_
        refine v_icmp_ne (tgt := 59) K dX10_compared_48 rfl (fun c9 => ?_) (fun c9 => ?_)
        · skip
          refine v_iload_n K dX10_compared_59 rfl ?_
          refine v_bipushN K 61 rfl dX10_compared_60 ?_
          refine v_icmp_ne (tgt := 73) K dX10_compared_62 rfl (fun c10 => ?_) (fun c10 => ?_)
          · skip
            refine v_iload_n K dX10_compared_73 rfl ?_
            refine v_iload_n K dX10_compared_74 rfl ?_
            refine v_icmp_le (tgt := 82) K dX10_compared_75 rfl (fun c11 => ?_) (fun c11 => ?_)
            · skip
              refine v_iconstN K 0 rfl dX10_compared_82 ?_
              refine v_iret K dX10_compared_83 ?_
              have e2 : (cmpP bt n (sumP bt n (unitP bt n u 3))) s = (((sumP bt n (unitP bt n u 3)) s).1 ++ ((sumP bt n (unitP bt n u 3)) (advP ((sumP bt n (unitP bt n u 3)) s).2)).1 ++ [-hereP bt n ((sumP bt n (unitP bt n u 3)) s).2], ((sumP bt n (unitP bt n u 3)) (advP ((sumP bt n (unitP bt n u 3)) s).2)).2) := if_pos (by rw [eo]; decide)
              show (∃ v, _ ∧ (((cmpP bt n (sumP bt n (unitP bt n u 3))) s).2.2.1 = none → ∀ st, runL ((cmpP bt n (sumP bt n (unitP bt n u 3))) s).1 nm st = v :: st)) ∧ PM _ n ((cmpP bt n (sumP bt n (unitP bt n u 3))) s).2 ∧ _
              rw [e2]
              refine ⟨⟨_, rfl, fun hn2 => ?_⟩, hMq4, hFq4⟩
              rw [eo]
              exact val_on (by decide) (hv1 hn0) (hvq4 hn2) (by rw [j62]; exact (b2i_f (Int32.not_lt.mpr c11)).symm)
            · skip
              refine v_iconstN K 1 rfl dX10_compared_78 ?_
              refine v_goto (tgt := 83) K dX10_compared_79 rfl ?_
              refine v_iret K dX10_compared_83 ?_
              have e2 : (cmpP bt n (sumP bt n (unitP bt n u 3))) s = (((sumP bt n (unitP bt n u 3)) s).1 ++ ((sumP bt n (unitP bt n u 3)) (advP ((sumP bt n (unitP bt n u 3)) s).2)).1 ++ [-hereP bt n ((sumP bt n (unitP bt n u 3)) s).2], ((sumP bt n (unitP bt n u 3)) (advP ((sumP bt n (unitP bt n u 3)) s).2)).2) := if_pos (by rw [eo]; decide)
              show (∃ v, _ ∧ (((cmpP bt n (sumP bt n (unitP bt n u 3))) s).2.2.1 = none → ∀ st, runL ((cmpP bt n (sumP bt n (unitP bt n u 3))) s).1 nm st = v :: st)) ∧ PM _ n ((cmpP bt n (sumP bt n (unitP bt n u 3))) s).2 ∧ _
              rw [e2]
              refine ⟨⟨_, rfl, fun hn2 => ?_⟩, hMq4, hFq4⟩
              rw [eo]
              exact val_on (by decide) (hv1 hn0) (hvq4 hn2) (by rw [j62]; exact (b2i_t (Int32.not_le.mp c11)).symm)
          · skip
            exact absurd (c10.symm.trans eo) (by decide)
        · skip
          exact absurd (c9.symm.trans eo) (by decide)
      · skip
        refine v_iload_n K dX10_compared_28 rfl ?_
        refine v_iret K dX10_compared_29 ?_
        have e2 : (cmpP bt n (sumP bt n (unitP bt n u 3))) s = (sumP bt n (unitP bt n u 3)) s := if_neg (by simp only [List.mem_cons, List.not_mem_nil, or_false, not_or]; exact ⟨c1, c4, c8⟩)
        show (∃ v, _ ∧ (((cmpP bt n (sumP bt n (unitP bt n u 3))) s).2.2.1 = none → ∀ st, runL ((cmpP bt n (sumP bt n (unitP bt n u 3))) s).1 nm st = v :: st)) ∧ PM _ n ((cmpP bt n (sumP bt n (unitP bt n u 3))) s).2 ∧ _
        rw [e2]
        exact ⟨⟨_, rfl, hv1⟩, hMq1, hFq1⟩

abbrev P_X10_both_3 (h : Mm) (bt : Nat → Int32) (n B u : Nat) (nm : Nat → Int32) (s : PSt) : Option Value → Mm → Prop := fun r h2 => (∃ v, r = some (.int v) ∧ (((bothP bt n (unitP bt n u 3)) s).2.2.1 = none → ∀ st, runL ((bothP bt n (unitP bt n u 3)) s).1 nm st = v :: st)) ∧ PM h2 n ((bothP bt n (unitP bt n u 3)) s).2 ∧ FrP h h2
theorem c_X10_both_3 {l : Launch} (h : Mm) (bt : Nat → Int32) (n B u : Nat) (nm : Nat → Int32) (s : PSt) (hX : PX h bt n B u nm) (hM : PM h n s) (hO : OKs n 3 s) : Con l yX10_both cX10_both 3 (some .int) 23 529 132 GL h [.ref 118] (P_X10_both_3 h bt n B u nm s) := by
  refine Con.ofV (own := "FoxRoundsModel") (nm := "both") rfl rfl (by decide) (Nat.le_of_ble_eq_true rfl) ?_
  intro κ ρ hkl K
  subst hkl
  show V κ (QM κ (132, ρ, GL, 0, 0) (P_X10_both_3 h bt n B u nm s)) 3 (132, ρ, GL, 0, 0) h 0 [(0, .ref 118)] []
  have hn50 := hX.2.2.2.2.2.1
  have hBn := hX.2.2.2.2.1
  have hsn := hM.2.1
  have hs5 := hM.2.2.1
  refine v_aload_n K dX10_both_0 rfl ?_
  refine v_callV (As := []) K (c_X10_compared_3 h bt n B u nm s hX hM hO) lX10_82 ck_X10 rfl sh_118 pl_118 rfl ⟨by decide, by decide⟩ (Nat.le_of_ble_eq_true rfl) dX10_both_1 (fun r1 h1 hp1 => ?_) rfl
  obtain ⟨⟨v1, rfl, hvq1⟩, hMq1, hFaq1⟩ := hp1
  have hFq1 := FrP.t (FrP.r (h := h)) hFaq1
  have hXq1 := PX.fr hX hFq1
  have hGq1 : GP n s ((cmpP bt n (sumP bt n (unitP bt n u 3))) s).2 := (cmp_good (row_good (row_good (unit_good (bt := bt) (n := n) (u := u) 3) (by decide)) (by decide))) _ hO
  refine v_some ?_
  refine v_istore_n (lv2 := [(1, .int v1), (0, .ref 118)]) K dX10_both_4 (by decide) rfl ?_
  have L5 : ∀ (mm : Nat) (f : Nat) (cs : List Int32) (t : PSt) (v : Int32) (h1 : Mm) (hG : GP n s t) (hM1 : PM h1 n t) (hF1 : FrP h h1) (hv : t.2.1 = none → ∀ st, runL cs nm st = v :: st) (he : (bothP bt n (unitP bt n u 3)) s = loopP bt n [nI 38] (cmpP bt n (sumP bt n (unitP bt n u 3))) f cs t) (hfu : n + 1 ≤ f + t.1), f < mm → V κ (QM κ (132, ρ, GL, 0, 0) (P_X10_both_3 h bt n B u nm s)) 3 (132, ρ, GL, 0, 0) h1 5 [(0, .ref 118), (1, .int v)] [] := by
    intro mm
    induction mm with
    | zero => intro f cs t v h1 hG hM1 hF1 hv he hfu hmm; exact absurd hmm (Nat.not_lt_zero _)
    | succ mm ih5 =>
      intro f cs t v h1 hG hM1 hF1 hv he hfu hmm
      have hX1 := PX.fr hX hF1
      have htn := hM1.2.1
      have ht5 := hM1.2.2.1
      obtain ⟨f, rfl⟩ : ∃ f0, f = f0 + 1 := ⟨f - 1, by omega⟩
      refine v_aload_n K dX10_both_5 rfl ?_
      refine v_bipushN K 38 rfl dX10_both_6 ?_
      refine v_callV (As := [.int (nI 38)]) K (c_X10_takes h1 bt n B u nm t 38 hX1 hM1 (by decide)) lX10_78 ck_X10 rfl sh_118 pl_118 rfl ⟨by decide, by decide⟩ (Nat.le_of_ble_eq_true rfl) dX10_both_8 (fun r2 h2 hp2 => ?_) rfl
      obtain ⟨rfl, hMq2, hFaq2⟩ := hp2
      have hFq2 := FrP.t hF1 hFaq2
      have hXq2 := PX.fr hX hFq2
      refine v_some ?_
      refine v_ifB_eq (tgt := 36) K dX10_both_11 rfl (fun c1 => ?_) (fun c1 => ?_)
      · skip
        rw [tk_n c1] at hMq2
        refine v_iload_n K dX10_both_36 rfl ?_
        refine v_iret K dX10_both_37 ?_
        have e2 : (bothP bt n (unitP bt n u 3)) s = (cs, t) := by rw [he, loop_off (by simp only [List.mem_cons, List.not_mem_nil, or_false]; exact c1)]
        show (∃ v, _ ∧ (((bothP bt n (unitP bt n u 3)) s).2.2.1 = none → ∀ st, runL ((bothP bt n (unitP bt n u 3)) s).1 nm st = v :: st)) ∧ PM _ n ((bothP bt n (unitP bt n u 3)) s).2 ∧ _
        rw [e2]
        exact ⟨⟨v, rfl, hv⟩, hMq2, hFq2⟩
      · skip
        have eo : hereP bt n t = nI 38 := c1
        obtain ⟨hl0, hn0⟩ := hereP_lt eo (nI_m1 (by decide))
        have hG0 := hG
        rw [tk_y eo] at hMq2
        refine v_aload_n K dX10_both_14 rfl ?_
        refine v_callV (As := []) K (c_X10_compared_3 h2 bt n B u nm ((advP t)) hXq2 hMq2 ((hO.on hG0 hn0).adv hl0)) lX10_82 ck_X10 rfl sh_118 pl_118 rfl ⟨by decide, by decide⟩ (Nat.le_of_ble_eq_true rfl) dX10_both_15 (fun r3 h3 hp3 => ?_) rfl
        obtain ⟨⟨v2, rfl, hvq3⟩, hMq3, hFaq3⟩ := hp3
        have hFq3 := FrP.t hFq2 hFaq3
        have hXq3 := PX.fr hX hFq3
        have hGq3 : GP n (advP t) ((cmpP bt n (sumP bt n (unitP bt n u 3))) (advP t)).2 := (cmp_good (row_good (row_good (unit_good (bt := bt) (n := n) (u := u) 3) (by decide)) (by decide))) _ ((hO.on hG0 hn0).adv hl0)
        refine v_some ?_
        refine v_istore_n (lv2 := [(2, .int v2), (0, .ref 118), (1, .int v)]) K dX10_both_18 (by decide) rfl ?_
        refine v_iload_n K dX10_both_19 rfl ?_
        refine v_if_eq (tgt := 31) K dX10_both_20 rfl (fun c2 => ?_) (fun c2 => ?_)
        · skip
          refine v_iconstN K 0 rfl dX10_both_31 ?_
          refine v_top (y := joinR (nI 38) v v2) (by rw [j38]; exact (b2i_f (fun q => q.1 c2)).symm) ?_
          refine v_istore_n (lv2 := [(1, .int (joinR (nI 38) v v2)), (2, .int v2), (0, .ref 118)]) K dX10_both_32 (by decide) rfl ?_
          refine v_goto (tgt := 5) K dX10_both_33 rfl ?_
          refine v_sub (lv2 := [(0, .ref 118), (1, .int (joinR (nI 38) v v2))]) (by simp) ?_
          exact ih5 f ((cs ++ ((cmpP bt n (sumP bt n (unitP bt n u 3))) (advP t)).1 ++ [-hereP bt n t])) (((cmpP bt n (sumP bt n (unitP bt n u 3))) (advP t)).2) (joinR (nI 38) v v2) h3 (by exact hG0.tr hn0 ((GP.adv (hO.on hG0 hn0) hl0).tr hn0 hGq3)) (by exact hMq3) (by exact hFq3) (by intro hn2; rw [eo]; exact val_on (by decide) (hv hn0) (hvq3 hn2) rfl) (by rw [he, loop_on (by rw [eo]; decide)]) (by have h1 : (advP t).1 = t.1 + 1 := rfl; have h2 := hGq3.1; omega) (by omega)
        · skip
          refine v_iload_n K dX10_both_23 rfl ?_
          refine v_if_eq (tgt := 31) K dX10_both_24 rfl (fun c3 => ?_) (fun c3 => ?_)
          · skip
            refine v_iconstN K 0 rfl dX10_both_31 ?_
            refine v_top (y := joinR (nI 38) v v2) (by rw [j38]; exact (b2i_f (fun q => q.2 c3)).symm) ?_
            refine v_istore_n (lv2 := [(1, .int (joinR (nI 38) v v2)), (2, .int v2), (0, .ref 118)]) K dX10_both_32 (by decide) rfl ?_
            refine v_goto (tgt := 5) K dX10_both_33 rfl ?_
            refine v_sub (lv2 := [(0, .ref 118), (1, .int (joinR (nI 38) v v2))]) (by simp) ?_
            exact ih5 f ((cs ++ ((cmpP bt n (sumP bt n (unitP bt n u 3))) (advP t)).1 ++ [-hereP bt n t])) (((cmpP bt n (sumP bt n (unitP bt n u 3))) (advP t)).2) (joinR (nI 38) v v2) h3 (by exact hG0.tr hn0 ((GP.adv (hO.on hG0 hn0) hl0).tr hn0 hGq3)) (by exact hMq3) (by exact hFq3) (by intro hn2; rw [eo]; exact val_on (by decide) (hv hn0) (hvq3 hn2) rfl) (by rw [he, loop_on (by rw [eo]; decide)]) (by have h1 : (advP t).1 = t.1 + 1 := rfl; have h2 := hGq3.1; omega) (by omega)
          · skip
            refine v_iconstN K 1 rfl dX10_both_27 ?_
            refine v_goto (tgt := 32) K dX10_both_28 rfl ?_
            refine v_top (y := joinR (nI 38) v v2) (by rw [j38]; exact (b2i_t ⟨c2, c3⟩).symm) ?_
            refine v_istore_n (lv2 := [(1, .int (joinR (nI 38) v v2)), (2, .int v2), (0, .ref 118)]) K dX10_both_32 (by decide) rfl ?_
            refine v_goto (tgt := 5) K dX10_both_33 rfl ?_
            refine v_sub (lv2 := [(0, .ref 118), (1, .int (joinR (nI 38) v v2))]) (by simp) ?_
            exact ih5 f ((cs ++ ((cmpP bt n (sumP bt n (unitP bt n u 3))) (advP t)).1 ++ [-hereP bt n t])) (((cmpP bt n (sumP bt n (unitP bt n u 3))) (advP t)).2) (joinR (nI 38) v v2) h3 (by exact hG0.tr hn0 ((GP.adv (hO.on hG0 hn0) hl0).tr hn0 hGq3)) (by exact hMq3) (by exact hFq3) (by intro hn2; rw [eo]; exact val_on (by decide) (hv hn0) (hvq3 hn2) rfl) (by rw [he, loop_on (by rw [eo]; decide)]) (by have h1 : (advP t).1 = t.1 + 1 := rfl; have h2 := hGq3.1; omega) (by omega)
  refine v_sub (lv2 := [(0, .ref 118), (1, .int v1)]) (by simp) ?_
  exact L5 (52 + 1) 52 (((cmpP bt n (sumP bt n (unitP bt n u 3))) s).1) (((cmpP bt n (sumP bt n (unitP bt n u 3))) s).2) v1 h1 (by exact hGq1) (by exact hMq1) (by exact hFq1) (by exact hvq1) (by rfl) (by omega) (Nat.lt_succ_self _)

abbrev P_X10_either_3 (h : Mm) (bt : Nat → Int32) (n B u : Nat) (nm : Nat → Int32) (s : PSt) : Option Value → Mm → Prop := fun r h2 => (∃ v, r = some (.int v) ∧ (((eitherP bt n (unitP bt n u 3)) s).2.2.1 = none → ∀ st, runL ((eitherP bt n (unitP bt n u 3)) s).1 nm st = v :: st)) ∧ PM h2 n ((eitherP bt n (unitP bt n u 3)) s).2 ∧ FrP h h2
theorem c_X10_either_3 {l : Launch} (h : Mm) (bt : Nat → Int32) (n B u : Nat) (nm : Nat → Int32) (s : PSt) (hX : PX h bt n B u nm) (hM : PM h n s) (hO : OKs n 3 s) : Con l yX10_either cX10_either 3 (some .int) 24 551 132 GL h [.ref 118] (P_X10_either_3 h bt n B u nm s) := by
  refine Con.ofV (own := "FoxRoundsModel") (nm := "either") rfl rfl (by decide) (Nat.le_of_ble_eq_true rfl) ?_
  intro κ ρ hkl K
  subst hkl
  show V κ (QM κ (132, ρ, GL, 0, 0) (P_X10_either_3 h bt n B u nm s)) 3 (132, ρ, GL, 0, 0) h 0 [(0, .ref 118)] []
  have hn50 := hX.2.2.2.2.2.1
  have hBn := hX.2.2.2.2.1
  have hsn := hM.2.1
  have hs5 := hM.2.2.1
  refine v_aload_n K dX10_either_0 rfl ?_
  refine v_callV (As := []) K (c_X10_both_3 h bt n B u nm s hX hM hO) lX10_75 ck_X10 rfl sh_118 pl_118 rfl ⟨by decide, by decide⟩ (Nat.le_of_ble_eq_true rfl) dX10_either_1 (fun r1 h1 hp1 => ?_) rfl
  obtain ⟨⟨v1, rfl, hvq1⟩, hMq1, hFaq1⟩ := hp1
  have hFq1 := FrP.t (FrP.r (h := h)) hFaq1
  have hXq1 := PX.fr hX hFq1
  have hGq1 : GP n s ((bothP bt n (unitP bt n u 3)) s).2 := (row_good (cmp_good (row_good (row_good (unit_good (bt := bt) (n := n) (u := u) 3) (by decide)) (by decide))) (by decide)) _ hO
  refine v_some ?_
  refine v_istore_n (lv2 := [(1, .int v1), (0, .ref 118)]) K dX10_either_4 (by decide) rfl ?_
  have L5 : ∀ (mm : Nat) (f : Nat) (cs : List Int32) (t : PSt) (v : Int32) (h1 : Mm) (hG : GP n s t) (hM1 : PM h1 n t) (hF1 : FrP h h1) (hv : t.2.1 = none → ∀ st, runL cs nm st = v :: st) (he : (eitherP bt n (unitP bt n u 3)) s = loopP bt n [nI 124] (bothP bt n (unitP bt n u 3)) f cs t) (hfu : n + 1 ≤ f + t.1), f < mm → V κ (QM κ (132, ρ, GL, 0, 0) (P_X10_either_3 h bt n B u nm s)) 3 (132, ρ, GL, 0, 0) h1 5 [(0, .ref 118), (1, .int v)] [] := by
    intro mm
    induction mm with
    | zero => intro f cs t v h1 hG hM1 hF1 hv he hfu hmm; exact absurd hmm (Nat.not_lt_zero _)
    | succ mm ih5 =>
      intro f cs t v h1 hG hM1 hF1 hv he hfu hmm
      have hX1 := PX.fr hX hF1
      have htn := hM1.2.1
      have ht5 := hM1.2.2.1
      obtain ⟨f, rfl⟩ : ∃ f0, f = f0 + 1 := ⟨f - 1, by omega⟩
      refine v_aload_n K dX10_either_5 rfl ?_
      refine v_bipushN K 124 rfl dX10_either_6 ?_
      refine v_callV (As := [.int (nI 124)]) K (c_X10_takes h1 bt n B u nm t 124 hX1 hM1 (by decide)) lX10_78 ck_X10 rfl sh_118 pl_118 rfl ⟨by decide, by decide⟩ (Nat.le_of_ble_eq_true rfl) dX10_either_8 (fun r2 h2 hp2 => ?_) rfl
      obtain ⟨rfl, hMq2, hFaq2⟩ := hp2
      have hFq2 := FrP.t hF1 hFaq2
      have hXq2 := PX.fr hX hFq2
      refine v_some ?_
      refine v_ifB_eq (tgt := 36) K dX10_either_11 rfl (fun c1 => ?_) (fun c1 => ?_)
      · skip
        rw [tk_n c1] at hMq2
        refine v_iload_n K dX10_either_36 rfl ?_
        refine v_iret K dX10_either_37 ?_
        have e2 : (eitherP bt n (unitP bt n u 3)) s = (cs, t) := by rw [he, loop_off (by simp only [List.mem_cons, List.not_mem_nil, or_false]; exact c1)]
        show (∃ v, _ ∧ (((eitherP bt n (unitP bt n u 3)) s).2.2.1 = none → ∀ st, runL ((eitherP bt n (unitP bt n u 3)) s).1 nm st = v :: st)) ∧ PM _ n ((eitherP bt n (unitP bt n u 3)) s).2 ∧ _
        rw [e2]
        exact ⟨⟨v, rfl, hv⟩, hMq2, hFq2⟩
      · skip
        have eo : hereP bt n t = nI 124 := c1
        obtain ⟨hl0, hn0⟩ := hereP_lt eo (nI_m1 (by decide))
        have hG0 := hG
        rw [tk_y eo] at hMq2
        refine v_aload_n K dX10_either_14 rfl ?_
        refine v_callV (As := []) K (c_X10_both_3 h2 bt n B u nm ((advP t)) hXq2 hMq2 ((hO.on hG0 hn0).adv hl0)) lX10_75 ck_X10 rfl sh_118 pl_118 rfl ⟨by decide, by decide⟩ (Nat.le_of_ble_eq_true rfl) dX10_either_15 (fun r3 h3 hp3 => ?_) rfl
        obtain ⟨⟨v2, rfl, hvq3⟩, hMq3, hFaq3⟩ := hp3
        have hFq3 := FrP.t hFq2 hFaq3
        have hXq3 := PX.fr hX hFq3
        have hGq3 : GP n (advP t) ((bothP bt n (unitP bt n u 3)) (advP t)).2 := (row_good (cmp_good (row_good (row_good (unit_good (bt := bt) (n := n) (u := u) 3) (by decide)) (by decide))) (by decide)) _ ((hO.on hG0 hn0).adv hl0)
        refine v_some ?_
        refine v_istore_n (lv2 := [(2, .int v2), (0, .ref 118), (1, .int v)]) K dX10_either_18 (by decide) rfl ?_
        refine v_iload_n K dX10_either_19 rfl ?_
        refine v_if_ne (tgt := 27) K dX10_either_20 rfl (fun c2 => ?_) (fun c2 => ?_)
        · skip
          refine v_iconstN K 1 rfl dX10_either_27 ?_
          refine v_goto (tgt := 32) K dX10_either_28 rfl ?_
          refine v_top (y := joinR (nI 124) v v2) (by rw [j124]; exact (b2i_t (Or.inl c2)).symm) ?_
          refine v_istore_n (lv2 := [(1, .int (joinR (nI 124) v v2)), (2, .int v2), (0, .ref 118)]) K dX10_either_32 (by decide) rfl ?_
          refine v_goto (tgt := 5) K dX10_either_33 rfl ?_
          refine v_sub (lv2 := [(0, .ref 118), (1, .int (joinR (nI 124) v v2))]) (by simp) ?_
          exact ih5 f ((cs ++ ((bothP bt n (unitP bt n u 3)) (advP t)).1 ++ [-hereP bt n t])) (((bothP bt n (unitP bt n u 3)) (advP t)).2) (joinR (nI 124) v v2) h3 (by exact hG0.tr hn0 ((GP.adv (hO.on hG0 hn0) hl0).tr hn0 hGq3)) (by exact hMq3) (by exact hFq3) (by intro hn2; rw [eo]; exact val_on (by decide) (hv hn0) (hvq3 hn2) rfl) (by rw [he, loop_on (by rw [eo]; decide)]) (by have h1 : (advP t).1 = t.1 + 1 := rfl; have h2 := hGq3.1; omega) (by omega)
        · skip
          refine v_iload_n K dX10_either_23 rfl ?_
          refine v_if_eq (tgt := 31) K dX10_either_24 rfl (fun c3 => ?_) (fun c3 => ?_)
          · skip
            refine v_iconstN K 0 rfl dX10_either_31 ?_
            refine v_top (y := joinR (nI 124) v v2) (by rw [j124]; exact (b2i_f (by rw [not_or]; exact ⟨fun q => q c2, fun q => q c3⟩)).symm) ?_
            refine v_istore_n (lv2 := [(1, .int (joinR (nI 124) v v2)), (2, .int v2), (0, .ref 118)]) K dX10_either_32 (by decide) rfl ?_
            refine v_goto (tgt := 5) K dX10_either_33 rfl ?_
            refine v_sub (lv2 := [(0, .ref 118), (1, .int (joinR (nI 124) v v2))]) (by simp) ?_
            exact ih5 f ((cs ++ ((bothP bt n (unitP bt n u 3)) (advP t)).1 ++ [-hereP bt n t])) (((bothP bt n (unitP bt n u 3)) (advP t)).2) (joinR (nI 124) v v2) h3 (by exact hG0.tr hn0 ((GP.adv (hO.on hG0 hn0) hl0).tr hn0 hGq3)) (by exact hMq3) (by exact hFq3) (by intro hn2; rw [eo]; exact val_on (by decide) (hv hn0) (hvq3 hn2) rfl) (by rw [he, loop_on (by rw [eo]; decide)]) (by have h1 : (advP t).1 = t.1 + 1 := rfl; have h2 := hGq3.1; omega) (by omega)
          · skip
            refine v_iconstN K 1 rfl dX10_either_27 ?_
            refine v_goto (tgt := 32) K dX10_either_28 rfl ?_
            refine v_top (y := joinR (nI 124) v v2) (by rw [j124]; exact (b2i_t (Or.inr c3)).symm) ?_
            refine v_istore_n (lv2 := [(1, .int (joinR (nI 124) v v2)), (2, .int v2), (0, .ref 118)]) K dX10_either_32 (by decide) rfl ?_
            refine v_goto (tgt := 5) K dX10_either_33 rfl ?_
            refine v_sub (lv2 := [(0, .ref 118), (1, .int (joinR (nI 124) v v2))]) (by simp) ?_
            exact ih5 f ((cs ++ ((bothP bt n (unitP bt n u 3)) (advP t)).1 ++ [-hereP bt n t])) (((bothP bt n (unitP bt n u 3)) (advP t)).2) (joinR (nI 124) v v2) h3 (by exact hG0.tr hn0 ((GP.adv (hO.on hG0 hn0) hl0).tr hn0 hGq3)) (by exact hMq3) (by exact hFq3) (by intro hn2; rw [eo]; exact val_on (by decide) (hv hn0) (hvq3 hn2) rfl) (by rw [he, loop_on (by rw [eo]; decide)]) (by have h1 : (advP t).1 = t.1 + 1 := rfl; have h2 := hGq3.1; omega) (by omega)
  refine v_sub (lv2 := [(0, .ref 118), (1, .int v1)]) (by simp) ?_
  exact L5 (52 + 1) 52 (((bothP bt n (unitP bt n u 3)) s).1) (((bothP bt n (unitP bt n u 3)) s).2) v1 h1 (by exact hGq1) (by exact hMq1) (by exact hFq1) (by exact hvq1) (by rfl) (by omega) (Nat.lt_succ_self _)

theorem unit_e4 {bt : Nat → Int32} {n u : Nat} (s : PSt) : unitP bt n u 4 s = if hereP bt n s = nI 40 then (if hereP bt n ((eitherP bt n (unitP bt n u 3)) (advP (openP s))).2 = nI 41 then (((eitherP bt n (unitP bt n u 3)) (advP (openP s))).1, closeP (advP ((eitherP bt n (unitP bt n u 3)) (advP (openP s))).2)) else ([], wrongP ((eitherP bt n (unitP bt n u 3)) (advP (openP s))).2)) else if hereP bt n s = nI 33 then (((unitP bt n u 3) (advP (openP s))).1 ++ [(-33)], closeP ((unitP bt n u 3) (advP (openP s))).2) else leafP bt n u s := rfl

abbrev P_X10_unit_4 (h : Mm) (bt : Nat → Int32) (n B u : Nat) (nm : Nat → Int32) (s : PSt) : Option Value → Mm → Prop := fun r h2 => (∃ v, r = some (.int v) ∧ (((unitP bt n u 4) s).2.2.1 = none → ∀ st, runL ((unitP bt n u 4) s).1 nm st = v :: st)) ∧ PM h2 n ((unitP bt n u 4) s).2 ∧ FrP h h2
theorem c_X10_unit_4 {l : Launch} (h : Mm) (bt : Nat → Int32) (n B u : Nat) (nm : Nat → Int32) (s : PSt) (hX : PX h bt n B u nm) (hM : PM h n s) (hO : OKs n 4 s) : Con l yX10_unit cX10_unit 5 (some .int) 25 573 132 GL h [.ref 118] (P_X10_unit_4 h bt n B u nm s) := by
  refine Con.ofV (own := "FoxRoundsModel") (nm := "unit") rfl rfl (by decide) (Nat.le_of_ble_eq_true rfl) ?_
  intro κ ρ hkl K
  subst hkl
  show V κ (QM κ (132, ρ, GL, 0, 0) (P_X10_unit_4 h bt n B u nm s)) 5 (132, ρ, GL, 0, 0) h 0 [(0, .ref 118)] []
  have hn50 := hX.2.2.2.2.2.1
  have hBn := hX.2.2.2.2.1
  have hsn := hM.2.1
  have hs5 := hM.2.2.1
  refine v_aload_n K dX10_unit_0 rfl ?_
  refine v_callV (As := []) K (c_X10_here h bt n B u nm s hX hM) lX10_68 ck_X10 rfl sh_118 pl_118 rfl ⟨by decide, by decide⟩ (Nat.le_of_ble_eq_true rfl) dX10_unit_1 (fun r1 h1 hp1 => ?_) rfl
  obtain ⟨rfl, rfl⟩ := hp1
  refine v_some ?_
  refine v_istore_n (lv2 := [(1, .int (hereP bt n s)), (0, .ref 118)]) K dX10_unit_4 (by decide) rfl ?_
  refine v_iload_n K dX10_unit_5 rfl ?_
  refine v_bipushN K 33 rfl dX10_unit_6 ?_
  refine v_icmp_eq (tgt := 17) K dX10_unit_8 rfl (fun c1 => ?_) (fun c1 => ?_)
  · skip
    have eo : hereP bt n s = nI 33 := c1
    obtain ⟨hl0, hn0⟩ := hereP_lt eo (nI_m1 (by decide))
    refine v_aload_n K dX10_unit_17 rfl ?_
    refine v_geti (x := nI s.2.2) K fX10_94 sh_118 pl_118 hM.1.2.2 dX10_unit_18 ?_
    refine v_iconstN K 5 rfl dX10_unit_21 ?_
    refine v_icmpN_ne (tgt := 30) K (by omega) (by omega) dX10_unit_22 rfl (fun c2 => ?_) (fun c2 => ?_)
    · skip
      refine v_aload_n K dX10_unit_30 rfl ?_
      refine v_dup K dX10_unit_31 rfl ?_
      refine v_geti (x := nI s.2.2) K fX10_94 sh_118 pl_118 hM.1.2.2 dX10_unit_32 ?_
      refine v_iconstN K 1 rfl dX10_unit_35 ?_
      refine v_iaddN K dX10_unit_36 ?_
      refine v_puti K pX10_94 sh_118 pl_118 dX10_unit_37 ?_
      have hMm1 : PM (u2 h 118 9 (nI (s.2.2 + 1))) n (openP s) := hM.opn (by have := hO.2.2; omega)
      have hFm1 : FrP h (u2 h 118 9 (nI (s.2.2 + 1))) := FrP.u (FrP.r (h := h)) (by omega)
      have hXm1 := PX.fr hX hFm1
      refine v_aload_n K dX10_unit_40 rfl ?_
      refine v_dup K dX10_unit_41 rfl ?_
      refine v_geti (x := nI ((openP s).1)) K fX10_55 sh_118 pl_118 hMm1.1.1 dX10_unit_42 ?_
      refine v_iconstN K 1 rfl dX10_unit_45 ?_
      refine v_iaddN K dX10_unit_46 ?_
      refine v_puti K pX10_55 sh_118 pl_118 dX10_unit_47 ?_
      have hMm2 : PM (u2 (u2 h 118 9 (nI (s.2.2 + 1))) 118 6 (nI ((openP s).1 + 1))) n (advP (openP s)) := hMm1.adv hl0
      have hFm2 : FrP h (u2 (u2 h 118 9 (nI (s.2.2 + 1))) 118 6 (nI ((openP s).1 + 1))) := FrP.u hFm1 (by omega)
      have hXm2 := PX.fr hX hFm2
      refine v_iload_n K dX10_unit_50 rfl ?_
      refine v_bipushN K 40 rfl dX10_unit_51 ?_
      refine v_icmp_ne (tgt := 63) K dX10_unit_53 rfl (fun c3 => ?_) (fun c3 => ?_)
      · skip
        refine v_aload_n K dX10_unit_63 rfl ?_
        refine v_callV (As := []) K (c_X10_unit_3 ((u2 (u2 h 118 9 (nI (s.2.2 + 1))) 118 6 (nI ((openP s).1 + 1)))) bt n B u nm ((advP (openP s))) hXm2 hMm2 ⟨hl0, hn0, by show s.2.2 + 1 + 3 = 5; have := hO.2.2; omega⟩) lX10_91 ck_X10 rfl sh_118 pl_118 rfl ⟨by decide, by decide⟩ (Nat.le_of_ble_eq_true rfl) dX10_unit_64 (fun r2 h2 hp2 => ?_) rfl
        obtain ⟨⟨v1, rfl, hvq1⟩, hMq1, hFaq1⟩ := hp2
        have hFq1 := FrP.t hFm2 hFaq1
        have hXq1 := PX.fr hX hFq1
        have hGq1 : GP n (advP (openP s)) ((unitP bt n u 3) (advP (openP s))).2 := (unit_good (bt := bt) (n := n) (u := u) 3) _ ⟨hl0, hn0, by show s.2.2 + 1 + 3 = 5; have := hO.2.2; omega⟩
        refine v_some ?_
        have hG1 := hGq1
        have hv1 := hvq1
        have ho1 : s.2.2 + 1 ≤ ((unitP bt n u 3) (advP (openP s))).2.2.2 := hG1.2.2.2.1
        refine v_istore_n (lv2 := [(2, .int v1), (1, .int (hereP bt n s)), (0, .ref 118)]) K dX10_unit_67 (by decide) rfl ?_
        refine v_iload_n K dX10_unit_68 rfl ?_
        refine v_bipushN K 40 rfl dX10_unit_69 ?_
        refine v_icmp_ne (tgt := 88) K dX10_unit_71 rfl (fun c4 => ?_) (fun c4 => ?_)
        · skip
          refine v_aload_n K dX10_unit_88 rfl ?_
          refine v_dup K dX10_unit_89 rfl ?_
          refine v_geti (x := nI (((unitP bt n u 3) (advP (openP s))).2.2.2)) K fX10_94 sh_118 pl_118 hMq1.1.2.2 dX10_unit_90 ?_
          refine v_iconstN K 1 rfl dX10_unit_93 ?_
          refine v_isubN K (by first | exact Nat.le_trans (Nat.succ_le_succ (Nat.zero_le _)) ho1 | (have := ho1; omega)) dX10_unit_94 ?_
          refine v_puti K pX10_94 sh_118 pl_118 dX10_unit_95 ?_
          have hMm3 : PM (u2 h2 118 9 (nI (((unitP bt n u 3) (advP (openP s))).2.2.2 - 1))) n (closeP ((unitP bt n u 3) (advP (openP s))).2) := hMq1.cls
          have hFm3 : FrP h (u2 h2 118 9 (nI (((unitP bt n u 3) (advP (openP s))).2.2.2 - 1))) := FrP.u hFq1 (by omega)
          have hXm3 := PX.fr hX hFm3
          refine v_iload_n K dX10_unit_98 rfl ?_
          refine v_bipushN K 40 rfl dX10_unit_99 ?_
          refine v_icmp_ne (tgt := 108) K dX10_unit_101 rfl (fun c5 => ?_) (fun c5 => ?_)
          · skip
            refine v_iload_n K dX10_unit_108 rfl ?_
            refine v_if_ne (tgt := 116) K dX10_unit_109 rfl (fun c6 => ?_) (fun c6 => ?_)
            · skip
              refine v_iconstN K 0 rfl dX10_unit_116 ?_
              refine v_iret K dX10_unit_117 ?_
              have e2 : (unitP bt n u 4) s = (((unitP bt n u 3) (advP (openP s))).1 ++ [(-33)], closeP ((unitP bt n u 3) (advP (openP s))).2) := by rw [unit_e4, if_neg (fun q => absurd (q.symm.trans eo) (by decide)), if_pos eo]
              show (∃ v, _ ∧ (((unitP bt n u 4) s).2.2.1 = none → ∀ st, runL ((unitP bt n u 4) s).1 nm st = v :: st)) ∧ PM _ n ((unitP bt n u 4) s).2 ∧ _
              rw [e2]
              refine ⟨⟨_, rfl, fun q st => ?_⟩, hMm3, hFm3⟩
              rw [runL_app, hv1 q, run_bang, b2i_f c6]
              rfl
            · skip
              refine v_iconstN K 1 rfl dX10_unit_112 ?_
              refine v_goto (tgt := 117) K dX10_unit_113 rfl ?_
              refine v_iret K dX10_unit_117 ?_
              have e2 : (unitP bt n u 4) s = (((unitP bt n u 3) (advP (openP s))).1 ++ [(-33)], closeP ((unitP bt n u 3) (advP (openP s))).2) := by rw [unit_e4, if_neg (fun q => absurd (q.symm.trans eo) (by decide)), if_pos eo]
              show (∃ v, _ ∧ (((unitP bt n u 4) s).2.2.1 = none → ∀ st, runL ((unitP bt n u 4) s).1 nm st = v :: st)) ∧ PM _ n ((unitP bt n u 4) s).2 ∧ _
              rw [e2]
              refine ⟨⟨_, rfl, fun q st => ?_⟩, hMm3, hFm3⟩
              rw [runL_app, hv1 q, run_bang, b2i_t c6]
              rfl
          · skip
            exact absurd (c5.symm.trans eo) (by decide)
        · skip
          exact absurd (c4.symm.trans eo) (by decide)
      · skip
        exact absurd (c3.symm.trans eo) (by decide)
    · skip
      exfalso; have := hO.2.2; omega
  · skip
    refine v_iload_n K dX10_unit_11 rfl ?_
    refine v_bipushN K 40 rfl dX10_unit_12 ?_
    refine v_icmp_ne (tgt := 118) K dX10_unit_14 rfl (fun c7 => ?_) (fun c7 => ?_)
    · skip
      have eL : unitP bt n u 4 s = leafP bt n u s := by rw [unit_e4, if_neg c7, if_neg c1]
      refine v_aload_n K dX10_unit_118 rfl ?_
      refine v_iload_n K dX10_unit_119 rfl ?_
      refine v_callV (As := [.int (hereP bt n s)]) K (c_X10_nameOf h bt n B u nm s (hereP bt n s) hX hM) lX10_103 ck_X10 rfl sh_118 pl_118 rfl ⟨by decide, by decide⟩ (Nat.le_of_ble_eq_true rfl) dX10_unit_120 (fun r3 h3 hp3 => ?_) rfl
      obtain ⟨rfl, rfl⟩ := hp3
      refine v_some ?_
      refine v_nm (fun kk e_kk => ?_)
      refine v_istore_n (lv2 := [(2, .int kk), (1, .int (hereP bt n s)), (0, .ref 118)]) K dX10_unit_123 (by decide) rfl ?_
      refine v_iload_n K dX10_unit_124 rfl ?_
      refine v_if_lt (tgt := 145) K dX10_unit_125 rfl (fun c8 => ?_) (fun c8 => ?_)
      · skip
        have hno := nm_none (o := nameP u (hereP bt n s)) (fun j hj => Nat.lt_of_lt_of_le (name_lt hj) nn_le) (by rw [← e_kk]; exact c8)
        refine v_iconstN K 0 rfl dX10_unit_145 ?_
        refine v_istore_n (lv2 := [(3, .int (nI 0)), (2, .int kk), (1, .int (hereP bt n s)), (0, .ref 118)]) K dX10_unit_146 (by decide) rfl ?_
        refine v_iconstN K 0 rfl dX10_unit_147 ?_
        refine v_istore (lv2 := [(4, .int (nI 0)), (3, .int (nI 0)), (2, .int kk), (1, .int (hereP bt n s)), (0, .ref 118)]) K dX10_unit_148 (by decide) rfl ?_
        have L150 : ∀ (mm : Nat) (f : Nat) (m : Nat) (t : PSt) (v : Int32) (h1 : Mm) (hfm : f + m = 4) (hO1 : OKs n 4 t) (hM1 : PM h1 n t) (hF1 : FrP h h1) (he : (digP bt n 4 (nI 0) s) = ((digP bt n f v t).1, (digP bt n f v t).2.1 + m, (digP bt n f v t).2.2)), f < mm → V κ (QM κ (132, ρ, GL, 0, 0) (P_X10_unit_4 h bt n B u nm s)) 5 (132, ρ, GL, 0, 0) h1 150 [(0, .ref 118), (1, .int (hereP bt n s)), (2, .int kk), (3, .int v), (4, .int (nI m))] [] := by
          intro mm
          induction mm with
          | zero => intro f m t v h1 hfm hO1 hM1 hF1 he hmm; exact absurd hmm (Nat.not_lt_zero _)
          | succ mm ih150 =>
            intro f m t v h1 hfm hO1 hM1 hF1 he hmm
            have hX1 := PX.fr hX hF1
            have htn := hM1.2.1
            refine v_iload K dX10_unit_150 rfl ?_
            refine v_iconstN K 4 rfl dX10_unit_152 ?_
            refine v_icmpN_ge (tgt := 202) K (by omega) (by omega) dX10_unit_153 rfl (fun c9 => ?_) (fun c9 => ?_)
            · skip
              obtain rfl : f = 0 := by omega
              have eD : (digP bt n 4 (nI 0) s) = (v, m, t) := by rw [he, digP]; simp
              refine v_iload K dX10_unit_202 rfl ?_
              refine v_ifN_ne (tgt := 214) K (by omega) dX10_unit_204 rfl (fun c10 => ?_) (fun c10 => ?_)
              · skip
                refine v_iload_n K dX10_unit_214 rfl ?_
                refine v_iret K dX10_unit_215 ?_
                have e2 : (unitP bt n u 4) s = ([v], t) := by rw [eL, leafP, hno]; dsimp only; rw [eD]; exact if_neg (by show ¬ m = 0; omega)
                show (∃ v, _ ∧ (((unitP bt n u 4) s).2.2.1 = none → ∀ st, runL ((unitP bt n u 4) s).1 nm st = v :: st)) ∧ PM _ n ((unitP bt n u 4) s).2 ∧ _
                rw [e2]
                obtain ⟨a, ha, ea⟩ := dig_val (bt := bt) (n := n) 4 0 (nI 0) s (by omega) ⟨0, by decide, rfl⟩
                rw [eD] at ea
                have ea2 : v = nI a := ea
                subst ea2
                exact ⟨⟨_, rfl, fun _ st => run_num ha⟩, hM1, hF1⟩
              · skip
                refine v_aload_n K dX10_unit_207 rfl ?_
                refine v_callV (As := []) K (c_X10_wrong h1 bt n B u nm t hX1 hM1) lX10_97 ck_X10 rfl sh_118 pl_118 rfl ⟨by decide, by decide⟩ (Nat.le_of_ble_eq_true rfl) dX10_unit_208 (fun r4 h4 hp4 => ?_) rfl
                obtain ⟨rfl, hMq2, hFaq2⟩ := hp4
                have hFq2 := FrP.t hF1 hFaq2
                have hXq2 := PX.fr hX hFq2
                refine v_some ?_
                refine v_goto (tgt := 215) K dX10_unit_211 rfl ?_
                refine v_iret K dX10_unit_215 ?_
                have e2 : (unitP bt n u 4) s = ([], wrongP t) := by rw [eL, leafP, hno]; dsimp only; rw [eD]; exact if_pos (by show m = 0; omega)
                show (∃ v, _ ∧ (((unitP bt n u 4) s).2.2.1 = none → ∀ st, runL ((unitP bt n u 4) s).1 nm st = v :: st)) ∧ PM _ n ((unitP bt n u 4) s).2 ∧ _
                rw [e2]
                exact ⟨⟨_, rfl, fun q => absurd q wrong_some⟩, hMq2, hFq2⟩
            · skip
              obtain ⟨f, rfl⟩ : ∃ f0, f = f0 + 1 := ⟨f - 1, by omega⟩
              refine v_aload_n K dX10_unit_156 rfl ?_
              refine v_callV (As := []) K (c_X10_here h1 bt n B u nm t hX1 hM1) lX10_68 ck_X10 rfl sh_118 pl_118 rfl ⟨by decide, by decide⟩ (Nat.le_of_ble_eq_true rfl) dX10_unit_157 (fun r5 h5 hp5 => ?_) rfl
              obtain ⟨rfl, rfl⟩ := hp5
              refine v_some ?_
              refine v_i2l K dX10_unit_160 rfl ?_
              refine v_ldc2 K kX10_107 dX10_unit_161 ?_
              refine v_topL (y := (nI 48).toInt64) (by decide) ?_
              refine v_ldc2 K kX10_109 dX10_unit_164 ?_
              refine v_topL (y := (nI 57).toInt64) (by decide) ?_
              refine v_callS (As := [.long (hereP bt n t).toInt64, .long (nI 48).toInt64, .long (nI 57).toInt64]) K (c_X10_in h1 (hereP bt n t) (nI 48) (nI 57)) lX10_51 rfl ⟨by decide, by decide⟩ (Nat.le_of_ble_eq_true rfl) dX10_unit_167 (fun r6 h6 hp6 => ?_) rfl
              obtain ⟨rfl, rfl⟩ := hp6
              refine v_some ?_
              refine v_ifB_eq (tgt := 202) K dX10_unit_170 rfl (fun c11 => ?_) (fun c11 => ?_)
              · skip
                have eD : (digP bt n 4 (nI 0) s) = (v, m, t) := by rw [he, digP, if_neg c11]; simp
                refine v_iload K dX10_unit_202 rfl ?_
                refine v_ifN_ne (tgt := 214) K (by omega) dX10_unit_204 rfl (fun c12 => ?_) (fun c12 => ?_)
                · skip
                  refine v_iload_n K dX10_unit_214 rfl ?_
                  refine v_iret K dX10_unit_215 ?_
                  have e2 : (unitP bt n u 4) s = ([v], t) := by rw [eL, leafP, hno]; dsimp only; rw [eD]; exact if_neg (by show ¬ m = 0; omega)
                  show (∃ v, _ ∧ (((unitP bt n u 4) s).2.2.1 = none → ∀ st, runL ((unitP bt n u 4) s).1 nm st = v :: st)) ∧ PM _ n ((unitP bt n u 4) s).2 ∧ _
                  rw [e2]
                  obtain ⟨a, ha, ea⟩ := dig_val (bt := bt) (n := n) 4 0 (nI 0) s (by omega) ⟨0, by decide, rfl⟩
                  rw [eD] at ea
                  have ea2 : v = nI a := ea
                  subst ea2
                  exact ⟨⟨_, rfl, fun _ st => run_num ha⟩, hM1, hF1⟩
                · skip
                  refine v_aload_n K dX10_unit_207 rfl ?_
                  refine v_callV (As := []) K (c_X10_wrong h1 bt n B u nm t hX1 hM1) lX10_97 ck_X10 rfl sh_118 pl_118 rfl ⟨by decide, by decide⟩ (Nat.le_of_ble_eq_true rfl) dX10_unit_208 (fun r7 h7 hp7 => ?_) rfl
                  obtain ⟨rfl, hMq3, hFaq3⟩ := hp7
                  have hFq3 := FrP.t hF1 hFaq3
                  have hXq3 := PX.fr hX hFq3
                  refine v_some ?_
                  refine v_goto (tgt := 215) K dX10_unit_211 rfl ?_
                  refine v_iret K dX10_unit_215 ?_
                  have e2 : (unitP bt n u 4) s = ([], wrongP t) := by rw [eL, leafP, hno]; dsimp only; rw [eD]; exact if_pos (by show m = 0; omega)
                  show (∃ v, _ ∧ (((unitP bt n u 4) s).2.2.1 = none → ∀ st, runL ((unitP bt n u 4) s).1 nm st = v :: st)) ∧ PM _ n ((unitP bt n u 4) s).2 ∧ _
                  rw [e2]
                  exact ⟨⟨_, rfl, fun q => absurd q wrong_some⟩, hMq3, hFq3⟩
              · skip
                obtain ⟨hl1, hn1⟩ := hereP_lt (c := hereP bt n t) rfl (fun e => by rw [e] at c11; exact absurd c11.1 (by decide))
                refine v_bipushN K 10 rfl dX10_unit_173 ?_
                refine v_iload_n K dX10_unit_175 rfl ?_
                refine v_imul K dX10_unit_176 ?_
                refine v_aload_n K dX10_unit_177 rfl ?_
                refine v_callV (As := []) K (c_X10_here h1 bt n B u nm t hX1 hM1) lX10_68 ck_X10 rfl sh_118 pl_118 rfl ⟨by decide, by decide⟩ (Nat.le_of_ble_eq_true rfl) dX10_unit_178 (fun r8 h8 hp8 => ?_) rfl
                obtain ⟨rfl, rfl⟩ := hp8
                refine v_some ?_
                refine v_iadd K dX10_unit_181 ?_
                refine v_bipushN K 48 rfl dX10_unit_182 ?_
                refine v_isub K dX10_unit_184 ?_
                refine v_nm (fun x1 e_x1 => ?_)
                refine v_istore_n (lv2 := [(3, .int x1), (0, .ref 118), (1, .int (hereP bt n s)), (2, .int kk), (4, .int (nI m))]) K dX10_unit_185 (by decide) rfl ?_
                refine v_aload_n K dX10_unit_186 rfl ?_
                refine v_dup K dX10_unit_187 rfl ?_
                refine v_geti (x := nI t.1) K fX10_55 sh_118 pl_118 hM1.1.1 dX10_unit_188 ?_
                refine v_iconstN K 1 rfl dX10_unit_191 ?_
                refine v_iaddN K dX10_unit_192 ?_
                refine v_puti K pX10_55 sh_118 pl_118 dX10_unit_193 ?_
                have hMm4 : PM (u2 h1 118 6 (nI (t.1 + 1))) n (advP t) := hM1.adv hl1
                have hFm4 : FrP h (u2 h1 118 6 (nI (t.1 + 1))) := FrP.u hF1 (by omega)
                have hXm4 := PX.fr hX hFm4
                refine v_iincN (lv2 := [(4, .int (nI (m + 1))), (3, .int x1), (0, .ref 118), (1, .int (hereP bt n s)), (2, .int kk)]) K 1 dX10_unit_196 rfl rfl (by decide) rfl ?_
                refine v_goto (tgt := 150) K dX10_unit_199 rfl ?_
                refine v_sub (lv2 := [(0, .ref 118), (1, .int (hereP bt n s)), (2, .int kk), (3, .int x1), (4, .int (nI (m + 1)))]) (by simp) ?_
                exact ih150 f (m + 1) ((advP t)) x1 ((u2 h1 118 6 (nI (t.1 + 1)))) (by omega) (by exact hO1.adv hl1) (by exact hMm4) (by exact hFm4) (by rw [he, digP, if_pos c11, ← e_x1]; exact Prod.ext rfl (Prod.ext (by show _ + 1 + m = _ + (m + 1); omega) rfl)) (by omega)
        refine v_sub (lv2 := [(0, .ref 118), (1, .int (hereP bt n s)), (2, .int kk), (3, .int (nI 0)), (4, .int (nI 0))]) (by simp) ?_
        exact L150 (4 + 1) 4 0 s (nI 0) h (by rfl) (by exact hO) (by exact hM) (by exact (FrP.r (h := h))) (by rfl) (Nat.lt_succ_self _)
      · skip
        obtain ⟨j, hj⟩ := nm_some (o := nameP u (hereP bt n s)) (by rw [← e_kk]; exact c8)
        have hj5 : j < 5 := Nat.lt_of_lt_of_le (name_lt hj) nn_le
        rw [hj] at e_kk
        subst e_kk
        obtain ⟨hl0, hn0⟩ := hereP_lt (c := hereP bt n s) rfl (name_ne hj)
        show V κ (QM κ (132, ρ, GL, 0, 0) (P_X10_unit_4 h bt n B u nm s)) 5 (132, ρ, GL, 0, 0) h 128 [(2, .int (nI j)), (1, .int (hereP bt n s)), (0, .ref 118)] []
        refine v_aload_n K dX10_unit_128 rfl ?_
        refine v_dup K dX10_unit_129 rfl ?_
        refine v_geti (x := nI s.1) K fX10_55 sh_118 pl_118 hM.1.1 dX10_unit_130 ?_
        refine v_iconstN K 1 rfl dX10_unit_133 ?_
        refine v_iaddN K dX10_unit_134 ?_
        refine v_puti K pX10_55 sh_118 pl_118 dX10_unit_135 ?_
        have hMm5 : PM (u2 h 118 6 (nI (s.1 + 1))) n (advP s) := hM.adv hl0
        have hFm5 : FrP h (u2 h 118 6 (nI (s.1 + 1))) := FrP.u (FrP.r (h := h)) (by omega)
        have hXm5 := PX.fr hX hFm5
        refine v_aload_n K dX10_unit_138 rfl ?_
        refine v_getr (q := 123) K fX10_22 sh_118 pl_118 gl_118_11 dX10_unit_139 ?_
        refine v_iload_n K dX10_unit_142 rfl ?_
        refine v_iald (x := nm j) K sh_123 pl_123 (by omega) (hXm5.2.2.2.2.2.2.2 j (by omega)) dX10_unit_143 ?_
        refine v_iret K dX10_unit_144 ?_
        have e2 : (unitP bt n u 4) s = ([(-1) - nI j], advP s) := by rw [eL, leafP, hj]
        show (∃ v, _ ∧ (((unitP bt n u 4) s).2.2.1 = none → ∀ st, runL ((unitP bt n u 4) s).1 nm st = v :: st)) ∧ PM _ n ((unitP bt n u 4) s).2 ∧ _
        rw [e2]
        exact ⟨⟨_, rfl, fun _ st => run_name hj5⟩, hMm5, hFm5⟩
    · skip
      have eo : hereP bt n s = nI 40 := c7
      obtain ⟨hl0, hn0⟩ := hereP_lt eo (nI_m1 (by decide))
      refine v_aload_n K dX10_unit_17 rfl ?_
      refine v_geti (x := nI s.2.2) K fX10_94 sh_118 pl_118 hM.1.2.2 dX10_unit_18 ?_
      refine v_iconstN K 5 rfl dX10_unit_21 ?_
      refine v_icmpN_ne (tgt := 30) K (by omega) (by omega) dX10_unit_22 rfl (fun c13 => ?_) (fun c13 => ?_)
      · skip
        refine v_aload_n K dX10_unit_30 rfl ?_
        refine v_dup K dX10_unit_31 rfl ?_
        refine v_geti (x := nI s.2.2) K fX10_94 sh_118 pl_118 hM.1.2.2 dX10_unit_32 ?_
        refine v_iconstN K 1 rfl dX10_unit_35 ?_
        refine v_iaddN K dX10_unit_36 ?_
        refine v_puti K pX10_94 sh_118 pl_118 dX10_unit_37 ?_
        have hMm6 : PM (u2 h 118 9 (nI (s.2.2 + 1))) n (openP s) := hM.opn (by have := hO.2.2; omega)
        have hFm6 : FrP h (u2 h 118 9 (nI (s.2.2 + 1))) := FrP.u (FrP.r (h := h)) (by omega)
        have hXm6 := PX.fr hX hFm6
        refine v_aload_n K dX10_unit_40 rfl ?_
        refine v_dup K dX10_unit_41 rfl ?_
        refine v_geti (x := nI ((openP s).1)) K fX10_55 sh_118 pl_118 hMm6.1.1 dX10_unit_42 ?_
        refine v_iconstN K 1 rfl dX10_unit_45 ?_
        refine v_iaddN K dX10_unit_46 ?_
        refine v_puti K pX10_55 sh_118 pl_118 dX10_unit_47 ?_
        have hMm7 : PM (u2 (u2 h 118 9 (nI (s.2.2 + 1))) 118 6 (nI ((openP s).1 + 1))) n (advP (openP s)) := hMm6.adv hl0
        have hFm7 : FrP h (u2 (u2 h 118 9 (nI (s.2.2 + 1))) 118 6 (nI ((openP s).1 + 1))) := FrP.u hFm6 (by omega)
        have hXm7 := PX.fr hX hFm7
        refine v_iload_n K dX10_unit_50 rfl ?_
        refine v_bipushN K 40 rfl dX10_unit_51 ?_
        refine v_icmp_ne (tgt := 63) K dX10_unit_53 rfl (fun c14 => ?_) (fun c14 => ?_)
        · skip
          exact absurd eo c14
        · skip
          refine v_aload_n K dX10_unit_56 rfl ?_
          refine v_callV (As := []) K (c_X10_either_3 ((u2 (u2 h 118 9 (nI (s.2.2 + 1))) 118 6 (nI ((openP s).1 + 1)))) bt n B u nm ((advP (openP s))) hXm7 hMm7 ⟨hl0, hn0, by show s.2.2 + 1 + 3 = 5; have := hO.2.2; omega⟩) lX10_100 ck_X10 rfl sh_118 pl_118 rfl ⟨by decide, by decide⟩ (Nat.le_of_ble_eq_true rfl) dX10_unit_57 (fun r9 h9 hp9 => ?_) rfl
          obtain ⟨⟨v2, rfl, hvq4⟩, hMq4, hFaq4⟩ := hp9
          have hFq4 := FrP.t hFm7 hFaq4
          have hXq4 := PX.fr hX hFq4
          have hGq4 : GP n (advP (openP s)) ((eitherP bt n (unitP bt n u 3)) (advP (openP s))).2 := (either_good (unit_good (bt := bt) (n := n) (u := u) 3)) _ ⟨hl0, hn0, by show s.2.2 + 1 + 3 = 5; have := hO.2.2; omega⟩
          refine v_some ?_
          refine v_goto (tgt := 67) K dX10_unit_60 rfl ?_
          have hG1 := hGq4
          have hv1 := hvq4
          have ho1 : s.2.2 + 1 ≤ ((eitherP bt n (unitP bt n u 3)) (advP (openP s))).2.2.2 := hG1.2.2.2.1
          refine v_istore_n (lv2 := [(2, .int v2), (1, .int (hereP bt n s)), (0, .ref 118)]) K dX10_unit_67 (by decide) rfl ?_
          refine v_iload_n K dX10_unit_68 rfl ?_
          refine v_bipushN K 40 rfl dX10_unit_69 ?_
          refine v_icmp_ne (tgt := 88) K dX10_unit_71 rfl (fun c15 => ?_) (fun c15 => ?_)
          · skip
            exact absurd eo c15
          · skip
            refine v_aload_n K dX10_unit_74 rfl ?_
            refine v_bipushN K 41 rfl dX10_unit_75 ?_
            refine v_callV (As := [.int (nI 41)]) K (c_X10_takes h9 bt n B u nm (((eitherP bt n (unitP bt n u 3)) (advP (openP s))).2) 41 hXq4 hMq4 (by decide)) lX10_78 ck_X10 rfl sh_118 pl_118 rfl ⟨by decide, by decide⟩ (Nat.le_of_ble_eq_true rfl) dX10_unit_77 (fun r10 h10 hp10 => ?_) rfl
            obtain ⟨rfl, hMq5, hFaq5⟩ := hp10
            have hFq5 := FrP.t hFq4 hFaq5
            have hXq5 := PX.fr hX hFq5
            refine v_some ?_
            refine v_ifB_ne (tgt := 88) K dX10_unit_80 rfl (fun c16 => ?_) (fun c16 => ?_)
            · skip
              rw [tk_y c16] at hMq5
              refine v_aload_n K dX10_unit_88 rfl ?_
              refine v_dup K dX10_unit_89 rfl ?_
              refine v_geti (x := nI ((advP ((eitherP bt n (unitP bt n u 3)) (advP (openP s))).2).2.2)) K fX10_94 sh_118 pl_118 hMq5.1.2.2 dX10_unit_90 ?_
              refine v_iconstN K 1 rfl dX10_unit_93 ?_
              refine v_isubN K (by first | exact Nat.le_trans (Nat.succ_le_succ (Nat.zero_le _)) ho1 | (have := ho1; omega)) dX10_unit_94 ?_
              refine v_puti K pX10_94 sh_118 pl_118 dX10_unit_95 ?_
              have hMm8 : PM (u2 h10 118 9 (nI ((advP ((eitherP bt n (unitP bt n u 3)) (advP (openP s))).2).2.2 - 1))) n (closeP (advP ((eitherP bt n (unitP bt n u 3)) (advP (openP s))).2)) := hMq5.cls
              have hFm8 : FrP h (u2 h10 118 9 (nI ((advP ((eitherP bt n (unitP bt n u 3)) (advP (openP s))).2).2.2 - 1))) := FrP.u hFq5 (by omega)
              have hXm8 := PX.fr hX hFm8
              refine v_iload_n K dX10_unit_98 rfl ?_
              refine v_bipushN K 40 rfl dX10_unit_99 ?_
              refine v_icmp_ne (tgt := 108) K dX10_unit_101 rfl (fun c17 => ?_) (fun c17 => ?_)
              · skip
                exact absurd eo c17
              · skip
                refine v_iload_n K dX10_unit_104 rfl ?_
                refine v_goto (tgt := 117) K dX10_unit_105 rfl ?_
                refine v_iret K dX10_unit_117 ?_
                have e2 : (unitP bt n u 4) s = (((eitherP bt n (unitP bt n u 3)) (advP (openP s))).1, closeP (advP ((eitherP bt n (unitP bt n u 3)) (advP (openP s))).2)) := by rw [unit_e4, if_pos eo, if_pos c16]
                show (∃ v, _ ∧ (((unitP bt n u 4) s).2.2.1 = none → ∀ st, runL ((unitP bt n u 4) s).1 nm st = v :: st)) ∧ PM _ n ((unitP bt n u 4) s).2 ∧ _
                rw [e2]
                exact ⟨⟨_, rfl, fun q => hv1 q⟩, hMm8, hFm8⟩
            · skip
              rw [tk_n c16] at hMq5
              refine v_aload_n K dX10_unit_83 rfl ?_
              refine v_callV (As := []) K (c_X10_wrong h10 bt n B u nm (((eitherP bt n (unitP bt n u 3)) (advP (openP s))).2) hXq5 hMq5) lX10_97 ck_X10 rfl sh_118 pl_118 rfl ⟨by decide, by decide⟩ (Nat.le_of_ble_eq_true rfl) dX10_unit_84 (fun r11 h11 hp11 => ?_) rfl
              obtain ⟨rfl, hMq6, hFaq6⟩ := hp11
              have hFq6 := FrP.t hFq5 hFaq6
              have hXq6 := PX.fr hX hFq6
              refine v_some ?_
              refine v_iret K dX10_unit_87 ?_
              have e2 : (unitP bt n u 4) s = ([], wrongP ((eitherP bt n (unitP bt n u 3)) (advP (openP s))).2) := by rw [unit_e4, if_pos eo, if_neg c16]
              show (∃ v, _ ∧ (((unitP bt n u 4) s).2.2.1 = none → ∀ st, runL ((unitP bt n u 4) s).1 nm st = v :: st)) ∧ PM _ n ((unitP bt n u 4) s).2 ∧ _
              rw [e2]
              exact ⟨⟨_, rfl, fun q => absurd q wrong_some⟩, hMq6, hFq6⟩
      · skip
        exfalso; have := hO.2.2; omega

abbrev P_X10_product_4 (h : Mm) (bt : Nat → Int32) (n B u : Nat) (nm : Nat → Int32) (s : PSt) : Option Value → Mm → Prop := fun r h2 => (∃ v, r = some (.int v) ∧ (((prodP bt n (unitP bt n u 4)) s).2.2.1 = none → ∀ st, runL ((prodP bt n (unitP bt n u 4)) s).1 nm st = v :: st)) ∧ PM h2 n ((prodP bt n (unitP bt n u 4)) s).2 ∧ FrP h h2
theorem c_X10_product_4 {l : Launch} (h : Mm) (bt : Nat → Int32) (n B u : Nat) (nm : Nat → Int32) (s : PSt) (hX : PX h bt n B u nm) (hM : PM h n s) (hO : OKs n 4 s) : Con l yX10_product cX10_product 4 (some .int) 26 597 132 GL h [.ref 118] (P_X10_product_4 h bt n B u nm s) := by
  refine Con.ofV (own := "FoxRoundsModel") (nm := "product") rfl rfl (by decide) (Nat.le_of_ble_eq_true rfl) ?_
  intro κ ρ hkl K
  subst hkl
  show V κ (QM κ (132, ρ, GL, 0, 0) (P_X10_product_4 h bt n B u nm s)) 4 (132, ρ, GL, 0, 0) h 0 [(0, .ref 118)] []
  have hn50 := hX.2.2.2.2.2.1
  have hBn := hX.2.2.2.2.1
  have hsn := hM.2.1
  have hs5 := hM.2.2.1
  refine v_aload_n K dX10_product_0 rfl ?_
  refine v_callV (As := []) K (c_X10_unit_4 h bt n B u nm s hX hM hO) lX10_91 ck_X10 rfl sh_118 pl_118 rfl ⟨by decide, by decide⟩ (Nat.le_of_ble_eq_true rfl) dX10_product_1 (fun r1 h1 hp1 => ?_) rfl
  obtain ⟨⟨v1, rfl, hvq1⟩, hMq1, hFaq1⟩ := hp1
  have hFq1 := FrP.t (FrP.r (h := h)) hFaq1
  have hXq1 := PX.fr hX hFq1
  have hGq1 : GP n s ((unitP bt n u 4) s).2 := (unit_good (bt := bt) (n := n) (u := u) 4) _ hO
  refine v_some ?_
  refine v_istore_n (lv2 := [(1, .int v1), (0, .ref 118)]) K dX10_product_4 (by decide) rfl ?_
  have L5 : ∀ (mm : Nat) (f : Nat) (cs : List Int32) (t : PSt) (v : Int32) (h1 : Mm) (hG : GP n s t) (hM1 : PM h1 n t) (hF1 : FrP h h1) (hv : t.2.1 = none → ∀ st, runL cs nm st = v :: st) (he : (prodP bt n (unitP bt n u 4)) s = loopP bt n [nI 42, nI 47, nI 37] (unitP bt n u 4) f cs t) (hfu : n + 1 ≤ f + t.1), f < mm → V κ (QM κ (132, ρ, GL, 0, 0) (P_X10_product_4 h bt n B u nm s)) 4 (132, ρ, GL, 0, 0) h1 5 [(0, .ref 118), (1, .int v)] [] := by
    intro mm
    induction mm with
    | zero => intro f cs t v h1 hG hM1 hF1 hv he hfu hmm; exact absurd hmm (Nat.not_lt_zero _)
    | succ mm ih5 =>
      intro f cs t v h1 hG hM1 hF1 hv he hfu hmm
      have hX1 := PX.fr hX hF1
      have htn := hM1.2.1
      have ht5 := hM1.2.2.1
      obtain ⟨f, rfl⟩ : ∃ f0, f = f0 + 1 := ⟨f - 1, by omega⟩
      refine v_aload_n K dX10_product_5 rfl ?_
      refine v_callV (As := []) K (c_X10_here h1 bt n B u nm t hX1 hM1) lX10_68 ck_X10 rfl sh_118 pl_118 rfl ⟨by decide, by decide⟩ (Nat.le_of_ble_eq_true rfl) dX10_product_6 (fun r2 h2 hp2 => ?_) rfl
      obtain ⟨rfl, rfl⟩ := hp2
      refine v_some ?_
      refine v_bipushN K 42 rfl dX10_product_9 ?_
      refine v_icmp_eq (tgt := 32) K dX10_product_11 rfl (fun c1 => ?_) (fun c1 => ?_)
      · skip
        have eo : hereP bt n t = nI 42 := c1
        obtain ⟨hl0, hn0⟩ := hereP_lt eo (nI_m1 (by decide))
        have hG0 := hG
        refine v_aload_n K dX10_product_32 rfl ?_
        refine v_callV (As := []) K (c_X10_here h1 bt n B u nm t hX1 hM1) lX10_68 ck_X10 rfl sh_118 pl_118 rfl ⟨by decide, by decide⟩ (Nat.le_of_ble_eq_true rfl) dX10_product_33 (fun r3 h3 hp3 => ?_) rfl
        obtain ⟨rfl, rfl⟩ := hp3
        refine v_some ?_
        refine v_istore_n (lv2 := [(2, .int (hereP bt n t)), (0, .ref 118), (1, .int v)]) K dX10_product_36 (by decide) rfl ?_
        refine v_aload_n K dX10_product_37 rfl ?_
        refine v_dup K dX10_product_38 rfl ?_
        refine v_geti (x := nI t.1) K fX10_55 sh_118 pl_118 hM1.1.1 dX10_product_39 ?_
        refine v_iconstN K 1 rfl dX10_product_42 ?_
        refine v_iaddN K dX10_product_43 ?_
        refine v_puti K pX10_55 sh_118 pl_118 dX10_product_44 ?_
        have hMm1 : PM (u2 h1 118 6 (nI (t.1 + 1))) n (advP t) := hM1.adv hl0
        have hFm1 : FrP h (u2 h1 118 6 (nI (t.1 + 1))) := FrP.u hF1 (by omega)
        have hXm1 := PX.fr hX hFm1
        refine v_aload_n K dX10_product_47 rfl ?_
        refine v_callV (As := []) K (c_X10_unit_4 ((u2 h1 118 6 (nI (t.1 + 1)))) bt n B u nm ((advP t)) hXm1 hMm1 ((hO.on hG0 hn0).adv hl0)) lX10_91 ck_X10 rfl sh_118 pl_118 rfl ⟨by decide, by decide⟩ (Nat.le_of_ble_eq_true rfl) dX10_product_48 (fun r4 h4 hp4 => ?_) rfl
        obtain ⟨⟨v2, rfl, hvq2⟩, hMq2, hFaq2⟩ := hp4
        have hFq2 := FrP.t hFm1 hFaq2
        have hXq2 := PX.fr hX hFq2
        have hGq2 : GP n (advP t) ((unitP bt n u 4) (advP t)).2 := (unit_good (bt := bt) (n := n) (u := u) 4) _ ((hO.on hG0 hn0).adv hl0)
        refine v_some ?_
        refine v_istore_n (lv2 := [(3, .int v2), (2, .int (hereP bt n t)), (0, .ref 118), (1, .int v)]) K dX10_product_51 (by decide) rfl ?_
        refine v_iload_n K dX10_product_52 rfl ?_
        refine v_bipushN K 42 rfl dX10_product_53 ?_
        refine v_icmp_ne (tgt := 64) K dX10_product_55 rfl (fun c2 => ?_) (fun c2 => ?_)
        · skip
          exact absurd eo c2
        · skip
          refine v_iload_n K dX10_product_58 rfl ?_
          refine v_iload_n K dX10_product_59 rfl ?_
          refine v_imul K dX10_product_60 ?_
          refine v_goto (tgt := 87) K dX10_product_61 rfl ?_
          refine v_top (y := joinR (nI 42) v v2) (by rw [j42]) ?_
          refine v_istore_n (lv2 := [(1, .int (joinR (nI 42) v v2)), (3, .int v2), (2, .int (hereP bt n t)), (0, .ref 118)]) K dX10_product_87 (by decide) rfl ?_
          refine v_goto (tgt := 5) K dX10_product_88 rfl ?_
          refine v_sub (lv2 := [(0, .ref 118), (1, .int (joinR (nI 42) v v2))]) (by simp) ?_
          exact ih5 f ((cs ++ ((unitP bt n u 4) (advP t)).1 ++ [-hereP bt n t])) (((unitP bt n u 4) (advP t)).2) (joinR (nI 42) v v2) h4 (by exact hG0.tr hn0 ((GP.adv (hO.on hG0 hn0) hl0).tr hn0 hGq2)) (by exact hMq2) (by exact hFq2) (by intro hn2; rw [eo]; exact val_on (by decide) (hv hn0) (hvq2 hn2) rfl) (by rw [he, loop_on (by rw [eo]; decide)]) (by have h1 : (advP t).1 = t.1 + 1 := rfl; have h2 := hGq2.1; omega) (by omega)
      · skip
        refine v_aload_n K dX10_product_14 rfl ?_
        refine v_callV (As := []) K (c_X10_here h1 bt n B u nm t hX1 hM1) lX10_68 ck_X10 rfl sh_118 pl_118 rfl ⟨by decide, by decide⟩ (Nat.le_of_ble_eq_true rfl) dX10_product_15 (fun r5 h5 hp5 => ?_) rfl
        obtain ⟨rfl, rfl⟩ := hp5
        refine v_some ?_
        refine v_bipushN K 47 rfl dX10_product_18 ?_
        refine v_icmp_eq (tgt := 32) K dX10_product_20 rfl (fun c3 => ?_) (fun c3 => ?_)
        · skip
          have eo : hereP bt n t = nI 47 := c3
          obtain ⟨hl0, hn0⟩ := hereP_lt eo (nI_m1 (by decide))
          have hG0 := hG
          refine v_aload_n K dX10_product_32 rfl ?_
          refine v_callV (As := []) K (c_X10_here h1 bt n B u nm t hX1 hM1) lX10_68 ck_X10 rfl sh_118 pl_118 rfl ⟨by decide, by decide⟩ (Nat.le_of_ble_eq_true rfl) dX10_product_33 (fun r6 h6 hp6 => ?_) rfl
          obtain ⟨rfl, rfl⟩ := hp6
          refine v_some ?_
          refine v_istore_n (lv2 := [(2, .int (hereP bt n t)), (0, .ref 118), (1, .int v)]) K dX10_product_36 (by decide) rfl ?_
          refine v_aload_n K dX10_product_37 rfl ?_
          refine v_dup K dX10_product_38 rfl ?_
          refine v_geti (x := nI t.1) K fX10_55 sh_118 pl_118 hM1.1.1 dX10_product_39 ?_
          refine v_iconstN K 1 rfl dX10_product_42 ?_
          refine v_iaddN K dX10_product_43 ?_
          refine v_puti K pX10_55 sh_118 pl_118 dX10_product_44 ?_
          have hMm2 : PM (u2 h1 118 6 (nI (t.1 + 1))) n (advP t) := hM1.adv hl0
          have hFm2 : FrP h (u2 h1 118 6 (nI (t.1 + 1))) := FrP.u hF1 (by omega)
          have hXm2 := PX.fr hX hFm2
          refine v_aload_n K dX10_product_47 rfl ?_
          refine v_callV (As := []) K (c_X10_unit_4 ((u2 h1 118 6 (nI (t.1 + 1)))) bt n B u nm ((advP t)) hXm2 hMm2 ((hO.on hG0 hn0).adv hl0)) lX10_91 ck_X10 rfl sh_118 pl_118 rfl ⟨by decide, by decide⟩ (Nat.le_of_ble_eq_true rfl) dX10_product_48 (fun r7 h7 hp7 => ?_) rfl
          obtain ⟨⟨v3, rfl, hvq3⟩, hMq3, hFaq3⟩ := hp7
          have hFq3 := FrP.t hFm2 hFaq3
          have hXq3 := PX.fr hX hFq3
          have hGq3 : GP n (advP t) ((unitP bt n u 4) (advP t)).2 := (unit_good (bt := bt) (n := n) (u := u) 4) _ ((hO.on hG0 hn0).adv hl0)
          refine v_some ?_
          refine v_istore_n (lv2 := [(3, .int v3), (2, .int (hereP bt n t)), (0, .ref 118), (1, .int v)]) K dX10_product_51 (by decide) rfl ?_
          refine v_iload_n K dX10_product_52 rfl ?_
          refine v_bipushN K 42 rfl dX10_product_53 ?_
          refine v_icmp_ne (tgt := 64) K dX10_product_55 rfl (fun c4 => ?_) (fun c4 => ?_)
          · skip
            refine v_iload_n K dX10_product_64 rfl ?_
            refine v_if_ne (tgt := 72) K dX10_product_65 rfl (fun c5 => ?_) (fun c5 => ?_)
            · skip
              refine v_iload_n K dX10_product_72 rfl ?_
              refine v_bipushN K 47 rfl dX10_product_73 ?_
              refine v_icmp_ne (tgt := 84) K dX10_product_75 rfl (fun c6 => ?_) (fun c6 => ?_)
              · skip
                exact absurd eo c6
              · skip
                refine v_iload_n K dX10_product_78 rfl ?_
                refine v_iload_n K dX10_product_79 rfl ?_
                refine v_idiv K dX10_product_80 (by assumption) ?_
                refine v_goto (tgt := 87) K dX10_product_81 rfl ?_
                refine v_top (y := joinR (nI 47) v v3) (by rw [j47, if_neg c5]) ?_
                refine v_istore_n (lv2 := [(1, .int (joinR (nI 47) v v3)), (3, .int v3), (2, .int (hereP bt n t)), (0, .ref 118)]) K dX10_product_87 (by decide) rfl ?_
                refine v_goto (tgt := 5) K dX10_product_88 rfl ?_
                refine v_sub (lv2 := [(0, .ref 118), (1, .int (joinR (nI 47) v v3))]) (by simp) ?_
                exact ih5 f ((cs ++ ((unitP bt n u 4) (advP t)).1 ++ [-hereP bt n t])) (((unitP bt n u 4) (advP t)).2) (joinR (nI 47) v v3) h7 (by exact hG0.tr hn0 ((GP.adv (hO.on hG0 hn0) hl0).tr hn0 hGq3)) (by exact hMq3) (by exact hFq3) (by intro hn2; rw [eo]; exact val_on (by decide) (hv hn0) (hvq3 hn2) rfl) (by rw [he, loop_on (by rw [eo]; decide)]) (by have h1 : (advP t).1 = t.1 + 1 := rfl; have h2 := hGq3.1; omega) (by omega)
            · skip
              refine v_iconstN K 0 rfl dX10_product_68 ?_
              refine v_goto (tgt := 87) K dX10_product_69 rfl ?_
              refine v_top (y := joinR (nI 47) v v3) (by rw [j47, if_pos c5]) ?_
              refine v_istore_n (lv2 := [(1, .int (joinR (nI 47) v v3)), (3, .int v3), (2, .int (hereP bt n t)), (0, .ref 118)]) K dX10_product_87 (by decide) rfl ?_
              refine v_goto (tgt := 5) K dX10_product_88 rfl ?_
              refine v_sub (lv2 := [(0, .ref 118), (1, .int (joinR (nI 47) v v3))]) (by simp) ?_
              exact ih5 f ((cs ++ ((unitP bt n u 4) (advP t)).1 ++ [-hereP bt n t])) (((unitP bt n u 4) (advP t)).2) (joinR (nI 47) v v3) h7 (by exact hG0.tr hn0 ((GP.adv (hO.on hG0 hn0) hl0).tr hn0 hGq3)) (by exact hMq3) (by exact hFq3) (by intro hn2; rw [eo]; exact val_on (by decide) (hv hn0) (hvq3 hn2) rfl) (by rw [he, loop_on (by rw [eo]; decide)]) (by have h1 : (advP t).1 = t.1 + 1 := rfl; have h2 := hGq3.1; omega) (by omega)
          · skip
            exact absurd (c4.symm.trans eo) (by decide)
        · skip
          refine v_aload_n K dX10_product_23 rfl ?_
          refine v_callV (As := []) K (c_X10_here h1 bt n B u nm t hX1 hM1) lX10_68 ck_X10 rfl sh_118 pl_118 rfl ⟨by decide, by decide⟩ (Nat.le_of_ble_eq_true rfl) dX10_product_24 (fun r8 h8 hp8 => ?_) rfl
          obtain ⟨rfl, rfl⟩ := hp8
          refine v_some ?_
          refine v_bipushN K 37 rfl dX10_product_27 ?_
          refine v_icmp_ne (tgt := 91) K dX10_product_29 rfl (fun c7 => ?_) (fun c7 => ?_)
          · skip
            refine v_iload_n K dX10_product_91 rfl ?_
            refine v_iret K dX10_product_92 ?_
            have e2 : (prodP bt n (unitP bt n u 4)) s = (cs, t) := by rw [he, loop_off (by simp only [List.mem_cons, List.not_mem_nil, or_false, not_or]; exact ⟨c1, c3, c7⟩)]
            show (∃ v, _ ∧ (((prodP bt n (unitP bt n u 4)) s).2.2.1 = none → ∀ st, runL ((prodP bt n (unitP bt n u 4)) s).1 nm st = v :: st)) ∧ PM _ n ((prodP bt n (unitP bt n u 4)) s).2 ∧ _
            rw [e2]
            exact ⟨⟨v, rfl, hv⟩, hM1, hF1⟩
          · skip
            have eo : hereP bt n t = nI 37 := c7
            obtain ⟨hl0, hn0⟩ := hereP_lt eo (nI_m1 (by decide))
            have hG0 := hG
            refine v_aload_n K dX10_product_32 rfl ?_
            refine v_callV (As := []) K (c_X10_here h1 bt n B u nm t hX1 hM1) lX10_68 ck_X10 rfl sh_118 pl_118 rfl ⟨by decide, by decide⟩ (Nat.le_of_ble_eq_true rfl) dX10_product_33 (fun r9 h9 hp9 => ?_) rfl
            obtain ⟨rfl, rfl⟩ := hp9
            refine v_some ?_
            refine v_istore_n (lv2 := [(2, .int (hereP bt n t)), (0, .ref 118), (1, .int v)]) K dX10_product_36 (by decide) rfl ?_
            refine v_aload_n K dX10_product_37 rfl ?_
            refine v_dup K dX10_product_38 rfl ?_
            refine v_geti (x := nI t.1) K fX10_55 sh_118 pl_118 hM1.1.1 dX10_product_39 ?_
            refine v_iconstN K 1 rfl dX10_product_42 ?_
            refine v_iaddN K dX10_product_43 ?_
            refine v_puti K pX10_55 sh_118 pl_118 dX10_product_44 ?_
            have hMm3 : PM (u2 h1 118 6 (nI (t.1 + 1))) n (advP t) := hM1.adv hl0
            have hFm3 : FrP h (u2 h1 118 6 (nI (t.1 + 1))) := FrP.u hF1 (by omega)
            have hXm3 := PX.fr hX hFm3
            refine v_aload_n K dX10_product_47 rfl ?_
            refine v_callV (As := []) K (c_X10_unit_4 ((u2 h1 118 6 (nI (t.1 + 1)))) bt n B u nm ((advP t)) hXm3 hMm3 ((hO.on hG0 hn0).adv hl0)) lX10_91 ck_X10 rfl sh_118 pl_118 rfl ⟨by decide, by decide⟩ (Nat.le_of_ble_eq_true rfl) dX10_product_48 (fun r10 h10 hp10 => ?_) rfl
            obtain ⟨⟨v4, rfl, hvq4⟩, hMq4, hFaq4⟩ := hp10
            have hFq4 := FrP.t hFm3 hFaq4
            have hXq4 := PX.fr hX hFq4
            have hGq4 : GP n (advP t) ((unitP bt n u 4) (advP t)).2 := (unit_good (bt := bt) (n := n) (u := u) 4) _ ((hO.on hG0 hn0).adv hl0)
            refine v_some ?_
            refine v_istore_n (lv2 := [(3, .int v4), (2, .int (hereP bt n t)), (0, .ref 118), (1, .int v)]) K dX10_product_51 (by decide) rfl ?_
            refine v_iload_n K dX10_product_52 rfl ?_
            refine v_bipushN K 42 rfl dX10_product_53 ?_
            refine v_icmp_ne (tgt := 64) K dX10_product_55 rfl (fun c8 => ?_) (fun c8 => ?_)
            · skip
              refine v_iload_n K dX10_product_64 rfl ?_
              refine v_if_ne (tgt := 72) K dX10_product_65 rfl (fun c9 => ?_) (fun c9 => ?_)
              · skip
                refine v_iload_n K dX10_product_72 rfl ?_
                refine v_bipushN K 47 rfl dX10_product_73 ?_
                refine v_icmp_ne (tgt := 84) K dX10_product_75 rfl (fun c10 => ?_) (fun c10 => ?_)
                · skip
                  refine v_iload_n K dX10_product_84 rfl ?_
                  refine v_iload_n K dX10_product_85 rfl ?_
                  refine v_irem K dX10_product_86 (by assumption) ?_
                  refine v_top (y := joinR (nI 37) v v4) (by rw [j37, if_neg c9]) ?_
                  refine v_istore_n (lv2 := [(1, .int (joinR (nI 37) v v4)), (3, .int v4), (2, .int (hereP bt n t)), (0, .ref 118)]) K dX10_product_87 (by decide) rfl ?_
                  refine v_goto (tgt := 5) K dX10_product_88 rfl ?_
                  refine v_sub (lv2 := [(0, .ref 118), (1, .int (joinR (nI 37) v v4))]) (by simp) ?_
                  exact ih5 f ((cs ++ ((unitP bt n u 4) (advP t)).1 ++ [-hereP bt n t])) (((unitP bt n u 4) (advP t)).2) (joinR (nI 37) v v4) h10 (by exact hG0.tr hn0 ((GP.adv (hO.on hG0 hn0) hl0).tr hn0 hGq4)) (by exact hMq4) (by exact hFq4) (by intro hn2; rw [eo]; exact val_on (by decide) (hv hn0) (hvq4 hn2) rfl) (by rw [he, loop_on (by rw [eo]; decide)]) (by have h1 : (advP t).1 = t.1 + 1 := rfl; have h2 := hGq4.1; omega) (by omega)
                · skip
                  exact absurd (c10.symm.trans eo) (by decide)
              · skip
                refine v_iconstN K 0 rfl dX10_product_68 ?_
                refine v_goto (tgt := 87) K dX10_product_69 rfl ?_
                refine v_top (y := joinR (nI 37) v v4) (by rw [j37, if_pos c9]) ?_
                refine v_istore_n (lv2 := [(1, .int (joinR (nI 37) v v4)), (3, .int v4), (2, .int (hereP bt n t)), (0, .ref 118)]) K dX10_product_87 (by decide) rfl ?_
                refine v_goto (tgt := 5) K dX10_product_88 rfl ?_
                refine v_sub (lv2 := [(0, .ref 118), (1, .int (joinR (nI 37) v v4))]) (by simp) ?_
                exact ih5 f ((cs ++ ((unitP bt n u 4) (advP t)).1 ++ [-hereP bt n t])) (((unitP bt n u 4) (advP t)).2) (joinR (nI 37) v v4) h10 (by exact hG0.tr hn0 ((GP.adv (hO.on hG0 hn0) hl0).tr hn0 hGq4)) (by exact hMq4) (by exact hFq4) (by intro hn2; rw [eo]; exact val_on (by decide) (hv hn0) (hvq4 hn2) rfl) (by rw [he, loop_on (by rw [eo]; decide)]) (by have h1 : (advP t).1 = t.1 + 1 := rfl; have h2 := hGq4.1; omega) (by omega)
            · skip
              exact absurd (c8.symm.trans eo) (by decide)
  refine v_sub (lv2 := [(0, .ref 118), (1, .int v1)]) (by simp) ?_
  exact L5 (52 + 1) 52 (((unitP bt n u 4) s).1) (((unitP bt n u 4) s).2) v1 h1 (by exact hGq1) (by exact hMq1) (by exact hFq1) (by exact hvq1) (by rfl) (by omega) (Nat.lt_succ_self _)

abbrev P_X10_sum_4 (h : Mm) (bt : Nat → Int32) (n B u : Nat) (nm : Nat → Int32) (s : PSt) : Option Value → Mm → Prop := fun r h2 => (∃ v, r = some (.int v) ∧ (((sumP bt n (unitP bt n u 4)) s).2.2.1 = none → ∀ st, runL ((sumP bt n (unitP bt n u 4)) s).1 nm st = v :: st)) ∧ PM h2 n ((sumP bt n (unitP bt n u 4)) s).2 ∧ FrP h h2
theorem c_X10_sum_4 {l : Launch} (h : Mm) (bt : Nat → Int32) (n B u : Nat) (nm : Nat → Int32) (s : PSt) (hX : PX h bt n B u nm) (hM : PM h n s) (hO : OKs n 4 s) : Con l yX10_sum cX10_sum 4 (some .int) 27 620 132 GL h [.ref 118] (P_X10_sum_4 h bt n B u nm s) := by
  refine Con.ofV (own := "FoxRoundsModel") (nm := "sum") rfl rfl (by decide) (Nat.le_of_ble_eq_true rfl) ?_
  intro κ ρ hkl K
  subst hkl
  show V κ (QM κ (132, ρ, GL, 0, 0) (P_X10_sum_4 h bt n B u nm s)) 4 (132, ρ, GL, 0, 0) h 0 [(0, .ref 118)] []
  have hn50 := hX.2.2.2.2.2.1
  have hBn := hX.2.2.2.2.1
  have hsn := hM.2.1
  have hs5 := hM.2.2.1
  refine v_aload_n K dX10_sum_0 rfl ?_
  refine v_callV (As := []) K (c_X10_product_4 h bt n B u nm s hX hM hO) lX10_88 ck_X10 rfl sh_118 pl_118 rfl ⟨by decide, by decide⟩ (Nat.le_of_ble_eq_true rfl) dX10_sum_1 (fun r1 h1 hp1 => ?_) rfl
  obtain ⟨⟨v1, rfl, hvq1⟩, hMq1, hFaq1⟩ := hp1
  have hFq1 := FrP.t (FrP.r (h := h)) hFaq1
  have hXq1 := PX.fr hX hFq1
  have hGq1 : GP n s ((prodP bt n (unitP bt n u 4)) s).2 := (row_good (unit_good (bt := bt) (n := n) (u := u) 4) (by decide)) _ hO
  refine v_some ?_
  refine v_istore_n (lv2 := [(1, .int v1), (0, .ref 118)]) K dX10_sum_4 (by decide) rfl ?_
  have L5 : ∀ (mm : Nat) (f : Nat) (cs : List Int32) (t : PSt) (v : Int32) (h1 : Mm) (hG : GP n s t) (hM1 : PM h1 n t) (hF1 : FrP h h1) (hv : t.2.1 = none → ∀ st, runL cs nm st = v :: st) (he : (sumP bt n (unitP bt n u 4)) s = loopP bt n [nI 43, nI 45] (prodP bt n (unitP bt n u 4)) f cs t) (hfu : n + 1 ≤ f + t.1), f < mm → V κ (QM κ (132, ρ, GL, 0, 0) (P_X10_sum_4 h bt n B u nm s)) 4 (132, ρ, GL, 0, 0) h1 5 [(0, .ref 118), (1, .int v)] [] := by
    intro mm
    induction mm with
    | zero => intro f cs t v h1 hG hM1 hF1 hv he hfu hmm; exact absurd hmm (Nat.not_lt_zero _)
    | succ mm ih5 =>
      intro f cs t v h1 hG hM1 hF1 hv he hfu hmm
      have hX1 := PX.fr hX hF1
      have htn := hM1.2.1
      have ht5 := hM1.2.2.1
      obtain ⟨f, rfl⟩ : ∃ f0, f = f0 + 1 := ⟨f - 1, by omega⟩
      refine v_aload_n K dX10_sum_5 rfl ?_
      refine v_callV (As := []) K (c_X10_here h1 bt n B u nm t hX1 hM1) lX10_68 ck_X10 rfl sh_118 pl_118 rfl ⟨by decide, by decide⟩ (Nat.le_of_ble_eq_true rfl) dX10_sum_6 (fun r2 h2 hp2 => ?_) rfl
      obtain ⟨rfl, rfl⟩ := hp2
      refine v_some ?_
      refine v_bipushN K 43 rfl dX10_sum_9 ?_
      refine v_icmp_eq (tgt := 23) K dX10_sum_11 rfl (fun c1 => ?_) (fun c1 => ?_)
      · skip
        have eo : hereP bt n t = nI 43 := c1
        obtain ⟨hl0, hn0⟩ := hereP_lt eo (nI_m1 (by decide))
        have hG0 := hG
        refine v_aload_n K dX10_sum_23 rfl ?_
        refine v_callV (As := []) K (c_X10_here h1 bt n B u nm t hX1 hM1) lX10_68 ck_X10 rfl sh_118 pl_118 rfl ⟨by decide, by decide⟩ (Nat.le_of_ble_eq_true rfl) dX10_sum_24 (fun r3 h3 hp3 => ?_) rfl
        obtain ⟨rfl, rfl⟩ := hp3
        refine v_some ?_
        refine v_istore_n (lv2 := [(2, .int (hereP bt n t)), (0, .ref 118), (1, .int v)]) K dX10_sum_27 (by decide) rfl ?_
        refine v_aload_n K dX10_sum_28 rfl ?_
        refine v_dup K dX10_sum_29 rfl ?_
        refine v_geti (x := nI t.1) K fX10_55 sh_118 pl_118 hM1.1.1 dX10_sum_30 ?_
        refine v_iconstN K 1 rfl dX10_sum_33 ?_
        refine v_iaddN K dX10_sum_34 ?_
        refine v_puti K pX10_55 sh_118 pl_118 dX10_sum_35 ?_
        have hMm1 : PM (u2 h1 118 6 (nI (t.1 + 1))) n (advP t) := hM1.adv hl0
        have hFm1 : FrP h (u2 h1 118 6 (nI (t.1 + 1))) := FrP.u hF1 (by omega)
        have hXm1 := PX.fr hX hFm1
        refine v_aload_n K dX10_sum_38 rfl ?_
        refine v_callV (As := []) K (c_X10_product_4 ((u2 h1 118 6 (nI (t.1 + 1)))) bt n B u nm ((advP t)) hXm1 hMm1 ((hO.on hG0 hn0).adv hl0)) lX10_88 ck_X10 rfl sh_118 pl_118 rfl ⟨by decide, by decide⟩ (Nat.le_of_ble_eq_true rfl) dX10_sum_39 (fun r4 h4 hp4 => ?_) rfl
        obtain ⟨⟨v2, rfl, hvq2⟩, hMq2, hFaq2⟩ := hp4
        have hFq2 := FrP.t hFm1 hFaq2
        have hXq2 := PX.fr hX hFq2
        have hGq2 : GP n (advP t) ((prodP bt n (unitP bt n u 4)) (advP t)).2 := (row_good (unit_good (bt := bt) (n := n) (u := u) 4) (by decide)) _ ((hO.on hG0 hn0).adv hl0)
        refine v_some ?_
        refine v_istore_n (lv2 := [(3, .int v2), (2, .int (hereP bt n t)), (0, .ref 118), (1, .int v)]) K dX10_sum_42 (by decide) rfl ?_
        refine v_iload_n K dX10_sum_43 rfl ?_
        refine v_bipushN K 43 rfl dX10_sum_44 ?_
        refine v_icmp_ne (tgt := 55) K dX10_sum_46 rfl (fun c2 => ?_) (fun c2 => ?_)
        · skip
          exact absurd eo c2
        · skip
          refine v_iload_n K dX10_sum_49 rfl ?_
          refine v_iload_n K dX10_sum_50 rfl ?_
          refine v_iadd K dX10_sum_51 ?_
          refine v_goto (tgt := 58) K dX10_sum_52 rfl ?_
          refine v_top (y := joinR (nI 43) v v2) (by rw [j43]) ?_
          refine v_istore_n (lv2 := [(1, .int (joinR (nI 43) v v2)), (3, .int v2), (2, .int (hereP bt n t)), (0, .ref 118)]) K dX10_sum_58 (by decide) rfl ?_
          refine v_goto (tgt := 5) K dX10_sum_59 rfl ?_
          refine v_sub (lv2 := [(0, .ref 118), (1, .int (joinR (nI 43) v v2))]) (by simp) ?_
          exact ih5 f ((cs ++ ((prodP bt n (unitP bt n u 4)) (advP t)).1 ++ [-hereP bt n t])) (((prodP bt n (unitP bt n u 4)) (advP t)).2) (joinR (nI 43) v v2) h4 (by exact hG0.tr hn0 ((GP.adv (hO.on hG0 hn0) hl0).tr hn0 hGq2)) (by exact hMq2) (by exact hFq2) (by intro hn2; rw [eo]; exact val_on (by decide) (hv hn0) (hvq2 hn2) rfl) (by rw [he, loop_on (by rw [eo]; decide)]) (by have h1 : (advP t).1 = t.1 + 1 := rfl; have h2 := hGq2.1; omega) (by omega)
      · skip
        refine v_aload_n K dX10_sum_14 rfl ?_
        refine v_callV (As := []) K (c_X10_here h1 bt n B u nm t hX1 hM1) lX10_68 ck_X10 rfl sh_118 pl_118 rfl ⟨by decide, by decide⟩ (Nat.le_of_ble_eq_true rfl) dX10_sum_15 (fun r5 h5 hp5 => ?_) rfl
        obtain ⟨rfl, rfl⟩ := hp5
        refine v_some ?_
        refine v_bipushN K 45 rfl dX10_sum_18 ?_
        refine v_icmp_ne (tgt := 62) K dX10_sum_20 rfl (fun c3 => ?_) (fun c3 => ?_)
        · skip
          refine v_iload_n K dX10_sum_62 rfl ?_
          refine v_iret K dX10_sum_63 ?_
          have e2 : (sumP bt n (unitP bt n u 4)) s = (cs, t) := by rw [he, loop_off (by simp only [List.mem_cons, List.not_mem_nil, or_false, not_or]; exact ⟨c1, c3⟩)]
          show (∃ v, _ ∧ (((sumP bt n (unitP bt n u 4)) s).2.2.1 = none → ∀ st, runL ((sumP bt n (unitP bt n u 4)) s).1 nm st = v :: st)) ∧ PM _ n ((sumP bt n (unitP bt n u 4)) s).2 ∧ _
          rw [e2]
          exact ⟨⟨v, rfl, hv⟩, hM1, hF1⟩
        · skip
          have eo : hereP bt n t = nI 45 := c3
          obtain ⟨hl0, hn0⟩ := hereP_lt eo (nI_m1 (by decide))
          have hG0 := hG
          refine v_aload_n K dX10_sum_23 rfl ?_
          refine v_callV (As := []) K (c_X10_here h1 bt n B u nm t hX1 hM1) lX10_68 ck_X10 rfl sh_118 pl_118 rfl ⟨by decide, by decide⟩ (Nat.le_of_ble_eq_true rfl) dX10_sum_24 (fun r6 h6 hp6 => ?_) rfl
          obtain ⟨rfl, rfl⟩ := hp6
          refine v_some ?_
          refine v_istore_n (lv2 := [(2, .int (hereP bt n t)), (0, .ref 118), (1, .int v)]) K dX10_sum_27 (by decide) rfl ?_
          refine v_aload_n K dX10_sum_28 rfl ?_
          refine v_dup K dX10_sum_29 rfl ?_
          refine v_geti (x := nI t.1) K fX10_55 sh_118 pl_118 hM1.1.1 dX10_sum_30 ?_
          refine v_iconstN K 1 rfl dX10_sum_33 ?_
          refine v_iaddN K dX10_sum_34 ?_
          refine v_puti K pX10_55 sh_118 pl_118 dX10_sum_35 ?_
          have hMm2 : PM (u2 h1 118 6 (nI (t.1 + 1))) n (advP t) := hM1.adv hl0
          have hFm2 : FrP h (u2 h1 118 6 (nI (t.1 + 1))) := FrP.u hF1 (by omega)
          have hXm2 := PX.fr hX hFm2
          refine v_aload_n K dX10_sum_38 rfl ?_
          refine v_callV (As := []) K (c_X10_product_4 ((u2 h1 118 6 (nI (t.1 + 1)))) bt n B u nm ((advP t)) hXm2 hMm2 ((hO.on hG0 hn0).adv hl0)) lX10_88 ck_X10 rfl sh_118 pl_118 rfl ⟨by decide, by decide⟩ (Nat.le_of_ble_eq_true rfl) dX10_sum_39 (fun r7 h7 hp7 => ?_) rfl
          obtain ⟨⟨v3, rfl, hvq3⟩, hMq3, hFaq3⟩ := hp7
          have hFq3 := FrP.t hFm2 hFaq3
          have hXq3 := PX.fr hX hFq3
          have hGq3 : GP n (advP t) ((prodP bt n (unitP bt n u 4)) (advP t)).2 := (row_good (unit_good (bt := bt) (n := n) (u := u) 4) (by decide)) _ ((hO.on hG0 hn0).adv hl0)
          refine v_some ?_
          refine v_istore_n (lv2 := [(3, .int v3), (2, .int (hereP bt n t)), (0, .ref 118), (1, .int v)]) K dX10_sum_42 (by decide) rfl ?_
          refine v_iload_n K dX10_sum_43 rfl ?_
          refine v_bipushN K 43 rfl dX10_sum_44 ?_
          refine v_icmp_ne (tgt := 55) K dX10_sum_46 rfl (fun c4 => ?_) (fun c4 => ?_)
          · skip
            refine v_iload_n K dX10_sum_55 rfl ?_
            refine v_iload_n K dX10_sum_56 rfl ?_
            refine v_isub K dX10_sum_57 ?_
            refine v_top (y := joinR (nI 45) v v3) (by rw [j45]) ?_
            refine v_istore_n (lv2 := [(1, .int (joinR (nI 45) v v3)), (3, .int v3), (2, .int (hereP bt n t)), (0, .ref 118)]) K dX10_sum_58 (by decide) rfl ?_
            refine v_goto (tgt := 5) K dX10_sum_59 rfl ?_
            refine v_sub (lv2 := [(0, .ref 118), (1, .int (joinR (nI 45) v v3))]) (by simp) ?_
            exact ih5 f ((cs ++ ((prodP bt n (unitP bt n u 4)) (advP t)).1 ++ [-hereP bt n t])) (((prodP bt n (unitP bt n u 4)) (advP t)).2) (joinR (nI 45) v v3) h7 (by exact hG0.tr hn0 ((GP.adv (hO.on hG0 hn0) hl0).tr hn0 hGq3)) (by exact hMq3) (by exact hFq3) (by intro hn2; rw [eo]; exact val_on (by decide) (hv hn0) (hvq3 hn2) rfl) (by rw [he, loop_on (by rw [eo]; decide)]) (by have h1 : (advP t).1 = t.1 + 1 := rfl; have h2 := hGq3.1; omega) (by omega)
          · skip
            exact absurd (c4.symm.trans eo) (by decide)
  refine v_sub (lv2 := [(0, .ref 118), (1, .int v1)]) (by simp) ?_
  exact L5 (52 + 1) 52 (((prodP bt n (unitP bt n u 4)) s).1) (((prodP bt n (unitP bt n u 4)) s).2) v1 h1 (by exact hGq1) (by exact hMq1) (by exact hFq1) (by exact hvq1) (by rfl) (by omega) (Nat.lt_succ_self _)

abbrev P_X10_compared_4 (h : Mm) (bt : Nat → Int32) (n B u : Nat) (nm : Nat → Int32) (s : PSt) : Option Value → Mm → Prop := fun r h2 => (∃ v, r = some (.int v) ∧ (((cmpP bt n (sumP bt n (unitP bt n u 4))) s).2.2.1 = none → ∀ st, runL ((cmpP bt n (sumP bt n (unitP bt n u 4))) s).1 nm st = v :: st)) ∧ PM h2 n ((cmpP bt n (sumP bt n (unitP bt n u 4))) s).2 ∧ FrP h h2
theorem c_X10_compared_4 {l : Launch} (h : Mm) (bt : Nat → Int32) (n B u : Nat) (nm : Nat → Int32) (s : PSt) (hX : PX h bt n B u nm) (hM : PM h n s) (hO : OKs n 4 s) : Con l yX10_compared cX10_compared 4 (some .int) 28 643 132 GL h [.ref 118] (P_X10_compared_4 h bt n B u nm s) := by
  refine Con.ofV (own := "FoxRoundsModel") (nm := "compared") rfl rfl (by decide) (Nat.le_of_ble_eq_true rfl) ?_
  intro κ ρ hkl K
  subst hkl
  show V κ (QM κ (132, ρ, GL, 0, 0) (P_X10_compared_4 h bt n B u nm s)) 4 (132, ρ, GL, 0, 0) h 0 [(0, .ref 118)] []
  have hn50 := hX.2.2.2.2.2.1
  have hBn := hX.2.2.2.2.1
  have hsn := hM.2.1
  have hs5 := hM.2.2.1
  refine v_aload_n K dX10_compared_0 rfl ?_
  refine v_callV (As := []) K (c_X10_sum_4 h bt n B u nm s hX hM hO) lX10_85 ck_X10 rfl sh_118 pl_118 rfl ⟨by decide, by decide⟩ (Nat.le_of_ble_eq_true rfl) dX10_compared_1 (fun r1 h1 hp1 => ?_) rfl
  obtain ⟨⟨v1, rfl, hvq1⟩, hMq1, hFaq1⟩ := hp1
  have hFq1 := FrP.t (FrP.r (h := h)) hFaq1
  have hXq1 := PX.fr hX hFq1
  have hGq1 : GP n s ((sumP bt n (unitP bt n u 4)) s).2 := (row_good (row_good (unit_good (bt := bt) (n := n) (u := u) 4) (by decide)) (by decide)) _ hO
  refine v_some ?_
  have hG1 := hGq1
  have hv1 := hvq1
  refine v_istore_n (lv2 := [(1, .int v1), (0, .ref 118)]) K dX10_compared_4 (by decide) rfl ?_
  refine v_aload_n K dX10_compared_5 rfl ?_
  refine v_callV (As := []) K (c_X10_here h1 bt n B u nm (((sumP bt n (unitP bt n u 4)) s).2) hXq1 hMq1) lX10_68 ck_X10 rfl sh_118 pl_118 rfl ⟨by decide, by decide⟩ (Nat.le_of_ble_eq_true rfl) dX10_compared_6 (fun r2 h2 hp2 => ?_) rfl
  obtain ⟨rfl, rfl⟩ := hp2
  refine v_some ?_
  refine v_istore_n (lv2 := [(2, .int (hereP bt n ((sumP bt n (unitP bt n u 4)) s).2)), (1, .int v1), (0, .ref 118)]) K dX10_compared_9 (by decide) rfl ?_
  refine v_iload_n K dX10_compared_10 rfl ?_
  refine v_bipushN K 60 rfl dX10_compared_11 ?_
  refine v_icmp_eq (tgt := 30) K dX10_compared_13 rfl (fun c1 => ?_) (fun c1 => ?_)
  · skip
    have eo : hereP bt n ((sumP bt n (unitP bt n u 4)) s).2 = nI 60 := c1
    obtain ⟨hl0, hn0⟩ := hereP_lt eo (nI_m1 (by decide))
    refine v_aload_n K dX10_compared_30 rfl ?_
    refine v_dup K dX10_compared_31 rfl ?_
    refine v_geti (x := nI (((sumP bt n (unitP bt n u 4)) s).2.1)) K fX10_55 sh_118 pl_118 hMq1.1.1 dX10_compared_32 ?_
    refine v_iconstN K 1 rfl dX10_compared_35 ?_
    refine v_iaddN K dX10_compared_36 ?_
    refine v_puti K pX10_55 sh_118 pl_118 dX10_compared_37 ?_
    have hMm1 : PM (u2 h1 118 6 (nI (((sumP bt n (unitP bt n u 4)) s).2.1 + 1))) n (advP ((sumP bt n (unitP bt n u 4)) s).2) := hMq1.adv hl0
    have hFm1 : FrP h (u2 h1 118 6 (nI (((sumP bt n (unitP bt n u 4)) s).2.1 + 1))) := FrP.u hFq1 (by omega)
    have hXm1 := PX.fr hX hFm1
    refine v_aload_n K dX10_compared_40 rfl ?_
    refine v_callV (As := []) K (c_X10_sum_4 ((u2 h1 118 6 (nI (((sumP bt n (unitP bt n u 4)) s).2.1 + 1)))) bt n B u nm ((advP ((sumP bt n (unitP bt n u 4)) s).2)) hXm1 hMm1 ((hO.on hG1 hn0).adv hl0)) lX10_85 ck_X10 rfl sh_118 pl_118 rfl ⟨by decide, by decide⟩ (Nat.le_of_ble_eq_true rfl) dX10_compared_41 (fun r3 h3 hp3 => ?_) rfl
    obtain ⟨⟨v2, rfl, hvq2⟩, hMq2, hFaq2⟩ := hp3
    have hFq2 := FrP.t hFm1 hFaq2
    have hXq2 := PX.fr hX hFq2
    have hGq2 : GP n (advP ((sumP bt n (unitP bt n u 4)) s).2) ((sumP bt n (unitP bt n u 4)) (advP ((sumP bt n (unitP bt n u 4)) s).2)).2 := (row_good (row_good (unit_good (bt := bt) (n := n) (u := u) 4) (by decide)) (by decide)) _ ((hO.on hG1 hn0).adv hl0)
    refine v_some ?_
    refine v_istore_n (lv2 := [(3, .int v2), (2, .int (hereP bt n ((sumP bt n (unitP bt n u 4)) s).2)), (1, .int v1), (0, .ref 118)]) K dX10_compared_44 (by decide) rfl ?_
    refine v_iload_n K dX10_compared_45 rfl ?_
    refine v_bipushN K 60 rfl dX10_compared_46 ?_
    refine v_icmp_ne (tgt := 59) K dX10_compared_48 rfl (fun c2 => ?_) (fun c2 => ?_)
    · skip
      exact absurd eo c2
    · skip
      refine v_iload_n K dX10_compared_51 rfl ?_
      refine v_iload_n K dX10_compared_52 rfl ?_
      refine v_icmp_ge (tgt := 82) K dX10_compared_53 rfl (fun c3 => ?_) (fun c3 => ?_)
      · skip
        refine v_iconstN K 0 rfl dX10_compared_82 ?_
        refine v_iret K dX10_compared_83 ?_
        have e2 : (cmpP bt n (sumP bt n (unitP bt n u 4))) s = (((sumP bt n (unitP bt n u 4)) s).1 ++ ((sumP bt n (unitP bt n u 4)) (advP ((sumP bt n (unitP bt n u 4)) s).2)).1 ++ [-hereP bt n ((sumP bt n (unitP bt n u 4)) s).2], ((sumP bt n (unitP bt n u 4)) (advP ((sumP bt n (unitP bt n u 4)) s).2)).2) := if_pos (by rw [eo]; decide)
        show (∃ v, _ ∧ (((cmpP bt n (sumP bt n (unitP bt n u 4))) s).2.2.1 = none → ∀ st, runL ((cmpP bt n (sumP bt n (unitP bt n u 4))) s).1 nm st = v :: st)) ∧ PM _ n ((cmpP bt n (sumP bt n (unitP bt n u 4))) s).2 ∧ _
        rw [e2]
        refine ⟨⟨_, rfl, fun hn2 => ?_⟩, hMq2, hFq2⟩
        rw [eo]
        exact val_on (by decide) (hv1 hn0) (hvq2 hn2) (by rw [j60]; exact (b2i_f (Int32.not_lt.mpr c3)).symm)
      · skip
        refine v_goto (tgt := 78) K dX10_compared_56 rfl ?_
        refine v_iconstN K 1 rfl dX10_compared_78 ?_
        refine v_goto (tgt := 83) K dX10_compared_79 rfl ?_
        refine v_iret K dX10_compared_83 ?_
        have e2 : (cmpP bt n (sumP bt n (unitP bt n u 4))) s = (((sumP bt n (unitP bt n u 4)) s).1 ++ ((sumP bt n (unitP bt n u 4)) (advP ((sumP bt n (unitP bt n u 4)) s).2)).1 ++ [-hereP bt n ((sumP bt n (unitP bt n u 4)) s).2], ((sumP bt n (unitP bt n u 4)) (advP ((sumP bt n (unitP bt n u 4)) s).2)).2) := if_pos (by rw [eo]; decide)
        show (∃ v, _ ∧ (((cmpP bt n (sumP bt n (unitP bt n u 4))) s).2.2.1 = none → ∀ st, runL ((cmpP bt n (sumP bt n (unitP bt n u 4))) s).1 nm st = v :: st)) ∧ PM _ n ((cmpP bt n (sumP bt n (unitP bt n u 4))) s).2 ∧ _
        rw [e2]
        refine ⟨⟨_, rfl, fun hn2 => ?_⟩, hMq2, hFq2⟩
        rw [eo]
        exact val_on (by decide) (hv1 hn0) (hvq2 hn2) (by rw [j60]; exact (b2i_t (Int32.not_le.mp c3)).symm)
  · skip
    refine v_iload_n K dX10_compared_16 rfl ?_
    refine v_bipushN K 61 rfl dX10_compared_17 ?_
    refine v_icmp_eq (tgt := 30) K dX10_compared_19 rfl (fun c4 => ?_) (fun c4 => ?_)
    · skip
      have eo : hereP bt n ((sumP bt n (unitP bt n u 4)) s).2 = nI 61 := c4
      obtain ⟨hl0, hn0⟩ := hereP_lt eo (nI_m1 (by decide))
      refine v_aload_n K dX10_compared_30 rfl ?_
      refine v_dup K dX10_compared_31 rfl ?_
      refine v_geti (x := nI (((sumP bt n (unitP bt n u 4)) s).2.1)) K fX10_55 sh_118 pl_118 hMq1.1.1 dX10_compared_32 ?_
      refine v_iconstN K 1 rfl dX10_compared_35 ?_
      refine v_iaddN K dX10_compared_36 ?_
      refine v_puti K pX10_55 sh_118 pl_118 dX10_compared_37 ?_
      have hMm2 : PM (u2 h1 118 6 (nI (((sumP bt n (unitP bt n u 4)) s).2.1 + 1))) n (advP ((sumP bt n (unitP bt n u 4)) s).2) := hMq1.adv hl0
      have hFm2 : FrP h (u2 h1 118 6 (nI (((sumP bt n (unitP bt n u 4)) s).2.1 + 1))) := FrP.u hFq1 (by omega)
      have hXm2 := PX.fr hX hFm2
      refine v_aload_n K dX10_compared_40 rfl ?_
      refine v_callV (As := []) K (c_X10_sum_4 ((u2 h1 118 6 (nI (((sumP bt n (unitP bt n u 4)) s).2.1 + 1)))) bt n B u nm ((advP ((sumP bt n (unitP bt n u 4)) s).2)) hXm2 hMm2 ((hO.on hG1 hn0).adv hl0)) lX10_85 ck_X10 rfl sh_118 pl_118 rfl ⟨by decide, by decide⟩ (Nat.le_of_ble_eq_true rfl) dX10_compared_41 (fun r4 h4 hp4 => ?_) rfl
      obtain ⟨⟨v3, rfl, hvq3⟩, hMq3, hFaq3⟩ := hp4
      have hFq3 := FrP.t hFm2 hFaq3
      have hXq3 := PX.fr hX hFq3
      have hGq3 : GP n (advP ((sumP bt n (unitP bt n u 4)) s).2) ((sumP bt n (unitP bt n u 4)) (advP ((sumP bt n (unitP bt n u 4)) s).2)).2 := (row_good (row_good (unit_good (bt := bt) (n := n) (u := u) 4) (by decide)) (by decide)) _ ((hO.on hG1 hn0).adv hl0)
      refine v_some ?_
      refine v_istore_n (lv2 := [(3, .int v3), (2, .int (hereP bt n ((sumP bt n (unitP bt n u 4)) s).2)), (1, .int v1), (0, .ref 118)]) K dX10_compared_44 (by decide) rfl ?_
      refine v_iload_n K dX10_compared_45 rfl ?_
      refine v_bipushN K 60 rfl dX10_compared_46 ?_
      refine v_icmp_ne (tgt := 59) K dX10_compared_48 rfl (fun c5 => ?_) (fun c5 => ?_)
      · skip
        refine v_iload_n K dX10_compared_59 rfl ?_
        refine v_bipushN K 61 rfl dX10_compared_60 ?_
        refine v_icmp_ne (tgt := 73) K dX10_compared_62 rfl (fun c6 => ?_) (fun c6 => ?_)
        · skip
          exact absurd eo c6
        · skip
          refine v_iload_n K dX10_compared_65 rfl ?_
          refine v_iload_n K dX10_compared_66 rfl ?_
          refine v_icmp_ne (tgt := 82) K dX10_compared_67 rfl (fun c7 => ?_) (fun c7 => ?_)
          · skip
            refine v_iconstN K 0 rfl dX10_compared_82 ?_
            refine v_iret K dX10_compared_83 ?_
            have e2 : (cmpP bt n (sumP bt n (unitP bt n u 4))) s = (((sumP bt n (unitP bt n u 4)) s).1 ++ ((sumP bt n (unitP bt n u 4)) (advP ((sumP bt n (unitP bt n u 4)) s).2)).1 ++ [-hereP bt n ((sumP bt n (unitP bt n u 4)) s).2], ((sumP bt n (unitP bt n u 4)) (advP ((sumP bt n (unitP bt n u 4)) s).2)).2) := if_pos (by rw [eo]; decide)
            show (∃ v, _ ∧ (((cmpP bt n (sumP bt n (unitP bt n u 4))) s).2.2.1 = none → ∀ st, runL ((cmpP bt n (sumP bt n (unitP bt n u 4))) s).1 nm st = v :: st)) ∧ PM _ n ((cmpP bt n (sumP bt n (unitP bt n u 4))) s).2 ∧ _
            rw [e2]
            refine ⟨⟨_, rfl, fun hn2 => ?_⟩, hMq3, hFq3⟩
            rw [eo]
            exact val_on (by decide) (hv1 hn0) (hvq3 hn2) (by rw [j61]; exact (b2i_f c7).symm)
          · skip
            refine v_goto (tgt := 78) K dX10_compared_70 rfl ?_
            refine v_iconstN K 1 rfl dX10_compared_78 ?_
            refine v_goto (tgt := 83) K dX10_compared_79 rfl ?_
            refine v_iret K dX10_compared_83 ?_
            have e2 : (cmpP bt n (sumP bt n (unitP bt n u 4))) s = (((sumP bt n (unitP bt n u 4)) s).1 ++ ((sumP bt n (unitP bt n u 4)) (advP ((sumP bt n (unitP bt n u 4)) s).2)).1 ++ [-hereP bt n ((sumP bt n (unitP bt n u 4)) s).2], ((sumP bt n (unitP bt n u 4)) (advP ((sumP bt n (unitP bt n u 4)) s).2)).2) := if_pos (by rw [eo]; decide)
            show (∃ v, _ ∧ (((cmpP bt n (sumP bt n (unitP bt n u 4))) s).2.2.1 = none → ∀ st, runL ((cmpP bt n (sumP bt n (unitP bt n u 4))) s).1 nm st = v :: st)) ∧ PM _ n ((cmpP bt n (sumP bt n (unitP bt n u 4))) s).2 ∧ _
            rw [e2]
            refine ⟨⟨_, rfl, fun hn2 => ?_⟩, hMq3, hFq3⟩
            rw [eo]
            exact val_on (by decide) (hv1 hn0) (hvq3 hn2) (by rw [j61]; exact (b2i_t c7).symm)
      · skip
        exact absurd (c5.symm.trans eo) (by decide)
    · skip
      refine v_iload_n K dX10_compared_22 rfl ?_
      refine v_bipushN K 62 rfl dX10_compared_23 ?_
      refine v_icmp_eq (tgt := 30) K dX10_compared_25 rfl (fun c8 => ?_) (fun c8 => ?_)
      · skip
        have eo : hereP bt n ((sumP bt n (unitP bt n u 4)) s).2 = nI 62 := c8
        obtain ⟨hl0, hn0⟩ := hereP_lt eo (nI_m1 (by decide))
        refine v_aload_n K dX10_compared_30 rfl ?_
        refine v_dup K dX10_compared_31 rfl ?_
        refine v_geti (x := nI (((sumP bt n (unitP bt n u 4)) s).2.1)) K fX10_55 sh_118 pl_118 hMq1.1.1 dX10_compared_32 ?_
        refine v_iconstN K 1 rfl dX10_compared_35 ?_
        refine v_iaddN K dX10_compared_36 ?_
        refine v_puti K pX10_55 sh_118 pl_118 dX10_compared_37 ?_
        have hMm3 : PM (u2 h1 118 6 (nI (((sumP bt n (unitP bt n u 4)) s).2.1 + 1))) n (advP ((sumP bt n (unitP bt n u 4)) s).2) := hMq1.adv hl0
        have hFm3 : FrP h (u2 h1 118 6 (nI (((sumP bt n (unitP bt n u 4)) s).2.1 + 1))) := FrP.u hFq1 (by omega)
        have hXm3 := PX.fr hX hFm3
        refine v_aload_n K dX10_compared_40 rfl ?_
        refine v_callV (As := []) K (c_X10_sum_4 ((u2 h1 118 6 (nI (((sumP bt n (unitP bt n u 4)) s).2.1 + 1)))) bt n B u nm ((advP ((sumP bt n (unitP bt n u 4)) s).2)) hXm3 hMm3 ((hO.on hG1 hn0).adv hl0)) lX10_85 ck_X10 rfl sh_118 pl_118 rfl ⟨by decide, by decide⟩ (Nat.le_of_ble_eq_true rfl) dX10_compared_41 (fun r5 h5 hp5 => ?_) rfl
        obtain ⟨⟨v4, rfl, hvq4⟩, hMq4, hFaq4⟩ := hp5
        have hFq4 := FrP.t hFm3 hFaq4
        have hXq4 := PX.fr hX hFq4
        have hGq4 : GP n (advP ((sumP bt n (unitP bt n u 4)) s).2) ((sumP bt n (unitP bt n u 4)) (advP ((sumP bt n (unitP bt n u 4)) s).2)).2 := (row_good (row_good (unit_good (bt := bt) (n := n) (u := u) 4) (by decide)) (by decide)) _ ((hO.on hG1 hn0).adv hl0)
        refine v_some ?_
        refine v_istore_n (lv2 := [(3, .int v4), (2, .int (hereP bt n ((sumP bt n (unitP bt n u 4)) s).2)), (1, .int v1), (0, .ref 118)]) K dX10_compared_44 (by decide) rfl ?_
        refine v_iload_n K dX10_compared_45 rfl ?_
        refine v_bipushN K 60 rfl dX10_compared_46 ?_
        refine v_icmp_ne (tgt := 59) K dX10_compared_48 rfl (fun c9 => ?_) (fun c9 => ?_)
        · skip
          refine v_iload_n K dX10_compared_59 rfl ?_
          refine v_bipushN K 61 rfl dX10_compared_60 ?_
          refine v_icmp_ne (tgt := 73) K dX10_compared_62 rfl (fun c10 => ?_) (fun c10 => ?_)
          · skip
            refine v_iload_n K dX10_compared_73 rfl ?_
            refine v_iload_n K dX10_compared_74 rfl ?_
            refine v_icmp_le (tgt := 82) K dX10_compared_75 rfl (fun c11 => ?_) (fun c11 => ?_)
            · skip
              refine v_iconstN K 0 rfl dX10_compared_82 ?_
              refine v_iret K dX10_compared_83 ?_
              have e2 : (cmpP bt n (sumP bt n (unitP bt n u 4))) s = (((sumP bt n (unitP bt n u 4)) s).1 ++ ((sumP bt n (unitP bt n u 4)) (advP ((sumP bt n (unitP bt n u 4)) s).2)).1 ++ [-hereP bt n ((sumP bt n (unitP bt n u 4)) s).2], ((sumP bt n (unitP bt n u 4)) (advP ((sumP bt n (unitP bt n u 4)) s).2)).2) := if_pos (by rw [eo]; decide)
              show (∃ v, _ ∧ (((cmpP bt n (sumP bt n (unitP bt n u 4))) s).2.2.1 = none → ∀ st, runL ((cmpP bt n (sumP bt n (unitP bt n u 4))) s).1 nm st = v :: st)) ∧ PM _ n ((cmpP bt n (sumP bt n (unitP bt n u 4))) s).2 ∧ _
              rw [e2]
              refine ⟨⟨_, rfl, fun hn2 => ?_⟩, hMq4, hFq4⟩
              rw [eo]
              exact val_on (by decide) (hv1 hn0) (hvq4 hn2) (by rw [j62]; exact (b2i_f (Int32.not_lt.mpr c11)).symm)
            · skip
              refine v_iconstN K 1 rfl dX10_compared_78 ?_
              refine v_goto (tgt := 83) K dX10_compared_79 rfl ?_
              refine v_iret K dX10_compared_83 ?_
              have e2 : (cmpP bt n (sumP bt n (unitP bt n u 4))) s = (((sumP bt n (unitP bt n u 4)) s).1 ++ ((sumP bt n (unitP bt n u 4)) (advP ((sumP bt n (unitP bt n u 4)) s).2)).1 ++ [-hereP bt n ((sumP bt n (unitP bt n u 4)) s).2], ((sumP bt n (unitP bt n u 4)) (advP ((sumP bt n (unitP bt n u 4)) s).2)).2) := if_pos (by rw [eo]; decide)
              show (∃ v, _ ∧ (((cmpP bt n (sumP bt n (unitP bt n u 4))) s).2.2.1 = none → ∀ st, runL ((cmpP bt n (sumP bt n (unitP bt n u 4))) s).1 nm st = v :: st)) ∧ PM _ n ((cmpP bt n (sumP bt n (unitP bt n u 4))) s).2 ∧ _
              rw [e2]
              refine ⟨⟨_, rfl, fun hn2 => ?_⟩, hMq4, hFq4⟩
              rw [eo]
              exact val_on (by decide) (hv1 hn0) (hvq4 hn2) (by rw [j62]; exact (b2i_t (Int32.not_le.mp c11)).symm)
          · skip
            exact absurd (c10.symm.trans eo) (by decide)
        · skip
          exact absurd (c9.symm.trans eo) (by decide)
      · skip
        refine v_iload_n K dX10_compared_28 rfl ?_
        refine v_iret K dX10_compared_29 ?_
        have e2 : (cmpP bt n (sumP bt n (unitP bt n u 4))) s = (sumP bt n (unitP bt n u 4)) s := if_neg (by simp only [List.mem_cons, List.not_mem_nil, or_false, not_or]; exact ⟨c1, c4, c8⟩)
        show (∃ v, _ ∧ (((cmpP bt n (sumP bt n (unitP bt n u 4))) s).2.2.1 = none → ∀ st, runL ((cmpP bt n (sumP bt n (unitP bt n u 4))) s).1 nm st = v :: st)) ∧ PM _ n ((cmpP bt n (sumP bt n (unitP bt n u 4))) s).2 ∧ _
        rw [e2]
        exact ⟨⟨_, rfl, hv1⟩, hMq1, hFq1⟩

abbrev P_X10_both_4 (h : Mm) (bt : Nat → Int32) (n B u : Nat) (nm : Nat → Int32) (s : PSt) : Option Value → Mm → Prop := fun r h2 => (∃ v, r = some (.int v) ∧ (((bothP bt n (unitP bt n u 4)) s).2.2.1 = none → ∀ st, runL ((bothP bt n (unitP bt n u 4)) s).1 nm st = v :: st)) ∧ PM h2 n ((bothP bt n (unitP bt n u 4)) s).2 ∧ FrP h h2
theorem c_X10_both_4 {l : Launch} (h : Mm) (bt : Nat → Int32) (n B u : Nat) (nm : Nat → Int32) (s : PSt) (hX : PX h bt n B u nm) (hM : PM h n s) (hO : OKs n 4 s) : Con l yX10_both cX10_both 3 (some .int) 29 666 132 GL h [.ref 118] (P_X10_both_4 h bt n B u nm s) := by
  refine Con.ofV (own := "FoxRoundsModel") (nm := "both") rfl rfl (by decide) (Nat.le_of_ble_eq_true rfl) ?_
  intro κ ρ hkl K
  subst hkl
  show V κ (QM κ (132, ρ, GL, 0, 0) (P_X10_both_4 h bt n B u nm s)) 3 (132, ρ, GL, 0, 0) h 0 [(0, .ref 118)] []
  have hn50 := hX.2.2.2.2.2.1
  have hBn := hX.2.2.2.2.1
  have hsn := hM.2.1
  have hs5 := hM.2.2.1
  refine v_aload_n K dX10_both_0 rfl ?_
  refine v_callV (As := []) K (c_X10_compared_4 h bt n B u nm s hX hM hO) lX10_82 ck_X10 rfl sh_118 pl_118 rfl ⟨by decide, by decide⟩ (Nat.le_of_ble_eq_true rfl) dX10_both_1 (fun r1 h1 hp1 => ?_) rfl
  obtain ⟨⟨v1, rfl, hvq1⟩, hMq1, hFaq1⟩ := hp1
  have hFq1 := FrP.t (FrP.r (h := h)) hFaq1
  have hXq1 := PX.fr hX hFq1
  have hGq1 : GP n s ((cmpP bt n (sumP bt n (unitP bt n u 4))) s).2 := (cmp_good (row_good (row_good (unit_good (bt := bt) (n := n) (u := u) 4) (by decide)) (by decide))) _ hO
  refine v_some ?_
  refine v_istore_n (lv2 := [(1, .int v1), (0, .ref 118)]) K dX10_both_4 (by decide) rfl ?_
  have L5 : ∀ (mm : Nat) (f : Nat) (cs : List Int32) (t : PSt) (v : Int32) (h1 : Mm) (hG : GP n s t) (hM1 : PM h1 n t) (hF1 : FrP h h1) (hv : t.2.1 = none → ∀ st, runL cs nm st = v :: st) (he : (bothP bt n (unitP bt n u 4)) s = loopP bt n [nI 38] (cmpP bt n (sumP bt n (unitP bt n u 4))) f cs t) (hfu : n + 1 ≤ f + t.1), f < mm → V κ (QM κ (132, ρ, GL, 0, 0) (P_X10_both_4 h bt n B u nm s)) 3 (132, ρ, GL, 0, 0) h1 5 [(0, .ref 118), (1, .int v)] [] := by
    intro mm
    induction mm with
    | zero => intro f cs t v h1 hG hM1 hF1 hv he hfu hmm; exact absurd hmm (Nat.not_lt_zero _)
    | succ mm ih5 =>
      intro f cs t v h1 hG hM1 hF1 hv he hfu hmm
      have hX1 := PX.fr hX hF1
      have htn := hM1.2.1
      have ht5 := hM1.2.2.1
      obtain ⟨f, rfl⟩ : ∃ f0, f = f0 + 1 := ⟨f - 1, by omega⟩
      refine v_aload_n K dX10_both_5 rfl ?_
      refine v_bipushN K 38 rfl dX10_both_6 ?_
      refine v_callV (As := [.int (nI 38)]) K (c_X10_takes h1 bt n B u nm t 38 hX1 hM1 (by decide)) lX10_78 ck_X10 rfl sh_118 pl_118 rfl ⟨by decide, by decide⟩ (Nat.le_of_ble_eq_true rfl) dX10_both_8 (fun r2 h2 hp2 => ?_) rfl
      obtain ⟨rfl, hMq2, hFaq2⟩ := hp2
      have hFq2 := FrP.t hF1 hFaq2
      have hXq2 := PX.fr hX hFq2
      refine v_some ?_
      refine v_ifB_eq (tgt := 36) K dX10_both_11 rfl (fun c1 => ?_) (fun c1 => ?_)
      · skip
        rw [tk_n c1] at hMq2
        refine v_iload_n K dX10_both_36 rfl ?_
        refine v_iret K dX10_both_37 ?_
        have e2 : (bothP bt n (unitP bt n u 4)) s = (cs, t) := by rw [he, loop_off (by simp only [List.mem_cons, List.not_mem_nil, or_false]; exact c1)]
        show (∃ v, _ ∧ (((bothP bt n (unitP bt n u 4)) s).2.2.1 = none → ∀ st, runL ((bothP bt n (unitP bt n u 4)) s).1 nm st = v :: st)) ∧ PM _ n ((bothP bt n (unitP bt n u 4)) s).2 ∧ _
        rw [e2]
        exact ⟨⟨v, rfl, hv⟩, hMq2, hFq2⟩
      · skip
        have eo : hereP bt n t = nI 38 := c1
        obtain ⟨hl0, hn0⟩ := hereP_lt eo (nI_m1 (by decide))
        have hG0 := hG
        rw [tk_y eo] at hMq2
        refine v_aload_n K dX10_both_14 rfl ?_
        refine v_callV (As := []) K (c_X10_compared_4 h2 bt n B u nm ((advP t)) hXq2 hMq2 ((hO.on hG0 hn0).adv hl0)) lX10_82 ck_X10 rfl sh_118 pl_118 rfl ⟨by decide, by decide⟩ (Nat.le_of_ble_eq_true rfl) dX10_both_15 (fun r3 h3 hp3 => ?_) rfl
        obtain ⟨⟨v2, rfl, hvq3⟩, hMq3, hFaq3⟩ := hp3
        have hFq3 := FrP.t hFq2 hFaq3
        have hXq3 := PX.fr hX hFq3
        have hGq3 : GP n (advP t) ((cmpP bt n (sumP bt n (unitP bt n u 4))) (advP t)).2 := (cmp_good (row_good (row_good (unit_good (bt := bt) (n := n) (u := u) 4) (by decide)) (by decide))) _ ((hO.on hG0 hn0).adv hl0)
        refine v_some ?_
        refine v_istore_n (lv2 := [(2, .int v2), (0, .ref 118), (1, .int v)]) K dX10_both_18 (by decide) rfl ?_
        refine v_iload_n K dX10_both_19 rfl ?_
        refine v_if_eq (tgt := 31) K dX10_both_20 rfl (fun c2 => ?_) (fun c2 => ?_)
        · skip
          refine v_iconstN K 0 rfl dX10_both_31 ?_
          refine v_top (y := joinR (nI 38) v v2) (by rw [j38]; exact (b2i_f (fun q => q.1 c2)).symm) ?_
          refine v_istore_n (lv2 := [(1, .int (joinR (nI 38) v v2)), (2, .int v2), (0, .ref 118)]) K dX10_both_32 (by decide) rfl ?_
          refine v_goto (tgt := 5) K dX10_both_33 rfl ?_
          refine v_sub (lv2 := [(0, .ref 118), (1, .int (joinR (nI 38) v v2))]) (by simp) ?_
          exact ih5 f ((cs ++ ((cmpP bt n (sumP bt n (unitP bt n u 4))) (advP t)).1 ++ [-hereP bt n t])) (((cmpP bt n (sumP bt n (unitP bt n u 4))) (advP t)).2) (joinR (nI 38) v v2) h3 (by exact hG0.tr hn0 ((GP.adv (hO.on hG0 hn0) hl0).tr hn0 hGq3)) (by exact hMq3) (by exact hFq3) (by intro hn2; rw [eo]; exact val_on (by decide) (hv hn0) (hvq3 hn2) rfl) (by rw [he, loop_on (by rw [eo]; decide)]) (by have h1 : (advP t).1 = t.1 + 1 := rfl; have h2 := hGq3.1; omega) (by omega)
        · skip
          refine v_iload_n K dX10_both_23 rfl ?_
          refine v_if_eq (tgt := 31) K dX10_both_24 rfl (fun c3 => ?_) (fun c3 => ?_)
          · skip
            refine v_iconstN K 0 rfl dX10_both_31 ?_
            refine v_top (y := joinR (nI 38) v v2) (by rw [j38]; exact (b2i_f (fun q => q.2 c3)).symm) ?_
            refine v_istore_n (lv2 := [(1, .int (joinR (nI 38) v v2)), (2, .int v2), (0, .ref 118)]) K dX10_both_32 (by decide) rfl ?_
            refine v_goto (tgt := 5) K dX10_both_33 rfl ?_
            refine v_sub (lv2 := [(0, .ref 118), (1, .int (joinR (nI 38) v v2))]) (by simp) ?_
            exact ih5 f ((cs ++ ((cmpP bt n (sumP bt n (unitP bt n u 4))) (advP t)).1 ++ [-hereP bt n t])) (((cmpP bt n (sumP bt n (unitP bt n u 4))) (advP t)).2) (joinR (nI 38) v v2) h3 (by exact hG0.tr hn0 ((GP.adv (hO.on hG0 hn0) hl0).tr hn0 hGq3)) (by exact hMq3) (by exact hFq3) (by intro hn2; rw [eo]; exact val_on (by decide) (hv hn0) (hvq3 hn2) rfl) (by rw [he, loop_on (by rw [eo]; decide)]) (by have h1 : (advP t).1 = t.1 + 1 := rfl; have h2 := hGq3.1; omega) (by omega)
          · skip
            refine v_iconstN K 1 rfl dX10_both_27 ?_
            refine v_goto (tgt := 32) K dX10_both_28 rfl ?_
            refine v_top (y := joinR (nI 38) v v2) (by rw [j38]; exact (b2i_t ⟨c2, c3⟩).symm) ?_
            refine v_istore_n (lv2 := [(1, .int (joinR (nI 38) v v2)), (2, .int v2), (0, .ref 118)]) K dX10_both_32 (by decide) rfl ?_
            refine v_goto (tgt := 5) K dX10_both_33 rfl ?_
            refine v_sub (lv2 := [(0, .ref 118), (1, .int (joinR (nI 38) v v2))]) (by simp) ?_
            exact ih5 f ((cs ++ ((cmpP bt n (sumP bt n (unitP bt n u 4))) (advP t)).1 ++ [-hereP bt n t])) (((cmpP bt n (sumP bt n (unitP bt n u 4))) (advP t)).2) (joinR (nI 38) v v2) h3 (by exact hG0.tr hn0 ((GP.adv (hO.on hG0 hn0) hl0).tr hn0 hGq3)) (by exact hMq3) (by exact hFq3) (by intro hn2; rw [eo]; exact val_on (by decide) (hv hn0) (hvq3 hn2) rfl) (by rw [he, loop_on (by rw [eo]; decide)]) (by have h1 : (advP t).1 = t.1 + 1 := rfl; have h2 := hGq3.1; omega) (by omega)
  refine v_sub (lv2 := [(0, .ref 118), (1, .int v1)]) (by simp) ?_
  exact L5 (52 + 1) 52 (((cmpP bt n (sumP bt n (unitP bt n u 4))) s).1) (((cmpP bt n (sumP bt n (unitP bt n u 4))) s).2) v1 h1 (by exact hGq1) (by exact hMq1) (by exact hFq1) (by exact hvq1) (by rfl) (by omega) (Nat.lt_succ_self _)

abbrev P_X10_either_4 (h : Mm) (bt : Nat → Int32) (n B u : Nat) (nm : Nat → Int32) (s : PSt) : Option Value → Mm → Prop := fun r h2 => (∃ v, r = some (.int v) ∧ (((eitherP bt n (unitP bt n u 4)) s).2.2.1 = none → ∀ st, runL ((eitherP bt n (unitP bt n u 4)) s).1 nm st = v :: st)) ∧ PM h2 n ((eitherP bt n (unitP bt n u 4)) s).2 ∧ FrP h h2
theorem c_X10_either_4 {l : Launch} (h : Mm) (bt : Nat → Int32) (n B u : Nat) (nm : Nat → Int32) (s : PSt) (hX : PX h bt n B u nm) (hM : PM h n s) (hO : OKs n 4 s) : Con l yX10_either cX10_either 3 (some .int) 30 688 132 GL h [.ref 118] (P_X10_either_4 h bt n B u nm s) := by
  refine Con.ofV (own := "FoxRoundsModel") (nm := "either") rfl rfl (by decide) (Nat.le_of_ble_eq_true rfl) ?_
  intro κ ρ hkl K
  subst hkl
  show V κ (QM κ (132, ρ, GL, 0, 0) (P_X10_either_4 h bt n B u nm s)) 3 (132, ρ, GL, 0, 0) h 0 [(0, .ref 118)] []
  have hn50 := hX.2.2.2.2.2.1
  have hBn := hX.2.2.2.2.1
  have hsn := hM.2.1
  have hs5 := hM.2.2.1
  refine v_aload_n K dX10_either_0 rfl ?_
  refine v_callV (As := []) K (c_X10_both_4 h bt n B u nm s hX hM hO) lX10_75 ck_X10 rfl sh_118 pl_118 rfl ⟨by decide, by decide⟩ (Nat.le_of_ble_eq_true rfl) dX10_either_1 (fun r1 h1 hp1 => ?_) rfl
  obtain ⟨⟨v1, rfl, hvq1⟩, hMq1, hFaq1⟩ := hp1
  have hFq1 := FrP.t (FrP.r (h := h)) hFaq1
  have hXq1 := PX.fr hX hFq1
  have hGq1 : GP n s ((bothP bt n (unitP bt n u 4)) s).2 := (row_good (cmp_good (row_good (row_good (unit_good (bt := bt) (n := n) (u := u) 4) (by decide)) (by decide))) (by decide)) _ hO
  refine v_some ?_
  refine v_istore_n (lv2 := [(1, .int v1), (0, .ref 118)]) K dX10_either_4 (by decide) rfl ?_
  have L5 : ∀ (mm : Nat) (f : Nat) (cs : List Int32) (t : PSt) (v : Int32) (h1 : Mm) (hG : GP n s t) (hM1 : PM h1 n t) (hF1 : FrP h h1) (hv : t.2.1 = none → ∀ st, runL cs nm st = v :: st) (he : (eitherP bt n (unitP bt n u 4)) s = loopP bt n [nI 124] (bothP bt n (unitP bt n u 4)) f cs t) (hfu : n + 1 ≤ f + t.1), f < mm → V κ (QM κ (132, ρ, GL, 0, 0) (P_X10_either_4 h bt n B u nm s)) 3 (132, ρ, GL, 0, 0) h1 5 [(0, .ref 118), (1, .int v)] [] := by
    intro mm
    induction mm with
    | zero => intro f cs t v h1 hG hM1 hF1 hv he hfu hmm; exact absurd hmm (Nat.not_lt_zero _)
    | succ mm ih5 =>
      intro f cs t v h1 hG hM1 hF1 hv he hfu hmm
      have hX1 := PX.fr hX hF1
      have htn := hM1.2.1
      have ht5 := hM1.2.2.1
      obtain ⟨f, rfl⟩ : ∃ f0, f = f0 + 1 := ⟨f - 1, by omega⟩
      refine v_aload_n K dX10_either_5 rfl ?_
      refine v_bipushN K 124 rfl dX10_either_6 ?_
      refine v_callV (As := [.int (nI 124)]) K (c_X10_takes h1 bt n B u nm t 124 hX1 hM1 (by decide)) lX10_78 ck_X10 rfl sh_118 pl_118 rfl ⟨by decide, by decide⟩ (Nat.le_of_ble_eq_true rfl) dX10_either_8 (fun r2 h2 hp2 => ?_) rfl
      obtain ⟨rfl, hMq2, hFaq2⟩ := hp2
      have hFq2 := FrP.t hF1 hFaq2
      have hXq2 := PX.fr hX hFq2
      refine v_some ?_
      refine v_ifB_eq (tgt := 36) K dX10_either_11 rfl (fun c1 => ?_) (fun c1 => ?_)
      · skip
        rw [tk_n c1] at hMq2
        refine v_iload_n K dX10_either_36 rfl ?_
        refine v_iret K dX10_either_37 ?_
        have e2 : (eitherP bt n (unitP bt n u 4)) s = (cs, t) := by rw [he, loop_off (by simp only [List.mem_cons, List.not_mem_nil, or_false]; exact c1)]
        show (∃ v, _ ∧ (((eitherP bt n (unitP bt n u 4)) s).2.2.1 = none → ∀ st, runL ((eitherP bt n (unitP bt n u 4)) s).1 nm st = v :: st)) ∧ PM _ n ((eitherP bt n (unitP bt n u 4)) s).2 ∧ _
        rw [e2]
        exact ⟨⟨v, rfl, hv⟩, hMq2, hFq2⟩
      · skip
        have eo : hereP bt n t = nI 124 := c1
        obtain ⟨hl0, hn0⟩ := hereP_lt eo (nI_m1 (by decide))
        have hG0 := hG
        rw [tk_y eo] at hMq2
        refine v_aload_n K dX10_either_14 rfl ?_
        refine v_callV (As := []) K (c_X10_both_4 h2 bt n B u nm ((advP t)) hXq2 hMq2 ((hO.on hG0 hn0).adv hl0)) lX10_75 ck_X10 rfl sh_118 pl_118 rfl ⟨by decide, by decide⟩ (Nat.le_of_ble_eq_true rfl) dX10_either_15 (fun r3 h3 hp3 => ?_) rfl
        obtain ⟨⟨v2, rfl, hvq3⟩, hMq3, hFaq3⟩ := hp3
        have hFq3 := FrP.t hFq2 hFaq3
        have hXq3 := PX.fr hX hFq3
        have hGq3 : GP n (advP t) ((bothP bt n (unitP bt n u 4)) (advP t)).2 := (row_good (cmp_good (row_good (row_good (unit_good (bt := bt) (n := n) (u := u) 4) (by decide)) (by decide))) (by decide)) _ ((hO.on hG0 hn0).adv hl0)
        refine v_some ?_
        refine v_istore_n (lv2 := [(2, .int v2), (0, .ref 118), (1, .int v)]) K dX10_either_18 (by decide) rfl ?_
        refine v_iload_n K dX10_either_19 rfl ?_
        refine v_if_ne (tgt := 27) K dX10_either_20 rfl (fun c2 => ?_) (fun c2 => ?_)
        · skip
          refine v_iconstN K 1 rfl dX10_either_27 ?_
          refine v_goto (tgt := 32) K dX10_either_28 rfl ?_
          refine v_top (y := joinR (nI 124) v v2) (by rw [j124]; exact (b2i_t (Or.inl c2)).symm) ?_
          refine v_istore_n (lv2 := [(1, .int (joinR (nI 124) v v2)), (2, .int v2), (0, .ref 118)]) K dX10_either_32 (by decide) rfl ?_
          refine v_goto (tgt := 5) K dX10_either_33 rfl ?_
          refine v_sub (lv2 := [(0, .ref 118), (1, .int (joinR (nI 124) v v2))]) (by simp) ?_
          exact ih5 f ((cs ++ ((bothP bt n (unitP bt n u 4)) (advP t)).1 ++ [-hereP bt n t])) (((bothP bt n (unitP bt n u 4)) (advP t)).2) (joinR (nI 124) v v2) h3 (by exact hG0.tr hn0 ((GP.adv (hO.on hG0 hn0) hl0).tr hn0 hGq3)) (by exact hMq3) (by exact hFq3) (by intro hn2; rw [eo]; exact val_on (by decide) (hv hn0) (hvq3 hn2) rfl) (by rw [he, loop_on (by rw [eo]; decide)]) (by have h1 : (advP t).1 = t.1 + 1 := rfl; have h2 := hGq3.1; omega) (by omega)
        · skip
          refine v_iload_n K dX10_either_23 rfl ?_
          refine v_if_eq (tgt := 31) K dX10_either_24 rfl (fun c3 => ?_) (fun c3 => ?_)
          · skip
            refine v_iconstN K 0 rfl dX10_either_31 ?_
            refine v_top (y := joinR (nI 124) v v2) (by rw [j124]; exact (b2i_f (by rw [not_or]; exact ⟨fun q => q c2, fun q => q c3⟩)).symm) ?_
            refine v_istore_n (lv2 := [(1, .int (joinR (nI 124) v v2)), (2, .int v2), (0, .ref 118)]) K dX10_either_32 (by decide) rfl ?_
            refine v_goto (tgt := 5) K dX10_either_33 rfl ?_
            refine v_sub (lv2 := [(0, .ref 118), (1, .int (joinR (nI 124) v v2))]) (by simp) ?_
            exact ih5 f ((cs ++ ((bothP bt n (unitP bt n u 4)) (advP t)).1 ++ [-hereP bt n t])) (((bothP bt n (unitP bt n u 4)) (advP t)).2) (joinR (nI 124) v v2) h3 (by exact hG0.tr hn0 ((GP.adv (hO.on hG0 hn0) hl0).tr hn0 hGq3)) (by exact hMq3) (by exact hFq3) (by intro hn2; rw [eo]; exact val_on (by decide) (hv hn0) (hvq3 hn2) rfl) (by rw [he, loop_on (by rw [eo]; decide)]) (by have h1 : (advP t).1 = t.1 + 1 := rfl; have h2 := hGq3.1; omega) (by omega)
          · skip
            refine v_iconstN K 1 rfl dX10_either_27 ?_
            refine v_goto (tgt := 32) K dX10_either_28 rfl ?_
            refine v_top (y := joinR (nI 124) v v2) (by rw [j124]; exact (b2i_t (Or.inr c3)).symm) ?_
            refine v_istore_n (lv2 := [(1, .int (joinR (nI 124) v v2)), (2, .int v2), (0, .ref 118)]) K dX10_either_32 (by decide) rfl ?_
            refine v_goto (tgt := 5) K dX10_either_33 rfl ?_
            refine v_sub (lv2 := [(0, .ref 118), (1, .int (joinR (nI 124) v v2))]) (by simp) ?_
            exact ih5 f ((cs ++ ((bothP bt n (unitP bt n u 4)) (advP t)).1 ++ [-hereP bt n t])) (((bothP bt n (unitP bt n u 4)) (advP t)).2) (joinR (nI 124) v v2) h3 (by exact hG0.tr hn0 ((GP.adv (hO.on hG0 hn0) hl0).tr hn0 hGq3)) (by exact hMq3) (by exact hFq3) (by intro hn2; rw [eo]; exact val_on (by decide) (hv hn0) (hvq3 hn2) rfl) (by rw [he, loop_on (by rw [eo]; decide)]) (by have h1 : (advP t).1 = t.1 + 1 := rfl; have h2 := hGq3.1; omega) (by omega)
  refine v_sub (lv2 := [(0, .ref 118), (1, .int v1)]) (by simp) ?_
  exact L5 (52 + 1) 52 (((bothP bt n (unitP bt n u 4)) s).1) (((bothP bt n (unitP bt n u 4)) s).2) v1 h1 (by exact hGq1) (by exact hMq1) (by exact hFq1) (by exact hvq1) (by rfl) (by omega) (Nat.lt_succ_self _)

theorem unit_e5 {bt : Nat → Int32} {n u : Nat} (s : PSt) : unitP bt n u 5 s = if hereP bt n s = nI 40 then (if hereP bt n ((eitherP bt n (unitP bt n u 4)) (advP (openP s))).2 = nI 41 then (((eitherP bt n (unitP bt n u 4)) (advP (openP s))).1, closeP (advP ((eitherP bt n (unitP bt n u 4)) (advP (openP s))).2)) else ([], wrongP ((eitherP bt n (unitP bt n u 4)) (advP (openP s))).2)) else if hereP bt n s = nI 33 then (((unitP bt n u 4) (advP (openP s))).1 ++ [(-33)], closeP ((unitP bt n u 4) (advP (openP s))).2) else leafP bt n u s := rfl

abbrev P_X10_unit_5 (h : Mm) (bt : Nat → Int32) (n B u : Nat) (nm : Nat → Int32) (s : PSt) : Option Value → Mm → Prop := fun r h2 => (∃ v, r = some (.int v) ∧ (((unitP bt n u 5) s).2.2.1 = none → ∀ st, runL ((unitP bt n u 5) s).1 nm st = v :: st)) ∧ PM h2 n ((unitP bt n u 5) s).2 ∧ FrP h h2
theorem c_X10_unit_5 {l : Launch} (h : Mm) (bt : Nat → Int32) (n B u : Nat) (nm : Nat → Int32) (s : PSt) (hX : PX h bt n B u nm) (hM : PM h n s) (hO : OKs n 5 s) : Con l yX10_unit cX10_unit 5 (some .int) 31 710 132 GL h [.ref 118] (P_X10_unit_5 h bt n B u nm s) := by
  refine Con.ofV (own := "FoxRoundsModel") (nm := "unit") rfl rfl (by decide) (Nat.le_of_ble_eq_true rfl) ?_
  intro κ ρ hkl K
  subst hkl
  show V κ (QM κ (132, ρ, GL, 0, 0) (P_X10_unit_5 h bt n B u nm s)) 5 (132, ρ, GL, 0, 0) h 0 [(0, .ref 118)] []
  have hn50 := hX.2.2.2.2.2.1
  have hBn := hX.2.2.2.2.1
  have hsn := hM.2.1
  have hs5 := hM.2.2.1
  refine v_aload_n K dX10_unit_0 rfl ?_
  refine v_callV (As := []) K (c_X10_here h bt n B u nm s hX hM) lX10_68 ck_X10 rfl sh_118 pl_118 rfl ⟨by decide, by decide⟩ (Nat.le_of_ble_eq_true rfl) dX10_unit_1 (fun r1 h1 hp1 => ?_) rfl
  obtain ⟨rfl, rfl⟩ := hp1
  refine v_some ?_
  refine v_istore_n (lv2 := [(1, .int (hereP bt n s)), (0, .ref 118)]) K dX10_unit_4 (by decide) rfl ?_
  refine v_iload_n K dX10_unit_5 rfl ?_
  refine v_bipushN K 33 rfl dX10_unit_6 ?_
  refine v_icmp_eq (tgt := 17) K dX10_unit_8 rfl (fun c1 => ?_) (fun c1 => ?_)
  · skip
    have eo : hereP bt n s = nI 33 := c1
    obtain ⟨hl0, hn0⟩ := hereP_lt eo (nI_m1 (by decide))
    refine v_aload_n K dX10_unit_17 rfl ?_
    refine v_geti (x := nI s.2.2) K fX10_94 sh_118 pl_118 hM.1.2.2 dX10_unit_18 ?_
    refine v_iconstN K 5 rfl dX10_unit_21 ?_
    refine v_icmpN_ne (tgt := 30) K (by omega) (by omega) dX10_unit_22 rfl (fun c2 => ?_) (fun c2 => ?_)
    · skip
      refine v_aload_n K dX10_unit_30 rfl ?_
      refine v_dup K dX10_unit_31 rfl ?_
      refine v_geti (x := nI s.2.2) K fX10_94 sh_118 pl_118 hM.1.2.2 dX10_unit_32 ?_
      refine v_iconstN K 1 rfl dX10_unit_35 ?_
      refine v_iaddN K dX10_unit_36 ?_
      refine v_puti K pX10_94 sh_118 pl_118 dX10_unit_37 ?_
      have hMm1 : PM (u2 h 118 9 (nI (s.2.2 + 1))) n (openP s) := hM.opn (by have := hO.2.2; omega)
      have hFm1 : FrP h (u2 h 118 9 (nI (s.2.2 + 1))) := FrP.u (FrP.r (h := h)) (by omega)
      have hXm1 := PX.fr hX hFm1
      refine v_aload_n K dX10_unit_40 rfl ?_
      refine v_dup K dX10_unit_41 rfl ?_
      refine v_geti (x := nI ((openP s).1)) K fX10_55 sh_118 pl_118 hMm1.1.1 dX10_unit_42 ?_
      refine v_iconstN K 1 rfl dX10_unit_45 ?_
      refine v_iaddN K dX10_unit_46 ?_
      refine v_puti K pX10_55 sh_118 pl_118 dX10_unit_47 ?_
      have hMm2 : PM (u2 (u2 h 118 9 (nI (s.2.2 + 1))) 118 6 (nI ((openP s).1 + 1))) n (advP (openP s)) := hMm1.adv hl0
      have hFm2 : FrP h (u2 (u2 h 118 9 (nI (s.2.2 + 1))) 118 6 (nI ((openP s).1 + 1))) := FrP.u hFm1 (by omega)
      have hXm2 := PX.fr hX hFm2
      refine v_iload_n K dX10_unit_50 rfl ?_
      refine v_bipushN K 40 rfl dX10_unit_51 ?_
      refine v_icmp_ne (tgt := 63) K dX10_unit_53 rfl (fun c3 => ?_) (fun c3 => ?_)
      · skip
        refine v_aload_n K dX10_unit_63 rfl ?_
        refine v_callV (As := []) K (c_X10_unit_4 ((u2 (u2 h 118 9 (nI (s.2.2 + 1))) 118 6 (nI ((openP s).1 + 1)))) bt n B u nm ((advP (openP s))) hXm2 hMm2 ⟨hl0, hn0, by show s.2.2 + 1 + 4 = 5; have := hO.2.2; omega⟩) lX10_91 ck_X10 rfl sh_118 pl_118 rfl ⟨by decide, by decide⟩ (Nat.le_of_ble_eq_true rfl) dX10_unit_64 (fun r2 h2 hp2 => ?_) rfl
        obtain ⟨⟨v1, rfl, hvq1⟩, hMq1, hFaq1⟩ := hp2
        have hFq1 := FrP.t hFm2 hFaq1
        have hXq1 := PX.fr hX hFq1
        have hGq1 : GP n (advP (openP s)) ((unitP bt n u 4) (advP (openP s))).2 := (unit_good (bt := bt) (n := n) (u := u) 4) _ ⟨hl0, hn0, by show s.2.2 + 1 + 4 = 5; have := hO.2.2; omega⟩
        refine v_some ?_
        have hG1 := hGq1
        have hv1 := hvq1
        have ho1 : s.2.2 + 1 ≤ ((unitP bt n u 4) (advP (openP s))).2.2.2 := hG1.2.2.2.1
        refine v_istore_n (lv2 := [(2, .int v1), (1, .int (hereP bt n s)), (0, .ref 118)]) K dX10_unit_67 (by decide) rfl ?_
        refine v_iload_n K dX10_unit_68 rfl ?_
        refine v_bipushN K 40 rfl dX10_unit_69 ?_
        refine v_icmp_ne (tgt := 88) K dX10_unit_71 rfl (fun c4 => ?_) (fun c4 => ?_)
        · skip
          refine v_aload_n K dX10_unit_88 rfl ?_
          refine v_dup K dX10_unit_89 rfl ?_
          refine v_geti (x := nI (((unitP bt n u 4) (advP (openP s))).2.2.2)) K fX10_94 sh_118 pl_118 hMq1.1.2.2 dX10_unit_90 ?_
          refine v_iconstN K 1 rfl dX10_unit_93 ?_
          refine v_isubN K (by first | exact Nat.le_trans (Nat.succ_le_succ (Nat.zero_le _)) ho1 | (have := ho1; omega)) dX10_unit_94 ?_
          refine v_puti K pX10_94 sh_118 pl_118 dX10_unit_95 ?_
          have hMm3 : PM (u2 h2 118 9 (nI (((unitP bt n u 4) (advP (openP s))).2.2.2 - 1))) n (closeP ((unitP bt n u 4) (advP (openP s))).2) := hMq1.cls
          have hFm3 : FrP h (u2 h2 118 9 (nI (((unitP bt n u 4) (advP (openP s))).2.2.2 - 1))) := FrP.u hFq1 (by omega)
          have hXm3 := PX.fr hX hFm3
          refine v_iload_n K dX10_unit_98 rfl ?_
          refine v_bipushN K 40 rfl dX10_unit_99 ?_
          refine v_icmp_ne (tgt := 108) K dX10_unit_101 rfl (fun c5 => ?_) (fun c5 => ?_)
          · skip
            refine v_iload_n K dX10_unit_108 rfl ?_
            refine v_if_ne (tgt := 116) K dX10_unit_109 rfl (fun c6 => ?_) (fun c6 => ?_)
            · skip
              refine v_iconstN K 0 rfl dX10_unit_116 ?_
              refine v_iret K dX10_unit_117 ?_
              have e2 : (unitP bt n u 5) s = (((unitP bt n u 4) (advP (openP s))).1 ++ [(-33)], closeP ((unitP bt n u 4) (advP (openP s))).2) := by rw [unit_e5, if_neg (fun q => absurd (q.symm.trans eo) (by decide)), if_pos eo]
              show (∃ v, _ ∧ (((unitP bt n u 5) s).2.2.1 = none → ∀ st, runL ((unitP bt n u 5) s).1 nm st = v :: st)) ∧ PM _ n ((unitP bt n u 5) s).2 ∧ _
              rw [e2]
              refine ⟨⟨_, rfl, fun q st => ?_⟩, hMm3, hFm3⟩
              rw [runL_app, hv1 q, run_bang, b2i_f c6]
              rfl
            · skip
              refine v_iconstN K 1 rfl dX10_unit_112 ?_
              refine v_goto (tgt := 117) K dX10_unit_113 rfl ?_
              refine v_iret K dX10_unit_117 ?_
              have e2 : (unitP bt n u 5) s = (((unitP bt n u 4) (advP (openP s))).1 ++ [(-33)], closeP ((unitP bt n u 4) (advP (openP s))).2) := by rw [unit_e5, if_neg (fun q => absurd (q.symm.trans eo) (by decide)), if_pos eo]
              show (∃ v, _ ∧ (((unitP bt n u 5) s).2.2.1 = none → ∀ st, runL ((unitP bt n u 5) s).1 nm st = v :: st)) ∧ PM _ n ((unitP bt n u 5) s).2 ∧ _
              rw [e2]
              refine ⟨⟨_, rfl, fun q st => ?_⟩, hMm3, hFm3⟩
              rw [runL_app, hv1 q, run_bang, b2i_t c6]
              rfl
          · skip
            exact absurd (c5.symm.trans eo) (by decide)
        · skip
          exact absurd (c4.symm.trans eo) (by decide)
      · skip
        exact absurd (c3.symm.trans eo) (by decide)
    · skip
      exfalso; have := hO.2.2; omega
  · skip
    refine v_iload_n K dX10_unit_11 rfl ?_
    refine v_bipushN K 40 rfl dX10_unit_12 ?_
    refine v_icmp_ne (tgt := 118) K dX10_unit_14 rfl (fun c7 => ?_) (fun c7 => ?_)
    · skip
      have eL : unitP bt n u 5 s = leafP bt n u s := by rw [unit_e5, if_neg c7, if_neg c1]
      refine v_aload_n K dX10_unit_118 rfl ?_
      refine v_iload_n K dX10_unit_119 rfl ?_
      refine v_callV (As := [.int (hereP bt n s)]) K (c_X10_nameOf h bt n B u nm s (hereP bt n s) hX hM) lX10_103 ck_X10 rfl sh_118 pl_118 rfl ⟨by decide, by decide⟩ (Nat.le_of_ble_eq_true rfl) dX10_unit_120 (fun r3 h3 hp3 => ?_) rfl
      obtain ⟨rfl, rfl⟩ := hp3
      refine v_some ?_
      refine v_nm (fun kk e_kk => ?_)
      refine v_istore_n (lv2 := [(2, .int kk), (1, .int (hereP bt n s)), (0, .ref 118)]) K dX10_unit_123 (by decide) rfl ?_
      refine v_iload_n K dX10_unit_124 rfl ?_
      refine v_if_lt (tgt := 145) K dX10_unit_125 rfl (fun c8 => ?_) (fun c8 => ?_)
      · skip
        have hno := nm_none (o := nameP u (hereP bt n s)) (fun j hj => Nat.lt_of_lt_of_le (name_lt hj) nn_le) (by rw [← e_kk]; exact c8)
        refine v_iconstN K 0 rfl dX10_unit_145 ?_
        refine v_istore_n (lv2 := [(3, .int (nI 0)), (2, .int kk), (1, .int (hereP bt n s)), (0, .ref 118)]) K dX10_unit_146 (by decide) rfl ?_
        refine v_iconstN K 0 rfl dX10_unit_147 ?_
        refine v_istore (lv2 := [(4, .int (nI 0)), (3, .int (nI 0)), (2, .int kk), (1, .int (hereP bt n s)), (0, .ref 118)]) K dX10_unit_148 (by decide) rfl ?_
        have L150 : ∀ (mm : Nat) (f : Nat) (m : Nat) (t : PSt) (v : Int32) (h1 : Mm) (hfm : f + m = 4) (hO1 : OKs n 5 t) (hM1 : PM h1 n t) (hF1 : FrP h h1) (he : (digP bt n 4 (nI 0) s) = ((digP bt n f v t).1, (digP bt n f v t).2.1 + m, (digP bt n f v t).2.2)), f < mm → V κ (QM κ (132, ρ, GL, 0, 0) (P_X10_unit_5 h bt n B u nm s)) 5 (132, ρ, GL, 0, 0) h1 150 [(0, .ref 118), (1, .int (hereP bt n s)), (2, .int kk), (3, .int v), (4, .int (nI m))] [] := by
          intro mm
          induction mm with
          | zero => intro f m t v h1 hfm hO1 hM1 hF1 he hmm; exact absurd hmm (Nat.not_lt_zero _)
          | succ mm ih150 =>
            intro f m t v h1 hfm hO1 hM1 hF1 he hmm
            have hX1 := PX.fr hX hF1
            have htn := hM1.2.1
            refine v_iload K dX10_unit_150 rfl ?_
            refine v_iconstN K 4 rfl dX10_unit_152 ?_
            refine v_icmpN_ge (tgt := 202) K (by omega) (by omega) dX10_unit_153 rfl (fun c9 => ?_) (fun c9 => ?_)
            · skip
              obtain rfl : f = 0 := by omega
              have eD : (digP bt n 4 (nI 0) s) = (v, m, t) := by rw [he, digP]; simp
              refine v_iload K dX10_unit_202 rfl ?_
              refine v_ifN_ne (tgt := 214) K (by omega) dX10_unit_204 rfl (fun c10 => ?_) (fun c10 => ?_)
              · skip
                refine v_iload_n K dX10_unit_214 rfl ?_
                refine v_iret K dX10_unit_215 ?_
                have e2 : (unitP bt n u 5) s = ([v], t) := by rw [eL, leafP, hno]; dsimp only; rw [eD]; exact if_neg (by show ¬ m = 0; omega)
                show (∃ v, _ ∧ (((unitP bt n u 5) s).2.2.1 = none → ∀ st, runL ((unitP bt n u 5) s).1 nm st = v :: st)) ∧ PM _ n ((unitP bt n u 5) s).2 ∧ _
                rw [e2]
                obtain ⟨a, ha, ea⟩ := dig_val (bt := bt) (n := n) 4 0 (nI 0) s (by omega) ⟨0, by decide, rfl⟩
                rw [eD] at ea
                have ea2 : v = nI a := ea
                subst ea2
                exact ⟨⟨_, rfl, fun _ st => run_num ha⟩, hM1, hF1⟩
              · skip
                refine v_aload_n K dX10_unit_207 rfl ?_
                refine v_callV (As := []) K (c_X10_wrong h1 bt n B u nm t hX1 hM1) lX10_97 ck_X10 rfl sh_118 pl_118 rfl ⟨by decide, by decide⟩ (Nat.le_of_ble_eq_true rfl) dX10_unit_208 (fun r4 h4 hp4 => ?_) rfl
                obtain ⟨rfl, hMq2, hFaq2⟩ := hp4
                have hFq2 := FrP.t hF1 hFaq2
                have hXq2 := PX.fr hX hFq2
                refine v_some ?_
                refine v_goto (tgt := 215) K dX10_unit_211 rfl ?_
                refine v_iret K dX10_unit_215 ?_
                have e2 : (unitP bt n u 5) s = ([], wrongP t) := by rw [eL, leafP, hno]; dsimp only; rw [eD]; exact if_pos (by show m = 0; omega)
                show (∃ v, _ ∧ (((unitP bt n u 5) s).2.2.1 = none → ∀ st, runL ((unitP bt n u 5) s).1 nm st = v :: st)) ∧ PM _ n ((unitP bt n u 5) s).2 ∧ _
                rw [e2]
                exact ⟨⟨_, rfl, fun q => absurd q wrong_some⟩, hMq2, hFq2⟩
            · skip
              obtain ⟨f, rfl⟩ : ∃ f0, f = f0 + 1 := ⟨f - 1, by omega⟩
              refine v_aload_n K dX10_unit_156 rfl ?_
              refine v_callV (As := []) K (c_X10_here h1 bt n B u nm t hX1 hM1) lX10_68 ck_X10 rfl sh_118 pl_118 rfl ⟨by decide, by decide⟩ (Nat.le_of_ble_eq_true rfl) dX10_unit_157 (fun r5 h5 hp5 => ?_) rfl
              obtain ⟨rfl, rfl⟩ := hp5
              refine v_some ?_
              refine v_i2l K dX10_unit_160 rfl ?_
              refine v_ldc2 K kX10_107 dX10_unit_161 ?_
              refine v_topL (y := (nI 48).toInt64) (by decide) ?_
              refine v_ldc2 K kX10_109 dX10_unit_164 ?_
              refine v_topL (y := (nI 57).toInt64) (by decide) ?_
              refine v_callS (As := [.long (hereP bt n t).toInt64, .long (nI 48).toInt64, .long (nI 57).toInt64]) K (c_X10_in h1 (hereP bt n t) (nI 48) (nI 57)) lX10_51 rfl ⟨by decide, by decide⟩ (Nat.le_of_ble_eq_true rfl) dX10_unit_167 (fun r6 h6 hp6 => ?_) rfl
              obtain ⟨rfl, rfl⟩ := hp6
              refine v_some ?_
              refine v_ifB_eq (tgt := 202) K dX10_unit_170 rfl (fun c11 => ?_) (fun c11 => ?_)
              · skip
                have eD : (digP bt n 4 (nI 0) s) = (v, m, t) := by rw [he, digP, if_neg c11]; simp
                refine v_iload K dX10_unit_202 rfl ?_
                refine v_ifN_ne (tgt := 214) K (by omega) dX10_unit_204 rfl (fun c12 => ?_) (fun c12 => ?_)
                · skip
                  refine v_iload_n K dX10_unit_214 rfl ?_
                  refine v_iret K dX10_unit_215 ?_
                  have e2 : (unitP bt n u 5) s = ([v], t) := by rw [eL, leafP, hno]; dsimp only; rw [eD]; exact if_neg (by show ¬ m = 0; omega)
                  show (∃ v, _ ∧ (((unitP bt n u 5) s).2.2.1 = none → ∀ st, runL ((unitP bt n u 5) s).1 nm st = v :: st)) ∧ PM _ n ((unitP bt n u 5) s).2 ∧ _
                  rw [e2]
                  obtain ⟨a, ha, ea⟩ := dig_val (bt := bt) (n := n) 4 0 (nI 0) s (by omega) ⟨0, by decide, rfl⟩
                  rw [eD] at ea
                  have ea2 : v = nI a := ea
                  subst ea2
                  exact ⟨⟨_, rfl, fun _ st => run_num ha⟩, hM1, hF1⟩
                · skip
                  refine v_aload_n K dX10_unit_207 rfl ?_
                  refine v_callV (As := []) K (c_X10_wrong h1 bt n B u nm t hX1 hM1) lX10_97 ck_X10 rfl sh_118 pl_118 rfl ⟨by decide, by decide⟩ (Nat.le_of_ble_eq_true rfl) dX10_unit_208 (fun r7 h7 hp7 => ?_) rfl
                  obtain ⟨rfl, hMq3, hFaq3⟩ := hp7
                  have hFq3 := FrP.t hF1 hFaq3
                  have hXq3 := PX.fr hX hFq3
                  refine v_some ?_
                  refine v_goto (tgt := 215) K dX10_unit_211 rfl ?_
                  refine v_iret K dX10_unit_215 ?_
                  have e2 : (unitP bt n u 5) s = ([], wrongP t) := by rw [eL, leafP, hno]; dsimp only; rw [eD]; exact if_pos (by show m = 0; omega)
                  show (∃ v, _ ∧ (((unitP bt n u 5) s).2.2.1 = none → ∀ st, runL ((unitP bt n u 5) s).1 nm st = v :: st)) ∧ PM _ n ((unitP bt n u 5) s).2 ∧ _
                  rw [e2]
                  exact ⟨⟨_, rfl, fun q => absurd q wrong_some⟩, hMq3, hFq3⟩
              · skip
                obtain ⟨hl1, hn1⟩ := hereP_lt (c := hereP bt n t) rfl (fun e => by rw [e] at c11; exact absurd c11.1 (by decide))
                refine v_bipushN K 10 rfl dX10_unit_173 ?_
                refine v_iload_n K dX10_unit_175 rfl ?_
                refine v_imul K dX10_unit_176 ?_
                refine v_aload_n K dX10_unit_177 rfl ?_
                refine v_callV (As := []) K (c_X10_here h1 bt n B u nm t hX1 hM1) lX10_68 ck_X10 rfl sh_118 pl_118 rfl ⟨by decide, by decide⟩ (Nat.le_of_ble_eq_true rfl) dX10_unit_178 (fun r8 h8 hp8 => ?_) rfl
                obtain ⟨rfl, rfl⟩ := hp8
                refine v_some ?_
                refine v_iadd K dX10_unit_181 ?_
                refine v_bipushN K 48 rfl dX10_unit_182 ?_
                refine v_isub K dX10_unit_184 ?_
                refine v_nm (fun x1 e_x1 => ?_)
                refine v_istore_n (lv2 := [(3, .int x1), (0, .ref 118), (1, .int (hereP bt n s)), (2, .int kk), (4, .int (nI m))]) K dX10_unit_185 (by decide) rfl ?_
                refine v_aload_n K dX10_unit_186 rfl ?_
                refine v_dup K dX10_unit_187 rfl ?_
                refine v_geti (x := nI t.1) K fX10_55 sh_118 pl_118 hM1.1.1 dX10_unit_188 ?_
                refine v_iconstN K 1 rfl dX10_unit_191 ?_
                refine v_iaddN K dX10_unit_192 ?_
                refine v_puti K pX10_55 sh_118 pl_118 dX10_unit_193 ?_
                have hMm4 : PM (u2 h1 118 6 (nI (t.1 + 1))) n (advP t) := hM1.adv hl1
                have hFm4 : FrP h (u2 h1 118 6 (nI (t.1 + 1))) := FrP.u hF1 (by omega)
                have hXm4 := PX.fr hX hFm4
                refine v_iincN (lv2 := [(4, .int (nI (m + 1))), (3, .int x1), (0, .ref 118), (1, .int (hereP bt n s)), (2, .int kk)]) K 1 dX10_unit_196 rfl rfl (by decide) rfl ?_
                refine v_goto (tgt := 150) K dX10_unit_199 rfl ?_
                refine v_sub (lv2 := [(0, .ref 118), (1, .int (hereP bt n s)), (2, .int kk), (3, .int x1), (4, .int (nI (m + 1)))]) (by simp) ?_
                exact ih150 f (m + 1) ((advP t)) x1 ((u2 h1 118 6 (nI (t.1 + 1)))) (by omega) (by exact hO1.adv hl1) (by exact hMm4) (by exact hFm4) (by rw [he, digP, if_pos c11, ← e_x1]; exact Prod.ext rfl (Prod.ext (by show _ + 1 + m = _ + (m + 1); omega) rfl)) (by omega)
        refine v_sub (lv2 := [(0, .ref 118), (1, .int (hereP bt n s)), (2, .int kk), (3, .int (nI 0)), (4, .int (nI 0))]) (by simp) ?_
        exact L150 (4 + 1) 4 0 s (nI 0) h (by rfl) (by exact hO) (by exact hM) (by exact (FrP.r (h := h))) (by rfl) (Nat.lt_succ_self _)
      · skip
        obtain ⟨j, hj⟩ := nm_some (o := nameP u (hereP bt n s)) (by rw [← e_kk]; exact c8)
        have hj5 : j < 5 := Nat.lt_of_lt_of_le (name_lt hj) nn_le
        rw [hj] at e_kk
        subst e_kk
        obtain ⟨hl0, hn0⟩ := hereP_lt (c := hereP bt n s) rfl (name_ne hj)
        show V κ (QM κ (132, ρ, GL, 0, 0) (P_X10_unit_5 h bt n B u nm s)) 5 (132, ρ, GL, 0, 0) h 128 [(2, .int (nI j)), (1, .int (hereP bt n s)), (0, .ref 118)] []
        refine v_aload_n K dX10_unit_128 rfl ?_
        refine v_dup K dX10_unit_129 rfl ?_
        refine v_geti (x := nI s.1) K fX10_55 sh_118 pl_118 hM.1.1 dX10_unit_130 ?_
        refine v_iconstN K 1 rfl dX10_unit_133 ?_
        refine v_iaddN K dX10_unit_134 ?_
        refine v_puti K pX10_55 sh_118 pl_118 dX10_unit_135 ?_
        have hMm5 : PM (u2 h 118 6 (nI (s.1 + 1))) n (advP s) := hM.adv hl0
        have hFm5 : FrP h (u2 h 118 6 (nI (s.1 + 1))) := FrP.u (FrP.r (h := h)) (by omega)
        have hXm5 := PX.fr hX hFm5
        refine v_aload_n K dX10_unit_138 rfl ?_
        refine v_getr (q := 123) K fX10_22 sh_118 pl_118 gl_118_11 dX10_unit_139 ?_
        refine v_iload_n K dX10_unit_142 rfl ?_
        refine v_iald (x := nm j) K sh_123 pl_123 (by omega) (hXm5.2.2.2.2.2.2.2 j (by omega)) dX10_unit_143 ?_
        refine v_iret K dX10_unit_144 ?_
        have e2 : (unitP bt n u 5) s = ([(-1) - nI j], advP s) := by rw [eL, leafP, hj]
        show (∃ v, _ ∧ (((unitP bt n u 5) s).2.2.1 = none → ∀ st, runL ((unitP bt n u 5) s).1 nm st = v :: st)) ∧ PM _ n ((unitP bt n u 5) s).2 ∧ _
        rw [e2]
        exact ⟨⟨_, rfl, fun _ st => run_name hj5⟩, hMm5, hFm5⟩
    · skip
      have eo : hereP bt n s = nI 40 := c7
      obtain ⟨hl0, hn0⟩ := hereP_lt eo (nI_m1 (by decide))
      refine v_aload_n K dX10_unit_17 rfl ?_
      refine v_geti (x := nI s.2.2) K fX10_94 sh_118 pl_118 hM.1.2.2 dX10_unit_18 ?_
      refine v_iconstN K 5 rfl dX10_unit_21 ?_
      refine v_icmpN_ne (tgt := 30) K (by omega) (by omega) dX10_unit_22 rfl (fun c13 => ?_) (fun c13 => ?_)
      · skip
        refine v_aload_n K dX10_unit_30 rfl ?_
        refine v_dup K dX10_unit_31 rfl ?_
        refine v_geti (x := nI s.2.2) K fX10_94 sh_118 pl_118 hM.1.2.2 dX10_unit_32 ?_
        refine v_iconstN K 1 rfl dX10_unit_35 ?_
        refine v_iaddN K dX10_unit_36 ?_
        refine v_puti K pX10_94 sh_118 pl_118 dX10_unit_37 ?_
        have hMm6 : PM (u2 h 118 9 (nI (s.2.2 + 1))) n (openP s) := hM.opn (by have := hO.2.2; omega)
        have hFm6 : FrP h (u2 h 118 9 (nI (s.2.2 + 1))) := FrP.u (FrP.r (h := h)) (by omega)
        have hXm6 := PX.fr hX hFm6
        refine v_aload_n K dX10_unit_40 rfl ?_
        refine v_dup K dX10_unit_41 rfl ?_
        refine v_geti (x := nI ((openP s).1)) K fX10_55 sh_118 pl_118 hMm6.1.1 dX10_unit_42 ?_
        refine v_iconstN K 1 rfl dX10_unit_45 ?_
        refine v_iaddN K dX10_unit_46 ?_
        refine v_puti K pX10_55 sh_118 pl_118 dX10_unit_47 ?_
        have hMm7 : PM (u2 (u2 h 118 9 (nI (s.2.2 + 1))) 118 6 (nI ((openP s).1 + 1))) n (advP (openP s)) := hMm6.adv hl0
        have hFm7 : FrP h (u2 (u2 h 118 9 (nI (s.2.2 + 1))) 118 6 (nI ((openP s).1 + 1))) := FrP.u hFm6 (by omega)
        have hXm7 := PX.fr hX hFm7
        refine v_iload_n K dX10_unit_50 rfl ?_
        refine v_bipushN K 40 rfl dX10_unit_51 ?_
        refine v_icmp_ne (tgt := 63) K dX10_unit_53 rfl (fun c14 => ?_) (fun c14 => ?_)
        · skip
          exact absurd eo c14
        · skip
          refine v_aload_n K dX10_unit_56 rfl ?_
          refine v_callV (As := []) K (c_X10_either_4 ((u2 (u2 h 118 9 (nI (s.2.2 + 1))) 118 6 (nI ((openP s).1 + 1)))) bt n B u nm ((advP (openP s))) hXm7 hMm7 ⟨hl0, hn0, by show s.2.2 + 1 + 4 = 5; have := hO.2.2; omega⟩) lX10_100 ck_X10 rfl sh_118 pl_118 rfl ⟨by decide, by decide⟩ (Nat.le_of_ble_eq_true rfl) dX10_unit_57 (fun r9 h9 hp9 => ?_) rfl
          obtain ⟨⟨v2, rfl, hvq4⟩, hMq4, hFaq4⟩ := hp9
          have hFq4 := FrP.t hFm7 hFaq4
          have hXq4 := PX.fr hX hFq4
          have hGq4 : GP n (advP (openP s)) ((eitherP bt n (unitP bt n u 4)) (advP (openP s))).2 := (either_good (unit_good (bt := bt) (n := n) (u := u) 4)) _ ⟨hl0, hn0, by show s.2.2 + 1 + 4 = 5; have := hO.2.2; omega⟩
          refine v_some ?_
          refine v_goto (tgt := 67) K dX10_unit_60 rfl ?_
          have hG1 := hGq4
          have hv1 := hvq4
          have ho1 : s.2.2 + 1 ≤ ((eitherP bt n (unitP bt n u 4)) (advP (openP s))).2.2.2 := hG1.2.2.2.1
          refine v_istore_n (lv2 := [(2, .int v2), (1, .int (hereP bt n s)), (0, .ref 118)]) K dX10_unit_67 (by decide) rfl ?_
          refine v_iload_n K dX10_unit_68 rfl ?_
          refine v_bipushN K 40 rfl dX10_unit_69 ?_
          refine v_icmp_ne (tgt := 88) K dX10_unit_71 rfl (fun c15 => ?_) (fun c15 => ?_)
          · skip
            exact absurd eo c15
          · skip
            refine v_aload_n K dX10_unit_74 rfl ?_
            refine v_bipushN K 41 rfl dX10_unit_75 ?_
            refine v_callV (As := [.int (nI 41)]) K (c_X10_takes h9 bt n B u nm (((eitherP bt n (unitP bt n u 4)) (advP (openP s))).2) 41 hXq4 hMq4 (by decide)) lX10_78 ck_X10 rfl sh_118 pl_118 rfl ⟨by decide, by decide⟩ (Nat.le_of_ble_eq_true rfl) dX10_unit_77 (fun r10 h10 hp10 => ?_) rfl
            obtain ⟨rfl, hMq5, hFaq5⟩ := hp10
            have hFq5 := FrP.t hFq4 hFaq5
            have hXq5 := PX.fr hX hFq5
            refine v_some ?_
            refine v_ifB_ne (tgt := 88) K dX10_unit_80 rfl (fun c16 => ?_) (fun c16 => ?_)
            · skip
              rw [tk_y c16] at hMq5
              refine v_aload_n K dX10_unit_88 rfl ?_
              refine v_dup K dX10_unit_89 rfl ?_
              refine v_geti (x := nI ((advP ((eitherP bt n (unitP bt n u 4)) (advP (openP s))).2).2.2)) K fX10_94 sh_118 pl_118 hMq5.1.2.2 dX10_unit_90 ?_
              refine v_iconstN K 1 rfl dX10_unit_93 ?_
              refine v_isubN K (by first | exact Nat.le_trans (Nat.succ_le_succ (Nat.zero_le _)) ho1 | (have := ho1; omega)) dX10_unit_94 ?_
              refine v_puti K pX10_94 sh_118 pl_118 dX10_unit_95 ?_
              have hMm8 : PM (u2 h10 118 9 (nI ((advP ((eitherP bt n (unitP bt n u 4)) (advP (openP s))).2).2.2 - 1))) n (closeP (advP ((eitherP bt n (unitP bt n u 4)) (advP (openP s))).2)) := hMq5.cls
              have hFm8 : FrP h (u2 h10 118 9 (nI ((advP ((eitherP bt n (unitP bt n u 4)) (advP (openP s))).2).2.2 - 1))) := FrP.u hFq5 (by omega)
              have hXm8 := PX.fr hX hFm8
              refine v_iload_n K dX10_unit_98 rfl ?_
              refine v_bipushN K 40 rfl dX10_unit_99 ?_
              refine v_icmp_ne (tgt := 108) K dX10_unit_101 rfl (fun c17 => ?_) (fun c17 => ?_)
              · skip
                exact absurd eo c17
              · skip
                refine v_iload_n K dX10_unit_104 rfl ?_
                refine v_goto (tgt := 117) K dX10_unit_105 rfl ?_
                refine v_iret K dX10_unit_117 ?_
                have e2 : (unitP bt n u 5) s = (((eitherP bt n (unitP bt n u 4)) (advP (openP s))).1, closeP (advP ((eitherP bt n (unitP bt n u 4)) (advP (openP s))).2)) := by rw [unit_e5, if_pos eo, if_pos c16]
                show (∃ v, _ ∧ (((unitP bt n u 5) s).2.2.1 = none → ∀ st, runL ((unitP bt n u 5) s).1 nm st = v :: st)) ∧ PM _ n ((unitP bt n u 5) s).2 ∧ _
                rw [e2]
                exact ⟨⟨_, rfl, fun q => hv1 q⟩, hMm8, hFm8⟩
            · skip
              rw [tk_n c16] at hMq5
              refine v_aload_n K dX10_unit_83 rfl ?_
              refine v_callV (As := []) K (c_X10_wrong h10 bt n B u nm (((eitherP bt n (unitP bt n u 4)) (advP (openP s))).2) hXq5 hMq5) lX10_97 ck_X10 rfl sh_118 pl_118 rfl ⟨by decide, by decide⟩ (Nat.le_of_ble_eq_true rfl) dX10_unit_84 (fun r11 h11 hp11 => ?_) rfl
              obtain ⟨rfl, hMq6, hFaq6⟩ := hp11
              have hFq6 := FrP.t hFq5 hFaq6
              have hXq6 := PX.fr hX hFq6
              refine v_some ?_
              refine v_iret K dX10_unit_87 ?_
              have e2 : (unitP bt n u 5) s = ([], wrongP ((eitherP bt n (unitP bt n u 4)) (advP (openP s))).2) := by rw [unit_e5, if_pos eo, if_neg c16]
              show (∃ v, _ ∧ (((unitP bt n u 5) s).2.2.1 = none → ∀ st, runL ((unitP bt n u 5) s).1 nm st = v :: st)) ∧ PM _ n ((unitP bt n u 5) s).2 ∧ _
              rw [e2]
              exact ⟨⟨_, rfl, fun q => absurd q wrong_some⟩, hMq6, hFq6⟩
      · skip
        exfalso; have := hO.2.2; omega

abbrev P_X10_product_5 (h : Mm) (bt : Nat → Int32) (n B u : Nat) (nm : Nat → Int32) (s : PSt) : Option Value → Mm → Prop := fun r h2 => (∃ v, r = some (.int v) ∧ (((prodP bt n (unitP bt n u 5)) s).2.2.1 = none → ∀ st, runL ((prodP bt n (unitP bt n u 5)) s).1 nm st = v :: st)) ∧ PM h2 n ((prodP bt n (unitP bt n u 5)) s).2 ∧ FrP h h2
theorem c_X10_product_5 {l : Launch} (h : Mm) (bt : Nat → Int32) (n B u : Nat) (nm : Nat → Int32) (s : PSt) (hX : PX h bt n B u nm) (hM : PM h n s) (hO : OKs n 5 s) : Con l yX10_product cX10_product 4 (some .int) 32 734 132 GL h [.ref 118] (P_X10_product_5 h bt n B u nm s) := by
  refine Con.ofV (own := "FoxRoundsModel") (nm := "product") rfl rfl (by decide) (Nat.le_of_ble_eq_true rfl) ?_
  intro κ ρ hkl K
  subst hkl
  show V κ (QM κ (132, ρ, GL, 0, 0) (P_X10_product_5 h bt n B u nm s)) 4 (132, ρ, GL, 0, 0) h 0 [(0, .ref 118)] []
  have hn50 := hX.2.2.2.2.2.1
  have hBn := hX.2.2.2.2.1
  have hsn := hM.2.1
  have hs5 := hM.2.2.1
  refine v_aload_n K dX10_product_0 rfl ?_
  refine v_callV (As := []) K (c_X10_unit_5 h bt n B u nm s hX hM hO) lX10_91 ck_X10 rfl sh_118 pl_118 rfl ⟨by decide, by decide⟩ (Nat.le_of_ble_eq_true rfl) dX10_product_1 (fun r1 h1 hp1 => ?_) rfl
  obtain ⟨⟨v1, rfl, hvq1⟩, hMq1, hFaq1⟩ := hp1
  have hFq1 := FrP.t (FrP.r (h := h)) hFaq1
  have hXq1 := PX.fr hX hFq1
  have hGq1 : GP n s ((unitP bt n u 5) s).2 := (unit_good (bt := bt) (n := n) (u := u) 5) _ hO
  refine v_some ?_
  refine v_istore_n (lv2 := [(1, .int v1), (0, .ref 118)]) K dX10_product_4 (by decide) rfl ?_
  have L5 : ∀ (mm : Nat) (f : Nat) (cs : List Int32) (t : PSt) (v : Int32) (h1 : Mm) (hG : GP n s t) (hM1 : PM h1 n t) (hF1 : FrP h h1) (hv : t.2.1 = none → ∀ st, runL cs nm st = v :: st) (he : (prodP bt n (unitP bt n u 5)) s = loopP bt n [nI 42, nI 47, nI 37] (unitP bt n u 5) f cs t) (hfu : n + 1 ≤ f + t.1), f < mm → V κ (QM κ (132, ρ, GL, 0, 0) (P_X10_product_5 h bt n B u nm s)) 4 (132, ρ, GL, 0, 0) h1 5 [(0, .ref 118), (1, .int v)] [] := by
    intro mm
    induction mm with
    | zero => intro f cs t v h1 hG hM1 hF1 hv he hfu hmm; exact absurd hmm (Nat.not_lt_zero _)
    | succ mm ih5 =>
      intro f cs t v h1 hG hM1 hF1 hv he hfu hmm
      have hX1 := PX.fr hX hF1
      have htn := hM1.2.1
      have ht5 := hM1.2.2.1
      obtain ⟨f, rfl⟩ : ∃ f0, f = f0 + 1 := ⟨f - 1, by omega⟩
      refine v_aload_n K dX10_product_5 rfl ?_
      refine v_callV (As := []) K (c_X10_here h1 bt n B u nm t hX1 hM1) lX10_68 ck_X10 rfl sh_118 pl_118 rfl ⟨by decide, by decide⟩ (Nat.le_of_ble_eq_true rfl) dX10_product_6 (fun r2 h2 hp2 => ?_) rfl
      obtain ⟨rfl, rfl⟩ := hp2
      refine v_some ?_
      refine v_bipushN K 42 rfl dX10_product_9 ?_
      refine v_icmp_eq (tgt := 32) K dX10_product_11 rfl (fun c1 => ?_) (fun c1 => ?_)
      · skip
        have eo : hereP bt n t = nI 42 := c1
        obtain ⟨hl0, hn0⟩ := hereP_lt eo (nI_m1 (by decide))
        have hG0 := hG
        refine v_aload_n K dX10_product_32 rfl ?_
        refine v_callV (As := []) K (c_X10_here h1 bt n B u nm t hX1 hM1) lX10_68 ck_X10 rfl sh_118 pl_118 rfl ⟨by decide, by decide⟩ (Nat.le_of_ble_eq_true rfl) dX10_product_33 (fun r3 h3 hp3 => ?_) rfl
        obtain ⟨rfl, rfl⟩ := hp3
        refine v_some ?_
        refine v_istore_n (lv2 := [(2, .int (hereP bt n t)), (0, .ref 118), (1, .int v)]) K dX10_product_36 (by decide) rfl ?_
        refine v_aload_n K dX10_product_37 rfl ?_
        refine v_dup K dX10_product_38 rfl ?_
        refine v_geti (x := nI t.1) K fX10_55 sh_118 pl_118 hM1.1.1 dX10_product_39 ?_
        refine v_iconstN K 1 rfl dX10_product_42 ?_
        refine v_iaddN K dX10_product_43 ?_
        refine v_puti K pX10_55 sh_118 pl_118 dX10_product_44 ?_
        have hMm1 : PM (u2 h1 118 6 (nI (t.1 + 1))) n (advP t) := hM1.adv hl0
        have hFm1 : FrP h (u2 h1 118 6 (nI (t.1 + 1))) := FrP.u hF1 (by omega)
        have hXm1 := PX.fr hX hFm1
        refine v_aload_n K dX10_product_47 rfl ?_
        refine v_callV (As := []) K (c_X10_unit_5 ((u2 h1 118 6 (nI (t.1 + 1)))) bt n B u nm ((advP t)) hXm1 hMm1 ((hO.on hG0 hn0).adv hl0)) lX10_91 ck_X10 rfl sh_118 pl_118 rfl ⟨by decide, by decide⟩ (Nat.le_of_ble_eq_true rfl) dX10_product_48 (fun r4 h4 hp4 => ?_) rfl
        obtain ⟨⟨v2, rfl, hvq2⟩, hMq2, hFaq2⟩ := hp4
        have hFq2 := FrP.t hFm1 hFaq2
        have hXq2 := PX.fr hX hFq2
        have hGq2 : GP n (advP t) ((unitP bt n u 5) (advP t)).2 := (unit_good (bt := bt) (n := n) (u := u) 5) _ ((hO.on hG0 hn0).adv hl0)
        refine v_some ?_
        refine v_istore_n (lv2 := [(3, .int v2), (2, .int (hereP bt n t)), (0, .ref 118), (1, .int v)]) K dX10_product_51 (by decide) rfl ?_
        refine v_iload_n K dX10_product_52 rfl ?_
        refine v_bipushN K 42 rfl dX10_product_53 ?_
        refine v_icmp_ne (tgt := 64) K dX10_product_55 rfl (fun c2 => ?_) (fun c2 => ?_)
        · skip
          exact absurd eo c2
        · skip
          refine v_iload_n K dX10_product_58 rfl ?_
          refine v_iload_n K dX10_product_59 rfl ?_
          refine v_imul K dX10_product_60 ?_
          refine v_goto (tgt := 87) K dX10_product_61 rfl ?_
          refine v_top (y := joinR (nI 42) v v2) (by rw [j42]) ?_
          refine v_istore_n (lv2 := [(1, .int (joinR (nI 42) v v2)), (3, .int v2), (2, .int (hereP bt n t)), (0, .ref 118)]) K dX10_product_87 (by decide) rfl ?_
          refine v_goto (tgt := 5) K dX10_product_88 rfl ?_
          refine v_sub (lv2 := [(0, .ref 118), (1, .int (joinR (nI 42) v v2))]) (by simp) ?_
          exact ih5 f ((cs ++ ((unitP bt n u 5) (advP t)).1 ++ [-hereP bt n t])) (((unitP bt n u 5) (advP t)).2) (joinR (nI 42) v v2) h4 (by exact hG0.tr hn0 ((GP.adv (hO.on hG0 hn0) hl0).tr hn0 hGq2)) (by exact hMq2) (by exact hFq2) (by intro hn2; rw [eo]; exact val_on (by decide) (hv hn0) (hvq2 hn2) rfl) (by rw [he, loop_on (by rw [eo]; decide)]) (by have h1 : (advP t).1 = t.1 + 1 := rfl; have h2 := hGq2.1; omega) (by omega)
      · skip
        refine v_aload_n K dX10_product_14 rfl ?_
        refine v_callV (As := []) K (c_X10_here h1 bt n B u nm t hX1 hM1) lX10_68 ck_X10 rfl sh_118 pl_118 rfl ⟨by decide, by decide⟩ (Nat.le_of_ble_eq_true rfl) dX10_product_15 (fun r5 h5 hp5 => ?_) rfl
        obtain ⟨rfl, rfl⟩ := hp5
        refine v_some ?_
        refine v_bipushN K 47 rfl dX10_product_18 ?_
        refine v_icmp_eq (tgt := 32) K dX10_product_20 rfl (fun c3 => ?_) (fun c3 => ?_)
        · skip
          have eo : hereP bt n t = nI 47 := c3
          obtain ⟨hl0, hn0⟩ := hereP_lt eo (nI_m1 (by decide))
          have hG0 := hG
          refine v_aload_n K dX10_product_32 rfl ?_
          refine v_callV (As := []) K (c_X10_here h1 bt n B u nm t hX1 hM1) lX10_68 ck_X10 rfl sh_118 pl_118 rfl ⟨by decide, by decide⟩ (Nat.le_of_ble_eq_true rfl) dX10_product_33 (fun r6 h6 hp6 => ?_) rfl
          obtain ⟨rfl, rfl⟩ := hp6
          refine v_some ?_
          refine v_istore_n (lv2 := [(2, .int (hereP bt n t)), (0, .ref 118), (1, .int v)]) K dX10_product_36 (by decide) rfl ?_
          refine v_aload_n K dX10_product_37 rfl ?_
          refine v_dup K dX10_product_38 rfl ?_
          refine v_geti (x := nI t.1) K fX10_55 sh_118 pl_118 hM1.1.1 dX10_product_39 ?_
          refine v_iconstN K 1 rfl dX10_product_42 ?_
          refine v_iaddN K dX10_product_43 ?_
          refine v_puti K pX10_55 sh_118 pl_118 dX10_product_44 ?_
          have hMm2 : PM (u2 h1 118 6 (nI (t.1 + 1))) n (advP t) := hM1.adv hl0
          have hFm2 : FrP h (u2 h1 118 6 (nI (t.1 + 1))) := FrP.u hF1 (by omega)
          have hXm2 := PX.fr hX hFm2
          refine v_aload_n K dX10_product_47 rfl ?_
          refine v_callV (As := []) K (c_X10_unit_5 ((u2 h1 118 6 (nI (t.1 + 1)))) bt n B u nm ((advP t)) hXm2 hMm2 ((hO.on hG0 hn0).adv hl0)) lX10_91 ck_X10 rfl sh_118 pl_118 rfl ⟨by decide, by decide⟩ (Nat.le_of_ble_eq_true rfl) dX10_product_48 (fun r7 h7 hp7 => ?_) rfl
          obtain ⟨⟨v3, rfl, hvq3⟩, hMq3, hFaq3⟩ := hp7
          have hFq3 := FrP.t hFm2 hFaq3
          have hXq3 := PX.fr hX hFq3
          have hGq3 : GP n (advP t) ((unitP bt n u 5) (advP t)).2 := (unit_good (bt := bt) (n := n) (u := u) 5) _ ((hO.on hG0 hn0).adv hl0)
          refine v_some ?_
          refine v_istore_n (lv2 := [(3, .int v3), (2, .int (hereP bt n t)), (0, .ref 118), (1, .int v)]) K dX10_product_51 (by decide) rfl ?_
          refine v_iload_n K dX10_product_52 rfl ?_
          refine v_bipushN K 42 rfl dX10_product_53 ?_
          refine v_icmp_ne (tgt := 64) K dX10_product_55 rfl (fun c4 => ?_) (fun c4 => ?_)
          · skip
            refine v_iload_n K dX10_product_64 rfl ?_
            refine v_if_ne (tgt := 72) K dX10_product_65 rfl (fun c5 => ?_) (fun c5 => ?_)
            · skip
              refine v_iload_n K dX10_product_72 rfl ?_
              refine v_bipushN K 47 rfl dX10_product_73 ?_
              refine v_icmp_ne (tgt := 84) K dX10_product_75 rfl (fun c6 => ?_) (fun c6 => ?_)
              · skip
                exact absurd eo c6
              · skip
                refine v_iload_n K dX10_product_78 rfl ?_
                refine v_iload_n K dX10_product_79 rfl ?_
                refine v_idiv K dX10_product_80 (by assumption) ?_
                refine v_goto (tgt := 87) K dX10_product_81 rfl ?_
                refine v_top (y := joinR (nI 47) v v3) (by rw [j47, if_neg c5]) ?_
                refine v_istore_n (lv2 := [(1, .int (joinR (nI 47) v v3)), (3, .int v3), (2, .int (hereP bt n t)), (0, .ref 118)]) K dX10_product_87 (by decide) rfl ?_
                refine v_goto (tgt := 5) K dX10_product_88 rfl ?_
                refine v_sub (lv2 := [(0, .ref 118), (1, .int (joinR (nI 47) v v3))]) (by simp) ?_
                exact ih5 f ((cs ++ ((unitP bt n u 5) (advP t)).1 ++ [-hereP bt n t])) (((unitP bt n u 5) (advP t)).2) (joinR (nI 47) v v3) h7 (by exact hG0.tr hn0 ((GP.adv (hO.on hG0 hn0) hl0).tr hn0 hGq3)) (by exact hMq3) (by exact hFq3) (by intro hn2; rw [eo]; exact val_on (by decide) (hv hn0) (hvq3 hn2) rfl) (by rw [he, loop_on (by rw [eo]; decide)]) (by have h1 : (advP t).1 = t.1 + 1 := rfl; have h2 := hGq3.1; omega) (by omega)
            · skip
              refine v_iconstN K 0 rfl dX10_product_68 ?_
              refine v_goto (tgt := 87) K dX10_product_69 rfl ?_
              refine v_top (y := joinR (nI 47) v v3) (by rw [j47, if_pos c5]) ?_
              refine v_istore_n (lv2 := [(1, .int (joinR (nI 47) v v3)), (3, .int v3), (2, .int (hereP bt n t)), (0, .ref 118)]) K dX10_product_87 (by decide) rfl ?_
              refine v_goto (tgt := 5) K dX10_product_88 rfl ?_
              refine v_sub (lv2 := [(0, .ref 118), (1, .int (joinR (nI 47) v v3))]) (by simp) ?_
              exact ih5 f ((cs ++ ((unitP bt n u 5) (advP t)).1 ++ [-hereP bt n t])) (((unitP bt n u 5) (advP t)).2) (joinR (nI 47) v v3) h7 (by exact hG0.tr hn0 ((GP.adv (hO.on hG0 hn0) hl0).tr hn0 hGq3)) (by exact hMq3) (by exact hFq3) (by intro hn2; rw [eo]; exact val_on (by decide) (hv hn0) (hvq3 hn2) rfl) (by rw [he, loop_on (by rw [eo]; decide)]) (by have h1 : (advP t).1 = t.1 + 1 := rfl; have h2 := hGq3.1; omega) (by omega)
          · skip
            exact absurd (c4.symm.trans eo) (by decide)
        · skip
          refine v_aload_n K dX10_product_23 rfl ?_
          refine v_callV (As := []) K (c_X10_here h1 bt n B u nm t hX1 hM1) lX10_68 ck_X10 rfl sh_118 pl_118 rfl ⟨by decide, by decide⟩ (Nat.le_of_ble_eq_true rfl) dX10_product_24 (fun r8 h8 hp8 => ?_) rfl
          obtain ⟨rfl, rfl⟩ := hp8
          refine v_some ?_
          refine v_bipushN K 37 rfl dX10_product_27 ?_
          refine v_icmp_ne (tgt := 91) K dX10_product_29 rfl (fun c7 => ?_) (fun c7 => ?_)
          · skip
            refine v_iload_n K dX10_product_91 rfl ?_
            refine v_iret K dX10_product_92 ?_
            have e2 : (prodP bt n (unitP bt n u 5)) s = (cs, t) := by rw [he, loop_off (by simp only [List.mem_cons, List.not_mem_nil, or_false, not_or]; exact ⟨c1, c3, c7⟩)]
            show (∃ v, _ ∧ (((prodP bt n (unitP bt n u 5)) s).2.2.1 = none → ∀ st, runL ((prodP bt n (unitP bt n u 5)) s).1 nm st = v :: st)) ∧ PM _ n ((prodP bt n (unitP bt n u 5)) s).2 ∧ _
            rw [e2]
            exact ⟨⟨v, rfl, hv⟩, hM1, hF1⟩
          · skip
            have eo : hereP bt n t = nI 37 := c7
            obtain ⟨hl0, hn0⟩ := hereP_lt eo (nI_m1 (by decide))
            have hG0 := hG
            refine v_aload_n K dX10_product_32 rfl ?_
            refine v_callV (As := []) K (c_X10_here h1 bt n B u nm t hX1 hM1) lX10_68 ck_X10 rfl sh_118 pl_118 rfl ⟨by decide, by decide⟩ (Nat.le_of_ble_eq_true rfl) dX10_product_33 (fun r9 h9 hp9 => ?_) rfl
            obtain ⟨rfl, rfl⟩ := hp9
            refine v_some ?_
            refine v_istore_n (lv2 := [(2, .int (hereP bt n t)), (0, .ref 118), (1, .int v)]) K dX10_product_36 (by decide) rfl ?_
            refine v_aload_n K dX10_product_37 rfl ?_
            refine v_dup K dX10_product_38 rfl ?_
            refine v_geti (x := nI t.1) K fX10_55 sh_118 pl_118 hM1.1.1 dX10_product_39 ?_
            refine v_iconstN K 1 rfl dX10_product_42 ?_
            refine v_iaddN K dX10_product_43 ?_
            refine v_puti K pX10_55 sh_118 pl_118 dX10_product_44 ?_
            have hMm3 : PM (u2 h1 118 6 (nI (t.1 + 1))) n (advP t) := hM1.adv hl0
            have hFm3 : FrP h (u2 h1 118 6 (nI (t.1 + 1))) := FrP.u hF1 (by omega)
            have hXm3 := PX.fr hX hFm3
            refine v_aload_n K dX10_product_47 rfl ?_
            refine v_callV (As := []) K (c_X10_unit_5 ((u2 h1 118 6 (nI (t.1 + 1)))) bt n B u nm ((advP t)) hXm3 hMm3 ((hO.on hG0 hn0).adv hl0)) lX10_91 ck_X10 rfl sh_118 pl_118 rfl ⟨by decide, by decide⟩ (Nat.le_of_ble_eq_true rfl) dX10_product_48 (fun r10 h10 hp10 => ?_) rfl
            obtain ⟨⟨v4, rfl, hvq4⟩, hMq4, hFaq4⟩ := hp10
            have hFq4 := FrP.t hFm3 hFaq4
            have hXq4 := PX.fr hX hFq4
            have hGq4 : GP n (advP t) ((unitP bt n u 5) (advP t)).2 := (unit_good (bt := bt) (n := n) (u := u) 5) _ ((hO.on hG0 hn0).adv hl0)
            refine v_some ?_
            refine v_istore_n (lv2 := [(3, .int v4), (2, .int (hereP bt n t)), (0, .ref 118), (1, .int v)]) K dX10_product_51 (by decide) rfl ?_
            refine v_iload_n K dX10_product_52 rfl ?_
            refine v_bipushN K 42 rfl dX10_product_53 ?_
            refine v_icmp_ne (tgt := 64) K dX10_product_55 rfl (fun c8 => ?_) (fun c8 => ?_)
            · skip
              refine v_iload_n K dX10_product_64 rfl ?_
              refine v_if_ne (tgt := 72) K dX10_product_65 rfl (fun c9 => ?_) (fun c9 => ?_)
              · skip
                refine v_iload_n K dX10_product_72 rfl ?_
                refine v_bipushN K 47 rfl dX10_product_73 ?_
                refine v_icmp_ne (tgt := 84) K dX10_product_75 rfl (fun c10 => ?_) (fun c10 => ?_)
                · skip
                  refine v_iload_n K dX10_product_84 rfl ?_
                  refine v_iload_n K dX10_product_85 rfl ?_
                  refine v_irem K dX10_product_86 (by assumption) ?_
                  refine v_top (y := joinR (nI 37) v v4) (by rw [j37, if_neg c9]) ?_
                  refine v_istore_n (lv2 := [(1, .int (joinR (nI 37) v v4)), (3, .int v4), (2, .int (hereP bt n t)), (0, .ref 118)]) K dX10_product_87 (by decide) rfl ?_
                  refine v_goto (tgt := 5) K dX10_product_88 rfl ?_
                  refine v_sub (lv2 := [(0, .ref 118), (1, .int (joinR (nI 37) v v4))]) (by simp) ?_
                  exact ih5 f ((cs ++ ((unitP bt n u 5) (advP t)).1 ++ [-hereP bt n t])) (((unitP bt n u 5) (advP t)).2) (joinR (nI 37) v v4) h10 (by exact hG0.tr hn0 ((GP.adv (hO.on hG0 hn0) hl0).tr hn0 hGq4)) (by exact hMq4) (by exact hFq4) (by intro hn2; rw [eo]; exact val_on (by decide) (hv hn0) (hvq4 hn2) rfl) (by rw [he, loop_on (by rw [eo]; decide)]) (by have h1 : (advP t).1 = t.1 + 1 := rfl; have h2 := hGq4.1; omega) (by omega)
                · skip
                  exact absurd (c10.symm.trans eo) (by decide)
              · skip
                refine v_iconstN K 0 rfl dX10_product_68 ?_
                refine v_goto (tgt := 87) K dX10_product_69 rfl ?_
                refine v_top (y := joinR (nI 37) v v4) (by rw [j37, if_pos c9]) ?_
                refine v_istore_n (lv2 := [(1, .int (joinR (nI 37) v v4)), (3, .int v4), (2, .int (hereP bt n t)), (0, .ref 118)]) K dX10_product_87 (by decide) rfl ?_
                refine v_goto (tgt := 5) K dX10_product_88 rfl ?_
                refine v_sub (lv2 := [(0, .ref 118), (1, .int (joinR (nI 37) v v4))]) (by simp) ?_
                exact ih5 f ((cs ++ ((unitP bt n u 5) (advP t)).1 ++ [-hereP bt n t])) (((unitP bt n u 5) (advP t)).2) (joinR (nI 37) v v4) h10 (by exact hG0.tr hn0 ((GP.adv (hO.on hG0 hn0) hl0).tr hn0 hGq4)) (by exact hMq4) (by exact hFq4) (by intro hn2; rw [eo]; exact val_on (by decide) (hv hn0) (hvq4 hn2) rfl) (by rw [he, loop_on (by rw [eo]; decide)]) (by have h1 : (advP t).1 = t.1 + 1 := rfl; have h2 := hGq4.1; omega) (by omega)
            · skip
              exact absurd (c8.symm.trans eo) (by decide)
  refine v_sub (lv2 := [(0, .ref 118), (1, .int v1)]) (by simp) ?_
  exact L5 (52 + 1) 52 (((unitP bt n u 5) s).1) (((unitP bt n u 5) s).2) v1 h1 (by exact hGq1) (by exact hMq1) (by exact hFq1) (by exact hvq1) (by rfl) (by omega) (Nat.lt_succ_self _)

abbrev P_X10_sum_5 (h : Mm) (bt : Nat → Int32) (n B u : Nat) (nm : Nat → Int32) (s : PSt) : Option Value → Mm → Prop := fun r h2 => (∃ v, r = some (.int v) ∧ (((sumP bt n (unitP bt n u 5)) s).2.2.1 = none → ∀ st, runL ((sumP bt n (unitP bt n u 5)) s).1 nm st = v :: st)) ∧ PM h2 n ((sumP bt n (unitP bt n u 5)) s).2 ∧ FrP h h2
theorem c_X10_sum_5 {l : Launch} (h : Mm) (bt : Nat → Int32) (n B u : Nat) (nm : Nat → Int32) (s : PSt) (hX : PX h bt n B u nm) (hM : PM h n s) (hO : OKs n 5 s) : Con l yX10_sum cX10_sum 4 (some .int) 33 757 132 GL h [.ref 118] (P_X10_sum_5 h bt n B u nm s) := by
  refine Con.ofV (own := "FoxRoundsModel") (nm := "sum") rfl rfl (by decide) (Nat.le_of_ble_eq_true rfl) ?_
  intro κ ρ hkl K
  subst hkl
  show V κ (QM κ (132, ρ, GL, 0, 0) (P_X10_sum_5 h bt n B u nm s)) 4 (132, ρ, GL, 0, 0) h 0 [(0, .ref 118)] []
  have hn50 := hX.2.2.2.2.2.1
  have hBn := hX.2.2.2.2.1
  have hsn := hM.2.1
  have hs5 := hM.2.2.1
  refine v_aload_n K dX10_sum_0 rfl ?_
  refine v_callV (As := []) K (c_X10_product_5 h bt n B u nm s hX hM hO) lX10_88 ck_X10 rfl sh_118 pl_118 rfl ⟨by decide, by decide⟩ (Nat.le_of_ble_eq_true rfl) dX10_sum_1 (fun r1 h1 hp1 => ?_) rfl
  obtain ⟨⟨v1, rfl, hvq1⟩, hMq1, hFaq1⟩ := hp1
  have hFq1 := FrP.t (FrP.r (h := h)) hFaq1
  have hXq1 := PX.fr hX hFq1
  have hGq1 : GP n s ((prodP bt n (unitP bt n u 5)) s).2 := (row_good (unit_good (bt := bt) (n := n) (u := u) 5) (by decide)) _ hO
  refine v_some ?_
  refine v_istore_n (lv2 := [(1, .int v1), (0, .ref 118)]) K dX10_sum_4 (by decide) rfl ?_
  have L5 : ∀ (mm : Nat) (f : Nat) (cs : List Int32) (t : PSt) (v : Int32) (h1 : Mm) (hG : GP n s t) (hM1 : PM h1 n t) (hF1 : FrP h h1) (hv : t.2.1 = none → ∀ st, runL cs nm st = v :: st) (he : (sumP bt n (unitP bt n u 5)) s = loopP bt n [nI 43, nI 45] (prodP bt n (unitP bt n u 5)) f cs t) (hfu : n + 1 ≤ f + t.1), f < mm → V κ (QM κ (132, ρ, GL, 0, 0) (P_X10_sum_5 h bt n B u nm s)) 4 (132, ρ, GL, 0, 0) h1 5 [(0, .ref 118), (1, .int v)] [] := by
    intro mm
    induction mm with
    | zero => intro f cs t v h1 hG hM1 hF1 hv he hfu hmm; exact absurd hmm (Nat.not_lt_zero _)
    | succ mm ih5 =>
      intro f cs t v h1 hG hM1 hF1 hv he hfu hmm
      have hX1 := PX.fr hX hF1
      have htn := hM1.2.1
      have ht5 := hM1.2.2.1
      obtain ⟨f, rfl⟩ : ∃ f0, f = f0 + 1 := ⟨f - 1, by omega⟩
      refine v_aload_n K dX10_sum_5 rfl ?_
      refine v_callV (As := []) K (c_X10_here h1 bt n B u nm t hX1 hM1) lX10_68 ck_X10 rfl sh_118 pl_118 rfl ⟨by decide, by decide⟩ (Nat.le_of_ble_eq_true rfl) dX10_sum_6 (fun r2 h2 hp2 => ?_) rfl
      obtain ⟨rfl, rfl⟩ := hp2
      refine v_some ?_
      refine v_bipushN K 43 rfl dX10_sum_9 ?_
      refine v_icmp_eq (tgt := 23) K dX10_sum_11 rfl (fun c1 => ?_) (fun c1 => ?_)
      · skip
        have eo : hereP bt n t = nI 43 := c1
        obtain ⟨hl0, hn0⟩ := hereP_lt eo (nI_m1 (by decide))
        have hG0 := hG
        refine v_aload_n K dX10_sum_23 rfl ?_
        refine v_callV (As := []) K (c_X10_here h1 bt n B u nm t hX1 hM1) lX10_68 ck_X10 rfl sh_118 pl_118 rfl ⟨by decide, by decide⟩ (Nat.le_of_ble_eq_true rfl) dX10_sum_24 (fun r3 h3 hp3 => ?_) rfl
        obtain ⟨rfl, rfl⟩ := hp3
        refine v_some ?_
        refine v_istore_n (lv2 := [(2, .int (hereP bt n t)), (0, .ref 118), (1, .int v)]) K dX10_sum_27 (by decide) rfl ?_
        refine v_aload_n K dX10_sum_28 rfl ?_
        refine v_dup K dX10_sum_29 rfl ?_
        refine v_geti (x := nI t.1) K fX10_55 sh_118 pl_118 hM1.1.1 dX10_sum_30 ?_
        refine v_iconstN K 1 rfl dX10_sum_33 ?_
        refine v_iaddN K dX10_sum_34 ?_
        refine v_puti K pX10_55 sh_118 pl_118 dX10_sum_35 ?_
        have hMm1 : PM (u2 h1 118 6 (nI (t.1 + 1))) n (advP t) := hM1.adv hl0
        have hFm1 : FrP h (u2 h1 118 6 (nI (t.1 + 1))) := FrP.u hF1 (by omega)
        have hXm1 := PX.fr hX hFm1
        refine v_aload_n K dX10_sum_38 rfl ?_
        refine v_callV (As := []) K (c_X10_product_5 ((u2 h1 118 6 (nI (t.1 + 1)))) bt n B u nm ((advP t)) hXm1 hMm1 ((hO.on hG0 hn0).adv hl0)) lX10_88 ck_X10 rfl sh_118 pl_118 rfl ⟨by decide, by decide⟩ (Nat.le_of_ble_eq_true rfl) dX10_sum_39 (fun r4 h4 hp4 => ?_) rfl
        obtain ⟨⟨v2, rfl, hvq2⟩, hMq2, hFaq2⟩ := hp4
        have hFq2 := FrP.t hFm1 hFaq2
        have hXq2 := PX.fr hX hFq2
        have hGq2 : GP n (advP t) ((prodP bt n (unitP bt n u 5)) (advP t)).2 := (row_good (unit_good (bt := bt) (n := n) (u := u) 5) (by decide)) _ ((hO.on hG0 hn0).adv hl0)
        refine v_some ?_
        refine v_istore_n (lv2 := [(3, .int v2), (2, .int (hereP bt n t)), (0, .ref 118), (1, .int v)]) K dX10_sum_42 (by decide) rfl ?_
        refine v_iload_n K dX10_sum_43 rfl ?_
        refine v_bipushN K 43 rfl dX10_sum_44 ?_
        refine v_icmp_ne (tgt := 55) K dX10_sum_46 rfl (fun c2 => ?_) (fun c2 => ?_)
        · skip
          exact absurd eo c2
        · skip
          refine v_iload_n K dX10_sum_49 rfl ?_
          refine v_iload_n K dX10_sum_50 rfl ?_
          refine v_iadd K dX10_sum_51 ?_
          refine v_goto (tgt := 58) K dX10_sum_52 rfl ?_
          refine v_top (y := joinR (nI 43) v v2) (by rw [j43]) ?_
          refine v_istore_n (lv2 := [(1, .int (joinR (nI 43) v v2)), (3, .int v2), (2, .int (hereP bt n t)), (0, .ref 118)]) K dX10_sum_58 (by decide) rfl ?_
          refine v_goto (tgt := 5) K dX10_sum_59 rfl ?_
          refine v_sub (lv2 := [(0, .ref 118), (1, .int (joinR (nI 43) v v2))]) (by simp) ?_
          exact ih5 f ((cs ++ ((prodP bt n (unitP bt n u 5)) (advP t)).1 ++ [-hereP bt n t])) (((prodP bt n (unitP bt n u 5)) (advP t)).2) (joinR (nI 43) v v2) h4 (by exact hG0.tr hn0 ((GP.adv (hO.on hG0 hn0) hl0).tr hn0 hGq2)) (by exact hMq2) (by exact hFq2) (by intro hn2; rw [eo]; exact val_on (by decide) (hv hn0) (hvq2 hn2) rfl) (by rw [he, loop_on (by rw [eo]; decide)]) (by have h1 : (advP t).1 = t.1 + 1 := rfl; have h2 := hGq2.1; omega) (by omega)
      · skip
        refine v_aload_n K dX10_sum_14 rfl ?_
        refine v_callV (As := []) K (c_X10_here h1 bt n B u nm t hX1 hM1) lX10_68 ck_X10 rfl sh_118 pl_118 rfl ⟨by decide, by decide⟩ (Nat.le_of_ble_eq_true rfl) dX10_sum_15 (fun r5 h5 hp5 => ?_) rfl
        obtain ⟨rfl, rfl⟩ := hp5
        refine v_some ?_
        refine v_bipushN K 45 rfl dX10_sum_18 ?_
        refine v_icmp_ne (tgt := 62) K dX10_sum_20 rfl (fun c3 => ?_) (fun c3 => ?_)
        · skip
          refine v_iload_n K dX10_sum_62 rfl ?_
          refine v_iret K dX10_sum_63 ?_
          have e2 : (sumP bt n (unitP bt n u 5)) s = (cs, t) := by rw [he, loop_off (by simp only [List.mem_cons, List.not_mem_nil, or_false, not_or]; exact ⟨c1, c3⟩)]
          show (∃ v, _ ∧ (((sumP bt n (unitP bt n u 5)) s).2.2.1 = none → ∀ st, runL ((sumP bt n (unitP bt n u 5)) s).1 nm st = v :: st)) ∧ PM _ n ((sumP bt n (unitP bt n u 5)) s).2 ∧ _
          rw [e2]
          exact ⟨⟨v, rfl, hv⟩, hM1, hF1⟩
        · skip
          have eo : hereP bt n t = nI 45 := c3
          obtain ⟨hl0, hn0⟩ := hereP_lt eo (nI_m1 (by decide))
          have hG0 := hG
          refine v_aload_n K dX10_sum_23 rfl ?_
          refine v_callV (As := []) K (c_X10_here h1 bt n B u nm t hX1 hM1) lX10_68 ck_X10 rfl sh_118 pl_118 rfl ⟨by decide, by decide⟩ (Nat.le_of_ble_eq_true rfl) dX10_sum_24 (fun r6 h6 hp6 => ?_) rfl
          obtain ⟨rfl, rfl⟩ := hp6
          refine v_some ?_
          refine v_istore_n (lv2 := [(2, .int (hereP bt n t)), (0, .ref 118), (1, .int v)]) K dX10_sum_27 (by decide) rfl ?_
          refine v_aload_n K dX10_sum_28 rfl ?_
          refine v_dup K dX10_sum_29 rfl ?_
          refine v_geti (x := nI t.1) K fX10_55 sh_118 pl_118 hM1.1.1 dX10_sum_30 ?_
          refine v_iconstN K 1 rfl dX10_sum_33 ?_
          refine v_iaddN K dX10_sum_34 ?_
          refine v_puti K pX10_55 sh_118 pl_118 dX10_sum_35 ?_
          have hMm2 : PM (u2 h1 118 6 (nI (t.1 + 1))) n (advP t) := hM1.adv hl0
          have hFm2 : FrP h (u2 h1 118 6 (nI (t.1 + 1))) := FrP.u hF1 (by omega)
          have hXm2 := PX.fr hX hFm2
          refine v_aload_n K dX10_sum_38 rfl ?_
          refine v_callV (As := []) K (c_X10_product_5 ((u2 h1 118 6 (nI (t.1 + 1)))) bt n B u nm ((advP t)) hXm2 hMm2 ((hO.on hG0 hn0).adv hl0)) lX10_88 ck_X10 rfl sh_118 pl_118 rfl ⟨by decide, by decide⟩ (Nat.le_of_ble_eq_true rfl) dX10_sum_39 (fun r7 h7 hp7 => ?_) rfl
          obtain ⟨⟨v3, rfl, hvq3⟩, hMq3, hFaq3⟩ := hp7
          have hFq3 := FrP.t hFm2 hFaq3
          have hXq3 := PX.fr hX hFq3
          have hGq3 : GP n (advP t) ((prodP bt n (unitP bt n u 5)) (advP t)).2 := (row_good (unit_good (bt := bt) (n := n) (u := u) 5) (by decide)) _ ((hO.on hG0 hn0).adv hl0)
          refine v_some ?_
          refine v_istore_n (lv2 := [(3, .int v3), (2, .int (hereP bt n t)), (0, .ref 118), (1, .int v)]) K dX10_sum_42 (by decide) rfl ?_
          refine v_iload_n K dX10_sum_43 rfl ?_
          refine v_bipushN K 43 rfl dX10_sum_44 ?_
          refine v_icmp_ne (tgt := 55) K dX10_sum_46 rfl (fun c4 => ?_) (fun c4 => ?_)
          · skip
            refine v_iload_n K dX10_sum_55 rfl ?_
            refine v_iload_n K dX10_sum_56 rfl ?_
            refine v_isub K dX10_sum_57 ?_
            refine v_top (y := joinR (nI 45) v v3) (by rw [j45]) ?_
            refine v_istore_n (lv2 := [(1, .int (joinR (nI 45) v v3)), (3, .int v3), (2, .int (hereP bt n t)), (0, .ref 118)]) K dX10_sum_58 (by decide) rfl ?_
            refine v_goto (tgt := 5) K dX10_sum_59 rfl ?_
            refine v_sub (lv2 := [(0, .ref 118), (1, .int (joinR (nI 45) v v3))]) (by simp) ?_
            exact ih5 f ((cs ++ ((prodP bt n (unitP bt n u 5)) (advP t)).1 ++ [-hereP bt n t])) (((prodP bt n (unitP bt n u 5)) (advP t)).2) (joinR (nI 45) v v3) h7 (by exact hG0.tr hn0 ((GP.adv (hO.on hG0 hn0) hl0).tr hn0 hGq3)) (by exact hMq3) (by exact hFq3) (by intro hn2; rw [eo]; exact val_on (by decide) (hv hn0) (hvq3 hn2) rfl) (by rw [he, loop_on (by rw [eo]; decide)]) (by have h1 : (advP t).1 = t.1 + 1 := rfl; have h2 := hGq3.1; omega) (by omega)
          · skip
            exact absurd (c4.symm.trans eo) (by decide)
  refine v_sub (lv2 := [(0, .ref 118), (1, .int v1)]) (by simp) ?_
  exact L5 (52 + 1) 52 (((prodP bt n (unitP bt n u 5)) s).1) (((prodP bt n (unitP bt n u 5)) s).2) v1 h1 (by exact hGq1) (by exact hMq1) (by exact hFq1) (by exact hvq1) (by rfl) (by omega) (Nat.lt_succ_self _)

abbrev P_X10_compared_5 (h : Mm) (bt : Nat → Int32) (n B u : Nat) (nm : Nat → Int32) (s : PSt) : Option Value → Mm → Prop := fun r h2 => (∃ v, r = some (.int v) ∧ (((cmpP bt n (sumP bt n (unitP bt n u 5))) s).2.2.1 = none → ∀ st, runL ((cmpP bt n (sumP bt n (unitP bt n u 5))) s).1 nm st = v :: st)) ∧ PM h2 n ((cmpP bt n (sumP bt n (unitP bt n u 5))) s).2 ∧ FrP h h2
theorem c_X10_compared_5 {l : Launch} (h : Mm) (bt : Nat → Int32) (n B u : Nat) (nm : Nat → Int32) (s : PSt) (hX : PX h bt n B u nm) (hM : PM h n s) (hO : OKs n 5 s) : Con l yX10_compared cX10_compared 4 (some .int) 34 780 132 GL h [.ref 118] (P_X10_compared_5 h bt n B u nm s) := by
  refine Con.ofV (own := "FoxRoundsModel") (nm := "compared") rfl rfl (by decide) (Nat.le_of_ble_eq_true rfl) ?_
  intro κ ρ hkl K
  subst hkl
  show V κ (QM κ (132, ρ, GL, 0, 0) (P_X10_compared_5 h bt n B u nm s)) 4 (132, ρ, GL, 0, 0) h 0 [(0, .ref 118)] []
  have hn50 := hX.2.2.2.2.2.1
  have hBn := hX.2.2.2.2.1
  have hsn := hM.2.1
  have hs5 := hM.2.2.1
  refine v_aload_n K dX10_compared_0 rfl ?_
  refine v_callV (As := []) K (c_X10_sum_5 h bt n B u nm s hX hM hO) lX10_85 ck_X10 rfl sh_118 pl_118 rfl ⟨by decide, by decide⟩ (Nat.le_of_ble_eq_true rfl) dX10_compared_1 (fun r1 h1 hp1 => ?_) rfl
  obtain ⟨⟨v1, rfl, hvq1⟩, hMq1, hFaq1⟩ := hp1
  have hFq1 := FrP.t (FrP.r (h := h)) hFaq1
  have hXq1 := PX.fr hX hFq1
  have hGq1 : GP n s ((sumP bt n (unitP bt n u 5)) s).2 := (row_good (row_good (unit_good (bt := bt) (n := n) (u := u) 5) (by decide)) (by decide)) _ hO
  refine v_some ?_
  have hG1 := hGq1
  have hv1 := hvq1
  refine v_istore_n (lv2 := [(1, .int v1), (0, .ref 118)]) K dX10_compared_4 (by decide) rfl ?_
  refine v_aload_n K dX10_compared_5 rfl ?_
  refine v_callV (As := []) K (c_X10_here h1 bt n B u nm (((sumP bt n (unitP bt n u 5)) s).2) hXq1 hMq1) lX10_68 ck_X10 rfl sh_118 pl_118 rfl ⟨by decide, by decide⟩ (Nat.le_of_ble_eq_true rfl) dX10_compared_6 (fun r2 h2 hp2 => ?_) rfl
  obtain ⟨rfl, rfl⟩ := hp2
  refine v_some ?_
  refine v_istore_n (lv2 := [(2, .int (hereP bt n ((sumP bt n (unitP bt n u 5)) s).2)), (1, .int v1), (0, .ref 118)]) K dX10_compared_9 (by decide) rfl ?_
  refine v_iload_n K dX10_compared_10 rfl ?_
  refine v_bipushN K 60 rfl dX10_compared_11 ?_
  refine v_icmp_eq (tgt := 30) K dX10_compared_13 rfl (fun c1 => ?_) (fun c1 => ?_)
  · skip
    have eo : hereP bt n ((sumP bt n (unitP bt n u 5)) s).2 = nI 60 := c1
    obtain ⟨hl0, hn0⟩ := hereP_lt eo (nI_m1 (by decide))
    refine v_aload_n K dX10_compared_30 rfl ?_
    refine v_dup K dX10_compared_31 rfl ?_
    refine v_geti (x := nI (((sumP bt n (unitP bt n u 5)) s).2.1)) K fX10_55 sh_118 pl_118 hMq1.1.1 dX10_compared_32 ?_
    refine v_iconstN K 1 rfl dX10_compared_35 ?_
    refine v_iaddN K dX10_compared_36 ?_
    refine v_puti K pX10_55 sh_118 pl_118 dX10_compared_37 ?_
    have hMm1 : PM (u2 h1 118 6 (nI (((sumP bt n (unitP bt n u 5)) s).2.1 + 1))) n (advP ((sumP bt n (unitP bt n u 5)) s).2) := hMq1.adv hl0
    have hFm1 : FrP h (u2 h1 118 6 (nI (((sumP bt n (unitP bt n u 5)) s).2.1 + 1))) := FrP.u hFq1 (by omega)
    have hXm1 := PX.fr hX hFm1
    refine v_aload_n K dX10_compared_40 rfl ?_
    refine v_callV (As := []) K (c_X10_sum_5 ((u2 h1 118 6 (nI (((sumP bt n (unitP bt n u 5)) s).2.1 + 1)))) bt n B u nm ((advP ((sumP bt n (unitP bt n u 5)) s).2)) hXm1 hMm1 ((hO.on hG1 hn0).adv hl0)) lX10_85 ck_X10 rfl sh_118 pl_118 rfl ⟨by decide, by decide⟩ (Nat.le_of_ble_eq_true rfl) dX10_compared_41 (fun r3 h3 hp3 => ?_) rfl
    obtain ⟨⟨v2, rfl, hvq2⟩, hMq2, hFaq2⟩ := hp3
    have hFq2 := FrP.t hFm1 hFaq2
    have hXq2 := PX.fr hX hFq2
    have hGq2 : GP n (advP ((sumP bt n (unitP bt n u 5)) s).2) ((sumP bt n (unitP bt n u 5)) (advP ((sumP bt n (unitP bt n u 5)) s).2)).2 := (row_good (row_good (unit_good (bt := bt) (n := n) (u := u) 5) (by decide)) (by decide)) _ ((hO.on hG1 hn0).adv hl0)
    refine v_some ?_
    refine v_istore_n (lv2 := [(3, .int v2), (2, .int (hereP bt n ((sumP bt n (unitP bt n u 5)) s).2)), (1, .int v1), (0, .ref 118)]) K dX10_compared_44 (by decide) rfl ?_
    refine v_iload_n K dX10_compared_45 rfl ?_
    refine v_bipushN K 60 rfl dX10_compared_46 ?_
    refine v_icmp_ne (tgt := 59) K dX10_compared_48 rfl (fun c2 => ?_) (fun c2 => ?_)
    · skip
      exact absurd eo c2
    · skip
      refine v_iload_n K dX10_compared_51 rfl ?_
      refine v_iload_n K dX10_compared_52 rfl ?_
      refine v_icmp_ge (tgt := 82) K dX10_compared_53 rfl (fun c3 => ?_) (fun c3 => ?_)
      · skip
        refine v_iconstN K 0 rfl dX10_compared_82 ?_
        refine v_iret K dX10_compared_83 ?_
        have e2 : (cmpP bt n (sumP bt n (unitP bt n u 5))) s = (((sumP bt n (unitP bt n u 5)) s).1 ++ ((sumP bt n (unitP bt n u 5)) (advP ((sumP bt n (unitP bt n u 5)) s).2)).1 ++ [-hereP bt n ((sumP bt n (unitP bt n u 5)) s).2], ((sumP bt n (unitP bt n u 5)) (advP ((sumP bt n (unitP bt n u 5)) s).2)).2) := if_pos (by rw [eo]; decide)
        show (∃ v, _ ∧ (((cmpP bt n (sumP bt n (unitP bt n u 5))) s).2.2.1 = none → ∀ st, runL ((cmpP bt n (sumP bt n (unitP bt n u 5))) s).1 nm st = v :: st)) ∧ PM _ n ((cmpP bt n (sumP bt n (unitP bt n u 5))) s).2 ∧ _
        rw [e2]
        refine ⟨⟨_, rfl, fun hn2 => ?_⟩, hMq2, hFq2⟩
        rw [eo]
        exact val_on (by decide) (hv1 hn0) (hvq2 hn2) (by rw [j60]; exact (b2i_f (Int32.not_lt.mpr c3)).symm)
      · skip
        refine v_goto (tgt := 78) K dX10_compared_56 rfl ?_
        refine v_iconstN K 1 rfl dX10_compared_78 ?_
        refine v_goto (tgt := 83) K dX10_compared_79 rfl ?_
        refine v_iret K dX10_compared_83 ?_
        have e2 : (cmpP bt n (sumP bt n (unitP bt n u 5))) s = (((sumP bt n (unitP bt n u 5)) s).1 ++ ((sumP bt n (unitP bt n u 5)) (advP ((sumP bt n (unitP bt n u 5)) s).2)).1 ++ [-hereP bt n ((sumP bt n (unitP bt n u 5)) s).2], ((sumP bt n (unitP bt n u 5)) (advP ((sumP bt n (unitP bt n u 5)) s).2)).2) := if_pos (by rw [eo]; decide)
        show (∃ v, _ ∧ (((cmpP bt n (sumP bt n (unitP bt n u 5))) s).2.2.1 = none → ∀ st, runL ((cmpP bt n (sumP bt n (unitP bt n u 5))) s).1 nm st = v :: st)) ∧ PM _ n ((cmpP bt n (sumP bt n (unitP bt n u 5))) s).2 ∧ _
        rw [e2]
        refine ⟨⟨_, rfl, fun hn2 => ?_⟩, hMq2, hFq2⟩
        rw [eo]
        exact val_on (by decide) (hv1 hn0) (hvq2 hn2) (by rw [j60]; exact (b2i_t (Int32.not_le.mp c3)).symm)
  · skip
    refine v_iload_n K dX10_compared_16 rfl ?_
    refine v_bipushN K 61 rfl dX10_compared_17 ?_
    refine v_icmp_eq (tgt := 30) K dX10_compared_19 rfl (fun c4 => ?_) (fun c4 => ?_)
    · skip
      have eo : hereP bt n ((sumP bt n (unitP bt n u 5)) s).2 = nI 61 := c4
      obtain ⟨hl0, hn0⟩ := hereP_lt eo (nI_m1 (by decide))
      refine v_aload_n K dX10_compared_30 rfl ?_
      refine v_dup K dX10_compared_31 rfl ?_
      refine v_geti (x := nI (((sumP bt n (unitP bt n u 5)) s).2.1)) K fX10_55 sh_118 pl_118 hMq1.1.1 dX10_compared_32 ?_
      refine v_iconstN K 1 rfl dX10_compared_35 ?_
      refine v_iaddN K dX10_compared_36 ?_
      refine v_puti K pX10_55 sh_118 pl_118 dX10_compared_37 ?_
      have hMm2 : PM (u2 h1 118 6 (nI (((sumP bt n (unitP bt n u 5)) s).2.1 + 1))) n (advP ((sumP bt n (unitP bt n u 5)) s).2) := hMq1.adv hl0
      have hFm2 : FrP h (u2 h1 118 6 (nI (((sumP bt n (unitP bt n u 5)) s).2.1 + 1))) := FrP.u hFq1 (by omega)
      have hXm2 := PX.fr hX hFm2
      refine v_aload_n K dX10_compared_40 rfl ?_
      refine v_callV (As := []) K (c_X10_sum_5 ((u2 h1 118 6 (nI (((sumP bt n (unitP bt n u 5)) s).2.1 + 1)))) bt n B u nm ((advP ((sumP bt n (unitP bt n u 5)) s).2)) hXm2 hMm2 ((hO.on hG1 hn0).adv hl0)) lX10_85 ck_X10 rfl sh_118 pl_118 rfl ⟨by decide, by decide⟩ (Nat.le_of_ble_eq_true rfl) dX10_compared_41 (fun r4 h4 hp4 => ?_) rfl
      obtain ⟨⟨v3, rfl, hvq3⟩, hMq3, hFaq3⟩ := hp4
      have hFq3 := FrP.t hFm2 hFaq3
      have hXq3 := PX.fr hX hFq3
      have hGq3 : GP n (advP ((sumP bt n (unitP bt n u 5)) s).2) ((sumP bt n (unitP bt n u 5)) (advP ((sumP bt n (unitP bt n u 5)) s).2)).2 := (row_good (row_good (unit_good (bt := bt) (n := n) (u := u) 5) (by decide)) (by decide)) _ ((hO.on hG1 hn0).adv hl0)
      refine v_some ?_
      refine v_istore_n (lv2 := [(3, .int v3), (2, .int (hereP bt n ((sumP bt n (unitP bt n u 5)) s).2)), (1, .int v1), (0, .ref 118)]) K dX10_compared_44 (by decide) rfl ?_
      refine v_iload_n K dX10_compared_45 rfl ?_
      refine v_bipushN K 60 rfl dX10_compared_46 ?_
      refine v_icmp_ne (tgt := 59) K dX10_compared_48 rfl (fun c5 => ?_) (fun c5 => ?_)
      · skip
        refine v_iload_n K dX10_compared_59 rfl ?_
        refine v_bipushN K 61 rfl dX10_compared_60 ?_
        refine v_icmp_ne (tgt := 73) K dX10_compared_62 rfl (fun c6 => ?_) (fun c6 => ?_)
        · skip
          exact absurd eo c6
        · skip
          refine v_iload_n K dX10_compared_65 rfl ?_
          refine v_iload_n K dX10_compared_66 rfl ?_
          refine v_icmp_ne (tgt := 82) K dX10_compared_67 rfl (fun c7 => ?_) (fun c7 => ?_)
          · skip
            refine v_iconstN K 0 rfl dX10_compared_82 ?_
            refine v_iret K dX10_compared_83 ?_
            have e2 : (cmpP bt n (sumP bt n (unitP bt n u 5))) s = (((sumP bt n (unitP bt n u 5)) s).1 ++ ((sumP bt n (unitP bt n u 5)) (advP ((sumP bt n (unitP bt n u 5)) s).2)).1 ++ [-hereP bt n ((sumP bt n (unitP bt n u 5)) s).2], ((sumP bt n (unitP bt n u 5)) (advP ((sumP bt n (unitP bt n u 5)) s).2)).2) := if_pos (by rw [eo]; decide)
            show (∃ v, _ ∧ (((cmpP bt n (sumP bt n (unitP bt n u 5))) s).2.2.1 = none → ∀ st, runL ((cmpP bt n (sumP bt n (unitP bt n u 5))) s).1 nm st = v :: st)) ∧ PM _ n ((cmpP bt n (sumP bt n (unitP bt n u 5))) s).2 ∧ _
            rw [e2]
            refine ⟨⟨_, rfl, fun hn2 => ?_⟩, hMq3, hFq3⟩
            rw [eo]
            exact val_on (by decide) (hv1 hn0) (hvq3 hn2) (by rw [j61]; exact (b2i_f c7).symm)
          · skip
            refine v_goto (tgt := 78) K dX10_compared_70 rfl ?_
            refine v_iconstN K 1 rfl dX10_compared_78 ?_
            refine v_goto (tgt := 83) K dX10_compared_79 rfl ?_
            refine v_iret K dX10_compared_83 ?_
            have e2 : (cmpP bt n (sumP bt n (unitP bt n u 5))) s = (((sumP bt n (unitP bt n u 5)) s).1 ++ ((sumP bt n (unitP bt n u 5)) (advP ((sumP bt n (unitP bt n u 5)) s).2)).1 ++ [-hereP bt n ((sumP bt n (unitP bt n u 5)) s).2], ((sumP bt n (unitP bt n u 5)) (advP ((sumP bt n (unitP bt n u 5)) s).2)).2) := if_pos (by rw [eo]; decide)
            show (∃ v, _ ∧ (((cmpP bt n (sumP bt n (unitP bt n u 5))) s).2.2.1 = none → ∀ st, runL ((cmpP bt n (sumP bt n (unitP bt n u 5))) s).1 nm st = v :: st)) ∧ PM _ n ((cmpP bt n (sumP bt n (unitP bt n u 5))) s).2 ∧ _
            rw [e2]
            refine ⟨⟨_, rfl, fun hn2 => ?_⟩, hMq3, hFq3⟩
            rw [eo]
            exact val_on (by decide) (hv1 hn0) (hvq3 hn2) (by rw [j61]; exact (b2i_t c7).symm)
      · skip
        exact absurd (c5.symm.trans eo) (by decide)
    · skip
      refine v_iload_n K dX10_compared_22 rfl ?_
      refine v_bipushN K 62 rfl dX10_compared_23 ?_
      refine v_icmp_eq (tgt := 30) K dX10_compared_25 rfl (fun c8 => ?_) (fun c8 => ?_)
      · skip
        have eo : hereP bt n ((sumP bt n (unitP bt n u 5)) s).2 = nI 62 := c8
        obtain ⟨hl0, hn0⟩ := hereP_lt eo (nI_m1 (by decide))
        refine v_aload_n K dX10_compared_30 rfl ?_
        refine v_dup K dX10_compared_31 rfl ?_
        refine v_geti (x := nI (((sumP bt n (unitP bt n u 5)) s).2.1)) K fX10_55 sh_118 pl_118 hMq1.1.1 dX10_compared_32 ?_
        refine v_iconstN K 1 rfl dX10_compared_35 ?_
        refine v_iaddN K dX10_compared_36 ?_
        refine v_puti K pX10_55 sh_118 pl_118 dX10_compared_37 ?_
        have hMm3 : PM (u2 h1 118 6 (nI (((sumP bt n (unitP bt n u 5)) s).2.1 + 1))) n (advP ((sumP bt n (unitP bt n u 5)) s).2) := hMq1.adv hl0
        have hFm3 : FrP h (u2 h1 118 6 (nI (((sumP bt n (unitP bt n u 5)) s).2.1 + 1))) := FrP.u hFq1 (by omega)
        have hXm3 := PX.fr hX hFm3
        refine v_aload_n K dX10_compared_40 rfl ?_
        refine v_callV (As := []) K (c_X10_sum_5 ((u2 h1 118 6 (nI (((sumP bt n (unitP bt n u 5)) s).2.1 + 1)))) bt n B u nm ((advP ((sumP bt n (unitP bt n u 5)) s).2)) hXm3 hMm3 ((hO.on hG1 hn0).adv hl0)) lX10_85 ck_X10 rfl sh_118 pl_118 rfl ⟨by decide, by decide⟩ (Nat.le_of_ble_eq_true rfl) dX10_compared_41 (fun r5 h5 hp5 => ?_) rfl
        obtain ⟨⟨v4, rfl, hvq4⟩, hMq4, hFaq4⟩ := hp5
        have hFq4 := FrP.t hFm3 hFaq4
        have hXq4 := PX.fr hX hFq4
        have hGq4 : GP n (advP ((sumP bt n (unitP bt n u 5)) s).2) ((sumP bt n (unitP bt n u 5)) (advP ((sumP bt n (unitP bt n u 5)) s).2)).2 := (row_good (row_good (unit_good (bt := bt) (n := n) (u := u) 5) (by decide)) (by decide)) _ ((hO.on hG1 hn0).adv hl0)
        refine v_some ?_
        refine v_istore_n (lv2 := [(3, .int v4), (2, .int (hereP bt n ((sumP bt n (unitP bt n u 5)) s).2)), (1, .int v1), (0, .ref 118)]) K dX10_compared_44 (by decide) rfl ?_
        refine v_iload_n K dX10_compared_45 rfl ?_
        refine v_bipushN K 60 rfl dX10_compared_46 ?_
        refine v_icmp_ne (tgt := 59) K dX10_compared_48 rfl (fun c9 => ?_) (fun c9 => ?_)
        · skip
          refine v_iload_n K dX10_compared_59 rfl ?_
          refine v_bipushN K 61 rfl dX10_compared_60 ?_
          refine v_icmp_ne (tgt := 73) K dX10_compared_62 rfl (fun c10 => ?_) (fun c10 => ?_)
          · skip
            refine v_iload_n K dX10_compared_73 rfl ?_
            refine v_iload_n K dX10_compared_74 rfl ?_
            refine v_icmp_le (tgt := 82) K dX10_compared_75 rfl (fun c11 => ?_) (fun c11 => ?_)
            · skip
              refine v_iconstN K 0 rfl dX10_compared_82 ?_
              refine v_iret K dX10_compared_83 ?_
              have e2 : (cmpP bt n (sumP bt n (unitP bt n u 5))) s = (((sumP bt n (unitP bt n u 5)) s).1 ++ ((sumP bt n (unitP bt n u 5)) (advP ((sumP bt n (unitP bt n u 5)) s).2)).1 ++ [-hereP bt n ((sumP bt n (unitP bt n u 5)) s).2], ((sumP bt n (unitP bt n u 5)) (advP ((sumP bt n (unitP bt n u 5)) s).2)).2) := if_pos (by rw [eo]; decide)
              show (∃ v, _ ∧ (((cmpP bt n (sumP bt n (unitP bt n u 5))) s).2.2.1 = none → ∀ st, runL ((cmpP bt n (sumP bt n (unitP bt n u 5))) s).1 nm st = v :: st)) ∧ PM _ n ((cmpP bt n (sumP bt n (unitP bt n u 5))) s).2 ∧ _
              rw [e2]
              refine ⟨⟨_, rfl, fun hn2 => ?_⟩, hMq4, hFq4⟩
              rw [eo]
              exact val_on (by decide) (hv1 hn0) (hvq4 hn2) (by rw [j62]; exact (b2i_f (Int32.not_lt.mpr c11)).symm)
            · skip
              refine v_iconstN K 1 rfl dX10_compared_78 ?_
              refine v_goto (tgt := 83) K dX10_compared_79 rfl ?_
              refine v_iret K dX10_compared_83 ?_
              have e2 : (cmpP bt n (sumP bt n (unitP bt n u 5))) s = (((sumP bt n (unitP bt n u 5)) s).1 ++ ((sumP bt n (unitP bt n u 5)) (advP ((sumP bt n (unitP bt n u 5)) s).2)).1 ++ [-hereP bt n ((sumP bt n (unitP bt n u 5)) s).2], ((sumP bt n (unitP bt n u 5)) (advP ((sumP bt n (unitP bt n u 5)) s).2)).2) := if_pos (by rw [eo]; decide)
              show (∃ v, _ ∧ (((cmpP bt n (sumP bt n (unitP bt n u 5))) s).2.2.1 = none → ∀ st, runL ((cmpP bt n (sumP bt n (unitP bt n u 5))) s).1 nm st = v :: st)) ∧ PM _ n ((cmpP bt n (sumP bt n (unitP bt n u 5))) s).2 ∧ _
              rw [e2]
              refine ⟨⟨_, rfl, fun hn2 => ?_⟩, hMq4, hFq4⟩
              rw [eo]
              exact val_on (by decide) (hv1 hn0) (hvq4 hn2) (by rw [j62]; exact (b2i_t (Int32.not_le.mp c11)).symm)
          · skip
            exact absurd (c10.symm.trans eo) (by decide)
        · skip
          exact absurd (c9.symm.trans eo) (by decide)
      · skip
        refine v_iload_n K dX10_compared_28 rfl ?_
        refine v_iret K dX10_compared_29 ?_
        have e2 : (cmpP bt n (sumP bt n (unitP bt n u 5))) s = (sumP bt n (unitP bt n u 5)) s := if_neg (by simp only [List.mem_cons, List.not_mem_nil, or_false, not_or]; exact ⟨c1, c4, c8⟩)
        show (∃ v, _ ∧ (((cmpP bt n (sumP bt n (unitP bt n u 5))) s).2.2.1 = none → ∀ st, runL ((cmpP bt n (sumP bt n (unitP bt n u 5))) s).1 nm st = v :: st)) ∧ PM _ n ((cmpP bt n (sumP bt n (unitP bt n u 5))) s).2 ∧ _
        rw [e2]
        exact ⟨⟨_, rfl, hv1⟩, hMq1, hFq1⟩

abbrev P_X10_both_5 (h : Mm) (bt : Nat → Int32) (n B u : Nat) (nm : Nat → Int32) (s : PSt) : Option Value → Mm → Prop := fun r h2 => (∃ v, r = some (.int v) ∧ (((bothP bt n (unitP bt n u 5)) s).2.2.1 = none → ∀ st, runL ((bothP bt n (unitP bt n u 5)) s).1 nm st = v :: st)) ∧ PM h2 n ((bothP bt n (unitP bt n u 5)) s).2 ∧ FrP h h2
theorem c_X10_both_5 {l : Launch} (h : Mm) (bt : Nat → Int32) (n B u : Nat) (nm : Nat → Int32) (s : PSt) (hX : PX h bt n B u nm) (hM : PM h n s) (hO : OKs n 5 s) : Con l yX10_both cX10_both 3 (some .int) 35 803 132 GL h [.ref 118] (P_X10_both_5 h bt n B u nm s) := by
  refine Con.ofV (own := "FoxRoundsModel") (nm := "both") rfl rfl (by decide) (Nat.le_of_ble_eq_true rfl) ?_
  intro κ ρ hkl K
  subst hkl
  show V κ (QM κ (132, ρ, GL, 0, 0) (P_X10_both_5 h bt n B u nm s)) 3 (132, ρ, GL, 0, 0) h 0 [(0, .ref 118)] []
  have hn50 := hX.2.2.2.2.2.1
  have hBn := hX.2.2.2.2.1
  have hsn := hM.2.1
  have hs5 := hM.2.2.1
  refine v_aload_n K dX10_both_0 rfl ?_
  refine v_callV (As := []) K (c_X10_compared_5 h bt n B u nm s hX hM hO) lX10_82 ck_X10 rfl sh_118 pl_118 rfl ⟨by decide, by decide⟩ (Nat.le_of_ble_eq_true rfl) dX10_both_1 (fun r1 h1 hp1 => ?_) rfl
  obtain ⟨⟨v1, rfl, hvq1⟩, hMq1, hFaq1⟩ := hp1
  have hFq1 := FrP.t (FrP.r (h := h)) hFaq1
  have hXq1 := PX.fr hX hFq1
  have hGq1 : GP n s ((cmpP bt n (sumP bt n (unitP bt n u 5))) s).2 := (cmp_good (row_good (row_good (unit_good (bt := bt) (n := n) (u := u) 5) (by decide)) (by decide))) _ hO
  refine v_some ?_
  refine v_istore_n (lv2 := [(1, .int v1), (0, .ref 118)]) K dX10_both_4 (by decide) rfl ?_
  have L5 : ∀ (mm : Nat) (f : Nat) (cs : List Int32) (t : PSt) (v : Int32) (h1 : Mm) (hG : GP n s t) (hM1 : PM h1 n t) (hF1 : FrP h h1) (hv : t.2.1 = none → ∀ st, runL cs nm st = v :: st) (he : (bothP bt n (unitP bt n u 5)) s = loopP bt n [nI 38] (cmpP bt n (sumP bt n (unitP bt n u 5))) f cs t) (hfu : n + 1 ≤ f + t.1), f < mm → V κ (QM κ (132, ρ, GL, 0, 0) (P_X10_both_5 h bt n B u nm s)) 3 (132, ρ, GL, 0, 0) h1 5 [(0, .ref 118), (1, .int v)] [] := by
    intro mm
    induction mm with
    | zero => intro f cs t v h1 hG hM1 hF1 hv he hfu hmm; exact absurd hmm (Nat.not_lt_zero _)
    | succ mm ih5 =>
      intro f cs t v h1 hG hM1 hF1 hv he hfu hmm
      have hX1 := PX.fr hX hF1
      have htn := hM1.2.1
      have ht5 := hM1.2.2.1
      obtain ⟨f, rfl⟩ : ∃ f0, f = f0 + 1 := ⟨f - 1, by omega⟩
      refine v_aload_n K dX10_both_5 rfl ?_
      refine v_bipushN K 38 rfl dX10_both_6 ?_
      refine v_callV (As := [.int (nI 38)]) K (c_X10_takes h1 bt n B u nm t 38 hX1 hM1 (by decide)) lX10_78 ck_X10 rfl sh_118 pl_118 rfl ⟨by decide, by decide⟩ (Nat.le_of_ble_eq_true rfl) dX10_both_8 (fun r2 h2 hp2 => ?_) rfl
      obtain ⟨rfl, hMq2, hFaq2⟩ := hp2
      have hFq2 := FrP.t hF1 hFaq2
      have hXq2 := PX.fr hX hFq2
      refine v_some ?_
      refine v_ifB_eq (tgt := 36) K dX10_both_11 rfl (fun c1 => ?_) (fun c1 => ?_)
      · skip
        rw [tk_n c1] at hMq2
        refine v_iload_n K dX10_both_36 rfl ?_
        refine v_iret K dX10_both_37 ?_
        have e2 : (bothP bt n (unitP bt n u 5)) s = (cs, t) := by rw [he, loop_off (by simp only [List.mem_cons, List.not_mem_nil, or_false]; exact c1)]
        show (∃ v, _ ∧ (((bothP bt n (unitP bt n u 5)) s).2.2.1 = none → ∀ st, runL ((bothP bt n (unitP bt n u 5)) s).1 nm st = v :: st)) ∧ PM _ n ((bothP bt n (unitP bt n u 5)) s).2 ∧ _
        rw [e2]
        exact ⟨⟨v, rfl, hv⟩, hMq2, hFq2⟩
      · skip
        have eo : hereP bt n t = nI 38 := c1
        obtain ⟨hl0, hn0⟩ := hereP_lt eo (nI_m1 (by decide))
        have hG0 := hG
        rw [tk_y eo] at hMq2
        refine v_aload_n K dX10_both_14 rfl ?_
        refine v_callV (As := []) K (c_X10_compared_5 h2 bt n B u nm ((advP t)) hXq2 hMq2 ((hO.on hG0 hn0).adv hl0)) lX10_82 ck_X10 rfl sh_118 pl_118 rfl ⟨by decide, by decide⟩ (Nat.le_of_ble_eq_true rfl) dX10_both_15 (fun r3 h3 hp3 => ?_) rfl
        obtain ⟨⟨v2, rfl, hvq3⟩, hMq3, hFaq3⟩ := hp3
        have hFq3 := FrP.t hFq2 hFaq3
        have hXq3 := PX.fr hX hFq3
        have hGq3 : GP n (advP t) ((cmpP bt n (sumP bt n (unitP bt n u 5))) (advP t)).2 := (cmp_good (row_good (row_good (unit_good (bt := bt) (n := n) (u := u) 5) (by decide)) (by decide))) _ ((hO.on hG0 hn0).adv hl0)
        refine v_some ?_
        refine v_istore_n (lv2 := [(2, .int v2), (0, .ref 118), (1, .int v)]) K dX10_both_18 (by decide) rfl ?_
        refine v_iload_n K dX10_both_19 rfl ?_
        refine v_if_eq (tgt := 31) K dX10_both_20 rfl (fun c2 => ?_) (fun c2 => ?_)
        · skip
          refine v_iconstN K 0 rfl dX10_both_31 ?_
          refine v_top (y := joinR (nI 38) v v2) (by rw [j38]; exact (b2i_f (fun q => q.1 c2)).symm) ?_
          refine v_istore_n (lv2 := [(1, .int (joinR (nI 38) v v2)), (2, .int v2), (0, .ref 118)]) K dX10_both_32 (by decide) rfl ?_
          refine v_goto (tgt := 5) K dX10_both_33 rfl ?_
          refine v_sub (lv2 := [(0, .ref 118), (1, .int (joinR (nI 38) v v2))]) (by simp) ?_
          exact ih5 f ((cs ++ ((cmpP bt n (sumP bt n (unitP bt n u 5))) (advP t)).1 ++ [-hereP bt n t])) (((cmpP bt n (sumP bt n (unitP bt n u 5))) (advP t)).2) (joinR (nI 38) v v2) h3 (by exact hG0.tr hn0 ((GP.adv (hO.on hG0 hn0) hl0).tr hn0 hGq3)) (by exact hMq3) (by exact hFq3) (by intro hn2; rw [eo]; exact val_on (by decide) (hv hn0) (hvq3 hn2) rfl) (by rw [he, loop_on (by rw [eo]; decide)]) (by have h1 : (advP t).1 = t.1 + 1 := rfl; have h2 := hGq3.1; omega) (by omega)
        · skip
          refine v_iload_n K dX10_both_23 rfl ?_
          refine v_if_eq (tgt := 31) K dX10_both_24 rfl (fun c3 => ?_) (fun c3 => ?_)
          · skip
            refine v_iconstN K 0 rfl dX10_both_31 ?_
            refine v_top (y := joinR (nI 38) v v2) (by rw [j38]; exact (b2i_f (fun q => q.2 c3)).symm) ?_
            refine v_istore_n (lv2 := [(1, .int (joinR (nI 38) v v2)), (2, .int v2), (0, .ref 118)]) K dX10_both_32 (by decide) rfl ?_
            refine v_goto (tgt := 5) K dX10_both_33 rfl ?_
            refine v_sub (lv2 := [(0, .ref 118), (1, .int (joinR (nI 38) v v2))]) (by simp) ?_
            exact ih5 f ((cs ++ ((cmpP bt n (sumP bt n (unitP bt n u 5))) (advP t)).1 ++ [-hereP bt n t])) (((cmpP bt n (sumP bt n (unitP bt n u 5))) (advP t)).2) (joinR (nI 38) v v2) h3 (by exact hG0.tr hn0 ((GP.adv (hO.on hG0 hn0) hl0).tr hn0 hGq3)) (by exact hMq3) (by exact hFq3) (by intro hn2; rw [eo]; exact val_on (by decide) (hv hn0) (hvq3 hn2) rfl) (by rw [he, loop_on (by rw [eo]; decide)]) (by have h1 : (advP t).1 = t.1 + 1 := rfl; have h2 := hGq3.1; omega) (by omega)
          · skip
            refine v_iconstN K 1 rfl dX10_both_27 ?_
            refine v_goto (tgt := 32) K dX10_both_28 rfl ?_
            refine v_top (y := joinR (nI 38) v v2) (by rw [j38]; exact (b2i_t ⟨c2, c3⟩).symm) ?_
            refine v_istore_n (lv2 := [(1, .int (joinR (nI 38) v v2)), (2, .int v2), (0, .ref 118)]) K dX10_both_32 (by decide) rfl ?_
            refine v_goto (tgt := 5) K dX10_both_33 rfl ?_
            refine v_sub (lv2 := [(0, .ref 118), (1, .int (joinR (nI 38) v v2))]) (by simp) ?_
            exact ih5 f ((cs ++ ((cmpP bt n (sumP bt n (unitP bt n u 5))) (advP t)).1 ++ [-hereP bt n t])) (((cmpP bt n (sumP bt n (unitP bt n u 5))) (advP t)).2) (joinR (nI 38) v v2) h3 (by exact hG0.tr hn0 ((GP.adv (hO.on hG0 hn0) hl0).tr hn0 hGq3)) (by exact hMq3) (by exact hFq3) (by intro hn2; rw [eo]; exact val_on (by decide) (hv hn0) (hvq3 hn2) rfl) (by rw [he, loop_on (by rw [eo]; decide)]) (by have h1 : (advP t).1 = t.1 + 1 := rfl; have h2 := hGq3.1; omega) (by omega)
  refine v_sub (lv2 := [(0, .ref 118), (1, .int v1)]) (by simp) ?_
  exact L5 (52 + 1) 52 (((cmpP bt n (sumP bt n (unitP bt n u 5))) s).1) (((cmpP bt n (sumP bt n (unitP bt n u 5))) s).2) v1 h1 (by exact hGq1) (by exact hMq1) (by exact hFq1) (by exact hvq1) (by rfl) (by omega) (Nat.lt_succ_self _)

abbrev P_X10_either_5 (h : Mm) (bt : Nat → Int32) (n B u : Nat) (nm : Nat → Int32) (s : PSt) : Option Value → Mm → Prop := fun r h2 => (∃ v, r = some (.int v) ∧ (((eitherP bt n (unitP bt n u 5)) s).2.2.1 = none → ∀ st, runL ((eitherP bt n (unitP bt n u 5)) s).1 nm st = v :: st)) ∧ PM h2 n ((eitherP bt n (unitP bt n u 5)) s).2 ∧ FrP h h2
theorem c_X10_either_5 {l : Launch} (h : Mm) (bt : Nat → Int32) (n B u : Nat) (nm : Nat → Int32) (s : PSt) (hX : PX h bt n B u nm) (hM : PM h n s) (hO : OKs n 5 s) : Con l yX10_either cX10_either 3 (some .int) 36 825 132 GL h [.ref 118] (P_X10_either_5 h bt n B u nm s) := by
  refine Con.ofV (own := "FoxRoundsModel") (nm := "either") rfl rfl (by decide) (Nat.le_of_ble_eq_true rfl) ?_
  intro κ ρ hkl K
  subst hkl
  show V κ (QM κ (132, ρ, GL, 0, 0) (P_X10_either_5 h bt n B u nm s)) 3 (132, ρ, GL, 0, 0) h 0 [(0, .ref 118)] []
  have hn50 := hX.2.2.2.2.2.1
  have hBn := hX.2.2.2.2.1
  have hsn := hM.2.1
  have hs5 := hM.2.2.1
  refine v_aload_n K dX10_either_0 rfl ?_
  refine v_callV (As := []) K (c_X10_both_5 h bt n B u nm s hX hM hO) lX10_75 ck_X10 rfl sh_118 pl_118 rfl ⟨by decide, by decide⟩ (Nat.le_of_ble_eq_true rfl) dX10_either_1 (fun r1 h1 hp1 => ?_) rfl
  obtain ⟨⟨v1, rfl, hvq1⟩, hMq1, hFaq1⟩ := hp1
  have hFq1 := FrP.t (FrP.r (h := h)) hFaq1
  have hXq1 := PX.fr hX hFq1
  have hGq1 : GP n s ((bothP bt n (unitP bt n u 5)) s).2 := (row_good (cmp_good (row_good (row_good (unit_good (bt := bt) (n := n) (u := u) 5) (by decide)) (by decide))) (by decide)) _ hO
  refine v_some ?_
  refine v_istore_n (lv2 := [(1, .int v1), (0, .ref 118)]) K dX10_either_4 (by decide) rfl ?_
  have L5 : ∀ (mm : Nat) (f : Nat) (cs : List Int32) (t : PSt) (v : Int32) (h1 : Mm) (hG : GP n s t) (hM1 : PM h1 n t) (hF1 : FrP h h1) (hv : t.2.1 = none → ∀ st, runL cs nm st = v :: st) (he : (eitherP bt n (unitP bt n u 5)) s = loopP bt n [nI 124] (bothP bt n (unitP bt n u 5)) f cs t) (hfu : n + 1 ≤ f + t.1), f < mm → V κ (QM κ (132, ρ, GL, 0, 0) (P_X10_either_5 h bt n B u nm s)) 3 (132, ρ, GL, 0, 0) h1 5 [(0, .ref 118), (1, .int v)] [] := by
    intro mm
    induction mm with
    | zero => intro f cs t v h1 hG hM1 hF1 hv he hfu hmm; exact absurd hmm (Nat.not_lt_zero _)
    | succ mm ih5 =>
      intro f cs t v h1 hG hM1 hF1 hv he hfu hmm
      have hX1 := PX.fr hX hF1
      have htn := hM1.2.1
      have ht5 := hM1.2.2.1
      obtain ⟨f, rfl⟩ : ∃ f0, f = f0 + 1 := ⟨f - 1, by omega⟩
      refine v_aload_n K dX10_either_5 rfl ?_
      refine v_bipushN K 124 rfl dX10_either_6 ?_
      refine v_callV (As := [.int (nI 124)]) K (c_X10_takes h1 bt n B u nm t 124 hX1 hM1 (by decide)) lX10_78 ck_X10 rfl sh_118 pl_118 rfl ⟨by decide, by decide⟩ (Nat.le_of_ble_eq_true rfl) dX10_either_8 (fun r2 h2 hp2 => ?_) rfl
      obtain ⟨rfl, hMq2, hFaq2⟩ := hp2
      have hFq2 := FrP.t hF1 hFaq2
      have hXq2 := PX.fr hX hFq2
      refine v_some ?_
      refine v_ifB_eq (tgt := 36) K dX10_either_11 rfl (fun c1 => ?_) (fun c1 => ?_)
      · skip
        rw [tk_n c1] at hMq2
        refine v_iload_n K dX10_either_36 rfl ?_
        refine v_iret K dX10_either_37 ?_
        have e2 : (eitherP bt n (unitP bt n u 5)) s = (cs, t) := by rw [he, loop_off (by simp only [List.mem_cons, List.not_mem_nil, or_false]; exact c1)]
        show (∃ v, _ ∧ (((eitherP bt n (unitP bt n u 5)) s).2.2.1 = none → ∀ st, runL ((eitherP bt n (unitP bt n u 5)) s).1 nm st = v :: st)) ∧ PM _ n ((eitherP bt n (unitP bt n u 5)) s).2 ∧ _
        rw [e2]
        exact ⟨⟨v, rfl, hv⟩, hMq2, hFq2⟩
      · skip
        have eo : hereP bt n t = nI 124 := c1
        obtain ⟨hl0, hn0⟩ := hereP_lt eo (nI_m1 (by decide))
        have hG0 := hG
        rw [tk_y eo] at hMq2
        refine v_aload_n K dX10_either_14 rfl ?_
        refine v_callV (As := []) K (c_X10_both_5 h2 bt n B u nm ((advP t)) hXq2 hMq2 ((hO.on hG0 hn0).adv hl0)) lX10_75 ck_X10 rfl sh_118 pl_118 rfl ⟨by decide, by decide⟩ (Nat.le_of_ble_eq_true rfl) dX10_either_15 (fun r3 h3 hp3 => ?_) rfl
        obtain ⟨⟨v2, rfl, hvq3⟩, hMq3, hFaq3⟩ := hp3
        have hFq3 := FrP.t hFq2 hFaq3
        have hXq3 := PX.fr hX hFq3
        have hGq3 : GP n (advP t) ((bothP bt n (unitP bt n u 5)) (advP t)).2 := (row_good (cmp_good (row_good (row_good (unit_good (bt := bt) (n := n) (u := u) 5) (by decide)) (by decide))) (by decide)) _ ((hO.on hG0 hn0).adv hl0)
        refine v_some ?_
        refine v_istore_n (lv2 := [(2, .int v2), (0, .ref 118), (1, .int v)]) K dX10_either_18 (by decide) rfl ?_
        refine v_iload_n K dX10_either_19 rfl ?_
        refine v_if_ne (tgt := 27) K dX10_either_20 rfl (fun c2 => ?_) (fun c2 => ?_)
        · skip
          refine v_iconstN K 1 rfl dX10_either_27 ?_
          refine v_goto (tgt := 32) K dX10_either_28 rfl ?_
          refine v_top (y := joinR (nI 124) v v2) (by rw [j124]; exact (b2i_t (Or.inl c2)).symm) ?_
          refine v_istore_n (lv2 := [(1, .int (joinR (nI 124) v v2)), (2, .int v2), (0, .ref 118)]) K dX10_either_32 (by decide) rfl ?_
          refine v_goto (tgt := 5) K dX10_either_33 rfl ?_
          refine v_sub (lv2 := [(0, .ref 118), (1, .int (joinR (nI 124) v v2))]) (by simp) ?_
          exact ih5 f ((cs ++ ((bothP bt n (unitP bt n u 5)) (advP t)).1 ++ [-hereP bt n t])) (((bothP bt n (unitP bt n u 5)) (advP t)).2) (joinR (nI 124) v v2) h3 (by exact hG0.tr hn0 ((GP.adv (hO.on hG0 hn0) hl0).tr hn0 hGq3)) (by exact hMq3) (by exact hFq3) (by intro hn2; rw [eo]; exact val_on (by decide) (hv hn0) (hvq3 hn2) rfl) (by rw [he, loop_on (by rw [eo]; decide)]) (by have h1 : (advP t).1 = t.1 + 1 := rfl; have h2 := hGq3.1; omega) (by omega)
        · skip
          refine v_iload_n K dX10_either_23 rfl ?_
          refine v_if_eq (tgt := 31) K dX10_either_24 rfl (fun c3 => ?_) (fun c3 => ?_)
          · skip
            refine v_iconstN K 0 rfl dX10_either_31 ?_
            refine v_top (y := joinR (nI 124) v v2) (by rw [j124]; exact (b2i_f (by rw [not_or]; exact ⟨fun q => q c2, fun q => q c3⟩)).symm) ?_
            refine v_istore_n (lv2 := [(1, .int (joinR (nI 124) v v2)), (2, .int v2), (0, .ref 118)]) K dX10_either_32 (by decide) rfl ?_
            refine v_goto (tgt := 5) K dX10_either_33 rfl ?_
            refine v_sub (lv2 := [(0, .ref 118), (1, .int (joinR (nI 124) v v2))]) (by simp) ?_
            exact ih5 f ((cs ++ ((bothP bt n (unitP bt n u 5)) (advP t)).1 ++ [-hereP bt n t])) (((bothP bt n (unitP bt n u 5)) (advP t)).2) (joinR (nI 124) v v2) h3 (by exact hG0.tr hn0 ((GP.adv (hO.on hG0 hn0) hl0).tr hn0 hGq3)) (by exact hMq3) (by exact hFq3) (by intro hn2; rw [eo]; exact val_on (by decide) (hv hn0) (hvq3 hn2) rfl) (by rw [he, loop_on (by rw [eo]; decide)]) (by have h1 : (advP t).1 = t.1 + 1 := rfl; have h2 := hGq3.1; omega) (by omega)
          · skip
            refine v_iconstN K 1 rfl dX10_either_27 ?_
            refine v_goto (tgt := 32) K dX10_either_28 rfl ?_
            refine v_top (y := joinR (nI 124) v v2) (by rw [j124]; exact (b2i_t (Or.inr c3)).symm) ?_
            refine v_istore_n (lv2 := [(1, .int (joinR (nI 124) v v2)), (2, .int v2), (0, .ref 118)]) K dX10_either_32 (by decide) rfl ?_
            refine v_goto (tgt := 5) K dX10_either_33 rfl ?_
            refine v_sub (lv2 := [(0, .ref 118), (1, .int (joinR (nI 124) v v2))]) (by simp) ?_
            exact ih5 f ((cs ++ ((bothP bt n (unitP bt n u 5)) (advP t)).1 ++ [-hereP bt n t])) (((bothP bt n (unitP bt n u 5)) (advP t)).2) (joinR (nI 124) v v2) h3 (by exact hG0.tr hn0 ((GP.adv (hO.on hG0 hn0) hl0).tr hn0 hGq3)) (by exact hMq3) (by exact hFq3) (by intro hn2; rw [eo]; exact val_on (by decide) (hv hn0) (hvq3 hn2) rfl) (by rw [he, loop_on (by rw [eo]; decide)]) (by have h1 : (advP t).1 = t.1 + 1 := rfl; have h2 := hGq3.1; omega) (by omega)
  refine v_sub (lv2 := [(0, .ref 118), (1, .int v1)]) (by simp) ?_
  exact L5 (52 + 1) 52 (((bothP bt n (unitP bt n u 5)) s).1) (((bothP bt n (unitP bt n u 5)) s).2) v1 h1 (by exact hGq1) (by exact hMq1) (by exact hFq1) (by exact hvq1) (by rfl) (by omega) (Nat.lt_succ_self _)
