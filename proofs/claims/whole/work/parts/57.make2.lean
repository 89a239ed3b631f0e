theorem outer_rest (c : ClassId) (N h0 : Nat) : ∀ i, (Jvm.Free.Multi.outerC c N h0 i).monitor = {} ∧ (Jvm.Free.Multi.outerC c N h0 i).hash = none
  | 0 => ⟨rfl, rfl⟩
  | i + 1 => by
    obtain ⟨a, b⟩ := outer_rest c N h0 i
    exact ⟨by simp [Jvm.Free.Multi.outerC, Cell.setSlot, a], by simp [Jvm.Free.Multi.outerC, Cell.setSlot, b]⟩
section VMULTI
variable {κ : KT} {own nm : String} {cc : ByteArray} {nL : Nat} {R : Room} {ret : Option FieldType} {Q : State → Prop} {h : Mm} {pc : Nat} {lv : List (Nat × Value)} {st : List Value} {n c z : Nat} {ρ : Nat → Nat} {g : Gm}
/-- an array of arrays: the outer one first, then its rows in order -/
theorem v_multi (K : KOK κ own nm cc nL R ret) {g' : Gm} {N M idx : Nat} (hn : n + 1 + N ≤ 132) (hs : SH n = (3, 3, N)) (hsi : ∀ i, i < N → SH (n + 1 + i) = (2, 0, M)) (e1 : ∀ i, i < N → g' n i = n + 1 + i + 1) (e3 : ∀ x, x < n → g' x = g x) (hz : ∀ i, i < N → h (n + 1 + i) = fun _ => 0) (W : WFR n g h) (hlv : okL n lv = true) (hst : okS n st = true) (wc : Cond.classLink own idx "[[I" ∈ LT) (wa : Cond.arrayClass .int ∈ LT) (hN : N ≤ 100) (hM : M ≤ 100) (hr : c + (1 + N) ≤ R.cells ∧ z + (N + N * M) ≤ R.slots) (d : decode cc pc = .ok (.multianewarray idx 2, 4))
    (kk : ∀ ρ', AGR n ρ ρ' → V κ Q nL (n + 1 + N, ρ', g', c + 1 + N, z + N + N * M) h (pc + 4) lv (.ref n :: st)) : V κ Q nL (n, ρ, g, c, z) h pc lv (.int (nI M) :: .int (nI N) :: st) := by
  intro H locs ls hl hP hD hS hE T hT X
  have hR := K.2.2.2.2.2.2.2.1
  have c1 : (nI N).toNatClampNeg = N := nI_clamp (by omega)
  have c2 : (nI M).toNatClampNeg = M := nI_clamp (by omega)
  have en : ("[" ++ (FieldType.array .int).toString) = "[[I" := by decide +kernel
  have en2 : (FieldType.array .int).toString = "[" ++ FieldType.int.toString := by decide +kernel
  obtain ⟨vm₁, cA, comp, hW, hfA, hfC, hO, hI, X1, step⟩ := X.multianewarray2F (ty := .int) K.1 (own := own) (index := idx) K.2.2.2.1 (by rw [en]; exact K.2.2.2.2.1 _ wc) hE.2.2.2.1.2 (K.2.2.2.2.1 _ wa) (g := F0 (km κ) pc ls ((.int (nI M) :: .int (nI N) :: st).map (ph ρ))) rfl (by show decode (kc κ).code pc = _; rw [K.2.1]; exact d) (n := nI N) (k := nI M) (rest := st.map (ph ρ)) rfl (nI_pos (by omega)) (nI_pos (by omega)) (by rw [c1]; omega) (by rw [c2]; show M * 4 ≤ _; omega) (by rw [c2]; omega) rfl rfl (by rw [c1, hR]; exact hr.1) (by rw [c1, c2, hR]; exact hr.2)
  rw [c1, c2] at X1 step
  obtain ⟨f1, f2, f3, f4⟩ := Jvm.Free.Multi.fill_facts (T.setVm vm₁) cA comp N M (defaultValue .int) N
  have hold := fun (a : Nat) (ha : a < H.size) => Jvm.Free.Multi.fill_old (T.setVm vm₁) cA comp N M (defaultValue .int) (a := a) (by show a < T.heap.size; rw [hT]; exact ha) N
  have hinn := fun (j : Nat) (hj : j < N) => Jvm.Free.Multi.fill_inner (T.setVm vm₁) cA comp N M (defaultValue .int) N j hj
  have hslot := fun (j : Nat) (hj : j < N) => Jvm.Free.Multi.outerC_slot cA N (T.setVm vm₁).heap.size N j hj
  obtain ⟨o1, o2, o3⟩ := Jvm.Free.Multi.outerC_facts cA N (T.setVm vm₁).heap.size N
  have hh : (T.setVm vm₁).heap = H := hT
  obtain ⟨o4, o5⟩ := outer_rest cA N (T.setVm vm₁).heap.size N
  rw [hh] at f1 f2 hinn hslot o1 o2 o3 o4 o5
  generalize hF : Jvm.Free.Multi.fill (T.setVm vm₁) cA comp N M (defaultValue .int) N = F at X1 step f1 f2 hold hinn
  have hold : ∀ a : Nat, a < H.size → F.heap[a]? = H[a]? := fun a ha => (hold a ha).trans (by rw [hh])
  have ec : cA = kC κ 3 := Option.some.inj (hfA.symm.trans (K.2.2.2.2.2.1.2 3 (kC κ 3, .array .int) rfl).2)
  have ec2 : comp = kC κ 0 := Option.some.inj (hfC.symm.trans (by rw [en2]; exact (K.2.2.2.2.2.1.2 0 (kC κ 0, .int) rfl).2))
  obtain ⟨ρ', hρ⟩ : ∃ ρ' : Nat → Nat, ρ' = fun a => if n ≤ a ∧ a < n + 1 + N then H.size + (a - n) else ρ a := ⟨_, rfl⟩
  have A : AGR n ρ ρ' := fun a ha => by rw [hρ]; exact if_neg (by omega)
  have er : ∀ j, j < 1 + N → ρ' (n + j) = H.size + j := fun j hj => by
    rw [hρ]
    show (if n ≤ n + j ∧ n + j < n + 1 + N then H.size + (n + j - n) else ρ (n + j)) = _
    rw [if_pos (by omega)]; omega
  have hlen : (wl (kC κ) (n + 1 + N, ρ', g', c + 1 + N, z + N + N * M) h).length = n + 1 + N := by unfold wl; simp
  have hat : ∀ k q, (wl (kC κ) (n + 1 + N, ρ', g', c + 1 + N, z + N + N * M) h)[k]? = some q → k < n + 1 + N ∧ q = (ρ' k, cel (kC κ) ρ' (SH k) (g' k) (h k)) := by
    intro k q hq
    have hk : k < n + 1 + N := by
      have := (List.getElem?_eq_some_iff.mp hq).1
      rw [hlen] at this; exact this
    rw [wl_get (ω := (n + 1 + N, ρ', g', c + 1 + N, z + N + N * M)) hk] at hq
    exact ⟨hk, (Option.some.inj hq).symm⟩
  have hsame : ∀ k, k < n → (ρ' k, cel (kC κ) ρ' (SH k) (g' k) (h k)) = (ρ k, cel (kC κ) ρ (SH k) (g k) (h k)) := fun k hk => by
    rw [A k (Or.inl hk), e3 k hk, cel_ag A W hk]
  have hlow : ∀ k, k < n → ρ' k < H.size := fun k hk => by
    have := (hP k _ (wl_get (ω := (n, ρ, g, c, z)) hk)).lt
    rw [A k (Or.inl hk)]; exact this
  have hP1 : va_P (kD κ) CL (wl (kC κ) (n + 1 + N, ρ', g', c + 1 + N, z + N + N * M) h) F.heap := by
    intro k q hq
    obtain ⟨hk, rfl⟩ := hat k q hq
    rcases Nat.lt_or_ge k n with h1 | h1
    · rw [hsame k h1]
      have hp := hP k _ (wl_get (ω := (n, ρ, g, c, z)) h1)
      exact hp.kept (hold _ hp.lt)
    · by_cases h2 : k = n
      · subst h2
        rw [hs]
        show F.heap[ρ' k]? = some (vp_cell (kC κ 3) (N, .inr (.inr (.inr (.inr (fun i => (rfo (g' k i)).map ρ'))))))
        have e0 := er 0 (by omega)
        rw [Nat.add_zero, Nat.add_zero] at e0
        rw [e0, f2, vp_cell_q]
        congr 1
        generalize Jvm.Free.Multi.outerC cA N H.size N = O at hslot o1 o2 o3 o4 o5
        obtain ⟨oc, os, ov⟩ := O
        have o1 : oc = cA := o1
        have o3 : os.size = N := o3
        subst o1
        rw [← ec]
        have e3' : os = Array.ofFn (n := N) fun i => va_rf ((rfo (g' k i.val)).map ρ') := by
          apply Array.ext
          · rw [o3]; simp
          · intro i hi1 hi2
            have hi : i < N := by rw [← o3]; exact hi1
            have q1 := hslot i hi
            rw [if_pos hi] at q1
            have q1 : os[i]? = some (Value.ref (H.size + 1 + i)) := q1
            rw [Array.getElem?_eq_getElem hi1] at q1
            rw [Option.some.inj q1]
            have e4 := er (1 + i) (by omega)
            simp only [Array.getElem_ofFn]
            rw [e1 i hi]
            show _ = Value.ref (ρ' (k + 1 + i))
            rw [show k + 1 + i = k + (1 + i) by omega, e4, show H.size + (1 + i) = H.size + 1 + i by omega]
        simp only at o2 o4 o5
        simp only [arrV, e3', o2, o4, o5]
      · obtain ⟨j, hj, rfl⟩ : ∃ j, j < N ∧ k = n + 1 + j := ⟨k - n - 1, by omega, by omega⟩
        rw [hsi j hj, hz j hj]
        show F.heap[ρ' (n + 1 + j)]? = some (vp_cell (kC κ 0) (M, .inl (fun _ => 0)))
        rw [show n + 1 + j = n + (1 + j) by omega, er (1 + j) (by omega), show H.size + (1 + j) = H.size + 1 + j by omega, hinn j hj, vp_cell_i, ← arrV_new, ← ec2]
        rfl
  have hD1 : va_D (kA κ) (wl (kC κ) (n + 1 + N, ρ', g', c + 1 + N, z + N + N * M) h) := by
    have hi : ∀ k, n ≤ k → k < n + 1 + N → ρ' k = H.size + (k - n) := fun k k1 k2 => by rw [hρ]; exact if_pos ⟨k1, k2⟩
    refine ⟨fun i j p q hp hq e => ?_, fun k q hq => ?_⟩
    · obtain ⟨hi1, rfl⟩ := hat i p hp
      obtain ⟨hj1, rfl⟩ := hat j q hq
      have e : ρ' i = ρ' j := e
      rcases Nat.lt_or_ge i n with h1 | h1
      · rcases Nat.lt_or_ge j n with h2 | h2
        · refine hD.1 i j _ _ (wl_get (ω := (n, ρ, g, c, z)) h1) (wl_get (ω := (n, ρ, g, c, z)) h2) ?_
          show ρ i = ρ j
          rw [← A i (Or.inl h1), ← A j (Or.inl h2)]; exact e
        · have := hlow i h1
          rw [hi j h2 hj1] at e; omega
      · rcases Nat.lt_or_ge j n with h2 | h2
        · have := hlow j h2
          rw [hi i h1 hi1] at e; omega
        · rw [hi i h1 hi1, hi j h2 hj1] at e; omega
    · obtain ⟨hk, rfl⟩ := hat k q hq
      show kA κ (ρ' k)
      rcases Nat.lt_or_ge k n with h1 | h1
      · rw [A k (Or.inl h1)]
        exact hD.2 k _ (wl_get (ω := (n, ρ, g, c, z)) h1)
      · rw [hi k h1 hk]
        exact K.2.2.2.2.2.2.1 _ (Nat.le_trans hS.1 (Nat.le_add_right _ _))
  have hS1 : va_S (kA κ) (ks κ).heap F.heap locs := ⟨by rw [f1]; exact Nat.le_trans hS.1 (by omega), fun q h1 h2 => (hold q (Nat.lt_of_lt_of_le h1 hS.1)).trans (hS.2.1 q h1 h2), hS.2.2⟩
  obtain ⟨t2, a1, b1⟩ := kk ρ' A F.heap locs ls (by show lv_has ls nL (plv ρ' lv); rw [plv_ag A hlv]; exact hl) hP1 hD1 hS1 (hE.ag A) F rfl X1
  refine ⟨t2, step t2 ?_, b1⟩
  have e2 : ((.ref n :: st : List Value)).map (ph ρ') = .ref T.heap.size :: st.map (ph ρ) := by
    show ph ρ' (.ref n) :: st.map (ph ρ') = _
    rw [map_ag A hst]
    have e0 := er 0 (by omega)
    rw [Nat.add_zero, Nat.add_zero] at e0
    show Value.ref (ρ' n) :: _ = _
    rw [e0, hT]
  show Steps _ _ _ (F.setTop (F0 (km κ) (pc + 4) ls (.ref T.heap.size :: st.map (ph ρ)))) _
  rw [← e2]
  exact a1
end VMULTI
section VCOPYS
variable {κ : KT} {own nm : String} {cc : ByteArray} {nL : Nat} {R : Room} {ret : Option FieldType} {Q : State → Prop} {ω : Wo} {h : Mm} {pc : Nat} {lv : List (Nat × Value)} {st : List Value}
/-- a table of the class's copied into a row of the world -/
theorem v_copyS (K : KOK κ own nm cc nL R ret) {idx j b M n : Nat} (w1 : Cond.methodLink own idx arraycopyName ∈ LT) (w2 : Cond.native arraycopyName ∈ LT) (w3 : Cond.static arraycopyName ∈ LT) (w4 : Cond.initialized "java/lang/System" ∈ LT) (hj : j < 8) (hs2 : SH b = (2, 0, M)) (hb : b < ω.1) (h1 : n ≤ stL j) (h2 : n ≤ M) (hr : 1 ≤ R.frames ∧ 8 + (nativeFrameWords "java/lang/System" "arraycopy" 5 + 11) ≤ R.locals) (hc : (st.map fun v => v.category).sum ≤ 8) (d : decode cc pc = .ok (.invokestatic idx, 3))
    (kk : V κ Q nL ω (rw2 h b (va_cpy (stV j) (h b) 0 0 n)) (pc + 3) lv st) : V κ Q nL ω h pc lv (.int (nI n) :: .int (nI 0) :: .ref b :: .int (nI 0) :: .ref (1000 + j) :: st) := by
  intro H locs ls hl hP hD hS hE T hT X
  have hM : M < 2 ^ 31 := by have := sh_len b; rw [hs2] at this; exact this
  have hR := K.2.2.2.2.2.2.2.1
  have hcat : ((st.map (ph ω.2.1)).map fun v => v.category).sum = (st.map fun v => v.category).sum := by rw [List.map_map]; congr 1; apply List.map_congr_left; intro v _; exact ph_cat _ v
  have e : (wl (kC κ) ω h).set b (ω.2.1 b, .inl (kC κ 0, M, .inl (va_cpy (stV j) (h b) 0 0 n))) = wl (kC κ) ω (rw2 h b (va_cpy (stV j) (h b) 0 0 n)) := by
    refine wl_set (fun y hy => rw2_off hy) ?_
    rw [hs2, rw2_at]
    rfl
  have c3 : (nI n).toNatClampNeg = n := nI_clamp (by omega)
  have c0 : (nI 0).toNatClampNeg = 0 := nI_clamp (by omega)
  have t3 : (nI n).toInt = (n : Int) := nI_toInt (by omega)
  have t0 : (nI 0).toInt = 0 := nI_toInt (by omega)
  obtain ⟨scr, s1, s2, s3, s4, -, s5, s6⟩ := (hE.1 j hj).2
  have hw := wl_arr (cA := kC κ) (h := h) hb hs2
  have q0 : H[ω.2.1 (1000 + j)]? = some scr := (hS.2.1 _ (Array.getElem?_eq_some_iff.mp s1).1 s6).trans s1
  have q1 : H[ω.2.1 b]? = some (vp_cell (kC κ 0) (M, .inl (h b))) := hP b _ hw
  obtain ⟨s7, k0, hk0, m0, hm0⟩ := s2
  obtain ⟨-, k1, hk1, m1, hm1⟩ := (K.2.2.2.2.2.1.2 0 (kC κ 0, .int) rfl).1 M (fun i => .int (h b i))
  obtain ⟨vm', X', step⟩ := X.arraycopy K.1 K.2.2.2.1 (K.2.2.2.2.1 _ w1) (K.2.2.2.2.1 _ w2) (K.2.2.2.2.1 _ w3) (K.2.2.2.2.1 _ w4) (src := ω.2.1 (1000 + j)) (dst := ω.2.1 b) (cs := scr) (cd := vp_cell (kC κ 0) (M, .inl (h b))) (srcPos := nI 0) (destPos := nI 0) (n := nI n) (by rw [hT]; exact q0) (by rw [hT]; exact q1) s7 (fun _ q => by cases q) s3 (fun q => by cases q) hk0 hk1 hm0 hm1 (by simp [refKind]) (nI_pos (by omega)) (nI_pos (by omega)) (nI_pos (by omega))
    (by rw [t0, t3]; omega) (by rw [t0, t3]; show ¬ _ > ((arrV (kC κ 0) M (fun i => .int (h b i))).slots.size : Int); rw [arrV_size]; omega)
    (fun vm₁ _ i hi => by
      rw [c3] at hi
      have e1 : scr.slots.getD ((nI 0).toNatClampNeg + i) .null = .int (stV j i) := by
        rw [c0, Nat.zero_add, Array.getD_eq_getD_getElem?, s5 i (by omega)]; rfl
      rw [e1]; exact ⟨rfl, trivial⟩)
    (g := F0 (km κ) pc ls ((.int (nI n) :: .int (nI 0) :: .ref b :: .int (nI 0) :: .ref (1000 + j) :: st).map (ph ω.2.1))) rfl (hl.1.trans K.2.2.1.symm) (rest := st.map (ph ω.2.1)) rfl (by rw [K.2.1]; exact d) (by rw [hR]; exact hr.1) (by show 2 * 0 + _ + _ ≤ _; rw [hcat, hR]; omega)
  have e1 : copied scr (vp_cell (kC κ 0) (M, .inl (h b))) (nI 0) (nI 0) (nI n) = vp_cell (kC κ 0) (M, .inl (va_cpy (stV j) (h b) (nI 0).toNatClampNeg (nI 0).toNatClampNeg (nI n).toNatClampNeg)) := va_copiedX (fun x => .int x) scr (kC κ 0) (stV j) (h b) s5 (by rw [c0, c3]; omega)
  rw [c0, c3] at e1
  rw [e1] at X' step
  have hl2 : ω.2.1 b < H.size := (Array.getElem?_eq_some_iff.mp q1).1
  have hheap : ((T.setVm vm').setCell (ω.2.1 b) (vp_cell (kC κ 0) (M, .inl (va_cpy (stV j) (h b) 0 0 n)))).heap = H.setIfInBounds (ω.2.1 b) (vp_cell (kC κ 0) (M, .inl (va_cpy (stV j) (h b) 0 0 n))) := by rw [← hT]; rfl
  have oq : ∀ q : Nat, q ≠ ω.2.1 b → (H.setIfInBounds (ω.2.1 b) (vp_cell (kC κ 0) (M, .inl (va_cpy (stV j) (h b) 0 0 n))))[q]? = H[q]? := fun q hq => by simp [Array.getElem?_setIfInBounds, Ne.symm hq]
  have hc1 : (H.setIfInBounds (ω.2.1 b) (vp_cell (kC κ 0) (M, .inl (va_cpy (stV j) (h b) 0 0 n))))[ω.2.1 b]? = some (vp_cell (kC κ 0) (M, .inl (va_cpy (stV j) (h b) 0 0 n))) := by simp [Array.getElem?_setIfInBounds, hl2]
  have hP1 : va_P (kD κ) CL ((wl (kC κ) ω h).set b (ω.2.1 b, .inl (kC κ 0, M, .inl (va_cpy (stV j) (h b) 0 0 n)))) (H.setIfInBounds (ω.2.1 b) (vp_cell (kC κ 0) (M, .inl (va_cpy (stV j) (h b) 0 0 n)))) := hP.set hD hw hc1 oq
  have hD1 : va_D (kA κ) ((wl (kC κ) ω h).set b (ω.2.1 b, .inl (kC κ 0, M, .inl (va_cpy (stV j) (h b) 0 0 n)))) := hD.set hw
  rw [e] at hP1 hD1
  obtain ⟨t, a1, b1⟩ := kk _ _ ls hl hP1 hD1 ⟨by simp; exact hS.1, fun q g1 g2 => by
      rw [oq q (fun z => g2 (by rw [z]; exact hD.2 b _ hw))]
      exact hS.2.1 q g1 g2, fun q hq => by
      rcases List.mem_append.mp hq with z | z
      · exact hS.2.2 q z
      · obtain ⟨y, -, hy⟩ := List.mem_map.mp z
        rw [← hy]
        exact hD.2 b _ hw⟩ hE _ hheap X'
  exact ⟨t, step t a1, b1⟩
end VCOPYS
