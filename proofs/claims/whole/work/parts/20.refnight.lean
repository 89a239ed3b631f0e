/-! the reference's night -/
theorem mP.ne2 {P : Nat} (h : mP P) : P ≠ 118 ∧ P ≠ 123 ∧ P ≠ 124 := by rcases h with rfl | rfl | rfl <;> omega
theorem TXD.st {h : Mm} {τ : Nat → List Int32} {P k : Nat} {v : Int32} (H : TXD (h 119) τ) (hk : k < 110) : TXD (u2 h P k v 119) τ := by
  by_cases e : P = 119
  · subst e; exact H.same (fun i h1 h2 _ => u2_ne (by omega))
  · rw [u2_off (fun q => e q.symm)]; exact H
theorem TXD.X {h h2 : Mm} {τ : Nat → List Int32} (H : TXD (h 119) τ) (F : FrX h h2) : TXD (h2 119) τ := by rw [F.1 119 (by omega) (by omega)]; exact H
noncomputable def EN (τ : Nat → List Int32) (d : Dm) (w : Nat) : Int32 := entersE τ (easeD d w) (boldD d) (d (46 + 6 * w + 5)) (d (46 + 6 * w + 4)) (d 8)
def UPd (d : Dm) (w : Nat) : Prop := nI 70 ≤ easeD d w + boldD d
noncomputable def tryD (τ : Nat → List Int32) (d : Dm) (w : Nat) : Dm := if EN τ d w = 0 then turnD d w (UPd d w) else comeD τ d w
/-- the first i WAYS seen: the best of those that weren't tried, or none -/
def NXI (tr : Nat → Prop) (mem : Nat → Int32) (k : Nat) (v : Int32) : Prop := (v = (-1) ∧ ∀ x, x < k → tr x) ∨ (∃ b, b < k ∧ v = nI b ∧ ¬ tr b ∧ ∀ x, x < k → ¬ tr x → x ≠ b → bet mem b x)
theorem nx_0 {tr : Nat → Prop} {mem : Nat → Int32} : NXI tr mem 0 (-1) := Or.inl ⟨rfl, fun x h => absurd h (Nat.not_lt_zero _)⟩
theorem nx_skip {tr : Nat → Prop} {mem : Nat → Int32} {k : Nat} {v : Int32} (H : NXI tr mem k v) (h : tr k) : NXI tr mem (k + 1) v := by
  rcases H with ⟨e, h1⟩ | ⟨b, hb, e, h1, h2⟩
  · refine Or.inl ⟨e, fun x hx => ?_⟩
    by_cases q : x = k
    · rw [q]; exact h
    · exact h1 x (by omega)
  · refine Or.inr ⟨b, by omega, e, h1, fun x hx h3 h4 => ?_⟩
    by_cases q : x = k
    · rw [q] at h3; exact absurd h h3
    · exact h2 x (by omega) h3 h4
theorem nx_first {tr : Nat → Prop} {mem : Nat → Int32} {k : Nat} (h : ¬ tr k) (h1 : ∀ x, x < k → tr x) : NXI tr mem (k + 1) (nI k) :=
  Or.inr ⟨k, by omega, rfl, h, fun x hx h3 h4 => absurd (h1 x (by omega)) h3⟩
theorem nx_new {tr : Nat → Prop} {mem : Nat → Int32} {k b : Nat} (h : ¬ tr k) (hb : b < k) (h2 : ∀ x, x < k → ¬ tr x → x ≠ b → bet mem b x) (c : mem b < mem k) : NXI tr mem (k + 1) (nI k) := by
  refine Or.inr ⟨k, by omega, rfl, h, fun x hx h3 h4 => ?_⟩
  rw [i32_lt] at c
  by_cases q : x = b
  · rw [q]; exact Or.inl c
  · have := h2 x (by omega) h3 q
    unfold bet at *; omega
theorem nx_keep {tr : Nat → Prop} {mem : Nat → Int32} {k b : Nat} (hb : b < k) (h1 : ¬ tr b) (h2 : ∀ x, x < k → ¬ tr x → x ≠ b → bet mem b x) (c : mem k ≤ mem b) : NXI tr mem (k + 1) (nI b) := by
  refine Or.inr ⟨b, by omega, rfl, h1, fun x hx h3 h4 => ?_⟩
  rw [i32_le] at c
  by_cases q : x = k
  · rw [q]; unfold bet; omega
  · exact h2 x (by omega) h3 h4
theorem nx_eq {tr : Nat → Prop} {mem mem0 : Nat → Int32} {n i : Nat} {f : Nat → Nat} {v : Int32} (H : NXI tr mem n v) (ho : isOrd mem0 n f) (hi : i ≤ n) (htr : ∀ x, tr x ↔ ∃ j, j < i ∧ f j = x) (hm : ∀ x, x < n → ¬ tr x → mem x = mem0 x) : v = if i < n then nI (f i) else (-1) := by
  have un : ∀ j, i ≤ j → j < n → ¬ tr (f j) := fun j h1 h2 q => by
    obtain ⟨j2, h3, h4⟩ := (htr _).mp q
    exact bet_ne (ho.2 j2 j (by omega) h2) h4
  rcases H with ⟨e, h1⟩ | ⟨b, hb, e, h1, h2⟩
  · rw [if_neg (fun q => un i (Nat.le_refl _) q (h1 _ (ho.1 i q))), e]
  · obtain ⟨j, hj, ej⟩ := ord_onto ho hb
    have hji : i ≤ j := by
      rcases Nat.lt_or_ge j i with q | q
      · exact absurd ((htr b).mpr ⟨j, q, ej⟩) h1
      · exact q
    have hin : i < n := by omega
    rw [if_pos hin, e]
    by_cases q : i = j
    · rw [q, ej]
    · have b1 := ho.2 i j (by omega) hj
      have b2 := h2 (f i) (ho.1 i hin) (un i (Nat.le_refl _) hin) (fun x => bet_ne b1 (x.trans ej.symm))
      rw [ej] at b1
      have e1 := hm _ (ho.1 i hin) (un i (Nat.le_refl _) hin)
      have e2 := hm b hb h1
      unfold bet at b1 b2
      rw [e1, e2] at b2
      omega
def FrT (P : Nat) (h h2 : Mm) : Prop := (∀ a, a ≠ P → a ≠ 118 → a ≠ 123 → h2 a = h a) ∧ ∀ k, ¬ (5 ≤ k ∧ k ≤ 10) → h2 118 k = h 118 k
theorem FrT.r {P : Nat} {h : Mm} : FrT P h h := ⟨fun _ _ _ _ => rfl, fun _ _ => rfl⟩
theorem FrT.t {P : Nat} {h h1 h2 : Mm} (H : FrT P h h1) (H2 : FrT P h1 h2) : FrT P h h2 := ⟨fun a p q r => (H2.1 a p q r).trans (H.1 a p q r), fun k q => (H2.2 k q).trans (H.2 k q)⟩
theorem FrX.T {P : Nat} {h h2 : Mm} (H : FrX h h2) : FrT P h h2 := ⟨fun a _ q r => H.1 a q r, H.2⟩
theorem FrT.G {P : Nat} {h h2 : Mm} (H : FrT P h h2) : FrG P h h2 := ⟨fun a p q r _ => H.1 a p q r, H.2⟩
theorem FrT.u {P k : Nat} {v : Int32} {h h1 : Mm} (H : FrT P h h1) (hP : P ≠ 118) : FrT P h (u2 h1 P k v) := ⟨fun a p q r => (u2_off p).trans (H.1 a p q r), fun j q => (u2_ne (by omega)).trans (H.2 j q)⟩
theorem nlt0 {n : Nat} (h : n < 2 ^ 31) : ¬ nI n < 0 := by rw [i32_lt, nI_toInt h, Int32.toInt_zero]; omega

abbrev P_X10_nextWay (h : Mm) (P : Nat) (tr : Nat → Prop) : Option Value → Mm → Prop := fun r h2 => (∃ v, r = some (.int v) ∧ NXI tr (memD (h P)) (nwD (h P)) v) ∧ h = h2
theorem c_X10_nextWay {l : Launch} (h : Mm) (P : Nat) (tr : Nat → Prop) (hm : mP P) (hd : DOK (h P)) (htr : ∀ x, x < 8 → h 124 x = b2i (tr x)) : Con l yX10_nextWay cX10_nextWay 4 (some .int) 1 22 132 GL h [.ref 118, .ref P] (P_X10_nextWay h P tr) := by
  refine Con.ofV (own := "FoxRoundsModel") (nm := "nextWay") rfl rfl (by decide) (Nat.le_of_ble_eq_true rfl) ?_
  intro κ ρ hkl K
  subst hkl
  show V κ (QM κ (132, ρ, GL, 0, 0) (P_X10_nextWay h P tr)) 4 (132, ρ, GL, 0, 0) h 0 [(0, .ref 118), (1, .ref P)] []
  have hn8 := hd.nw8
  refine v_iconst (v := (-1)) K dX10_nextWay_0 (by decide) ?_
  refine v_istore_n (lv2 := [(2, .int ((-1))), (0, .ref 118), (1, .ref P)]) K dX10_nextWay_1 (by decide) rfl ?_
  refine v_iconstN K 0 rfl dX10_nextWay_2 ?_
  refine v_istore_n (lv2 := [(3, .int (nI 0)), (2, .int ((-1))), (0, .ref 118), (1, .ref P)]) K dX10_nextWay_3 (by decide) rfl ?_
  have L4 : ∀ (mm : Nat) (v : Int32) (k : Nat) (hk : k ≤ nwD (h P)) (hv : NXI tr (memD (h P)) k v), nwD (h P) + 1 - k < mm → V κ (QM κ (132, ρ, GL, 0, 0) (P_X10_nextWay h P tr)) 4 (132, ρ, GL, 0, 0) h 4 [(0, .ref 118), (1, .ref P), (2, .int v), (3, .int (nI k))] [] := by
    intro mm
    induction mm with
    | zero => intro v k hk hv hmm; exact absurd hmm (Nat.not_lt_zero _)
    | succ mm ih4 =>
      intro v k hk hv hmm
      refine v_iload_n K dX10_nextWay_4 rfl ?_
      refine v_aload_n K dX10_nextWay_5 rfl ?_
      refine v_bipushN K 10 rfl dX10_nextWay_6 ?_
      refine v_iald (x := nI (nwD (h P))) K hm.s hm.l (by omega) hd.nw dX10_nextWay_8 ?_
      refine v_icmpN_ge (tgt := 52) K (by omega) (by omega) dX10_nextWay_9 rfl (fun c1 => ?_) (fun c1 => ?_)
      · skip
        refine v_iload_n K dX10_nextWay_52 rfl ?_
        refine v_iret K dX10_nextWay_53 ?_
        have e : k = nwD (h P) := by omega
        subst e
        exact ⟨⟨v, rfl, hv⟩, rfl⟩
      · skip
        refine v_aload_n K dX10_nextWay_12 rfl ?_
        refine v_getr (q := 124) K fX10_25 sh_118 pl_118 gl_118_12 dX10_nextWay_13 ?_
        refine v_iload_n K dX10_nextWay_16 rfl ?_
        refine v_zald (x := b2i (tr k)) K sh_124 pl_124 (by omega) (htr k (by omega)) dX10_nextWay_17 ?_
        refine v_ifB_ne (tgt := 44) K dX10_nextWay_18 rfl (fun c2 => ?_) (fun c2 => ?_)
        · skip
          refine v_iload_n K dX10_nextWay_44 rfl ?_
          refine v_istore_n (lv2 := [(2, .int v), (0, .ref 118), (1, .ref P), (3, .int (nI k))]) K dX10_nextWay_45 (by decide) rfl ?_
          refine v_iincN (lv2 := [(3, .int (nI (k + 1))), (2, .int v), (0, .ref 118), (1, .ref P)]) K 1 dX10_nextWay_46 rfl rfl (by decide) rfl ?_
          refine v_goto (tgt := 4) K dX10_nextWay_49 rfl ?_
          refine v_sub (lv2 := [(0, .ref 118), (1, .ref P), (2, .int v), (3, .int (nI (k + 1)))]) (by simp) ?_
          exact ih4 v (k + 1) (by first | assumption | omega | rfl) (by exact nx_skip hv c2) (by omega)
        · skip
          rcases hv with ⟨rfl, hall⟩ | ⟨b, hb, rfl, hbt, hbb⟩
          · skip
            skip
            refine v_iload_n K dX10_nextWay_21 rfl ?_
            refine v_if_lt (tgt := 40) K dX10_nextWay_22 rfl (fun c3 => ?_) (fun c3 => ?_)
            · skip
              refine v_iload_n K dX10_nextWay_40 rfl ?_
              refine v_goto (tgt := 45) K dX10_nextWay_41 rfl ?_
              refine v_istore_n (lv2 := [(2, .int (nI k)), (0, .ref 118), (1, .ref P), (3, .int (nI k))]) K dX10_nextWay_45 (by decide) rfl ?_
              refine v_iincN (lv2 := [(3, .int (nI (k + 1))), (2, .int (nI k)), (0, .ref 118), (1, .ref P)]) K 1 dX10_nextWay_46 rfl rfl (by decide) rfl ?_
              refine v_goto (tgt := 4) K dX10_nextWay_49 rfl ?_
              refine v_sub (lv2 := [(0, .ref 118), (1, .ref P), (2, .int (nI k)), (3, .int (nI (k + 1)))]) (by simp) ?_
              exact ih4 (nI k) (k + 1) (by first | assumption | omega | rfl) (by exact nx_first c2 hall) (by omega)
            · skip
              exact absurd (by decide) c3
          · skip
            skip
            refine v_iload_n K dX10_nextWay_21 rfl ?_
            refine v_if_lt (tgt := 40) K dX10_nextWay_22 rfl (fun c4 => ?_) (fun c4 => ?_)
            · skip
              exact absurd c4 (nlt0 (by omega))
            · skip
              refine v_aload_n K dX10_nextWay_25 rfl ?_
              refine v_iload_n K dX10_nextWay_26 rfl ?_
              refine v_iconstN K 5 rfl dX10_nextWay_27 ?_
              refine v_callS (As := [.ref P, .int (nI k), .int (nI 5)]) K (c_X10_of h P k 5 hm (by omega)) lX10_170 rfl ⟨by decide, by decide⟩ (Nat.le_of_ble_eq_true rfl) dX10_nextWay_28 (fun r1 h1 hp1 => ?_) rfl
              obtain ⟨rfl, rfl⟩ := hp1
              refine v_some ?_
              refine v_aload_n K dX10_nextWay_31 rfl ?_
              refine v_iload_n K dX10_nextWay_32 rfl ?_
              refine v_iconstN K 5 rfl dX10_nextWay_33 ?_
              refine v_callS (As := [.ref P, .int (nI b), .int (nI 5)]) K (c_X10_of h P b 5 hm (by omega)) lX10_170 rfl ⟨by decide, by decide⟩ (Nat.le_of_ble_eq_true rfl) dX10_nextWay_34 (fun r2 h2 hp2 => ?_) rfl
              obtain ⟨rfl, rfl⟩ := hp2
              refine v_some ?_
              refine v_icmp_le (tgt := 44) K dX10_nextWay_37 rfl (fun c5 => ?_) (fun c5 => ?_)
              · skip
                refine v_iload_n K dX10_nextWay_44 rfl ?_
                refine v_istore_n (lv2 := [(2, .int (nI b)), (0, .ref 118), (1, .ref P), (3, .int (nI k))]) K dX10_nextWay_45 (by decide) rfl ?_
                refine v_iincN (lv2 := [(3, .int (nI (k + 1))), (2, .int (nI b)), (0, .ref 118), (1, .ref P)]) K 1 dX10_nextWay_46 rfl rfl (by decide) rfl ?_
                refine v_goto (tgt := 4) K dX10_nextWay_49 rfl ?_
                refine v_sub (lv2 := [(0, .ref 118), (1, .ref P), (2, .int (nI b)), (3, .int (nI (k + 1)))]) (by simp) ?_
                exact ih4 (nI b) (k + 1) (by first | assumption | omega | rfl) (by exact nx_keep (mem := memD (h P)) hb hbt hbb c5) (by omega)
              · skip
                refine v_iload_n K dX10_nextWay_40 rfl ?_
                refine v_goto (tgt := 45) K dX10_nextWay_41 rfl ?_
                refine v_istore_n (lv2 := [(2, .int (nI k)), (0, .ref 118), (1, .ref P), (3, .int (nI k))]) K dX10_nextWay_45 (by decide) rfl ?_
                refine v_iincN (lv2 := [(3, .int (nI (k + 1))), (2, .int (nI k)), (0, .ref 118), (1, .ref P)]) K 1 dX10_nextWay_46 rfl rfl (by decide) rfl ?_
                refine v_goto (tgt := 4) K dX10_nextWay_49 rfl ?_
                refine v_sub (lv2 := [(0, .ref 118), (1, .ref P), (2, .int (nI k)), (3, .int (nI (k + 1)))]) (by simp) ?_
                exact ih4 (nI k) (k + 1) (by first | assumption | omega | rfl) (by exact nx_new (mem := memD (h P)) c2 hb hbb (Int32.not_le.mp c5)) (by omega)
  refine v_sub (lv2 := [(0, .ref 118), (1, .ref P), (2, .int ((-1))), (3, .int (nI 0))]) (by simp) ?_
  exact L4 (nwD (h P) + 1 - 0 + 1) ((-1)) 0 (by first | assumption | omega | rfl) (by exact nx_0) (Nat.lt_succ_self _)

abbrev P_X10_tries (h : Mm) (τ : Nat → List Int32) (P w : Nat) : Option Value → Mm → Prop := fun r h2 => r = some (.int (b2i (¬ EN τ (h P) w = 0))) ∧ h2 P = tryD τ (h P) w ∧ TXD (h2 119) τ ∧ FrT P h h2
theorem c_X10_tries {l : Launch} (h : Mm) (τ : Nat → List Int32) (P w : Nat) (hm : mP P) (hd : DOK (h P)) (hw : w < 8) (hT : TXD (h 119) τ) : Con l yX10_tries cX10_tries 7 (some .boolean) 40 916 132 GL h [.ref 118, .ref P, .int (nI w)] (P_X10_tries h τ P w) := by
  refine Con.ofV (own := "FoxRoundsModel") (nm := "tries") rfl rfl (by decide) (Nat.le_of_ble_eq_true rfl) ?_
  intro κ ρ hkl K
  subst hkl
  show V κ (QM κ (132, ρ, GL, 0, 0) (P_X10_tries h τ P w)) 7 (132, ρ, GL, 0, 0) h 0 [(0, .ref 118), (1, .ref P), (2, .int (nI w))] []
  have hne := hm.ne2
  refine v_aload_n K dX10_tries_0 rfl ?_
  refine v_iload_n K dX10_tries_1 rfl ?_
  refine v_callS (As := [.ref P, .int (nI w)]) K (c_X10_easeOf h P w hm (by omega) (hd.kd (by omega))) lX10_177 rfl ⟨by decide, by decide⟩ (Nat.le_of_ble_eq_true rfl) dX10_tries_2 (fun r1 h1 hp1 => ?_) rfl
  obtain ⟨rfl, rfl⟩ := hp1
  refine v_some ?_
  refine v_istore_n (lv2 := [(3, .int (easeD (h P) w)), (0, .ref 118), (1, .ref P), (2, .int (nI w))]) K dX10_tries_5 (by decide) rfl ?_
  refine v_aload_n K dX10_tries_6 rfl ?_
  refine v_callS (As := [.ref P]) K (c_X10_boldOf h P hm hd) lX10_202 rfl ⟨by decide, by decide⟩ (Nat.le_of_ble_eq_true rfl) dX10_tries_7 (fun r2 h2 hp2 => ?_) rfl
  obtain ⟨rfl, rfl⟩ := hp2
  refine v_some ?_
  refine v_istore (lv2 := [(4, .int (boldD (h P))), (3, .int (easeD (h P) w)), (0, .ref 118), (1, .ref P), (2, .int (nI w))]) K dX10_tries_10 (by decide) rfl ?_
  refine v_bipushN K 46 rfl dX10_tries_12 ?_
  refine v_bipushN K 6 rfl dX10_tries_14 ?_
  refine v_iload_n K dX10_tries_16 rfl ?_
  refine v_imulN K dX10_tries_17 ?_
  refine v_iaddN K dX10_tries_18 ?_
  refine v_istore (lv2 := [(5, .int (nI (46 + (6 * w)))), (4, .int (boldD (h P))), (3, .int (easeD (h P) w)), (0, .ref 118), (1, .ref P), (2, .int (nI w))]) K dX10_tries_19 (by decide) rfl ?_
  refine v_aload_n K dX10_tries_21 rfl ?_
  refine v_aload_n K dX10_tries_22 rfl ?_
  refine v_iload_n K dX10_tries_23 rfl ?_
  refine v_iload_n K dX10_tries_24 rfl ?_
  refine v_iload K dX10_tries_25 rfl ?_
  refine v_callV (As := [.ref P, .int (nI w), .int (easeD (h P) w), .int (boldD (h P))]) K (c_X10_enters h τ P w (easeD (h P) w) (boldD (h P)) hT hm hw) lX10_205 ck_X10 rfl sh_118 pl_118 rfl ⟨by decide, by decide⟩ (Nat.le_of_ble_eq_true rfl) dX10_tries_27 (fun r3 h3 hp3 => ?_) rfl
  obtain ⟨rfl, hXq1⟩ := hp3
  have hPq1 : h3 P = (h P) := (hXq1.1 P hne.1 hne.2.1).trans (rfl : h P = h P)
  have hTq1 := hT.X hXq1
  have hGq1 := (FrT.r (P := P) (h := h)).t hXq1.T
  refine v_some ?_
  refine v_ifB_eq (tgt := 93) K dX10_tries_30 rfl (fun c1 => ?_) (fun c1 => ?_)
  · skip
    refine v_aload_n K dX10_tries_93 rfl ?_
    refine v_iload K dX10_tries_94 rfl ?_
    refine v_iconstN K 4 rfl dX10_tries_96 ?_
    refine v_iaddN K dX10_tries_97 ?_
    refine v_aload_n K dX10_tries_98 rfl ?_
    refine v_iload K dX10_tries_99 rfl ?_
    refine v_iconstN K 4 rfl dX10_tries_101 ?_
    refine v_iaddN K dX10_tries_102 ?_
    refine v_iald (x := (h P) (46 + (6 * w) + 4)) K hm.s hm.l (by omega) (congrFun hPq1 _) dX10_tries_103 ?_
    refine v_iconstN K 1 rfl dX10_tries_104 ?_
    refine v_iadd K dX10_tries_105 ?_
    refine v_iconstN K 0 rfl dX10_tries_106 ?_
    refine v_bipushN K 99 rfl dX10_tries_107 ?_
    refine v_callS (As := [.int (((h P) (46 + (6 * w) + 4)) + (nI 1)), .int (nI 0), .int (nI 99)]) K (c_X10_held h3 (((h P) (46 + (6 * w) + 4)) + (nI 1)) (nI 0) (nI 99)) lX10_131 rfl ⟨by decide, by decide⟩ (Nat.le_of_ble_eq_true rfl) dX10_tries_109 (fun r4 h4 hp4 => ?_) rfl
    obtain ⟨rfl, rfl⟩ := hp4
    refine v_some ?_
    refine v_iast K hm.s hm.l (by omega) dX10_tries_112 ?_
    have hEs1 : (u2 h3 P (46 + (6 * w) + 4) (heldM (((h P) (46 + (6 * w) + 4)) + (nI 1)) (nI 0) (nI 99))) P = (upd (h P) (46 + (6 * w) + 4) (heldM (((h P) (46 + (6 * w) + 4)) + (nI 1)) (nI 0) (nI 99))) := by rw [u2_row, hPq1]
    have hTs1 : TXD ((u2 h3 P (46 + (6 * w) + 4) (heldM (((h P) (46 + (6 * w) + 4)) + (nI 1)) (nI 0) (nI 99))) 119) τ := hTq1.st (by omega)
    have hGs1 : FrT P h (u2 h3 P (46 + (6 * w) + 4) (heldM (((h P) (46 + (6 * w) + 4)) + (nI 1)) (nI 0) (nI 99))) := hGq1.u hne.1
    refine v_aload_n K dX10_tries_113 rfl ?_
    refine v_iload K dX10_tries_114 rfl ?_
    refine v_iconstN K 5 rfl dX10_tries_116 ?_
    refine v_iaddN K dX10_tries_117 ?_
    refine v_aload_n K dX10_tries_118 rfl ?_
    refine v_iload K dX10_tries_119 rfl ?_
    refine v_iconstN K 5 rfl dX10_tries_121 ?_
    refine v_iaddN K dX10_tries_122 ?_
    refine v_iald (x := (upd (h P) (46 + (6 * w) + 4) (heldM (((h P) (46 + (6 * w) + 4)) + (nI 1)) (nI 0) (nI 99))) (46 + (6 * w) + 5)) K hm.s hm.l (by omega) (congrFun hEs1 _) dX10_tries_123 ?_
    refine v_iload_n K dX10_tries_124 rfl ?_
    refine v_iload K dX10_tries_125 rfl ?_
    refine v_iadd K dX10_tries_127 ?_
    refine v_bipushN K 70 rfl dX10_tries_128 ?_
    refine v_icmp_lt (tgt := 137) K dX10_tries_130 rfl (fun c2 => ?_) (fun c2 => ?_)
    · skip
      refine v_iconst (v := (-1)) K dX10_tries_137 (by decide) ?_
      refine v_iadd K dX10_tries_138 ?_
      refine v_iconstN K 0 rfl dX10_tries_139 ?_
      refine v_bipushN K 9 rfl dX10_tries_140 ?_
      refine v_callS (As := [.int (((upd (h P) (46 + (6 * w) + 4) (heldM (((h P) (46 + (6 * w) + 4)) + (nI 1)) (nI 0) (nI 99))) (46 + (6 * w) + 5)) + ((-1))), .int (nI 0), .int (nI 9)]) K (c_X10_held ((u2 h3 P (46 + (6 * w) + 4) (heldM (((h P) (46 + (6 * w) + 4)) + (nI 1)) (nI 0) (nI 99)))) (((upd (h P) (46 + (6 * w) + 4) (heldM (((h P) (46 + (6 * w) + 4)) + (nI 1)) (nI 0) (nI 99))) (46 + (6 * w) + 5)) + ((-1))) (nI 0) (nI 9)) lX10_131 rfl ⟨by decide, by decide⟩ (Nat.le_of_ble_eq_true rfl) dX10_tries_142 (fun r5 h5 hp5 => ?_) rfl
      obtain ⟨rfl, rfl⟩ := hp5
      refine v_some ?_
      refine v_iast K hm.s hm.l (by omega) dX10_tries_145 ?_
      have hEs2 : (u2 (u2 h3 P (46 + (6 * w) + 4) (heldM (((h P) (46 + (6 * w) + 4)) + (nI 1)) (nI 0) (nI 99))) P (46 + (6 * w) + 5) (heldM (((upd (h P) (46 + (6 * w) + 4) (heldM (((h P) (46 + (6 * w) + 4)) + (nI 1)) (nI 0) (nI 99))) (46 + (6 * w) + 5)) + ((-1))) (nI 0) (nI 9))) P = (upd (upd (h P) (46 + (6 * w) + 4) (heldM (((h P) (46 + (6 * w) + 4)) + (nI 1)) (nI 0) (nI 99))) (46 + (6 * w) + 5) (heldM (((upd (h P) (46 + (6 * w) + 4) (heldM (((h P) (46 + (6 * w) + 4)) + (nI 1)) (nI 0) (nI 99))) (46 + (6 * w) + 5)) + ((-1))) (nI 0) (nI 9))) := by rw [u2_row, hEs1]
      have hTs2 : TXD ((u2 (u2 h3 P (46 + (6 * w) + 4) (heldM (((h P) (46 + (6 * w) + 4)) + (nI 1)) (nI 0) (nI 99))) P (46 + (6 * w) + 5) (heldM (((upd (h P) (46 + (6 * w) + 4) (heldM (((h P) (46 + (6 * w) + 4)) + (nI 1)) (nI 0) (nI 99))) (46 + (6 * w) + 5)) + ((-1))) (nI 0) (nI 9))) 119) τ := hTs1.st (by omega)
      have hGs2 : FrT P h (u2 (u2 h3 P (46 + (6 * w) + 4) (heldM (((h P) (46 + (6 * w) + 4)) + (nI 1)) (nI 0) (nI 99))) P (46 + (6 * w) + 5) (heldM (((upd (h P) (46 + (6 * w) + 4) (heldM (((h P) (46 + (6 * w) + 4)) + (nI 1)) (nI 0) (nI 99))) (46 + (6 * w) + 5)) + ((-1))) (nI 0) (nI 9))) := hGs1.u hne.1
      refine v_iconstN K 0 rfl dX10_tries_146 ?_
      refine v_zret K dX10_tries_147 (by decide) ?_
      have hz : EN τ (h P) w = 0 := Classical.byContradiction c1
      have e2 : tryD τ (h P) w = turnD (h P) w (UPd (h P) w) := if_pos hz
      have e3 : pmI (UPd (h P) w) = (-1) := pm_f (fun q => absurd c2 (Int32.not_lt.mpr q))
      exact ⟨some_int (b2i_f c1).symm, by rw [e2, hEs2]; unfold turnD; rw [e3, upd_ne (show 46 + 6 * w + 5 ≠ 46 + 6 * w + 4 by omega)], hTs2, hGs2⟩
    · skip
      refine v_iconstN K 1 rfl dX10_tries_133 ?_
      refine v_goto (tgt := 138) K dX10_tries_134 rfl ?_
      refine v_iadd K dX10_tries_138 ?_
      refine v_iconstN K 0 rfl dX10_tries_139 ?_
      refine v_bipushN K 9 rfl dX10_tries_140 ?_
      refine v_callS (As := [.int (((upd (h P) (46 + (6 * w) + 4) (heldM (((h P) (46 + (6 * w) + 4)) + (nI 1)) (nI 0) (nI 99))) (46 + (6 * w) + 5)) + (nI 1)), .int (nI 0), .int (nI 9)]) K (c_X10_held ((u2 h3 P (46 + (6 * w) + 4) (heldM (((h P) (46 + (6 * w) + 4)) + (nI 1)) (nI 0) (nI 99)))) (((upd (h P) (46 + (6 * w) + 4) (heldM (((h P) (46 + (6 * w) + 4)) + (nI 1)) (nI 0) (nI 99))) (46 + (6 * w) + 5)) + (nI 1)) (nI 0) (nI 9)) lX10_131 rfl ⟨by decide, by decide⟩ (Nat.le_of_ble_eq_true rfl) dX10_tries_142 (fun r6 h6 hp6 => ?_) rfl
      obtain ⟨rfl, rfl⟩ := hp6
      refine v_some ?_
      refine v_iast K hm.s hm.l (by omega) dX10_tries_145 ?_
      have hEs3 : (u2 (u2 h3 P (46 + (6 * w) + 4) (heldM (((h P) (46 + (6 * w) + 4)) + (nI 1)) (nI 0) (nI 99))) P (46 + (6 * w) + 5) (heldM (((upd (h P) (46 + (6 * w) + 4) (heldM (((h P) (46 + (6 * w) + 4)) + (nI 1)) (nI 0) (nI 99))) (46 + (6 * w) + 5)) + (nI 1)) (nI 0) (nI 9))) P = (upd (upd (h P) (46 + (6 * w) + 4) (heldM (((h P) (46 + (6 * w) + 4)) + (nI 1)) (nI 0) (nI 99))) (46 + (6 * w) + 5) (heldM (((upd (h P) (46 + (6 * w) + 4) (heldM (((h P) (46 + (6 * w) + 4)) + (nI 1)) (nI 0) (nI 99))) (46 + (6 * w) + 5)) + (nI 1)) (nI 0) (nI 9))) := by rw [u2_row, hEs1]
      have hTs3 : TXD ((u2 (u2 h3 P (46 + (6 * w) + 4) (heldM (((h P) (46 + (6 * w) + 4)) + (nI 1)) (nI 0) (nI 99))) P (46 + (6 * w) + 5) (heldM (((upd (h P) (46 + (6 * w) + 4) (heldM (((h P) (46 + (6 * w) + 4)) + (nI 1)) (nI 0) (nI 99))) (46 + (6 * w) + 5)) + (nI 1)) (nI 0) (nI 9))) 119) τ := hTs1.st (by omega)
      have hGs3 : FrT P h (u2 (u2 h3 P (46 + (6 * w) + 4) (heldM (((h P) (46 + (6 * w) + 4)) + (nI 1)) (nI 0) (nI 99))) P (46 + (6 * w) + 5) (heldM (((upd (h P) (46 + (6 * w) + 4) (heldM (((h P) (46 + (6 * w) + 4)) + (nI 1)) (nI 0) (nI 99))) (46 + (6 * w) + 5)) + (nI 1)) (nI 0) (nI 9))) := hGs1.u hne.1
      refine v_iconstN K 0 rfl dX10_tries_146 ?_
      refine v_zret K dX10_tries_147 (by decide) ?_
      have hz : EN τ (h P) w = 0 := Classical.byContradiction c1
      have e2 : tryD τ (h P) w = turnD (h P) w (UPd (h P) w) := if_pos hz
      have e3 : pmI (UPd (h P) w) = nI 1 := pm_t (Int32.not_lt.mp c2)
      exact ⟨some_int (b2i_f c1).symm, by rw [e2, hEs3]; unfold turnD; rw [e3, upd_ne (show 46 + 6 * w + 5 ≠ 46 + 6 * w + 4 by omega)], hTs3, hGs3⟩
  · skip
    refine v_aload_n K dX10_tries_33 rfl ?_
    refine v_aload_n K dX10_tries_34 rfl ?_
    refine v_iconstN K 0 rfl dX10_tries_35 ?_
    refine v_iald (x := (h P) 0) K hm.s hm.l (by omega) (congrFun hPq1 _) dX10_tries_36 ?_
    refine v_aload_n K dX10_tries_37 rfl ?_
    refine v_iconstN K 1 rfl dX10_tries_38 ?_
    refine v_iald (x := (h P) 1) K hm.s hm.l (by omega) (congrFun hPq1 _) dX10_tries_39 ?_
    refine v_aload_n K dX10_tries_40 rfl ?_
    refine v_iconstN K 2 rfl dX10_tries_41 ?_
    refine v_iald (x := (h P) 2) K hm.s hm.l (by omega) (congrFun hPq1 _) dX10_tries_42 ?_
    refine v_callV (As := [.int ((h P) 0), .int ((h P) 1), .int ((h P) 2)]) K (c_X10_killsOf h3 τ ((h P) 0) ((h P) 1) ((h P) 2) hTq1) lX10_134 ck_X10 rfl sh_118 pl_118 rfl ⟨by decide, by decide⟩ (Nat.le_of_ble_eq_true rfl) dX10_tries_43 (fun r7 h7 hp7 => ?_) rfl
    obtain ⟨rfl, hXq2⟩ := hp7
    have hPq2 : h7 P = (h P) := (hXq2.1 P hne.1 hne.2.1).trans hPq1
    have hTq2 := hTq1.X hXq2
    have hGq2 := hGq1.t hXq2.T
    refine v_some ?_
    refine v_istore (lv2 := [(6, .int (killsE τ ((h P) 0) ((h P) 1) ((h P) 2))), (5, .int (nI (46 + (6 * w)))), (4, .int (boldD (h P))), (3, .int (easeD (h P) w)), (0, .ref 118), (1, .ref P), (2, .int (nI w))]) K dX10_tries_46 (by decide) rfl ?_
    refine v_aload_n K dX10_tries_48 rfl ?_
    refine v_iconstN K 0 rfl dX10_tries_49 ?_
    refine v_dup2 K dX10_tries_50 rfl rfl ?_
    refine v_iald (x := (h P) 0) K hm.s hm.l (by omega) (congrFun hPq2 _) dX10_tries_51 ?_
    refine v_iload K dX10_tries_52 rfl ?_
    refine v_isub K dX10_tries_54 ?_
    refine v_iast K hm.s hm.l (by omega) dX10_tries_55 ?_
    have hEs4 : (u2 h7 P 0 (((h P) 0) - (killsE τ ((h P) 0) ((h P) 1) ((h P) 2)))) P = (upd (h P) 0 (((h P) 0) - (killsE τ ((h P) 0) ((h P) 1) ((h P) 2)))) := by rw [u2_row, hPq2]
    have hTs4 : TXD ((u2 h7 P 0 (((h P) 0) - (killsE τ ((h P) 0) ((h P) 1) ((h P) 2)))) 119) τ := hTq2.st (by omega)
    have hGs4 : FrT P h (u2 h7 P 0 (((h P) 0) - (killsE τ ((h P) 0) ((h P) 1) ((h P) 2)))) := hGq2.u hne.1
    refine v_aload_n K dX10_tries_56 rfl ?_
    refine v_bipushN K 9 rfl dX10_tries_57 ?_
    refine v_dup2 K dX10_tries_59 rfl rfl ?_
    refine v_iald (x := (h P) 9) K hm.s hm.l (by omega) ((congrFun hEs4 _).trans (upd_ne (by omega))) dX10_tries_60 ?_
    refine v_iload K dX10_tries_61 rfl ?_
    refine v_iadd K dX10_tries_63 ?_
    refine v_iast K hm.s hm.l (by omega) dX10_tries_64 ?_
    have hEs5 : (u2 (u2 h7 P 0 (((h P) 0) - (killsE τ ((h P) 0) ((h P) 1) ((h P) 2)))) P 9 (((h P) 9) + (killsE τ ((h P) 0) ((h P) 1) ((h P) 2)))) P = (upd (upd (h P) 0 (((h P) 0) - (killsE τ ((h P) 0) ((h P) 1) ((h P) 2)))) 9 (((h P) 9) + (killsE τ ((h P) 0) ((h P) 1) ((h P) 2)))) := by rw [u2_row, hEs4]
    have hTs5 : TXD ((u2 (u2 h7 P 0 (((h P) 0) - (killsE τ ((h P) 0) ((h P) 1) ((h P) 2)))) P 9 (((h P) 9) + (killsE τ ((h P) 0) ((h P) 1) ((h P) 2)))) 119) τ := hTs4.st (by omega)
    have hGs5 : FrT P h (u2 (u2 h7 P 0 (((h P) 0) - (killsE τ ((h P) 0) ((h P) 1) ((h P) 2)))) P 9 (((h P) 9) + (killsE τ ((h P) 0) ((h P) 1) ((h P) 2)))) := hGs4.u hne.1
    refine v_aload_n K dX10_tries_65 rfl ?_
    refine v_iconstN K 2 rfl dX10_tries_66 ?_
    refine v_aload_n K dX10_tries_67 rfl ?_
    refine v_iconstN K 2 rfl dX10_tries_68 ?_
    refine v_iald (x := (h P) 2) K hm.s hm.l (by omega) (((congrFun hEs5 _).trans (upd_ne (by omega))).trans (upd_ne (by omega))) dX10_tries_69 ?_
    refine v_bipushN K 10 rfl dX10_tries_70 ?_
    refine v_iload K dX10_tries_72 rfl ?_
    refine v_imul K dX10_tries_74 ?_
    refine v_isub K dX10_tries_75 ?_
    refine v_iconstN K 0 rfl dX10_tries_76 ?_
    refine v_bipushN K 99 rfl dX10_tries_77 ?_
    refine v_callS (As := [.int (((h P) 2) - ((nI 10) * (killsE τ ((h P) 0) ((h P) 1) ((h P) 2)))), .int (nI 0), .int (nI 99)]) K (c_X10_held ((u2 (u2 h7 P 0 (((h P) 0) - (killsE τ ((h P) 0) ((h P) 1) ((h P) 2)))) P 9 (((h P) 9) + (killsE τ ((h P) 0) ((h P) 1) ((h P) 2))))) (((h P) 2) - ((nI 10) * (killsE τ ((h P) 0) ((h P) 1) ((h P) 2)))) (nI 0) (nI 99)) lX10_131 rfl ⟨by decide, by decide⟩ (Nat.le_of_ble_eq_true rfl) dX10_tries_79 (fun r8 h8 hp8 => ?_) rfl
    obtain ⟨rfl, rfl⟩ := hp8
    refine v_some ?_
    refine v_iast K hm.s hm.l (by omega) dX10_tries_82 ?_
    have hEs6 : (u2 (u2 (u2 h7 P 0 (((h P) 0) - (killsE τ ((h P) 0) ((h P) 1) ((h P) 2)))) P 9 (((h P) 9) + (killsE τ ((h P) 0) ((h P) 1) ((h P) 2)))) P 2 (heldM (((h P) 2) - ((nI 10) * (killsE τ ((h P) 0) ((h P) 1) ((h P) 2)))) (nI 0) (nI 99))) P = (upd (upd (upd (h P) 0 (((h P) 0) - (killsE τ ((h P) 0) ((h P) 1) ((h P) 2)))) 9 (((h P) 9) + (killsE τ ((h P) 0) ((h P) 1) ((h P) 2)))) 2 (heldM (((h P) 2) - ((nI 10) * (killsE τ ((h P) 0) ((h P) 1) ((h P) 2)))) (nI 0) (nI 99))) := by rw [u2_row, hEs5]
    have hTs6 : TXD ((u2 (u2 (u2 h7 P 0 (((h P) 0) - (killsE τ ((h P) 0) ((h P) 1) ((h P) 2)))) P 9 (((h P) 9) + (killsE τ ((h P) 0) ((h P) 1) ((h P) 2)))) P 2 (heldM (((h P) 2) - ((nI 10) * (killsE τ ((h P) 0) ((h P) 1) ((h P) 2)))) (nI 0) (nI 99))) 119) τ := hTs5.st (by omega)
    have hGs6 : FrT P h (u2 (u2 (u2 h7 P 0 (((h P) 0) - (killsE τ ((h P) 0) ((h P) 1) ((h P) 2)))) P 9 (((h P) 9) + (killsE τ ((h P) 0) ((h P) 1) ((h P) 2)))) P 2 (heldM (((h P) 2) - ((nI 10) * (killsE τ ((h P) 0) ((h P) 1) ((h P) 2)))) (nI 0) (nI 99))) := hGs5.u hne.1
    refine v_aload_n K dX10_tries_83 rfl ?_
    refine v_iload K dX10_tries_84 rfl ?_
    refine v_iconstN K 5 rfl dX10_tries_86 ?_
    refine v_iaddN K dX10_tries_87 ?_
    refine v_bipushN K 9 rfl dX10_tries_88 ?_
    refine v_iast K hm.s hm.l (by omega) dX10_tries_90 ?_
    have hEs7 : (u2 (u2 (u2 (u2 h7 P 0 (((h P) 0) - (killsE τ ((h P) 0) ((h P) 1) ((h P) 2)))) P 9 (((h P) 9) + (killsE τ ((h P) 0) ((h P) 1) ((h P) 2)))) P 2 (heldM (((h P) 2) - ((nI 10) * (killsE τ ((h P) 0) ((h P) 1) ((h P) 2)))) (nI 0) (nI 99))) P (46 + (6 * w) + 5) (nI 9)) P = (upd (upd (upd (upd (h P) 0 (((h P) 0) - (killsE τ ((h P) 0) ((h P) 1) ((h P) 2)))) 9 (((h P) 9) + (killsE τ ((h P) 0) ((h P) 1) ((h P) 2)))) 2 (heldM (((h P) 2) - ((nI 10) * (killsE τ ((h P) 0) ((h P) 1) ((h P) 2)))) (nI 0) (nI 99))) (46 + (6 * w) + 5) (nI 9)) := by rw [u2_row, hEs6]
    have hTs7 : TXD ((u2 (u2 (u2 (u2 h7 P 0 (((h P) 0) - (killsE τ ((h P) 0) ((h P) 1) ((h P) 2)))) P 9 (((h P) 9) + (killsE τ ((h P) 0) ((h P) 1) ((h P) 2)))) P 2 (heldM (((h P) 2) - ((nI 10) * (killsE τ ((h P) 0) ((h P) 1) ((h P) 2)))) (nI 0) (nI 99))) P (46 + (6 * w) + 5) (nI 9)) 119) τ := hTs6.st (by omega)
    have hGs7 : FrT P h (u2 (u2 (u2 (u2 h7 P 0 (((h P) 0) - (killsE τ ((h P) 0) ((h P) 1) ((h P) 2)))) P 9 (((h P) 9) + (killsE τ ((h P) 0) ((h P) 1) ((h P) 2)))) P 2 (heldM (((h P) 2) - ((nI 10) * (killsE τ ((h P) 0) ((h P) 1) ((h P) 2)))) (nI 0) (nI 99))) P (46 + (6 * w) + 5) (nI 9)) := hGs6.u hne.1
    refine v_iconstN K 1 rfl dX10_tries_91 ?_
    refine v_zret K dX10_tries_92 (by decide) ?_
    have e2 : tryD τ (h P) w = comeD τ (h P) w := if_neg c1
    exact ⟨some_int (b2i_t c1).symm, by rw [e2, hEs7]; rfl, hTs7, hGs7⟩

theorem tr_set {h : Mm} {f : Nat → Nat} {i : Nat} (H : ∀ x, x < 8 → h 124 x = b2i (∃ j, j < i ∧ f j = x)) : ∀ x, x < 8 → u2 h 124 (f i) (nI 1) 124 x = b2i (∃ j, j < i + 1 ∧ f j = x) := by
  intro x hx
  by_cases e : x = f i
  · subst e; rw [u2_at]; exact (b2i_t ⟨i, by omega, rfl⟩).symm
  · rw [u2_ne (Or.inr e), H x hx]
    congr 1
    refine propext ⟨fun ⟨j, h1, h2⟩ => ⟨j, by omega, h2⟩, fun ⟨j, h1, h2⟩ => ⟨j, ?_, h2⟩⟩
    rcases Nat.lt_or_ge j i with q | q
    · exact q
    · have : j = i := by omega
      subst this; exact absurd h2.symm e
theorem tr_0 {f : Nat → Nat} : ∀ x, (False ↔ ∃ j, j < 0 ∧ f j = x) := fun x => ⟨fun q => q.elim, fun ⟨j, h, _⟩ => absurd h (Nat.not_lt_zero _)⟩
theorem me_turn {dd d : Dm} {f : Nat → Nat} {i n : Nat} {up : Prop} (H : ∀ x, x < n → ¬ (∃ j, j < i ∧ f j = x) → memD dd x = memD d x) : ∀ x, x < n → ¬ (∃ j, j < i + 1 ∧ f j = x) → memD (turnD dd (f i) up) x = memD d x := by
  intro x hx hn
  have hne : x ≠ f i := fun q => hn ⟨i, by omega, q.symm⟩
  rw [← H x hx (fun ⟨j, h1, h2⟩ => hn ⟨j, by omega, h2⟩)]
  unfold memD turnD
  rw [upd_ne (by omega), upd_ne (by omega)]
noncomputable def goD (τ : Nat → List Int32) (d : Dm) : Dm := if (rD τ d).1 < 0 then (rD τ d).2 else comeD τ (rD τ d).2 (rD τ d).1.toNatClampNeg
theorem go_out {τ : Nat → List Int32} {d dd : Dm} (e : rD τ d = ((-1), dd)) : (rD τ d).1 = (-1) ∧ goD τ d = dd := by
  unfold goD; rw [e]; exact ⟨rfl, if_pos (show (-1 : Int32) < 0 by decide)⟩
theorem go_in {τ : Nat → List Int32} {d dd : Dm} {w : Nat} (hw : w < 8) (e : rD τ d = (nI w, dd)) : (rD τ d).1 = nI w ∧ goD τ d = comeD τ dd w := by
  unfold goD; rw [e]; refine ⟨rfl, ?_⟩
  show (if nI w < 0 then dd else comeD τ dd (nI w).toNatClampNeg) = _
  rw [if_neg (nlt0 (by omega)), nI_clamp (by omega)]
theorem pos_ix {v : Int32} {n : Nat} (hn : n ≤ 2 ^ 30) (h : ix v n) (h0 : ¬ v = 0) : ¬ v ≤ 0 := by
  obtain ⟨j, hj, rfl⟩ := h
  rw [i32_eq, nI_toInt (by omega), Int32.toInt_zero] at h0
  rw [i32_le, nI_toInt (by omega), Int32.toInt_zero]; omega

abbrev P_X10_goesRound (h : Mm) (τ : Nat → List Int32) (P : Nat) : Option Value → Mm → Prop := fun r h2 => r = some (.int (rD τ (h P)).1) ∧ h2 P = goD τ (h P) ∧ TXD (h2 119) τ ∧ FrG P h h2
theorem c_X10_goesRound {l : Launch} (h : Mm) (τ : Nat → List Int32) (P : Nat) (hm : mP P) (hd : DOK (h P)) (hT : TXD (h 119) τ) : Con l yX10_goesRound cX10_goesRound 4 (some .int) 41 942 132 GL h [.ref 118, .ref P] (P_X10_goesRound h τ P) := by
  refine Con.ofV (own := "FoxRoundsModel") (nm := "goesRound") rfl rfl (by decide) (Nat.le_of_ble_eq_true rfl) ?_
  intro κ ρ hkl K
  subst hkl
  show V κ (QM κ (132, ρ, GL, 0, 0) (P_X10_goesRound h τ P)) 4 (132, ρ, GL, 0, 0) h 0 [(0, .ref 118), (1, .ref P)] []
  have hne := hm.ne2
  have hn8 := hd.nw8
  obtain ⟨f, ho⟩ := ord_ex (memD (h P)) (nwD (h P))
  refine v_aload_n K dX10_goesRound_0 rfl ?_
  refine v_iconstN K 0 rfl dX10_goesRound_1 ?_
  refine v_iald (x := h P 0) K hm.s hm.l (by omega) rfl dX10_goesRound_2 ?_
  refine v_if_ne (tgt := 8) K dX10_goesRound_3 rfl (fun c1 => ?_) (fun c1 => ?_)
  · skip
    have hc0 := c1
    refine v_iconstN K 0 rfl dX10_goesRound_8 ?_
    refine v_istore_n (lv2 := [(2, .int (nI 0)), (0, .ref 118), (1, .ref P)]) K dX10_goesRound_9 (by decide) rfl ?_
    have L10 : ∀ (mm : Nat) (a : Nat) (h1 : Mm) (ha : a ≤ 8) (hO : ∀ x, x ≠ 124 → h1 x = h x) (hr0 : ∀ x, x < a → h1 124 x = nI 0), 9 - a < mm → V κ (QM κ (132, ρ, GL, 0, 0) (P_X10_goesRound h τ P)) 4 (132, ρ, GL, 0, 0) h1 10 [(0, .ref 118), (1, .ref P), (2, .int (nI a))] [] := by
      intro mm
      induction mm with
      | zero => intro a h1 ha hO hr0 hmm; exact absurd hmm (Nat.not_lt_zero _)
      | succ mm ih10 =>
        intro a h1 ha hO hr0 hmm
        refine v_iload_n K dX10_goesRound_10 rfl ?_
        refine v_bipushN K 8 rfl dX10_goesRound_11 ?_
        refine v_icmpN_ge (tgt := 29) K (by omega) (by omega) dX10_goesRound_13 rfl (fun c2 => ?_) (fun c2 => ?_)
        · skip
          have hr8 : ∀ x, x < 8 → h1 124 x = b2i False := fun x hx => (hr0 x (by omega)).trans (b2i_f (fun q => q)).symm
          refine v_iconstN K 0 rfl dX10_goesRound_29 ?_
          refine v_istore_n (lv2 := [(2, .int (nI 0)), (0, .ref 118), (1, .ref P)]) K dX10_goesRound_30 (by decide) rfl ?_
          refine v_aload_n K dX10_goesRound_31 rfl ?_
          refine v_aload_n K dX10_goesRound_32 rfl ?_
          have e1 : h1 P = h P := hO P (by omega)
          refine v_callV (As := [.ref P]) K (c_X10_nextWay h1 P (fun _ => False) hm (by rw [e1]; exact hd) hr8) lX10_209 ck_X10 rfl sh_118 pl_118 rfl ⟨by decide, by decide⟩ (Nat.le_of_ble_eq_true rfl) dX10_goesRound_33 (fun r1 h1 hp1 => ?_) rfl
          obtain ⟨⟨v, rfl, hv⟩, rfl⟩ := hp1
          rw [e1] at hv
          have hv := nx_eq hv ho (Nat.zero_le _) tr_0 (fun _ _ _ => rfl)
          refine v_some ?_
          refine v_istore_n (lv2 := [(3, .int v), (2, .int (nI 0)), (0, .ref 118), (1, .ref P)]) K dX10_goesRound_36 (by decide) rfl ?_
          have L37 : ∀ (mm : Nat) (i : Nat) (tk : Int32) (dd : Dm) (v : Int32) (h3 : Mm) (hi : i ≤ nwD (h P)) (hd1 : DOK dd) (hnw : nwD dd = nwD (h P)) (hE1 : h3 P = dd) (hT1 : TXD (h3 119) τ) (hG1 : FrG P h h3) (htr : ∀ x, x < 8 → h3 124 x = b2i (∃ j, j < i ∧ f j = x)) (hme : ∀ x, x < nwD (h P) → ¬ (∃ j, j < i ∧ f j = x) → memD dd x = memD (h P) x) (hv : v = if i < nwD (h P) then nI (f i) else (-1)) (hrd : roundD τ (h P) = roundF τ f (nwD (h P) - i) i tk dd), nwD (h P) + 1 - i < mm → V κ (QM κ (132, ρ, GL, 0, 0) (P_X10_goesRound h τ P)) 4 (132, ρ, GL, 0, 0) h3 37 [(0, .ref 118), (1, .ref P), (2, .int tk), (3, .int v)] [] := by
            intro mm
            induction mm with
            | zero => intro i tk dd v h3 hi hd1 hnw hE1 hT1 hG1 htr hme hv hrd hmm; exact absurd hmm (Nat.not_lt_zero _)
            | succ mm ih37 =>
              intro i tk dd v h3 hi hd1 hnw hE1 hT1 hG1 htr hme hv hrd hmm
              refine v_iload_n K dX10_goesRound_37 rfl ?_
              refine v_if_lt (tgt := 91) K dX10_goesRound_38 rfl (fun c3 => ?_) (fun c3 => ?_)
              · skip
                have hout : ¬ i < nwD (h P) := fun q => by rw [hv, if_pos q] at c3; exact absurd c3 (nlt0 (by have := ho.1 i q; omega))
                refine v_iconst (v := (-1)) K dX10_goesRound_91 (by decide) ?_
                refine v_iret K dX10_goesRound_92 ?_
                have hp : ¬ h P 0 ≤ 0 := pos_ix (by decide) hd.2.2.1.1 hc0
                have e : rD τ (h P) = ((-1), dd) := by
                  unfold rD
                  rw [if_neg hp, hrd, show nwD (h P) - i = 0 by omega]
                  rfl
                exact ⟨by rw [e], by rw [(go_out e).2]; exact hE1, hT1, hG1⟩
              · skip
                have hin : i < nwD (h P) := Classical.byContradiction fun q => by rw [hv, if_neg q] at c3; exact c3 (by decide)
                have hv2 : v = nI (f i) := hv.trans (if_pos hin)
                have hfi := ho.1 i hin
                subst hv2
                refine v_aload_n K dX10_goesRound_41 rfl ?_
                refine v_getr (q := 124) K fX10_25 sh_118 pl_118 gl_118_12 dX10_goesRound_42 ?_
                refine v_iload_n K dX10_goesRound_45 rfl ?_
                refine v_iconstN K 1 rfl dX10_goesRound_46 ?_
                refine v_zast K sh_124 pl_124 (by omega) (by decide) dX10_goesRound_47 ?_
                have hEs1 : (u2 h3 124 (f i) (nI 1)) P = dd := (u2_off hne.2.2).trans hE1
                have hTs1 : TXD ((u2 h3 124 (f i) (nI 1)) 119) τ := by rw [u2_off (by omega)]; exact hT1
                have hGs1 : FrG P h (u2 h3 124 (f i) (nI 1)) := hG1.tr
                have hrs1 := tr_set htr
                refine v_iload_n K dX10_goesRound_48 rfl ?_
                refine v_bipushN K 20 rfl dX10_goesRound_49 ?_
                refine v_aload_n K dX10_goesRound_51 rfl ?_
                refine v_iload_n K dX10_goesRound_52 rfl ?_
                refine v_iconstN K 1 rfl dX10_goesRound_53 ?_
                refine v_callS (As := [.ref P, .int (nI (f i)), .int (nI 1)]) K (c_X10_of ((u2 h3 124 (f i) (nI 1))) P (f i) 1 hm (by omega)) lX10_170 rfl ⟨by decide, by decide⟩ (Nat.le_of_ble_eq_true rfl) dX10_goesRound_54 (fun r2 h2 hp2 => ?_) rfl
                obtain ⟨rfl, rfl⟩ := hp2
                refine v_some ?_
                rw [congrFun hEs1 (46 + 6 * f i + 1)]
                refine v_iconstN K 2 rfl dX10_goesRound_57 ?_
                refine v_idiv K dX10_goesRound_58 (by decide) ?_
                refine v_iadd K dX10_goesRound_59 ?_
                refine v_iadd K dX10_goesRound_60 ?_
                refine v_nm (fun tk2 e_tk2 => ?_)
                refine v_istore_n (lv2 := [(2, .int tk2), (0, .ref 118), (1, .ref P), (3, .int (nI (f i)))]) K dX10_goesRound_61 (by decide) rfl ?_
                refine v_iload_n K dX10_goesRound_62 rfl ?_
                refine v_aload_n K dX10_goesRound_63 rfl ?_
                refine v_iconstN K 5 rfl dX10_goesRound_64 ?_
                refine v_iald (x := dd 5) K hm.s hm.l (by omega) (congrFun hEs1 _) dX10_goesRound_65 ?_
                refine v_icmp_le (tgt := 71) K dX10_goesRound_66 rfl (fun c4 => ?_) (fun c4 => ?_)
                · skip
                  refine v_aload_n K dX10_goesRound_71 rfl ?_
                  refine v_aload_n K dX10_goesRound_72 rfl ?_
                  refine v_iload_n K dX10_goesRound_73 rfl ?_
                  refine v_callV (As := [.ref P, .int (nI (f i))]) K (c_X10_tries ((u2 h3 124 (f i) (nI 1))) τ P (f i) hm (by rw [hEs1]; exact hd1) (by omega) hTs1) lX10_212 ck_X10 rfl sh_118 pl_118 rfl ⟨by decide, by decide⟩ (Nat.le_of_ble_eq_true rfl) dX10_goesRound_74 (fun r3 h3 hp3 => ?_) rfl
                  obtain ⟨rfl, hDt, hTt, hGt⟩ := hp3
                  rw [hEs1] at hDt
                  have hrt : ∀ x, x < 8 → h3 124 x = b2i (∃ j, j < i + 1 ∧ f j = x) := fun x hx => by rw [hGt.1 124 hne.2.2.symm (by omega) (by omega)]; exact hrs1 x hx
                  refine v_some ?_
                  rw [hEs1]
                  refine v_ifB_eq (tgt := 82) K dX10_goesRound_77 rfl (fun c5 => ?_) (fun c5 => ?_)
                  · skip
                    have hz : EN τ dd (f i) = 0 := Classical.byContradiction c5
                    have etr : tryD τ dd (f i) = turnD dd (f i) (UPd dd (f i)) := if_pos hz
                    rw [etr] at hDt
                    have hd2 : DOK (turnD dd (f i) (UPd dd (f i))) := hd1.turn (by omega)
                    refine v_aload_n K dX10_goesRound_82 rfl ?_
                    refine v_aload_n K dX10_goesRound_83 rfl ?_
                    refine v_callV (As := [.ref P]) K (c_X10_nextWay h3 P (fun x => ∃ j, j < i + 1 ∧ f j = x) hm (by rw [hDt]; exact hd2) hrt) lX10_209 ck_X10 rfl sh_118 pl_118 rfl ⟨by decide, by decide⟩ (Nat.le_of_ble_eq_true rfl) dX10_goesRound_84 (fun r4 h4 hp4 => ?_) rfl
                    obtain ⟨⟨v2, rfl, hv2⟩, rfl⟩ := hp4
                    rw [hDt] at hv2
                    have hv2 := nx_eq (i := i + 1) (by rw [← hnw, ← nwD_turn]; exact hv2) ho (by omega) (fun _ => Iff.rfl) (me_turn hme)
                    refine v_some ?_
                    refine v_istore_n (lv2 := [(3, .int v2), (2, .int tk2), (0, .ref 118), (1, .ref P)]) K dX10_goesRound_87 (by decide) rfl ?_
                    refine v_goto (tgt := 37) K dX10_goesRound_88 rfl ?_
                    refine v_sub (lv2 := [(0, .ref 118), (1, .ref P), (2, .int tk2), (3, .int v2)]) (by simp) ?_
                    exact ih37 (i + 1) tk2 ((turnD dd (f i) (UPd dd (f i)))) v2 h3 (by omega) (by exact hd2) (by exact nwD_turn.trans hnw) (by exact hDt) (by exact hTt) (by exact (hGs1.t hGt.G)) (by exact hrt) (by exact me_turn hme) (by exact hv2) (by rw [hrd, show nwD (h P) - i = (nwD (h P) - (i + 1)) + 1 by omega, roundF_on (by rw [← e_tk2]; assumption) hz, ← e_tk2]; rfl) (by omega)
                  · skip
                    refine v_iload_n K dX10_goesRound_80 rfl ?_
                    refine v_iret K dX10_goesRound_81 ?_
                    have hp : ¬ h P 0 ≤ 0 := pos_ix (by decide) hd.2.2.1.1 hc0
                    have e : rD τ (h P) = (nI (f i), dd) := by
                      unfold rD
                      rw [if_neg hp, hrd, show nwD (h P) - i = (nwD (h P) - i - 1) + 1 by omega]
                      exact roundF_in (by rw [← e_tk2]; assumption) c5
                    exact ⟨by rw [e], by rw [(go_in (by omega) e).2, hDt]; exact if_neg c5, hTt, (hGs1.t hGt.G)⟩
                · skip
                  refine v_iconst (v := (-1)) K dX10_goesRound_69 (by decide) ?_
                  refine v_iret K dX10_goesRound_70 ?_
                  have hp : ¬ h P 0 ≤ 0 := pos_ix (by decide) hd.2.2.1.1 hc0
                  have e : rD τ (h P) = ((-1), dd) := by
                    unfold rD
                    rw [if_neg hp, hrd, show nwD (h P) - i = (nwD (h P) - i - 1) + 1 by omega]
                    exact roundF_out (by rw [← e_tk2]; assumption)
                  exact ⟨by rw [e], by rw [(go_out e).2]; exact hEs1, hTs1, hGs1⟩
          refine v_sub (lv2 := [(0, .ref 118), (1, .ref P), (2, .int (nI 0)), (3, .int v)]) (by simp) ?_
          exact L37 (nwD (h P) + 1 - 0 + 1) 0 ((nI 0)) ((h P)) v h1 (by omega) (by exact hd) (by rfl) (by exact e1) (by rw [hO 119 (by omega)]; exact hT) (by exact ⟨fun x _ _ _ q => hO x q, fun k _ => by rw [hO 118 (by omega)]⟩) (by intro x hx; rw [hr8 x hx]; exact congrArg b2i (propext (tr_0 x))) (by exact fun _ _ _ => rfl) (by exact hv) (by exact roundD_eq ho) (Nat.lt_succ_self _)
        · skip
          refine v_aload_n K dX10_goesRound_16 rfl ?_
          refine v_getr (q := 124) K fX10_25 sh_118 pl_118 gl_118_12 dX10_goesRound_17 ?_
          refine v_iload_n K dX10_goesRound_20 rfl ?_
          refine v_iconstN K 0 rfl dX10_goesRound_21 ?_
          refine v_zast K sh_124 pl_124 (by omega) (by decide) dX10_goesRound_22 ?_
          refine v_iincN (lv2 := [(2, .int (nI (a + 1))), (0, .ref 118), (1, .ref P)]) K 1 dX10_goesRound_23 rfl rfl (by decide) rfl ?_
          refine v_goto (tgt := 10) K dX10_goesRound_26 rfl ?_
          refine v_sub (lv2 := [(0, .ref 118), (1, .ref P), (2, .int (nI (a + 1)))]) (by simp) ?_
          exact ih10 (a + 1) ((u2 h1 124 a (nI 0))) (by first | assumption | omega | rfl) (by intro x hx; rw [u2_off hx]; exact hO x hx) (by intro x hx; by_cases q : x = a; (subst q; exact u2_at); rw [u2_ne (Or.inr q)]; exact hr0 x (by omega)) (by omega)
    refine v_sub (lv2 := [(0, .ref 118), (1, .ref P), (2, .int (nI 0))]) (by simp) ?_
    exact L10 (9 - 0 + 1) 0 h (by first | assumption | omega | rfl) (by intro x _; rfl) (by intro x hx; exact absurd hx (Nat.not_lt_zero _)) (Nat.lt_succ_self _)
  · skip
    refine v_iconst (v := (-1)) K dX10_goesRound_6 (by decide) ?_
    refine v_iret K dX10_goesRound_7 ?_
    have e0 := c1
    have e : rD τ (h P) = ((-1), h P) := if_pos (by rw [show h P 0 = nI 0 from e0]; decide)
    exact ⟨by rw [e], by rw [(go_out e).2], hT, FrG.r⟩
