/-! a row's numbers beyond its end are nobody's -/
theorem arr_cong {cI : ClassId} {N : Nat} {f f2 : Nat → Value} (e : ∀ j, j < N → f j = f2 j) : arrV cI N f = arrV cI N f2 := by
  unfold arrV
  congr 1
  exact congrArg (Array.ofFn (n := N)) (funext fun j => e j.val j.isLt)
theorem wl_at {cA : Nat → ClassId} {ω : Wo} {h : Mm} {k : Nat} {q : Nat × va_E} (e : (wl cA ω h)[k]? = some q) : k < ω.1 ∧ q = (ω.2.1 k, cel cA ω.2.1 (SH k) (ω.2.2.1 k) (h k)) := by
  have hk : k < ω.1 := by
    have := (List.getElem?_eq_some_iff.mp e).1
    unfold wl at this
    rwa [List.length_map, List.length_range] at this
  rw [wl_get hk] at e
  exact ⟨hk, (Option.some.inj e).symm⟩
theorem va_P.row {D : va_G} {cl : List vw_C} {cA : Nat → ClassId} {ω : Wo} {h : Mm} {a j N : Nat} {f : Nat → Int32} {H : Heap} (hs : SH a = (2, j, N)) (e : ∀ k, k < N → h a k = f k) (hP : va_P D cl (wl cA ω h) H) : va_P D cl (wl cA ω (rw2 h a f)) H := by
  intro k q hq
  obtain ⟨hk, rfl⟩ := wl_at hq
  have h0 := hP k _ (wl_get hk)
  by_cases c : k = a
  · subst c
    rw [rw2_at, hs]
    rw [hs] at h0
    have h0 : H[ω.2.1 k]? = some (arrV (cA j) N (fun i => .int (h k i))) := h0
    show H[ω.2.1 k]? = some (arrV (cA j) N (fun i => .int (f i)))
    rw [h0, arr_cong (f2 := fun i => .int (f i)) (fun i hi => by rw [e i hi])]
  · rw [rw2_off c]; exact h0
theorem va_D.row {A : Nat → Prop} {cA : Nat → ClassId} {ω : Wo} {h h2 : Mm} (hD : va_D A (wl cA ω h)) : va_D A (wl cA ω h2) := by
  refine ⟨fun i j p q hp hq e => ?_, fun k q hq => ?_⟩
  · obtain ⟨hi, rfl⟩ := wl_at hp
    obtain ⟨hj, rfl⟩ := wl_at hq
    exact hD.1 i j _ _ (wl_get hi) (wl_get hj) e
  · obtain ⟨hk, rfl⟩ := wl_at hq
    exact (hD.2 k _ (wl_get (cA := cA) (h := h) hk) : A (ω.2.1 k))
theorem v_row {κ : KT} {Q : State → Prop} {nL : Nat} {ω : Wo} {h : Mm} {pc : Nat} {lv : List (Nat × Value)} {st : List Value} {a j N : Nat} {f : Nat → Int32} (hs : SH a = (2, j, N)) (e : ∀ k, k < N → h a k = f k) (k : V κ Q nL ω (rw2 h a f) pc lv st) : V κ Q nL ω h pc lv st :=
  fun H locs ls hl hP hD hS hE => k H locs ls hl (hP.row hs e) hD.row hS hE
theorem cpy_rw {h : Mm} {F T : Nat} : rw2 (cpyN h F T 340) T (h F) = rw2 h T (h F) := by unfold cpyN; exact rw2_rw2
theorem cpy_at {h : Mm} {F T k : Nat} (hk : k < 340) : cpyN h F T 340 T k = h F k := by unfold cpyN; rw [rw2_at]; exact if_pos hk

abbrev P_X10_copies2 (h : Mm) (F T : Nat) : Option Value → Mm → Prop := fun r h2 => r = none ∧ rw2 h T (h F) = h2
theorem c_X10_copies2 {l : Launch} (h : Mm) (F T : Nat) (hF : mP F) (hT : mP T) (e : F ≠ T) : Con l yX10_copies cX10_copies 3 none 0 0 132 GL h [.ref F, .ref T] (P_X10_copies2 h F T) := by
  refine Con.ofV (own := "FoxRoundsModel") (nm := "copies") rfl rfl (by decide) (Nat.le_of_ble_eq_true rfl) ?_
  intro κ ρ hkl K
  subst hkl
  show V κ (QM κ (132, ρ, GL, 0, 0) (P_X10_copies2 h F T)) 3 (132, ρ, GL, 0, 0) h 0 [(0, .ref F), (1, .ref T)] []
  refine v_iconstN K 0 rfl dX10_copies_0 ?_
  refine v_istore_n (lv2 := [(2, .int (nI 0)), (0, .ref F), (1, .ref T)]) K dX10_copies_1 (by decide) rfl ?_
  have L2 : ∀ (mm : Nat) (i : Nat) (h1 : Mm) (hi : i ≤ 340) (hm : h1 = cpyN h F T i), 341 - i < mm → V κ (QM κ (132, ρ, GL, 0, 0) (P_X10_copies2 h F T)) 3 (132, ρ, GL, 0, 0) h1 2 [(0, .ref F), (1, .ref T), (2, .int (nI i))] [] := by
    intro mm
    induction mm with
    | zero => intro i h1 hi hm hmm; exact absurd hmm (Nat.not_lt_zero _)
    | succ mm ih2 =>
      intro i h1 hi hm hmm
      refine v_iload_n K dX10_copies_2 rfl ?_
      refine v_sipushN K 340 rfl dX10_copies_3 ?_
      refine v_icmpN_ge (tgt := 21) K (by omega) (by omega) dX10_copies_6 rfl (fun c1 => ?_) (fun c1 => ?_)
      · skip
        obtain rfl : i = 340 := by omega
        rw [hm]
        refine v_row (a := T) (f := h F) hT.s (fun k hk => cpy_at hk) ?_
        rw [cpy_rw]
        refine v_vret K dX10_copies_21 ?_
        exact ⟨rfl, rfl⟩
      · skip
        refine v_aload_n K dX10_copies_9 rfl ?_
        refine v_iload_n K dX10_copies_10 rfl ?_
        refine v_aload_n K dX10_copies_11 rfl ?_
        refine v_iload_n K dX10_copies_12 rfl ?_
        refine v_iald (x := h1 F i) K hF.s hF.l (by omega) rfl dX10_copies_13 ?_
        refine v_iast K hT.s hT.l (by omega) dX10_copies_14 ?_
        refine v_iincN (lv2 := [(2, .int (nI (i + 1))), (0, .ref F), (1, .ref T)]) K 1 dX10_copies_15 rfl rfl (by decide) rfl ?_
        refine v_goto (tgt := 2) K dX10_copies_18 rfl ?_
        refine v_sub (lv2 := [(0, .ref F), (1, .ref T), (2, .int (nI (i + 1)))]) (by simp) ?_
        exact ih2 (i + 1) ((u2 h1 T i (h1 F i))) (by first | assumption | omega | rfl) (by rw [hm]; exact cpyN_s e) (by omega)
  refine v_sub (lv2 := [(0, .ref F), (1, .ref T), (2, .int (nI 0))]) (by simp) ?_
  exact L2 (341 - 0 + 1) 0 h (by first | assumption | omega | rfl) (by exact cpyN_0.symm) (Nat.lt_succ_self _)

theorem decay_no2 {d : Dm} {k : Nat} (c : ¬ decayD d k (94 + 3 * k + 2) = nI 1) : decayD d (k + 1) = upd (decayD d k) (94 + 3 * k) (decayD d k (94 + 3 * k)) := by rw [decay_no c, upd_id]
theorem goD_ok {τ : Nat → List Int32} {d : Dm} (H : DOK d) : DOK (goD τ d) := by
  have h8 := H.nw8
  unfold goD
  split
  · exact (rD_ok H).1
  · rename_i c
    obtain ⟨w, hw, e⟩ := rD_in H rfl c
    rw [e, nI_clamp (by omega)]
    exact (rD_ok H).1.come hw
noncomputable def nightsD (τ : Nat → List Int32) (d : Dm) : Nat → Dm
  | 0 => d
  | k + 1 => nightD τ (nightsD τ d k)
theorem DOK.nights {τ : Nat → List Int32} {d : Dm} (H : DOK d) : ∀ k, DOK (nightsD τ d k)
  | 0 => H
  | k + 1 => (DOK.nights H k).night

abbrev P_X10_goesBy (h : Mm) (τ : Nat → List Int32) (P : Nat) : Option Value → Mm → Prop := fun r h2 => r = some (.int (byD τ (h P))) ∧ h2 P = nightD τ (h P) ∧ TXD (h2 119) τ ∧ FrG P h h2
theorem c_X10_goesBy {l : Launch} (h : Mm) (τ : Nat → List Int32) (P : Nat) (hm : mP P) (hd : DOK (h P)) (hT : TXD (h 119) τ) : Con l yX10_goesBy cX10_goesBy 5 (some .int) 42 965 132 GL h [.ref 118, .ref P] (P_X10_goesBy h τ P) := by
  refine Con.ofV (own := "FoxRoundsModel") (nm := "goesBy") rfl rfl (by decide) (Nat.le_of_ble_eq_true rfl) ?_
  intro κ ρ hkl K
  subst hkl
  show V κ (QM κ (132, ρ, GL, 0, 0) (P_X10_goesBy h τ P)) 5 (132, ρ, GL, 0, 0) h 0 [(0, .ref 118), (1, .ref P)] []
  have hne := hm.ne2
  have L24 : ∀ (d2 : Dm) (h3 : Mm) (hd2v : h3 P = inD τ (h P)) (hEd : h3 P = d2) (hT3 : TXD (h3 119) τ) (hG3 : FrG P h h3), V κ (QM κ (132, ρ, GL, 0, 0) (P_X10_goesBy h τ P)) 5 (132, ρ, GL, 0, 0) h3 24 [(0, .ref 118), (1, .ref P), (2, .int ((rD τ (h P)).1))] [] := by
    intro d2 h3 hd2v hEd hT3 hG3
    have hdd : d2 = inD τ (h P) := hEd.symm.trans hd2v
    have hd2 : DOK d2 := by rw [hdd]; exact hd.inn
    have hn5 := hd2.nt5
    refine v_iconstN K 0 rfl dX10_goesBy_24 ?_
    refine v_istore_n (lv2 := [(3, .int (nI 0)), (0, .ref 118), (1, .ref P), (2, .int ((rD τ (h P)).1))]) K dX10_goesBy_25 (by decide) rfl ?_
    have L26 : ∀ (mm : Nat) (k : Nat) (h4 : Mm) (hk : k ≤ ntD d2) (hE4 : h4 P = decayD d2 k) (hT4 : TXD (h4 119) τ) (hG4 : FrG P h h4), ntD d2 + 1 - k < mm → V κ (QM κ (132, ρ, GL, 0, 0) (P_X10_goesBy h τ P)) 5 (132, ρ, GL, 0, 0) h4 26 [(0, .ref 118), (1, .ref P), (2, .int ((rD τ (h P)).1)), (3, .int (nI k))] [] := by
      intro mm
      induction mm with
      | zero => intro k h4 hk hE4 hT4 hG4 hmm; exact absurd hmm (Nat.not_lt_zero _)
      | succ mm ih26 =>
        intro k h4 hk hE4 hT4 hG4 hmm
        have hd3 : DOK (decayD d2 k) := hd2.decay k (by omega)
        have hnt : ntD (decayD d2 k) = ntD d2 := nt_decay
        refine v_iload_n K dX10_goesBy_26 rfl ?_
        refine v_aload_n K dX10_goesBy_27 rfl ?_
        refine v_bipushN K 11 rfl dX10_goesBy_28 ?_
        refine v_iald (x := nI (ntD ((decayD d2 k)))) K hm.s hm.l (by omega) ((congrFun hE4 11).trans hd3.nt) dX10_goesBy_30 ?_
        refine v_icmpN_ge (tgt := 86) K (by omega) (by omega) dX10_goesBy_31 rfl (fun c1 => ?_) (fun c1 => ?_)
        · skip
          obtain rfl : k = ntD d2 := by omega
          refine v_aload_n K dX10_goesBy_86 rfl ?_
          refine v_iconstN K 3 rfl dX10_goesBy_87 ?_
          refine v_aload_n K dX10_goesBy_88 rfl ?_
          refine v_aload_n K dX10_goesBy_89 rfl ?_
          refine v_iconstN K 3 rfl dX10_goesBy_90 ?_
          refine v_iald (x := (decayD d2 (ntD d2)) 3) K hm.s hm.l (by omega) (congrFun hE4 _) dX10_goesBy_91 ?_
          refine v_aload_n K dX10_goesBy_92 rfl ?_
          refine v_bipushN K 8 rfl dX10_goesBy_93 ?_
          refine v_iald (x := (decayD d2 (ntD d2)) 8) K hm.s hm.l (by omega) (congrFun hE4 _) dX10_goesBy_95 ?_
          refine v_callV (As := [.int ((decayD d2 (ntD d2)) 3), .int ((decayD d2 (ntD d2)) 8)]) K (c_X10_staysOf h4 τ ((decayD d2 (ntD d2)) 3) ((decayD d2 (ntD d2)) 8) hT4) lX10_137 ck_X10 rfl sh_118 pl_118 rfl ⟨by decide, by decide⟩ (Nat.le_of_ble_eq_true rfl) dX10_goesBy_96 (fun r1 h1 hp1 => ?_) rfl
          obtain ⟨rfl, hXq1⟩ := hp1
          have hPq1 : h1 P = (decayD d2 (ntD d2)) := (hXq1.1 P hne.1 hne.2.1).trans hE4
          have hTq1 := hT4.X hXq1
          have hGq1 := hG4.t hXq1.G
          refine v_some ?_
          refine v_iast K hm.s hm.l (by omega) dX10_goesBy_99 ?_
          have hEs1 : (u2 h1 P 3 (staysE τ ((decayD d2 (ntD d2)) 3) ((decayD d2 (ntD d2)) 8))) P = (upd (decayD d2 (ntD d2)) 3 (staysE τ ((decayD d2 (ntD d2)) 3) ((decayD d2 (ntD d2)) 8))) := by rw [u2_row, hPq1]
          have hTs1 : TXD ((u2 h1 P 3 (staysE τ ((decayD d2 (ntD d2)) 3) ((decayD d2 (ntD d2)) 8))) 119) τ := hTq1.st (by omega)
          have hGs1 : FrG P h (u2 h1 P 3 (staysE τ ((decayD d2 (ntD d2)) 3) ((decayD d2 (ntD d2)) 8))) := hGq1.u hne.1
          refine v_aload_n K dX10_goesBy_100 rfl ?_
          refine v_iconstN K 4 rfl dX10_goesBy_101 ?_
          refine v_iconstN K 0 rfl dX10_goesBy_102 ?_
          refine v_iast K hm.s hm.l (by omega) dX10_goesBy_103 ?_
          have hEs2 : (u2 (u2 h1 P 3 (staysE τ ((decayD d2 (ntD d2)) 3) ((decayD d2 (ntD d2)) 8))) P 4 (nI 0)) P = (upd (upd (decayD d2 (ntD d2)) 3 (staysE τ ((decayD d2 (ntD d2)) 3) ((decayD d2 (ntD d2)) 8))) 4 (nI 0)) := by rw [u2_row, hEs1]
          have hTs2 : TXD ((u2 (u2 h1 P 3 (staysE τ ((decayD d2 (ntD d2)) 3) ((decayD d2 (ntD d2)) 8))) P 4 (nI 0)) 119) τ := hTs1.st (by omega)
          have hGs2 : FrG P h (u2 (u2 h1 P 3 (staysE τ ((decayD d2 (ntD d2)) 3) ((decayD d2 (ntD d2)) 8))) P 4 (nI 0)) := hGs1.u hne.1
          refine v_aload_n K dX10_goesBy_104 rfl ?_
          refine v_bipushN K 8 rfl dX10_goesBy_105 ?_
          refine v_dup2 K dX10_goesBy_107 rfl rfl ?_
          refine v_iald (x := (decayD d2 (ntD d2)) 8) K hm.s hm.l (by omega) (((congrFun hEs2 _).trans (upd_ne (by omega))).trans (upd_ne (by omega))) dX10_goesBy_108 ?_
          refine v_iconstN K 1 rfl dX10_goesBy_109 ?_
          refine v_iadd K dX10_goesBy_110 ?_
          refine v_iast K hm.s hm.l (by omega) dX10_goesBy_111 ?_
          have hEs3 : (u2 (u2 (u2 h1 P 3 (staysE τ ((decayD d2 (ntD d2)) 3) ((decayD d2 (ntD d2)) 8))) P 4 (nI 0)) P 8 (((decayD d2 (ntD d2)) 8) + (nI 1))) P = (upd (upd (upd (decayD d2 (ntD d2)) 3 (staysE τ ((decayD d2 (ntD d2)) 3) ((decayD d2 (ntD d2)) 8))) 4 (nI 0)) 8 (((decayD d2 (ntD d2)) 8) + (nI 1))) := by rw [u2_row, hEs2]
          have hTs3 : TXD ((u2 (u2 (u2 h1 P 3 (staysE τ ((decayD d2 (ntD d2)) 3) ((decayD d2 (ntD d2)) 8))) P 4 (nI 0)) P 8 (((decayD d2 (ntD d2)) 8) + (nI 1))) 119) τ := hTs2.st (by omega)
          have hGs3 : FrG P h (u2 (u2 (u2 h1 P 3 (staysE τ ((decayD d2 (ntD d2)) 3) ((decayD d2 (ntD d2)) 8))) P 4 (nI 0)) P 8 (((decayD d2 (ntD d2)) 8) + (nI 1))) := hGs2.u hne.1
          refine v_iload_n K dX10_goesBy_112 rfl ?_
          refine v_iret K dX10_goesBy_113 ?_
          subst hdd
          exact ⟨rfl, hEs3, hTs3, hGs3⟩
        · skip
          refine v_bipushN K 94 rfl dX10_goesBy_34 ?_
          refine v_iconstN K 3 rfl dX10_goesBy_36 ?_
          refine v_iload_n K dX10_goesBy_37 rfl ?_
          refine v_imulN K dX10_goesBy_38 ?_
          refine v_iaddN K dX10_goesBy_39 ?_
          refine v_istore (lv2 := [(4, .int (nI (94 + (3 * k)))), (0, .ref 118), (1, .ref P), (2, .int ((rD τ (h P)).1)), (3, .int (nI k))]) K dX10_goesBy_40 (by decide) rfl ?_
          refine v_aload_n K dX10_goesBy_42 rfl ?_
          refine v_iload K dX10_goesBy_43 rfl ?_
          refine v_aload_n K dX10_goesBy_45 rfl ?_
          refine v_iload K dX10_goesBy_46 rfl ?_
          refine v_iconstN K 2 rfl dX10_goesBy_48 ?_
          refine v_iaddN K dX10_goesBy_49 ?_
          refine v_iald (x := (decayD d2 k) (94 + (3 * k) + 2)) K hm.s hm.l (by omega) (congrFun hE4 _) dX10_goesBy_50 ?_
          refine v_iconstN K 1 rfl dX10_goesBy_51 ?_
          refine v_icmp_ne (tgt := 75) K dX10_goesBy_52 rfl (fun c2 => ?_) (fun c2 => ?_)
          · skip
            refine v_aload_n K dX10_goesBy_75 rfl ?_
            refine v_iload K dX10_goesBy_76 rfl ?_
            refine v_iald (x := (decayD d2 k) (94 + (3 * k))) K hm.s hm.l (by omega) (congrFun hE4 _) dX10_goesBy_78 ?_
            refine v_iast K hm.s hm.l (by omega) dX10_goesBy_79 ?_
            have hEs4 : (u2 h4 P (94 + (3 * k)) ((decayD d2 k) (94 + (3 * k)))) P = (upd (decayD d2 k) (94 + (3 * k)) ((decayD d2 k) (94 + (3 * k)))) := by rw [u2_row, hE4]
            have hTs4 : TXD ((u2 h4 P (94 + (3 * k)) ((decayD d2 k) (94 + (3 * k)))) 119) τ := hT4.st (by omega)
            have hGs4 : FrG P h (u2 h4 P (94 + (3 * k)) ((decayD d2 k) (94 + (3 * k)))) := hG4.u hne.1
            refine v_iincN (lv2 := [(3, .int (nI (k + 1))), (4, .int (nI (94 + (3 * k)))), (0, .ref 118), (1, .ref P), (2, .int ((rD τ (h P)).1))]) K 1 dX10_goesBy_80 rfl rfl (by decide) rfl ?_
            refine v_goto (tgt := 26) K dX10_goesBy_83 rfl ?_
            refine v_sub (lv2 := [(0, .ref 118), (1, .ref P), (2, .int ((rD τ (h P)).1)), (3, .int (nI (k + 1)))]) (by simp) ?_
            exact ih26 (k + 1) ((u2 h4 P (94 + (3 * k)) ((decayD d2 k) (94 + (3 * k))))) (by first | assumption | omega | rfl) (by exact hEs4.trans (decay_no2 c2).symm) (by exact hTs4) (by exact hGs4) (by omega)
          · skip
            refine v_aload_n K dX10_goesBy_55 rfl ?_
            refine v_iload K dX10_goesBy_56 rfl ?_
            refine v_iald (x := (decayD d2 k) (94 + (3 * k))) K hm.s hm.l (by omega) (congrFun hE4 _) dX10_goesBy_58 ?_
            refine v_aload_n K dX10_goesBy_59 rfl ?_
            refine v_iload K dX10_goesBy_60 rfl ?_
            refine v_iconstN K 1 rfl dX10_goesBy_62 ?_
            refine v_iaddN K dX10_goesBy_63 ?_
            refine v_iald (x := (decayD d2 k) (94 + (3 * k) + 1)) K hm.s hm.l (by omega) (congrFun hE4 _) dX10_goesBy_64 ?_
            refine v_isub K dX10_goesBy_65 ?_
            refine v_iconstN K 0 rfl dX10_goesBy_66 ?_
            refine v_bipushN K 99 rfl dX10_goesBy_67 ?_
            refine v_callS (As := [.int (((decayD d2 k) (94 + (3 * k))) - ((decayD d2 k) (94 + (3 * k) + 1))), .int (nI 0), .int (nI 99)]) K (c_X10_held h4 (((decayD d2 k) (94 + (3 * k))) - ((decayD d2 k) (94 + (3 * k) + 1))) (nI 0) (nI 99)) lX10_131 rfl ⟨by decide, by decide⟩ (Nat.le_of_ble_eq_true rfl) dX10_goesBy_69 (fun r2 h2 hp2 => ?_) rfl
            obtain ⟨rfl, rfl⟩ := hp2
            refine v_some ?_
            refine v_goto (tgt := 79) K dX10_goesBy_72 rfl ?_
            refine v_iast K hm.s hm.l (by omega) dX10_goesBy_79 ?_
            have hEs5 : (u2 h4 P (94 + (3 * k)) (heldM (((decayD d2 k) (94 + (3 * k))) - ((decayD d2 k) (94 + (3 * k) + 1))) (nI 0) (nI 99))) P = (upd (decayD d2 k) (94 + (3 * k)) (heldM (((decayD d2 k) (94 + (3 * k))) - ((decayD d2 k) (94 + (3 * k) + 1))) (nI 0) (nI 99))) := by rw [u2_row, hE4]
            have hTs5 : TXD ((u2 h4 P (94 + (3 * k)) (heldM (((decayD d2 k) (94 + (3 * k))) - ((decayD d2 k) (94 + (3 * k) + 1))) (nI 0) (nI 99))) 119) τ := hT4.st (by omega)
            have hGs5 : FrG P h (u2 h4 P (94 + (3 * k)) (heldM (((decayD d2 k) (94 + (3 * k))) - ((decayD d2 k) (94 + (3 * k) + 1))) (nI 0) (nI 99))) := hG4.u hne.1
            refine v_iincN (lv2 := [(3, .int (nI (k + 1))), (4, .int (nI (94 + (3 * k)))), (0, .ref 118), (1, .ref P), (2, .int ((rD τ (h P)).1))]) K 1 dX10_goesBy_80 rfl rfl (by decide) rfl ?_
            refine v_goto (tgt := 26) K dX10_goesBy_83 rfl ?_
            refine v_sub (lv2 := [(0, .ref 118), (1, .ref P), (2, .int ((rD τ (h P)).1)), (3, .int (nI (k + 1)))]) (by simp) ?_
            exact ih26 (k + 1) ((u2 h4 P (94 + (3 * k)) (heldM (((decayD d2 k) (94 + (3 * k))) - ((decayD d2 k) (94 + (3 * k) + 1))) (nI 0) (nI 99)))) (by first | assumption | omega | rfl) (by exact hEs5.trans (decay_yes c2).symm) (by exact hTs5) (by exact hGs5) (by omega)
    refine v_sub (lv2 := [(0, .ref 118), (1, .ref P), (2, .int ((rD τ (h P)).1)), (3, .int (nI 0))]) (by simp) ?_
    exact L26 (ntD d2 + 1 - 0 + 1) 0 h3 (by first | assumption | omega | rfl) (by exact hEd) (by exact hT3) (by exact hG3) (Nat.lt_succ_self _)
  refine v_aload_n K dX10_goesBy_0 rfl ?_
  refine v_aload_n K dX10_goesBy_1 rfl ?_
  refine v_callV (As := [.ref P]) K (c_X10_goesRound h τ P hm hd hT) lX10_216 ck_X10 rfl sh_118 pl_118 rfl ⟨by decide, by decide⟩ (Nat.le_of_ble_eq_true rfl) dX10_goesBy_2 (fun r3 h3 hp3 => ?_) rfl
  obtain ⟨rfl, hDg, hTg, hGg⟩ := hp3
  have hdg : DOK (goD τ (h P)) := goD_ok hd
  refine v_some ?_
  refine v_istore_n (lv2 := [(2, .int ((rD τ (h P)).1)), (0, .ref 118), (1, .ref P)]) K dX10_goesBy_5 (by decide) rfl ?_
  refine v_iload_n K dX10_goesBy_6 rfl ?_
  refine v_if_ge (tgt := 24) K dX10_goesBy_7 rfl (fun c3 => ?_) (fun c3 => ?_)
  · skip
    refine v_sub (lv2 := [(0, .ref 118), (1, .ref P), (2, .int ((rD τ (h P)).1))]) (by simp) ?_
    exact L24 ((goD τ (h P))) h3 (by rw [hDg]; unfold inD goD; rw [if_neg (Int32.not_lt.mpr c3), if_neg (Int32.not_lt.mpr c3)]) (by exact hDg) (by exact hTg) (by exact hGg)
  · skip
    refine v_aload_n K dX10_goesBy_10 rfl ?_
    refine v_iconstN K 2 rfl dX10_goesBy_11 ?_
    refine v_aload_n K dX10_goesBy_12 rfl ?_
    refine v_iconstN K 2 rfl dX10_goesBy_13 ?_
    refine v_iald (x := (goD τ (h P)) 2) K hm.s hm.l (by omega) (congrFun hDg _) dX10_goesBy_14 ?_
    refine v_iconstN K 5 rfl dX10_goesBy_15 ?_
    refine v_iadd K dX10_goesBy_16 ?_
    refine v_iconstN K 0 rfl dX10_goesBy_17 ?_
    refine v_bipushN K 99 rfl dX10_goesBy_18 ?_
    refine v_callS (As := [.int (((goD τ (h P)) 2) + (nI 5)), .int (nI 0), .int (nI 99)]) K (c_X10_held h3 (((goD τ (h P)) 2) + (nI 5)) (nI 0) (nI 99)) lX10_131 rfl ⟨by decide, by decide⟩ (Nat.le_of_ble_eq_true rfl) dX10_goesBy_20 (fun r4 h4 hp4 => ?_) rfl
    obtain ⟨rfl, rfl⟩ := hp4
    refine v_some ?_
    refine v_iast K hm.s hm.l (by omega) dX10_goesBy_23 ?_
    have hEs6 : (u2 h3 P 2 (heldM (((goD τ (h P)) 2) + (nI 5)) (nI 0) (nI 99))) P = (upd (goD τ (h P)) 2 (heldM (((goD τ (h P)) 2) + (nI 5)) (nI 0) (nI 99))) := by rw [u2_row, hDg]
    have hTs6 : TXD ((u2 h3 P 2 (heldM (((goD τ (h P)) 2) + (nI 5)) (nI 0) (nI 99))) 119) τ := hTg.st (by omega)
    have hGs6 : FrG P h (u2 h3 P 2 (heldM (((goD τ (h P)) 2) + (nI 5)) (nI 0) (nI 99))) := hGg.u hne.1
    refine v_sub (lv2 := [(0, .ref 118), (1, .ref P), (2, .int ((rD τ (h P)).1))]) (by simp) ?_
    exact L24 ((upd (goD τ (h P)) 2 (heldM (((goD τ (h P)) 2) + (nI 5)) (nI 0) (nI 99)))) ((u2 h3 P 2 (heldM (((goD τ (h P)) 2) + (nI 5)) (nI 0) (nI 99)))) (by rw [hEs6]; unfold inD goD; rw [if_pos (Int32.not_le.mp c3), if_pos (Int32.not_le.mp c3)]) (by exact hEs6) (by exact hTs6) (by exact hGs6)

abbrev P_X10_goesOn (h : Mm) (τ : Nat → List Int32) (P n : Nat) : Option Value → Mm → Prop := fun r h2 => r = none ∧ h2 P = nightsD τ (h P) n ∧ TXD (h2 119) τ ∧ FrG P h h2
theorem c_X10_goesOn {l : Launch} (h : Mm) (τ : Nat → List Int32) (P n : Nat) (hm : mP P) (hd : DOK (h P)) (hT : TXD (h 119) τ) (hn : n ≤ 1000) : Con l yX10_goesOn cX10_goesOn 5 none 43 989 132 GL h [.ref 118, .ref P, .int (nI n)] (P_X10_goesOn h τ P n) := by
  refine Con.ofV (own := "FoxRoundsModel") (nm := "goesOn") rfl rfl (by decide) (Nat.le_of_ble_eq_true rfl) ?_
  intro κ ρ hkl K
  subst hkl
  show V κ (QM κ (132, ρ, GL, 0, 0) (P_X10_goesOn h τ P n)) 5 (132, ρ, GL, 0, 0) h 0 [(0, .ref 118), (1, .ref P), (2, .int (nI n))] []
  refine v_iconstN K 0 rfl dX10_goesOn_0 ?_
  refine v_istore_n (lv2 := [(3, .int (nI 0)), (0, .ref 118), (1, .ref P), (2, .int (nI n))]) K dX10_goesOn_1 (by decide) rfl ?_
  have L2 : ∀ (mm : Nat) (i : Nat) (g1 : Mm) (hi : i ≤ n) (hE1 : g1 P = nightsD τ (h P) i) (hT1 : TXD (g1 119) τ) (hG1 : FrG P h g1), n + 1 - i < mm → V κ (QM κ (132, ρ, GL, 0, 0) (P_X10_goesOn h τ P n)) 5 (132, ρ, GL, 0, 0) g1 2 [(0, .ref 118), (1, .ref P), (2, .int (nI n)), (3, .int (nI i))] [] := by
    intro mm
    induction mm with
    | zero => intro i g1 hi hE1 hT1 hG1 hmm; exact absurd hmm (Nat.not_lt_zero _)
    | succ mm ih2 =>
      intro i g1 hi hE1 hT1 hG1 hmm
      refine v_iload_n K dX10_goesOn_2 rfl ?_
      refine v_iload_n K dX10_goesOn_3 rfl ?_
      refine v_icmpN_ge (tgt := 20) K (by omega) (by omega) dX10_goesOn_4 rfl (fun c1 => ?_) (fun c1 => ?_)
      · skip
        refine v_vret K dX10_goesOn_20 ?_
        obtain rfl : i = n := by omega
        exact ⟨rfl, hE1, hT1, hG1⟩
      · skip
        refine v_aload_n K dX10_goesOn_7 rfl ?_
        refine v_aload_n K dX10_goesOn_8 rfl ?_
        refine v_callV (As := [.ref P]) K (c_X10_goesBy g1 τ P hm (by rw [hE1]; exact (hd.nights i)) hT1) lX10_219 ck_X10 rfl sh_118 pl_118 rfl ⟨by decide, by decide⟩ (Nat.le_of_ble_eq_true rfl) dX10_goesOn_9 (fun r1 h1 hp1 => ?_) rfl
        obtain ⟨rfl, hDb, hTb, hGb⟩ := hp1
        rw [hE1] at hDb
        refine v_some ?_
        refine v_istore (lv2 := [(4, .int (byD τ (g1 P))), (0, .ref 118), (1, .ref P), (2, .int (nI n)), (3, .int (nI i))]) K dX10_goesOn_12 (by decide) rfl ?_
        refine v_iincN (lv2 := [(3, .int (nI (i + 1))), (4, .int (byD τ (g1 P))), (0, .ref 118), (1, .ref P), (2, .int (nI n))]) K 1 dX10_goesOn_14 rfl rfl (by decide) rfl ?_
        refine v_goto (tgt := 2) K dX10_goesOn_17 rfl ?_
        refine v_sub (lv2 := [(0, .ref 118), (1, .ref P), (2, .int (nI n)), (3, .int (nI (i + 1)))]) (by simp) ?_
        exact ih2 (i + 1) h1 (by first | assumption | omega | rfl) (by exact hDb) (by exact hTb) (by exact hG1.t hGb) (by omega)
  refine v_sub (lv2 := [(0, .ref 118), (1, .ref P), (2, .int (nI n)), (3, .int (nI 0))]) (by simp) ?_
  exact L2 (n + 1 - 0 + 1) 0 h (by first | assumption | omega | rfl) (by rfl) (by exact hT) (by exact FrG.r) (Nat.lt_succ_self _)

abbrev P_X10_ahead (h : Mm) (τ : Nat → List Int32) (n : Nat) : Option Value → Mm → Prop := fun r h2 => r = none ∧ h2 120 = nightsD τ (h 119) n ∧ FrG 120 h h2
theorem c_X10_ahead {l : Launch} (h : Mm) (τ : Nat → List Int32) (n : Nat) (hd : DOK (h 119)) (hT : TXD (h 119) τ) (hn : n ≤ 1000) : Con l yX10_ahead cX10_ahead 2 none 44 1013 132 GL h [.ref 118, .int (nI n)] (P_X10_ahead h τ n) := by
  refine Con.ofV (own := "FoxRoundsModel") (nm := "ahead") rfl rfl (by decide) (Nat.le_of_ble_eq_true rfl) ?_
  intro κ ρ hkl K
  subst hkl
  show V κ (QM κ (132, ρ, GL, 0, 0) (P_X10_ahead h τ n)) 2 (132, ρ, GL, 0, 0) h 0 [(0, .ref 118), (1, .int (nI n))] []
  refine v_aload_n K dX10_ahead_0 rfl ?_
  refine v_getr (q := 119) K fX10_7 sh_118 pl_118 gl_118_0 dX10_ahead_1 ?_
  refine v_aload_n K dX10_ahead_4 rfl ?_
  refine v_getr (q := 120) K fX10_13 sh_118 pl_118 gl_118_1 dX10_ahead_5 ?_
  refine v_callS (As := [.ref 119, .ref 120]) K (c_X10_copies2 h 119 120 mP_119 mP_120 (by decide)) lX10_228 rfl ⟨by decide, by decide⟩ (Nat.le_of_ble_eq_true rfl) dX10_ahead_8 (fun r1 h1 hp1 => ?_) rfl
  obtain ⟨rfl, rfl⟩ := hp1
  refine v_none ?_
  refine v_aload_n K dX10_ahead_11 rfl ?_
  refine v_aload_n K dX10_ahead_12 rfl ?_
  refine v_getr (q := 120) K fX10_13 sh_118 pl_118 gl_118_1 dX10_ahead_13 ?_
  refine v_iload_n K dX10_ahead_16 rfl ?_
  refine v_callV (As := [.ref 120, .int (nI n)]) K (c_X10_goesOn ((rw2 h 120 (h 119))) τ 120 n mP_120 (show DOK (rw2 h 120 (h 119) 120) from by rw [rw2_at]; exact hd) (show TXD (rw2 h 120 (h 119) 119) τ from by rw [rw2_off (by omega)]; exact hT) hn) lX10_222 ck_X10 rfl sh_118 pl_118 rfl ⟨by decide, by decide⟩ (Nat.le_of_ble_eq_true rfl) dX10_ahead_17 (fun r2 h2 hp2 => ?_) rfl
  obtain ⟨rfl, hDo, hTo, hGo⟩ := hp2
  refine v_none ?_
  refine v_vret K dX10_ahead_20 ?_
  exact ⟨rfl, by rw [hDo, rw2_at], FrG.t ⟨fun a q _ _ _ => rw2_off q, fun k _ => by rw [rw2_off (by omega)]⟩ hGo⟩
