/-! what a house comes to, by its numbers d as the reference lays them -/
abbrev Dm : Type := Nat → Int32
def monthD (d : Dm) : Int32 := d 8 / nI 30 - d 8 / nI 30 / nI 12 * nI 12
def plainD (d : Dm) (w : Nat) : Int32 := nI 99 - d (46 + 6 * w + 1)
def doorD (d : Dm) (w : Nat) : Int32 := if d 4 = nI 1 then nI 99 else plainD d w
def frostD (d : Dm) : Int32 := if monthD d < nI 2 ∨ monthD d = nI 11 then nI 20 else nI 0
def dugD (d : Dm) (w : Nat) : Int32 := plainD d w + nI 3 * d (46 + 6 * w + 4) - frostD d
def looseD (d : Dm) (w : Nat) : Int32 := plainD d w + nI 5 * d (46 + 6 * w + 4)
def easeD (d : Dm) (w : Nat) : Int32 := match (d (46 + 6 * w)).toNatClampNeg with
  | 1 => doorD d w
  | 2 => dugD d w
  | 3 => looseD d w
  | 4 => dugD d w - d (46 + 6 * w + 2)
  | 5 => looseD d w + d (46 + 6 * w + 2)
  | 6 => if nI 5 ≤ monthD d ∧ monthD d ≤ nI 7 then doorD d w - d (46 + 6 * w + 2) else doorD d w
  | _ => plainD d w
theorem easeD_0 {d : Dm} {w : Nat} (e : d (46 + 6 * w) = nI 0) : easeD d w = plainD d w := by unfold easeD; rw [e]; rfl
theorem easeD_1 {d : Dm} {w : Nat} (e : d (46 + 6 * w) = nI 1) : easeD d w = doorD d w := by unfold easeD; rw [e]; rfl
theorem easeD_2 {d : Dm} {w : Nat} (e : d (46 + 6 * w) = nI 2) : easeD d w = dugD d w := by unfold easeD; rw [e]; rfl
theorem easeD_3 {d : Dm} {w : Nat} (e : d (46 + 6 * w) = nI 3) : easeD d w = looseD d w := by unfold easeD; rw [e]; rfl
theorem easeD_4 {d : Dm} {w : Nat} (e : d (46 + 6 * w) = nI 4) : easeD d w = dugD d w - d (46 + 6 * w + 2) := by unfold easeD; rw [e]; rfl
theorem easeD_5 {d : Dm} {w : Nat} (e : d (46 + 6 * w) = nI 5) : easeD d w = looseD d w + d (46 + 6 * w + 2) := by unfold easeD; rw [e]; rfl
theorem easeD_6 {d : Dm} {w : Nat} (e : d (46 + 6 * w) = nI 6) : easeD d w = if nI 5 ≤ monthD d ∧ monthD d ≤ nI 7 then doorD d w - d (46 + 6 * w + 2) else doorD d w := by unfold easeD; rw [e]; rfl
def sumFear (d : Dm) : Nat → Int32
  | 0 => d 3
  | k + 1 => sumFear d k + (if d (94 + 3 * k + 2) = nI 1 then d (94 + 3 * k) else nI 0)
def nwD (d : Dm) : Nat := (d 10).toNatClampNeg
def ntD (d : Dm) : Nat := (d 11).toNatClampNeg
def fearD (d : Dm) : Int32 := sumFear d (ntD d)
def boldD (d : Dm) : Int32 := d 2 - fearD d + nI 5 * d 1
def mendD (d : Dm) (w : Nat) : Dm := upd (upd d (46 + 6 * w + 1) (heldM (d (46 + 6 * w + 1) + nI 50) (nI 0) (nI 99))) (46 + 6 * w + 4) (nI 0)
/-- what holds of such numbers at all times -/
def DOK (d : Dm) : Prop := (d 10 = nI (nwD d) ∧ nwD d ≤ 8) ∧ (d 11 = nI (ntD d) ∧ ntD d ≤ 5) ∧ (ix (d 0) 100 ∧ ix (d 2) 100 ∧ ix (d 3) 100 ∧ ix (d 4) 2) ∧
  (∀ w, w < 8 → ix (d (46 + 6 * w)) 7 ∧ ix (d (46 + 6 * w + 1)) 100 ∧ ix (d (46 + 6 * w + 4)) 100 ∧ ix (d (46 + 6 * w + 5)) 10) ∧
  (∀ t, t < 5 → ix (d (94 + 3 * t)) 100 ∧ ix (d (94 + 3 * t + 1)) 31 ∧ ix (d (94 + 3 * t + 2)) 2)
theorem DOK.nw {d : Dm} (H : DOK d) : d 10 = nI (nwD d) := H.1.1
theorem DOK.nw8 {d : Dm} (H : DOK d) : nwD d ≤ 8 := H.1.2
theorem DOK.nt {d : Dm} (H : DOK d) : d 11 = nI (ntD d) := H.2.1.1
theorem DOK.nt5 {d : Dm} (H : DOK d) : ntD d ≤ 5 := H.2.1.2
theorem DOK.kd {d : Dm} (H : DOK d) {w : Nat} (hw : w < 8) : ix (d (46 + 6 * w)) 7 := (H.2.2.2.1 w hw).1
theorem DOK.hu {d : Dm} (H : DOK d) {t : Nat} (ht : t < 5) : ix (d (94 + 3 * t + 2)) 2 := (H.2.2.2.2 t ht).2.2
theorem upd_at {f : Dm} {k : Nat} {x : Int32} : upd f k x k = x := pk_us
theorem upd_ne {f : Dm} {k j : Nat} {x : Int32} (h : j ≠ k) : upd f k x j = f j := pk_un h
theorem u2_rw {h : Mm} {a k : Nat} {v : Int32} : u2 h a k v = rw2 h a (upd (h a) k v) := by
  funext x
  by_cases e : x = a
  · subst e; rw [rw2_at, u2_row]
  · rw [rw2_off e, u2_off e]
theorem rw2_rw2 {h : Mm} {a : Nat} {f f2 : Nat → Int32} : rw2 (rw2 h a f) a f2 = rw2 h a f2 := by
  funext x
  by_cases e : x = a
  · subst e; rw [rw2_at, rw2_at]
  · rw [rw2_off e, rw2_off e, rw2_off e]
theorem rw2_self {h : Mm} {a : Nat} : rw2 h a (h a) = h := by
  funext x
  by_cases e : x = a
  · subst e; rw [rw2_at]
  · rw [rw2_off e]
/-- the first i of a row's 340 numbers from another -/
def cpyN (h : Mm) (F T i : Nat) : Mm := rw2 h T (fun k => if k < i then h F k else h T k)
theorem cpyN_0 {h : Mm} {F T : Nat} : cpyN h F T 0 = h := by
  unfold cpyN
  simp only [Nat.not_lt_zero, if_false]
  exact rw2_self
theorem cpyN_s {h : Mm} {F T i : Nat} (e : F ≠ T) : u2 (cpyN h F T i) T i (cpyN h F T i F i) = cpyN h F T (i + 1) := by
  unfold cpyN
  rw [u2_rw, rw2_rw2, rw2_at, rw2_off e]
  congr 1
  funext k
  by_cases h1 : k = i
  · subst h1
    rw [upd_at, if_pos (Nat.lt_succ_self _)]
  · rw [upd_ne h1]
    by_cases h2 : k < i
    · rw [if_pos h2, if_pos (by omega)]
    · rw [if_neg h2, if_neg (by omega)]

abbrev P_X10_copies (h : Mm) (F T : Nat) : Option Value → Mm → Prop := fun r h2 => r = none ∧ cpyN h F T 340 = h2
theorem c_X10_copies {l : Launch} (h : Mm) (F T : Nat) (hF : mP F) (hT : mP T) (e : F ≠ T) : Con l yX10_copies cX10_copies 3 none 0 0 132 GL h [.ref F, .ref T] (P_X10_copies h F T) := by
  refine Con.ofV (own := "FoxRoundsModel") (nm := "copies") rfl rfl (by decide) (Nat.le_of_ble_eq_true rfl) ?_
  intro κ ρ hkl K
  subst hkl
  show V κ (QM κ (132, ρ, GL, 0, 0) (P_X10_copies h F T)) 3 (132, ρ, GL, 0, 0) h 0 [(0, .ref F), (1, .ref T)] []
  refine v_iconstN K 0 rfl dX10_copies_0 ?_
  refine v_istore_n (lv2 := [(2, .int (nI 0)), (0, .ref F), (1, .ref T)]) K dX10_copies_1 (by decide) rfl ?_
  have L2 : ∀ (mm : Nat) (i : Nat) (h1 : Mm) (hi : i ≤ 340) (hm : h1 = cpyN h F T i), 341 - i < mm → V κ (QM κ (132, ρ, GL, 0, 0) (P_X10_copies h F T)) 3 (132, ρ, GL, 0, 0) h1 2 [(0, .ref F), (1, .ref T), (2, .int (nI i))] [] := by
    intro mm
    induction mm with
    | zero => intro i h1 hi hm hmm; exact absurd hmm (Nat.not_lt_zero _)
    | succ mm ih2 =>
      intro i h1 hi hm hmm
      refine v_iload_n K dX10_copies_2 rfl ?_
      refine v_sipushN K 340 rfl dX10_copies_3 ?_
      refine v_icmpN_ge (tgt := 21) K (by omega) (by omega) dX10_copies_6 rfl (fun c1 => ?_) (fun c1 => ?_)
      · skip
        refine v_vret K dX10_copies_21 ?_
        have e2 : i = 340 := by omega
        subst e2
        exact ⟨rfl, hm.symm⟩
      · skip
        refine v_aload_n K dX10_copies_9 rfl ?_
        refine v_iload_n K dX10_copies_10 rfl ?_
        refine v_aload_n K dX10_copies_11 rfl ?_
        refine v_iload_n K dX10_copies_12 rfl ?_
        refine v_iald (x := h1 F i) K hF.s hF.l (by omega) rfl dX10_copies_13 ?_
        refine v_iast K hT.s hT.l (by omega) dX10_copies_14 ?_
        refine v_iincN (lv2 := [(2, .int (nI (i + 1))), (0, .ref F), (1, .ref T)]) K 1 dX10_copies_15 rfl rfl (by decide) rfl ?_
        refine v_goto (tgt := 2) K dX10_copies_18 rfl ?_
        refine v_sub (lv2 := [(0, .ref F), (1, .ref T), (2, .int (nI (i + 1)))]) (by simp) ?_
        exact ih2 (i + 1) ((u2 h1 T i (h1 F i))) (by first | assumption | omega | rfl) (by rw [hm]; exact cpyN_s e) (by omega)
  refine v_sub (lv2 := [(0, .ref F), (1, .ref T), (2, .int (nI 0))]) (by simp) ?_
  exact L2 (341 - 0 + 1) 0 h (by first | assumption | omega | rfl) (by exact cpyN_0.symm) (Nat.lt_succ_self _)

abbrev P_X10_fearOf (h : Mm) (P : Nat) : Option Value → Mm → Prop := fun r h2 => r = some (.int (fearD (h P))) ∧ h = h2
theorem c_X10_fearOf {l : Launch} (h : Mm) (P : Nat) (hm : mP P) (hd : DOK (h P)) : Con l yX10_fearOf cX10_fearOf 3 (some .int) 0 0 132 GL h [.ref P] (P_X10_fearOf h P) := by
  refine Con.ofV (own := "FoxRoundsModel") (nm := "fearOf") rfl rfl (by decide) (Nat.le_of_ble_eq_true rfl) ?_
  intro κ ρ hkl K
  subst hkl
  show V κ (QM κ (132, ρ, GL, 0, 0) (P_X10_fearOf h P)) 3 (132, ρ, GL, 0, 0) h 0 [(0, .ref P)] []
  have hnt := hd.nt5
  refine v_aload_n K dX10_fearOf_0 rfl ?_
  refine v_iconstN K 3 rfl dX10_fearOf_1 ?_
  refine v_iald (x := h P 3) K hm.s hm.l (by omega) rfl dX10_fearOf_2 ?_
  refine v_istore_n (lv2 := [(1, .int (h P 3)), (0, .ref P)]) K dX10_fearOf_3 (by decide) rfl ?_
  refine v_iconstN K 0 rfl dX10_fearOf_4 ?_
  refine v_istore_n (lv2 := [(2, .int (nI 0)), (1, .int (h P 3)), (0, .ref P)]) K dX10_fearOf_5 (by decide) rfl ?_
  have L6 : ∀ (mm : Nat) (f : Int32) (k : Nat) (hk : k ≤ ntD (h P)) (hf : f = sumFear (h P) k), ntD (h P) + 1 - k < mm → V κ (QM κ (132, ρ, GL, 0, 0) (P_X10_fearOf h P)) 3 (132, ρ, GL, 0, 0) h 6 [(0, .ref P), (1, .int f), (2, .int (nI k))] [] := by
    intro mm
    induction mm with
    | zero => intro f k hk hf hmm; exact absurd hmm (Nat.not_lt_zero _)
    | succ mm ih6 =>
      intro f k hk hf hmm
      refine v_iload_n K dX10_fearOf_6 rfl ?_
      refine v_aload_n K dX10_fearOf_7 rfl ?_
      refine v_bipushN K 11 rfl dX10_fearOf_8 ?_
      refine v_iald (x := nI (ntD (h P))) K hm.s hm.l (by omega) hd.nt dX10_fearOf_10 ?_
      refine v_icmpN_ge (tgt := 49) K (by omega) (by omega) dX10_fearOf_11 rfl (fun c1 => ?_) (fun c1 => ?_)
      · skip
        refine v_iload_n K dX10_fearOf_49 rfl ?_
        refine v_iret K dX10_fearOf_50 ?_
        have e : k = ntD (h P) := by omega
        exact ⟨by rw [hf, e]; rfl, rfl⟩
      · skip
        refine v_iload_n K dX10_fearOf_14 rfl ?_
        refine v_aload_n K dX10_fearOf_15 rfl ?_
        refine v_bipushN K 94 rfl dX10_fearOf_16 ?_
        refine v_iconstN K 3 rfl dX10_fearOf_18 ?_
        refine v_iload_n K dX10_fearOf_19 rfl ?_
        refine v_imulN K dX10_fearOf_20 ?_
        refine v_iaddN K dX10_fearOf_21 ?_
        refine v_iconstN K 2 rfl dX10_fearOf_22 ?_
        refine v_iaddN K dX10_fearOf_23 ?_
        refine v_iald (x := h P (94 + (3 * k) + 2)) K hm.s hm.l (by omega) rfl dX10_fearOf_24 ?_
        refine v_iconstN K 1 rfl dX10_fearOf_25 ?_
        refine v_icmp_ne (tgt := 40) K dX10_fearOf_26 rfl (fun c2 => ?_) (fun c2 => ?_)
        · skip
          refine v_iconstN K 0 rfl dX10_fearOf_40 ?_
          refine v_iadd K dX10_fearOf_41 ?_
          refine v_nm (fun x1 e_x1 => ?_)
          refine v_istore_n (lv2 := [(1, .int x1), (0, .ref P), (2, .int (nI k))]) K dX10_fearOf_42 (by decide) rfl ?_
          refine v_iincN (lv2 := [(2, .int (nI (k + 1))), (1, .int x1), (0, .ref P)]) K 1 dX10_fearOf_43 rfl rfl (by decide) rfl ?_
          refine v_goto (tgt := 6) K dX10_fearOf_46 rfl ?_
          refine v_sub (lv2 := [(0, .ref P), (1, .int x1), (2, .int (nI (k + 1)))]) (by simp) ?_
          exact ih6 x1 (k + 1) (by first | assumption | omega | rfl) (by rw [e_x1, hf]; show _ = _ + _; first | rw [if_pos (by assumption)] | rw [if_neg (by assumption)]) (by omega)
        · skip
          refine v_aload_n K dX10_fearOf_29 rfl ?_
          refine v_bipushN K 94 rfl dX10_fearOf_30 ?_
          refine v_iconstN K 3 rfl dX10_fearOf_32 ?_
          refine v_iload_n K dX10_fearOf_33 rfl ?_
          refine v_imulN K dX10_fearOf_34 ?_
          refine v_iaddN K dX10_fearOf_35 ?_
          refine v_iald (x := h P (94 + (3 * k))) K hm.s hm.l (by omega) rfl dX10_fearOf_36 ?_
          refine v_goto (tgt := 41) K dX10_fearOf_37 rfl ?_
          refine v_iadd K dX10_fearOf_41 ?_
          refine v_nm (fun x2 e_x2 => ?_)
          refine v_istore_n (lv2 := [(1, .int x2), (0, .ref P), (2, .int (nI k))]) K dX10_fearOf_42 (by decide) rfl ?_
          refine v_iincN (lv2 := [(2, .int (nI (k + 1))), (1, .int x2), (0, .ref P)]) K 1 dX10_fearOf_43 rfl rfl (by decide) rfl ?_
          refine v_goto (tgt := 6) K dX10_fearOf_46 rfl ?_
          refine v_sub (lv2 := [(0, .ref P), (1, .int x2), (2, .int (nI (k + 1)))]) (by simp) ?_
          exact ih6 x2 (k + 1) (by first | assumption | omega | rfl) (by rw [e_x2, hf]; show _ = _ + _; first | rw [if_pos (by assumption)] | rw [if_neg (by assumption)]) (by omega)
  refine v_sub (lv2 := [(0, .ref P), (1, .int (h P 3)), (2, .int (nI 0))]) (by simp) ?_
  exact L6 (ntD (h P) + 1 - 0 + 1) (h P 3) 0 (by first | assumption | omega | rfl) (by rfl) (Nat.lt_succ_self _)

abbrev P_X10_boldOf (h : Mm) (P : Nat) : Option Value → Mm → Prop := fun r h2 => r = some (.int (boldD (h P))) ∧ h = h2
theorem c_X10_boldOf {l : Launch} (h : Mm) (P : Nat) (hm : mP P) (hd : DOK (h P)) : Con l yX10_boldOf cX10_boldOf 1 (some .int) 1 22 132 GL h [.ref P] (P_X10_boldOf h P) := by
  refine Con.ofV (own := "FoxRoundsModel") (nm := "boldOf") rfl rfl (by decide) (Nat.le_of_ble_eq_true rfl) ?_
  intro κ ρ hkl K
  subst hkl
  show V κ (QM κ (132, ρ, GL, 0, 0) (P_X10_boldOf h P)) 1 (132, ρ, GL, 0, 0) h 0 [(0, .ref P)] []
  refine v_aload_n K dX10_boldOf_0 rfl ?_
  refine v_iconstN K 2 rfl dX10_boldOf_1 ?_
  refine v_iald (x := h P 2) K hm.s hm.l (by omega) rfl dX10_boldOf_2 ?_
  refine v_aload_n K dX10_boldOf_3 rfl ?_
  refine v_callS (As := [.ref P]) K (c_X10_fearOf h P hm hd) lX10_198 rfl ⟨by decide, by decide⟩ (Nat.le_of_ble_eq_true rfl) dX10_boldOf_4 (fun r1 h1 hp1 => ?_) rfl
  obtain ⟨rfl, rfl⟩ := hp1
  refine v_some ?_
  refine v_isub K dX10_boldOf_7 ?_
  refine v_iconstN K 5 rfl dX10_boldOf_8 ?_
  refine v_aload_n K dX10_boldOf_9 rfl ?_
  refine v_iconstN K 1 rfl dX10_boldOf_10 ?_
  refine v_iald (x := h P 1) K hm.s hm.l (by omega) rfl dX10_boldOf_11 ?_
  refine v_imul K dX10_boldOf_12 ?_
  refine v_iadd K dX10_boldOf_13 ?_
  refine v_iret K dX10_boldOf_14 ?_
  exact ⟨rfl, rfl⟩

abbrev P_X10_easeOf (h : Mm) (P w : Nat) : Option Value → Mm → Prop := fun r h2 => r = some (.int (easeD (h P) w)) ∧ h = h2
theorem c_X10_easeOf {l : Launch} (h : Mm) (P w : Nat) (hm : mP P) (hw : w < 8) (hk : ix (h P (46 + 6 * w)) 7) : Con l yX10_easeOf cX10_easeOf 8 (some .int) 1 22 132 GL h [.ref P, .int (nI w)] (P_X10_easeOf h P w) := by
  refine Con.ofV (own := "FoxRoundsModel") (nm := "easeOf") rfl rfl (by decide) (Nat.le_of_ble_eq_true rfl) ?_
  intro κ ρ hkl K
  subst hkl
  show V κ (QM κ (132, ρ, GL, 0, 0) (P_X10_easeOf h P w)) 8 (132, ρ, GL, 0, 0) h 0 [(0, .ref P), (1, .int (nI w))] []
  refine v_aload_n K dX10_easeOf_0 rfl ?_
  refine v_bipushN K 8 rfl dX10_easeOf_1 ?_
  refine v_iald (x := h P 8) K hm.s hm.l (by omega) rfl dX10_easeOf_3 ?_
  refine v_bipushN K 30 rfl dX10_easeOf_4 ?_
  refine v_idiv K dX10_easeOf_6 (by decide) ?_
  refine v_bipushN K 12 rfl dX10_easeOf_7 ?_
  refine v_irem K dX10_easeOf_9 (by decide) ?_
  refine v_nm (fun mo e_mo => ?_)
  refine v_istore_n (lv2 := [(2, .int mo), (0, .ref P), (1, .int (nI w))]) K dX10_easeOf_10 (by decide) rfl ?_
  have hmo : mo = monthD (h P) := e_mo
  refine v_bipushN K 99 rfl dX10_easeOf_11 ?_
  refine v_aload_n K dX10_easeOf_13 rfl ?_
  refine v_iload_n K dX10_easeOf_14 rfl ?_
  refine v_iconstN K 1 rfl dX10_easeOf_15 ?_
  refine v_callS (As := [.ref P, .int (nI w), .int (nI 1)]) K (c_X10_of h P w 1 hm (by omega)) lX10_170 rfl ⟨by decide, by decide⟩ (Nat.le_of_ble_eq_true rfl) dX10_easeOf_16 (fun r1 h1 hp1 => ?_) rfl
  obtain ⟨rfl, rfl⟩ := hp1
  refine v_some ?_
  refine v_isub K dX10_easeOf_19 ?_
  refine v_nm (fun pl e_pl => ?_)
  refine v_istore_n (lv2 := [(3, .int pl), (2, .int mo), (0, .ref P), (1, .int (nI w))]) K dX10_easeOf_20 (by decide) rfl ?_
  have L34 : ∀ (dr : Int32) (hdr : dr = doorD (h P) w), V κ (QM κ (132, ρ, GL, 0, 0) (P_X10_easeOf h P w)) 8 (132, ρ, GL, 0, 0) h 34 [(0, .ref P), (1, .int (nI w)), (2, .int mo), (3, .int pl)] [.int dr] := by
    intro dr hdr
    refine v_istore (lv2 := [(4, .int dr), (0, .ref P), (1, .int (nI w)), (2, .int mo), (3, .int pl)]) K dX10_easeOf_34 (by decide) rfl ?_
    have L63 : ∀ (fr : Int32) (hfr : fr = frostD (h P)), V κ (QM κ (132, ρ, GL, 0, 0) (P_X10_easeOf h P w)) 8 (132, ρ, GL, 0, 0) h 63 [(0, .ref P), (1, .int (nI w)), (2, .int mo), (3, .int pl), (4, .int dr)] [.int fr, .int (pl + nI 3 * h P (46 + 6 * w + 4))] := by
      intro fr hfr
      refine v_isub K dX10_easeOf_63 ?_
      refine v_nm (fun du e_du => ?_)
      refine v_istore (lv2 := [(5, .int du), (0, .ref P), (1, .int (nI w)), (2, .int mo), (3, .int pl), (4, .int dr)]) K dX10_easeOf_64 (by decide) rfl ?_
      refine v_iload_n K dX10_easeOf_66 rfl ?_
      refine v_iconstN K 5 rfl dX10_easeOf_67 ?_
      refine v_aload_n K dX10_easeOf_68 rfl ?_
      refine v_iload_n K dX10_easeOf_69 rfl ?_
      refine v_iconstN K 4 rfl dX10_easeOf_70 ?_
      refine v_callS (As := [.ref P, .int (nI w), .int (nI 4)]) K (c_X10_of h P w 4 hm (by omega)) lX10_170 rfl ⟨by decide, by decide⟩ (Nat.le_of_ble_eq_true rfl) dX10_easeOf_71 (fun r2 h2 hp2 => ?_) rfl
      obtain ⟨rfl, rfl⟩ := hp2
      refine v_some ?_
      refine v_imul K dX10_easeOf_74 ?_
      refine v_iadd K dX10_easeOf_75 ?_
      refine v_nm (fun lo e_lo => ?_)
      refine v_istore (lv2 := [(6, .int lo), (5, .int du), (0, .ref P), (1, .int (nI w)), (2, .int mo), (3, .int pl), (4, .int dr)]) K dX10_easeOf_76 (by decide) rfl ?_
      refine v_aload_n K dX10_easeOf_78 rfl ?_
      refine v_iload_n K dX10_easeOf_79 rfl ?_
      refine v_iconstN K 2 rfl dX10_easeOf_80 ?_
      refine v_callS (As := [.ref P, .int (nI w), .int (nI 2)]) K (c_X10_of h P w 2 hm (by omega)) lX10_170 rfl ⟨by decide, by decide⟩ (Nat.le_of_ble_eq_true rfl) dX10_easeOf_81 (fun r3 h3 hp3 => ?_) rfl
      obtain ⟨rfl, rfl⟩ := hp3
      refine v_some ?_
      refine v_nm (fun by_ e_by_ => ?_)
      refine v_istore (lv2 := [(7, .int by_), (6, .int lo), (5, .int du), (0, .ref P), (1, .int (nI w)), (2, .int mo), (3, .int pl), (4, .int dr)]) K dX10_easeOf_84 (by decide) rfl ?_
      refine v_aload_n K dX10_easeOf_86 rfl ?_
      refine v_iload_n K dX10_easeOf_87 rfl ?_
      refine v_iconstN K 0 rfl dX10_easeOf_88 ?_
      refine v_callS (As := [.ref P, .int (nI w), .int (nI 0)]) K (c_X10_of h P w 0 hm (by omega)) lX10_170 rfl ⟨by decide, by decide⟩ (Nat.le_of_ble_eq_true rfl) dX10_easeOf_89 (fun r4 h4 hp4 => ?_) rfl
      obtain ⟨rfl, rfl⟩ := hp4
      refine v_some ?_
      rcases ixc_7 hk with e | e | e | e | e | e | e
      · skip
        refine v_top (y := nI 0) e ?_
        refine v_toutN (tgt := 175) K (by decide) dX10_easeOf_92 (by decide) rfl ?_
        refine v_iload_n K dX10_easeOf_175 rfl ?_
        refine v_iret K dX10_easeOf_176 ?_
        exact ⟨some_int (by rw [easeD_0 e, e_pl]; rfl), rfl⟩
      · skip
        refine v_top (y := nI 1) e ?_
        refine v_tinN (off := 40) (tgt := 132) K (by decide) 1 dX10_easeOf_92 (by decide) (by decide) (by decide) rfl rfl ?_
        refine v_iload K dX10_easeOf_132 rfl ?_
        refine v_iret K dX10_easeOf_134 ?_
        exact ⟨some_int (by rw [easeD_1 e, hdr]), rfl⟩
      · skip
        refine v_top (y := nI 2) e ?_
        refine v_tinN (off := 43) (tgt := 135) K (by decide) 2 dX10_easeOf_92 (by decide) (by decide) (by decide) rfl rfl ?_
        refine v_iload K dX10_easeOf_135 rfl ?_
        refine v_iret K dX10_easeOf_137 ?_
        exact ⟨some_int (by rw [easeD_2 e, e_du, hfr, e_pl]; rfl), rfl⟩
      · skip
        refine v_top (y := nI 3) e ?_
        refine v_tinN (off := 46) (tgt := 138) K (by decide) 3 dX10_easeOf_92 (by decide) (by decide) (by decide) rfl rfl ?_
        refine v_iload K dX10_easeOf_138 rfl ?_
        refine v_iret K dX10_easeOf_140 ?_
        exact ⟨some_int (by rw [easeD_3 e, e_lo, e_pl]; rfl), rfl⟩
      · skip
        refine v_top (y := nI 4) e ?_
        refine v_tinN (off := 49) (tgt := 141) K (by decide) 4 dX10_easeOf_92 (by decide) (by decide) (by decide) rfl rfl ?_
        refine v_iload K dX10_easeOf_141 rfl ?_
        refine v_iload K dX10_easeOf_143 rfl ?_
        refine v_isub K dX10_easeOf_145 ?_
        refine v_iret K dX10_easeOf_146 ?_
        exact ⟨some_int (by rw [easeD_4 e, e_du, hfr, e_pl, e_by_]; rfl), rfl⟩
      · skip
        refine v_top (y := nI 5) e ?_
        refine v_tinN (off := 55) (tgt := 147) K (by decide) 5 dX10_easeOf_92 (by decide) (by decide) (by decide) rfl rfl ?_
        refine v_iload K dX10_easeOf_147 rfl ?_
        refine v_iload K dX10_easeOf_149 rfl ?_
        refine v_iadd K dX10_easeOf_151 ?_
        refine v_iret K dX10_easeOf_152 ?_
        exact ⟨some_int (by rw [easeD_5 e, e_lo, e_pl, e_by_]; rfl), rfl⟩
      · skip
        refine v_top (y := nI 6) e ?_
        refine v_tinN (off := 61) (tgt := 153) K (by decide) 6 dX10_easeOf_92 (by decide) (by decide) (by decide) rfl rfl ?_
        refine v_iload_n K dX10_easeOf_153 rfl ?_
        refine v_iconstN K 5 rfl dX10_easeOf_154 ?_
        refine v_icmp_lt (tgt := 172) K dX10_easeOf_155 rfl (fun c1 => ?_) (fun c1 => ?_)
        · skip
          refine v_iload K dX10_easeOf_172 rfl ?_
          refine v_iret K dX10_easeOf_174 ?_
          refine ⟨some_int ?_, rfl⟩
          rw [easeD_6 e, ← hmo]
          first | (rw [if_pos (by simp only [i32_lt, i32_le] at *; omega), hdr, e_by_]) | (rw [if_neg (by simp only [i32_lt, i32_le] at *; omega), hdr])
        · skip
          refine v_iload_n K dX10_easeOf_158 rfl ?_
          refine v_bipushN K 7 rfl dX10_easeOf_159 ?_
          refine v_icmp_gt (tgt := 172) K dX10_easeOf_161 rfl (fun c2 => ?_) (fun c2 => ?_)
          · skip
            refine v_iload K dX10_easeOf_172 rfl ?_
            refine v_iret K dX10_easeOf_174 ?_
            refine ⟨some_int ?_, rfl⟩
            rw [easeD_6 e, ← hmo]
            first | (rw [if_pos (by simp only [i32_lt, i32_le] at *; omega), hdr, e_by_]) | (rw [if_neg (by simp only [i32_lt, i32_le] at *; omega), hdr])
          · skip
            refine v_iload K dX10_easeOf_164 rfl ?_
            refine v_iload K dX10_easeOf_166 rfl ?_
            refine v_isub K dX10_easeOf_168 ?_
            refine v_goto (tgt := 174) K dX10_easeOf_169 rfl ?_
            refine v_iret K dX10_easeOf_174 ?_
            refine ⟨some_int ?_, rfl⟩
            rw [easeD_6 e, ← hmo]
            first | (rw [if_pos (by simp only [i32_lt, i32_le] at *; omega), hdr, e_by_]) | (rw [if_neg (by simp only [i32_lt, i32_le] at *; omega), hdr])
    refine v_iload_n K dX10_easeOf_36 rfl ?_
    refine v_iconstN K 3 rfl dX10_easeOf_37 ?_
    refine v_aload_n K dX10_easeOf_38 rfl ?_
    refine v_iload_n K dX10_easeOf_39 rfl ?_
    refine v_iconstN K 4 rfl dX10_easeOf_40 ?_
    refine v_callS (As := [.ref P, .int (nI w), .int (nI 4)]) K (c_X10_of h P w 4 hm (by omega)) lX10_170 rfl ⟨by decide, by decide⟩ (Nat.le_of_ble_eq_true rfl) dX10_easeOf_41 (fun r5 h5 hp5 => ?_) rfl
    obtain ⟨rfl, rfl⟩ := hp5
    refine v_some ?_
    refine v_imul K dX10_easeOf_44 ?_
    refine v_iadd K dX10_easeOf_45 ?_
    refine v_iload_n K dX10_easeOf_46 rfl ?_
    refine v_iconstN K 2 rfl dX10_easeOf_47 ?_
    refine v_icmp_lt (tgt := 57) K dX10_easeOf_48 rfl (fun c3 => ?_) (fun c3 => ?_)
    · skip
      refine v_bipushN K 20 rfl dX10_easeOf_57 ?_
      refine v_goto (tgt := 63) K dX10_easeOf_59 rfl ?_
      refine v_sub (lv2 := [(0, .ref P), (1, .int (nI w)), (2, .int mo), (3, .int pl), (4, .int dr)]) (by simp) ?_
      exact L63 (nI 20) (by unfold frostD; rw [← hmo]; first | rw [if_pos (Or.inl (by assumption))] | rw [if_pos (Or.inr (by assumption))] | rw [if_neg (by simp only [not_or]; exact ⟨by assumption, by assumption⟩)])
    · skip
      refine v_iload_n K dX10_easeOf_51 rfl ?_
      refine v_bipushN K 11 rfl dX10_easeOf_52 ?_
      refine v_icmp_ne (tgt := 62) K dX10_easeOf_54 rfl (fun c4 => ?_) (fun c4 => ?_)
      · skip
        refine v_iconstN K 0 rfl dX10_easeOf_62 ?_
        refine v_sub (lv2 := [(0, .ref P), (1, .int (nI w)), (2, .int mo), (3, .int pl), (4, .int dr)]) (by simp) ?_
        exact L63 (nI 0) (by unfold frostD; rw [← hmo]; first | rw [if_pos (Or.inl (by assumption))] | rw [if_pos (Or.inr (by assumption))] | rw [if_neg (by simp only [not_or]; exact ⟨by assumption, by assumption⟩)])
      · skip
        refine v_bipushN K 20 rfl dX10_easeOf_57 ?_
        refine v_goto (tgt := 63) K dX10_easeOf_59 rfl ?_
        refine v_sub (lv2 := [(0, .ref P), (1, .int (nI w)), (2, .int mo), (3, .int pl), (4, .int dr)]) (by simp) ?_
        exact L63 (nI 20) (by unfold frostD; rw [← hmo]; first | rw [if_pos (Or.inl (by assumption))] | rw [if_pos (Or.inr (by assumption))] | rw [if_neg (by simp only [not_or]; exact ⟨by assumption, by assumption⟩)])
  refine v_aload_n K dX10_easeOf_21 rfl ?_
  refine v_iconstN K 4 rfl dX10_easeOf_22 ?_
  refine v_iald (x := h P 4) K hm.s hm.l (by omega) rfl dX10_easeOf_23 ?_
  refine v_iconstN K 1 rfl dX10_easeOf_24 ?_
  refine v_icmp_ne (tgt := 33) K dX10_easeOf_25 rfl (fun c5 => ?_) (fun c5 => ?_)
  · skip
    refine v_iload_n K dX10_easeOf_33 rfl ?_
    refine v_sub (lv2 := [(0, .ref P), (1, .int (nI w)), (2, .int mo), (3, .int pl)]) (by simp) ?_
    exact L34 pl (by unfold doorD; first | rw [if_pos (by assumption)] | (rw [if_neg (by assumption), e_pl]; rfl))
  · skip
    refine v_bipushN K 99 rfl dX10_easeOf_28 ?_
    refine v_goto (tgt := 34) K dX10_easeOf_30 rfl ?_
    refine v_sub (lv2 := [(0, .ref P), (1, .int (nI w)), (2, .int mo), (3, .int pl)]) (by simp) ?_
    exact L34 (nI 99) (by unfold doorD; first | rw [if_pos (by assumption)] | (rw [if_neg (by assumption), e_pl]; rfl))

abbrev P_X10_mends (h : Mm) (P w : Nat) : Option Value → Mm → Prop := fun r h2 => r = none ∧ rw2 h P (mendD (h P) w) = h2
theorem c_X10_mends {l : Launch} (h : Mm) (P w : Nat) (hm : mP P) (hw : w < 8) : Con l yX10_mends cX10_mends 2 none 1 22 132 GL h [.ref P, .int (nI w)] (P_X10_mends h P w) := by
  refine Con.ofV (own := "FoxRoundsModel") (nm := "mends") rfl rfl (by decide) (Nat.le_of_ble_eq_true rfl) ?_
  intro κ ρ hkl K
  subst hkl
  show V κ (QM κ (132, ρ, GL, 0, 0) (P_X10_mends h P w)) 2 (132, ρ, GL, 0, 0) h 0 [(0, .ref P), (1, .int (nI w))] []
  refine v_aload_n K dX10_mends_0 rfl ?_
  refine v_bipushN K 46 rfl dX10_mends_1 ?_
  refine v_bipushN K 6 rfl dX10_mends_3 ?_
  refine v_iload_n K dX10_mends_5 rfl ?_
  refine v_imulN K dX10_mends_6 ?_
  refine v_iaddN K dX10_mends_7 ?_
  refine v_iconstN K 1 rfl dX10_mends_8 ?_
  refine v_iaddN K dX10_mends_9 ?_
  refine v_aload_n K dX10_mends_10 rfl ?_
  refine v_iload_n K dX10_mends_11 rfl ?_
  refine v_iconstN K 1 rfl dX10_mends_12 ?_
  refine v_callS (As := [.ref P, .int (nI w), .int (nI 1)]) K (c_X10_of h P w 1 hm (by omega)) lX10_170 rfl ⟨by decide, by decide⟩ (Nat.le_of_ble_eq_true rfl) dX10_mends_13 (fun r1 h1 hp1 => ?_) rfl
  obtain ⟨rfl, rfl⟩ := hp1
  refine v_some ?_
  refine v_bipushN K 50 rfl dX10_mends_16 ?_
  refine v_iadd K dX10_mends_18 ?_
  refine v_iconstN K 0 rfl dX10_mends_19 ?_
  refine v_bipushN K 99 rfl dX10_mends_20 ?_
  refine v_callS (As := [.int ((h P (46 + 6 * w + 1)) + (nI 50)), .int (nI 0), .int (nI 99)]) K (c_X10_held h ((h P (46 + 6 * w + 1)) + (nI 50)) (nI 0) (nI 99)) lX10_131 rfl ⟨by decide, by decide⟩ (Nat.le_of_ble_eq_true rfl) dX10_mends_22 (fun r2 h2 hp2 => ?_) rfl
  obtain ⟨rfl, rfl⟩ := hp2
  refine v_some ?_
  refine v_iast K hm.s hm.l (by omega) dX10_mends_25 ?_
  refine v_aload_n K dX10_mends_26 rfl ?_
  refine v_bipushN K 46 rfl dX10_mends_27 ?_
  refine v_bipushN K 6 rfl dX10_mends_29 ?_
  refine v_iload_n K dX10_mends_31 rfl ?_
  refine v_imulN K dX10_mends_32 ?_
  refine v_iaddN K dX10_mends_33 ?_
  refine v_iconstN K 4 rfl dX10_mends_34 ?_
  refine v_iaddN K dX10_mends_35 ?_
  refine v_iconstN K 0 rfl dX10_mends_36 ?_
  refine v_iast K hm.s hm.l (by omega) dX10_mends_37 ?_
  refine v_vret K dX10_mends_38 ?_
  exact ⟨rfl, by rw [u2_rw, u2_rw, rw2_rw2, rw2_at]; rfl⟩
