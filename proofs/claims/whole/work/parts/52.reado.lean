theorem RQM.tl {h : Mm} {w k : List Int32} {a o b : Nat} {e : Bool} (H : RQM h w k a o b e) : RQM (u2 h 99 6 (nI k.tail.length)) w k.tail a o b e := by
  cases k with
  | nil => exact ⟨(u2_ne (by omega)).trans H.w1, fun i hi => (u2_ne (by omega)).trans (H.w2 i hi), u2_at, fun i hi => absurd hi (Nat.not_lt_zero _), (u2_ne (by omega)).trans H.at_, (u2_ne (by omega)).trans H.op, (u2_ne (by omega)).trans H.br, (u2_ne (by omega)).trans H.du⟩
  | cons x k => exact H.pop
theorem max_tail {k : List Int32} (hk : k.length < 100) : (if nI 0 < nI k.length - nI 1 then nI k.length - nI 1 else nI 0) = nI k.tail.length := by
  cases k with
  | nil => decide
  | cons x k =>
    have hk : k.length + 1 < 100 := hk
    show (if nI 0 < nI (k.length + 1) - nI 1 then nI (k.length + 1) - nI 1 else nI 0) = nI k.length
    have key : ∀ m, m < 100 → (if nI 0 < nI (m + 1) - nI 1 then nI (m + 1) - nI 1 else nI 0) = nI m := by decide +kernel
    exact key k.length (by omega)
theorem min_nn {a b : Nat} (ha : a < 2 ^ 31) (hb : b < 2 ^ 31) : (if nI b < nI a then nI b else nI a) = nI (min a b) := by
  by_cases q : b < a
  · rw [if_pos (by rw [i32_lt, nI_toInt hb, nI_toInt ha]; omega), Nat.min_eq_right (by omega)]
  · rw [if_neg (by rw [i32_lt, nI_toInt hb, nI_toInt ha]; omega), Nat.min_eq_left (by omega)]
theorem RQM.beg {h : Mm} : RQM (u2 (u2 (u2 (u2 (u2 (u2 h 100 1 (nI 0)) 99 4 (nI 0)) 99 6 (nI 0)) 99 7 (nI 0)) 99 8 (nI 0)) 99 9 (nI 1)) [] [] 0 0 0 true := by
  refine ⟨?_, fun i hi => absurd hi (Nat.not_lt_zero _), ?_, fun i hi => absurd hi (Nat.not_lt_zero _), ?_, ?_, ?_, u2_at.trans (b2i_t rfl).symm⟩
  all_goals repeat (first | exact u2_at | rw [u2_ne (by omega)])
theorem name_lt5 {u : Nat} {c : Int32} {j : Nat} (h : nameP u c = some j) : j < 5 := by
  unfold nameP at h
  split at h
  · repeat (first | (split at h; · cases h; omega) | cases h)
  · split at h
    · repeat (first | (split at h; · cases h; omega) | cases h)
    · repeat (first | (split at h; · cases h; omega) | cases h)

abbrev P_X3_begin (h : Mm) : Option Value → Mm → Prop := fun r h2 => r = none ∧ RQM h2 [] [] 0 0 0 true ∧ FrQ h h2
theorem c_X3_begin {l : Launch} (h : Mm)  : Con l yX3_begin cX3_begin 1 none 1 20 132 GL h [.ref 99] (P_X3_begin h) := by
  refine Con.ofV (own := "FoxRounds$Reader") (nm := "begin") rfl rfl (by decide) (Nat.le_of_ble_eq_true rfl) ?_
  intro κ ρ hkl K
  subst hkl
  show V κ (QM κ (132, ρ, GL, 0, 0) (P_X3_begin h)) 1 (132, ρ, GL, 0, 0) h 0 [(0, .ref 99)] []
  refine v_aload_n K dX3_begin_0 rfl ?_
  refine v_getr (q := 100) K fX3_14 sh_99 pl_99 gl_99_0 dX3_begin_1 ?_
  refine v_callV (As := []) K (c_X5_clear h) lX3_74 ck_X5 rfl sh_100 pl_100 rfl ⟨by decide, by decide⟩ (Nat.le_of_ble_eq_true rfl) dX3_begin_4 (fun r1 h1 hp1 => ?_) rfl
  obtain ⟨rfl, rfl⟩ := hp1
  refine v_none ?_
  refine v_aload_n K dX3_begin_7 rfl ?_
  refine v_iconstN K 0 rfl dX3_begin_8 ?_
  refine v_puti K pX3_34 sh_99 pl_99 dX3_begin_9 ?_
  refine v_aload_n K dX3_begin_12 rfl ?_
  refine v_iconstN K 0 rfl dX3_begin_13 ?_
  refine v_puti K pX3_41 sh_99 pl_99 dX3_begin_14 ?_
  refine v_aload_n K dX3_begin_17 rfl ?_
  refine v_iconstN K 0 rfl dX3_begin_18 ?_
  refine v_puti K pX3_44 sh_99 pl_99 dX3_begin_19 ?_
  refine v_aload_n K dX3_begin_22 rfl ?_
  refine v_iconstN K 0 rfl dX3_begin_23 ?_
  refine v_puti K pX3_47 sh_99 pl_99 dX3_begin_24 ?_
  refine v_aload_n K dX3_begin_27 rfl ?_
  refine v_iconstN K 1 rfl dX3_begin_28 ?_
  refine v_putz K pX3_50 sh_99 pl_99 (by decide) dX3_begin_29 ?_
  refine v_vret K dX3_begin_32 ?_
  exact ⟨rfl, RQM.beg, (((((FrQ.r.u (by omega)).u (by omega)).u (by omega)).u (by omega)).u (by omega)).u (by omega)⟩

abbrev P_X3_takeOpening (h : Mm) (w k : List Int32) (a o b : Nat) (v : Int32) : Option Value → Mm → Prop := fun r h2 => r = some (.int (outI (opnQ v w k a o b))) ∧ OutQ (opnQ v w k a o b) a h2 ∧ FrQ h h2
theorem c_X3_takeOpening {l : Launch} (h : Mm) (w k : List Int32) (a o b : Nat) (v : Int32) (hR : RQM h w k a o b true) (hl : k.length < 50) (ho : o ≤ 5) : Con l yX3_takeOpening cX3_takeOpening 2 (some .boolean) 1 21 132 GL h [.ref 99, .int v] (P_X3_takeOpening h w k a o b v) := by
  refine Con.ofV (own := "FoxRounds$Reader") (nm := "takeOpening") rfl rfl (by decide) (Nat.le_of_ble_eq_true rfl) ?_
  intro κ ρ hkl K
  subst hkl
  show V κ (QM κ (132, ρ, GL, 0, 0) (P_X3_takeOpening h w k a o b v)) 2 (132, ρ, GL, 0, 0) h 0 [(0, .ref 99), (1, .int v)] []
  refine v_aload_n K dX3_takeOpening_0 rfl ?_
  refine v_geti (x := nI o) K fX3_44 sh_99 pl_99 hR.op dX3_takeOpening_1 ?_
  refine v_iconstN K 5 rfl dX3_takeOpening_4 ?_
  refine v_icmpN_lt (tgt := 10) K (by omega) (by omega) dX3_takeOpening_5 rfl (fun c1 => ?_) (fun c1 => ?_)
  · skip
    refine v_aload_n K dX3_takeOpening_10 rfl ?_
    refine v_dup K dX3_takeOpening_11 rfl ?_
    refine v_geti (x := nI o) K fX3_44 sh_99 pl_99 hR.op dX3_takeOpening_12 ?_
    refine v_iconstN K 1 rfl dX3_takeOpening_15 ?_
    refine v_iaddN K dX3_takeOpening_16 ?_
    refine v_puti K pX3_44 sh_99 pl_99 dX3_takeOpening_17 ?_
    have hQz1 : RQM (u2 h 99 7 (nI (o + 1))) w k a (o + 1) b true := hR.so
    have hFz1 : FrQ h (u2 h 99 7 (nI (o + 1))) := FrQ.r.u (by omega)
    refine v_aload_n K dX3_takeOpening_20 rfl ?_
    refine v_dup K dX3_takeOpening_21 rfl ?_
    refine v_geti (x := nI b) K fX3_47 sh_99 pl_99 hQz1.br dX3_takeOpening_22 ?_
    refine v_iload_n K dX3_takeOpening_25 rfl ?_
    refine v_bipushN K 40 rfl dX3_takeOpening_26 ?_
    refine v_icmp_ne (tgt := 35) K dX3_takeOpening_28 rfl (fun c2 => ?_) (fun c2 => ?_)
    · skip
      refine v_iconstN K 0 rfl dX3_takeOpening_35 ?_
      refine v_iaddN K dX3_takeOpening_36 ?_
      refine v_puti K pX3_47 sh_99 pl_99 dX3_takeOpening_37 ?_
      have hQz2 : RQM (u2 (u2 h 99 7 (nI (o + 1))) 99 8 (nI (b + 0))) w k a (o + 1) (b + 0) true := hQz1.sb
      have hFz2 : FrQ h (u2 (u2 h 99 7 (nI (o + 1))) 99 8 (nI (b + 0))) := hFz1.u (by omega)
      refine v_aload_n K dX3_takeOpening_40 rfl ?_
      refine v_iload_n K dX3_takeOpening_41 rfl ?_
      refine v_callV (As := [.int v]) K (c_X3_pushSign ((u2 (u2 h 99 7 (nI (o + 1))) 99 8 (nI (b + 0)))) w k a (o + 1) (b + 0) true v hQz2 (by omega)) lX3_98 ck_X3 rfl sh_99 pl_99 rfl ⟨by decide, by decide⟩ (Nat.le_of_ble_eq_true rfl) dX3_takeOpening_42 (fun r1 h1 hp1 => ?_) rfl
      obtain ⟨rfl, hQy1, hGy1⟩ := hp1
      have hFy1 := hFz2.t hGy1
      refine v_none ?_
      refine v_aload_n K dX3_takeOpening_45 rfl ?_
      refine v_dup K dX3_takeOpening_46 rfl ?_
      refine v_geti (x := nI a) K fX3_34 sh_99 pl_99 hQy1.at_ dX3_takeOpening_47 ?_
      refine v_iconstN K 1 rfl dX3_takeOpening_50 ?_
      refine v_iaddN K dX3_takeOpening_51 ?_
      refine v_puti K pX3_34 sh_99 pl_99 dX3_takeOpening_52 ?_
      have hQz3 : RQM (u2 h1 99 4 (nI (a + 1))) w (v :: k) (a + 1) (o + 1) (b + 0) true := hQy1.sa
      have hFz3 : FrQ h (u2 h1 99 4 (nI (a + 1))) := hFy1.u (by omega)
      refine v_iconstN K 1 rfl dX3_takeOpening_55 ?_
      refine v_zret K dX3_takeOpening_56 (by decide) ?_
      have e0 : opnQ v w k a o b = some (w, v :: k, a + 1, o + 1, b + 0, true) := by unfold opnQ; rw [if_neg (by omega), if_neg (by simpa using c2)]
      exact ⟨by rw [e0]; rfl, OutQ.s e0 hQz3, hFz3⟩
    · skip
      refine v_iconstN K 1 rfl dX3_takeOpening_31 ?_
      refine v_goto (tgt := 36) K dX3_takeOpening_32 rfl ?_
      refine v_iaddN K dX3_takeOpening_36 ?_
      refine v_puti K pX3_47 sh_99 pl_99 dX3_takeOpening_37 ?_
      have hQz4 : RQM (u2 (u2 h 99 7 (nI (o + 1))) 99 8 (nI (b + 1))) w k a (o + 1) (b + 1) true := hQz1.sb
      have hFz4 : FrQ h (u2 (u2 h 99 7 (nI (o + 1))) 99 8 (nI (b + 1))) := hFz1.u (by omega)
      refine v_aload_n K dX3_takeOpening_40 rfl ?_
      refine v_iload_n K dX3_takeOpening_41 rfl ?_
      refine v_callV (As := [.int v]) K (c_X3_pushSign ((u2 (u2 h 99 7 (nI (o + 1))) 99 8 (nI (b + 1)))) w k a (o + 1) (b + 1) true v hQz4 (by omega)) lX3_98 ck_X3 rfl sh_99 pl_99 rfl ⟨by decide, by decide⟩ (Nat.le_of_ble_eq_true rfl) dX3_takeOpening_42 (fun r2 h2 hp2 => ?_) rfl
      obtain ⟨rfl, hQy2, hGy2⟩ := hp2
      have hFy2 := hFz4.t hGy2
      refine v_none ?_
      refine v_aload_n K dX3_takeOpening_45 rfl ?_
      refine v_dup K dX3_takeOpening_46 rfl ?_
      refine v_geti (x := nI a) K fX3_34 sh_99 pl_99 hQy2.at_ dX3_takeOpening_47 ?_
      refine v_iconstN K 1 rfl dX3_takeOpening_50 ?_
      refine v_iaddN K dX3_takeOpening_51 ?_
      refine v_puti K pX3_34 sh_99 pl_99 dX3_takeOpening_52 ?_
      have hQz5 : RQM (u2 h2 99 4 (nI (a + 1))) w (v :: k) (a + 1) (o + 1) (b + 1) true := hQy2.sa
      have hFz5 : FrQ h (u2 h2 99 4 (nI (a + 1))) := hFy2.u (by omega)
      refine v_iconstN K 1 rfl dX3_takeOpening_55 ?_
      refine v_zret K dX3_takeOpening_56 (by decide) ?_
      have e0 : opnQ v w k a o b = some (w, v :: k, a + 1, o + 1, b + 1, true) := by unfold opnQ; rw [if_neg (by omega), if_pos (by simpa using c2)]
      exact ⟨by rw [e0]; rfl, OutQ.s e0 hQz5, hFz5⟩
  · skip
    refine v_iconstN K 0 rfl dX3_takeOpening_8 ?_
    refine v_zret K dX3_takeOpening_9 (by decide) ?_
    have e0 : opnQ v w k a o b = none := if_pos (by omega)
    exact ⟨by rw [e0]; rfl, OutQ.n e0 hR.at_, FrQ.r⟩

abbrev P_X3_takeClosing (h : Mm) (w k : List Int32) (a o b : Nat) : Option Value → Mm → Prop := fun r h2 => r = some (.int (outI (clsQ w k a o b))) ∧ OutQ (clsQ w k a o b) a h2 ∧ FrQ h h2
theorem c_X3_takeClosing {l : Launch} (h : Mm) (w k : List Int32) (a o b : Nat) (hR : RQM h w k a o b false) (hl : w.length + k.length ≤ 50) (hb : b + c33 k ≤ o) (ho : o ≤ 5) : Con l yX3_takeClosing cX3_takeClosing 1 (some .boolean) 2 42 132 GL h [.ref 99] (P_X3_takeClosing h w k a o b) := by
  refine Con.ofV (own := "FoxRounds$Reader") (nm := "takeClosing") rfl rfl (by decide) (Nat.le_of_ble_eq_true rfl) ?_
  intro κ ρ hkl K
  subst hkl
  show V κ (QM κ (132, ρ, GL, 0, 0) (P_X3_takeClosing h w k a o b)) 1 (132, ρ, GL, 0, 0) h 0 [(0, .ref 99)] []
  refine v_aload_n K dX3_takeClosing_0 rfl ?_
  refine v_geti (x := nI b) K fX3_47 sh_99 pl_99 hR.br dX3_takeClosing_1 ?_
  refine v_ifN_ne (tgt := 9) K (by omega) dX3_takeClosing_4 rfl (fun c1 => ?_) (fun c1 => ?_)
  · skip
    refine v_aload_n K dX3_takeClosing_9 rfl ?_
    refine v_iconstN K 1 rfl dX3_takeClosing_10 ?_
    refine v_callV (As := [.int (nI 1)]) K (c_X3_popDownTo h w k a o b false 1 hR (by omega) (by omega)) lX3_70 ck_X3 rfl sh_99 pl_99 rfl ⟨by decide, by decide⟩ (Nat.le_of_ble_eq_true rfl) dX3_takeClosing_11 (fun r1 h1 hp1 => ?_) rfl
    obtain ⟨rfl, hQy1, hGy1⟩ := hp1
    have hFy1 := FrQ.r.t hGy1
    have hPy1 := pop_len (l := 1) (k := k) (w := w)
    have hCy1 := pop_c33 (l := 1) (by omega) (k := k) (w := w)
    refine v_none ?_
    refine v_aload_n K dX3_takeClosing_14 rfl ?_
    refine v_iconstN K 0 rfl dX3_takeClosing_15 ?_
    refine v_aload_n K dX3_takeClosing_16 rfl ?_
    refine v_geti (x := nI (((popQ 1 w k).2).length)) K fX3_41 sh_99 pl_99 hQy1.k1 dX3_takeClosing_17 ?_
    refine v_iconstN K 1 rfl dX3_takeClosing_20 ?_
    refine v_isub K dX3_takeClosing_21 ?_
    refine v_max K jX3_108 jst_max jin_math jco_max ⟨by decide, by decide, Nat.zero_le _, Nat.zero_le _⟩ (Nat.le_of_ble_eq_true rfl) dX3_takeClosing_22 ?_
    refine v_top (y := nI (((popQ 1 w k).2).tail.length)) (max_tail (by omega)) ?_
    refine v_puti K pX3_41 sh_99 pl_99 dX3_takeClosing_25 ?_
    have hQz1 : RQM (u2 h1 99 6 (nI (((popQ 1 w k).2).tail.length))) ((popQ 1 w k).1) (((popQ 1 w k).2).tail) a o b false := hQy1.tl
    have hFz1 : FrQ h (u2 h1 99 6 (nI (((popQ 1 w k).2).tail.length))) := hFy1.u (by omega)
    refine v_aload_n K dX3_takeClosing_28 rfl ?_
    refine v_dup K dX3_takeClosing_29 rfl ?_
    refine v_geti (x := nI b) K fX3_47 sh_99 pl_99 hQz1.br dX3_takeClosing_30 ?_
    refine v_iconstN K 1 rfl dX3_takeClosing_33 ?_
    refine v_isubN K (by omega) dX3_takeClosing_34 ?_
    refine v_puti K pX3_47 sh_99 pl_99 dX3_takeClosing_35 ?_
    have hQz2 : RQM (u2 (u2 h1 99 6 (nI (((popQ 1 w k).2).tail.length))) 99 8 (nI (b - 1))) ((popQ 1 w k).1) (((popQ 1 w k).2).tail) a o (b - 1) false := hQz1.sb
    have hFz2 : FrQ h (u2 (u2 h1 99 6 (nI (((popQ 1 w k).2).tail.length))) 99 8 (nI (b - 1))) := hFz1.u (by omega)
    refine v_aload_n K dX3_takeClosing_38 rfl ?_
    refine v_dup K dX3_takeClosing_39 rfl ?_
    refine v_geti (x := nI o) K fX3_44 sh_99 pl_99 hQz2.op dX3_takeClosing_40 ?_
    refine v_iconstN K 1 rfl dX3_takeClosing_43 ?_
    refine v_isubN K (by omega) dX3_takeClosing_44 ?_
    refine v_puti K pX3_44 sh_99 pl_99 dX3_takeClosing_45 ?_
    have hQz3 : RQM (u2 (u2 (u2 h1 99 6 (nI (((popQ 1 w k).2).tail.length))) 99 8 (nI (b - 1))) 99 7 (nI (o - 1))) ((popQ 1 w k).1) (((popQ 1 w k).2).tail) a (o - 1) (b - 1) false := hQz2.so
    have hFz3 : FrQ h (u2 (u2 (u2 h1 99 6 (nI (((popQ 1 w k).2).tail.length))) 99 8 (nI (b - 1))) 99 7 (nI (o - 1))) := hFz2.u (by omega)
    refine v_aload_n K dX3_takeClosing_48 rfl ?_
    refine v_dup K dX3_takeClosing_49 rfl ?_
    refine v_geti (x := nI a) K fX3_34 sh_99 pl_99 hQz3.at_ dX3_takeClosing_50 ?_
    refine v_iconstN K 1 rfl dX3_takeClosing_53 ?_
    refine v_iaddN K dX3_takeClosing_54 ?_
    refine v_puti K pX3_34 sh_99 pl_99 dX3_takeClosing_55 ?_
    have hQz4 : RQM (u2 (u2 (u2 (u2 h1 99 6 (nI (((popQ 1 w k).2).tail.length))) 99 8 (nI (b - 1))) 99 7 (nI (o - 1))) 99 4 (nI (a + 1))) ((popQ 1 w k).1) (((popQ 1 w k).2).tail) (a + 1) (o - 1) (b - 1) false := hQz3.sa
    have hFz4 : FrQ h (u2 (u2 (u2 (u2 h1 99 6 (nI (((popQ 1 w k).2).tail.length))) 99 8 (nI (b - 1))) 99 7 (nI (o - 1))) 99 4 (nI (a + 1))) := hFz3.u (by omega)
    have t1 := tail_len (k := (popQ 1 w k).2)
    have t2 := c33_tail (k := (popQ 1 w k).2)
    refine v_aload_n K dX3_takeClosing_58 rfl ?_
    refine v_callV (As := []) K (c_X3_endOperand ((u2 (u2 (u2 (u2 h1 99 6 (nI (((popQ 1 w k).2).tail.length))) 99 8 (nI (b - 1))) 99 7 (nI (o - 1))) 99 4 (nI (a + 1)))) ((popQ 1 w k).1) (((popQ 1 w k).2).tail) (a + 1) (o - 1) (b - 1) false hQz4 (by omega) (by omega) (by omega)) lX3_95 ck_X3 rfl sh_99 pl_99 rfl ⟨by decide, by decide⟩ (Nat.le_of_ble_eq_true rfl) dX3_takeClosing_59 (fun r2 h2 hp2 => ?_) rfl
    obtain ⟨rfl, hQy2, hGy2⟩ := hp2
    have hFy2 := hFz4.t hGy2
    refine v_none ?_
    refine v_iconstN K 1 rfl dX3_takeClosing_62 ?_
    refine v_zret K dX3_takeClosing_63 (by decide) ?_
    have e0 : clsQ w k a o b = some ((bngQ ((popQ 1 w k).1) (((popQ 1 w k).2).tail) (o - 1)).1, (bngQ ((popQ 1 w k).1) (((popQ 1 w k).2).tail) (o - 1)).2.1, a + 1, (bngQ ((popQ 1 w k).1) (((popQ 1 w k).2).tail) (o - 1)).2.2, b - 1, false) := if_neg (by omega)
    exact ⟨by rw [e0]; rfl, OutQ.s e0 hQy2, hFy2⟩
  · skip
    refine v_iconstN K 0 rfl dX3_takeClosing_7 ?_
    refine v_zret K dX3_takeClosing_8 (by decide) ?_
    have e0 : clsQ w k a o b = none := if_pos c1
    exact ⟨by rw [e0]; rfl, OutQ.n e0 hR.at_, FrQ.r⟩
