/-! the class's reading in its memory -/
def RQM (h : Mm) (w k : List Int32) (a o b : Nat) (e : Bool) : Prop := h 100 1 = nI w.length ∧ (∀ i, i < w.length → h 102 i = w.getD i 0) ∧ h 99 6 = nI k.length ∧ (∀ i, i < k.length → h 105 i = k.getD (k.length - 1 - i) 0) ∧ h 99 4 = nI a ∧ h 99 7 = nI o ∧ h 99 8 = nI b ∧ h 99 9 = b2i (e = true)
section RQP
variable {h : Mm} {w k : List Int32} {a o b : Nat} {e : Bool}
theorem RQM.w1 (H : RQM h w k a o b e) : h 100 1 = nI w.length := H.1
theorem RQM.w2 (H : RQM h w k a o b e) : ∀ i, i < w.length → h 102 i = w.getD i 0 := H.2.1
theorem RQM.k1 (H : RQM h w k a o b e) : h 99 6 = nI k.length := H.2.2.1
theorem RQM.k2 (H : RQM h w k a o b e) : ∀ i, i < k.length → h 105 i = k.getD (k.length - 1 - i) 0 := H.2.2.2.1
theorem RQM.at_ (H : RQM h w k a o b e) : h 99 4 = nI a := H.2.2.2.2.1
theorem RQM.op (H : RQM h w k a o b e) : h 99 7 = nI o := H.2.2.2.2.2.1
theorem RQM.br (H : RQM h w k a o b e) : h 99 8 = nI b := H.2.2.2.2.2.2.1
theorem RQM.du (H : RQM h w k a o b e) : h 99 9 = b2i (e = true) := H.2.2.2.2.2.2.2
end RQP
abbrev RQY (h : Mm) (y : QS) : Prop := RQM h y.1 y.2.1 y.2.2.1 y.2.2.2.1 y.2.2.2.2.1 y.2.2.2.2.2
def RSM (h : Mm) (bt : Nat → Int32) (n u : Nat) : Prop := h 99 1 = nI 37 ∧ h 99 2 = nI n ∧ h 99 3 = nI (1020 + (u + 1) + 1) ∧ ∀ i, i < n → h 36 i = bt i
def FrQ (h h2 : Mm) : Prop := (∀ a, a ≠ 99 → a ≠ 100 → a ≠ 102 → a ≠ 105 → h2 a = h a) ∧ ∀ k, k < 4 → h2 99 k = h 99 k
theorem FrQ.r {h : Mm} : FrQ h h := ⟨fun _ _ _ _ _ => rfl, fun _ _ => rfl⟩
theorem FrQ.t {h h1 h2 : Mm} (H : FrQ h h1) (H2 : FrQ h1 h2) : FrQ h h2 := ⟨fun a a1 a2 a3 a4 => (H2.1 a a1 a2 a3 a4).trans (H.1 a a1 a2 a3 a4), fun k hk => (H2.2 k hk).trans (H.2 k hk)⟩
theorem FrQ.u {h h1 : Mm} {a k : Nat} {v : Int32} (H : FrQ h h1) (hk : (a = 99 ∧ 4 ≤ k) ∨ a = 100 ∨ a = 102 ∨ a = 105) : FrQ h (u2 h1 a k v) :=
  ⟨fun x a1 a2 a3 a4 => (u2_off (by omega)).trans (H.1 x a1 a2 a3 a4), fun j hj => (u2_ne (by omega)).trans (H.2 j hj)⟩
theorem RSM.fr {h h2 : Mm} {bt : Nat → Int32} {n u : Nat} (H : RSM h bt n u) (F : FrQ h h2) : RSM h2 bt n u :=
  ⟨(F.2 1 (by omega)).trans H.1, (F.2 2 (by omega)).trans H.2.1, (F.2 3 (by omega)).trans H.2.2.1, fun i hi => by rw [F.1 36 (by omega) (by omega) (by omega) (by omega)]; exact H.2.2.2 i hi⟩
section RQM
variable {h : Mm} {w k : List Int32} {a o b : Nat} {e : Bool}
theorem RQM.sa (H : RQM h w k a o b e) {a' : Nat} : RQM (u2 h 99 4 (nI a')) w k a' o b e :=
  ⟨(u2_ne (by omega)).trans H.w1, fun i hi => (u2_ne (by omega)).trans (H.w2 i hi), (u2_ne (by omega)).trans H.k1, fun i hi => (u2_ne (by omega)).trans (H.k2 i hi), u2_at, (u2_ne (by omega)).trans H.op, (u2_ne (by omega)).trans H.br, (u2_ne (by omega)).trans H.du⟩
theorem RQM.so (H : RQM h w k a o b e) {o' : Nat} : RQM (u2 h 99 7 (nI o')) w k a o' b e :=
  ⟨(u2_ne (by omega)).trans H.w1, fun i hi => (u2_ne (by omega)).trans (H.w2 i hi), (u2_ne (by omega)).trans H.k1, fun i hi => (u2_ne (by omega)).trans (H.k2 i hi), (u2_ne (by omega)).trans H.at_, u2_at, (u2_ne (by omega)).trans H.br, (u2_ne (by omega)).trans H.du⟩
theorem RQM.sb (H : RQM h w k a o b e) {b' : Nat} : RQM (u2 h 99 8 (nI b')) w k a o b' e :=
  ⟨(u2_ne (by omega)).trans H.w1, fun i hi => (u2_ne (by omega)).trans (H.w2 i hi), (u2_ne (by omega)).trans H.k1, fun i hi => (u2_ne (by omega)).trans (H.k2 i hi), (u2_ne (by omega)).trans H.at_, (u2_ne (by omega)).trans H.op, u2_at, (u2_ne (by omega)).trans H.du⟩
theorem RQM.sd (H : RQM h w k a o b e) {e' : Bool} {v : Int32} (hv : v = b2i (e' = true)) : RQM (u2 h 99 9 v) w k a o b e' :=
  ⟨(u2_ne (by omega)).trans H.w1, fun i hi => (u2_ne (by omega)).trans (H.w2 i hi), (u2_ne (by omega)).trans H.k1, fun i hi => (u2_ne (by omega)).trans (H.k2 i hi), (u2_ne (by omega)).trans H.at_, (u2_ne (by omega)).trans H.op, (u2_ne (by omega)).trans H.br, u2_at.trans hv⟩
theorem RQM.push (H : RQM h w k a o b e) {v : Int32} : RQM (u2 (u2 h 105 k.length v) 99 6 (nI (k.length + 1))) w (v :: k) a o b e :=
  ⟨(u2_ne (by omega)).trans ((u2_ne (by omega)).trans H.w1), fun i hi => (u2_ne (by omega)).trans ((u2_ne (by omega)).trans (H.w2 i hi)), u2_at, fun i hi => by
    rw [u2_ne (by omega)]
    have hi : i < k.length + 1 := hi
    show u2 h 105 k.length v 105 i = (v :: k).getD (k.length + 1 - 1 - i) 0
    by_cases q : i = k.length
    · subst q; rw [u2_at, show k.length + 1 - 1 - k.length = 0 by omega]; rfl
    · rw [u2_ne (by omega), show k.length + 1 - 1 - i = (k.length - 1 - i) + 1 by omega]
      exact H.k2 i (by omega), (u2_ne (by omega)).trans ((u2_ne (by omega)).trans H.at_), (u2_ne (by omega)).trans ((u2_ne (by omega)).trans H.op), (u2_ne (by omega)).trans ((u2_ne (by omega)).trans H.br), (u2_ne (by omega)).trans ((u2_ne (by omega)).trans H.du)⟩
theorem RQM.top {x : Int32} (H : RQM h w (x :: k) a o b e) : h 105 k.length = x := by
  have := H.k2 k.length (Nat.lt_succ_self _)
  rw [this, show (x :: k).length - 1 - k.length = 0 by show k.length + 1 - 1 - k.length = 0; omega]; rfl
theorem RQM.pop {x : Int32} (H : RQM h w (x :: k) a o b e) : RQM (u2 h 99 6 (nI k.length)) w k a o b e :=
  ⟨(u2_ne (by omega)).trans H.w1, fun i hi => (u2_ne (by omega)).trans (H.w2 i hi), u2_at, fun i hi => by
    rw [u2_ne (by omega), H.k2 i (Nat.lt_succ_of_lt hi)]
    show (x :: k).getD (k.length + 1 - 1 - i) 0 = _
    rw [show k.length + 1 - 1 - i = (k.length - 1 - i) + 1 by omega]; rfl, (u2_ne (by omega)).trans H.at_, (u2_ne (by omega)).trans H.op, (u2_ne (by omega)).trans H.br, (u2_ne (by omega)).trans H.du⟩
theorem RQM.add (H : RQM h w k a o b e) {v : Int32} : RQM (u2 (u2 h 102 w.length v) 100 1 (nI (w.length + 1))) (w ++ [v]) k a o b e := by
  have hl : (w ++ [v]).length = w.length + 1 := by rw [List.length_append]; rfl
  refine ⟨by rw [hl]; exact u2_at, fun i hi => ?_, (u2_ne (by omega)).trans ((u2_ne (by omega)).trans H.k1), fun i hi => (u2_ne (by omega)).trans ((u2_ne (by omega)).trans (H.k2 i hi)), (u2_ne (by omega)).trans ((u2_ne (by omega)).trans H.at_), (u2_ne (by omega)).trans ((u2_ne (by omega)).trans H.op), (u2_ne (by omega)).trans ((u2_ne (by omega)).trans H.br), (u2_ne (by omega)).trans ((u2_ne (by omega)).trans H.du)⟩
  rw [hl] at hi
  rw [u2_ne (by omega), List.getD_eq_getElem?_getD]
  by_cases q : i = w.length
  · subst q; rw [u2_at, List.getElem?_append_right (Nat.le_refl _), Nat.sub_self]; rfl
  · rw [u2_ne (by omega), H.w2 i (by omega), List.getElem?_append_left (by omega), ← List.getD_eq_getElem?_getD]
end RQM
/-! lengths on the way -/
theorem pop_len {l : Nat} : ∀ {k w : List Int32}, (popQ l w k).1.length + (popQ l w k).2.length = w.length + k.length
  | [], w => rfl
  | x :: k, w => by
    rw [popQ]
    split
    · rw [pop_len, List.length_append]; show w.length + 1 + k.length = w.length + (k.length + 1); omega
    · rfl
theorem bng_len : ∀ {k w : List Int32} {o : Nat}, (bngQ w k o).1.length + (bngQ w k o).2.1.length = w.length + k.length
  | [], w, o => rfl
  | x :: k, w, o => by
    rw [bngQ]
    split
    · rw [bng_len, List.length_append]; show w.length + 1 + k.length = w.length + (k.length + 1); omega
    · rfl
theorem c33_cons {x : Int32} {k : List Int32} : c33 (x :: k) = (if x = nI 33 then 1 else 0) + c33 k := by
  unfold c33
  show ((x :: k).filter (fun x => x == nI 33)).length = _
  rw [List.filter_cons]
  by_cases q : x = nI 33
  · rw [if_pos (by rw [q]; exact beq_self_eq_true _), if_pos q]; show _ + 1 = _; omega
  · rw [if_neg (by intro z; exact q (eq_of_beq z)), if_neg q]; omega
theorem pop_c33 {l : Nat} (h1 : 1 ≤ l) : ∀ {k w : List Int32}, c33 (popQ l w k).2 = c33 k
  | [], w => rfl
  | x :: k, w => by
    rw [popQ]
    split
    · rename_i q
      rw [pop_c33 h1, c33_cons, if_neg (fun e => by rw [e, show lvQ (nI 33) = 0 by decide] at q; omega)]; omega
    · rfl
theorem bng_c33 {b : Nat} : ∀ {k w : List Int32} {o : Nat}, b + c33 k ≤ o → b + c33 (bngQ w k o).2.1 ≤ (bngQ w k o).2.2 ∧ (bngQ w k o).2.2 ≤ o
  | [], w, o, h => ⟨h, Nat.le_refl _⟩
  | x :: k, w, o, h => by
    rw [c33_cons] at h
    rw [bngQ]
    split
    · rename_i q
      rw [if_pos q] at h
      obtain ⟨g1, g2⟩ := bng_c33 (b := b) (k := k) (w := w ++ [(-33)]) (o := o - 1) (by omega)
      exact ⟨g1, by omega⟩
    · rename_i q
      rw [if_neg q] at h
      exact ⟨by show b + c33 (x :: k) ≤ o; rw [c33_cons, if_neg q]; exact h, Nat.le_refl _⟩
theorem c33_tail {k : List Int32} : c33 k.tail ≤ c33 k := by
  cases k with
  | nil => exact Nat.le_refl _
  | cons x k => rw [c33_cons]; show c33 k ≤ _; omega
theorem tail_len {k : List Int32} : k.tail.length ≤ k.length := by
  cases k with
  | nil => exact Nat.le_refl _
  | cons x k => exact Nat.le_succ _
theorem dig_adv {bt : Nat → Int32} {n : Nat} : ∀ (f : Nat) (v : Int32) (s : PSt), s.1 ≤ n → s.1 ≤ (digP bt n f v s).2.2.1 ∧ (digP bt n f v s).2.2.1 ≤ n
  | 0, v, s, h => ⟨Nat.le_refl _, h⟩
  | f + 1, v, s, h => by
    rw [digP]
    split
    · rename_i q
      have h1 : s.1 < n := by
        rcases Nat.lt_or_ge s.1 n with z | z
        · exact z
        · have e : hereP bt n s = (-1) := by unfold hereP; rw [if_neg (fun y => by omega)]
          rw [e] at q; exact absurd q.1 (by decide)
      obtain ⟨g1, g2⟩ := dig_adv f (nI 10 * v + hereP bt n s - nI 48) (advP s) (show s.1 + 1 ≤ n from h1)
      exact ⟨Nat.le_trans (Nat.le_succ _) (show s.1 + 1 ≤ _ from g1), g2⟩
    · exact ⟨Nat.le_refl _, h⟩
theorem here_q {bt : Nat → Int32} {n a o : Nat} (h : a < n) : hereP bt n (a, none, o) = bt a := if_pos ⟨h, rfl⟩
theorem dig_go {bt : Nat → Int32} {n f a o : Nat} {v : Int32} (ha : a < n) (hd : nI 48 ≤ bt a ∧ bt a ≤ nI 57) : (digP bt n (f + 1) v (a, none, o)).1 = (digP bt n f (v * nI 10 + bt a - nI 48) (a + 1, none, o)).1 ∧ (digP bt n (f + 1) v (a, none, o)).2.2.1 = (digP bt n f (v * nI 10 + bt a - nI 48) (a + 1, none, o)).2.2.1 := by
  rw [digP, here_q ha, if_pos hd, Int32.mul_comm (nI 10) v]
  exact ⟨rfl, rfl⟩
theorem dig_no {bt : Nat → Int32} {n f a o : Nat} {v : Int32} (h : f = 0 ∨ n ≤ a ∨ ¬ (nI 48 ≤ bt a ∧ bt a ≤ nI 57)) : digP bt n f v (a, none, o) = (v, 0, (a, none, o)) := by
  cases f with
  | zero => rfl
  | succ f =>
    rw [digP, if_neg]
    intro q
    by_cases ha : a < n
    · rw [here_q ha] at q
      rcases h with h | h | h
      · omega
      · omega
      · exact h q
    · have e : hereP bt n (a, none, o) = (-1) := if_neg (fun z => ha z.1)
      rw [e] at q; exact absurd q.1 (by decide)
theorem dig_grow {bt : Nat → Int32} {n a o : Nat} (ha : a < n) (hd : nI 48 ≤ bt a ∧ bt a ≤ nI 57) : a < (digP bt n 4 (nI 0) (a, none, o)).2.2.1 := by
  rw [(dig_go (f := 3) ha hd).2]
  have := (dig_adv (bt := bt) (n := n) 3 (nI 0 * nI 10 + bt a - nI 48) (a + 1, none, o) ha).1
  exact this
/-! the parts of a step -/
def opnQ (v : Int32) (w k : List Int32) (a o b : Nat) : Option QS := if 5 ≤ o then none else some (w, v :: k, a + 1, o + 1, b + (if v = nI 40 then 1 else 0), true)
def clsQ (w k : List Int32) (a o b : Nat) : Option QS := if b = 0 then none else some ((bngQ (popQ 1 w k).1 (popQ 1 w k).2.tail (o - 1)).1, (bngQ (popQ 1 w k).1 (popQ 1 w k).2.tail (o - 1)).2.1, a + 1, (bngQ (popQ 1 w k).1 (popQ 1 w k).2.tail (o - 1)).2.2, b - 1, false)
section STQ
variable {bt : Nat → Int32} {n u : Nat} {w k : List Int32} {a o b : Nat} {e : Bool}
theorem opd_open (h : bt a = nI 33 ∨ bt a = nI 40) : opdQ bt n u (w, k, a, o, b, e) = opnQ (bt a) w k a o b := if_pos h
theorem opd_name {j : Nat} (h : ¬ (bt a = nI 33 ∨ bt a = nI 40)) (hj : nameP u (bt a) = some j) : opdQ bt n u (w, k, a, o, b, e) = some ((bngQ (w ++ [(-1) - nI j]) k o).1, (bngQ (w ++ [(-1) - nI j]) k o).2.1, a + 1, (bngQ (w ++ [(-1) - nI j]) k o).2.2, b, false) := by
  unfold opdQ
  rw [if_neg h]
  show (match nameP u (bt a) with | some j => _ | none => _) = _
  rw [hj]
theorem opd_dig (h : ¬ (bt a = nI 33 ∨ bt a = nI 40)) (hj : nameP u (bt a) = none) (hd : nI 48 ≤ bt a ∧ bt a ≤ nI 57) : opdQ bt n u (w, k, a, o, b, e) = some ((bngQ (w ++ [(digP bt n 4 (nI 0) (a, none, o)).1]) k o).1, (bngQ (w ++ [(digP bt n 4 (nI 0) (a, none, o)).1]) k o).2.1, (digP bt n 4 (nI 0) (a, none, o)).2.2.1, (bngQ (w ++ [(digP bt n 4 (nI 0) (a, none, o)).1]) k o).2.2, b, false) := by
  unfold opdQ
  rw [if_neg h]
  show (match nameP u (bt a) with | some j => _ | none => _) = _
  rw [hj]
  exact if_pos hd
theorem opd_none (h : ¬ (bt a = nI 33 ∨ bt a = nI 40)) (hj : nameP u (bt a) = none) (hd : ¬ (nI 48 ≤ bt a ∧ bt a ≤ nI 57)) : opdQ bt n u (w, k, a, o, b, e) = none := by
  unfold opdQ
  rw [if_neg h]
  show (match nameP u (bt a) with | some j => _ | none => _) = _
  rw [hj]
  exact if_neg hd
theorem fol_close (h : bt a = nI 41) : folQ bt (w, k, a, o, b, e) = clsQ w k a o b := if_pos h
theorem fol_no (h : ¬ bt a = nI 41) (h0 : lvQ (bt a) = 0) : folQ bt (w, k, a, o, b, e) = none := by
  unfold folQ; rw [if_neg h]; exact if_pos h0
theorem fol_no3 (h : ¬ bt a = nI 41) (h3 : lvQ (bt a) = 3) (ht : lvT (popQ 4 w k).2 = 3) : folQ bt (w, k, a, o, b, e) = none := by
  unfold folQ
  have e2 : lvP (bt a) = 4 := by unfold lvP; rw [if_pos h3]
  rw [if_neg h]
  refine (if_neg (by show ¬ lvQ (bt a) = 0; omega)).trans (if_pos ⟨h3, ?_⟩)
  show lvT (popQ (lvP (bt a)) w k).2 = 3
  rw [e2]; exact ht
theorem fol_go3 (h : ¬ bt a = nI 41) (h3 : lvQ (bt a) = 3) (ht : ¬ lvT (popQ 4 w k).2 = 3) : folQ bt (w, k, a, o, b, e) = some ((popQ 4 w k).1, bt a :: (popQ 4 w k).2, a + 1, o, b, true) := by
  unfold folQ
  have e2 : lvP (bt a) = 4 := by unfold lvP; rw [if_pos h3]
  rw [if_neg h]
  refine (if_neg (by show ¬ lvQ (bt a) = 0; omega)).trans ((if_neg ?_).trans ?_)
  · rintro ⟨-, q⟩
    have q : lvT (popQ (lvP (bt a)) w k).2 = 3 := q
    rw [e2] at q; exact ht q
  · show some ((popQ (lvP (bt a)) w k).1, bt a :: (popQ (lvP (bt a)) w k).2, a + 1, o, b, true) = _
    rw [e2]
theorem fol_go (h : ¬ bt a = nI 41) (h0 : ¬ lvQ (bt a) = 0) (h3 : ¬ lvQ (bt a) = 3) : folQ bt (w, k, a, o, b, e) = some ((popQ (lvQ (bt a)) w k).1, bt a :: (popQ (lvQ (bt a)) w k).2, a + 1, o, b, true) := by
  unfold folQ
  have e2 : lvP (bt a) = lvQ (bt a) := by unfold lvP; rw [if_neg h3]
  rw [if_neg h]
  refine (if_neg h0).trans ((if_neg ?_).trans ?_)
  · rintro ⟨q, -⟩; exact h3 q
  · show some ((popQ (lvP (bt a)) w k).1, bt a :: (popQ (lvP (bt a)) w k).2, a + 1, o, b, true) = _
    rw [e2]
end STQ
theorem lv33 : lvQ (nI 33) = 0 := by decide
theorem lv40 : lvQ (nI 40) = 0 := by decide
theorem wfq_mk {n : Nat} {w k : List Int32} {a o b : Nat} {e : Bool} (h1 : w.length + k.length ≤ a) (h2 : a ≤ n) (h3 : b + c33 k ≤ o) (h4 : o ≤ 5) : WfQ n (w, k, a, o, b, e) := ⟨h1, h2, h3, h4⟩
/-- what holds on the way stays -/
theorem wf_step {bt : Nat → Int32} {n u : Nat} {x y : QS} (hx : WfQ n x) (ha : x.2.2.1 < n) (h : stepQ bt n u x = some y) : WfQ n y ∧ x.2.2.1 < y.2.2.1 := by
  obtain ⟨w, k, a, o, b, e⟩ := x
  obtain ⟨g1, g2, g3, g4⟩ := hx
  have g1 : w.length + k.length ≤ a := g1
  have g3 : b + c33 k ≤ o := g3
  have g4 : o ≤ 5 := g4
  have ha : a < n := ha
  unfold stepQ at h
  cases e with
  | true =>
    have h : opdQ bt n u (w, k, a, o, b, true) = some y := h
    by_cases q : bt a = nI 33 ∨ bt a = nI 40
    · rw [opd_open q] at h
      unfold opnQ at h
      split at h
      · cases h
      · rename_i q5
        cases h
        refine ⟨⟨by show w.length + (k.length + 1) ≤ a + 1; omega, ha, ?_, by show o + 1 ≤ 5; omega⟩, Nat.lt_succ_self _⟩
        show b + (if bt a = nI 40 then 1 else 0) + c33 (bt a :: k) ≤ o + 1
        rw [c33_cons]
        rcases q with q | q
        · rw [q, if_neg (by decide), if_pos rfl]; omega
        · rw [q, if_pos rfl, if_neg (by decide)]; omega
    · cases hj : nameP u (bt a) with
      | some j =>
        rw [opd_name q hj] at h
        cases h
        have l1 := bng_len (k := k) (w := w ++ [(-1) - nI j]) (o := o)
        have l2 := bng_c33 (w := w ++ [(-1) - nI j]) g3
        rw [List.length_append] at l1
        have l1 : _ = w.length + 1 + k.length := l1
        exact ⟨wfq_mk (by omega) ha l2.1 (Nat.le_trans l2.2 g4), Nat.lt_succ_self _⟩
      | none =>
        by_cases hd : nI 48 ≤ bt a ∧ bt a ≤ nI 57
        · rw [opd_dig q hj hd] at h
          cases h
          have l1 := bng_len (k := k) (w := w ++ [(digP bt n 4 (nI 0) (a, none, o)).1]) (o := o)
          have l2 := bng_c33 (w := w ++ [(digP bt n 4 (nI 0) (a, none, o)).1]) g3
          have l3 : a < (digP bt n 4 (nI 0) (a, none, o)).2.2.1 := dig_grow (o := o) ha hd
          have l4 := (dig_adv (bt := bt) (n := n) 4 (nI 0) (a, none, o) (Nat.le_of_lt ha)).2
          rw [List.length_append] at l1
          have l1 : _ = w.length + 1 + k.length := l1
          exact ⟨wfq_mk (by omega) l4 l2.1 (Nat.le_trans l2.2 g4), l3⟩
        · rw [opd_none q hj hd] at h; cases h
  | false =>
    have h : folQ bt (w, k, a, o, b, false) = some y := h
    by_cases q : bt a = nI 41
    · rw [fol_close q] at h
      unfold clsQ at h
      split at h
      · cases h
      · rename_i q5
        cases h
        have l0 := pop_len (l := 1) (k := k) (w := w)
        have l00 := tail_len (k := (popQ 1 w k).2)
        have l1 := bng_len (k := (popQ 1 w k).2.tail) (w := (popQ 1 w k).1) (o := o - 1)
        have l2 := c33_tail (k := (popQ 1 w k).2)
        rw [pop_c33 (Nat.le_refl 1)] at l2
        have l3 := bng_c33 (b := b - 1) (k := (popQ 1 w k).2.tail) (w := (popQ 1 w k).1) (o := o - 1) (by omega)
        exact ⟨wfq_mk (by omega) ha l3.1 (by omega), Nat.lt_succ_self _⟩
    · by_cases h0 : lvQ (bt a) = 0
      · rw [fol_no q h0] at h; cases h
      · have n33 : ¬ bt a = nI 33 := fun z => h0 (by rw [z]; exact lv33)
        have key : ∀ l, 1 ≤ l → (some ((popQ l w k).1, bt a :: (popQ l w k).2, a + 1, o, b, true) : Option QS) = some y → WfQ n y ∧ a < y.2.2.1 := by
          intro l hl h
          cases h
          have l0 := pop_len (l := l) (k := k) (w := w)
          refine ⟨wfq_mk (by rw [List.length_cons]; omega) ha ?_ g4, Nat.lt_succ_self _⟩
          show b + c33 (bt a :: (popQ l w k).2) ≤ o
          rw [c33_cons, if_neg n33, pop_c33 hl]; omega
        by_cases h3 : lvQ (bt a) = 3
        · by_cases ht : lvT (popQ 4 w k).2 = 3
          · rw [fol_no3 q h3 ht] at h; cases h
          · rw [fol_go3 q h3 ht] at h; exact key 4 (by omega) h
        · rw [fol_go q h0 h3] at h; exact key _ (by omega) h
/-! what a method of the reading answers -/
def outI (o : Option QS) : Int32 := match o with | none => nI 0 | some _ => nI 1
theorem outI_01 (o : Option QS) : outI o = 0 ∨ outI o = 1 := by cases o with
  | none => exact Or.inl (show nI 0 = 0 by decide)
  | some y => exact Or.inr (show nI 1 = 1 by decide)
theorem outI_0 {o : Option QS} (h : outI o = 0) : o = none := by
  cases o with
  | none => rfl
  | some y => exact absurd h (by show ¬ nI 1 = 0; decide)
theorem outI_1 {o : Option QS} (h : ¬ outI o = 0) : ∃ y, o = some y := by
  cases o with
  | none => exact absurd (by show nI 0 = 0; decide) h
  | some y => exact ⟨y, rfl⟩
def OutQ (o : Option QS) (a : Nat) (h2 : Mm) : Prop := (∀ y, o = some y → RQY h2 y) ∧ (o = none → h2 99 4 = nI a)
theorem OutQ.n {o : Option QS} {a : Nat} {h2 : Mm} (e : o = none) (H : h2 99 4 = nI a) : OutQ o a h2 := ⟨fun y q => (nomatch e.symm.trans q), fun _ => H⟩
theorem OutQ.s {o : Option QS} {a : Nat} {h2 : Mm} {y : QS} (e : o = some y) (H : RQY h2 y) : OutQ o a h2 := ⟨fun z q => by cases e.symm.trans q; exact H, fun q => (nomatch e.symm.trans q)⟩
/-! bytes with their sign -/
def BYQ (bt : Nat → Int32) : Prop := ∀ i, ∃ j, j < 256 ∧ bt i = (nI j).toInt8.toInt32
def sgB (b0 : Nat → Int32) : Nat → Int32 := fun i => (b0 i).toInt8.toInt32
theorem BYQ.sg {b0 : Nat → Int32} (H : ∀ i, ix (b0 i) 256) : BYQ (sgB b0) := fun i => by
  obtain ⟨j, hj, e⟩ := H i
  exact ⟨j, hj, by unfold sgB; rw [e]⟩
theorem by_pos {bt : Nat → Int32} (H : BYQ bt) {a : Nat} (h : ¬ bt a ≤ 0) : ∃ m, m < 128 ∧ bt a = nI m := by
  obtain ⟨j, hj, e⟩ := H a
  have key : ∀ j, j < 256 → ¬ (nI j).toInt8.toInt32 ≤ 0 → j < 128 ∧ (nI j).toInt8.toInt32 = nI j := by decide +kernel
  rw [e] at h
  exact ⟨j, (key j hj h).1, e.trans (key j hj h).2⟩
theorem name_pos {u : Nat} {c : Int32} (h : c ≤ 0) : nameP u c = none := by
  have k : ∀ m, m < 128 → 1 ≤ m → ¬ c = nI m := by
    intro m hm h1 e
    subst e
    rw [i32_le, nI_toInt (by omega), Int32.toInt_zero] at h; omega
  unfold nameP
  split
  · rw [if_neg (k _ (by omega) (by omega)), if_neg (k _ (by omega) (by omega)), if_neg (k _ (by omega) (by omega)), if_neg (k _ (by omega) (by omega)), if_neg (k _ (by omega) (by omega))]
  · split
    · rw [if_neg (k _ (by omega) (by omega)), if_neg (k _ (by omega) (by omega)), if_neg (k _ (by omega) (by omega))]
    · rw [if_neg (k _ (by omega) (by omega)), if_neg (k _ (by omega) (by omega))]
section SG
variable {b0 : Nat → Int32} {n u : Nat}
theorem sg_c {v : Int32} (h : ix v 256) : (v.toInt8.toInt32 = nI 33 ↔ v = nI 33) ∧ (v.toInt8.toInt32 = nI 40 ↔ v = nI 40) ∧ (v.toInt8.toInt32 = nI 41 ↔ v = nI 41) ∧ lvQ v.toInt8.toInt32 = lvQ v ∧ ((nI 48 ≤ v.toInt8.toInt32 ∧ v.toInt8.toInt32 ≤ nI 57) ↔ (nI 48 ≤ v ∧ v ≤ nI 57)) ∧ (¬ lvQ v = 0 → v.toInt8.toInt32 = v) ∧ ((nI 48 ≤ v ∧ v ≤ nI 57) → v.toInt8.toInt32 = v) := by
  obtain ⟨j, hj, rfl⟩ := h
  have key : ∀ j, j < 256 → ((nI j).toInt8.toInt32 = nI 33 ↔ nI j = nI 33) ∧ ((nI j).toInt8.toInt32 = nI 40 ↔ nI j = nI 40) ∧ ((nI j).toInt8.toInt32 = nI 41 ↔ nI j = nI 41) ∧ lvQ (nI j).toInt8.toInt32 = lvQ (nI j) ∧ ((nI 48 ≤ (nI j).toInt8.toInt32 ∧ (nI j).toInt8.toInt32 ≤ nI 57) ↔ (nI 48 ≤ nI j ∧ nI j ≤ nI 57)) ∧ (¬ lvQ (nI j) = 0 → (nI j).toInt8.toInt32 = nI j) ∧ ((nI 48 ≤ nI j ∧ nI j ≤ nI 57) → (nI j).toInt8.toInt32 = nI j) := by decide +kernel
  exact key j hj
theorem sg_name {v : Int32} (h : ix v 256) : nameP u v.toInt8.toInt32 = nameP u v := by
  obtain ⟨j, hj, rfl⟩ := h
  have key : ∀ j, j < 256 → nameP 0 (nI j).toInt8.toInt32 = nameP 0 (nI j) ∧ nameP 1 (nI j).toInt8.toInt32 = nameP 1 (nI j) ∧ nameP 2 (nI j).toInt8.toInt32 = nameP 2 (nI j) := by decide +kernel
  obtain ⟨k0, k1, k2⟩ := key j hj
  by_cases e0 : u = 0
  · rw [e0]; exact k0
  · by_cases e1 : u = 1
    · rw [e1]; exact k1
    · have e : ∀ c, nameP u c = nameP 2 c := fun c => by unfold nameP; rw [if_neg e0, if_neg e1]; rfl
      rw [e, e]; exact k2
theorem sg_dig (H : ∀ i, ix (b0 i) 256) : ∀ (f : Nat) (v : Int32) (s : PSt), digP (sgB b0) n f v s = digP b0 n f v s
  | 0, _, _ => rfl
  | f + 1, v, s => by
    rw [digP, digP]
    by_cases q : s.1 < n ∧ s.2.1 = none
    · have e1 : hereP (sgB b0) n s = (b0 s.1).toInt8.toInt32 := if_pos q
      have e2 : hereP b0 n s = b0 s.1 := if_pos q
      obtain ⟨-, -, -, -, k5, -, k7⟩ := sg_c (H s.1)
      rw [e1, e2]
      by_cases c : nI 48 ≤ b0 s.1 ∧ b0 s.1 ≤ nI 57
      · rw [if_pos (k5.mpr c), if_pos c, k7 c, sg_dig H f]
      · rw [if_neg (fun z => c (k5.mp z)), if_neg c]
    · have e1 : hereP (sgB b0) n s = (-1) := if_neg q
      have e2 : hereP b0 n s = (-1) := if_neg q
      rw [e1, e2, if_neg (by decide), if_neg (by decide)]
theorem sg_step (H : ∀ i, ix (b0 i) 256) {x : QS} : stepQ (sgB b0) n u x = stepQ b0 n u x := by
  obtain ⟨w, k, a, o, b, e⟩ := x
  obtain ⟨k1, k2, k3, k4, k5, k6, k7⟩ := sg_c (H a)
  have kn := sg_name (u := u) (H a)
  have k1 : sgB b0 a = nI 33 ↔ b0 a = nI 33 := k1
  have k2 : sgB b0 a = nI 40 ↔ b0 a = nI 40 := k2
  have k3 : sgB b0 a = nI 41 ↔ b0 a = nI 41 := k3
  have k4 : lvQ (sgB b0 a) = lvQ (b0 a) := k4
  have k5 : (nI 48 ≤ sgB b0 a ∧ sgB b0 a ≤ nI 57) ↔ (nI 48 ≤ b0 a ∧ b0 a ≤ nI 57) := k5
  have k6 : ¬ lvQ (b0 a) = 0 → sgB b0 a = b0 a := k6
  have kn : nameP u (sgB b0 a) = nameP u (b0 a) := kn
  have kd : digP (sgB b0) n 4 (nI 0) (a, none, o) = digP b0 n 4 (nI 0) (a, none, o) := sg_dig H _ _ _
  unfold stepQ
  cases e with
  | true =>
    show opdQ (sgB b0) n u (w, k, a, o, b, true) = opdQ b0 n u (w, k, a, o, b, true)
    by_cases q : b0 a = nI 33 ∨ b0 a = nI 40
    · have q' : sgB b0 a = nI 33 ∨ sgB b0 a = nI 40 := q.imp k1.mpr k2.mpr
      rw [opd_open q, opd_open q']
      have e : sgB b0 a = b0 a := by
        rcases q with q | q
        · rw [k1.mpr q, q]
        · rw [k2.mpr q, q]
      rw [e]
    · have q' : ¬ (sgB b0 a = nI 33 ∨ sgB b0 a = nI 40) := fun z => q (z.imp k1.mp k2.mp)
      cases hj : nameP u (b0 a) with
      | some j => rw [opd_name q hj, opd_name q' (kn.trans hj)]
      | none =>
        by_cases hd : nI 48 ≤ b0 a ∧ b0 a ≤ nI 57
        · rw [opd_dig q hj hd, opd_dig q' (kn.trans hj) (k5.mpr hd), kd]
        · rw [opd_none q hj hd, opd_none q' (kn.trans hj) (fun z => hd (k5.mp z))]
  | false =>
    show folQ (sgB b0) (w, k, a, o, b, false) = folQ b0 (w, k, a, o, b, false)
    by_cases q : b0 a = nI 41
    · rw [fol_close q, fol_close (k3.mpr q)]
    · have q' : ¬ sgB b0 a = nI 41 := fun z => q (k3.mp z)
      by_cases h0 : lvQ (b0 a) = 0
      · rw [fol_no q h0, fol_no q' (k4.trans h0)]
      · have e := k6 h0
        by_cases h3 : lvQ (b0 a) = 3
        · by_cases ht : lvT (popQ 4 w k).2 = 3
          · rw [fol_no3 q h3 ht, fol_no3 q' (k4.trans h3) ht]
          · rw [fol_go3 q h3 ht, fol_go3 q' (k4.trans h3) ht, e]
        · rw [fol_go q h0 h3, fol_go q' (by rw [k4]; exact h0) (by rw [k4]; exact h3), e]
theorem sg_it (H : ∀ i, ix (b0 i) 256) : ∀ (i : Nat) (x : QS), itQ (sgB b0) n u i x = itQ b0 n u i x
  | 0, _ => rfl
  | i + 1, x => by
    have e : stpQ (sgB b0) n u x = stpQ b0 n u x := by unfold stpQ; rw [sg_step H]
    rw [itQ, itQ, e]
    cases stpQ b0 n u x with
    | none => rfl
    | some y => exact sg_it H i y
theorem sg_rch (H : ∀ i, ix (b0 i) 256) {x y : QS} : RchQ (sgB b0) n u x y ↔ RchQ b0 n u x y := ⟨fun ⟨i, e⟩ => ⟨i, (sg_it H i x).symm.trans e⟩, fun ⟨i, e⟩ => ⟨i, (sg_it H i x).trans e⟩⟩
theorem sg_fail (H : ∀ i, ix (b0 i) 256) {x : QS} {p : Nat} (h : FailQ b0 n u x p) : FailQ (sgB b0) n u x p := by
  obtain ⟨y, h1, h2, h3⟩ := h
  exact ⟨y, (sg_rch H).mpr h1, h2, h3.imp (fun q => ⟨q.1, by rw [sg_step H]; exact q.2⟩) id⟩
end SG
/-! the end of the reading -/
section ENDQ
variable {bt : Nat → Int32} {n u : Nat} {x : QS}
theorem stp_none (h : stepQ bt n u x = none) : stpQ bt n u x = none := by
  unfold stpQ; rw [h]; exact ite_self _
theorem stp_end (h : x.2.2.1 = n) : stpQ bt n u x = none := if_neg (by omega)
theorem stk_stp {p : Nat} (h : StkQ bt n u x p) : stpQ bt n u x = none := by
  obtain ⟨e, ⟨h1, h2⟩ | ⟨h1, h2⟩⟩ := h
  · exact stp_none h2
  · exact stp_end (e.trans h1)
/-- stuck at a place: that is where the fault lies -/
theorem end_bad {F : Option Nat} {c : List Int32} (hr : RchQ bt n u xQ0 x) (hs : StkQ bt n u x x.2.2.1) (hF : ∀ p, F = some p → FailQ bt n u xQ0 p) (hG : F = none → ∃ w' pd, RchQ bt n u xQ0 (w', pd, n, 0, 0, false) ∧ popQ 1 w' pd = (c, [])) : F = some x.2.2.1 := by
  cases F with
  | none =>
    obtain ⟨w', pd, r1, -⟩ := hG rfl
    have e := RchQ.one hr (stk_stp hs) r1 (stp_end rfl)
    subst e
    obtain ⟨-, ⟨h1, -⟩ | ⟨-, h2⟩⟩ := hs
    · exact absurd h1 (Nat.lt_irrefl _)
    · rcases h2 with h2 | h2
      · cases h2
      · exact absurd h2 (Nat.lt_irrefl _)
  | some p =>
    obtain ⟨y, r1, r2⟩ := hF p rfl
    have e := RchQ.one hr (stk_stp hs) r1 (stk_stp r2)
    subst e
    rw [r2.1]
theorem end_ok {F : Option Nat} {c : List Int32} {w k : List Int32} {o : Nat} (hr : RchQ bt n u xQ0 (w, k, n, o, 0, false)) (hF : ∀ p, F = some p → FailQ bt n u xQ0 p) (hG : F = none → ∃ w' pd, RchQ bt n u xQ0 (w', pd, n, 0, 0, false) ∧ popQ 1 w' pd = (c, [])) : F = none ∧ popQ 1 w k = (c, []) := by
  cases F with
  | none =>
    obtain ⟨w', pd, r1, r2⟩ := hG rfl
    have e := RchQ.one hr (stp_end rfl) r1 (stp_end rfl)
    cases e
    exact ⟨rfl, r2⟩
  | some p =>
    obtain ⟨y, r1, r2⟩ := hF p rfl
    have e := RchQ.one hr (stp_end rfl) r1 (stk_stp r2)
    subst e
    obtain ⟨e, ⟨h1, -⟩ | ⟨-, h2⟩⟩ := r2
    · have e : n = p := e
      omega
    · rcases h2 with h2 | h2
      · cases h2
      · exact absurd h2 (Nat.lt_irrefl _)
end ENDQ
