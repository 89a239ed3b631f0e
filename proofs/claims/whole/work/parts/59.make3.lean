def HFL : List (List Int32) := [[], [0, 0, 0, 0, 0, 0, 0, 0, 1], [0, 0, 0, 0, 0, 0, 0, (-1)], [11, 1, 20, 0, 0, 480, 20, 30], [], [], [], [], [], [], [], [], [], [], [], [], [], [], [], [], [], [0, 5], [(-1), (-2), (-43), 99, (-62)], [], [0, 9], [(-2), 3, (-42), (-3), 50, (-62), 3, (-42), (-43)], [], [0, 5], [(-1), (-1), 30, (-47), (-45)], [], [], [], [], [], [], [], [], [], [1080, 1080, 1080, 1080, 1080, 1080, 1080, 1080, 1080, 1080, 1080, 1080], [0, 0, 0, 0, 0, 0, 0, 0, 1], [0, 0, 0, 0, 0, 0, 0, (-1)], [11, 1, 20, 0, 0, 480, 20, 30], [], [], [], [], [], [], [], [], [], [], [], [], [], [], [], [], [], [0, 5], [(-1), (-2), (-43), 99, (-62)], [], [0, 9], [(-2), 3, (-42), (-3), 50, (-62), 3, (-42), (-43)], [], [0, 5], [(-1), (-1), 30, (-47), (-45)], [], [], [], [], [], [], [], [], [], [1080, 1080, 1080, 1080, 1080, 1080, 1080, 1080, 1080, 1080, 1080, 1080], [], [0, 0, 0, 0, 0, 0, 0, (-1)], [11, 1, 20, 0, 0, 480, 20, 30], [], [], [], [], [], [], [], [], [], [], [], [], [], [], [], [], [], [], [], [0, 105, 0, 1021, 0, 0, 0, 0, 0, 1], [], [], [], [], [], [], [], [], [], [], [], [], [], [], [], [], [], [], [], [11, 1, 20, 0, 0, 480, 20, 30, 0, 0, 0, 0, 1, 0, 0, 0, 1080, 1080, 1080, 1080, 1080, 1080, 1080, 1080, 1080, 1080, 1080, 1080], [], [], [], [], [], [], [], [], [], [], [], []]

/-! objects made: what is told of references and numbers while a constructor goes on -/
def FH : Mm := fun a k => (HFL.getD a []).getD k 0
def FF (lo hi : Nat) (h : Mm) : Mm := fun a => if lo ≤ a ∧ a < hi then FH a else h a
def tl {α : Type} : List (Nat × List α) → Nat → Option (List α)
  | [], _ => none
  | q :: T, a => if a = q.1 then some q.2 else tl T a
def CT {α : Type} (z : α) (F : Nat → Nat → α) (b hi : Nat) (T : List (Nat × List α)) (f : Nat → Nat → α) : Nat → Nat → α := fun a => match tl T a with
  | some L => fun k => L.getD k z
  | none => if b < a ∧ a < hi then F a else f a
section CTS
variable {α : Type} {z : α} {F f : Nat → Nat → α} {b hi n a k x : Nat} {L : List α} {T T' : List (Nat × List α)}
theorem tl_ne (h : a ≠ x) : tl ((x, L) :: T) a = tl T a := if_neg h
theorem tl_at : tl ((x, L) :: T) x = some L := if_pos rfl
theorem CT_at (h : tl T a = some L) : CT z F b hi T f a = fun k => L.getD k z := by unfold CT; rw [h]
theorem CT_in (h : tl T a = none) (h1 : b < a ∧ a < hi) : CT z F b hi T f a = F a := by unfold CT; rw [h]; exact if_pos h1
theorem CT_out (h : tl T a = none) (h1 : ¬ (b < a ∧ a < hi)) : CT z F b hi T f a = f a := by unfold CT; rw [h]; exact if_neg h1
theorem tl_hi : ∀ {T : List (Nat × List α)}, T.all (fun q => decide (q.1 < n)) = true → n ≤ a → tl T a = none
  | [], _, _ => rfl
  | q :: T, h, ha => by
    rw [List.all_cons, Bool.and_eq_true, decide_eq_true_iff] at h
    show (if a = q.1 then some q.2 else tl T a) = none
    rw [if_neg (by omega)]
    exact tl_hi h.2 ha
theorem tl_lo : ∀ {T : List (Nat × List α)}, T.all (fun q => decide (b ≤ q.1)) = true → a < b → tl T a = none
  | [], _, _ => rfl
  | q :: T, h, ha => by
    rw [List.all_cons, Bool.and_eq_true, decide_eq_true_iff] at h
    show (if a = q.1 then some q.2 else tl T a) = none
    rw [if_neg (by omega)]
    exact tl_lo h.2 ha
theorem tl_mem : ∀ {T : List (Nat × List α)}, tl T a = some L → ∃ q ∈ T, q.1 = a
  | [], h => by cases h
  | q :: T, h => by
    by_cases e : a = q.1
    · exact ⟨q, List.mem_cons_self, e.symm⟩
    · have h : (if a = q.1 then some q.2 else tl T a) = some L := h
      rw [if_neg e] at h
      obtain ⟨q2, h1, h2⟩ := tl_mem h
      exact ⟨q2, List.mem_cons_of_mem _ h1, h2⟩
/-- nothing lies at a place yet -/
theorem CT_new (hk : T.all (fun q => decide (q.1 < n)) = true) (hf : f n = fun _ => z) : CT z F b n T f n = fun _ => z := (CT_out (tl_hi hk (Nat.le_refl _)) (by omega)).trans hf
theorem CT_far (hk : T.all (fun q => decide (q.1 < n)) = true) (ha : n ≤ a) : CT z F b n T f a = f a := CT_out (tl_hi hk ha) (by omega)
theorem CT_push (hk : T.all (fun q => decide (q.1 < n)) = true) (hf : f n = fun _ => z) (hz : ∀ k, L.getD k z = z) : ∀ a, a < n + 1 → CT z F b (n + 1) ((n, L) :: T) f a = CT z F b n T f a := by
  intro a ha
  by_cases e : a = n
  · subst e
    rw [CT_new hk hf, CT_at tl_at]
    funext k; exact hz k
  · cases h : tl T a with
    | some M => rw [CT_at h, CT_at ((tl_ne e).trans h)]
    | none =>
      by_cases c : b < a
      · rw [CT_in h ⟨c, by omega⟩, CT_in ((tl_ne e).trans h) ⟨c, ha⟩]
      · rw [CT_out h (by omega), CT_out ((tl_ne e).trans h) (by omega)]
theorem CT_lt {m : Nat} (hm : n ≤ m) : ∀ a, a < n → CT z F b m T f a = CT z F b n T f a := by
  intro a ha
  cases h : tl T a with
  | some M => rw [CT_at h, CT_at h]
  | none =>
    by_cases c : b < a
    · rw [CT_in h ⟨c, by omega⟩, CT_in h ⟨c, ha⟩]
    · rw [CT_out h (by omega), CT_out h (by omega)]
theorem CT_grow {m : Nat} (hm : n ≤ m) (hb : b < n) (hk : T.all (fun q => decide (q.1 < n)) = true) (hf : ∀ a, n ≤ a → f a = fun _ => z) (hF : ∀ a, n ≤ a → a < m → F a = fun _ => z) : ∀ a, a < m → CT z F b m T f a = CT z F b n T f a := by
  intro a ha
  by_cases e : a < n
  · exact CT_lt hm a e
  · rw [CT_in (tl_hi hk (by omega)) ⟨by omega, ha⟩, CT_far hk (by omega), hF a (by omega) ha, hf a (by omega)]
/-- a number is written -/
theorem CT_set (h : tl T a = some L) {v : α} (hk : k < L.length) (h' : tl T' a = some (L.set k v)) (hx : ∀ x, x ≠ a → tl T' x = tl T x) : CT z F b hi T' f a k = v ∧ (∀ j, j ≠ k → CT z F b hi T' f a j = CT z F b hi T f a j) ∧ ∀ x, x ≠ a → CT z F b hi T' f x = CT z F b hi T f x := by
  refine ⟨?_, fun j hj => ?_, fun x e => ?_⟩
  · rw [CT_at h']
    show (L.set k v).getD k z = v
    rw [List.getD_eq_getElem?_getD, List.getElem?_set_self hk]; rfl
  · rw [CT_at h', CT_at h]
    show (L.set k v).getD j z = L.getD j z
    rw [List.getD_eq_getElem?_getD, List.getD_eq_getElem?_getD, List.getElem?_set_ne hj.symm]
  · unfold CT
    rw [hx x e]
/-- behind a constructor of something inside -/
theorem CT_back {b' n' : Nat} {f1 : Nat → Nat → α} (h1 : ∀ a, (a < b' ∨ n' ≤ a) → f1 a = CT z F b hi ((b', L) :: T) f a) (h2 : ∀ a, b' ≤ a → a < n' → f1 a = F a) (hb : b < b') (hk : T.all (fun q => decide (q.1 < b')) = true) (hi1 : b' ≤ hi) : ∀ a, a < n' → CT z F b n' T f a = f1 a := by
  intro a ha
  by_cases e : a < b'
  · rw [h1 a (Or.inl e)]
    cases h : tl T a with
    | some M => rw [CT_at h, CT_at ((tl_ne (by omega)).trans h)]
    | none =>
      by_cases c : b < a
      · rw [CT_in h ⟨c, ha⟩, CT_in ((tl_ne (by omega)).trans h) ⟨c, by omega⟩]
      · rw [CT_out h (by omega), CT_out ((tl_ne (by omega)).trans h) (by omega)]
  · rw [h2 a (by omega) ha, CT_in (tl_hi hk (by omega)) ⟨by omega, ha⟩]
theorem CT_off (hk : T.all (fun q => decide (b ≤ q.1)) = true) (hk2 : T.all (fun q => decide (q.1 < n)) = true) : ∀ a, (a < b ∨ n ≤ a) → CT z F b n T f a = f a := fun a ha => CT_out (ha.elim (fun q => tl_lo hk q) (fun q => tl_hi hk2 q)) (by omega)
end CTS
def eqR {α : Type} (t : α → α → Bool) (z : α) (L M : List α) : Bool := (List.range (max L.length M.length)).all (fun k => t (L.getD k z) (M.getD k z))
theorem eqR_eq {α : Type} {t : α → α → Bool} (ht : ∀ x y, t x y = true → x = y) {z : α} {L M : List α} (h : eqR t z L M = true) : (fun k => L.getD k z) = fun k => M.getD k z := by
  funext k
  by_cases hk : k < max L.length M.length
  · exact ht _ _ (List.all_eq_true.mp h k (List.mem_range.mpr hk))
  · have h1 : L.length ≤ k := by omega
    have h2 : M.length ≤ k := by omega
    rw [List.getD_eq_getElem?_getD, List.getD_eq_getElem?_getD, List.getElem?_eq_none_iff.mpr h1, List.getElem?_eq_none_iff.mpr h2]
def tN (x y : Nat) : Bool := decide (x = y)
def tI (x y : Int32) : Bool := decide (x = y)
theorem tN_eq : ∀ x y, tN x y = true → x = y := fun _ _ h => of_decide_eq_true h
theorem tI_eq : ∀ x y, tI x y = true → x = y := fun _ _ h => of_decide_eq_true h
def rowsR {α : Type} (t : α → α → Bool) (z : α) (FL : List (List α)) (T : List (Nat × List α)) : Bool := T.all (fun q => match tl T q.1 with
  | some L => eqR t z L (FL.getD q.1 [])
  | none => false)
section CTF
variable {α : Type} {t : α → α → Bool} {z : α} {FL : List (List α)} {F f : Nat → Nat → α} {b n : Nat} {T : List (Nat × List α)}
theorem CT_fin (ht : ∀ x y, t x y = true → x = y) (hF : ∀ a, F a = fun k => (FL.getD a []).getD k z) (hc : rowsR t z FL T = true) (hb : (tl T b).isSome = true) : ∀ a, b ≤ a → a < n → CT z F b n T f a = F a := by
  intro a h1 h2
  cases h : tl T a with
  | some L =>
    rw [CT_at h, hF a]
    obtain ⟨q, hq, rfl⟩ := tl_mem h
    have := List.all_eq_true.mp hc q hq
    rw [h] at this
    exact eqR_eq ht this
  | none =>
    refine CT_in h ⟨?_, h2⟩
    rcases Nat.lt_or_ge b a with h3 | h3
    · exact h3
    · have e : a = b := by omega
      subst e; rw [h] at hb; cases hb
end CTF
theorem zrN {L : List Nat} (h : L.all (fun x => decide (x = 0)) = true) (k : Nat) : L.getD k 0 = 0 := by
  rw [List.getD_eq_getElem?_getD]
  cases e : L[k]? with
  | none => rfl
  | some x => exact of_decide_eq_true (List.all_eq_true.mp h x (List.mem_of_getElem? e))
theorem zrI {L : List Int32} (h : L.all (fun x => decide (x = 0)) = true) (k : Nat) : L.getD k 0 = 0 := by
  rw [List.getD_eq_getElem?_getD]
  cases e : L[k]? with
  | none => rfl
  | some x => exact of_decide_eq_true (List.all_eq_true.mp h x (List.mem_of_getElem? e))
theorem GLz {n m : Nat} (h : (List.range m).all (fun a => decide (a < n) || (GLL.getD a []).all (fun x => decide (x = 0))) = true) : ∀ a, n ≤ a → a < m → GL a = fun _ => 0 := by
  intro a h1 h2
  have := List.all_eq_true.mp h a (List.mem_range.mpr h2)
  rw [Bool.or_eq_true, decide_eq_true_iff] at this
  funext k
  exact zrN (this.elim (fun q => by omega) id) k
theorem FHz {n m : Nat} (h : (List.range m).all (fun a => decide (a < n) || (HFL.getD a []).all (fun x => decide (x = 0))) = true) : ∀ a, n ≤ a → a < m → FH a = fun _ => 0 := by
  intro a h1 h2
  have := List.all_eq_true.mp h a (List.mem_range.mpr h2)
  rw [Bool.or_eq_true, decide_eq_true_iff] at this
  funext k
  exact zrI (this.elim (fun q => by omega) id) k
def okN (hi : Nat) (v : Int32) : Bool := decide (v.toNatClampNeg ≤ hi) || decide (133 ≤ v.toNatClampNeg)
theorem okN_r {hi : Nat} {v : Int32} (h : okN hi v = true) : RFk hi v.toNatClampNeg := by
  unfold okN at h
  rw [Bool.or_eq_true, decide_eq_true_iff, decide_eq_true_iff] at h
  exact h
def ck99 (b hi n0 : Nat) (S : List (Nat × List Int32)) : Bool := decide (hi ≤ 99) || (match tl S 99 with
  | some L => okN hi (L.getD 1 0) && okN hi (L.getD 3 0)
  | none => if 99 ≤ b then decide (99 < n0) else okN hi (FH 99 1) && okN hi (FH 99 3))
theorem WFR.ct {b n0 hi : Nat} {g0 : Gm} {h0 : Mm} {T : List (Nat × List Nat)} {S : List (Nat × List Int32)} (W0 : WFR n0 g0 h0) (hb : b < n0) (hn : n0 ≤ hi) (c1 : T.all (fun q => q.2.all (fun x => decide (x ≤ hi))) = true) (c2 : (List.range hi).all (fun a => decide (a ≤ b) || ((tl T a).isSome || (GLL.getD a []).all (fun x => decide (x ≤ hi)))) = true) (c3 : ck99 b hi n0 S = true) : WFR hi (CT 0 GL b hi T g0) (CT 0 FH b hi S h0) := by
  refine ⟨fun a ha k => ?_, fun h9 => ?_⟩
  · cases h : tl T a with
    | some L =>
      rw [CT_at h]
      obtain ⟨q, hq, rfl⟩ := tl_mem h
      exact gr_le (L := L) (by
        have h2 : ∀ {T : List (Nat × List Nat)}, T.all (fun q => q.2.all (fun x => decide (x ≤ hi))) = true → ∀ a L, tl T a = some L → L.all (fun x => decide (x ≤ hi)) = true := by
          intro T
          induction T with
          | nil => intro _ a L h; cases h
          | cons p T ih =>
            intro hT a L h
            rw [List.all_cons, Bool.and_eq_true] at hT
            have h : (if a = p.1 then some p.2 else tl T a) = some L := h
            by_cases e : a = p.1
            · rw [if_pos e] at h; cases h; exact hT.1
            · rw [if_neg e] at h; exact ih hT.2 a L h
        exact h2 c1 _ _ h) k
    | none =>
      by_cases c : b < a
      · rw [CT_in h ⟨c, ha⟩]
        have := List.all_eq_true.mp c2 a (List.mem_range.mpr ha)
        rw [Bool.or_eq_true, decide_eq_true_iff, h] at this
        exact gr_le (this.elim (fun q => by omega) id) k
      · rw [CT_out h (by omega)]
        exact (W0.1 a (by omega) k).m hn
  · unfold ck99 at c3
    rw [Bool.or_eq_true, decide_eq_true_iff] at c3
    rcases c3 with c3 | c3
    · omega
    · cases h : tl S 99 with
      | some L =>
        rw [h] at c3
        have c3 : (okN hi (L.getD 1 0) && okN hi (L.getD 3 0)) = true := c3
        rw [Bool.and_eq_true] at c3
        rw [CT_at h]
        exact ⟨okN_r c3.1, okN_r c3.2⟩
      | none =>
        rw [h] at c3
        have c3 : (if 99 ≤ b then decide (99 < n0) else okN hi (FH 99 1) && okN hi (FH 99 3)) = true := c3
        by_cases e : 99 ≤ b
        · rw [if_pos e, decide_eq_true_iff] at c3
          rw [CT_out h (by omega)]
          exact ⟨(W0.2 c3).1.m hn, (W0.2 c3).2.m hn⟩
        · rw [if_neg e, Bool.and_eq_true] at c3
          rw [CT_in h ⟨by omega, h9⟩]
          exact ⟨okN_r c3.1, okN_r c3.2⟩
theorem FF_in {lo hi a : Nat} {h : Mm} (h1 : lo ≤ a) (h2 : a < hi) : FF lo hi h a = FH a := if_pos ⟨h1, h2⟩
theorem FF_off {lo hi a : Nat} {h : Mm} (h1 : a < lo ∨ hi ≤ a) : FF lo hi h a = h a := if_neg (by omega)
/-- what a constructor finds -/
def MK (b n : Nat) (g0 : Gm) (h0 : Mm) : Prop := WFR n g0 h0 ∧ g0 b = (fun _ => 0) ∧ h0 b = (fun _ => 0) ∧ (∀ a, b < a → a < n → g0 a = GL a ∧ h0 a = FH a) ∧ ∀ a, n ≤ a → g0 a = (fun _ => 0) ∧ h0 a = fun _ => 0
theorem MK.sub {b n0 b' n : Nat} {g0 : Gm} {h0 : Mm} {T : List (Nat × List Nat)} {S : List (Nat × List Int32)} {L : List Nat} {M : List Int32} (A0 : MK b n0 g0 h0) (W : WFR n (CT 0 GL b n ((b', L) :: T) g0) (CT 0 FH b n ((b', M) :: S) h0)) (hn : n0 ≤ n) (hb : b < b') (hb2 : b' < n) (k1 : T.all (fun q => decide (q.1 < b')) = true) (k2 : S.all (fun q => decide (q.1 < b')) = true) (zL : L.all (fun x => decide (x = 0)) = true) (zM : M.all (fun x => decide (x = 0)) = true) : MK b' n (CT 0 GL b n ((b', L) :: T) g0) (CT 0 FH b n ((b', M) :: S) h0) := by
  have hz := A0.2.2.2.2
  refine ⟨W, ?_, ?_, fun a h1 h2 => ⟨?_, ?_⟩, fun a h1 => ⟨?_, ?_⟩⟩
  · rw [CT_at tl_at]; funext k; exact zrN zL k
  · rw [CT_at tl_at]; funext k; exact zrI zM k
  · exact CT_in ((tl_ne (by omega)).trans (tl_hi k1 (by omega))) ⟨by omega, h2⟩
  · exact CT_in ((tl_ne (by omega)).trans (tl_hi k2 (by omega))) ⟨by omega, h2⟩
  · exact (CT_out ((tl_ne (by omega)).trans (tl_hi k1 (by omega))) (by omega)).trans (hz a (by omega)).1
  · exact (CT_out ((tl_ne (by omega)).trans (tl_hi k2 (by omega))) (by omega)).trans (hz a (by omega)).2
theorem MK.s1 {b n : Nat} {g0 : Gm} {h0 : Mm} {L : List Nat} (A0 : MK b n g0 h0) (zL : L.all (fun x => decide (x = 0)) = true) : ∀ a, a < n → CT 0 GL b n [(b, L)] g0 a = g0 a := by
  intro a ha
  by_cases e : a = b
  · subst e; rw [CT_at tl_at, A0.2.1]; funext k; exact zrN zL k
  · by_cases c : b < a
    · rw [CT_in (tl_ne e) ⟨c, ha⟩, (A0.2.2.2.1 a c ha).1]
    · rw [CT_out (tl_ne e) (by omega)]
theorem MK.s2 {b n : Nat} {g0 : Gm} {h0 : Mm} {M : List Int32} (A0 : MK b n g0 h0) (zM : M.all (fun x => decide (x = 0)) = true) : ∀ a, a < n → CT 0 FH b n [(b, M)] h0 a = h0 a := by
  intro a ha
  by_cases e : a = b
  · subst e; rw [CT_at tl_at, A0.2.2.1]; funext k; exact zrI zM k
  · by_cases c : b < a
    · rw [CT_in (tl_ne e) ⟨c, ha⟩, (A0.2.2.2.1 a c ha).2]
    · rw [CT_out (tl_ne e) (by omega)]
theorem FF_fin {b n : Nat} {h0 : Mm} {S : List (Nat × List Int32)} (hk : S.all (fun q => decide (b ≤ q.1)) = true) (hk2 : S.all (fun q => decide (q.1 < n)) = true) (hc : rowsR tI 0 HFL S = true) (hb : (tl S b).isSome = true) : CT 0 FH b n S h0 = FF b n h0 := by
  funext a
  by_cases h1 : b ≤ a ∧ a < n
  · rw [FF_in h1.1 h1.2]
    exact CT_fin tI_eq (fun _ => rfl) hc hb a h1.1 h1.2
  · rw [FF_off (by omega)]
    exact CT_off hk hk2 a (by omega)
section VMK
variable {κ : KT} {own nm : String} {cc : ByteArray} {nL : Nat} {R : Room} {ret : Option FieldType} {Q : State → Prop} {h : Mm} {pc : Nat} {lv : List (Nat × Value)} {st : List Value} {n c z : Nat} {ρ : Nat → Nat} {g : Gm}
theorem v_sw {g' : Gm} {h' : Mm} (e : ∀ a, a < n → g' a = g a) (e2 : ∀ a, a < n → h' a = h a) (kk : V κ Q nL (n, ρ, g', c, z) h' pc lv st) : V κ Q nL (n, ρ, g, c, z) h pc lv st := by
  intro H locs ls hl hP hD hS hE
  have e1 : wl (kC κ) (n, ρ, g', c, z) h' = wl (kC κ) (n, ρ, g, c, z) h := wl_gh e e2
  exact kk H locs ls hl (by rw [e1]; exact hP) (by rw [e1]; exact hD) hS hE
theorem v_hq {ω : Wo} {h' : Mm} (e : h = h') (kk : V κ Q nL ω h' pc lv st) : V κ Q nL ω h pc lv st := e ▸ kk
end VMK
theorem CT_u2 {b hi a k : Nat} {F f : Mm} {L : List Int32} {T T' : List (Nat × List Int32)} (h : tl T a = some L) {v : Int32} (hk : k < L.length) (h' : tl T' a = some (L.set k v)) (hx : ∀ x, x ≠ a → tl T' x = tl T x) : u2 (CT 0 F b hi T f) a k v = CT 0 F b hi T' f := by
  obtain ⟨e1, e2, e3⟩ := CT_set (z := 0) (F := F) (b := b) (hi := hi) (f := f) h hk h' hx
  funext x y
  by_cases c : x = a
  · subst c
    by_cases d : y = k
    · subst d; rw [u2_at, e1]
    · rw [u2_ne (Or.inr d), e2 y d]
  · rw [u2_ne (Or.inl c), e3 x c]
theorem CT_cpy {b hi a n : Nat} {F f : Mm} {L L' : List Int32} {T T' : List (Nat × List Int32)} {s : Nat → Int32} (h : tl T a = some L) (zL : L.all (fun x => decide (x = 0)) = true) (h' : tl T' a = some L') (hx : ∀ x, x ≠ a → tl T' x = tl T x) (hl : L'.length = n) (hv : ∀ k, k < n → L'.getD k 0 = s k) : rw2 (CT 0 F b hi T f) a (va_cpy s (CT 0 F b hi T f a) 0 0 n) = CT 0 F b hi T' f := by
  funext x
  by_cases c : x = a
  · subst c
    rw [rw2_at, CT_at h', CT_at h]
    funext k
    by_cases d : k < n
    · rw [pk_cpy_in (Nat.zero_le _) (by omega), hv k d, Nat.zero_add, Nat.sub_zero]
    · rw [pk_cpy_out (by omega)]
      have e : L'[k]? = none := List.getElem?_eq_none_iff.mpr (by omega)
      rw [zrI zL k, List.getD_eq_getElem?_getD, e]; rfl
  · rw [rw2_off c]
    unfold CT
    rw [hx x c]
theorem v_ldc1S {κ : KT} {own nm : String} {cc : ByteArray} {nL : Nat} {R : Room} {ret : Option FieldType} {Q : State → Prop} {ω : Wo} {h : Mm} {pc : Nat} {lv : List (Nat × Value)} {st : List Value} {i idx : Nat} {tx : String} (K : KOK κ own nm cc nL R ret) (hR : ∀ (ρ : Nat → Nat) (A : Nat → Prop) (U : State) (H : Heap), EX ρ A U H → vk_R own idx tx (ρ (1020 + i)) U) (d : decode cc pc = .ok (.ldc idx, 2)) (kk : V κ Q nL ω h (pc + 2) lv (.ref (1020 + i) :: st)) : V κ Q nL ω h pc lv st := by
  intro H locs ls hl hP hD hS hE T hT X
  obtain ⟨t, a1, b1⟩ := kk H locs ls hl hP hD hS hE T hT X
  have hZ := hR _ _ _ _ hE
  have hev : (Term.string own idx).eval (ka κ) (ks κ) none [] (ks κ) = some (.ref (ω.2.1 (1020 + i))) := by
    have := hZ.2
    first | exact this | (rw [Term.string_eval_of_vm (args := ka κ) rfl] at this; exact this)
  exact ⟨t, X.ldcString K.1 K.2.2.2.1 (text := tx) (a := ω.2.1 (1020 + i)) hZ.1 hev (g := F0 (km κ) pc ls (st.map (ph ω.2.1))) rfl (by rw [K.2.1]; exact d) t a1, b1⟩
