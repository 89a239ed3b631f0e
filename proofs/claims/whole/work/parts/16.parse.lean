/-! the reading of a TEXT, as the reference goes: (place, fault, open) and the row of signs it comes to -/
abbrev PSt : Type := Nat × Option Nat × Nat
def hereP (bt : Nat → Int32) (n : Nat) (s : PSt) : Int32 := if s.1 < n ∧ s.2.1 = none then bt s.1 else (-1)
def wrongP (s : PSt) : PSt := (s.1, (match s.2.1 with | none => some s.1 | some p => some p), s.2.2)
def advP (s : PSt) : PSt := (s.1 + 1, s.2.1, s.2.2)
def openP (s : PSt) : PSt := (s.1, s.2.1, s.2.2 + 1)
def closeP (s : PSt) : PSt := (s.1, s.2.1, s.2.2 - 1)
def tkP (bt : Nat → Int32) (n c : Nat) (s : PSt) : PSt := if hereP bt n s = nI c then advP s else s
def nameP (u : Nat) (c : Int32) : Option Nat :=
  if u = 0 then (if c = nI 101 then some 0 else if c = nI 98 then some 1 else if c = nI 109 then some 2 else if c = nI 119 then some 3 else if c = nI 116 then some 4 else none)
  else if u = 1 then (if c = nI 104 then some 0 else if c = nI 102 then some 1 else if c = nI 103 then some 2 else none)
  else (if c = nI 97 then some 0 else if c = nI 116 then some 1 else none)
def nmI (o : Option Nat) : Int32 := match o with
  | none => (-1)
  | some j => nI j
def digP (bt : Nat → Int32) (n : Nat) : Nat → Int32 → PSt → Int32 × Nat × PSt
  | 0, v, s => (v, 0, s)
  | f + 1, v, s => if nI 48 ≤ hereP bt n s ∧ hereP bt n s ≤ nI 57 then
      ((digP bt n f (nI 10 * v + hereP bt n s - nI 48) (advP s)).1, (digP bt n f (nI 10 * v + hereP bt n s - nI 48) (advP s)).2.1 + 1, (digP bt n f (nI 10 * v + hereP bt n s - nI 48) (advP s)).2.2)
    else (v, 0, s)
abbrev PF : Type := PSt → List Int32 × PSt
/-- a row of parts with signs between them -/
def loopP (bt : Nat → Int32) (n : Nat) (ops : List Int32) (F : PF) : Nat → List Int32 → PSt → List Int32 × PSt
  | 0, c, s => (c, s)
  | f + 1, c, s => if hereP bt n s ∈ ops then loopP bt n ops F f (c ++ (F (advP s)).1 ++ [-hereP bt n s]) (F (advP s)).2 else (c, s)
def rowP (bt : Nat → Int32) (n : Nat) (ops : List Int32) (F : PF) : PF := fun s => loopP bt n ops F 52 (F s).1 (F s).2
def cmpP (bt : Nat → Int32) (n : Nat) (F : PF) : PF := fun s =>
  if hereP bt n (F s).2 ∈ [nI 60, nI 61, nI 62] then ((F s).1 ++ (F (advP (F s).2)).1 ++ [-hereP bt n (F s).2], (F (advP (F s).2)).2) else F s
def prodP (bt : Nat → Int32) (n : Nat) (U : PF) : PF := rowP bt n [nI 42, nI 47, nI 37] U
def sumP (bt : Nat → Int32) (n : Nat) (U : PF) : PF := rowP bt n [nI 43, nI 45] (prodP bt n U)
def bothP (bt : Nat → Int32) (n : Nat) (U : PF) : PF := rowP bt n [nI 38] (cmpP bt n (sumP bt n U))
def eitherP (bt : Nat → Int32) (n : Nat) (U : PF) : PF := rowP bt n [nI 124] (bothP bt n U)
def leafP (bt : Nat → Int32) (n u : Nat) (s : PSt) : List Int32 × PSt :=
  match nameP u (hereP bt n s) with
  | some j => ([(-1) - nI j], advP s)
  | none => if (digP bt n 4 (nI 0) s).2.1 = 0 then ([], wrongP (digP bt n 4 (nI 0) s).2.2) else ([(digP bt n 4 (nI 0) s).1], (digP bt n 4 (nI 0) s).2.2)
/-- a part by itself: k more may be opened -/
def unitP (bt : Nat → Int32) (n u : Nat) : Nat → PF
  | 0, s => if hereP bt n s = nI 33 ∨ hereP bt n s = nI 40 then ([], wrongP s) else leafP bt n u s
  | k + 1, s =>
    if hereP bt n s = nI 40 then
      (if hereP bt n (eitherP bt n (unitP bt n u k) (advP (openP s))).2 = nI 41 then ((eitherP bt n (unitP bt n u k) (advP (openP s))).1, closeP (advP (eitherP bt n (unitP bt n u k) (advP (openP s))).2))
       else ([], wrongP (eitherP bt n (unitP bt n u k) (advP (openP s))).2))
    else if hereP bt n s = nI 33 then ((unitP bt n u k (advP (openP s))).1 ++ [(-33)], closeP (unitP bt n u k (advP (openP s))).2)
    else leafP bt n u s
/-! how far it goes -/
def GP (n : Nat) (s t : PSt) : Prop := s.1 ≤ t.1 ∧ t.1 ≤ n ∧ (t.2.1 = none → t.2.2 = s.2.2) ∧ s.2.2 ≤ t.2.2 ∧ t.2.2 ≤ 5 ∧ (∀ p, t.2.1 = some p → p ≤ n)
def OKs (n k : Nat) (s : PSt) : Prop := s.1 ≤ n ∧ s.2.1 = none ∧ s.2.2 + k = 5
def Good (n k : Nat) (F : PF) : Prop := ∀ s, OKs n k s → GP n s (F s).2
theorem GP.rf {n k : Nat} {s : PSt} (H : OKs n k s) : GP n s s := ⟨Nat.le_refl _, H.1, fun _ => rfl, Nat.le_refl _, by have := H.2.2; omega, fun p hp => by rw [H.2.1] at hp; cases hp⟩
theorem GP.tr {n : Nat} {s t u : PSt} (H : GP n s t) (hn : t.2.1 = none) (H2 : GP n t u) : GP n s u := ⟨Nat.le_trans H.1 H2.1, H2.2.1, fun q => (H2.2.2.1 q).trans (H.2.2.1 hn), Nat.le_trans H.2.2.2.1 H2.2.2.2.1, H2.2.2.2.2⟩
theorem OKs.on {n k : Nat} {s t : PSt} (H : OKs n k s) (G : GP n s t) (hn : t.2.1 = none) : OKs n k t := ⟨G.2.1, hn, by rw [G.2.2.1 hn]; exact H.2.2⟩
theorem OKs.adv {n k : Nat} {s : PSt} (H : OKs n k s) (h : s.1 < n) : OKs n k (advP s) := ⟨h, H.2.1, H.2.2⟩
theorem GP.adv {n k : Nat} {s : PSt} (H : OKs n k s) (h : s.1 < n) : GP n s (advP s) := ⟨Nat.le_succ _, h, fun _ => rfl, Nat.le_refl _, by show s.2.2 ≤ 5; have := H.2.2; omega, fun p hp => by rw [show (advP s).2.1 = s.2.1 from rfl, H.2.1] at hp; cases hp⟩
theorem GP.wrong {n : Nat} {s t : PSt} (G : GP n s t) : GP n s (wrongP t) := by
  refine ⟨G.1, G.2.1, fun q => ?_, G.2.2.2.1, G.2.2.2.2.1, fun p hp => ?_⟩
  · unfold wrongP at q; cases h : t.2.1 <;> rw [h] at q <;> simp at q
  · unfold wrongP at hp
    cases h : t.2.1 with
    | none => rw [h] at hp; simp at hp; have := G.2.1; omega
    | some p2 => rw [h] at hp; simp at hp; have := G.2.2.2.2.2 p2 h; omega
theorem wrong_some {t : PSt} : (wrongP t).2.1 ≠ none := by unfold wrongP; cases t.2.1 <;> simp
theorem hereP_lt {bt : Nat → Int32} {n : Nat} {s : PSt} {c : Int32} (h : hereP bt n s = c) (hc : c ≠ (-1)) : s.1 < n ∧ s.2.1 = none := by
  unfold hereP at h
  by_cases q : s.1 < n ∧ s.2.1 = none
  · exact q
  · rw [if_neg q] at h; exact absurd h.symm hc
theorem loop_good {bt : Nat → Int32} {n k : Nat} {ops : List Int32} {F : PF} (hF : Good n k F) (hops : (-1) ∉ ops) : ∀ (f : Nat) (c : List Int32) (s t : PSt), OKs n k s → GP n s t → GP n s (loopP bt n ops F f c t).2
  | 0, _, _, _, _, G => G
  | f + 1, c, s, t, H, G => by
    rw [loopP]
    by_cases q : hereP bt n t ∈ ops
    · rw [if_pos q]
      obtain ⟨h1, h2⟩ := hereP_lt (c := hereP bt n t) rfl (fun e => hops (e ▸ q))
      have Ht := H.on G h2
      exact loop_good hF hops f _ s _ H (G.tr h2 ((GP.adv Ht h1).tr h2 (hF _ (Ht.adv h1))))
    · rw [if_neg q]; exact G
theorem row_good {bt : Nat → Int32} {n k : Nat} {ops : List Int32} {F : PF} (hF : Good n k F) (hops : (-1) ∉ ops) : Good n k (rowP bt n ops F) := fun s H => loop_good hF hops _ _ s _ H (hF s H)
theorem cmp_good {bt : Nat → Int32} {n k : Nat} {F : PF} (hF : Good n k F) : Good n k (cmpP bt n F) := by
  intro s H
  unfold cmpP
  have G := hF s H
  by_cases q : hereP bt n (F s).2 ∈ [nI 60, nI 61, nI 62]
  · rw [if_pos q]
    obtain ⟨h1, h2⟩ := hereP_lt (c := hereP bt n (F s).2) rfl (fun e => absurd (e ▸ q) (by decide))
    have Ht := H.on G h2
    exact G.tr h2 ((GP.adv Ht h1).tr h2 (hF _ (Ht.adv h1)))
  · rw [if_neg q]; exact G
theorem either_good {bt : Nat → Int32} {n k : Nat} {U : PF} (hU : Good n k U) : Good n k (eitherP bt n U) := row_good (row_good (cmp_good (row_good (row_good hU (by decide)) (by decide))) (by decide)) (by decide)
theorem dig_ok {bt : Nat → Int32} {n k : Nat} {s0 : PSt} : ∀ (f : Nat) (v : Int32) (s : PSt), OKs n k s → GP n s0 s → OKs n k (digP bt n f v s).2.2 ∧ GP n s0 (digP bt n f v s).2.2
  | 0, v, s, H, G => ⟨H, G⟩
  | f + 1, v, s, H, G => by
    rw [digP]
    by_cases q : nI 48 ≤ hereP bt n s ∧ hereP bt n s ≤ nI 57
    · rw [if_pos q]
      obtain ⟨h1, h2⟩ := hereP_lt (c := hereP bt n s) rfl (fun e => by rw [e] at q; exact absurd q.1 (by decide))
      exact dig_ok f _ _ (H.adv h1) (G.tr h2 (GP.adv H h1))
    · rw [if_neg q]; exact ⟨H, G⟩
theorem name_ne {u : Nat} {c : Int32} {j : Nat} (h : nameP u c = some j) : c ≠ (-1) := by
  rintro rfl
  have e : ∀ k : Nat, k < 120 → ((-1 : Int32) = nI k) = False := fun k hk => eq_false (fun q => by
    have := i32_eq.mp q
    rw [nI_toInt (by omega), show (-1 : Int32).toInt = -1 from rfl] at this
    omega)
  unfold nameP at h
  simp only [e 101 (by omega), e 98 (by omega), e 109 (by omega), e 119 (by omega), e 116 (by omega), e 104 (by omega), e 102 (by omega), e 103 (by omega), e 97 (by omega), if_false, ite_self] at h
  cases h
theorem leaf_good {bt : Nat → Int32} {n k u : Nat} : Good n k (leafP bt n u) := by
  intro s H
  unfold leafP
  cases q : nameP u (hereP bt n s) with
  | some j =>
    obtain ⟨h1, h2⟩ := hereP_lt (c := hereP bt n s) rfl (name_ne q)
    exact GP.adv H h1
  | none =>
    obtain ⟨h1, h2⟩ := dig_ok (bt := bt) 4 (nI 0) s H (GP.rf H)
    dsimp only
    split
    · exact h2.wrong
    · exact h2
theorem unit_good {bt : Nat → Int32} {n u : Nat} : ∀ k, Good n k (unitP bt n u k)
  | 0 => by
    intro s H
    rw [unitP]
    split
    · exact (GP.rf H).wrong
    · exact leaf_good s H
  | k + 1 => by
    intro s H
    have ih := unit_good (bt := bt) (n := n) (u := u) k
    have key : ∀ c : Int32, c ≠ (-1) → hereP bt n s = c → OKs n k (advP (openP s)) := fun c hc e => by
      obtain ⟨h1, h2⟩ := hereP_lt e hc
      exact ⟨h1, h2, by show s.2.2 + 1 + k = 5; have := H.2.2; omega⟩
    have up : ∀ t, GP n (advP (openP s)) t → s.1 ≤ t.1 ∧ t.1 ≤ n ∧ s.2.2 + 1 ≤ t.2.2 ∧ t.2.2 ≤ 5 ∧ (∀ p, t.2.1 = some p → p ≤ n) ∧ (t.2.1 = none → t.2.2 = s.2.2 + 1) := fun t G => ⟨Nat.le_trans (Nat.le_succ _) G.1, G.2.1, G.2.2.2.1, G.2.2.2.2.1, G.2.2.2.2.2, G.2.2.1⟩
    rw [unitP]
    by_cases q : hereP bt n s = nI 40
    · rw [if_pos q]
      have G := either_good (bt := bt) ih _ (key _ (by decide) q)
      obtain ⟨a1, a2, a3, a4, a5, a6⟩ := up _ G
      by_cases q2 : hereP bt n (eitherP bt n (unitP bt n u k) (advP (openP s))).2 = nI 41
      · rw [if_pos q2]
        obtain ⟨h1, h2⟩ := hereP_lt q2 (by decide)
        have h6 := a6 h2
        refine ⟨Nat.le_succ_of_le a1, h1, fun _ => ?_, ?_, ?_, fun p hp => a5 p hp⟩
        · show (eitherP bt n (unitP bt n u k) (advP (openP s))).2.2.2 - 1 = s.2.2; omega
        · show s.2.2 ≤ (eitherP bt n (unitP bt n u k) (advP (openP s))).2.2.2 - 1; omega
        · show (eitherP bt n (unitP bt n u k) (advP (openP s))).2.2.2 - 1 ≤ 5; omega
      · rw [if_neg q2]
        refine ⟨a1, a2, fun q => absurd q wrong_some, ?_, a4, ?_⟩
        · show s.2.2 ≤ (eitherP bt n (unitP bt n u k) (advP (openP s))).2.2.2; omega
        · exact G.wrong.2.2.2.2.2
    · rw [if_neg q]
      by_cases q3 : hereP bt n s = nI 33
      · rw [if_pos q3]
        have G := ih _ (key _ (by decide) q3)
        obtain ⟨a1, a2, a3, a4, a5, a6⟩ := up _ G
        refine ⟨a1, a2, fun q => ?_, ?_, ?_, fun p hp => a5 p hp⟩
        · have := a6 q; show (unitP bt n u k (advP (openP s))).2.2.2 - 1 = s.2.2; omega
        · show s.2.2 ≤ (unitP bt n u k (advP (openP s))).2.2.2 - 1; omega
        · show (unitP bt n u k (advP (openP s))).2.2.2 - 1 ≤ 5; omega
      · rw [if_neg q3]
        obtain ⟨b1, b2, b3, b4, b5, b6⟩ := leaf_good (bt := bt) (n := n) (u := u) s H
        exact ⟨b1, b2, b3, b4, b5, b6⟩
/-! numbers and names on the stack -/
theorem dig_val {bt : Nat → Int32} {n : Nat} : ∀ (f m : Nat) (v : Int32) (s : PSt), f + m ≤ 4 → (∃ a, a < 10 ^ m ∧ v = nI a) → ∃ a, a < 10000 ∧ (digP bt n f v s).1 = nI a
  | 0, m, v, s, hm, ⟨a, ha, e⟩ => ⟨a, Nat.lt_of_lt_of_le ha (Nat.pow_le_pow_right (by omega) (by omega : m ≤ 4)), e⟩
  | f + 1, m, v, s, hm, ⟨a, ha, e⟩ => by
    rw [digP]
    by_cases q : nI 48 ≤ hereP bt n s ∧ hereP bt n s ≤ nI 57
    · rw [if_pos q]
      refine dig_val f (m + 1) _ _ (by omega) ?_
      obtain ⟨q1, q2⟩ := q
      rw [i32_le] at q1 q2
      have e48 : (nI 48).toInt = 48 := rfl
      have e57 : (nI 57).toInt = 57 := rfl
      obtain ⟨c, hc, ec⟩ := nI_of (x := hereP bt n s) (by rw [i32_lt, Int32.toInt_zero]; omega)
      rw [ec, nI_toInt hc] at q1 q2
      have hp : 10 ^ m ≤ 10000 := Nat.pow_le_pow_right (by omega) (by omega : m ≤ 4)
      refine ⟨10 * a + (c - 48), by rw [Nat.pow_succ]; omega, ?_⟩
      rw [ec, e, pk_mul, nI_add, pk_sub (by omega)]
      congr 1
      omega
    · rw [if_neg q]
      exact ⟨a, Nat.lt_of_lt_of_le ha (Nat.pow_le_pow_right (by omega) (by omega : m ≤ 4)), e⟩
theorem run_num {a : Nat} (ha : a < 10000) {nm : Nat → Int32} {st : List Int32} : runL [nI a] nm st = nI a :: st := by
  unfold runL
  rw [List.foldl_cons, List.foldl_nil]
  exact step_n (by rw [i32_le, Int32.toInt_zero, nI_toInt (by omega)]; omega)
theorem nm_neg {j : Nat} (hj : j < 5) : ¬ (0 : Int32) ≤ (-1) - nI j ∧ (-5 : Int32) ≤ (-1) - nI j ∧ (-1 : Int32) - ((-1) - nI j) = nI j := by
  obtain rfl | rfl | rfl | rfl | rfl : j = 0 ∨ j = 1 ∨ j = 2 ∨ j = 3 ∨ j = 4 := by omega
  all_goals decide
theorem run_name {j : Nat} (hj : j < 5) {nm : Nat → Int32} {st : List Int32} : runL [(-1) - nI j] nm st = nm j :: st := by
  unfold runL
  rw [List.foldl_cons, List.foldl_nil]
  obtain ⟨h1, h2, h3⟩ := nm_neg hj
  exact step_m h1 h2 hj h3
theorem nnU_2 {u : Nat} (h0 : ¬ u = 0) (h1 : ¬ u = 1) : nnU u = 2 := by
  match u with
  | 0 => exact absurd rfl h0
  | 1 => exact absurd rfl h1
  | k + 2 => rfl
theorem name_lt {u : Nat} {c : Int32} {j : Nat} (h : nameP u c = some j) : j < nnU u := by
  unfold nameP at h
  split at h
  · rename_i e; subst e
    show j < 5
    repeat' split at h
    all_goals first | (cases h; decide) | (cases h)
  · split at h
    · rename_i e; subst e
      show j < 3
      repeat' split at h
      all_goals first | (cases h; decide) | (cases h)
    · rename_i e1 e2
      rw [nnU_2 e1 e2]
      repeat' split at h
      all_goals first | (cases h; omega) | (cases h)
theorem nn_le {u : Nat} : nnU u ≤ 5 := by
  unfold nnU
  split <;> omega
