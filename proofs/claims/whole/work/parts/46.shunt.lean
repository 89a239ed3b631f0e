/-! the class reads a TEXT: what is read, the signs that wait (the last first), place, open, brackets, whether an operand is due -/
abbrev QS : Type := List Int32 × List Int32 × Nat × Nat × Nat × Bool
def lvQ (c : Int32) : Nat := if c = nI 124 then 1 else if c = nI 38 then 2 else if c = nI 60 ∨ c = nI 61 ∨ c = nI 62 then 3 else if c = nI 43 ∨ c = nI 45 then 4 else if c = nI 42 ∨ c = nI 47 ∨ c = nI 37 then 5 else 0
def popQ (l : Nat) : List Int32 → List Int32 → List Int32 × List Int32
  | w, [] => (w, [])
  | w, x :: k => if l ≤ lvQ x then popQ l (w ++ [-x]) k else (w, x :: k)
def bngQ : List Int32 → List Int32 → Nat → List Int32 × List Int32 × Nat
  | w, [], o => (w, [], o)
  | w, x :: k, o => if x = nI 33 then bngQ (w ++ [(-33)]) k (o - 1) else (w, x :: k, o)
def lvT : List Int32 → Nat
  | [] => 0
  | x :: _ => lvQ x
def opdQ (bt : Nat → Int32) (n u : Nat) (x : QS) : Option QS :=
  if bt x.2.2.1 = nI 33 ∨ bt x.2.2.1 = nI 40 then (if 5 ≤ x.2.2.2.1 then none else some (x.1, bt x.2.2.1 :: x.2.1, x.2.2.1 + 1, x.2.2.2.1 + 1, x.2.2.2.2.1 + (if bt x.2.2.1 = nI 40 then 1 else 0), true))
  else match nameP u (bt x.2.2.1) with
    | some j => some ((bngQ (x.1 ++ [(-1) - nI j]) x.2.1 x.2.2.2.1).1, (bngQ (x.1 ++ [(-1) - nI j]) x.2.1 x.2.2.2.1).2.1, x.2.2.1 + 1, (bngQ (x.1 ++ [(-1) - nI j]) x.2.1 x.2.2.2.1).2.2, x.2.2.2.2.1, false)
    | none => if nI 48 ≤ bt x.2.2.1 ∧ bt x.2.2.1 ≤ nI 57 then some ((bngQ (x.1 ++ [(digP bt n 4 (nI 0) (x.2.2.1, none, x.2.2.2.1)).1]) x.2.1 x.2.2.2.1).1, (bngQ (x.1 ++ [(digP bt n 4 (nI 0) (x.2.2.1, none, x.2.2.2.1)).1]) x.2.1 x.2.2.2.1).2.1, (digP bt n 4 (nI 0) (x.2.2.1, none, x.2.2.2.1)).2.2.1, (bngQ (x.1 ++ [(digP bt n 4 (nI 0) (x.2.2.1, none, x.2.2.2.1)).1]) x.2.1 x.2.2.2.1).2.2, x.2.2.2.2.1, false) else none
def lvP (b : Int32) : Nat := if lvQ b = 3 then 4 else lvQ b
def folQ (bt : Nat → Int32) (x : QS) : Option QS :=
  if bt x.2.2.1 = nI 41 then (if x.2.2.2.2.1 = 0 then none else some ((bngQ (popQ 1 x.1 x.2.1).1 (popQ 1 x.1 x.2.1).2.tail (x.2.2.2.1 - 1)).1, (bngQ (popQ 1 x.1 x.2.1).1 (popQ 1 x.1 x.2.1).2.tail (x.2.2.2.1 - 1)).2.1, x.2.2.1 + 1, (bngQ (popQ 1 x.1 x.2.1).1 (popQ 1 x.1 x.2.1).2.tail (x.2.2.2.1 - 1)).2.2, x.2.2.2.2.1 - 1, false))
  else if lvQ (bt x.2.2.1) = 0 then none
  else if lvQ (bt x.2.2.1) = 3 ∧ lvT (popQ (lvP (bt x.2.2.1)) x.1 x.2.1).2 = 3 then none
  else some ((popQ (lvP (bt x.2.2.1)) x.1 x.2.1).1, bt x.2.2.1 :: (popQ (lvP (bt x.2.2.1)) x.1 x.2.1).2, x.2.2.1 + 1, x.2.2.2.1, x.2.2.2.2.1, true)
def stepQ (bt : Nat → Int32) (n u : Nat) (x : QS) : Option QS := if x.2.2.2.2.2 = true then opdQ bt n u x else folQ bt x
def stpQ (bt : Nat → Int32) (n u : Nat) (x : QS) : Option QS := if x.2.2.1 < n then stepQ bt n u x else none
def itQ (bt : Nat → Int32) (n u : Nat) : Nat → QS → Option QS
  | 0, x => some x
  | i + 1, x => match stpQ bt n u x with
    | none => none
    | some y => itQ bt n u i y
def RchQ (bt : Nat → Int32) (n u : Nat) (x y : QS) : Prop := ∃ i, itQ bt n u i x = some y
def StkQ (bt : Nat → Int32) (n u : Nat) (y : QS) (p : Nat) : Prop := y.2.2.1 = p ∧ ((p < n ∧ stepQ bt n u y = none) ∨ (p = n ∧ (y.2.2.2.2.2 = true ∨ 0 < y.2.2.2.2.1)))
def FailQ (bt : Nat → Int32) (n u : Nat) (x : QS) (p : Nat) : Prop := ∃ y, RchQ bt n u x y ∧ StkQ bt n u y p
section RQ
variable {bt : Nat → Int32} {n u : Nat}
theorem it_add {i : Nat} : ∀ {j : Nat} {x y z : QS}, itQ bt n u j x = some y → itQ bt n u i y = some z → itQ bt n u (j + i) x = some z
  | 0, x, y, z, h1, h2 => by
    cases h1; rw [Nat.zero_add]; exact h2
  | j + 1, x, y, z, h1, h2 => by
    rw [show j + 1 + i = (j + i) + 1 by omega, itQ]
    rw [itQ] at h1
    cases hs : stpQ bt n u x with
    | none => rw [hs] at h1; cases h1
    | some x1 => rw [hs] at h1; exact it_add h1 h2
theorem RchQ.r {x : QS} : RchQ bt n u x x := ⟨0, rfl⟩
theorem RchQ.t {x y z : QS} (h1 : RchQ bt n u x y) (h2 : RchQ bt n u y z) : RchQ bt n u x z := by
  obtain ⟨i, h1⟩ := h1
  obtain ⟨j, h2⟩ := h2
  exact ⟨i + j, it_add h1 h2⟩
theorem RchQ.s {x y : QS} (h : x.2.2.1 < n) (h2 : stepQ bt n u x = some y) : RchQ bt n u x y := by
  refine ⟨1, ?_⟩
  have e : stpQ bt n u x = some y := (if_pos h).trans h2
  rw [itQ, e]; rfl
theorem FailQ.t {x y : QS} {p : Nat} (h1 : RchQ bt n u x y) (h2 : FailQ bt n u y p) : FailQ bt n u x p := by
  obtain ⟨z, h2, h3⟩ := h2
  exact ⟨z, h1.t h2, h3⟩
theorem it_end {x y z : QS} : ∀ {i j : Nat}, itQ bt n u i x = some y → stpQ bt n u y = none → itQ bt n u j x = some z → stpQ bt n u z = none → y = z
  | 0, 0, h1, _, h2, _ => by cases h1; cases h2; rfl
  | 0, j + 1, h1, hy, h2, _ => by cases h1; rw [itQ, hy] at h2; cases h2
  | i + 1, 0, h1, _, h2, hz => by cases h2; rw [itQ, hz] at h1; cases h1
  | i + 1, j + 1, h1, hy, h2, hz => by
    rw [itQ] at h1 h2
    cases hs : stpQ bt n u x with
    | none => rw [hs] at h1; cases h1
    | some x1 => rw [hs] at h1 h2; exact it_end h1 hy h2 hz
theorem RchQ.one {x y z : QS} (h1 : RchQ bt n u x y) (hy : stpQ bt n u y = none) (h2 : RchQ bt n u x z) (hz : stpQ bt n u z = none) : y = z := by
  obtain ⟨i, h1⟩ := h1
  obtain ⟨j, h2⟩ := h2
  exact it_end h1 hy h2 hz
/-! popping -/
def ngL (l : List Int32) : List Int32 := l.map (fun y => -y)
theorem ng_app {a b : List Int32} : ngL (a ++ b) = ngL a ++ ngL b := List.map_append
theorem ng_1 {a : Int32} : ngL [a] = [-a] := rfl
def TopQ (l : Nat) (k : List Int32) : Prop := ∀ x r, k = x :: r → lvQ x < l ∧ x ≠ nI 33
theorem TopQ.w {l l2 : Nat} {k : List Int32} (H : TopQ l k) (h : l ≤ l2) : TopQ l2 k := fun x r e => ⟨Nat.lt_of_lt_of_le (H x r e).1 h, (H x r e).2⟩
theorem pop_all {l : Nat} {k : List Int32} (hk : TopQ l k) : ∀ {pd w : List Int32}, (∀ y ∈ pd, l ≤ lvQ y) → popQ l w (pd ++ k) = (w ++ ngL pd, k)
  | [], w, _ => by
    show popQ l w k = (w ++ [], k)
    rw [List.append_nil]
    cases k with
    | nil => rfl
    | cons x r => rw [popQ, if_neg (by have := (hk x r rfl).1; omega)]
  | y :: pd, w, h => by
    show popQ l w (y :: (pd ++ k)) = _
    rw [popQ, if_pos (h y List.mem_cons_self), pop_all hk (fun z hz => h z (List.mem_cons_of_mem _ hz))]
    show (w ++ [-y] ++ ngL pd, k) = (w ++ (-y :: ngL pd), k)
    rw [List.append_assoc]; rfl
theorem pop_some {l : Nat} {x : Int32} {r : List Int32} (hx : lvQ x < l) : ∀ {p2 w : List Int32}, (∀ y ∈ p2, l ≤ lvQ y) → popQ l w (p2 ++ x :: r) = (w ++ ngL p2, x :: r)
  | [], w, _ => by
    show popQ l w (x :: r) = (w ++ [], x :: r)
    rw [List.append_nil, popQ, if_neg (by omega)]
  | y :: p2, w, h => by
    show popQ l w (y :: (p2 ++ x :: r)) = _
    rw [popQ, if_pos (h y List.mem_cons_self), pop_some hx (fun z hz => h z (List.mem_cons_of_mem _ hz))]
    show (w ++ [-y] ++ ngL p2, x :: r) = (w ++ (-y :: ngL p2), x :: r)
    rw [List.append_assoc]; rfl
theorem bng_all {k : List Int32} (hk : ∀ x r, k = x :: r → x ≠ nI 33) : ∀ {j : Nat} {w : List Int32} {o : Nat}, bngQ w (List.replicate j (nI 33) ++ k) o = (w ++ List.replicate j (-33), k, o - j)
  | 0, w, o => by
    show bngQ w k o = (w ++ [], k, o - 0)
    rw [List.append_nil, Nat.sub_zero]
    cases k with
    | nil => rfl
    | cons x r => rw [bngQ, if_neg (hk x r rfl)]
  | j + 1, w, o => by
    show bngQ w (nI 33 :: (List.replicate j (nI 33) ++ k)) o = _
    rw [bngQ, if_pos rfl, bng_all hk, List.replicate_succ]
    refine Prod.ext ?_ (Prod.ext rfl ?_)
    · show w ++ [(-33)] ++ List.replicate j (-33) = w ++ ((-33) :: List.replicate j (-33))
      rw [List.append_assoc]; rfl
    · show o - 1 - j = o - (j + 1); omega
/-! what one part of the grammar does to both -/
def MaxQ (l : Nat) (b : Int32) (pd : List Int32) : Prop := (∀ l', l ≤ l' → l' ≠ 3 → l' ≤ 5 → 1 ≤ l' → lvQ b ≠ l') ∧ (l ≤ 3 → lvQ b = 3 → ∃ p2 x r, pd = p2 ++ x :: r ∧ (∀ y ∈ p2, 4 ≤ lvQ y) ∧ lvQ x = 3)
def SimQ (bt : Nat → Int32) (n u l k : Nat) (F : PF) : Prop := ∀ (s : PSt) (w stk : List Int32) (br : Nat), OKs n k s → TopQ l stk →
  ((F s).2.2.1 = none → ∃ w' pd, RchQ bt n u (w, stk, s.1, s.2.2, br, true) (w', pd ++ stk, (F s).2.1, s.2.2, br, false) ∧ (∀ y ∈ pd, l ≤ lvQ y) ∧ w' ++ ngL pd = w ++ (F s).1 ∧ MaxQ l (hereP bt n (F s).2) pd) ∧
  (∀ p, (F s).2.2.1 = some p → FailQ bt n u (w, stk, s.1, s.2.2, br, true) p)
theorem lv_le {b : Int32} : lvQ b ≤ 5 := by
  unfold lvQ
  repeat' split
  all_goals omega
theorem lv_m1 : lvQ (-1) = 0 := by decide
theorem here_bt {s : PSt} (h1 : s.1 < n) (h2 : s.2.1 = none) : hereP bt n s = bt s.1 := if_pos ⟨h1, h2⟩
theorem here_lv {s : PSt} {l : Nat} (h : lvQ (hereP bt n s) = l) (hl : 1 ≤ l) : s.1 < n ∧ s.2.1 = none := hereP_lt rfl (fun e => by rw [e, lv_m1] at h; omega)
/-- a sign that joins is taken: what joins as tightly goes behind what it joins -/
theorem fol_step {x : QS} {w' pd k wc : List Int32} {l a o br : Nat} (ha : a < n) (hl : lvQ (bt a) = l) (h1 : 1 ≤ l) (h3 : l ≠ 3) (hk : TopQ l k) (hp : ∀ y ∈ pd, l ≤ lvQ y) (hw : w' ++ ngL pd = wc) (hx : x = (w', pd ++ k, a, o, br, false)) : RchQ bt n u x (wc, bt a :: k, a + 1, o, br, true) := by
  subst hx
  refine RchQ.s ha ?_
  show folQ bt _ = _
  unfold folQ
  have h41 : ¬ bt a = nI 41 := fun e => by rw [e, show lvQ (nI 41) = 0 by decide] at hl; omega
  have e2 : lvP (bt a) = l := by unfold lvP; rw [if_neg (by omega)]; exact hl
  rw [if_neg h41, if_neg (by show ¬ lvQ (bt a) = 0; omega), if_neg (by rintro ⟨q, -⟩; have q : lvQ (bt a) = 3 := q; omega)]
  show some ((popQ (lvP (bt a)) w' (pd ++ k)).1, bt a :: (popQ (lvP (bt a)) w' (pd ++ k)).2, a + 1, o, br, true) = _
  rw [e2, pop_all hk hp, hw]
theorem cmp_step {x : QS} {w' pd k wc : List Int32} {a o br : Nat} (ha : a < n) (hl : lvQ (bt a) = 3) (hk : TopQ 3 k) (hp : ∀ y ∈ pd, 4 ≤ lvQ y) (hw : w' ++ ngL pd = wc) (hx : x = (w', pd ++ k, a, o, br, false)) : RchQ bt n u x (wc, bt a :: k, a + 1, o, br, true) := by
  subst hx
  refine RchQ.s ha ?_
  show folQ bt _ = _
  unfold folQ
  have h41 : ¬ bt a = nI 41 := fun e => by rw [e, show lvQ (nI 41) = 0 by decide] at hl; omega
  have e2 : lvP (bt a) = 4 := by unfold lvP; rw [if_pos hl]
  have e3 : popQ 4 w' (pd ++ k) = (wc, k) := by rw [pop_all (hk.w (by omega)) hp, hw]
  have e4 : ¬ lvT k = 3 := by
    cases k with
    | nil => show ¬ 0 = 3; omega
    | cons y r => have := (hk y r rfl).1; show ¬ lvQ y = 3; omega
  rw [if_neg h41, if_neg (by show ¬ lvQ (bt a) = 0; omega), if_neg (by
    rintro ⟨-, q⟩
    have q : lvT (popQ (lvP (bt a)) w' (pd ++ k)).2 = 3 := q
    rw [e2, e3] at q; exact e4 q)]
  show some ((popQ (lvP (bt a)) w' (pd ++ k)).1, bt a :: (popQ (lvP (bt a)) w' (pd ++ k)).2, a + 1, o, br, true) = _
  rw [e2, e3]
theorem max_up {l : Nat} {b : Int32} {pd : List Int32} (H : MaxQ (l + 1) b pd) (h3 : l ≠ 3) (hb : lvQ b ≠ l) : MaxQ l b pd :=
  ⟨fun l' q1 q2 q3 q4 => by
    by_cases e : l' = l
    · rw [e]; exact hb
    · exact H.1 l' (by omega) q2 q3 q4, fun q1 q2 => H.2 (by omega) q2⟩
theorem max_ext {l : Nat} {b : Int32} {pd r2 : List Int32} (H : MaxQ l b pd) : MaxQ l b (pd ++ r2) :=
  ⟨H.1, fun q1 q2 => by
    obtain ⟨p2, x, r, e, e2, e3⟩ := H.2 q1 q2
    exact ⟨p2, x, r ++ r2, by rw [e, List.append_assoc]; rfl, e2, e3⟩⟩
theorem loop_stop {ops : List Int32} {F : PF} (hops : (-1) ∉ ops) {t : PSt} (ht : t.2.1 ≠ none) : ∀ (f : Nat) (c : List Int32), (loopP bt n ops F f c t).2 = t
  | 0, _ => rfl
  | f + 1, c => by
    have e : hereP bt n t = (-1) := by unfold hereP; rw [if_neg (fun q => ht q.2)]
    rw [loopP, if_neg (by rw [e]; exact hops)]
/-- a row of parts -/
theorem sim_loop {l k : Nat} {ops : List Int32} {F : PF} (h1 : 1 ≤ l) (h3 : l ≠ 3) (hops : ∀ b, b ∈ ops ↔ lvQ b = l) (hF : SimQ bt n u (l + 1) k F) (hG : Good n k F) {x0 : QS} {w stk : List Int32} {br o : Nat} (hs : TopQ l stk) :
    ∀ (f : Nat) (c : List Int32) (t : PSt) (w' pd : List Int32), n < f + t.1 → OKs n k t → t.2.2 = o → RchQ bt n u x0 (w', pd ++ stk, t.1, o, br, false) → (∀ y ∈ pd, l ≤ lvQ y) → w' ++ ngL pd = w ++ c → MaxQ (l + 1) (hereP bt n t) pd →
    ((loopP bt n ops F f c t).2.2.1 = none → ∃ w' pd, RchQ bt n u x0 (w', pd ++ stk, (loopP bt n ops F f c t).2.1, o, br, false) ∧ (∀ y ∈ pd, l ≤ lvQ y) ∧ w' ++ ngL pd = w ++ (loopP bt n ops F f c t).1 ∧ MaxQ l (hereP bt n (loopP bt n ops F f c t).2) pd) ∧
    (∀ p, (loopP bt n ops F f c t).2.2.1 = some p → FailQ bt n u x0 p)
  | 0, c, t, w', pd, hf, hO, ho, hR, hp, hw, hM => by have := hO.1; omega
  | f + 1, c, t, w', pd, hf, hO, ho, hR, hp, hw, hM => by
    have hno : (-1) ∉ ops := fun q => by have := (hops _).mp q; rw [lv_m1] at this; omega
    by_cases q : hereP bt n t ∈ ops
    · have hlv := (hops _).mp q
      obtain ⟨t1, t2⟩ := here_lv hlv h1
      have hb : hereP bt n t = bt t.1 := here_bt t1 t2
      rw [loopP, if_pos q]
      have R1 := hR.t (fol_step (k := stk) t1 (by rw [← hb]; exact hlv) h1 h3 hs hp hw rfl)
      have T2 : TopQ (l + 1) (bt t.1 :: stk) := fun x r e => by
        cases e
        rw [hb] at hlv
        exact ⟨by omega, fun e2 => by rw [e2, show lvQ (nI 33) = 0 by decide] at hlv; omega⟩
      have O2 := hO.adv t1
      obtain ⟨g1, g2⟩ := hF (advP t) (w ++ c) (bt t.1 :: stk) br O2 T2
      have e2 : (advP t).2.2 = o := ho
      rw [e2] at g1 g2
      have G2 := hG (advP t) O2
      cases hf2 : (F (advP t)).2.2.1 with
      | some p =>
        have e := loop_stop (bt := bt) (n := n) (F := F) hno (t := (F (advP t)).2) (by rw [hf2]; exact fun q => by cases q) f (c ++ (F (advP t)).1 ++ [-hereP bt n t])
        rw [e]
        exact ⟨fun q => absurd (hf2.symm.trans q) (fun z => nomatch z), fun p2 q => FailQ.t R1 (g2 p2 q)⟩
      | none =>
        obtain ⟨w2, pd2, R2, a1, a2, a3⟩ := g1 hf2
        refine sim_loop h1 h3 hops hF hG hs f _ _ w2 (pd2 ++ [bt t.1]) ?_ (O2.on G2 hf2) ((G2.2.2.1 hf2).trans e2) ?_ (fun y hy => ?_) ?_ (max_ext a3)
        · have := G2.1; show n < f + (F (advP t)).2.1; have h4 : (advP t).1 = t.1 + 1 := rfl; omega
        · rw [List.append_assoc]; exact R1.t R2
        · rcases List.mem_append.mp hy with hy | hy
          · have := a1 y hy; omega
          · rw [List.mem_singleton.mp hy, ← hb, hlv]; exact Nat.le_refl _
        · rw [ng_app, ng_1, ← List.append_assoc, a2, hb]; simp only [List.append_assoc]
    · rw [loopP, if_neg q]
      exact ⟨fun _ => ⟨w', pd, hR, hp, hw, max_up hM h3 (fun e => q ((hops _).mpr e))⟩, fun p q2 => by rw [show (c, t).2.2.1 = t.2.1 from rfl, hO.2.1] at q2; cases q2⟩
theorem sim_row {l k : Nat} {ops : List Int32} {F : PF} (hn : n ≤ 50) (h1 : 1 ≤ l) (h3 : l ≠ 3) (hops : ∀ b, b ∈ ops ↔ lvQ b = l) (hF : SimQ bt n u (l + 1) k F) (hG : Good n k F) : SimQ bt n u l k (rowP bt n ops F) := by
  intro s w stk br hO hs
  have hno : (-1) ∉ ops := fun q => by have := (hops _).mp q; rw [lv_m1] at this; omega
  obtain ⟨g1, g2⟩ := hF s w stk br hO (hs.w (by omega))
  unfold rowP
  have G := hG s hO
  cases hf2 : (F s).2.2.1 with
  | some p =>
    have e := loop_stop (bt := bt) (n := n) (F := F) hno (t := (F s).2) (by rw [hf2]; exact fun q => by cases q) 52 (F s).1
    rw [e]
    exact ⟨fun q => absurd (hf2.symm.trans q) (fun z => nomatch z), fun p2 q => g2 p2 q⟩
  | none =>
    obtain ⟨w2, pd2, R2, a1, a2, a3⟩ := g1 hf2
    exact sim_loop h1 h3 hops hF hG hs 52 _ _ w2 pd2 (by omega) (hO.on G hf2) (G.2.2.1 hf2) R2 (fun y hy => by have := a1 y hy; omega) a2 a3
theorem lv_3 {b : Int32} : b ∈ [nI 60, nI 61, nI 62] ↔ lvQ b = 3 := by
  constructor
  · intro h
    simp only [List.mem_cons, List.not_mem_nil, or_false] at h
    rcases h with rfl | rfl | rfl <;> decide
  · intro h
    unfold lvQ at h
    split at h
    · omega
    · split at h
      · omega
      · split at h
        · rename_i q; simp only [List.mem_cons, List.not_mem_nil, or_false]; exact q
        · split at h
          · omega
          · split at h <;> omega
theorem sim_cmp {k : Nat} {F : PF} (hF : SimQ bt n u 4 k F) (hG : Good n k F) : SimQ bt n u 3 k (cmpP bt n F) := by
  intro s w stk br hO hs
  obtain ⟨g1, g2⟩ := hF s w stk br hO (hs.w (by omega))
  have G := hG s hO
  unfold cmpP
  by_cases q : hereP bt n (F s).2 ∈ [nI 60, nI 61, nI 62]
  · rw [if_pos q]
    have hlv := lv_3.mp q
    obtain ⟨t1, t2⟩ := here_lv hlv (by omega)
    have hb : hereP bt n (F s).2 = bt (F s).2.1 := here_bt t1 t2
    obtain ⟨w1, pd1, R1, a1, a2, a3⟩ := g1 t2
    have R2 := R1.t (cmp_step (k := stk) t1 (by rw [← hb]; exact hlv) hs a1 a2 rfl)
    have T2 : TopQ 4 (bt (F s).2.1 :: stk) := fun x r e => by
      cases e
      rw [hb] at hlv
      exact ⟨by omega, fun e2 => by rw [e2, show lvQ (nI 33) = 0 by decide] at hlv; omega⟩
    have O1 := hO.on G t2
    have O2 := O1.adv t1
    have e2 : (advP (F s).2).2.2 = s.2.2 := G.2.2.1 t2
    obtain ⟨b1, b2⟩ := hF (advP (F s).2) (w ++ (F s).1) (bt (F s).2.1 :: stk) br O2 T2
    rw [e2] at b1 b2
    refine ⟨fun hn2 => ?_, fun p hp => FailQ.t R2 (b2 p hp)⟩
    obtain ⟨w2, pd2, R3, c1, c2, c3⟩ := b1 hn2
    refine ⟨w2, pd2 ++ [bt (F s).2.1], ?_, fun y hy => ?_, ?_, ⟨fun l' q1 q2 q3 q4 => c3.1 l' (by omega) q2 q3 q4, fun _ _ => ⟨pd2, _, [], rfl, c1, by rw [← hb]; exact hlv⟩⟩⟩
    · rw [List.append_assoc]; exact R2.t R3
    · rcases List.mem_append.mp hy with hy | hy
      · have := c1 y hy; omega
      · rw [List.mem_singleton.mp hy, ← hb, hlv]; exact Nat.le_refl _
    · rw [ng_app, ng_1, ← List.append_assoc, c2, hb]; simp only [List.append_assoc]
  · rw [if_neg q]
    refine ⟨fun hn2 => ?_, g2⟩
    obtain ⟨w1, pd1, R1, a1, a2, a3⟩ := g1 hn2
    exact ⟨w1, pd1, R1, fun y hy => by have := a1 y hy; omega, a2, fun l' q1 q2 q3 q4 => a3.1 l' (by omega) q2 q3 q4, fun _ q2 => absurd (lv_3.mpr q2) q⟩
/-! a part by itself, whatever ! stand ahead of it -/
def SimU (bt : Nat → Int32) (n u k : Nat) (F : PF) : Prop := ∀ (s : PSt) (w stk : List Int32) (j br : Nat), OKs n k s → (∀ x r, stk = x :: r → x ≠ nI 33) →
  ((F s).2.2.1 = none → RchQ bt n u (w, List.replicate j (nI 33) ++ stk, s.1, s.2.2, br, true) (w ++ (F s).1 ++ List.replicate j (-33), stk, (F s).2.1, s.2.2 - j, br, false)) ∧
  (∀ p, (F s).2.2.1 = some p → FailQ bt n u (w, List.replicate j (nI 33) ++ stk, s.1, s.2.2, br, true) p)
theorem sim_6 {k : Nat} {F : PF} (h : SimU bt n u k F) : SimQ bt n u 6 k F := by
  intro s w stk br hO hs
  obtain ⟨g1, g2⟩ := h s w stk 0 br hO (fun x r e => (hs x r e).2)
  refine ⟨fun q => ⟨w ++ (F s).1, [], ?_, fun y hy => absurd hy List.not_mem_nil, List.append_nil _, fun l' q1 q2 q3 q4 => by omega, fun q1 => by omega⟩, g2⟩
  have := g1 q
  rw [show List.replicate 0 (-33 : Int32) = [] from rfl, List.append_nil] at this
  exact this
/-- a step that isn't there -/
theorem fail_here {x : QS} {p : Nat} (h1 : x.2.2.1 = p) (h2 : (p < n ∧ stepQ bt n u x = none) ∨ (p = n ∧ (x.2.2.2.2.2 = true ∨ 0 < x.2.2.2.2.1))) : FailQ bt n u x p := ⟨x, RchQ.r, h1, h2⟩
theorem dig_0 {s : PSt} : (digP bt n 4 (nI 0) s).2.1 = 0 ↔ ¬ (nI 48 ≤ hereP bt n s ∧ hereP bt n s ≤ nI 57) := by
  rw [digP]
  constructor
  · intro h q; rw [if_pos q] at h; exact absurd h (by show ¬ (_ + 1 = 0); omega)
  · intro h; rw [if_neg h]
theorem dig_none : ∀ (f : Nat) (v : Int32) (s : PSt), s.2.1 = none → (digP bt n f v s).2.2.2.1 = none
  | 0, _, _, h => h
  | f + 1, v, s, h => by
    rw [digP]
    split
    · exact dig_none f _ _ h
    · exact h
theorem ps_eq {s : PSt} (h : s.2.1 = none) : s = (s.1, none, s.2.2) := Prod.ext rfl (Prod.ext h rfl)
theorem sim_leaf {k : Nat} {s : PSt} {w stk : List Int32} {j br : Nat} (hO : OKs n k s) (hk : ∀ x r, stk = x :: r → x ≠ nI 33) (hno : ¬ (hereP bt n s = nI 33 ∨ hereP bt n s = nI 40)) :
  ((leafP bt n u s).2.2.1 = none → RchQ bt n u (w, List.replicate j (nI 33) ++ stk, s.1, s.2.2, br, true) (w ++ (leafP bt n u s).1 ++ List.replicate j (-33), stk, (leafP bt n u s).2.1, s.2.2 - j, br, false)) ∧
  (∀ p, (leafP bt n u s).2.2.1 = some p → FailQ bt n u (w, List.replicate j (nI 33) ++ stk, s.1, s.2.2, br, true) p) := by
  unfold leafP
  cases hq : nameP u (hereP bt n s) with
  | some i =>
    obtain ⟨t1, t2⟩ := hereP_lt (c := hereP bt n s) rfl (name_ne hq)
    have hb : hereP bt n s = bt s.1 := here_bt t1 t2
    rw [hb] at hq hno
    refine ⟨fun _ => ?_, fun p hp => ?_⟩
    · refine RchQ.s t1 ?_
      show opdQ bt n u _ = _
      unfold opdQ
      rw [if_neg hno]
      show (match nameP u (bt s.1) with | some j_1 => _ | none => _) = _
      rw [hq]
      dsimp only
      rw [bng_all hk]
      rfl
    · have e : (advP s).2.1 = some p := hp
      rw [show (advP s).2.1 = s.2.1 from rfl, hO.2.1] at e; cases e
  | none =>
    dsimp only
    by_cases h0 : (digP bt n 4 (nI 0) s).2.1 = 0
    · rw [if_pos h0]
      have hnd := dig_0.mp h0
      have es : (digP bt n 4 (nI 0) s).2.2 = s := by rw [digP, if_neg hnd]
      refine ⟨fun q => absurd q wrong_some, fun p hp => ?_⟩
      have hp2 : p = s.1 := by
        rw [es] at hp
        have e : (wrongP s).2.1 = some s.1 := by unfold wrongP; rw [hO.2.1]
        rw [e] at hp; exact (Option.some.inj hp).symm
      subst hp2
      refine fail_here rfl ?_
      rcases Nat.lt_or_ge s.1 n with t1 | t1
      · refine Or.inl ⟨t1, ?_⟩
        have hb : hereP bt n s = bt s.1 := here_bt t1 hO.2.1
        rw [hb] at hq hno hnd
        show opdQ bt n u _ = _
        unfold opdQ
        rw [if_neg hno]
        show (match nameP u (bt s.1) with | some j_1 => _ | none => _) = _
        rw [hq]
        dsimp only
        rw [if_neg hnd]
      · exact Or.inr ⟨by have := hO.1; omega, Or.inl rfl⟩
    · rw [if_neg h0]
      have hd : nI 48 ≤ hereP bt n s ∧ hereP bt n s ≤ nI 57 := Classical.byContradiction (fun q => h0 (dig_0.mpr q))
      obtain ⟨t1, t2⟩ := hereP_lt (c := hereP bt n s) rfl (fun e => by rw [e] at hd; exact absurd hd.1 (by decide))
      have hb : hereP bt n s = bt s.1 := here_bt t1 t2
      refine ⟨fun _ => ?_, fun p hp => ?_⟩
      · refine RchQ.s t1 ?_
        show opdQ bt n u _ = _
        rw [hb] at hq hno hd
        unfold opdQ
        rw [if_neg hno]
        show (match nameP u (bt s.1) with | some j_1 => _ | none => _) = _
        rw [hq]
        dsimp only
        rw [if_pos hd, bng_all hk, ← ps_eq t2]
      · have := dig_none (bt := bt) (n := n) 4 (nI 0) s t2
        rw [show (digP bt n 4 (nI 0) s).2.2.2.1 = some p from hp] at this; cases this
theorem lv_1 {b : Int32} : b ∈ [nI 124] ↔ lvQ b = 1 := by
  rw [List.mem_singleton]
  constructor
  · rintro rfl; decide
  · intro h
    unfold lvQ at h
    split at h
    · assumption
    · repeat' split at h
      all_goals omega
theorem lv_2 {b : Int32} : b ∈ [nI 38] ↔ lvQ b = 2 := by
  rw [List.mem_singleton]
  constructor
  · rintro rfl; decide
  · intro h
    unfold lvQ at h
    split at h
    · omega
    · split at h
      · assumption
      · repeat' split at h
        all_goals omega
theorem lv_4 {b : Int32} : b ∈ [nI 43, nI 45] ↔ lvQ b = 4 := by
  simp only [List.mem_cons, List.not_mem_nil, or_false]
  constructor
  · rintro (rfl | rfl) <;> decide
  · intro h
    unfold lvQ at h
    split at h
    · omega
    · split at h
      · omega
      · split at h
        · omega
        · split at h
          · assumption
          · split at h <;> omega
theorem lv_5 {b : Int32} : b ∈ [nI 42, nI 47, nI 37] ↔ lvQ b = 5 := by
  simp only [List.mem_cons, List.not_mem_nil, or_false]
  constructor
  · rintro (rfl | rfl | rfl) <;> decide
  · intro h
    unfold lvQ at h
    split at h
    · omega
    · split at h
      · omega
      · split at h
        · omega
        · split at h
          · omega
          · split at h
            · assumption
            · omega
theorem fol_none {w' pd k : List Int32} {a o br : Nat} (h41 : ¬ bt a = nI 41) (hM : MaxQ 1 (bt a) pd) : folQ bt (w', pd ++ k, a, o, br, false) = none := by
  unfold folQ
  rw [if_neg h41]
  by_cases h0 : lvQ (bt a) = 0
  · rw [if_pos h0]
  · have h5 := lv_le (b := bt a)
    have e1 := hM.1 1 (by omega) (by omega) (by omega) (by omega)
    have e2 := hM.1 2 (by omega) (by omega) (by omega) (by omega)
    have e4 := hM.1 4 (by omega) (by omega) (by omega) (by omega)
    have e5 := hM.1 5 (by omega) (by omega) (by omega) (by omega)
    have h3 : lvQ (bt a) = 3 := by omega
    obtain ⟨p2, x, r, e, q2, q3⟩ := hM.2 (by omega) h3
    have eP : lvP (bt a) = 4 := by unfold lvP; rw [if_pos h3]
    have ep : popQ 4 w' (pd ++ k) = (w' ++ ngL p2, x :: (r ++ k)) := by
      rw [e, List.append_assoc]
      exact pop_some (by omega) q2
    rw [if_neg h0, if_pos]
    refine ⟨h3, ?_⟩
    show lvT (popQ (lvP (bt a)) w' (pd ++ k)).2 = 3
    rw [eP, ep]; exact q3
theorem open_step {w k : List Int32} {a o br : Nat} (ha : a < n) (hb : bt a = nI 33 ∨ bt a = nI 40) (ho : o < 5) : RchQ bt n u (w, k, a, o, br, true) (w, bt a :: k, a + 1, o + 1, br + (if bt a = nI 40 then 1 else 0), true) := by
  refine RchQ.s ha ?_
  show opdQ bt n u _ = _
  unfold opdQ
  rw [if_pos hb, if_neg (by show ¬ 5 ≤ o; omega)]
theorem close_step {w' pd k wc : List Int32} {a o br j : Nat} (ha : a < n) (hb : bt a = nI 41) (hp : ∀ y ∈ pd, 1 ≤ lvQ y) (hw : w' ++ ngL pd = wc) (hk : ∀ x r, k = x :: r → x ≠ nI 33) : RchQ bt n u (w', pd ++ nI 40 :: (List.replicate j (nI 33) ++ k), a, o + 1, br + 1, false) (wc ++ List.replicate j (-33), k, a + 1, o - j, br, false) := by
  refine RchQ.s ha ?_
  show folQ bt _ = _
  have ep : popQ 1 w' (pd ++ nI 40 :: (List.replicate j (nI 33) ++ k)) = (wc, nI 40 :: (List.replicate j (nI 33) ++ k)) := by
    rw [pop_all (fun x r e => by cases e; exact ⟨by decide, by decide⟩) hp, hw]
  unfold folQ
  rw [if_pos hb, if_neg (by show ¬ br + 1 = 0; omega)]
  show some ((bngQ (popQ 1 w' (pd ++ nI 40 :: (List.replicate j (nI 33) ++ k))).1 (popQ 1 w' (pd ++ nI 40 :: (List.replicate j (nI 33) ++ k))).2.tail (o + 1 - 1)).1, (bngQ (popQ 1 w' (pd ++ nI 40 :: (List.replicate j (nI 33) ++ k))).1 (popQ 1 w' (pd ++ nI 40 :: (List.replicate j (nI 33) ++ k))).2.tail (o + 1 - 1)).2.1, a + 1, (bngQ (popQ 1 w' (pd ++ nI 40 :: (List.replicate j (nI 33) ++ k))).1 (popQ 1 w' (pd ++ nI 40 :: (List.replicate j (nI 33) ++ k))).2.tail (o + 1 - 1)).2.2, br + 1 - 1, false) = _
  rw [ep, List.tail_cons, Nat.add_sub_cancel, bng_all hk, Nat.add_sub_cancel]
theorem sim_either {k : Nat} {U : PF} (hn : n ≤ 50) (hU : SimU bt n u k U) (hG : Good n k U) : SimQ bt n u 1 k (eitherP bt n U) := by
  have h5 : SimQ bt n u 5 k (prodP bt n U) := sim_row hn (by omega) (by omega) (fun _ => lv_5) (sim_6 hU) hG
  have g5 : Good n k (prodP bt n U) := row_good hG (by decide)
  have h4 : SimQ bt n u 4 k (sumP bt n U) := sim_row hn (by omega) (by omega) (fun _ => lv_4) h5 g5
  have g4 : Good n k (sumP bt n U) := row_good g5 (by decide)
  have h3 := sim_cmp h4 g4
  have g3 := cmp_good (bt := bt) g4
  have h2 : SimQ bt n u 2 k (bothP bt n U) := sim_row hn (by omega) (by omega) (fun _ => lv_2) h3 g3
  have g2 : Good n k (bothP bt n U) := row_good g3 (by decide)
  exact sim_row hn (by omega) (by omega) (fun _ => lv_1) h2 g2
theorem sim_unit (hn : n ≤ 50) : ∀ k, SimU bt n u k (unitP bt n u k)
  | 0 => by
    intro s w stk j br hO hk
    rw [unitP]
    by_cases q : hereP bt n s = nI 33 ∨ hereP bt n s = nI 40
    · rw [if_pos q]
      obtain ⟨t1, t2⟩ := hereP_lt (c := hereP bt n s) rfl (fun e => by rw [e] at q; exact absurd q (by decide))
      refine ⟨fun q2 => absurd q2 wrong_some, fun p hp => ?_⟩
      have e : (wrongP s).2.1 = some s.1 := by unfold wrongP; rw [hO.2.1]
      have hp : (wrongP s).2.1 = some p := hp
      rw [e] at hp
      cases hp
      refine fail_here rfl (Or.inl ⟨t1, ?_⟩)
      rw [here_bt t1 t2] at q
      show opdQ bt n u _ = _
      unfold opdQ
      rw [if_pos q, if_pos (by show 5 ≤ s.2.2; have := hO.2.2; omega)]
    · rw [if_neg q]; exact sim_leaf hO hk q
  | k + 1 => by
    intro s w stk j br hO hk
    have ih := sim_unit hn k
    have gU := unit_good (bt := bt) (n := n) (u := u) k
    have key : ∀ c : Int32, c ≠ (-1) → hereP bt n s = c → s.1 < n ∧ s.2.1 = none ∧ OKs n k (advP (openP s)) := fun c hc e => by
      obtain ⟨h1, h2⟩ := hereP_lt e hc
      exact ⟨h1, h2, h1, h2, by show s.2.2 + 1 + k = 5; have := hO.2.2; omega⟩
    have ho5 : s.2.2 < 5 := by have := hO.2.2; omega
    rw [unitP]
    by_cases q : hereP bt n s = nI 40
    · rw [if_pos q]
      obtain ⟨t1, t2, O2⟩ := key _ (by decide) q
      have hb : bt s.1 = nI 40 := (here_bt t1 t2).symm.trans q
      have R1 := open_step (bt := bt) (n := n) (u := u) (w := w) (k := List.replicate j (nI 33) ++ stk) (br := br) t1 (Or.inr hb) ho5
      rw [hb, if_pos rfl] at R1
      obtain ⟨g1, g2⟩ := sim_either hn ih gU (advP (openP s)) w (nI 40 :: (List.replicate j (nI 33) ++ stk)) (br + 1) O2 (fun x r e => by cases e; exact ⟨by decide, by decide⟩)
      have e1 : (advP (openP s)).1 = s.1 + 1 := rfl
      have e2 : (advP (openP s)).2.2 = s.2.2 + 1 := rfl
      rw [e1, e2] at g1 g2
      generalize hE : eitherP bt n (unitP bt n u k) (advP (openP s)) = E at *
      have GE : GP n (advP (openP s)) E.2 := by rw [← hE]; exact either_good gU _ O2
      cases hf : E.2.2.1 with
      | some p0 =>
        have hne : ¬ hereP bt n E.2 = nI 41 := fun e => by
          have := (hereP_lt e (by decide)).2
          rw [hf] at this; cases this
        rw [if_neg hne]
        refine ⟨fun q2 => absurd q2 wrong_some, fun p hp => ?_⟩
        have e3 : (wrongP E.2).2.1 = some p0 := by unfold wrongP; rw [hf]
        have hp : (wrongP E.2).2.1 = some p := hp
        rw [e3] at hp; cases hp
        exact FailQ.t R1 (g2 p0 hf)
      | none =>
        obtain ⟨w2, pd, R2, a1, a2, a3⟩ := g1 hf
        by_cases q2 : hereP bt n E.2 = nI 41
        · rw [if_pos q2]
          obtain ⟨u1, u2'⟩ := hereP_lt q2 (by decide)
          have hb2 : bt E.2.1 = nI 41 := (here_bt u1 u2').symm.trans q2
          refine ⟨fun _ => ?_, fun p hp => ?_⟩
          · exact (R1.t R2).t (close_step (o := s.2.2) u1 hb2 a1 a2 hk)
          · have hp : E.2.2.1 = some p := hp
            rw [hf] at hp; cases hp
        · rw [if_neg q2]
          refine ⟨fun q3 => absurd q3 wrong_some, fun p hp => ?_⟩
          have e3 : (wrongP E.2).2.1 = some E.2.1 := by unfold wrongP; rw [hf]
          have hp : (wrongP E.2).2.1 = some p := hp
          rw [e3] at hp; cases hp
          refine FailQ.t (R1.t R2) (fail_here rfl ?_)
          rcases Nat.lt_or_ge E.2.1 n with v1 | v1
          · refine Or.inl ⟨v1, ?_⟩
            have hb2 : hereP bt n E.2 = bt E.2.1 := here_bt v1 hf
            rw [hb2] at q2 a3
            exact fol_none q2 a3
          · exact Or.inr ⟨by have := GE.2.1; omega, Or.inr (by show 0 < br + 1; omega)⟩
    · rw [if_neg q]
      by_cases q3 : hereP bt n s = nI 33
      · rw [if_pos q3]
        obtain ⟨t1, t2, O2⟩ := key _ (by decide) q3
        have hb : bt s.1 = nI 33 := (here_bt t1 t2).symm.trans q3
        have R1 := open_step (bt := bt) (n := n) (u := u) (w := w) (k := List.replicate j (nI 33) ++ stk) (br := br) t1 (Or.inl hb) ho5
        rw [hb, if_neg (by decide)] at R1
        obtain ⟨g1, g2⟩ := ih (advP (openP s)) w stk (j + 1) br O2 hk
        have e1 : (advP (openP s)).1 = s.1 + 1 := rfl
        have e2 : (advP (openP s)).2.2 = s.2.2 + 1 := rfl
        rw [e1, e2, List.replicate_succ, List.cons_append] at g1 g2
        rw [Nat.add_zero] at R1
        refine ⟨fun hn2 => ?_, fun p hp => FailQ.t R1 (g2 p hp)⟩
        have R2 := R1.t (g1 hn2)
        rw [show s.2.2 + 1 - (j + 1) = s.2.2 - j by omega, List.replicate_succ] at R2
        show RchQ bt n u _ (w ++ ((unitP bt n u k (advP (openP s))).1 ++ [(-33)]) ++ List.replicate j (-33), stk, (unitP bt n u k (advP (openP s))).2.1, s.2.2 - j, br, false)
        have e3 : w ++ ((unitP bt n u k (advP (openP s))).1 ++ [(-33)]) ++ List.replicate j (-33) = w ++ (unitP bt n u k (advP (openP s))).1 ++ ((-33) :: List.replicate j (-33)) := by simp only [List.append_assoc, List.cons_append, List.nil_append]
        rw [e3]; exact R2
      · rw [if_neg q3]; exact sim_leaf hO hk (by rintro (e | e); exact q3 e; exact q e)
/-- the start -/
def xQ0 : QS := ([], [], 0, 0, 0, true)
theorem read_sim (hn : n ≤ 50) : ((parseE bt n u).2.2.1 = none → ∃ w' pd, RchQ bt n u xQ0 (w', pd ++ [], (parseE bt n u).2.1, 0, 0, false) ∧ (∀ y ∈ pd, 1 ≤ lvQ y) ∧ w' ++ ngL pd = [] ++ (parseE bt n u).1 ∧ MaxQ 1 (hereP bt n (parseE bt n u).2) pd) ∧ (∀ p, (parseE bt n u).2.2.1 = some p → FailQ bt n u xQ0 p) :=
  sim_either hn (sim_unit hn 5) (unit_good 5) (0, none, 0) [] [] 0 ⟨Nat.zero_le _, rfl, rfl⟩ (fun x r e => by cases e)
theorem parse_le : (parseE bt n u).2.1 ≤ n := (either_good (bt := bt) (n := n) (unit_good (bt := bt) (n := n) (u := u) 5) (0, none, 0) ⟨Nat.zero_le _, rfl, rfl⟩).2.1
theorem read_fault (hn : n ≤ 50) {p : Nat} (h : faultP bt n u = some p) : FailQ bt n u xQ0 p := by
  obtain ⟨g1, g2⟩ := read_sim (bt := bt) (n := n) (u := u) hn
  unfold faultP at h
  split at h
  · rename_i q
    cases h
    obtain ⟨w', pd, R, a1, a2, a3⟩ := g1 q.1
    refine FailQ.t R (fail_here rfl (Or.inl ⟨q.2, ?_⟩))
    rw [here_bt q.2 q.1] at a3
    show folQ bt _ = none
    by_cases e : bt (parseE bt n u).2.1 = nI 41
    · unfold folQ; rw [if_pos e, if_pos rfl]
    · exact fol_none e a3
  · exact g2 p h
theorem read_good (hn : n ≤ 50) (h : faultP bt n u = none) : ∃ w' pd, RchQ bt n u xQ0 (w', pd, n, 0, 0, false) ∧ popQ 1 w' pd = ((parseE bt n u).1, []) := by
  obtain ⟨g1, -⟩ := read_sim (bt := bt) (n := n) (u := u) hn
  have hle := parse_le (bt := bt) (n := n) (u := u)
  unfold faultP at h
  split at h
  · cases h
  · rename_i q
    obtain ⟨w', pd, R, a1, a2, a3⟩ := g1 h
    have e : (parseE bt n u).2.1 = n := by
      rcases Nat.lt_or_ge (parseE bt n u).2.1 n with v | v
      · exact absurd ⟨h, v⟩ q
      · omega
    rw [e, List.append_nil] at R
    refine ⟨w', pd, R, ?_⟩
    have := pop_all (l := 1) (k := []) (fun x r e => by cases e) (w := w') a1
    rw [List.append_nil] at this
    rw [this, a2, List.nil_append]
/-! what holds on the way -/
def c33 (k : List Int32) : Nat := (k.filter (fun x => x == nI 33)).length
def WfQ (n : Nat) (x : QS) : Prop := x.1.length + x.2.1.length ≤ x.2.2.1 ∧ x.2.2.1 ≤ n ∧ x.2.2.2.2.1 + c33 x.2.1 ≤ x.2.2.2.1 ∧ x.2.2.2.1 ≤ 5
end RQ
