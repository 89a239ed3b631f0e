/-! a TEXT without a fault comes to one number, by its own names alone -/
def GC (u : Nat) (c : List Int32) : Prop := ∃ f : (Nat → Int32) → Int32, (∀ nm st, runL c nm st = f nm :: st) ∧ ∀ nm nm' : Nat → Int32, (∀ k, k < nnU u → nm k = nm' k) → f nm = f nm'
theorem GC.num {u a : Nat} (ha : a < 10000) : GC u [nI a] := ⟨fun _ => nI a, fun _ _ => run_num ha, fun _ _ _ => rfl⟩
theorem GC.name {u j : Nat} (hj : j < nnU u) : GC u [(-1) - nI j] := ⟨fun nm => nm j, fun _ _ => run_name (Nat.lt_of_lt_of_le hj nn_le), fun _ _ h => h j hj⟩
theorem GC.on {u : Nat} {a b : List Int32} {c : Int32} (hc : c ∈ [nI 38, nI 42, nI 43, nI 45, nI 47, nI 60, nI 61, nI 62, nI 124, nI 37]) (A : GC u a) (B : GC u b) : GC u (a ++ b ++ [-c]) := by
  obtain ⟨f, f1, f2⟩ := A
  obtain ⟨g, g1, g2⟩ := B
  exact ⟨fun nm => joinR c (f nm) (g nm), fun nm st => val_on hc (f1 nm) (g1 nm) rfl st, fun nm nm' h => by show joinR c (f nm) (g nm) = joinR c (f nm') (g nm'); rw [f2 nm nm' h, g2 nm nm' h]⟩
theorem GC.bang {u : Nat} {a : List Int32} (A : GC u a) : GC u (a ++ [(-33)]) := by
  obtain ⟨f, f1, f2⟩ := A
  exact ⟨fun nm => b2i (f nm = 0), fun nm st => by rw [runL_app, f1, run_bang], fun nm nm' h => by show b2i (f nm = 0) = b2i (f nm' = 0); rw [f2 nm nm' h]⟩
theorem GC.tok {u : Nat} {c : List Int32} (A : GC u c) : (∀ nm, runL c nm [] = [evalR c nm]) ∧ ∀ nm nm' : Nat → Int32, (∀ k, k < nnU u → nm k = nm' k) → evalR c nm = evalR c nm' := by
  obtain ⟨f, f1, f2⟩ := A
  have e : ∀ nm, evalR c nm = f nm := fun nm => by unfold evalR; rw [f1]; rfl
  exact ⟨fun nm => by rw [e, f1], fun nm nm' h => by rw [e, e]; exact f2 nm nm' h⟩
def FG (n k u : Nat) (F : PF) : Prop := Good n k F ∧ ∀ s, OKs n k s → (F s).2.2.1 = none → GC u (F s).1
theorem loop_gc {bt : Nat → Int32} {n k u : Nat} {ops : List Int32} {F : PF} (hF : FG n k u F) (hops : ∀ c ∈ ops, c ∈ [nI 38, nI 42, nI 43, nI 45, nI 47, nI 60, nI 61, nI 62, nI 124, nI 37]) (hm : (-1) ∉ ops) {s : PSt} (H : OKs n k s) : ∀ (f : Nat) (c : List Int32) (t : PSt), GP n s t → (t.2.1 = none → GC u c) → (loopP bt n ops F f c t).2.2.1 = none → GC u (loopP bt n ops F f c t).1
  | 0, c, t, _, hc, e => hc e
  | f + 1, c, t, G, hc, e => by
    by_cases q : hereP bt n t ∈ ops
    · rw [loop_on q] at e ⊢
      obtain ⟨h1, h2⟩ := hereP_lt (c := hereP bt n t) rfl (fun e => hm (e ▸ q))
      have Ht := (H.on G h2).adv h1
      have G1 := hF.1 _ Ht
      refine loop_gc hF hops hm H f _ _ (G.tr h2 ((GP.adv (H.on G h2) h1).tr h2 G1)) (fun e1 => ?_) e
      exact GC.on (hops _ q) (hc h2) (hF.2 _ Ht e1)
    · rw [loop_off q] at e ⊢
      exact hc e
theorem row_gc {bt : Nat → Int32} {n k u : Nat} {ops : List Int32} {F : PF} (hF : FG n k u F) (hops : ∀ c ∈ ops, c ∈ [nI 38, nI 42, nI 43, nI 45, nI 47, nI 60, nI 61, nI 62, nI 124, nI 37]) (hm : (-1) ∉ ops) : FG n k u (rowP bt n ops F) :=
  ⟨row_good hF.1 hm, fun s H e => loop_gc hF hops hm H 52 _ _ (hF.1 s H) (fun e1 => hF.2 s H e1) e⟩
theorem cmp_gc {bt : Nat → Int32} {n k u : Nat} {F : PF} (hF : FG n k u F) : FG n k u (cmpP bt n F) := by
  refine ⟨cmp_good hF.1, fun s H e => ?_⟩
  unfold cmpP at e ⊢
  by_cases q : hereP bt n (F s).2 ∈ [nI 60, nI 61, nI 62]
  · rw [if_pos q] at e ⊢
    obtain ⟨h1, h2⟩ := hereP_lt (c := hereP bt n (F s).2) rfl (fun e => absurd (e ▸ q) (by decide))
    have Ht := (H.on (hF.1 s H) h2).adv h1
    exact GC.on ((by decide : ∀ c ∈ [nI 60, nI 61, nI 62], c ∈ [nI 38, nI 42, nI 43, nI 45, nI 47, nI 60, nI 61, nI 62, nI 124, nI 37]) _ q) (hF.2 s H h2) (hF.2 _ Ht e)
  · rw [if_neg q] at e ⊢
    exact hF.2 s H e
theorem either_gc {bt : Nat → Int32} {n k u : Nat} {U : PF} (hU : FG n k u U) : FG n k u (eitherP bt n U) := row_gc (row_gc (cmp_gc (row_gc (row_gc hU (by decide) (by decide)) (by decide) (by decide))) (by decide) (by decide)) (by decide) (by decide)
theorem leaf_gc {bt : Nat → Int32} {n k u : Nat} : FG n k u (leafP bt n u) := by
  refine ⟨leaf_good, fun s H e => ?_⟩
  unfold leafP at e ⊢
  cases q : nameP u (hereP bt n s) with
  | some j => exact GC.name (name_lt q)
  | none =>
    rw [q] at e
    dsimp only at e ⊢
    by_cases q2 : (digP bt n 4 (nI 0) s).2.1 = 0
    · rw [if_pos q2] at e; exact absurd e wrong_some
    · rw [if_neg q2]
      obtain ⟨a, ha, e2⟩ := dig_val (bt := bt) (n := n) 4 0 (nI 0) s (by omega) ⟨0, by decide, rfl⟩
      rw [e2]; exact GC.num ha
theorem unit_gc {bt : Nat → Int32} {n u : Nat} : ∀ k, FG n k u (unitP bt n u k)
  | 0 => by
    refine ⟨unit_good 0, fun s H e => ?_⟩
    rw [unitP] at e ⊢
    by_cases q : hereP bt n s = nI 33 ∨ hereP bt n s = nI 40
    · rw [if_pos q] at e; exact absurd e wrong_some
    · rw [if_neg q] at e ⊢; exact leaf_gc.2 s H e
  | k + 1 => by
    refine ⟨unit_good (k + 1), fun s H e => ?_⟩
    have ih := unit_gc (bt := bt) (n := n) (u := u) k
    have key : ∀ c : Int32, c ≠ (-1) → hereP bt n s = c → OKs n k (advP (openP s)) := fun c hc e => by
      obtain ⟨h1, h2⟩ := hereP_lt e hc
      exact ⟨h1, h2, by show s.2.2 + 1 + k = 5; have := H.2.2; omega⟩
    rw [unitP] at e ⊢
    by_cases q : hereP bt n s = nI 40
    · rw [if_pos q] at e ⊢
      by_cases q2 : hereP bt n (eitherP bt n (unitP bt n u k) (advP (openP s))).2 = nI 41
      · rw [if_pos q2] at e ⊢
        exact (either_gc ih).2 _ (key _ (by decide) q) (hereP_lt q2 (by decide)).2
      · rw [if_neg q2] at e; exact absurd e wrong_some
    · rw [if_neg q] at e ⊢
      by_cases q3 : hereP bt n s = nI 33
      · rw [if_pos q3] at e ⊢
        exact (ih.2 _ (key _ (by decide) q3) e).bang
      · rw [if_neg q3] at e ⊢
        exact leaf_gc.2 s H e
theorem parse_gc {bt : Nat → Int32} {n u : Nat} (h : faultP bt n u = none) : GC u (parseE bt n u).1 := by
  have e : (parseE bt n u).2.2.1 = none := by
    unfold faultP at h
    by_cases q : (parseE bt n u).2.2.1 = none ∧ (parseE bt n u).2.1 < n
    · exact q.1
    · rw [if_neg q] at h; exact h
  exact (either_gc (unit_gc 5)).2 _ ⟨Nat.zero_le _, rfl, rfl⟩ e
/-- nothing read: a fault -/
theorem loop_stay {bt : Nat → Int32} {n : Nat} {ops : List Int32} {F : PF} (hm : (-1) ∉ ops) {c : List Int32} {t : PSt} (h : hereP bt n t = (-1)) : ∀ f, loopP bt n ops F f c t = (c, t)
  | 0 => rfl
  | _ + 1 => loop_off (by rw [h]; exact hm)
theorem here_wrong {bt : Nat → Int32} {n : Nat} {s : PSt} : hereP bt n (wrongP s) = (-1) := if_neg (fun q => wrong_some q.2)
def WF0 (bt : Nat → Int32) (n : Nat) (F : PF) : Prop := ∀ s, hereP bt n s = (-1) → (F s).2 = wrongP s
theorem row_w {bt : Nat → Int32} {n : Nat} {ops : List Int32} {F : PF} (hF : WF0 bt n F) (hm : (-1) ∉ ops) : WF0 bt n (rowP bt n ops F) := fun s h => by
  unfold rowP
  rw [hF s h, loop_stay hm here_wrong]
theorem cmp_w {bt : Nat → Int32} {n : Nat} {F : PF} (hF : WF0 bt n F) : WF0 bt n (cmpP bt n F) := fun s h => by
  unfold cmpP
  rw [if_neg (by rw [hF s h, here_wrong]; decide), hF s h]
theorem unit_w {bt : Nat → Int32} {n u : Nat} : WF0 bt n (unitP bt n u 5) := fun s h => by
  have hn : nameP u (hereP bt n s) = none := by
    cases q : nameP u (hereP bt n s) with
    | none => rfl
    | some j => exact absurd h (name_ne q)
  have hd : digP bt n 4 (nI 0) s = (nI 0, 0, s) := by
    rw [digP, if_neg (by rw [h]; decide)]
  rw [unitP, if_neg (by rw [h]; decide), if_neg (by rw [h]; decide)]
  unfold leafP
  rw [hn, hd]
  rfl
theorem fault_0 {bt : Nat → Int32} {u : Nat} : faultP bt 0 u ≠ none := by
  have e : (parseE bt 0 u).2 = wrongP (0, none, 0) := (row_w (row_w (cmp_w (row_w (row_w unit_w (by decide)) (by decide))) (by decide)) (by decide)) (0, none, 0) (if_neg (fun q => absurd q.1 (Nat.lt_irrefl _)))
  unfold faultP
  rw [e, if_neg (fun q => absurd q.2 (Nat.not_lt_zero _))]
  exact wrong_some
theorem first_gc : ∀ u, u < 3 → GC u (firstR u) := by
  intro u hu
  obtain rfl | rfl | rfl : u = 0 ∨ u = 1 ∨ u = 2 := by omega
  · exact GC.on (c := nI 62) (by decide) (GC.on (c := nI 43) (by decide) (GC.name (u := 0) (j := 0) (by decide)) (GC.name (j := 1) (by decide))) (GC.num (a := 99) (by decide))
  · exact GC.on (c := nI 43) (by decide) (GC.on (c := nI 42) (by decide) (GC.name (u := 1) (j := 1) (by decide)) (GC.num (a := 3) (by decide))) (GC.on (c := nI 42) (by decide) (GC.on (c := nI 62) (by decide) (GC.name (j := 2) (by decide)) (GC.num (a := 50) (by decide))) (GC.num (a := 3) (by decide)))
  · exact GC.on (c := nI 45) (by decide) (GC.name (u := 2) (j := 0) (by decide)) (GC.on (c := nI 47) (by decide) (GC.name (j := 0) (by decide)) (GC.num (a := 30) (by decide)))
theorem TOK.first : TOK firstR := fun u hu => (first_gc u hu).tok
theorem TOK.new {τ : Nat → List Int32} (H : TOK τ) {j : Nat} {c : List Int32} (h : GC j c) : TOK (fun v => if v = j then c else τ v) := fun u hu => by
  by_cases e : u = j
  · subst e
    simp only [if_true]
    exact h.tok
  · simp only [if_neg e]
    exact H u hu

/-! a state told over other class places -/
def pt (c s : Mm) : Mm := fun a => if a < 118 then c a else s a
def Pm (c : Mm) (r : Rs) : Rs := (r.1, pt c r.2)
theorem pt_lo {c s : Mm} {a : Nat} (h : a < 118) : pt c s a = c a := if_pos h
theorem pt_hi {c s : Mm} {a : Nat} (h : 118 ≤ a) : pt c s a = s a := if_neg (by omega)
theorem pt_118 {c s : Mm} : pt c s 118 = s 118 := rfl
theorem pt_119 {c s : Mm} : pt c s 119 = s 119 := rfl
theorem pt_121 {c s : Mm} : pt c s 121 = s 121 := rfl
theorem pt_122 {c s : Mm} : pt c s 122 = s 122 := rfl
theorem pt_127 {c s : Mm} : pt c s 127 = s 127 := rfl
theorem pt_128 {c s : Mm} : pt c s 128 = s 128 := rfl
theorem pt_129 {c s : Mm} : pt c s 129 = s 129 := rfl
theorem pt_130 {c s : Mm} : pt c s 130 = s 130 := rfl
theorem pt_rw {c s : Mm} {a : Nat} {f : Nat → Int32} (h : 118 ≤ a) : rw2 (pt c s) a f = pt c (rw2 s a f) := by
  funext x
  by_cases e : x = a
  · subst e; rw [rw2_at, pt_hi h, rw2_at]
  · rw [rw2_off e]
    by_cases l : x < 118
    · rw [pt_lo l, pt_lo l]
    · rw [pt_hi (by omega), pt_hi (by omega), rw2_off e]
theorem pt_u2 {c s : Mm} {a k : Nat} {v : Int32} (h : 118 ≤ a) : u2 (pt c s) a k v = pt c (u2 s a k v) := by
  rw [u2_rw, u2_rw, pt_rw h, pt_hi h]
theorem pt_er {c s : Mm} {k : Nat} : er (pt c s) k = Pm c (er s k) := by
  show (_, u2 (pt c s) 122 k _) = (_, pt c (u2 s 122 k _))
  rw [pt_u2 (by omega)]; rfl
theorem pm_ite {c : Mm} {p : Prop} {a b a' b' : Rs} (h1 : a' = Pm c a) (h2 : b' = Pm c b) : @ite _ p (Classical.propDecidable _) a' b' = Pm c (@ite _ p (Classical.propDecidable _) a b) := by
  by_cases q : p
  · rw [@if_pos _ (Classical.propDecidable _) q, @if_pos _ (Classical.propDecidable _) q]; exact h1
  · rw [@if_neg _ (Classical.propDecidable _) q, @if_neg _ (Classical.propDecidable _) q]; exact h2
theorem pm_s {c s : Mm} {v : Int32} : ((v, pt c s) : Rs) = Pm c (v, s) := rfl
theorem pm_u {c s : Mm} {v w : Int32} {a k : Nat} (h : 118 ≤ a) : ((v, u2 (pt c s) a k w) : Rs) = Pm c (v, u2 s a k w) := by rw [pt_u2 h]; rfl
theorem pm_r {c s : Mm} {v : Int32} {a : Nat} {f : Nat → Int32} (h : 118 ≤ a) : ((v, rw2 (pt c s) a f) : Rs) = Pm c (v, rw2 s a f) := by rw [pt_rw h]; rfl
theorem pm_uu {c s : Mm} {v w w2 : Int32} {a k a2 k2 : Nat} (h : 118 ≤ a) (h2 : 118 ≤ a2) : ((v, u2 (u2 (pt c s) a k w) a2 k2 w2) : Rs) = Pm c (v, u2 (u2 s a k w) a2 k2 w2) := by rw [pt_u2 h, pt_u2 h2]; rfl
theorem pm_uuu {c s : Mm} {v w w2 w3 : Int32} {a k a2 k2 a3 k3 : Nat} (h : 118 ≤ a) (h2 : 118 ≤ a2) (h3 : 118 ≤ a3) : ((v, u2 (u2 (u2 (pt c s) a k w) a2 k2 w2) a3 k3 w3) : Rs) = Pm c (v, u2 (u2 (u2 s a k w) a2 k2 w2) a3 k3 w3) := by rw [pt_u2 h, pt_u2 h2, pt_u2 h3]; rfl
theorem pm_uur {c s : Mm} {v w w2 : Int32} {a k a2 k2 a3 : Nat} {f : Nat → Int32} (h : 118 ≤ a) (h2 : 118 ≤ a2) (h3 : 118 ≤ a3) : ((v, rw2 (u2 (u2 (pt c s) a k w) a2 k2 w2) a3 f) : Rs) = Pm c (v, rw2 (u2 (u2 s a k w) a2 k2 w2) a3 f) := by rw [pt_u2 h, pt_u2 h2, pt_rw h3]; rfl
theorem pm_ru {c s : Mm} {v w : Int32} {a a2 k2 : Nat} {f : Nat → Int32} (h : 118 ≤ a) (h2 : 118 ≤ a2) : ((v, u2 (rw2 (pt c s) a f) a2 k2 w) : Rs) = Pm c (v, u2 (rw2 s a f) a2 k2 w) := by rw [pt_rw h, pt_u2 h2]; rfl

theorem pY_set {cM s : Mm} (w v : Int32) : Y_set (pt cM s) w v = Pm cM (Y_set s w v) := by
  unfold Y_set
  try rw [pt_118 (c := cM) (s := s)]
  try rw [pt_119 (c := cM) (s := s)]
  try rw [pt_121 (c := cM) (s := s)]
  try rw [pt_122 (c := cM) (s := s)]
  try rw [pt_127 (c := cM) (s := s)]
  try rw [pt_128 (c := cM) (s := s)]
  try rw [pt_129 (c := cM) (s := s)]
  try rw [pt_130 (c := cM) (s := s)]
  repeat' (with_reducible refine pm_ite ?_ ?_)
  all_goals (first | with_reducible exact pt_er | with_reducible exact pm_s | with_reducible refine pm_u ?_ | with_reducible refine pm_r ?_ | with_reducible refine pm_uu ?_ ?_ | with_reducible refine pm_uuu ?_ ?_ ?_ | with_reducible refine pm_uur ?_ ?_ ?_ | with_reducible refine pm_ru ?_ ?_)
  all_goals decide

theorem pY_ofWay {cM s : Mm} (w k : Int32) : Y_ofWay (pt cM s) w k = Pm cM (Y_ofWay s w k) := by
  unfold Y_ofWay
  try rw [pt_118 (c := cM) (s := s)]
  try rw [pt_119 (c := cM) (s := s)]
  try rw [pt_121 (c := cM) (s := s)]
  try rw [pt_122 (c := cM) (s := s)]
  try rw [pt_127 (c := cM) (s := s)]
  try rw [pt_128 (c := cM) (s := s)]
  try rw [pt_129 (c := cM) (s := s)]
  try rw [pt_130 (c := cM) (s := s)]
  repeat' (with_reducible refine pm_ite ?_ ?_)
  all_goals (first | with_reducible exact pt_er | with_reducible exact pm_s | with_reducible refine pm_u ?_ | with_reducible refine pm_r ?_ | with_reducible refine pm_uu ?_ ?_ | with_reducible refine pm_uuu ?_ ?_ ?_ | with_reducible refine pm_uur ?_ ?_ ?_ | with_reducible refine pm_ru ?_ ?_)
  all_goals decide

theorem pY_wear {cM s : Mm} (w k v : Int32) : Y_wear (pt cM s) w k v = Pm cM (Y_wear s w k v) := by
  unfold Y_wear
  try rw [pt_118 (c := cM) (s := s)]
  try rw [pt_119 (c := cM) (s := s)]
  try rw [pt_121 (c := cM) (s := s)]
  try rw [pt_122 (c := cM) (s := s)]
  try rw [pt_127 (c := cM) (s := s)]
  try rw [pt_128 (c := cM) (s := s)]
  try rw [pt_129 (c := cM) (s := s)]
  try rw [pt_130 (c := cM) (s := s)]
  repeat' (with_reducible refine pm_ite ?_ ?_)
  all_goals (first | with_reducible exact pt_er | with_reducible exact pm_s | with_reducible refine pm_u ?_ | with_reducible refine pm_r ?_ | with_reducible refine pm_uu ?_ ?_ | with_reducible refine pm_uuu ?_ ?_ ?_ | with_reducible refine pm_uur ?_ ?_ ?_ | with_reducible refine pm_ru ?_ ?_)
  all_goals decide

theorem pY_as {cM s : Mm} (w k : Int32) : Y_as (pt cM s) w k = Pm cM (Y_as s w k) := by
  unfold Y_as
  try rw [pt_118 (c := cM) (s := s)]
  try rw [pt_119 (c := cM) (s := s)]
  try rw [pt_121 (c := cM) (s := s)]
  try rw [pt_122 (c := cM) (s := s)]
  try rw [pt_127 (c := cM) (s := s)]
  try rw [pt_128 (c := cM) (s := s)]
  try rw [pt_129 (c := cM) (s := s)]
  try rw [pt_130 (c := cM) (s := s)]
  repeat' (with_reducible refine pm_ite ?_ ?_)
  all_goals (first | with_reducible exact pt_er | with_reducible exact pm_s | with_reducible refine pm_u ?_ | with_reducible refine pm_r ?_ | with_reducible refine pm_uu ?_ ?_ | with_reducible refine pm_uuu ?_ ?_ ?_ | with_reducible refine pm_uur ?_ ?_ ?_ | with_reducible refine pm_ru ?_ ?_)
  all_goals decide

theorem pY_mend {cM s : Mm} (w : Int32) : Y_mend (pt cM s) w = Pm cM (Y_mend s w) := by
  unfold Y_mend
  try rw [pt_118 (c := cM) (s := s)]
  try rw [pt_119 (c := cM) (s := s)]
  try rw [pt_121 (c := cM) (s := s)]
  try rw [pt_122 (c := cM) (s := s)]
  try rw [pt_127 (c := cM) (s := s)]
  try rw [pt_128 (c := cM) (s := s)]
  try rw [pt_129 (c := cM) (s := s)]
  try rw [pt_130 (c := cM) (s := s)]
  repeat' (with_reducible refine pm_ite ?_ ?_)
  all_goals (first | with_reducible exact pt_er | with_reducible exact pm_s | with_reducible refine pm_u ?_ | with_reducible refine pm_r ?_ | with_reducible refine pm_uu ?_ ?_ | with_reducible refine pm_uuu ?_ ?_ ?_ | with_reducible refine pm_uur ?_ ?_ ?_ | with_reducible refine pm_ru ?_ ?_)
  all_goals decide

theorem pY_thing {cM s : Mm} (f g : Int32) : Y_thing (pt cM s) f g = Pm cM (Y_thing s f g) := by
  unfold Y_thing
  try rw [pt_118 (c := cM) (s := s)]
  try rw [pt_119 (c := cM) (s := s)]
  try rw [pt_121 (c := cM) (s := s)]
  try rw [pt_122 (c := cM) (s := s)]
  try rw [pt_127 (c := cM) (s := s)]
  try rw [pt_128 (c := cM) (s := s)]
  try rw [pt_129 (c := cM) (s := s)]
  try rw [pt_130 (c := cM) (s := s)]
  repeat' (with_reducible refine pm_ite ?_ ?_)
  all_goals (first | with_reducible exact pt_er | with_reducible exact pm_s | with_reducible refine pm_u ?_ | with_reducible refine pm_r ?_ | with_reducible refine pm_uu ?_ ?_ | with_reducible refine pm_uuu ?_ ?_ ?_ | with_reducible refine pm_uur ?_ ?_ ?_ | with_reducible refine pm_ru ?_ ?_)
  all_goals decide

theorem pY_ofThing {cM s : Mm} (w k : Int32) : Y_ofThing (pt cM s) w k = Pm cM (Y_ofThing s w k) := by
  unfold Y_ofThing
  try rw [pt_118 (c := cM) (s := s)]
  try rw [pt_119 (c := cM) (s := s)]
  try rw [pt_121 (c := cM) (s := s)]
  try rw [pt_122 (c := cM) (s := s)]
  try rw [pt_127 (c := cM) (s := s)]
  try rw [pt_128 (c := cM) (s := s)]
  try rw [pt_129 (c := cM) (s := s)]
  try rw [pt_130 (c := cM) (s := s)]
  repeat' (with_reducible refine pm_ite ?_ ?_)
  all_goals (first | with_reducible exact pt_er | with_reducible exact pm_s | with_reducible refine pm_u ?_ | with_reducible refine pm_r ?_ | with_reducible refine pm_uu ?_ ?_ | with_reducible refine pm_uuu ?_ ?_ ?_ | with_reducible refine pm_uur ?_ ?_ ?_ | with_reducible refine pm_ru ?_ ?_)
  all_goals decide

theorem pY_hang {cM s : Mm} (w v : Int32) : Y_hang (pt cM s) w v = Pm cM (Y_hang s w v) := by
  unfold Y_hang
  try rw [pt_118 (c := cM) (s := s)]
  try rw [pt_119 (c := cM) (s := s)]
  try rw [pt_121 (c := cM) (s := s)]
  try rw [pt_122 (c := cM) (s := s)]
  try rw [pt_127 (c := cM) (s := s)]
  try rw [pt_128 (c := cM) (s := s)]
  try rw [pt_129 (c := cM) (s := s)]
  try rw [pt_130 (c := cM) (s := s)]
  repeat' (with_reducible refine pm_ite ?_ ?_)
  all_goals (first | with_reducible exact pt_er | with_reducible exact pm_s | with_reducible refine pm_u ?_ | with_reducible refine pm_r ?_ | with_reducible refine pm_uu ?_ ?_ | with_reducible refine pm_uuu ?_ ?_ ?_ | with_reducible refine pm_uur ?_ ?_ ?_ | with_reducible refine pm_ru ?_ ?_)
  all_goals decide

theorem pY_bitten {cM s : Mm} : Y_bitten (pt cM s) = Pm cM (Y_bitten s) := by
  unfold Y_bitten
  try rw [pt_118 (c := cM) (s := s)]
  try rw [pt_119 (c := cM) (s := s)]
  try rw [pt_121 (c := cM) (s := s)]
  try rw [pt_122 (c := cM) (s := s)]
  try rw [pt_127 (c := cM) (s := s)]
  try rw [pt_128 (c := cM) (s := s)]
  try rw [pt_129 (c := cM) (s := s)]
  try rw [pt_130 (c := cM) (s := s)]
  repeat' (with_reducible refine pm_ite ?_ ?_)
  all_goals (first | with_reducible exact pt_er | with_reducible exact pm_s | with_reducible refine pm_u ?_ | with_reducible refine pm_r ?_ | with_reducible refine pm_uu ?_ ?_ | with_reducible refine pm_uuu ?_ ?_ ?_ | with_reducible refine pm_uur ?_ ?_ ?_ | with_reducible refine pm_ru ?_ ?_)
  all_goals decide

theorem pY_bold {cM s : Mm} : Y_bold (pt cM s) = Pm cM (Y_bold s) := by
  unfold Y_bold
  try rw [pt_118 (c := cM) (s := s)]
  try rw [pt_119 (c := cM) (s := s)]
  try rw [pt_121 (c := cM) (s := s)]
  try rw [pt_122 (c := cM) (s := s)]
  try rw [pt_127 (c := cM) (s := s)]
  try rw [pt_128 (c := cM) (s := s)]
  try rw [pt_129 (c := cM) (s := s)]
  try rw [pt_130 (c := cM) (s := s)]
  repeat' (with_reducible refine pm_ite ?_ ?_)
  all_goals (first | with_reducible exact pt_er | with_reducible exact pm_s | with_reducible refine pm_u ?_ | with_reducible refine pm_r ?_ | with_reducible refine pm_uu ?_ ?_ | with_reducible refine pm_uuu ?_ ?_ ?_ | with_reducible refine pm_uur ?_ ?_ ?_ | with_reducible refine pm_ru ?_ ?_)
  all_goals decide

theorem pY_dusk {cM s : Mm} (w v : Int32) : Y_dusk (pt cM s) w v = Pm cM (Y_dusk s w v) := by
  unfold Y_dusk
  try rw [pt_118 (c := cM) (s := s)]
  try rw [pt_119 (c := cM) (s := s)]
  try rw [pt_121 (c := cM) (s := s)]
  try rw [pt_122 (c := cM) (s := s)]
  try rw [pt_127 (c := cM) (s := s)]
  try rw [pt_128 (c := cM) (s := s)]
  try rw [pt_129 (c := cM) (s := s)]
  try rw [pt_130 (c := cM) (s := s)]
  repeat' (with_reducible refine pm_ite ?_ ?_)
  all_goals (first | with_reducible exact pt_er | with_reducible exact pm_s | with_reducible refine pm_u ?_ | with_reducible refine pm_r ?_ | with_reducible refine pm_uu ?_ ?_ | with_reducible refine pm_uuu ?_ ?_ ?_ | with_reducible refine pm_uur ?_ ?_ ?_ | with_reducible refine pm_ru ?_ ?_)
  all_goals decide

theorem pY_seed {cM s : Mm} (v : Int32) : Y_seed (pt cM s) v = Pm cM (Y_seed s v) := by
  unfold Y_seed
  try rw [pt_118 (c := cM) (s := s)]
  try rw [pt_119 (c := cM) (s := s)]
  try rw [pt_121 (c := cM) (s := s)]
  try rw [pt_122 (c := cM) (s := s)]
  try rw [pt_127 (c := cM) (s := s)]
  try rw [pt_128 (c := cM) (s := s)]
  try rw [pt_129 (c := cM) (s := s)]
  try rw [pt_130 (c := cM) (s := s)]
  repeat' (with_reducible refine pm_ite ?_ ?_)
  all_goals (first | with_reducible exact pt_er | with_reducible exact pm_s | with_reducible refine pm_u ?_ | with_reducible refine pm_r ?_ | with_reducible refine pm_uu ?_ ?_ | with_reducible refine pm_uuu ?_ ?_ ?_ | with_reducible refine pm_uur ?_ ?_ ?_ | with_reducible refine pm_ru ?_ ?_)
  all_goals decide

theorem pY_told {cM s : Mm} (k : Int32) : Y_told (pt cM s) k = Pm cM (Y_told s k) := by
  unfold Y_told
  try rw [pt_118 (c := cM) (s := s)]
  try rw [pt_119 (c := cM) (s := s)]
  try rw [pt_121 (c := cM) (s := s)]
  try rw [pt_122 (c := cM) (s := s)]
  try rw [pt_127 (c := cM) (s := s)]
  try rw [pt_128 (c := cM) (s := s)]
  try rw [pt_129 (c := cM) (s := s)]
  try rw [pt_130 (c := cM) (s := s)]
  repeat' (with_reducible refine pm_ite ?_ ?_)
  all_goals (first | with_reducible exact pt_er | with_reducible exact pm_s | with_reducible refine pm_u ?_ | with_reducible refine pm_r ?_ | with_reducible refine pm_uu ?_ ?_ | with_reducible refine pm_uuu ?_ ?_ ?_ | with_reducible refine pm_uur ?_ ?_ ?_ | with_reducible refine pm_ru ?_ ?_)
  all_goals decide

theorem pY_tell {cM s : Mm} (v : Int32) : Y_tell (pt cM s) v = Pm cM (Y_tell s v) := by
  unfold Y_tell
  try rw [pt_118 (c := cM) (s := s)]
  try rw [pt_119 (c := cM) (s := s)]
  try rw [pt_121 (c := cM) (s := s)]
  try rw [pt_122 (c := cM) (s := s)]
  try rw [pt_127 (c := cM) (s := s)]
  try rw [pt_128 (c := cM) (s := s)]
  try rw [pt_129 (c := cM) (s := s)]
  try rw [pt_130 (c := cM) (s := s)]
  repeat' (with_reducible refine pm_ite ?_ ?_)
  all_goals (first | with_reducible exact pt_er | with_reducible exact pm_s | with_reducible refine pm_u ?_ | with_reducible refine pm_r ?_ | with_reducible refine pm_uu ?_ ?_ | with_reducible refine pm_uuu ?_ ?_ ?_ | with_reducible refine pm_uur ?_ ?_ ?_ | with_reducible refine pm_ru ?_ ?_)
  all_goals decide

theorem pY_count {cM s : Mm} (k : Int32) : Y_count (pt cM s) k = Pm cM (Y_count s k) := by
  unfold Y_count
  try rw [pt_118 (c := cM) (s := s)]
  try rw [pt_119 (c := cM) (s := s)]
  try rw [pt_121 (c := cM) (s := s)]
  try rw [pt_122 (c := cM) (s := s)]
  try rw [pt_127 (c := cM) (s := s)]
  try rw [pt_128 (c := cM) (s := s)]
  try rw [pt_129 (c := cM) (s := s)]
  try rw [pt_130 (c := cM) (s := s)]
  repeat' (with_reducible refine pm_ite ?_ ?_)
  all_goals (first | with_reducible exact pt_er | with_reducible exact pm_s | with_reducible refine pm_u ?_ | with_reducible refine pm_r ?_ | with_reducible refine pm_uu ?_ ?_ | with_reducible refine pm_uuu ?_ ?_ ?_ | with_reducible refine pm_uur ?_ ?_ ?_ | with_reducible refine pm_ru ?_ ?_)
  all_goals decide

theorem pY_way {cM s : Mm} (k m c : Int32) : Y_way (pt cM s) k m c = Pm cM (Y_way s k m c) := by
  unfold Y_way
  try rw [pt_118 (c := cM) (s := s)]
  try rw [pt_119 (c := cM) (s := s)]
  try rw [pt_121 (c := cM) (s := s)]
  try rw [pt_122 (c := cM) (s := s)]
  try rw [pt_127 (c := cM) (s := s)]
  try rw [pt_128 (c := cM) (s := s)]
  try rw [pt_129 (c := cM) (s := s)]
  try rw [pt_130 (c := cM) (s := s)]
  repeat' (with_reducible refine pm_ite ?_ ?_)
  all_goals (first | with_reducible exact pt_er | with_reducible exact pm_s | with_reducible refine pm_u ?_ | with_reducible refine pm_r ?_ | with_reducible refine pm_uu ?_ ?_ | with_reducible refine pm_uuu ?_ ?_ ?_ | with_reducible refine pm_uur ?_ ?_ ?_ | with_reducible refine pm_ru ?_ ?_)
  all_goals decide

theorem pY_harm {cM s : Mm} (w : Int32) : Y_harm (pt cM s) w = Pm cM (Y_harm s w) := by
  unfold Y_harm
  try rw [pt_118 (c := cM) (s := s)]
  try rw [pt_119 (c := cM) (s := s)]
  try rw [pt_121 (c := cM) (s := s)]
  try rw [pt_122 (c := cM) (s := s)]
  try rw [pt_127 (c := cM) (s := s)]
  try rw [pt_128 (c := cM) (s := s)]
  try rw [pt_129 (c := cM) (s := s)]
  try rw [pt_130 (c := cM) (s := s)]
  repeat' (with_reducible refine pm_ite ?_ ?_)
  all_goals (first | with_reducible exact pt_er | with_reducible exact pm_s | with_reducible refine pm_u ?_ | with_reducible refine pm_r ?_ | with_reducible refine pm_uu ?_ ?_ | with_reducible refine pm_uuu ?_ ?_ ?_ | with_reducible refine pm_uur ?_ ?_ ?_ | with_reducible refine pm_ru ?_ ?_)
  all_goals decide

theorem pY_clock {cM s : Mm} : Y_clock (pt cM s) = Pm cM (Y_clock s) := by
  unfold Y_clock
  try rw [pt_118 (c := cM) (s := s)]
  try rw [pt_119 (c := cM) (s := s)]
  try rw [pt_121 (c := cM) (s := s)]
  try rw [pt_122 (c := cM) (s := s)]
  try rw [pt_127 (c := cM) (s := s)]
  try rw [pt_128 (c := cM) (s := s)]
  try rw [pt_129 (c := cM) (s := s)]
  try rw [pt_130 (c := cM) (s := s)]
  repeat' (with_reducible refine pm_ite ?_ ?_)
  all_goals (first | with_reducible exact pt_er | with_reducible exact pm_s | with_reducible refine pm_u ?_ | with_reducible refine pm_r ?_ | with_reducible refine pm_uu ?_ ?_ | with_reducible refine pm_uuu ?_ ?_ ?_ | with_reducible refine pm_uur ?_ ?_ ?_ | with_reducible refine pm_ru ?_ ?_)
  all_goals decide

theorem pY_yard {cM s : Mm} (w p u v : Int32) : Y_yard (pt cM s) w p u v = Pm cM (Y_yard s w p u v) := by
  unfold Y_yard
  try rw [pt_118 (c := cM) (s := s)]
  try rw [pt_119 (c := cM) (s := s)]
  try rw [pt_121 (c := cM) (s := s)]
  try rw [pt_122 (c := cM) (s := s)]
  try rw [pt_127 (c := cM) (s := s)]
  try rw [pt_128 (c := cM) (s := s)]
  try rw [pt_129 (c := cM) (s := s)]
  try rw [pt_130 (c := cM) (s := s)]
  repeat' (with_reducible refine pm_ite ?_ ?_)
  all_goals (first | with_reducible exact pt_er | with_reducible exact pm_s | with_reducible refine pm_u ?_ | with_reducible refine pm_r ?_ | with_reducible refine pm_uu ?_ ?_ | with_reducible refine pm_uuu ?_ ?_ ?_ | with_reducible refine pm_uur ?_ ?_ ?_ | with_reducible refine pm_ru ?_ ?_)
  all_goals decide

theorem pY_trace {cM s : Mm} (w : Int32) : Y_trace (pt cM s) w = Pm cM (Y_trace s w) := by
  unfold Y_trace
  try rw [pt_118 (c := cM) (s := s)]
  try rw [pt_119 (c := cM) (s := s)]
  try rw [pt_121 (c := cM) (s := s)]
  try rw [pt_122 (c := cM) (s := s)]
  try rw [pt_127 (c := cM) (s := s)]
  try rw [pt_128 (c := cM) (s := s)]
  try rw [pt_129 (c := cM) (s := s)]
  try rw [pt_130 (c := cM) (s := s)]
  repeat' (with_reducible refine pm_ite ?_ ?_)
  all_goals (first | with_reducible exact pt_er | with_reducible exact pm_s | with_reducible refine pm_u ?_ | with_reducible refine pm_r ?_ | with_reducible refine pm_uu ?_ ?_ | with_reducible refine pm_uuu ?_ ?_ ?_ | with_reducible refine pm_uur ?_ ?_ ?_ | with_reducible refine pm_ru ?_ ?_)
  all_goals decide

theorem pY_sheet {cM s : Mm} (w b n : Int32) : Y_sheet (pt cM s) w b n = Pm cM (Y_sheet s w b n) := by
  unfold Y_sheet
  try rw [pt_118 (c := cM) (s := s)]
  try rw [pt_119 (c := cM) (s := s)]
  try rw [pt_121 (c := cM) (s := s)]
  try rw [pt_122 (c := cM) (s := s)]
  try rw [pt_127 (c := cM) (s := s)]
  try rw [pt_128 (c := cM) (s := s)]
  try rw [pt_129 (c := cM) (s := s)]
  try rw [pt_130 (c := cM) (s := s)]
  repeat' (with_reducible refine pm_ite ?_ ?_)
  all_goals (first | with_reducible exact pt_er | with_reducible exact pm_s | with_reducible refine pm_u ?_ | with_reducible refine pm_r ?_ | with_reducible refine pm_uu ?_ ?_ | with_reducible refine pm_uuu ?_ ?_ ?_ | with_reducible refine pm_uur ?_ ?_ ?_ | with_reducible refine pm_ru ?_ ?_)
  all_goals decide

theorem pY_put {cM s : Mm} (w i v : Int32) : Y_put (pt cM s) w i v = Pm cM (Y_put s w i v) := by
  unfold Y_put
  try rw [pt_118 (c := cM) (s := s)]
  try rw [pt_119 (c := cM) (s := s)]
  try rw [pt_121 (c := cM) (s := s)]
  try rw [pt_122 (c := cM) (s := s)]
  try rw [pt_127 (c := cM) (s := s)]
  try rw [pt_128 (c := cM) (s := s)]
  try rw [pt_129 (c := cM) (s := s)]
  try rw [pt_130 (c := cM) (s := s)]
  repeat' (with_reducible refine pm_ite ?_ ?_)
  all_goals (first | with_reducible exact pt_er | with_reducible exact pm_s | with_reducible refine pm_u ?_ | with_reducible refine pm_r ?_ | with_reducible refine pm_uu ?_ ?_ | with_reducible refine pm_uuu ?_ ?_ ?_ | with_reducible refine pm_uur ?_ ?_ ?_ | with_reducible refine pm_ru ?_ ?_)
  all_goals decide

theorem pY_image {cM s : Mm} : Y_image (pt cM s) = Pm cM (Y_image s) := by
  unfold Y_image
  try rw [pt_118 (c := cM) (s := s)]
  try rw [pt_119 (c := cM) (s := s)]
  try rw [pt_121 (c := cM) (s := s)]
  try rw [pt_122 (c := cM) (s := s)]
  try rw [pt_127 (c := cM) (s := s)]
  try rw [pt_128 (c := cM) (s := s)]
  try rw [pt_129 (c := cM) (s := s)]
  try rw [pt_130 (c := cM) (s := s)]
  repeat' (with_reducible refine pm_ite ?_ ?_)
  all_goals (first | with_reducible exact pt_er | with_reducible exact pm_s | with_reducible refine pm_u ?_ | with_reducible refine pm_r ?_ | with_reducible refine pm_uu ?_ ?_ | with_reducible refine pm_uuu ?_ ?_ ?_ | with_reducible refine pm_uur ?_ ?_ ?_ | with_reducible refine pm_ru ?_ ?_)
  all_goals decide

theorem pY_restore {cM s : Mm} : Y_restore (pt cM s) = Pm cM (Y_restore s) := by
  unfold Y_restore
  try rw [pt_118 (c := cM) (s := s)]
  try rw [pt_119 (c := cM) (s := s)]
  try rw [pt_121 (c := cM) (s := s)]
  try rw [pt_122 (c := cM) (s := s)]
  try rw [pt_127 (c := cM) (s := s)]
  try rw [pt_128 (c := cM) (s := s)]
  try rw [pt_129 (c := cM) (s := s)]
  try rw [pt_130 (c := cM) (s := s)]
  repeat' (with_reducible refine pm_ite ?_ ?_)
  all_goals (first | with_reducible exact pt_er | with_reducible exact pm_s | with_reducible refine pm_u ?_ | with_reducible refine pm_r ?_ | with_reducible refine pm_uu ?_ ?_ | with_reducible refine pm_uuu ?_ ?_ ?_ | with_reducible refine pm_uur ?_ ?_ ?_ | with_reducible refine pm_ru ?_ ?_)
  all_goals decide

theorem pY_nights {cM s : Mm} (τ : Nat → List Int32) (n : Int32) : Y_nights (pt cM s) τ n = Pm cM (Y_nights s τ n) := by
  unfold Y_nights
  try rw [pt_118 (c := cM) (s := s)]
  try rw [pt_119 (c := cM) (s := s)]
  try rw [pt_121 (c := cM) (s := s)]
  try rw [pt_122 (c := cM) (s := s)]
  try rw [pt_127 (c := cM) (s := s)]
  try rw [pt_128 (c := cM) (s := s)]
  try rw [pt_129 (c := cM) (s := s)]
  try rw [pt_130 (c := cM) (s := s)]
  repeat' (with_reducible refine pm_ite ?_ ?_)
  all_goals (first | with_reducible exact pt_er | with_reducible exact pm_s | with_reducible refine pm_u ?_ | with_reducible refine pm_r ?_ | with_reducible refine pm_uu ?_ ?_ | with_reducible refine pm_uuu ?_ ?_ ?_ | with_reducible refine pm_uur ?_ ?_ ?_ | with_reducible refine pm_ru ?_ ?_)
  all_goals decide

theorem pY_then {cM s : Mm} (τ : Nat → List Int32) (n k : Int32) : Y_then (pt cM s) τ n k = Pm cM (Y_then s τ n k) := by
  unfold Y_then
  try rw [pt_118 (c := cM) (s := s)]
  try rw [pt_119 (c := cM) (s := s)]
  try rw [pt_121 (c := cM) (s := s)]
  try rw [pt_122 (c := cM) (s := s)]
  try rw [pt_127 (c := cM) (s := s)]
  try rw [pt_128 (c := cM) (s := s)]
  try rw [pt_129 (c := cM) (s := s)]
  try rw [pt_130 (c := cM) (s := s)]
  repeat' (with_reducible refine pm_ite ?_ ?_)
  all_goals (first | with_reducible exact pt_er | with_reducible exact pm_s | with_reducible refine pm_u ?_ | with_reducible refine pm_r ?_ | with_reducible refine pm_uu ?_ ?_ | with_reducible refine pm_uuu ?_ ?_ ?_ | with_reducible refine pm_uur ?_ ?_ ?_ | with_reducible refine pm_ru ?_ ?_)
  all_goals decide

theorem pY_thenWay {cM s : Mm} (τ : Nat → List Int32) (n w k : Int32) : Y_thenWay (pt cM s) τ n w k = Pm cM (Y_thenWay s τ n w k) := by
  unfold Y_thenWay
  try rw [pt_118 (c := cM) (s := s)]
  try rw [pt_119 (c := cM) (s := s)]
  try rw [pt_121 (c := cM) (s := s)]
  try rw [pt_122 (c := cM) (s := s)]
  try rw [pt_127 (c := cM) (s := s)]
  try rw [pt_128 (c := cM) (s := s)]
  try rw [pt_129 (c := cM) (s := s)]
  try rw [pt_130 (c := cM) (s := s)]
  repeat' (with_reducible refine pm_ite ?_ ?_)
  all_goals (first | with_reducible exact pt_er | with_reducible exact pm_s | with_reducible refine pm_u ?_ | with_reducible refine pm_r ?_ | with_reducible refine pm_uu ?_ ?_ | with_reducible refine pm_uuu ?_ ?_ ?_ | with_reducible refine pm_uur ?_ ?_ ?_ | with_reducible refine pm_ru ?_ ?_)
  all_goals decide

theorem pY_by {cM s : Mm} (τ : Nat → List Int32) : Y_by (pt cM s) τ = Pm cM (Y_by s τ) := by
  unfold Y_by
  try rw [pt_118 (c := cM) (s := s)]
  try rw [pt_119 (c := cM) (s := s)]
  try rw [pt_121 (c := cM) (s := s)]
  try rw [pt_122 (c := cM) (s := s)]
  try rw [pt_127 (c := cM) (s := s)]
  try rw [pt_128 (c := cM) (s := s)]
  try rw [pt_129 (c := cM) (s := s)]
  try rw [pt_130 (c := cM) (s := s)]
  repeat' (with_reducible refine pm_ite ?_ ?_)
  all_goals (first | with_reducible exact pt_er | with_reducible exact pm_s | with_reducible refine pm_u ?_ | with_reducible refine pm_r ?_ | with_reducible refine pm_uu ?_ ?_ | with_reducible refine pm_uuu ?_ ?_ ?_ | with_reducible refine pm_uur ?_ ?_ ?_ | with_reducible refine pm_ru ?_ ?_)
  all_goals decide

theorem pY_careless {cM s : Mm} (τ : Nat → List Int32) (n v : Int32) : Y_careless (pt cM s) τ n v = Pm cM (Y_careless s τ n v) := by
  unfold Y_careless
  try rw [pt_118 (c := cM) (s := s)]
  try rw [pt_119 (c := cM) (s := s)]
  try rw [pt_121 (c := cM) (s := s)]
  try rw [pt_122 (c := cM) (s := s)]
  try rw [pt_127 (c := cM) (s := s)]
  try rw [pt_128 (c := cM) (s := s)]
  try rw [pt_129 (c := cM) (s := s)]
  try rw [pt_130 (c := cM) (s := s)]
  repeat' (with_reducible refine pm_ite ?_ ?_)
  all_goals (first | with_reducible exact pt_er | with_reducible exact pm_s | with_reducible refine pm_u ?_ | with_reducible refine pm_r ?_ | with_reducible refine pm_uu ?_ ?_ | with_reducible refine pm_uuu ?_ ?_ ?_ | with_reducible refine pm_uur ?_ ?_ ?_ | with_reducible refine pm_ru ?_ ?_)
  all_goals decide

theorem pY_check {cM s : Mm} (τ : Nat → List Int32) : Y_check (pt cM s) τ = Pm cM (Y_check s τ) := by
  unfold Y_check
  try rw [pt_118 (c := cM) (s := s)]
  try rw [pt_119 (c := cM) (s := s)]
  try rw [pt_121 (c := cM) (s := s)]
  try rw [pt_122 (c := cM) (s := s)]
  try rw [pt_127 (c := cM) (s := s)]
  try rw [pt_128 (c := cM) (s := s)]
  try rw [pt_129 (c := cM) (s := s)]
  try rw [pt_130 (c := cM) (s := s)]
  repeat' (with_reducible refine pm_ite ?_ ?_)
  all_goals (first | with_reducible exact pt_er | with_reducible exact pm_s | with_reducible refine pm_u ?_ | with_reducible refine pm_r ?_ | with_reducible refine pm_uu ?_ ?_ | with_reducible refine pm_uuu ?_ ?_ ?_ | with_reducible refine pm_uur ?_ ?_ ?_ | with_reducible refine pm_ru ?_ ?_)
  all_goals decide

theorem pY_off {cM s : Mm} (τ : Nat → List Int32) (w : Int32) : Y_off (pt cM s) τ w = Pm cM (Y_off s τ w) := by
  unfold Y_off
  try rw [pt_118 (c := cM) (s := s)]
  try rw [pt_119 (c := cM) (s := s)]
  try rw [pt_121 (c := cM) (s := s)]
  try rw [pt_122 (c := cM) (s := s)]
  try rw [pt_127 (c := cM) (s := s)]
  try rw [pt_128 (c := cM) (s := s)]
  try rw [pt_129 (c := cM) (s := s)]
  try rw [pt_130 (c := cM) (s := s)]
  repeat' (with_reducible refine pm_ite ?_ ?_)
  all_goals (first | with_reducible exact pt_er | with_reducible exact pm_s | with_reducible refine pm_u ?_ | with_reducible refine pm_r ?_ | with_reducible refine pm_uu ?_ ?_ | with_reducible refine pm_uuu ?_ ?_ ?_ | with_reducible refine pm_uur ?_ ?_ ?_ | with_reducible refine pm_ru ?_ ?_)
  all_goals decide

theorem pY_hungry {cM s : Mm} (τ : Nat → List Int32) (w : Int32) : Y_hungry (pt cM s) τ w = Pm cM (Y_hungry s τ w) := by
  unfold Y_hungry
  try rw [pt_118 (c := cM) (s := s)]
  try rw [pt_119 (c := cM) (s := s)]
  try rw [pt_121 (c := cM) (s := s)]
  try rw [pt_122 (c := cM) (s := s)]
  try rw [pt_127 (c := cM) (s := s)]
  try rw [pt_128 (c := cM) (s := s)]
  try rw [pt_129 (c := cM) (s := s)]
  try rw [pt_130 (c := cM) (s := s)]
  repeat' (with_reducible refine pm_ite ?_ ?_)
  all_goals (first | with_reducible exact pt_er | with_reducible exact pm_s | with_reducible refine pm_u ?_ | with_reducible refine pm_r ?_ | with_reducible refine pm_uu ?_ ?_ | with_reducible refine pm_uuu ?_ ?_ ?_ | with_reducible refine pm_uur ?_ ?_ ?_ | with_reducible refine pm_ru ?_ ?_)
  all_goals decide

theorem pY_law {cM s : Mm} (τ : Nat → List Int32) (w a b c : Int32) : Y_law (pt cM s) τ w a b c = Pm cM (Y_law s τ w a b c) := by
  unfold Y_law
  try rw [pt_118 (c := cM) (s := s)]
  try rw [pt_119 (c := cM) (s := s)]
  try rw [pt_121 (c := cM) (s := s)]
  try rw [pt_122 (c := cM) (s := s)]
  try rw [pt_127 (c := cM) (s := s)]
  try rw [pt_128 (c := cM) (s := s)]
  try rw [pt_129 (c := cM) (s := s)]
  try rw [pt_130 (c := cM) (s := s)]
  repeat' (with_reducible refine pm_ite ?_ ?_)
  all_goals (first | with_reducible exact pt_er | with_reducible exact pm_s | with_reducible refine pm_u ?_ | with_reducible refine pm_r ?_ | with_reducible refine pm_uu ?_ ?_ | with_reducible refine pm_uuu ?_ ?_ ?_ | with_reducible refine pm_uur ?_ ?_ ?_ | with_reducible refine pm_ru ?_ ?_)
  all_goals decide

theorem pY_ways {cM s : Mm} (w : Int32) : Y_ways (pt cM s) w = Pm cM (Y_ways s w) := by
  unfold Y_ways
  try rw [pt_118 (c := cM) (s := s)]
  try rw [pt_119 (c := cM) (s := s)]
  try rw [pt_121 (c := cM) (s := s)]
  try rw [pt_122 (c := cM) (s := s)]
  try rw [pt_127 (c := cM) (s := s)]
  try rw [pt_128 (c := cM) (s := s)]
  try rw [pt_129 (c := cM) (s := s)]
  try rw [pt_130 (c := cM) (s := s)]
  repeat' (with_reducible refine pm_ite ?_ ?_)
  all_goals (first | with_reducible exact pt_er | with_reducible exact pm_s | with_reducible refine pm_u ?_ | with_reducible refine pm_r ?_ | with_reducible refine pm_uu ?_ ?_ | with_reducible refine pm_uuu ?_ ?_ ?_ | with_reducible refine pm_uur ?_ ?_ ?_ | with_reducible refine pm_ru ?_ ?_)
  all_goals decide

theorem pY_move {cM s : Mm} (w i o j n : Int32) : Y_move (pt cM s) w i o j n = Pm cM (Y_move s w i o j n) := by
  unfold Y_move
  try rw [pt_118 (c := cM) (s := s)]
  try rw [pt_119 (c := cM) (s := s)]
  try rw [pt_121 (c := cM) (s := s)]
  try rw [pt_122 (c := cM) (s := s)]
  try rw [pt_127 (c := cM) (s := s)]
  try rw [pt_128 (c := cM) (s := s)]
  try rw [pt_129 (c := cM) (s := s)]
  try rw [pt_130 (c := cM) (s := s)]
  repeat' (with_reducible refine pm_ite ?_ ?_)
  all_goals (first | with_reducible exact pt_er | with_reducible exact pm_s | with_reducible refine pm_u ?_ | with_reducible refine pm_r ?_ | with_reducible refine pm_uu ?_ ?_ | with_reducible refine pm_uuu ?_ ?_ ?_ | with_reducible refine pm_uur ?_ ?_ ?_ | with_reducible refine pm_ru ?_ ?_)
  all_goals decide

theorem pY_feed {cM s : Mm} (w : Int64) (n : Int32) : Y_feed (pt cM s) w n = Pm cM (Y_feed s w n) := by
  unfold Y_feed
  try rw [pt_118 (c := cM) (s := s)]
  try rw [pt_119 (c := cM) (s := s)]
  try rw [pt_121 (c := cM) (s := s)]
  try rw [pt_122 (c := cM) (s := s)]
  try rw [pt_127 (c := cM) (s := s)]
  try rw [pt_128 (c := cM) (s := s)]
  try rw [pt_129 (c := cM) (s := s)]
  try rw [pt_130 (c := cM) (s := s)]
  repeat' (with_reducible refine pm_ite ?_ ?_)
  all_goals (first | with_reducible exact pt_er | with_reducible exact pm_s | with_reducible refine pm_u ?_ | with_reducible refine pm_r ?_ | with_reducible refine pm_uu ?_ ?_ | with_reducible refine pm_uuu ?_ ?_ ?_ | with_reducible refine pm_uur ?_ ?_ ?_ | with_reducible refine pm_ru ?_ ?_)
  all_goals decide

theorem pY_mends {cM s : Mm} (τ : Nat → List Int32) (c n k : Int32) : Y_mends (pt cM s) τ c n k = Pm cM (Y_mends s τ c n k) := by
  unfold Y_mends
  try rw [pt_118 (c := cM) (s := s)]
  try rw [pt_119 (c := cM) (s := s)]
  try rw [pt_121 (c := cM) (s := s)]
  try rw [pt_122 (c := cM) (s := s)]
  try rw [pt_127 (c := cM) (s := s)]
  try rw [pt_128 (c := cM) (s := s)]
  try rw [pt_129 (c := cM) (s := s)]
  try rw [pt_130 (c := cM) (s := s)]
  repeat' (with_reducible refine pm_ite ?_ ?_)
  all_goals (first | with_reducible exact pt_er | with_reducible exact pm_s | with_reducible refine pm_u ?_ | with_reducible refine pm_r ?_ | with_reducible refine pm_uu ?_ ?_ | with_reducible refine pm_uuu ?_ ?_ ?_ | with_reducible refine pm_uur ?_ ?_ ?_ | with_reducible refine pm_ru ?_ ?_)
  all_goals decide

theorem pY_hangs {cM s : Mm} (τ : Nat → List Int32) (n i : Int32) : Y_hangs (pt cM s) τ n i = Pm cM (Y_hangs s τ n i) := by
  unfold Y_hangs
  try rw [pt_118 (c := cM) (s := s)]
  try rw [pt_119 (c := cM) (s := s)]
  try rw [pt_121 (c := cM) (s := s)]
  try rw [pt_122 (c := cM) (s := s)]
  try rw [pt_127 (c := cM) (s := s)]
  try rw [pt_128 (c := cM) (s := s)]
  try rw [pt_129 (c := cM) (s := s)]
  try rw [pt_130 (c := cM) (s := s)]
  repeat' (with_reducible refine pm_ite ?_ ?_)
  all_goals (first | with_reducible exact pt_er | with_reducible exact pm_s | with_reducible refine pm_u ?_ | with_reducible refine pm_r ?_ | with_reducible refine pm_uu ?_ ?_ | with_reducible refine pm_uuu ?_ ?_ ?_ | with_reducible refine pm_uur ?_ ?_ ?_ | with_reducible refine pm_ru ?_ ?_)
  all_goals decide

theorem pY_village {cM s : Mm} (k : Int32) : Y_village (pt cM s) k = Pm cM (Y_village s k) := by
  unfold Y_village
  try rw [pt_118 (c := cM) (s := s)]
  try rw [pt_119 (c := cM) (s := s)]
  try rw [pt_121 (c := cM) (s := s)]
  try rw [pt_122 (c := cM) (s := s)]
  try rw [pt_127 (c := cM) (s := s)]
  try rw [pt_128 (c := cM) (s := s)]
  try rw [pt_129 (c := cM) (s := s)]
  try rw [pt_130 (c := cM) (s := s)]
  repeat' (with_reducible refine pm_ite ?_ ?_)
  all_goals (first | with_reducible exact pt_er | with_reducible exact pm_s | with_reducible refine pm_u ?_ | with_reducible refine pm_r ?_ | with_reducible refine pm_uu ?_ ?_ | with_reducible refine pm_uuu ?_ ?_ ?_ | with_reducible refine pm_uur ?_ ?_ ?_ | with_reducible refine pm_ru ?_ ?_)
  all_goals decide

theorem pY_text {cM s : Mm} (w : Int32) : Y_text (pt cM s) w = Pm cM (Y_text s w) := by
  unfold Y_text
  rw [pt_119 (c := cM) (s := s)]
  refine pm_ite pt_er ?_
  cases faultP (bytD (s 119) 284 (s 119 13).toNatClampNeg) (s 119 13).toNatClampNeg w.toNatClampNeg with
  | none => exact pm_r (by decide)
  | some p => exact pm_u (by decide)
theorem pY_loss {cM s : Mm} (τ : Nat → List Int32) (n : Int32) : Y_loss (pt cM s) τ n = Pm cM (Y_loss s τ n) := by
  unfold Y_loss
  rw [pt_119 (c := cM) (s := s)]
  refine pm_ite pt_er ?_
  cases lossF τ (s 119) n.toNatClampNeg 1 with
  | none => exact pt_er
  | some p => exact pm_s
theorem pY_voice {cM s : Mm} (w k x : Int32) : Y_voice (pt cM s) w k x = Pm cM (Y_voice s w k x) := by
  unfold Y_voice VS
  rw [pt_119 (c := cM) (s := s), pt_127 (c := cM) (s := s)]
  refine pm_ite pt_er ?_
  exact pm_ru (by decide) (by decide)
theorem pY_odds {cM s : Mm} (pq n k : Int32) : Y_odds (pt cM s) pq n k = ((Y_odds s pq n k).1, pt cM (Y_odds s pq n k).2) := by
  unfold Y_odds
  by_cases q : oddOK pq n k
  · rw [@if_pos _ (Classical.propDecidable _) q, @if_pos _ (Classical.propDecidable _) q]
  · rw [@if_neg _ (Classical.propDecidable _) q, @if_neg _ (Classical.propDecidable _) q, pt_er]; rfl
