/-! ===== drawers: more things than places ===== -/
theorem fb_holes : ∀ (m n : Nat) (f : Nat → Nat), (∀ i, i < n → f i < m) → (∀ i j, i < j → j < n → f i ≠ f j) → n ≤ m := by
  intro m
  induction m with
  | zero =>
    intro n f h1 _
    rcases Nat.eq_zero_or_pos n with h | h
    · omega
    · exact absurd (h1 0 h) (Nat.not_lt_zero _)
  | succ m ih =>
    intro n f h1 h2
    by_cases hx : ∃ i, i < n ∧ f i = m
    · obtain ⟨a, ha, hfa⟩ := hx
      have hg := ih (n - 1) (fun i => if i < a then f i else f (i + 1)) (by
        intro i hi
        by_cases q : i < a
        · simp only [if_pos q]
          have b1 := h1 i (by omega)
          have b2 := h2 i a q ha
          omega
        · simp only [if_neg q]
          have b1 := h1 (i + 1) (by omega)
          have b2 := h2 a (i + 1) (by omega) (by omega)
          omega) (by
        intro i j hij hj
        by_cases q : i < a
        · by_cases r : j < a
          · simp only [if_pos q, if_pos r]
            exact h2 i j hij (by omega)
          · simp only [if_pos q, if_neg r]
            exact h2 i (j + 1) (by omega) (by omega)
        · have r : ¬ j < a := by omega
          simp only [if_neg q, if_neg r]
          exact h2 (i + 1) (j + 1) (by omega) (by omega))
      omega
    · have hg := ih n f (fun i hi => by
        have b1 := h1 i hi
        have b2 : f i ≠ m := fun e => hx ⟨i, hi, e⟩
        omega) h2
      omega
/-- two of them in one place -/
theorem fb_twice {m n : Nat} {f : Nat → Nat} (h : ∀ i, i < n → f i < m) (hm : m < n) : ∃ i j, i < j ∧ j < n ∧ f i = f j := by
  refine Classical.byContradiction fun hx => ?_
  have := fb_holes m n f h (fun i j hij hj e => hx ⟨i, j, hij, hj, e⟩)
  omega
/-- as many as places, none twice: each place is taken -/
theorem fb_onto {n : Nat} {f : Nat → Nat} (h : ∀ i, i < n → f i < n) (h2 : ∀ i j, i < j → j < n → f i ≠ f j) {y : Nat} (hy : y < n) : ∃ i, i < n ∧ f i = y := by
  refine Classical.byContradiction fun hx => ?_
  have hne : ∀ i, i < n → f i ≠ y := fun i hi e => hx ⟨i, hi, e⟩
  have := fb_holes (n - 1) n (fun i => if f i < y then f i else f i - 1) (by
    intro i hi
    have b1 := h i hi
    have b2 := hne i hi
    by_cases q : f i < y
    · simp only [if_pos q]; omega
    · simp only [if_neg q]; omega) (by
    intro i j hij hj
    have b1 := hne i (by omega)
    have b2 := hne j hj
    have b3 := h2 i j hij hj
    by_cases q : f i < y
    · by_cases r : f j < y
      · simp only [if_pos q, if_pos r]; exact b3
      · simp only [if_pos q, if_neg r]; omega
    · by_cases r : f j < y
      · simp only [if_neg q, if_pos r]; omega
      · simp only [if_neg q, if_neg r]; omega)
  omega
/-! a night, by the numbers -/
noncomputable def pmI (p : Prop) : Int32 := @ite _ p (Classical.propDecidable p) (nI 1) (-1)
theorem pm_t {p : Prop} (h : p) : pmI p = nI 1 := by unfold pmI; rw [if_pos h]
theorem pm_f {p : Prop} (h : ¬ p) : pmI p = -1 := by unfold pmI; rw [if_neg h]
noncomputable def turnD (d : Dm) (w : Nat) (up : Prop) : Dm := upd (upd d (46 + 6 * w + 4) (heldM (d (46 + 6 * w + 4) + nI 1) (nI 0) (nI 99))) (46 + 6 * w + 5) (heldM (d (46 + 6 * w + 5) + pmI up) (nI 0) (nI 9))
noncomputable def comeD (τ : Nat → List Int32) (d : Dm) (w : Nat) : Dm := upd (upd (upd (upd d 0 (d 0 - killsE τ (d 0) (d 1) (d 2))) 9 (d 9 + killsE τ (d 0) (d 1) (d 2))) 2 (heldM (d 2 - nI 10 * killsE τ (d 0) (d 1) (d 2)) (nI 0) (nI 99))) (46 + 6 * w + 5) (nI 9)
def memD (d : Dm) : Nat → Int32 := fun w => d (46 + 6 * w + 5)
/-- a is tried ahead of b -/
def bet (mem : Nat → Int32) (a b : Nat) : Prop := (mem b).toInt < (mem a).toInt ∨ ((mem a).toInt = (mem b).toInt ∧ a < b)
def isOrd (mem : Nat → Int32) (n : Nat) (f : Nat → Nat) : Prop := (∀ i, i < n → f i < n) ∧ ∀ i j, i < j → j < n → bet mem (f i) (f j)
theorem isOrd_0 {mem : Nat → Int32} {f : Nat → Nat} : isOrd mem 0 f := ⟨fun i h => absurd h (Nat.not_lt_zero _), fun i j _ h => absurd h (Nat.not_lt_zero _)⟩
def insF (f : Nat → Nat) (a w : Nat) : Nat → Nat := fun i => if i < a then f i else if i = a then w else f (i - 1)
theorem isOrd_ins {mem : Nat → Int32} {w a : Nat} {f : Nat → Nat} (H : isOrd mem w f) (ha : a ≤ w) (hge : a = 0 ∨ (mem w).toInt ≤ (mem (f (a - 1))).toInt) (hgt : ∀ i, a ≤ i → i < w → (mem (f i)).toInt < (mem w).toInt) : isOrd mem (w + 1) (insF f a w) := by
  refine ⟨fun i hi => ?_, fun i j hij hj => ?_⟩
  · unfold insF
    by_cases h1 : i < a
    · rw [if_pos h1]; have := H.1 i (by omega); omega
    · rw [if_neg h1]
      by_cases h2 : i = a
      · rw [if_pos h2]; omega
      · rw [if_neg h2]; have := H.1 (i - 1) (by omega); omega
  · unfold insF
    by_cases hja : j < a
    · rw [if_pos hja, if_pos (by omega)]; exact H.2 i j hij (by omega)
    · rw [if_neg hja]
      by_cases hj2 : j = a
      · rw [if_pos hj2, if_pos (by omega)]
        have hfi := H.1 i (by omega)
        have hm : (mem w).toInt ≤ (mem (f i)).toInt := by
          rcases hge with h | h
          · omega
          · by_cases e : i = a - 1
            · rw [e]; exact h
            · rcases H.2 i (a - 1) (by omega) (by omega) with q | q <;> omega
        unfold bet
        omega
      · rw [if_neg hj2]
        by_cases hia : i < a
        · rw [if_pos hia]; exact H.2 i (j - 1) (by omega) (by omega)
        · rw [if_neg hia]
          by_cases hi2 : i = a
          · rw [if_pos hi2]
            exact Or.inl (hgt (j - 1) (by omega) (by omega))
          · rw [if_neg hi2]; exact H.2 (i - 1) (j - 1) (by omega) (by omega)
theorem bet_irr {mem : Nat → Int32} {a b : Nat} (h : bet mem a b) (h2 : bet mem b a) : False := by unfold bet at h h2; omega
theorem bet_ne {mem : Nat → Int32} {a b : Nat} (h : bet mem a b) : a ≠ b := by rintro rfl; exact bet_irr h h
/-- an injection of n places into n numbers hits each -/
theorem ord_onto {mem : Nat → Int32} {n : Nat} {f : Nat → Nat} (H : isOrd mem n f) {y : Nat} (hy : y < n) : ∃ i, i < n ∧ f i = y :=
  fb_onto H.1 (fun i j hij hj => bet_ne (H.2 i j hij hj)) hy
theorem isOrd_one {mem : Nat → Int32} {n : Nat} {f f2 : Nat → Nat} (H : isOrd mem n f) (H2 : isOrd mem n f2) : ∀ i, i < n → f i = f2 i := by
  have key : ∀ k i, i ≤ k → i < n → f i = f2 i := by
    intro k
    induction k with
    | zero =>
      intro i hi hn
      have e0 : i = 0 := by omega
      subst e0
      obtain ⟨j, hj, ej⟩ := ord_onto H2 (H.1 0 hn)
      by_cases e : j = 0
      · subst e; exact ej.symm
      · obtain ⟨j2, hj2, ej2⟩ := ord_onto H (H2.1 0 hn)
        have b1 := H2.2 0 j (by omega) hj
        rw [ej] at b1
        by_cases e2 : j2 = 0
        · subst e2; exact ej2
        · have b2 := H.2 0 j2 (by omega) hj2
          rw [ej2] at b2
          exact absurd (bet_irr b1 b2) id
    | succ k ih =>
      intro i hi hn
      by_cases hik : i ≤ k
      · exact ih i hik hn
      · have e0 : i = k + 1 := by omega
        subst e0
        obtain ⟨j, hj, ej⟩ := ord_onto H2 (H.1 (k + 1) hn)
        by_cases hjk : j ≤ k
        · have := ih j hjk hj
          rw [ej] at this
          exact absurd this (bet_ne (H.2 j (k + 1) (by omega) hn))
        · by_cases e : j = k + 1
          · subst e; exact ej.symm
          · obtain ⟨j2, hj2, ej2⟩ := ord_onto H (H2.1 (k + 1) hn)
            have b1 := H2.2 (k + 1) j (by omega) hj
            rw [ej] at b1
            by_cases hjk2 : j2 ≤ k
            · have := ih j2 hjk2 hj2
              rw [ej2] at this
              exact absurd this.symm (bet_ne (H2.2 j2 (k + 1) (by omega) hn))
            · by_cases e2 : j2 = k + 1
              · subst e2; exact ej2
              · have b2 := H.2 (k + 1) j2 (by omega) hj2
                rw [ej2] at b2
                exact absurd (bet_irr b1 b2) id
  exact fun i hi => key i i (Nat.le_refl _) hi
/-- the round of a night, by the order f: by which WAY (or -1), and the numbers then -/
noncomputable def roundF (τ : Nat → List Int32) (f : Nat → Nat) : Nat → Nat → Int32 → Dm → Int32 × Dm
  | 0, _, _, d => ((-1), d)
  | k + 1, i, tk, d =>
    if tk + (nI 20 + d (46 + 6 * f i + 1) / nI 2) ≤ d 5 then
      (if entersE τ (easeD d (f i)) (boldD d) (d (46 + 6 * f i + 5)) (d (46 + 6 * f i + 4)) (d 8) = 0 then
        roundF τ f k (i + 1) (tk + (nI 20 + d (46 + 6 * f i + 1) / nI 2)) (turnD d (f i) (nI 70 ≤ easeD d (f i) + boldD d))
      else (nI (f i), d))
    else ((-1), d)
theorem roundF_out {τ : Nat → List Int32} {f : Nat → Nat} {k i : Nat} {tk : Int32} {d : Dm} (h : ¬ tk + (nI 20 + d (46 + 6 * f i + 1) / nI 2) ≤ d 5) : roundF τ f (k + 1) i tk d = ((-1), d) := by
  rw [roundF, if_neg h]
theorem roundF_in {τ : Nat → List Int32} {f : Nat → Nat} {k i : Nat} {tk : Int32} {d : Dm} (h : tk + (nI 20 + d (46 + 6 * f i + 1) / nI 2) ≤ d 5) (h2 : ¬ entersE τ (easeD d (f i)) (boldD d) (d (46 + 6 * f i + 5)) (d (46 + 6 * f i + 4)) (d 8) = 0) : roundF τ f (k + 1) i tk d = (nI (f i), d) := by
  rw [roundF, if_pos h, if_neg h2]
theorem roundF_on {τ : Nat → List Int32} {f : Nat → Nat} {k i : Nat} {tk : Int32} {d : Dm} (h : tk + (nI 20 + d (46 + 6 * f i + 1) / nI 2) ≤ d 5) (h2 : entersE τ (easeD d (f i)) (boldD d) (d (46 + 6 * f i + 5)) (d (46 + 6 * f i + 4)) (d 8) = 0) : roundF τ f (k + 1) i tk d = roundF τ f k (i + 1) (tk + (nI 20 + d (46 + 6 * f i + 1) / nI 2)) (turnD d (f i) (nI 70 ≤ easeD d (f i) + boldD d)) := by
  rw [roundF, if_pos h, if_pos h2]
theorem roundF_cong {τ : Nat → List Int32} {f f2 : Nat → Nat} : ∀ (k i : Nat) (tk : Int32) (d : Dm), (∀ j, i ≤ j → j < i + k → f j = f2 j) → roundF τ f k i tk d = roundF τ f2 k i tk d
  | 0, _, _, _, _ => rfl
  | k + 1, i, tk, d, h => by
    rw [roundF, roundF, h i (Nat.le_refl _) (by omega), roundF_cong k (i + 1) _ _ (fun j h1 h2 => h j (by omega) (by omega))]
noncomputable def ordC (mem : Nat → Int32) (n : Nat) : Nat → Nat := @dite _ (∃ f, isOrd mem n f) (Classical.propDecidable _) (fun h => Classical.choose h) (fun _ => id)
theorem ordC_eq {mem : Nat → Int32} {n : Nat} {f : Nat → Nat} (H : isOrd mem n f) : ∀ i, i < n → f i = ordC mem n i := by
  have h : ∃ f, isOrd mem n f := ⟨f, H⟩
  unfold ordC
  rw [dif_pos h]
  exact isOrd_one H (Classical.choose_spec h)
noncomputable def roundD (τ : Nat → List Int32) (d : Dm) : Int32 × Dm := roundF τ (ordC (memD d) (nwD d)) (nwD d) 0 (nI 0) d
theorem roundD_eq {τ : Nat → List Int32} {d : Dm} {f : Nat → Nat} (H : isOrd (memD d) (nwD d) f) : roundD τ d = roundF τ f (nwD d) 0 (nI 0) d := roundF_cong _ _ _ _ (fun j _ h2 => (ordC_eq H j (by omega)).symm)
def decayD (d : Dm) : Nat → Dm
  | 0 => d
  | k + 1 => upd (decayD d k) (94 + 3 * k + 0) (if decayD d k (94 + 3 * k + 2) = nI 1 then heldM (decayD d k (94 + 3 * k + 0) - decayD d k (94 + 3 * k + 1)) (nI 0) (nI 99) else decayD d k (94 + 3 * k + 0))
noncomputable def rD (τ : Nat → List Int32) (d : Dm) : Int32 × Dm := if d 0 ≤ 0 then ((-1), d) else roundD τ d
noncomputable def inD (τ : Nat → List Int32) (d : Dm) : Dm := if (rD τ d).1 < 0 then upd (rD τ d).2 2 (heldM ((rD τ d).2 2 + nI 5) (nI 0) (nI 99)) else comeD τ (rD τ d).2 (rD τ d).1.toNatClampNeg
noncomputable def endD (τ : Nat → List Int32) (d : Dm) : Dm := upd (upd (upd d 3 (staysE τ (d 3) (d 8))) 4 (nI 0)) 8 (d 8 + nI 1)
noncomputable def nightD (τ : Nat → List Int32) (d : Dm) : Dm := endD τ (decayD (inD τ d) (ntD (inD τ d)))
noncomputable def byD (τ : Nat → List Int32) (d : Dm) : Int32 := (rD τ d).1
/-! what stays right -/
theorem held_ix {v : Int32} {n : Nat} (hn : n < 2 ^ 30) : ix (heldM v (nI 0) (nI n)) (n + 1) := by
  unfold heldM
  by_cases h1 : nI 0 ≤ v
  · rw [if_pos h1]
    by_cases h2 : v ≤ nI n
    · rw [if_pos h2]; exact (ix_rng hn).mp ⟨h1, h2⟩
    · rw [if_neg h2]; exact ⟨n, by omega, rfl⟩
  · rw [if_neg h1]; exact ⟨0, by omega, rfl⟩
theorem heldX_ix {v a : Int32} {n : Nat} (hn : n ≤ 2 ^ 30) (ha : ix a n) : ix (heldX v (nI 0) a) n := by
  obtain ⟨j, hj, rfl⟩ := ha
  rw [heldX_eq ((nI_leI (by omega) (by omega)).mpr (Nat.zero_le _))]
  obtain ⟨i, hi, e⟩ := held_ix (v := v) (n := j) (by omega)
  exact ⟨i, by omega, e⟩
theorem DOK.set {d : Dm} (H : DOK d) {i : Nat} {v : Int32} (h10 : i ≠ 10) (h11 : i ≠ 11) (h0 : (i = 0 ∨ i = 2 ∨ i = 3) → ix v 100) (h4 : i = 4 → ix v 2)
    (hw : ∀ w, w < 8 → (i = 46 + 6 * w → ix v 7) ∧ (i = 46 + 6 * w + 1 → ix v 100) ∧ (i = 46 + 6 * w + 4 → ix v 100) ∧ (i = 46 + 6 * w + 5 → ix v 10)) (ht : ∀ t, t < 5 → (i = 94 + 3 * t → ix v 100) ∧ (i = 94 + 3 * t + 1 → ix v 31) ∧ (i = 94 + 3 * t + 2 → ix v 2)) : DOK (upd d i v) := by
  have e10 : nwD (upd d i v) = nwD d := by unfold nwD; rw [upd_ne (by omega)]
  have e11 : ntD (upd d i v) = ntD d := by unfold ntD; rw [upd_ne (by omega)]
  have g : ∀ (j n : Nat), ix (d j) n → (i = j → ix v n) → ix (upd d i v j) n := by
    intro j n h1 h2
    by_cases e : j = i
    · subst e; rw [upd_at]; exact h2 rfl
    · rw [upd_ne e]; exact h1
  refine ⟨⟨by rw [e10, upd_ne (by omega)]; exact H.nw, by rw [e10]; exact H.nw8⟩, ⟨by rw [e11, upd_ne (by omega)]; exact H.nt, by rw [e11]; exact H.nt5⟩, ⟨g _ _ H.2.2.1.1 (fun q => h0 (Or.inl q)), g _ _ H.2.2.1.2.1 (fun q => h0 (Or.inr (Or.inl q))), g _ _ H.2.2.1.2.2.1 (fun q => h0 (Or.inr (Or.inr q))), g _ _ H.2.2.1.2.2.2 h4⟩, fun w hw8 => ?_, fun t ht5 => ?_⟩
  · obtain ⟨a1, a2, a3, a4⟩ := H.2.2.2.1 w hw8
    obtain ⟨b1, b2, b3, b4⟩ := hw w hw8
    exact ⟨g _ _ a1 b1, g _ _ a2 b2, g _ _ a3 b3, g _ _ a4 b4⟩
  · obtain ⟨a1, a2, a3⟩ := H.2.2.2.2 t ht5
    obtain ⟨b1, b2, b3⟩ := ht t ht5
    exact ⟨g _ _ a1 b1, g _ _ a2 b2, g _ _ a3 b3⟩
theorem DOK.turn {d : Dm} (H : DOK d) {w : Nat} {up : Prop} (hw : w < 8) : DOK (turnD d w up) :=
  (H.set (i := 46 + 6 * w + 4) (by omega) (by omega) (fun q => by omega) (fun q => by omega) (fun w2 h2 => ⟨fun q => by omega, fun q => by omega, fun _ => held_ix (by decide), fun q => by omega⟩) (fun t ht => ⟨fun q => by omega, fun q => by omega, fun q => by omega⟩)).set (i := 46 + 6 * w + 5) (by omega) (by omega) (fun q => by omega) (fun q => by omega) (fun w2 h2 => ⟨fun q => by omega, fun q => by omega, fun q => by omega, fun _ => held_ix (by decide)⟩) (fun t ht => ⟨fun q => by omega, fun q => by omega, fun q => by omega⟩)
theorem killsE_ix {τ : Nat → List Int32} {a b c : Int32} {n : Nat} (hn : n ≤ 2 ^ 30) (ha : ix a n) : ix (killsE τ a b c) n := heldX_ix hn ha
theorem kills_le {τ : Nat → List Int32} {a b c : Int32} {n : Nat} (hn : n ≤ 2 ^ 30) (ha : ix a n) : ix (a - killsE τ a b c) n := by
  obtain ⟨j, hj, rfl⟩ := ha
  obtain ⟨i, hi, e⟩ := killsE_ix (τ := τ) (b := b) (c := c) (n := j + 1) (a := nI j) (by omega) ⟨j, by omega, rfl⟩
  rw [e, pk_sub (by omega)]
  exact ⟨j - i, by omega, rfl⟩
theorem DOK.come {τ : Nat → List Int32} {d : Dm} (H : DOK d) {w : Nat} (hw : w < 8) : DOK (comeD τ d w) :=
  (((H.set (i := 0) (by omega) (by omega) (fun _ => kills_le (by decide) H.2.2.1.1) (fun q => by omega) (fun w2 h2 => ⟨fun q => by omega, fun q => by omega, fun q => by omega, fun q => by omega⟩) (fun t ht => ⟨fun q => by omega, fun q => by omega, fun q => by omega⟩)).set (i := 9) (by omega) (by omega) (fun q => by omega) (fun q => by omega) (fun w2 h2 => ⟨fun q => by omega, fun q => by omega, fun q => by omega, fun q => by omega⟩) (fun t ht => ⟨fun q => by omega, fun q => by omega, fun q => by omega⟩)).set (i := 2) (by omega) (by omega) (fun _ => held_ix (by decide)) (fun q => by omega) (fun w2 h2 => ⟨fun q => by omega, fun q => by omega, fun q => by omega, fun q => by omega⟩) (fun t ht => ⟨fun q => by omega, fun q => by omega, fun q => by omega⟩)).set (i := 46 + 6 * w + 5) (by omega) (by omega) (fun q => by omega) (fun q => by omega) (fun w2 h2 => ⟨fun q => by omega, fun q => by omega, fun q => by omega, fun _ => ⟨9, by omega, rfl⟩⟩) (fun t ht => ⟨fun q => by omega, fun q => by omega, fun q => by omega⟩)
theorem DOK.decay {d : Dm} (H : DOK d) : ∀ k, k ≤ 5 → DOK (decayD d k)
  | 0, _ => H
  | k + 1, hk => by
    have ih := DOK.decay H k (by omega)
    refine ih.set (i := 94 + 3 * k + 0) (by omega) (by omega) (fun q => by omega) (fun q => by omega) (fun w2 h2 => ⟨fun q => by omega, fun q => by omega, fun q => by omega, fun q => by omega⟩) (fun t ht => ⟨fun _ => ?_, fun q => by omega, fun q => by omega⟩)
    split
    · exact held_ix (by decide)
    · exact (ih.2.2.2.2 k (by omega)).1
theorem DOK.feed {d : Dm} (H : DOK d) : DOK (upd d 2 (heldM (d 2 + nI 5) (nI 0) (nI 99))) :=
  H.set (i := 2) (by omega) (by omega) (fun _ => held_ix (by decide)) (fun q => by omega) (fun w2 h2 => ⟨fun q => by omega, fun q => by omega, fun q => by omega, fun q => by omega⟩) (fun t ht => ⟨fun q => by omega, fun q => by omega, fun q => by omega⟩)
theorem DOK.fin {τ : Nat → List Int32} {d : Dm} (H : DOK d) : DOK (endD τ d) :=
  ((H.set (i := 3) (by omega) (by omega) (fun _ => heldX_ix (by decide) ⟨99, by omega, rfl⟩) (fun q => by omega) (fun w2 h2 => ⟨fun q => by omega, fun q => by omega, fun q => by omega, fun q => by omega⟩) (fun t ht => ⟨fun q => by omega, fun q => by omega, fun q => by omega⟩)).set (i := 4) (by omega) (by omega) (fun q => by omega) (fun _ => ⟨0, by omega, rfl⟩) (fun w2 h2 => ⟨fun q => by omega, fun q => by omega, fun q => by omega, fun q => by omega⟩) (fun t ht => ⟨fun q => by omega, fun q => by omega, fun q => by omega⟩)).set (i := 8) (by omega) (by omega) (fun q => by omega) (fun q => by omega) (fun w2 h2 => ⟨fun q => by omega, fun q => by omega, fun q => by omega, fun q => by omega⟩) (fun t ht => ⟨fun q => by omega, fun q => by omega, fun q => by omega⟩)
theorem nwD_turn {d : Dm} {w : Nat} {up : Prop} : nwD (turnD d w up) = nwD d := by unfold nwD turnD; rw [upd_ne (by omega), upd_ne (by omega)]
theorem sumFear_cong {d d2 : Dm} (h3 : d 3 = d2 3) : ∀ k, (∀ j, 94 ≤ j → j < 94 + 3 * k → d j = d2 j) → sumFear d k = sumFear d2 k
  | 0, _ => h3
  | k + 1, h => by
    show sumFear d k + _ = sumFear d2 k + _
    rw [sumFear_cong h3 k (fun j h1 h2 => h j h1 (by omega)), h (94 + 3 * k + 2) (by omega) (by omega), h (94 + 3 * k) (by omega) (by omega)]
theorem bold_turn {d : Dm} {w : Nat} {up : Prop} (hw : w < 8) : boldD (turnD d w up) = boldD d := by
  have e : ∀ j, (j < 46 ∨ 94 ≤ j) → turnD d w up j = d j := fun j hj => by unfold turnD; rw [upd_ne (by omega), upd_ne (by omega)]
  unfold boldD fearD ntD
  rw [e 2 (by omega), e 1 (by omega), e 11 (by omega), sumFear_cong (e 3 (by omega)) _ (fun j h1 _ => e j (by omega))]
theorem ordC_lt {d : Dm} {f : Nat → Nat} (H : isOrd (memD d) (nwD d) f) : ∀ i, i < nwD d → f i < nwD d := H.1
/-- what a round leaves, and by which WAY -/
theorem roundF_ok {τ : Nat → List Int32} {f : Nat → Nat} {n : Nat} (hf : ∀ i, i < n → f i < 8) : ∀ (k i : Nat) (tk : Int32) (d : Dm), i + k ≤ n → DOK d → DOK (roundF τ f k i tk d).2 ∧ ((roundF τ f k i tk d).1 = (-1) ∨ ∃ w, w < 8 ∧ (∃ j, j < n ∧ w = f j) ∧ (roundF τ f k i tk d).1 = nI w)
  | 0, i, tk, d, _, H => ⟨H, Or.inl rfl⟩
  | k + 1, i, tk, d, hk, H => by
    by_cases h : tk + (nI 20 + d (46 + 6 * f i + 1) / nI 2) ≤ d 5
    · by_cases h2 : entersE τ (easeD d (f i)) (boldD d) (d (46 + 6 * f i + 5)) (d (46 + 6 * f i + 4)) (d 8) = 0
      · rw [roundF_on h h2]
        exact roundF_ok hf k (i + 1) _ _ (by omega) (H.turn (hf i (by omega)))
      · rw [roundF_in h h2]
        exact ⟨H, Or.inr ⟨f i, hf i (by omega), ⟨i, by omega, rfl⟩, rfl⟩⟩
    · rw [roundF_out h]
      exact ⟨H, Or.inl rfl⟩
theorem max_held {x : Int32} (h : x.toInt ≤ 99) : (if nI 0 < x then x else nI 0) = heldM x (nI 0) (nI 99) := by
  have e0 : (nI 0).toInt = 0 := rfl
  have e9 : (nI 99).toInt = 99 := rfl
  unfold heldM
  by_cases h1 : nI 0 < x
  · have h2 := h1
    rw [i32_lt] at h2
    rw [if_pos h1, if_pos (by rw [i32_le]; omega), if_pos (by rw [i32_le]; omega)]
  · rw [if_neg h1]
    rw [i32_lt] at h1
    by_cases h2 : nI 0 ≤ x
    · rw [if_pos h2, if_pos (by rw [i32_le]; omega)]
      rw [i32_le] at h2
      exact i32_eq.mpr (by omega)
    · rw [if_neg h2]
theorem sub_le {a k : Nat} (ha : a < 100) (hk : k < 2000) : (nI a - nI k).toInt ≤ 99 := by
  rw [pk_sub_toInt (by omega) (by omega)]; omega
theorem ix_sub10 {a k : Int32} (ha : ix a 100) (hk : ix k 100) : (a - nI 10 * k).toInt ≤ 99 := by
  obtain ⟨i, hi, rfl⟩ := ha
  obtain ⟨j, hj, rfl⟩ := hk
  rw [pk_mul]
  exact sub_le hi (by omega)
theorem ix_sub {a k : Int32} (ha : ix a 100) (hk : ix k 31) : (a - k).toInt ≤ 99 := by
  obtain ⟨i, hi, rfl⟩ := ha
  obtain ⟨j, hj, rfl⟩ := hk
  exact sub_le hi (by omega)
theorem decay_low {d : Dm} : ∀ k {j : Nat}, (j < 94 ∨ 94 + 3 * k ≤ j) → decayD d k j = d j
  | 0, j, _ => rfl
  | k + 1, j, h => by
    show upd _ _ _ _ = _
    rw [upd_ne (by omega)]
    exact decay_low k (by omega)
theorem nt_decay {d : Dm} {k : Nat} : ntD (decayD d k) = ntD d := by unfold ntD; rw [decay_low k (by omega)]
theorem upd_id {f : Dm} {i : Nat} : upd f i (f i) = f := by
  funext j
  by_cases e : j = i
  · subst e; exact upd_at
  · exact upd_ne e
