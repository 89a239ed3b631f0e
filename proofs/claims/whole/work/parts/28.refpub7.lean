theorem DOK.s10 {d : Dm} (H : DOK d) {m : Nat} (hm : m ≤ 8) : DOK (upd d 10 (nI m)) := by
  have e : nwD (upd d 10 (nI m)) = m := by unfold nwD; rw [upd_at, nI_clamp (by omega)]
  have e11 : ntD (upd d 10 (nI m)) = ntD d := by unfold ntD; rw [upd_ne (by omega)]
  refine ⟨⟨by rw [e, upd_at], by rw [e]; exact hm⟩, ⟨by rw [e11, upd_ne (by omega)]; exact H.nt, by rw [e11]; exact H.nt5⟩, ⟨?_, ?_, ?_, ?_⟩, fun w hw => ?_, fun t ht => ?_⟩
  · rw [upd_ne (by omega)]; exact H.2.2.1.1
  · rw [upd_ne (by omega)]; exact H.2.2.1.2.1
  · rw [upd_ne (by omega)]; exact H.2.2.1.2.2.1
  · rw [upd_ne (by omega)]; exact H.2.2.1.2.2.2
  · rw [upd_ne (by omega), upd_ne (by omega), upd_ne (by omega), upd_ne (by omega)]; exact H.2.2.2.1 w hw
  · rw [upd_ne (by omega), upd_ne (by omega), upd_ne (by omega)]; exact H.2.2.2.2 t ht
theorem DOK.s11 {d : Dm} (H : DOK d) {m : Nat} (hm : m ≤ 5) : DOK (upd d 11 (nI m)) := by
  have e : ntD (upd d 11 (nI m)) = m := by unfold ntD; rw [upd_at, nI_clamp (by omega)]
  have e11 : nwD (upd d 11 (nI m)) = nwD d := by unfold nwD; rw [upd_ne (by omega)]
  refine ⟨⟨by rw [e11, upd_ne (by omega)]; exact H.nw, by rw [e11]; exact H.nw8⟩, ⟨by rw [e, upd_at], by rw [e]; exact hm⟩, ⟨?_, ?_, ?_, ?_⟩, fun w hw => ?_, fun t ht => ?_⟩
  · rw [upd_ne (by omega)]; exact H.2.2.1.1
  · rw [upd_ne (by omega)]; exact H.2.2.1.2.1
  · rw [upd_ne (by omega)]; exact H.2.2.1.2.2.1
  · rw [upd_ne (by omega)]; exact H.2.2.1.2.2.2
  · rw [upd_ne (by omega), upd_ne (by omega), upd_ne (by omega), upd_ne (by omega)]; exact H.2.2.2.1 w hw
  · rw [upd_ne (by omega), upd_ne (by omega), upd_ne (by omega)]; exact H.2.2.2.2 t ht
theorem sm_ix {m : Int32} (h : nI 0 ≤ m ∧ m ≤ nI 9999) : ix (m / nI 100) 100 := by
  rw [in_ix (by decide)] at h
  obtain ⟨j, hj, rfl⟩ := h
  refine ⟨j / 100, by omega, ?_⟩
  rw [i32_eq, Int32.toInt_div_of_ne_right _ _ (by decide), nI_toInt (by omega), nI_toInt (by omega), nI_toInt (by omega)]
  show (j : Int).tdiv 100 = _
  rw [Int.tdiv_eq_ediv_of_nonneg (by omega)]; rfl
theorem DOK.addw {d : Dm} (H : DOK d) {k m c : Int32} (hn8 : nwD d < 8) (hw : isWayP k m c) : DOK (addWD d k m c) := by
  unfold addWD
  have hk : ix k 7 := by rw [← in_ix (by decide)]; exact hw.1
  have hm : ix (m / nI 100) 100 := sm_ix hw.2.1
  generalize nwD d = n at *
  exact DOK.s10 ((((((H.set (i := 46 + 6 * n + 0) (by omega) (by omega) (fun q => by omega) (fun q => by omega) (fun w2 h2 => ⟨fun _ => hk, fun q => by omega, fun q => by omega, fun q => by omega⟩) (fun t ht => ⟨fun q => by omega, fun q => by omega, fun q => by omega⟩)).set (i := 46 + 6 * n + 1) (by omega) (by omega) (fun q => by omega) (fun q => by omega) (fun w2 h2 => ⟨fun q => by omega, fun _ => hm, fun q => by omega, fun q => by omega⟩) (fun t ht => ⟨fun q => by omega, fun q => by omega, fun q => by omega⟩)).set (i := 46 + 6 * n + 2) (by omega) (by omega) (fun q => by omega) (fun q => by omega) (fun w2 h2 => ⟨fun q => by omega, fun q => by omega, fun q => by omega, fun q => by omega⟩) (fun t ht => ⟨fun q => by omega, fun q => by omega, fun q => by omega⟩)).set (i := 46 + 6 * n + 3) (by omega) (by omega) (fun q => by omega) (fun q => by omega) (fun w2 h2 => ⟨fun q => by omega, fun q => by omega, fun q => by omega, fun q => by omega⟩) (fun t ht => ⟨fun q => by omega, fun q => by omega, fun q => by omega⟩)).set (i := 46 + 6 * n + 4) (by omega) (by omega) (fun q => by omega) (fun q => by omega) (fun w2 h2 => ⟨fun q => by omega, fun q => by omega, fun _ => ⟨0, by omega, rfl⟩, fun q => by omega⟩) (fun t ht => ⟨fun q => by omega, fun q => by omega, fun q => by omega⟩)).set (i := 46 + 6 * n + 5) (by omega) (by omega) (fun q => by omega) (fun q => by omega) (fun w2 h2 => ⟨fun q => by omega, fun q => by omega, fun q => by omega, fun _ => ⟨0, by omega, rfl⟩⟩) (fun t ht => ⟨fun q => by omega, fun q => by omega, fun q => by omega⟩)) (by omega)
/-- the WAYS that a SHEET brings: how many, and the numbers then -/
noncomputable def wysF (f : Nat → Int32) (sz : Nat) : Nat → Nat → Dm → Nat × Dm
  | 0, a, d => (a, d)
  | m + 1, a, d => @ite _ (3 * a + 3 ≤ sz ∧ nwD d < 8 ∧ isWayP (f (3 * a)) (f (3 * a + 1)) (f (3 * a + 2))) (Classical.propDecidable _) (wysF f sz m (a + 1) (addWD d (f (3 * a)) (f (3 * a + 1)) (f (3 * a + 2)))) (a, d)
theorem wys_y {f : Nat → Int32} {sz m a : Nat} {d : Dm} (h1 : 3 * a + 3 ≤ sz) (h2 : nwD d < 8) (h3 : isWayP (f (3 * a)) (f (3 * a + 1)) (f (3 * a + 2))) : wysF f sz (m + 1) a d = wysF f sz m (a + 1) (addWD d (f (3 * a)) (f (3 * a + 1)) (f (3 * a + 2))) := @if_pos _ (Classical.propDecidable _) ⟨h1, h2, h3⟩ _ _ _
theorem wys_n {f : Nat → Int32} {sz m a : Nat} {d : Dm} (h : ¬ (3 * a + 3 ≤ sz ∧ nwD d < 8 ∧ isWayP (f (3 * a)) (f (3 * a + 1)) (f (3 * a + 2)))) : wysF f sz (m + 1) a d = (a, d) := @if_neg _ (Classical.propDecidable _) h _ _ _
def movR (f : Nat → Int32) (a b n : Nat) : Nat → Int32 := fun k => if b ≤ k ∧ k < b + n then f (a + (k - b)) else f k
theorem mov_0 {f : Nat → Int32} {a b : Nat} : movR f a b 0 = f := by funext k; unfold movR; rw [if_neg (by omega)]
theorem mov_s {f : Nat → Int32} {a b n : Nat} : upd (movR f a b n) (b + n) (f (a + n)) = movR f a b (n + 1) := by
  funext k
  by_cases e : k = b + n
  · subst e; unfold movR; rw [upd_at, if_pos (by omega)]; congr 1; omega
  · rw [upd_ne e]
    unfold movR
    by_cases c : b ≤ k ∧ k < b + n
    · rw [if_pos c, if_pos (by omega)]
    · rw [if_neg c, if_neg (show ¬ (b ≤ k ∧ k < b + (n + 1)) by omega)]

noncomputable def Y_ways (s : Mm) (w : Int32) : Rs := @ite _ (¬ (ix w 4)) (Classical.propDecidable _) (er s 1) ( @ite _ (s 128 w.toNatClampNeg = nI 0) (Classical.propDecidable _) (er s 2) ( (nI (wysF (fun k => s 130 (40 * w.toNatClampNeg + k)) (s 129 w.toNatClampNeg).toNatClampNeg 14 0 (s 119)).1, rw2 s 119 (wysF (fun k => s 130 (40 * w.toNatClampNeg + k)) (s 129 w.toNatClampNeg).toNatClampNeg 14 0 (s 119)).2)))

noncomputable def Y_move (s : Mm) (w i o j n : Int32) : Rs := @ite _ (¬ (ix w 4 ∧ ix o 4)) (Classical.propDecidable _) (er s 1) ( @ite _ (s 128 w.toNatClampNeg = nI 0 ∨ s 128 o.toNatClampNeg = nI 0) (Classical.propDecidable _) (er s 2) ( @ite _ (¬ s 128 w.toNatClampNeg = s 128 o.toNatClampNeg) (Classical.propDecidable _) (er s 5) ( @ite _ (¬ (nI 0 ≤ n ∧ nI 0 ≤ i ∧ nI 0 ≤ j ∧ n ≤ s 129 w.toNatClampNeg - i ∧ n ≤ s 129 o.toNatClampNeg - j)) (Classical.propDecidable _) (er s 1) ( (n, rw2 s 130 (movR (s 130) (40 * w.toNatClampNeg + i.toNatClampNeg) (40 * o.toNatClampNeg + j.toNatClampNeg) n.toNatClampNeg))))))
