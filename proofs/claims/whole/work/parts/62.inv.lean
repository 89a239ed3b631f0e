/-! what holds at all times goes on holding -/
theorem DOK.cong {d d2 : Dm} (H : DOK d) (e : ∀ i, (i < 12 ∨ (46 ≤ i ∧ i < 109)) → d2 i = d i) : DOK d2 := by
  have e10 : nwD d2 = nwD d := by unfold nwD; rw [e 10 (by omega)]
  have e11 : ntD d2 = ntD d := by unfold ntD; rw [e 11 (by omega)]
  refine ⟨⟨by rw [e10, e 10 (by omega)]; exact H.nw, by rw [e10]; exact H.nw8⟩, ⟨by rw [e11, e 11 (by omega)]; exact H.nt, by rw [e11]; exact H.nt5⟩, ⟨?_, ?_, ?_, ?_⟩, fun w hw => ?_, fun t ht => ?_⟩
  · rw [e 0 (by omega)]; exact H.2.2.1.1
  · rw [e 2 (by omega)]; exact H.2.2.1.2.1
  · rw [e 3 (by omega)]; exact H.2.2.1.2.2.1
  · rw [e 4 (by omega)]; exact H.2.2.1.2.2.2
  · rw [e _ (by omega), e _ (by omega), e _ (by omega), e _ (by omega)]; exact H.2.2.2.1 w hw
  · rw [e _ (by omega), e _ (by omega), e _ (by omega)]; exact H.2.2.2.2 t ht
def kpI (i : Nat) : Prop := i = 8 ∨ i = 13 ∨ i = 14 ∨ (28 ≤ i ∧ i < 46) ∨ (110 ≤ i ∧ ¬ (114 ≤ i ∧ i < 134))
theorem DX.keep {d d2 : Dm} (H : DX d) (hD : DOK d2) (e : ∀ i, kpI i → d2 i = d i) : DX d2 := by
  obtain ⟨-, h1, h2, h3, h4, h5⟩ := H
  refine ⟨hD, ?_, ?_, ?_, fun y hy => ?_, fun i hi => ?_⟩
  · rw [e 13 (by unfold kpI; omega)]; exact h1
  · rw [e 14 (by unfold kpI; omega)]; exact h2
  · rw [e 8 (by unfold kpI; omega)]; exact h3
  · rw [e _ (by unfold kpI; omega)]; exact h4 y hy
  · rw [e _ (by unfold kpI; omega)]; exact h5 i hi
theorem INV.fw {s s2 : Mm} {τ τ' τk : Nat → List Int32} (H : INV s τ τk) (hs : ∀ a, a ≠ 119 → s2 a = s a) (hd : DX (s2 119)) (hx : TXD (s2 119) τ') (ht : TOK τ') : INV s2 τ' τk := by
  refine ⟨⟨hd, hx, ht⟩, ?_, fun i hi => ?_, ?_⟩
  · rw [hs 118 (by omega), hs 121 (by omega)]; exact H.2.1
  · rw [hs 128 (by omega), hs 129 (by omega)]; exact H.2.2.1 i hi
  · rw [hs 118 (by omega)]; exact H.2.2.2
theorem INV.kp {s s2 : Mm} {τ τk : Nat → List Int32} (H : INV s τ τk) (hs : ∀ a, a ≠ 119 → s2 a = s a) (hD : DOK (s2 119)) (e : ∀ i, kpI i → s2 119 i = s 119 i) : INV s2 τ τk :=
  H.fw hs (H.1.1.keep hD e) (H.1.2.1.same fun i h1 h2 h3 => e i (by unfold kpI; omega)) H.1.2.2
theorem INV.o {s s2 : Mm} {τ τk : Nat → List Int32} (H : INV s τ τk) (h1 : s2 119 = s 119) (h2 : s2 121 = s 121) (h3 : s2 118 3 = s 118 3) (h4 : SHX s2) (h5 : ∃ n, n ≤ 40 ∧ s2 118 16 = nI n) : INV s2 τ τk :=
  ⟨by rw [h1]; exact H.1, by rw [h2, h3]; exact H.2.1, h4, h5⟩
theorem SHX.same {s s2 : Mm} (H : SHX s) (h1 : s2 128 = s 128) (h2 : s2 129 = s 129) : SHX s2 := fun i hi => by rw [h1, h2]; exact H i hi
theorem INV.off {s s2 : Mm} {τ τk : Nat → List Int32} (H : INV s τ τk) (e : ∀ a, a ≠ 122 → a ≠ 127 → a ≠ 130 → s2 a = s a) : INV s2 τ τk :=
  H.o (e _ (by omega) (by omega) (by omega)) (e _ (by omega) (by omega) (by omega)) (by rw [e _ (by omega) (by omega) (by omega)]) (H.2.2.1.same (e _ (by omega) (by omega) (by omega)) (e _ (by omega) (by omega) (by omega))) (by rw [e _ (by omega) (by omega) (by omega)]; exact H.2.2.2)
theorem INV.er {s : Mm} {τ τk : Nat → List Int32} {k : Nat} (H : INV s τ τk) : INV (er s k).2 τ τk := H.off (fun a h1 _ _ => u2_off h1)
theorem INV.pt {s c : Mm} {τ τk : Nat → List Int32} (H : INV s τ τk) : INV (pt c s) τ τk := H.o rfl rfl rfl (H.2.2.1.same rfl rfl) H.2.2.2
theorem inv_ite {p : Prop} {a b : Rs} {τ τk : Nat → List Int32} (h1 : p → INV a.2 τ τk) (h2 : ¬ p → INV b.2 τ τk) : INV (@ite _ p (Classical.propDecidable _) a b).2 τ τk := by
  by_cases q : p
  · rw [@if_pos _ (Classical.propDecidable _) q]; exact h1 q
  · rw [@if_neg _ (Classical.propDecidable _) q]; exact h2 q
section INVS
variable {s : Mm} {τ τk : Nat → List Int32}
theorem row_u {k : Nat} {v : Int32} : u2 s 119 k v 119 = upd (s 119) k v := u2_row
theorem INV.u {k : Nat} {v : Int32} (H : INV s τ τk) (hk : ¬ kpI k) (hD : DOK (upd (s 119) k v)) : INV (u2 s 119 k v) τ τk :=
  H.kp (fun a h => u2_off h) (by rw [u2_row]; exact hD) (fun i hi => by rw [u2_row]; exact upd_ne (fun e => hk (e ▸ hi)))
theorem INV.r {f : Dm} (H : INV s τ τk) (hD : DOK f) (e : ∀ i, kpI i → f i = s 119 i) : INV (rw2 s 119 f) τ τk :=
  H.kp (fun a h => rw2_off h) (by rw [rw2_at]; exact hD) (fun i hi => by rw [rw2_at]; exact e i hi)
theorem DOK.far {d : Dm} (H : DOK d) {k : Nat} {v : Int32} (hk : ¬ (k < 12 ∨ (46 ≤ k ∧ k < 109))) : DOK (upd d k v) := H.cong fun i hi => upd_ne (fun e => hk (e ▸ hi))
theorem set_ix {k : Nat} {v : Int32} (h1 : stV 1 k ≤ v) (h2 : v ≤ stV 2 k) : ((k = 0 ∨ k = 2 ∨ k = 3) → ix v 100) ∧ (k = 4 → ix v 2) := by
  refine ⟨fun q => ?_, fun q => ?_⟩
  · rw [show (100 : Nat) = 99 + 1 from rfl, ← in_ix (by decide)]
    rcases q with rfl | rfl | rfl
    · rw [show stV 1 0 = nI 0 by decide] at h1; rw [show stV 2 0 = nI 99 by decide] at h2; exact ⟨h1, h2⟩
    · rw [show stV 1 2 = nI 0 by decide] at h1; rw [show stV 2 2 = nI 99 by decide] at h2; exact ⟨h1, h2⟩
    · rw [show stV 1 3 = nI 0 by decide] at h1; rw [show stV 2 3 = nI 99 by decide] at h2; exact ⟨h1, h2⟩
  · subst q
    rw [show (2 : Nat) = 1 + 1 from rfl, ← in_ix (by decide)]
    rw [show stV 1 4 = nI 0 by decide] at h1; rw [show stV 2 4 = nI 1 by decide] at h2; exact ⟨h1, h2⟩
theorem I_set (H : INV s τ τk) (w v : Int32) : INV (Y_set s w v).2 τ τk := by
  refine inv_ite (fun q => ?_) (fun _ => H.er)
  obtain ⟨k, hk, rfl, h1, h2⟩ := q
  rw [cl_ix (show k < 2 ^ 31 by omega)]
  obtain ⟨a1, a2⟩ := set_ix h1 h2
  exact H.u (by unfold kpI; omega) (H.d.set (by omega) (by omega) a1 a2 (fun w hw => ⟨fun q => by omega, fun q => by omega, fun q => by omega, fun q => by omega⟩) (fun t ht => ⟨fun q => by omega, fun q => by omega, fun q => by omega⟩))
theorem addW_off {d : Dm} {k m c : Int32} {i : Nat} (h8 : nwD d < 8) (hi : kpI i) : addWD d k m c i = d i := by
  unfold kpI at hi
  unfold addWD
  generalize nwD d = n at *
  rw [upd_ne (by omega), upd_ne (by omega), upd_ne (by omega), upd_ne (by omega), upd_ne (by omega), upd_ne (by omega), upd_ne (by omega)]
theorem I_way (H : INV s τ τk) (k m c : Int32) : INV (Y_way s k m c).2 τ τk := by
  refine inv_ite (fun _ => H.er) (fun q => inv_ite (fun _ => H.er) (fun q2 => ?_))
  have h8 : nwD (s 119) < 8 := by have := H.d.nw8; omega
  exact H.r (H.d.addw h8 (Classical.not_not.mp q)) (fun i hi => addW_off h8 hi)
theorem I_wear (H : INV s τ τk) (w k v : Int32) : INV (Y_wear s w k v).2 τ τk := by
  refine inv_ite (fun q => ?_) (fun _ => H.er)
  obtain ⟨⟨j, hj, rfl⟩, hk, hv⟩ := q
  have h8 := H.d.nw8
  rw [cl_ix (show j < 2 ^ 31 by omega)]
  rcases hk with rfl | rfl | rfl
  · rw [cl_ix (show 1 < 2 ^ 31 by omega)]
    rw [if_neg (by decide)] at hv
    exact H.u (by unfold kpI; omega) (H.d.set (by omega) (by omega) (fun q => by omega) (fun q => by omega) (fun w hw => ⟨fun q => by omega, fun q => hv, fun q => by omega, fun q => by omega⟩) (fun t ht => ⟨fun q => by omega, fun q => by omega, fun q => by omega⟩))
  · rw [cl_ix (show 4 < 2 ^ 31 by omega)]
    rw [if_neg (by decide)] at hv
    exact H.u (by unfold kpI; omega) (H.d.set (by omega) (by omega) (fun q => by omega) (fun q => by omega) (fun w hw => ⟨fun q => by omega, fun q => by omega, fun q => hv, fun q => by omega⟩) (fun t ht => ⟨fun q => by omega, fun q => by omega, fun q => by omega⟩))
  · rw [cl_ix (show 5 < 2 ^ 31 by omega)]
    rw [if_pos rfl] at hv
    exact H.u (by unfold kpI; omega) (H.d.set (by omega) (by omega) (fun q => by omega) (fun q => by omega) (fun w hw => ⟨fun q => by omega, fun q => by omega, fun q => by omega, fun q => hv⟩) (fun t ht => ⟨fun q => by omega, fun q => by omega, fun q => by omega⟩))
theorem I_mend (H : INV s τ τk) (w : Int32) : INV (Y_mend s w).2 τ τk := by
  refine inv_ite (fun q => ?_) (fun _ => H.er)
  obtain ⟨j, hj, rfl⟩ := q
  have h8 := H.d.nw8
  rw [cl_ix (show j < 2 ^ 31 by omega)]
  refine H.r (H.d.mend (by omega)) (fun i hi => ?_)
  unfold kpI at hi
  unfold mendD
  rw [upd_ne (by omega), upd_ne (by omega)]
theorem I_thing (H : INV s τ τk) (f g : Int32) : INV (Y_thing s f g).2 τ τk := by
  refine inv_ite (fun _ => H.er) (fun q => inv_ite (fun _ => H.er) (fun q2 => ?_))
  obtain ⟨hf, hg⟩ := Classical.not_not.mp q
  have h5 : ntD (s 119) < 5 := by have := H.d.nt5; omega
  have hd := H.d
  refine H.r ?_ (fun i hi => ?_)
  · unfold addTD
    generalize ntD (s 119) = n at *
    exact DOK.s11 (((hd.set (i := 94 + 3 * n + 0) (by omega) (by omega) (fun q => by omega) (fun q => by omega) (fun w hw => ⟨fun q => by omega, fun q => by omega, fun q => by omega, fun q => by omega⟩) (fun t ht => ⟨fun q => hf, fun q => by omega, fun q => by omega⟩)).set (i := 94 + 3 * n + 1) (by omega) (by omega) (fun q => by omega) (fun q => by omega) (fun w hw => ⟨fun q => by omega, fun q => by omega, fun q => by omega, fun q => by omega⟩) (fun t ht => ⟨fun q => by omega, fun q => hg, fun q => by omega⟩)).set (i := 94 + 3 * n + 2) (by omega) (by omega) (fun q => by omega) (fun q => by omega) (fun w hw => ⟨fun q => by omega, fun q => by omega, fun q => by omega, fun q => by omega⟩) (fun t ht => ⟨fun q => by omega, fun q => by omega, fun q => ⟨0, by omega, rfl⟩⟩)) (by omega)
  · unfold kpI at hi
    unfold addTD
    generalize ntD (s 119) = n at *
    rw [upd_ne (by omega), upd_ne (by omega), upd_ne (by omega), upd_ne (by omega)]
theorem I_hang (H : INV s τ τk) (w v : Int32) : INV (Y_hang s w v).2 τ τk := by
  refine inv_ite (fun q => ?_) (fun _ => H.er)
  obtain ⟨⟨j, hj, rfl⟩, hv⟩ := q
  have h5 := H.d.nt5
  rw [cl_ix (show j < 2 ^ 31 by omega)]
  exact H.u (by unfold kpI; omega) (H.d.set (by omega) (by omega) (fun q => by omega) (fun q => by omega) (fun w hw => ⟨fun q => by omega, fun q => by omega, fun q => by omega, fun q => by omega⟩) (fun t ht => ⟨fun q => by omega, fun q => by omega, fun q => hv⟩))
theorem I_bitten (H : INV s τ τk) : INV (Y_bitten s).2 τ τk :=
  H.u (by unfold kpI; omega) (H.d.set (by omega) (by omega) (fun q => ⟨99, by omega, rfl⟩) (fun q => by omega) (fun w hw => ⟨fun q => by omega, fun q => by omega, fun q => by omega, fun q => by omega⟩) (fun t ht => ⟨fun q => by omega, fun q => by omega, fun q => by omega⟩))
theorem I_dusk (H : INV s τ τk) (w v : Int32) : INV (Y_dusk s w v).2 τ τk := by
  refine inv_ite (fun q => ?_) (fun _ => H.er)
  obtain ⟨⟨j, hj, rfl⟩, hv⟩ := q
  rw [cl_ix (show j < 2 ^ 31 by omega)]
  exact H.u (by unfold kpI; omega) (H.d.far (by omega))
theorem I_seed (H : INV s τ τk) (v : Int32) : INV (Y_seed s v).2 τ τk := H.u (by unfold kpI; omega) (H.d.far (by omega))
theorem I_tell (H : INV s τ τk) (v : Int32) : INV (Y_tell s v).2 τ τk := by
  refine inv_ite (fun _ => H.er) (fun q => ?_)
  obtain ⟨n, hn, e⟩ := H.t14
  have hn2 : n < 20 := by
    rcases Nat.lt_or_ge n 20 with h | h
    · exact h
    · have : n = 20 := by omega
      subst this; exact absurd e q
  show INV (u2 (u2 s 119 (114 + (s 119 14).toNatClampNeg) v) 119 14 (s 119 14 + nI 1)) τ τk
  rw [e, cl_ix (show n < 2 ^ 31 by omega), nI_add]
  have er : (u2 (u2 s 119 (114 + n) v) 119 14 (nI (n + 1))) 119 = upd (upd (s 119) (114 + n) v) 14 (nI (n + 1)) := by rw [u2_row, u2_row]
  obtain ⟨h0, h1, h2, h3, h4, h5⟩ := H.1.1
  refine H.fw (fun a h => (u2_off h).trans (u2_off h)) ?_ ?_ H.1.2.2
  · rw [er]
    refine ⟨(h0.far (by omega)).far (by omega), by rw [upd_ne (by omega), upd_ne (by omega)]; exact h1, ⟨n + 1, by omega, upd_at⟩, by rw [upd_ne (by omega), upd_ne (by omega)]; exact h3, fun y hy => by rw [upd_ne (by omega), upd_ne (by omega)]; exact h4 y hy, fun i hi => by rw [upd_ne (by omega), upd_ne (by omega)]; exact h5 i hi⟩
  · rw [er]
    exact H.1.2.1.same fun i h1 h2 h3 => by rw [upd_ne (by omega), upd_ne (by omega)]
theorem I_yard (H : INV s τ τk) (w p u v : Int32) : INV (Y_yard s w p u v).2 τ τk := by
  refine inv_ite (fun q => ?_) (fun _ => H.er)
  obtain ⟨⟨j, hj, rfl⟩, hp, hu, hv⟩ := q
  rw [cl_ix (show j < 2 ^ 31 by omega)]
  have er : (u2 (u2 (u2 s 119 (28 + 3 * j) p) 119 (28 + 3 * j + 1) u) 119 (28 + 3 * j + 2) v) 119 = upd (upd (upd (s 119) (28 + 3 * j) p) (28 + 3 * j + 1) u) (28 + 3 * j + 2) v := by rw [u2_row, u2_row, u2_row]
  show INV (u2 (u2 (u2 s 119 (28 + 3 * j) p) 119 (28 + 3 * j + 1) u) 119 (28 + 3 * j + 2) v) τ τk
  obtain ⟨h0, h1, h2, h3, h4, h5⟩ := H.1.1
  refine H.fw (fun a h => (u2_off h).trans ((u2_off h).trans (u2_off h))) ?_ ?_ H.1.2.2
  · rw [er]
    refine ⟨((h0.far (by omega)).far (by omega)).far (by omega), by rw [upd_ne (by omega), upd_ne (by omega), upd_ne (by omega)]; exact h1, by rw [upd_ne (by omega), upd_ne (by omega), upd_ne (by omega)]; exact h2, by rw [upd_ne (by omega), upd_ne (by omega), upd_ne (by omega)]; exact h3, fun y hy => ?_, fun i hi => by rw [upd_ne (by omega), upd_ne (by omega), upd_ne (by omega)]; exact h5 i hi⟩
    by_cases e : y = j
    · subst e; rw [upd_at]; exact hv
    · rw [upd_ne (by omega), upd_ne (by omega), upd_ne (by omega)]; exact h4 y hy
  · rw [er]
    exact H.1.2.1.same fun i h1 h2 h3 => by rw [upd_ne (by omega), upd_ne (by omega), upd_ne (by omega)]
theorem bytV_ix {w : Int64} {k : Nat} : ix (bytV w k) 256 := by
  unfold bytV
  generalize (w >>> ((nI (8 * k)).toInt64 &&& 63)) = x
  refine ⟨(x.toBitVec &&& (nI 255).toInt64.toBitVec).toNat, ?_, ?_⟩
  · have h : (x.toBitVec &&& (nI 255).toInt64.toBitVec).toNat ≤ (nI 255).toInt64.toBitVec.toNat := by rw [BitVec.toNat_and]; exact Nat.and_le_right
    have e : (nI 255).toInt64.toBitVec.toNat = 255 := by decide
    omega
  · apply Int32.toBitVec_inj.mp
    rw [Int64.toBitVec_toInt32, Int64.toBitVec_and]
    apply BitVec.eq_of_toNat_eq
    rw [BitVec.signExtend_eq_setWidth_of_le _ (by omega), BitVec.toNat_setWidth]
    show _ = (BitVec.ofNat 32 _).toNat
    rw [BitVec.toNat_ofNat]
theorem fed_off {d : Dm} {t i k : Nat} {w : Int64} (h1 : ¬ (284 + t ≤ k ∧ k < 284 + t + i)) (h2 : k ≠ 13) : fedR d t w i k = d k := by unfold fedR; rw [if_neg h1, if_neg h2]
theorem I_feed (H : INV s τ τk) (w : Int64) (n : Int32) : INV (Y_feed s w n).2 τ τk := by
  refine inv_ite (fun _ => H.er) (fun _ => inv_ite (fun _ => H.er) (fun q => ?_))
  show INV (rw2 s 119 (fedR (s 119) (s 119 13).toNatClampNeg w n.toNatClampNeg)) τ τk
  generalize (s 119 13).toNatClampNeg = t at *
  generalize n.toNatClampNeg = m at *
  obtain ⟨h0, h1, h2, h3, h4, h5⟩ := H.1.1
  refine H.fw (fun a h => rw2_off h) ?_ ?_ H.1.2.2
  · rw [rw2_at]
    refine ⟨h0.cong fun i hi => fed_off (by omega) (by omega), ⟨t + m, by omega, fed_13⟩, by rw [fed_off (by omega) (by omega)]; exact h2, by rw [fed_off (by omega) (by omega)]; exact h3, fun y hy => by rw [fed_off (by omega) (by omega)]; exact h4 y hy, fun i hi => ?_⟩
    by_cases c : 284 + t ≤ 284 + i ∧ 284 + i < 284 + t + m
    · unfold fedR; rw [if_pos c]; exact bytV_ix
    · rw [fed_off c (by omega)]; exact h5 i hi
  · rw [rw2_at]
    exact H.1.2.1.same fun i h1 h2 h3 => fed_off (by omega) (by omega)
/-! nights -/
theorem turn_8 {d : Dm} {w : Nat} {up : Prop} (hw : w < 8) : turnD d w up 8 = d 8 := by unfold turnD; rw [upd_ne (by omega), upd_ne (by omega)]
theorem come_8 {τ : Nat → List Int32} {d : Dm} {w : Nat} (hw : w < 8) : comeD τ d w 8 = d 8 := by unfold comeD; rw [upd_ne (by omega), upd_ne (by omega), upd_ne (by omega), upd_ne (by omega)]
theorem roundF_8 {τ : Nat → List Int32} {f : Nat → Nat} {n : Nat} (hf : ∀ j, j < n → f j < 8) : ∀ (k j : Nat) (tk : Int32) (d : Dm), j + k ≤ n → (roundF τ f k j tk d).2 8 = d 8
  | 0, _, _, _, _ => rfl
  | k + 1, j, tk, d, hk => by
    by_cases h : tk + (nI 20 + d (46 + 6 * f j + 1) / nI 2) ≤ d 5
    · by_cases h2 : entersE τ (easeD d (f j)) (boldD d) (d (46 + 6 * f j + 5)) (d (46 + 6 * f j + 4)) (d 8) = 0
      · rw [roundF_on h h2, roundF_8 hf k (j + 1) _ _ (by omega)]; exact turn_8 (hf j (by omega))
      · rw [roundF_in h h2]
    · rw [roundF_out h]
theorem rD_8 {τ : Nat → List Int32} {d : Dm} (H : DOK d) : (rD τ d).2 8 = d 8 := by
  unfold rD
  split
  · rfl
  · obtain ⟨f, ho⟩ := ord_ex (memD d) (nwD d)
    rw [roundD_eq ho]
    have h8 := H.nw8
    exact roundF_8 (n := nwD d) (fun j hj => by have := ho.1 j hj; omega) _ _ _ _ (by omega)
theorem in_8 {τ : Nat → List Int32} {d : Dm} (H : DOK d) : inD τ d 8 = d 8 := by
  have hr := rD_8 (τ := τ) H
  unfold inD
  split
  · rw [upd_ne (by omega)]; exact hr
  · rename_i c
    obtain ⟨w, hw, e⟩ := rD_in H rfl c
    rw [e, nI_clamp (by omega), come_8 hw]; exact hr
theorem night_8 {τ : Nat → List Int32} {d : Dm} (H : DOK d) : nightD τ d 8 = d 8 + nI 1 := by
  unfold nightD endD
  rw [upd_at, decay_low _ (by omega), in_8 H]
theorem nights_8 {τ : Nat → List Int32} {d : Dm} (H : DOK d) {a : Nat} (e : d 8 = nI a) : ∀ n, nightsD τ d n 8 = nI (a + n)
  | 0 => e
  | n + 1 => by
    show nightD τ (nightsD τ d n) 8 = _
    rw [night_8 (H.nights n), nights_8 H e n, nI_add]; rfl
theorem kp_keep {i : Nat} (h : kpI i) (h8 : i ≠ 8) : keepI i := by unfold kpI at h; unfold keepI; omega
theorem INV.nt {f : Dm} (H : INV s τ τk) (hD : DOK f) (h8 : ix (f 8) 1000) (e : ∀ i, kpI i → i ≠ 8 → f i = s 119 i) : INV (rw2 s 119 f) τ τk := by
  obtain ⟨h0, h1, h2, h3, h4, h5⟩ := H.1.1
  have k : ∀ i, (i = 13 ∨ i = 14 ∨ (28 ≤ i ∧ i < 46) ∨ (110 ≤ i ∧ ¬ (114 ≤ i ∧ i < 134))) → f i = s 119 i := fun i hi => e i (by unfold kpI; omega) (by omega)
  refine H.fw (fun a h => rw2_off h) ?_ ?_ H.1.2.2
  · rw [rw2_at]
    exact ⟨hD, by rw [k _ (by omega)]; exact h1, by rw [k _ (by omega)]; exact h2, h8, fun y hy => by rw [k _ (by omega)]; exact h4 y hy, fun i hi => by rw [k _ (by omega)]; exact h5 i hi⟩
  · rw [rw2_at]
    exact H.1.2.1.same fun i h1 h2 h3 => k i (by omega)
theorem I_nights (H : INV s τ τk) (n : Int32) : INV (Y_nights s τ n).2 τ τk := by
  refine inv_ite (fun _ => H.er) (fun _ => inv_ite (fun _ => H.er) (fun q => ?_))
  show INV (rw2 s 119 (nightsD τ (s 119) n.toNatClampNeg)) τ τk
  generalize n.toNatClampNeg = m at *
  obtain ⟨a, ha, e⟩ := H.t8
  rw [e, cl_ix (show a < 2 ^ 31 by omega)] at q
  exact H.nt (H.d.nights m) ⟨a + m, by omega, nights_8 H.d e m⟩ (fun i hi h8 => nights_off H.d (kp_keep hi h8) m)
theorem care_off {c : Int32} {d : Dm} {i : Nat} (h : kpI i) : careD c d i = d i := by
  unfold kpI at h
  unfold careD
  split
  · rw [upd_ne (by omega), upd_ne (by omega)]
  · rw [upd_ne (by omega)]
theorem DOK.car {d : Dm} {c : Int32} (H : DOK d) : ∀ k, DOK (carD τ c d k)
  | 0 => H
  | k + 1 => (careD_ok (DOK.car H k)).night
theorem car_8 {d : Dm} {c : Int32} (H : DOK d) {a : Nat} (e : d 8 = nI a) : ∀ n, carD τ c d n 8 = nI (a + n)
  | 0 => e
  | n + 1 => by
    show nightD τ (careD c (carD τ c d n)) 8 = _
    rw [night_8 (careD_ok (H.car n)), care_off (by unfold kpI; omega), car_8 H e n, nI_add]; rfl
theorem car_off {d : Dm} {c : Int32} {i : Nat} (H : DOK d) (hi : kpI i) (h8 : i ≠ 8) : ∀ n, carD τ c d n i = d i
  | 0 => rfl
  | n + 1 => by
    show nightD τ (careD c (carD τ c d n)) i = _
    rw [night_off (careD_ok (H.car n)) (kp_keep hi h8), care_off hi, car_off H hi h8 n]
theorem I_careless (H : INV s τ τk) (n v : Int32) : INV (Y_careless s τ n v).2 τ τk := by
  refine inv_ite (fun _ => H.er) (fun _ => inv_ite (fun _ => H.er) (fun q => ?_))
  show INV (rw2 s 119 (carD τ v (s 119) n.toNatClampNeg)) τ τk
  generalize n.toNatClampNeg = m at *
  obtain ⟨a, ha, e⟩ := H.t8
  rw [e, cl_ix (show a < 2 ^ 31 by omega)] at q
  exact H.nt (H.d.car m) ⟨a + m, by omega, car_8 H.d e m⟩ (fun i hi h8 => car_off H.d hi h8 m)
theorem wys_keep {f : Nat → Int32} {sz : Nat} : ∀ (m a : Nat) (d : Dm), DOK d → DOK (wysF f sz m a d).2 ∧ ∀ i, kpI i → (wysF f sz m a d).2 i = d i
  | 0, _, _, H => ⟨H, fun _ _ => rfl⟩
  | m + 1, a, d, H => by
    by_cases c : 3 * a + 3 ≤ sz ∧ nwD d < 8 ∧ isWayP (f (3 * a)) (f (3 * a + 1)) (f (3 * a + 2))
    · rw [wys_y c.1 c.2.1 c.2.2]
      obtain ⟨h1, h2⟩ := wys_keep (f := f) (sz := sz) m (a + 1) _ (H.addw c.2.1 c.2.2)
      exact ⟨h1, fun i hi => (h2 i hi).trans (addW_off c.2.1 hi)⟩
    · rw [wys_n c]; exact ⟨H, fun _ _ => rfl⟩
theorem I_ways (H : INV s τ τk) (w : Int32) : INV (Y_ways s w).2 τ τk := by
  refine inv_ite (fun _ => H.er) (fun _ => inv_ite (fun _ => H.er) (fun q => ?_))
  obtain ⟨h1, h2⟩ := wys_keep (f := fun k => s 130 (40 * w.toNatClampNeg + k)) (sz := (s 129 w.toNatClampNeg).toNatClampNeg) 14 0 _ H.d
  exact H.r h1 h2
theorem I_check (H : INV s τ τk) : INV (Y_check s τ).2 τ τk := by
  obtain ⟨h0, h1, h2, h3, h4, h5⟩ := H.1.1
  refine H.fw (fun a h => u2_off h) ?_ ?_ H.1.2.2
  · show DX (u2 s 119 14 (nI 0) 119)
    rw [u2_row]
    exact ⟨h0.far (by omega), by rw [upd_ne (by omega)]; exact h1, ⟨0, by omega, upd_at⟩, by rw [upd_ne (by omega)]; exact h3, fun y hy => by rw [upd_ne (by omega)]; exact h4 y hy, fun i hi => by rw [upd_ne (by omega)]; exact h5 i hi⟩
  · show TXD (u2 s 119 14 (nI 0) 119) τ
    rw [u2_row]
    exact H.1.2.1.same fun i h1 h2 h3 => upd_ne (by omega)
theorem I_image (H : INV s τ τk) : INV (Y_image s).2 τ τ := by
  show INV (u2 (rw2 s 121 (s 119)) 118 3 (s 118 3 + nI 1)) τ τ
  refine ⟨?_, Or.inr ?_, fun i hi => ?_, ?_⟩
  · rw [u2_off (by omega), rw2_off (by omega)]; exact H.1
  · rw [u2_off (by omega), rw2_at]; exact H.1
  · rw [u2_off (by omega), rw2_off (by omega), u2_off (by omega), rw2_off (by omega)]; exact H.2.2.1 i hi
  · rw [u2_ne (by omega), rw2_off (by omega)]; exact H.2.2.2
theorem I_restore (H : INV s τ τk) : INV (Y_restore s).2 (tauR s τ τk) τk := by
  refine inv_ite (fun q => ?_) (fun q => ?_)
  · rw [tauR_0 q]; exact H.er
  · rw [tauR_1 q]
    obtain ⟨h1, h2, h3⟩ := H.2.1.resolve_left q
    show INV (rw2 s 119 (s 121)) τk τk
    exact H.fw (fun a h => rw2_off h) (by rw [rw2_at]; exact h1) (by rw [rw2_at]; exact h2) h3
theorem I_sheet (H : INV s τ τk) (w b n : Int32) : INV (Y_sheet s w b n).2 τ τk := by
  refine inv_ite (fun _ => H.er) (fun q => inv_ite (fun _ => H.er) (fun q2 => inv_ite (fun _ => H.er) (fun q3 => ?_)))
  obtain ⟨⟨j, hj, rfl⟩, hb⟩ := Classical.not_not.mp q
  rw [cl_ix (show j < 2 ^ 31 by omega)]
  have hz : ∃ m, m ≤ 40 ∧ (if b = nI 0 then nI 0 else n) = nI m ∧ (b = nI 0 → m = 0) := by
    by_cases e : b = nI 0
    · exact ⟨0, by omega, if_pos e, fun _ => rfl⟩
    · have h1 : ¬ n < nI 0 := fun h => q2 ⟨e, h⟩
      have h2 : ¬ nI 40 < n := fun h => q3 ⟨e, h⟩
      rw [i32_lt] at h1 h2
      obtain ⟨m, hm, e2⟩ : ix n 41 := by
        rw [show (41 : Nat) = 40 + 1 from rfl, ← in_ix (by decide), i32_le, i32_le]; omega
      exact ⟨m, by omega, by rw [if_neg e]; exact e2, fun h => absurd h e⟩
  show INV (rw2 (u2 (u2 s 128 j b) 129 j (if b = nI 0 then nI 0 else n)) 130 (zerR (s 130) (40 * j) 40)) τ τk
  refine H.o ?_ ?_ ?_ (fun i hi => ?_) ?_
  · rw [rw2_off (by omega), u2_off (by omega), u2_off (by omega)]
  · rw [rw2_off (by omega), u2_off (by omega), u2_off (by omega)]
  · rw [rw2_off (by omega), u2_off (by omega), u2_off (by omega)]
  · rw [rw2_off (by omega), rw2_off (by omega), u2_off (show (128 : Nat) ≠ 129 by omega), u2_row, u2_row, u2_off (show (129 : Nat) ≠ 128 by omega)]
    by_cases e : i = j
    · subst e; rw [upd_at, upd_at]; exact ⟨hb, hz⟩
    · rw [upd_ne e, upd_ne e]; exact H.2.2.1 i hi
  · rw [rw2_off (by omega), u2_off (by omega), u2_off (by omega)]; exact H.2.2.2
theorem I_put (H : INV s τ τk) (w i v : Int32) : INV (Y_put s w i v).2 τ τk := by
  refine inv_ite (fun _ => H.er) (fun _ => inv_ite (fun _ => H.er) (fun _ => inv_ite (fun _ => ?_) (fun _ => H.er)))
  exact H.off (fun a _ _ h => u2_off h)
theorem I_move (H : INV s τ τk) (w i o j n : Int32) : INV (Y_move s w i o j n).2 τ τk := by
  refine inv_ite (fun _ => H.er) (fun _ => inv_ite (fun _ => H.er) (fun _ => inv_ite (fun _ => H.er) (fun _ => inv_ite (fun _ => H.er) (fun _ => ?_))))
  exact H.off (fun a _ _ h => rw2_off h)
theorem vcVt_40 {o a : Nat} (h : o < 7) (ha : a < 4) : (vcVt o a).length ≤ 40 := by
  have : ∀ o, o < 7 → ∀ a, a < 4 → (vcVt o a).length ≤ 40 := by decide
  exact this o h a ha
theorem I_voice (H : INV s τ τk) (w k x : Int32) : INV (Y_voice s w k x).2 τ τk := by
  refine inv_ite (fun _ => H.er) (fun q => ?_)
  obtain ⟨⟨j, hj, rfl⟩, ⟨a, ha, rfl⟩⟩ := Classical.not_not.mp q
  have h8 := H.d.nw8
  obtain ⟨o, ho, eo⟩ := H.d.kd (w := j) (by omega)
  have hl : (vcVt (s 119 (46 + 6 * (nI j).toNatClampNeg + 0)).toNatClampNeg (nI a).toNatClampNeg).length ≤ 40 := by
    rw [cl_ix (show j < 2 ^ 31 by omega), cl_ix (show a < 2 ^ 31 by omega), Nat.add_zero, eo, cl_ix (show o < 2 ^ 31 by omega)]
    exact vcVt_40 ho ha
  show INV (VS s (vcVt (s 119 (46 + 6 * (nI j).toNatClampNeg + 0)).toNatClampNeg (nI a).toNatClampNeg)) τ τk
  generalize vcVt (s 119 (46 + 6 * (nI j).toNatClampNeg + 0)).toNatClampNeg (nI a).toNatClampNeg = L at *
  unfold VS
  refine H.o ?_ ?_ ?_ (H.2.2.1.same ?_ ?_) ⟨L.length, hl, u2_at⟩
  · rw [u2_off (by omega), rw2_off (by omega)]
  · rw [u2_off (by omega), rw2_off (by omega)]
  · rw [u2_ne (by omega), rw2_off (by omega)]
  · rw [u2_off (by omega), rw2_off (by omega)]
  · rw [u2_off (by omega), rw2_off (by omega)]
/-! texts -/
theorem txt_off {d : Dm} {u n k : Nat} (h : ¬ (134 + 50 * u ≤ k ∧ k < 134 + 50 * u + n)) (h2 : k ≠ 110 + u) (h3 : k ≠ 13) : txtR d u n n k = d k := by unfold txtR; rw [if_neg h, if_neg h2, if_neg h3]
theorem TXD.new {d : Dm} {u n : Nat} (H : TXD d τ) (hu : u < 3) (h0 : 0 < n) (hn : n ≤ 50) (hF : faultP (bytD d 284 n) n u = none) : TXD (txtR d u n n) (fun v => if v = u then (parseE (bytD d 284 n) n u).1 else τ v) := by
  intro v hv
  by_cases e : v = u
  · subst e
    have eb : bytD (txtR d v n n) (134 + 50 * v) n = bytD d 284 n := byt_cong fun i hi => by
      unfold txtR
      rw [if_pos (by omega)]
      congr 1; omega
    refine Or.inr ⟨n, h0, hn, ?_, by rw [eb]; exact hF, by rw [eb]; exact if_pos rfl⟩
    unfold txtR
    rw [if_neg (by omega), if_pos rfl]
  · have eb : ∀ m, m ≤ 50 → bytD (txtR d u n n) (134 + 50 * v) m = bytD d (134 + 50 * v) m := fun m hm => byt_cong fun i hi => txt_off (by omega) (by omega) (by omega)
    have e1 : txtR d u n n (110 + v) = d (110 + v) := txt_off (by omega) (by omega) (by omega)
    rcases H v hv with ⟨h1, h2⟩ | ⟨m, m0, m5, h1, h2, h3⟩
    · exact Or.inl ⟨e1.trans h1, (if_neg e).trans h2⟩
    · exact Or.inr ⟨m, m0, m5, e1.trans h1, by rw [eb m m5]; exact h2, by rw [eb m m5]; exact (if_neg e).trans h3⟩
theorem I_text (H : INV s τ τk) (w : Int32) : INV (Y_text s w).2 (tauT s τ w) τk := by
  by_cases hw : ix w 3
  · obtain ⟨j, hj, rfl⟩ := hw
    obtain ⟨n, hn, e⟩ := H.t13
    obtain ⟨h0, h1, h2, h3, h4, h5⟩ := H.1.1
    have eY : Y_text s (nI j) = textY s j n (faultP (bytD (s 119) 284 n) n j) := by
      unfold Y_text
      rw [@if_neg _ (Classical.propDecidable _) (fun q => q ⟨j, hj, rfl⟩), e, cl_ix (show j < 2 ^ 31 by omega), cl_ix (show n < 2 ^ 31 by omega)]
    rw [eY]
    cases hF : faultP (bytD (s 119) 284 n) n j with
    | some p =>
      rw [tauT_f hj hn e hF]
      show INV (u2 s 119 13 (nI 0)) τ τk
      refine H.fw (fun a h => u2_off h) ?_ ?_ H.1.2.2
      · rw [u2_row]
        exact ⟨h0.far (by omega), ⟨0, by omega, upd_at⟩, by rw [upd_ne (by omega)]; exact h2, by rw [upd_ne (by omega)]; exact h3, fun y hy => by rw [upd_ne (by omega)]; exact h4 y hy, fun i hi => by rw [upd_ne (by omega)]; exact h5 i hi⟩
      · rw [u2_row]
        exact H.1.2.1.same fun i h1 h2 h3 => upd_ne (by omega)
    | none =>
      rw [tauT_g hj hn e hF]
      show INV (rw2 s 119 (txtR (s 119) j n n)) _ τk
      have hn0 : 0 < n := by
        rcases Nat.eq_zero_or_pos n with h | h
        · subst h; exact absurd hF fault_0
        · exact h
      refine H.fw (fun a h => rw2_off h) ?_ ?_ (H.1.2.2.new (parse_gc hF))
      · rw [rw2_at]
        refine ⟨h0.cong fun i hi => txt_off (by omega) (by omega) (by omega), ⟨0, by omega, ?_⟩, by rw [txt_off (by omega) (by omega) (by omega)]; exact h2, by rw [txt_off (by omega) (by omega) (by omega)]; exact h3, fun y hy => by rw [txt_off (by omega) (by omega) (by omega)]; exact h4 y hy, fun i hi => by rw [txt_off (by omega) (by omega) (by omega)]; exact h5 i hi⟩
        unfold txtR
        rw [if_neg (by omega), if_neg (by omega), if_pos rfl]
      · rw [rw2_at]
        exact H.1.2.1.new hj hn0 hn hF
  · rw [tauT_e hw]
    unfold Y_text
    rw [@if_pos _ (Classical.propDecidable _) hw]
    exact H.er
theorem I_loss (H : INV s τ τk) (n : Int32) : INV (Y_loss s τ n).2 τ τk := by
  refine inv_ite (fun _ => H.er) (fun _ => ?_)
  cases lossF τ (s 119) n.toNatClampNeg 1 with
  | none => exact H.er
  | some k => exact H
theorem I_odds (H : INV s τ τk) (pq n k : Int32) : INV (Y_odds s pq n k).2 τ τk := by
  unfold Y_odds
  by_cases q : oddOK pq n k
  · rw [@if_pos _ (Classical.propDecidable _) q]; exact H
  · rw [@if_neg _ (Classical.propDecidable _) q]; exact H.er
theorem I_ofWay (H : INV s τ τk) (w k : Int32) : INV (Y_ofWay s w k).2 τ τk := by
  unfold Y_ofWay
  repeat' (with_reducible refine inv_ite (fun _ => ?_) (fun _ => ?_))
  all_goals (first | with_reducible exact H.er | with_reducible exact H)
theorem I_as (H : INV s τ τk) (w k : Int32) : INV (Y_as s w k).2 τ τk := by
  unfold Y_as
  repeat' (with_reducible refine inv_ite (fun _ => ?_) (fun _ => ?_))
  all_goals (first | with_reducible exact H.er | with_reducible exact H)
theorem I_ofThing (H : INV s τ τk) (w k : Int32) : INV (Y_ofThing s w k).2 τ τk := by
  unfold Y_ofThing
  repeat' (with_reducible refine inv_ite (fun _ => ?_) (fun _ => ?_))
  all_goals (first | with_reducible exact H.er | with_reducible exact H)
theorem I_bold (H : INV s τ τk) : INV (Y_bold s).2 τ τk := by
  unfold Y_bold
  repeat' (with_reducible refine inv_ite (fun _ => ?_) (fun _ => ?_))
  all_goals (first | with_reducible exact H.er | with_reducible exact H)
theorem I_told (H : INV s τ τk) (k : Int32) : INV (Y_told s k).2 τ τk := by
  unfold Y_told
  repeat' (with_reducible refine inv_ite (fun _ => ?_) (fun _ => ?_))
  all_goals (first | with_reducible exact H.er | with_reducible exact H)
theorem I_count (H : INV s τ τk) (k : Int32) : INV (Y_count s k).2 τ τk := by
  unfold Y_count
  repeat' (with_reducible refine inv_ite (fun _ => ?_) (fun _ => ?_))
  all_goals (first | with_reducible exact H.er | with_reducible exact H)
theorem I_harm (H : INV s τ τk) (w : Int32) : INV (Y_harm s w).2 τ τk := by
  unfold Y_harm
  repeat' (with_reducible refine inv_ite (fun _ => ?_) (fun _ => ?_))
  all_goals (first | with_reducible exact H.er | with_reducible exact H)
theorem I_clock (H : INV s τ τk) : INV (Y_clock s).2 τ τk := by
  unfold Y_clock
  repeat' (with_reducible refine inv_ite (fun _ => ?_) (fun _ => ?_))
  all_goals (first | with_reducible exact H.er | with_reducible exact H)
theorem I_trace (H : INV s τ τk) (w : Int32) : INV (Y_trace s w).2 τ τk := by
  unfold Y_trace
  repeat' (with_reducible refine inv_ite (fun _ => ?_) (fun _ => ?_))
  all_goals (first | with_reducible exact H.er | with_reducible exact H)
theorem I_then (H : INV s τ τk) (n k : Int32) : INV (Y_then s τ n k).2 τ τk := by
  unfold Y_then
  repeat' (with_reducible refine inv_ite (fun _ => ?_) (fun _ => ?_))
  all_goals (first | with_reducible exact H.er | with_reducible exact H)
theorem I_thenWay (H : INV s τ τk) (n w k : Int32) : INV (Y_thenWay s τ n w k).2 τ τk := by
  unfold Y_thenWay
  repeat' (with_reducible refine inv_ite (fun _ => ?_) (fun _ => ?_))
  all_goals (first | with_reducible exact H.er | with_reducible exact H)
theorem I_by (H : INV s τ τk) : INV (Y_by s τ).2 τ τk := by
  unfold Y_by
  repeat' (with_reducible refine inv_ite (fun _ => ?_) (fun _ => ?_))
  all_goals (first | with_reducible exact H.er | with_reducible exact H)
theorem I_off (H : INV s τ τk) (w : Int32) : INV (Y_off s τ w).2 τ τk := by
  unfold Y_off
  repeat' (with_reducible refine inv_ite (fun _ => ?_) (fun _ => ?_))
  all_goals (first | with_reducible exact H.er | with_reducible exact H)
theorem I_hungry (H : INV s τ τk) (w : Int32) : INV (Y_hungry s τ w).2 τ τk := by
  unfold Y_hungry
  repeat' (with_reducible refine inv_ite (fun _ => ?_) (fun _ => ?_))
  all_goals (first | with_reducible exact H.er | with_reducible exact H)
theorem I_law (H : INV s τ τk) (w a b c : Int32) : INV (Y_law s τ w a b c).2 τ τk := by
  unfold Y_law
  repeat' (with_reducible refine inv_ite (fun _ => ?_) (fun _ => ?_))
  all_goals (first | with_reducible exact H.er | with_reducible exact H)
theorem I_mends (H : INV s τ τk) (c n k : Int32) : INV (Y_mends s τ c n k).2 τ τk := by
  unfold Y_mends
  repeat' (with_reducible refine inv_ite (fun _ => ?_) (fun _ => ?_))
  all_goals (first | with_reducible exact H.er | with_reducible exact H)
theorem I_hangs (H : INV s τ τk) (n i : Int32) : INV (Y_hangs s τ n i).2 τ τk := by
  unfold Y_hangs
  repeat' (with_reducible refine inv_ite (fun _ => ?_) (fun _ => ?_))
  all_goals (first | with_reducible exact H.er | with_reducible exact H)
theorem I_village (H : INV s τ τk) (k : Int32) : INV (Y_village s k).2 τ τk := by
  unfold Y_village
  repeat' (with_reducible refine inv_ite (fun _ => ?_) (fun _ => ?_))
  all_goals (first | with_reducible exact H.er | with_reducible exact H)
end INVS
