/-! the class's side of the state s: c is the memory at the call's start, of which the reference's places stay -/
def CXi (h s : Mm) (τk : Nat → List Int32) : Prop := h 0 2 = s 118 3 ∧ (s 118 3 = nI 0 ∨ WX 39 h (s 121) τk)
def CXe (h s : Mm) : Prop := ∀ k, 1 ≤ k → k < 6 → h 109 k = s 122 k
def CXt (h s : Mm) : Prop := h 106 1 = s 118 16 ∧ ∀ k, k < (s 118 16).toNatClampNeg → h 107 k = s 127 k
def CXs (h s : Mm) : Prop := ∀ i, i < 4 → h (110 + 2 * i) 0 = s 128 i ∧ h (110 + 2 * i) 1 = s 129 i ∧ ∀ k, k < 40 → h (111 + 2 * i) k = s 130 (40 * i + k)
def CX (c h s : Mm) (τ τk : Nat → List Int32) : Prop := WX 1 h (s 119) τ ∧ CXi h s τk ∧ CXe h s ∧ CXt h s ∧ CXs h s ∧ ∀ a, 118 ≤ a → h a = c a
theorem CXi.far {h h2 s s2 : Mm} {τk : Nat → List Int32} (H : CXi h s τk) (h0 : h2 0 2 = h 0 2) (e : ∀ a, 39 ≤ a → a < 77 → h2 a = h a) (s1 : s2 118 3 = s 118 3) (s2' : s2 121 = s 121) : CXi h2 s2 τk :=
  ⟨h0.trans (H.1.trans s1.symm), H.2.imp (fun q => s1.trans q) (fun q => by rw [s2']; exact q.far (fun a q1 q2 => e a q1 (by omega)))⟩
theorem CXe.far {h h2 s s2 : Mm} (H : CXe h s) (e : h2 109 = h 109) (e2 : s2 122 = s 122) : CXe h2 s2 := fun k k1 k2 => by rw [e, e2]; exact H k k1 k2
theorem CXt.far {h h2 s s2 : Mm} (H : CXt h s) (e : h2 106 1 = h 106 1) (e1 : h2 107 = h 107) (e2 : s2 118 16 = s 118 16) (e3 : s2 127 = s 127) : CXt h2 s2 := ⟨e.trans (H.1.trans e2.symm), fun k hk => by rw [e1, e3]; rw [e2] at hk; exact H.2 k hk⟩
theorem CXs.far {h h2 s s2 : Mm} (H : CXs h s) (e : ∀ a, 110 ≤ a → a < 118 → h2 a = h a) (e1 : s2 128 = s 128) (e2 : s2 129 = s 129) (e3 : s2 130 = s 130) : CXs h2 s2 := fun i hi => by
  rw [e _ (by omega) (by omega), e _ (by omega) (by omega), e1, e2, e3]; exact H i hi
/-- the world alone has changed -/
theorem CX.fw {c h h2 s s2 : Mm} {τ τ' τk : Nat → List Int32} (H : CX c h s τ τk) (hW : WX 1 h2 (s2 119) τ') (F : FrO 1 39 h h2) (hs : ∀ a, a ≠ 119 → s2 a = s a) : CX c h2 s2 τ' τk :=
  ⟨hW, H.2.1.far (by rw [F 0 (by omega)]) (fun a q1 _ => F a (by omega)) (by rw [hs 118 (by omega)]) (hs 121 (by omega)), H.2.2.1.far (F 109 (by omega)) (hs 122 (by omega)), H.2.2.2.1.far (by rw [F 106 (by omega)]) (F 107 (by omega)) (by rw [hs 118 (by omega)]) (hs 127 (by omega)),
   H.2.2.2.2.1.far (fun a q1 _ => F a (by omega)) (hs 128 (by omega)) (hs 129 (by omega)) (hs 130 (by omega)), fun a ha => (F a (by omega)).trans (H.2.2.2.2.2 a ha)⟩
theorem CX.w2 {c h s : Mm} {a k i : Nat} {v v' : Int32} {τ τk : Nat → List Int32} (H : CX c h s τ τk) (hW : WX 1 (u2 h a k v) (upd (s 119) i v') τ) (h1 : 1 ≤ a) (h2 : a < 39) : CX c (u2 h a k v) (u2 s 119 i v') τ τk :=
  H.fw (by rw [u2_row]; exact hW) (FrO.u FrO.r h1 h2) (fun x hx => u2_off hx)
theorem CX.wr {c h h2 s : Mm} {d : Dm} {τ τ' τk : Nat → List Int32} (H : CX c h s τ τk) (hW : WX 1 h2 d τ') (F : FrO 1 39 h h2) : CX c h2 (rw2 s 119 d) τ' τk :=
  H.fw (by rw [rw2_at]; exact hW) F (fun x hx => rw2_off hx)
/-! changes of a world -/
section WXS
variable {h : Mm} {d : Dm} {τ : Nat → List Int32}
theorem WX.lo {h2 : Mm} {d2 : Dm} (H : WX 1 h d τ) (hR : RH 2 h2 d2) (F : FrN 2 h h2) (e : ∀ i, (12 ≤ i ∧ i < 46) ∨ 109 ≤ i → d2 i = d i) : WX 1 h2 d2 τ := by
  obtain ⟨h1, hL, hV, ⟨h4, h5, h6⟩, h7, h8, h9⟩ := H
  have f : ∀ a, (a < 2 ∨ 31 ≤ a) → h2 a = h a := fun a ha => F a (by omega) (by omega) (by omega) (by omega) (by omega)
  refine ⟨hR, hL.N hB_2 F, fun y hy => ?_, ⟨fun k hk => ?_, fun k hk => ?_, fun k hk => ?_⟩, ?_, ?_, ?_⟩
  · rw [f _ (by omega), f _ (by omega), f _ (by omega), e _ (by omega), e _ (by omega), e _ (by omega)]; exact hV y hy
  · rw [f _ (by omega), e _ (by omega)]; exact h4 k hk
  · rw [f _ (by omega), e _ (by omega)]; exact h5 k hk
  · rw [f _ (by omega), e _ (by omega)]; exact h6 k hk
  · rw [f _ (by omega), e _ (by omega)]; exact h7
  · rw [f _ (by omega), e _ (by omega)]; exact h8
  · rw [f _ (by omega), e _ (by omega)]; exact h9
theorem WX.n (H : WX 1 h d τ) {k : Nat} {v : Int32} (hk : k < 8) : WX 1 (u2 h 3 k v) (upd d k v) τ := H.lo (H.1.setn hk) (FrN.r.u (by omega) (by omega)) (fun i hi => upd_ne (by omega))
theorem WX.w (H : WX 1 h d τ) {w k : Nat} {v : Int32} (hw : w < 8) (hk : k < 6) : WX 1 (u2 h (2 + 3 + w) k v) (upd d (46 + 6 * w + k) v) τ := H.lo (H.1.setw hw hk) (FrN.r.u (by omega) (by omega)) (fun i hi => upd_ne (by omega))
theorem WX.t (H : WX 1 h d τ) {t k : Nat} {v : Int32} (ht : t < 5) (hk : k < 3) : WX 1 (u2 h (2 + 12 + t) k v) (upd d (94 + 3 * t + k) v) τ := H.lo (H.1.sett ht hk) (FrN.r.u (by omega) (by omega)) (fun i hi => upd_ne (by omega))
theorem RH.off {b a k : Nat} {v : Int32} (H : RH b h d) (ha : a < b ∨ b + 18 ≤ a) : RH b (u2 h a k v) d := H.far (fun x q1 q2 => u2_off (by omega))
theorem LX.off {b a k : Nat} {v : Int32} (H : LX b h τ) (ha : a < b ∨ b + 11 ≤ a) : LX b (u2 h a k v) τ := H.far (fun x q1 q2 => u2_off (by omega))
theorem RH.dd {b : Nat} {d2 : Dm} (H : RH b h d) (e : ∀ i, i < 12 ∨ (46 ≤ i ∧ i < 109) → d2 i = d i) : RH b h d2 :=
  ⟨fun k hk => (H.n hk).trans (e k (by omega)).symm, ⟨H.o8.trans (e 8 (by omega)).symm, H.o9.trans (e 9 (by omega)).symm, H.oA.trans (e 10 (by omega)).symm, H.oB.trans (e 11 (by omega)).symm⟩, fun w k hw hk => (H.w hw hk).trans (e _ (by omega)).symm, fun t k ht hk => (H.t ht hk).trans (e _ (by omega)).symm⟩
theorem VX.off {b a k : Nat} {v : Int32} (H : VX b h d) (ha : a < b ∨ b + 5 ≤ a) : VX b (u2 h a k v) d := H.far (fun x q1 q2 => u2_off (by omega))
theorem VX.dd {b : Nat} {d2 : Dm} (H : VX b h d) (e : ∀ i, 28 ≤ i ∧ i < 46 → d2 i = d i) : VX b h d2 := fun y hy => by rw [e _ (by omega), e _ (by omega), e _ (by omega)]; exact H y hy
theorem WX.wt (H : WX 1 h d τ) {k : Nat} {v : Int32} (hk : k < 20) : WX 1 (u2 h 37 k v) (upd d (114 + k) v) τ := by
  obtain ⟨h1, hL, hV, ⟨h4, h5, h6⟩, h7, h8, h9⟩ := H
  refine ⟨(h1.off (by omega)).dd (fun i hi => upd_ne (by omega)), hL.off (by omega), (hV.off (by omega)).dd (fun i hi => upd_ne (by omega)), ⟨fun j hj => ?_, fun j hj => ?_, fun j hj => ?_⟩, ?_, ?_, ?_⟩
  · rw [u2_ne (by omega), upd_ne (by omega)]; exact h4 j hj
  · by_cases e : j = k
    · subst e; rw [u2_at, upd_at]
    · rw [u2_ne (by omega), upd_ne (by omega)]; exact h5 j hj
  · rw [u2_ne (by omega), upd_ne (by omega)]; exact h6 j hj
  · rw [u2_ne (by omega), upd_ne (by omega)]; exact h7
  · rw [u2_ne (by omega), upd_ne (by omega)]; exact h8
  · rw [u2_ne (by omega), upd_ne (by omega)]; exact h9
theorem WX.du (H : WX 1 h d τ) {k : Nat} {v : Int32} (hk : k < 12) : WX 1 (u2 h 38 k v) (upd d (16 + k) v) τ := by
  obtain ⟨h1, hL, hV, ⟨h4, h5, h6⟩, h7, h8, h9⟩ := H
  refine ⟨(h1.off (by omega)).dd (fun i hi => upd_ne (by omega)), hL.off (by omega), (hV.off (by omega)).dd (fun i hi => upd_ne (by omega)), ⟨fun j hj => ?_, fun j hj => ?_, fun j hj => ?_⟩, ?_, ?_, ?_⟩
  · rw [u2_ne (by omega), upd_ne (by omega)]; exact h4 j hj
  · rw [u2_ne (by omega), upd_ne (by omega)]; exact h5 j hj
  · by_cases e : j = k
    · subst e; rw [u2_at, upd_at]
    · rw [u2_ne (by omega), upd_ne (by omega)]; exact h6 j hj
  · rw [u2_ne (by omega), upd_ne (by omega)]; exact h7
  · rw [u2_ne (by omega), upd_ne (by omega)]; exact h8
  · rw [u2_ne (by omega), upd_ne (by omega)]; exact h9
theorem WX.tp (H : WX 1 h d τ) {k : Nat} {v v' : Int32} (hk : k < 50) (hv : v = v'.toInt8.toInt32) : WX 1 (u2 h 36 k v) (upd d (284 + k) v') τ := by
  obtain ⟨h1, hL, hV, ⟨h4, h5, h6⟩, h7, h8, h9⟩ := H
  refine ⟨(h1.off (by omega)).dd (fun i hi => upd_ne (by omega)), hL.off (by omega), (hV.off (by omega)).dd (fun i hi => upd_ne (by omega)), ⟨fun j hj => ?_, fun j hj => ?_, fun j hj => ?_⟩, ?_, ?_, ?_⟩
  · by_cases e : j = k
    · subst e; rw [u2_at, upd_at]; exact hv
    · rw [u2_ne (by omega), upd_ne (by omega)]; exact h4 j hj
  · rw [u2_ne (by omega), upd_ne (by omega)]; exact h5 j hj
  · rw [u2_ne (by omega), upd_ne (by omega)]; exact h6 j hj
  · rw [u2_ne (by omega), upd_ne (by omega)]; exact h7
  · rw [u2_ne (by omega), upd_ne (by omega)]; exact h8
  · rw [u2_ne (by omega), upd_ne (by omega)]; exact h9
theorem WX.o (H : WX 1 h d τ) {k i : Nat} {v : Int32} (hk : (k = 4 ∧ i = 13) ∨ (k = 6 ∧ i = 14) ∨ (k = 8 ∧ i = 12)) : WX 1 (u2 h 1 k v) (upd d i v) τ := by
  obtain ⟨h1, hL, hV, ⟨h4, h5, h6⟩, h7, h8, h9⟩ := H
  refine ⟨(h1.off (by omega)).dd (fun i hi => upd_ne (by omega)), hL.off (by omega), (hV.off (by omega)).dd (fun i hi => upd_ne (by omega)), ⟨fun j hj => ?_, fun j hj => ?_, fun j hj => ?_⟩, ?_, ?_, ?_⟩
  · rw [u2_ne (by omega), upd_ne (by omega)]; exact h4 j hj
  · rw [u2_ne (by omega), upd_ne (by omega)]; exact h5 j hj
  · rw [u2_ne (by omega), upd_ne (by omega)]; exact h6 j hj
  · rcases hk with ⟨rfl, rfl⟩ | ⟨rfl, rfl⟩ | ⟨rfl, rfl⟩ <;> first | (rw [u2_at, upd_at]; done) | (rw [u2_ne (by omega), upd_ne (by omega)]; exact h7)
  · rcases hk with ⟨rfl, rfl⟩ | ⟨rfl, rfl⟩ | ⟨rfl, rfl⟩ <;> first | (rw [u2_at, upd_at]; done) | (rw [u2_ne (by omega), upd_ne (by omega)]; exact h8)
  · rcases hk with ⟨rfl, rfl⟩ | ⟨rfl, rfl⟩ | ⟨rfl, rfl⟩ <;> first | (rw [u2_at, upd_at]; done) | (rw [u2_ne (by omega), upd_ne (by omega)]; exact h9)
theorem WX.yd (H : WX 1 h d τ) {a y i : Nat} {v : Int32} (hy : y < 6) (hk : (a = 32 ∧ i = 28 + 3 * y) ∨ (a = 33 ∧ i = 28 + 3 * y + 1) ∨ (a = 34 ∧ i = 28 + 3 * y + 2)) : WX 1 (u2 h a y v) (upd d i v) τ := by
  obtain ⟨h1, hL, hV, ⟨h4, h5, h6⟩, h7, h8, h9⟩ := H
  refine ⟨(h1.off (by omega)).dd (fun i hi => upd_ne (by omega)), hL.off (by omega), fun z hz => ?_, ⟨fun j hj => ?_, fun j hj => ?_, fun j hj => ?_⟩, ?_, ?_, ?_⟩
  · obtain ⟨v1, v2, v3⟩ := hV z hz
    refine ⟨?_, ?_, ?_⟩
    · rcases hk with ⟨rfl, rfl⟩ | ⟨rfl, rfl⟩ | ⟨rfl, rfl⟩
      · by_cases e : z = y
        · subst e; rw [u2_at, upd_at]
        · rw [u2_ne (by omega), upd_ne (by omega)]; exact v1
      · rw [u2_ne (by omega), upd_ne (by omega)]; exact v1
      · rw [u2_ne (by omega), upd_ne (by omega)]; exact v1
    · rcases hk with ⟨rfl, rfl⟩ | ⟨rfl, rfl⟩ | ⟨rfl, rfl⟩
      · rw [u2_ne (by omega), upd_ne (by omega)]; exact v2
      · by_cases e : z = y
        · subst e; rw [u2_at, upd_at]
        · rw [u2_ne (by omega), upd_ne (by omega)]; exact v2
      · rw [u2_ne (by omega), upd_ne (by omega)]; exact v2
    · rcases hk with ⟨rfl, rfl⟩ | ⟨rfl, rfl⟩ | ⟨rfl, rfl⟩
      · rw [u2_ne (by omega), upd_ne (by omega)]; exact v3
      · rw [u2_ne (by omega), upd_ne (by omega)]; exact v3
      · by_cases e : z = y
        · subst e; rw [u2_at, upd_at]
        · rw [u2_ne (by omega), upd_ne (by omega)]; exact v3
  · rw [u2_ne (by omega), upd_ne (by omega)]; exact h4 j hj
  · rw [u2_ne (by omega), upd_ne (by omega)]; exact h5 j hj
  · rw [u2_ne (by omega), upd_ne (by omega)]; exact h6 j hj
  · rw [u2_ne (by omega), upd_ne (by omega)]; exact h7
  · rw [u2_ne (by omega), upd_ne (by omega)]; exact h8
  · rw [u2_ne (by omega), upd_ne (by omega)]; exact h9
theorem WX.Y (H : WX 1 h d τ) {y : Nat} (hy : y < 6) : h 32 y = d (28 + 3 * y) ∧ h 33 y = d (28 + 3 * y + 1) ∧ h 34 y = d (28 + 3 * y + 2) := H.2.2.1 y hy
end WXS
/-! what an answer of the class's is -/
/-- only what is made anew at each use has changed -/
def scrA (a : Nat) : Prop := a = 2 ∨ a = 19 ∨ a = 23 ∨ a = 26 ∨ a = 29 ∨ a = 30 ∨ a = 31 ∨ a = 35 ∨ (77 ≤ a ∧ a ≤ 105)
def FrS (h h2 : Mm) : Prop := (∀ a, ¬ scrA a → h2 a = h a) ∧ ∀ k, k ≠ 7 → h2 2 k = h 2 k
theorem FrS.r {h : Mm} : FrS h h := ⟨fun _ _ => rfl, fun _ _ => rfl⟩
theorem FrS.t {h h1 h2 : Mm} (H : FrS h h1) (H2 : FrS h1 h2) : FrS h h2 := ⟨fun a q => (H2.1 a q).trans (H.1 a q), fun k q => (H2.2 k q).trans (H.2 k q)⟩
theorem FrS.u {h h1 : Mm} {a k : Nat} {v : Int32} (H : FrS h h1) (ha : scrA a) (h2 : a ≠ 2) : FrS h (u2 h1 a k v) := ⟨fun x q => (u2_off (fun (e : x = a) => q (by rw [e]; exact ha))).trans (H.1 x q), fun j q => (u2_ne (by omega)).trans (H.2 j q)⟩
theorem FrS.w {h h1 : Mm} {a : Nat} {f : Nat → Int32} (H : FrS h h1) (ha : scrA a) (h2 : a ≠ 2) : FrS h (rw2 h1 a f) := ⟨fun x q => (rw2_off (fun (e : x = a) => q (by rw [e]; exact ha))).trans (H.1 x q), fun j q => by rw [rw2_off (fun e => h2 e.symm)]; exact H.2 j q⟩
theorem FrN.S {h h2 : Mm} (H : FrN 78 h h2) : FrS h h2 := ⟨fun a q => by unfold scrA at q; exact H a (by omega) (by omega) (by omega) (by omega) (by omega), fun k _ => by rw [H 2 (by omega) (by omega) (by omega) (by omega) (by omega)]⟩
theorem FrO.S {lo hi : Nat} {h h2 : Mm} (H : FrO lo hi h h2) (h1 : 77 ≤ lo) (h2' : hi ≤ 106) : FrS h h2 := ⟨fun a q => by unfold scrA at q; exact H a (by omega), fun k _ => by rw [H 2 (by omega)]⟩
theorem FrL.S {h h2 : Mm} (H : FrL h h2) : FrS h h2 := ⟨fun a q => by unfold scrA at q; exact H a (by omega) (by omega) (by omega) (by omega), fun k _ => by rw [H 2 (by omega) (by omega) (by omega) (by omega)]⟩
theorem CX.sc {c h h2 s : Mm} {τ τk : Nat → List Int32} (H : CX c h s τ τk) (F : FrS h h2) : CX c h2 s τ τk := by
  have f : ∀ a, ¬ scrA a → h2 a = h a := F.1
  obtain ⟨⟨h1, hL, hV, ⟨h4, h5, h6⟩, h7, h8, h9⟩, hi, he, ht, hs, hc⟩ := H
  have g : ∀ a, (a ≤ 1 ∨ (3 ≤ a ∧ a ≤ 18) ∨ (20 ≤ a ∧ a ≤ 22) ∨ a = 24 ∨ a = 25 ∨ a = 27 ∨ a = 28 ∨ (32 ≤ a ∧ a ≤ 34) ∨ (36 ≤ a ∧ a ≤ 76) ∨ 106 ≤ a) → h2 a = h a := fun a ha => f a (by unfold scrA; omega)
  refine ⟨⟨⟨fun k hk => ?_, ⟨?_, ?_, ?_, ?_⟩, fun w k hw hk => ?_, fun t k ht hk => ?_⟩, ⟨hL.1.far (by rw [g _ (by omega)]) (g _ (by omega)), hL.2.1.far (by rw [g _ (by omega)]) (g _ (by omega)), hL.2.2.far (by rw [g _ (by omega)]) (g _ (by omega))⟩, fun y hy => ?_, ⟨fun k hk => ?_, fun k hk => ?_, fun k hk => ?_⟩, ?_, ?_, ?_⟩,
    hi.far (by rw [g _ (by omega)]) (fun a q1 q2 => g a (by omega)) rfl rfl, he.far (g _ (by omega)) rfl, ht.far (by rw [g _ (by omega)]) (g _ (by omega)) rfl rfl, hs.far (fun a q1 q2 => g a (by omega)) rfl rfl rfl, fun a ha => (g a (by omega)).trans (hc a ha)⟩
  · rw [g _ (by omega)]; exact h1.n hk
  · exact (F.2 1 (by omega)).trans h1.o8
  · exact (F.2 2 (by omega)).trans h1.o9
  · exact (F.2 4 (by omega)).trans h1.oA
  · exact (F.2 6 (by omega)).trans h1.oB
  · rw [g _ (by omega)]; exact h1.w hw hk
  · rw [g _ (by omega)]; exact h1.t ht hk
  · rw [g _ (by omega), g _ (by omega), g _ (by omega)]; exact hV y hy
  · rw [g _ (by omega)]; exact h4 k hk
  · rw [g _ (by omega)]; exact h5 k hk
  · rw [g _ (by omega)]; exact h6 k hk
  · rw [g _ (by omega)]; exact h7
  · rw [g _ (by omega)]; exact h8
  · rw [g _ (by omega)]; exact h9
theorem CX.er {c h s : Mm} {τ τk : Nat → List Int32} (H : CX c h s τ τk) {k : Nat} (h1 : 1 ≤ k) (h6 : k < 6) : CX c (u2 h 109 k (h 109 k + nI 1)) (u2 s 122 k (s 122 k + nI 1)) τ τk := by
  refine ⟨by rw [u2_off (by omega)]; exact H.1.far (fun a q1 q2 => u2_off (by omega)), H.2.1.far (by rw [u2_off (by omega)]) (fun a q1 q2 => u2_off (by omega)) (by rw [u2_off (by omega)]) (u2_off (by omega)), fun j j1 j6 => ?_, H.2.2.2.1.far (by rw [u2_off (by omega)]) (u2_off (by omega)) (by rw [u2_off (by omega)]) (u2_off (by omega)), H.2.2.2.2.1.far (fun a q1 q2 => u2_off (by omega)) (u2_off (by omega)) (u2_off (by omega)) (u2_off (by omega)), fun a ha => (u2_off (by omega)).trans (H.2.2.2.2.2 a ha)⟩
  by_cases e : j = k
  · subst e; rw [u2_at, u2_at, H.2.2.1 j j1 j6]
  · rw [u2_ne (by omega), u2_ne (by omega)]; exact H.2.2.1 j j1 j6
theorem CX.W {c h s : Mm} {τ τk : Nat → List Int32} (H : CX c h s τ τk) : WX 1 h (s 119) τ := H.1
theorem xfin {y : Rs} {v : Int32} {S c h : Mm} {τ τk : Nat → List Int32} (e : y = (v, S)) (H : CX c h S τ τk) : some (Value.int v) = some (.int y.1) ∧ CX c h y.2 τ τk := by rw [e]; exact ⟨rfl, H⟩

theorem sh_S {i : Nat} (h : i < 4) : SH (110 + 2 * i) = (1, 4, 3) := by
  obtain rfl | rfl | rfl | rfl : i = 0 ∨ i = 1 ∨ i = 2 ∨ i = 3 := by omega
  all_goals rfl
theorem sh_Sr {i : Nat} (h : i < 4) : SH (111 + 2 * i) = (2, 0, 40) := by
  obtain rfl | rfl | rfl | rfl : i = 0 ∨ i = 1 ∨ i = 2 ∨ i = 3 := by omega
  all_goals rfl
theorem pl_S {a i : Nat} (h : i < 4 ∧ a ≤ 111) : a + 2 * i < 132 := by omega
theorem gl_S {i : Nat} (h : i < 4) : GL 108 i = 110 + 2 * i + 1 := by
  obtain rfl | rfl | rfl | rfl : i = 0 ∨ i = 1 ∨ i = 2 ∨ i = 3 := by omega
  all_goals rfl
theorem gl_Sr {i : Nat} (h : i < 4) : GL (110 + 2 * i) 2 = 111 + 2 * i + 1 := by
  obtain rfl | rfl | rfl | rfl : i = 0 ∨ i = 1 ∨ i = 2 ∨ i = 3 := by omega
  all_goals rfl

abbrev P_X10_bold (h s : Mm) (τ τk : Nat → List Int32) : Option Value → Mm → Prop := fun r h2 => r = some (.int (Y_bold s ).1) ∧ RR h2 (Y_bold s ).2
theorem c_X10_bold {l : Launch} (h s : Mm) (τ τk : Nat → List Int32) (hR : RR h s) (hI : INV s τ τk) : Con l yX10_bold cX10_bold 1 (some .int) 2 42 132 GL h [.ref 118] (P_X10_bold h s τ τk) := by
  refine Con.ofV (own := "FoxRoundsModel") (nm := "bold") rfl rfl (by decide) (Nat.le_of_ble_eq_true rfl) ?_
  intro κ ρ hkl K
  subst hkl
  show V κ (QM κ (132, ρ, GL, 0, 0) (P_X10_bold h s τ τk)) 1 (132, ρ, GL, 0, 0) h 0 [(0, .ref 118)] []
  have hd := hI.d
  have hn8 := hd.nw8
  have ht5 := hd.nt5
  refine v_aload_n K dX10_bold_0 rfl ?_
  refine v_getr (q := 119) K fX10_7 sh_118 pl_118 gl_118_0 dX10_bold_1 ?_
  refine v_callS (As := [.ref 119]) K (c_X10_boldOf h 119 mP_119 (by rw [hR.1 119 RA_119]; exact hd)) lX10_202 rfl ⟨by decide, by decide⟩ (Nat.le_of_ble_eq_true rfl) dX10_bold_4 (fun r1 h1 hp1 => ?_) rfl
  obtain ⟨rfl, rfl⟩ := hp1
  refine v_some ?_
  rw [hR.1 119 RA_119]
  refine v_iret K dX10_bold_7 ?_
  have eY : Y_bold s  = (boldD (s 119), s) := by
    unfold Y_bold
    first | rfl | (rfl)
  exact rfin eY hR

abbrev P_X9_set (cM h s : Mm) (τ τk : Nat → List Int32) (w v : Int32) : Option Value → Mm → Prop := fun r h2 => r = some (.int (Y_set s w v).1) ∧ CX cM h2 (Y_set s w v).2 τ τk
theorem c_X9_set {l : Launch} (cM h s : Mm) (τ τk : Nat → List Int32) (w v : Int32) (hC : CX cM h s τ τk) (hI : INV s τ τk) : Con l yX9_set cX9_set 4 (some .int) 2 43 132 GL h [.ref 0, .int w, .int v] (P_X9_set cM h s τ τk w v) := by
  refine Con.ofV (own := "FoxRounds") (nm := "set") rfl rfl (by decide) (Nat.le_of_ble_eq_true rfl) ?_
  intro κ ρ hkl K
  subst hkl
  show V κ (QM κ (132, ρ, GL, 0, 0) (P_X9_set cM h s τ τk w v)) 4 (132, ρ, GL, 0, 0) h 0 [(0, .ref 0), (1, .int w), (2, .int v)] []
  have hd := hI.d
  have hn8 := hd.nw8
  have ht5 := hd.nt5
  refine v_iload_n K dX9_set_0 rfl ?_
  refine v_iconstN K 0 rfl dX9_set_1 ?_
  refine v_bipushN K 7 rfl dX9_set_2 ?_
  refine v_callS (As := [.int w, .int (nI 0), .int (nI 7)]) K (c_X9_within h w (nI 0) (nI 7)) lX9_65 rfl ⟨by decide, by decide⟩ (Nat.le_of_ble_eq_true rfl) dX9_set_4 (fun r1 h1 hp1 => ?_) rfl
  obtain ⟨rfl, rfl⟩ := hp1
  refine v_some ?_
  rw [show (nI 0 ≤ w ∧ w ≤ nI 7) = ix w 8 from in_ix (by decide)]
  refine v_ifB_eq (tgt := 27) K dX9_set_7 rfl (fun c1 => ?_) (fun c1 => ?_)
  · skip
    refine v_aload_n K dX9_set_27 rfl ?_
    refine v_iconstN K 1 rfl dX9_set_28 ?_
    refine v_callV (As := [.int (nI 1)]) K (c_X9_error h 1 (by omega)) lX9_75 ck_X9 rfl sh_0 pl_0 rfl ⟨by decide, by decide⟩ (Nat.le_of_ble_eq_true rfl) dX9_set_29 (fun r2 h2 hp2 => ?_) rfl
    obtain ⟨rfl, rfl⟩ := hp2
    refine v_some ?_
    have hCe1 : CX cM (u2 h 109 1 (h 109 1 + nI 1)) (u2 s 122 1 (s 122 1 + nI 1)) τ τk := CX.er hC (by omega) (by omega)
    refine v_iret K dX9_set_32 ?_
    have eY : Y_set s w v = ((-1000000000) - nI 1, (u2 s 122 1 (s 122 1 + nI 1))) := by
      unfold Y_set
      refine (@if_neg _ (Classical.propDecidable _) (fun q => by obtain ⟨k, hk, e, -⟩ := q; exact absurd (⟨k, hk, e⟩ : ix w 8) (by assumption)) _ _ _).trans ?_
      first | rfl | (rfl)
    exact xfin eY hCe1
  · skip
    obtain ⟨j1, Hj1, rfl⟩ := c1
    refine v_iload_n K dX9_set_10 rfl ?_
    refine v_gets (j := 1) K (by decide) sX9_69 dX9_set_11 ?_
    refine v_iload_n K dX9_set_14 rfl ?_
    refine v_sald (j := 1) (x := stV 1 j1) K (by decide) (by show _ < 8; omega) rfl dX9_set_15 ?_
    refine v_gets (j := 2) K (by decide) sX9_72 dX9_set_16 ?_
    refine v_iload_n K dX9_set_19 rfl ?_
    refine v_sald (j := 2) (x := stV 2 j1) K (by decide) (by show _ < 8; omega) rfl dX9_set_20 ?_
    refine v_callS (As := [.int v, .int (stV 1 j1), .int (stV 2 j1)]) K (c_X9_within h v (stV 1 j1) (stV 2 j1)) lX9_65 rfl ⟨by decide, by decide⟩ (Nat.le_of_ble_eq_true rfl) dX9_set_21 (fun r3 h3 hp3 => ?_) rfl
    obtain ⟨rfl, rfl⟩ := hp3
    refine v_some ?_
    refine v_ifB_ne (tgt := 33) K dX9_set_24 rfl (fun c2 => ?_) (fun c2 => ?_)
    · skip
      have hs0 : setOK (nI j1) v := (setOK_in _ (by omega)).mpr c2
      have hj8 : j1 < 8 := by omega
      refine v_aload_n K dX9_set_33 rfl ?_
      refine v_getr (q := 1) K fX9_10 sh_0 pl_0 gl_0_0 dX9_set_34 ?_
      refine v_getr (q := 2) K fX9_25 sh_1 pl_1 gl_1_0 dX9_set_37 ?_
      refine v_getr (q := 3) K fX9_79 sh_2 pl_2 gl_2_0 dX9_set_40 ?_
      refine v_iload_n K dX9_set_43 rfl ?_
      refine v_iald (x := s 119 j1) K sh_3 pl_3 (by omega) (hC.W.1.n (by omega)) dX9_set_44 ?_
      refine v_istore_n (lv2 := [(3, .int (s 119 j1)), (0, .ref 0), (1, .int (nI j1)), (2, .int v)]) K dX9_set_45 (by decide) rfl ?_
      refine v_aload_n K dX9_set_46 rfl ?_
      refine v_getr (q := 1) K fX9_10 sh_0 pl_0 gl_0_0 dX9_set_47 ?_
      refine v_getr (q := 2) K fX9_25 sh_1 pl_1 gl_1_0 dX9_set_50 ?_
      refine v_getr (q := 3) K fX9_79 sh_2 pl_2 gl_2_0 dX9_set_53 ?_
      refine v_iload_n K dX9_set_56 rfl ?_
      refine v_iload_n K dX9_set_57 rfl ?_
      refine v_iast K sh_3 pl_3 (by omega) dX9_set_58 ?_
      have hCx1 : CX cM (u2 h 3 j1 v) (u2 s 119 j1 v) τ τk := CX.w2 hC (WX.n hC.W (by omega)) (by omega) (by omega)
      refine v_iload_n K dX9_set_59 rfl ?_
      refine v_iret K dX9_set_60 ?_
      have eY : Y_set s (nI j1) v = (s 119 j1, (u2 s 119 j1 v)) := by
        unfold Y_set
        refine (@if_pos _ (Classical.propDecidable _) hs0 _ _ _).trans ?_
        first | rfl | ((try rw [cl_ix (show j1 < 2 ^ 31 by omega)]))
      exact xfin eY hCx1
    · skip
      refine v_aload_n K dX9_set_27 rfl ?_
      refine v_iconstN K 1 rfl dX9_set_28 ?_
      refine v_callV (As := [.int (nI 1)]) K (c_X9_error h 1 (by omega)) lX9_75 ck_X9 rfl sh_0 pl_0 rfl ⟨by decide, by decide⟩ (Nat.le_of_ble_eq_true rfl) dX9_set_29 (fun r4 h4 hp4 => ?_) rfl
      obtain ⟨rfl, rfl⟩ := hp4
      refine v_some ?_
      have hCe2 : CX cM (u2 h 109 1 (h 109 1 + nI 1)) (u2 s 122 1 (s 122 1 + nI 1)) τ τk := CX.er hC (by omega) (by omega)
      refine v_iret K dX9_set_32 ?_
      have eY : Y_set s (nI j1) v = ((-1000000000) - nI 1, (u2 s 122 1 (s 122 1 + nI 1))) := by
        unfold Y_set
        refine (@if_neg _ (Classical.propDecidable _) (fun q => absurd ((setOK_in _ (by omega)).mp q) (by assumption)) _ _ _).trans ?_
        first | rfl | ((try rw [cl_ix (show j1 < 2 ^ 31 by omega)]))
      exact xfin eY hCe2

abbrev P_X9_ofWay (cM h s : Mm) (τ τk : Nat → List Int32) (w k : Int32) : Option Value → Mm → Prop := fun r h2 => r = some (.int (Y_ofWay s w k).1) ∧ CX cM h2 (Y_ofWay s w k).2 τ τk
theorem c_X9_ofWay {l : Launch} (cM h s : Mm) (τ τk : Nat → List Int32) (w k : Int32) (hC : CX cM h s τ τk) (hI : INV s τ τk) : Con l yX9_ofWay cX9_ofWay 3 (some .int) 4 85 132 GL h [.ref 0, .int w, .int k] (P_X9_ofWay cM h s τ τk w k) := by
  refine Con.ofV (own := "FoxRounds") (nm := "ofWay") rfl rfl (by decide) (Nat.le_of_ble_eq_true rfl) ?_
  intro κ ρ hkl K
  subst hkl
  show V κ (QM κ (132, ρ, GL, 0, 0) (P_X9_ofWay cM h s τ τk w k)) 3 (132, ρ, GL, 0, 0) h 0 [(0, .ref 0), (1, .int w), (2, .int k)] []
  have hd := hI.d
  have hn8 := hd.nw8
  have ht5 := hd.nt5
  refine v_aload_n K dX9_ofWay_0 rfl ?_
  refine v_getr (q := 1) K fX9_10 sh_0 pl_0 gl_0_0 dX9_ofWay_1 ?_
  refine v_getr (q := 2) K fX9_25 sh_1 pl_1 gl_1_0 dX9_ofWay_4 ?_
  refine v_iload_n K dX9_ofWay_7 rfl ?_
  refine v_callV (As := [.int w]) K (c_X1_hasWay h 2 (s 119) w hB_2 hC.W.1 hd) lX9_94 ck_X1 rfl sh_2 pl_2 rfl ⟨by decide, by decide⟩ (Nat.le_of_ble_eq_true rfl) dX9_ofWay_8 (fun r1 h1 hp1 => ?_) rfl
  obtain ⟨rfl, rfl⟩ := hp1
  refine v_some ?_
  refine v_ifB_eq (tgt := 24) K dX9_ofWay_11 rfl (fun c1 => ?_) (fun c1 => ?_)
  · skip
    refine v_aload_n K dX9_ofWay_24 rfl ?_
    refine v_iconstN K 1 rfl dX9_ofWay_25 ?_
    refine v_callV (As := [.int (nI 1)]) K (c_X9_error h 1 (by omega)) lX9_75 ck_X9 rfl sh_0 pl_0 rfl ⟨by decide, by decide⟩ (Nat.le_of_ble_eq_true rfl) dX9_ofWay_26 (fun r2 h2 hp2 => ?_) rfl
    obtain ⟨rfl, rfl⟩ := hp2
    refine v_some ?_
    have hCe1 : CX cM (u2 h 109 1 (h 109 1 + nI 1)) (u2 s 122 1 (s 122 1 + nI 1)) τ τk := CX.er hC (by omega) (by omega)
    refine v_iret K dX9_ofWay_29 ?_
    have eY : Y_ofWay s w k = ((-1000000000) - nI 1, (u2 s 122 1 (s 122 1 + nI 1))) := by
      unfold Y_ofWay
      refine (@if_neg _ (Classical.propDecidable _) (fun q => by first | exact absurd q.1 (by assumption) | exact absurd q.2 (by assumption)) _ _ _).trans ?_
      first | rfl | (rfl)
    exact xfin eY hCe1
  · skip
    obtain ⟨j1, Hj1, rfl⟩ := c1
    refine v_iload_n K dX9_ofWay_14 rfl ?_
    refine v_iconstN K 0 rfl dX9_ofWay_15 ?_
    refine v_bipushN K 6 rfl dX9_ofWay_16 ?_
    refine v_callS (As := [.int k, .int (nI 0), .int (nI 6)]) K (c_X9_within h k (nI 0) (nI 6)) lX9_65 rfl ⟨by decide, by decide⟩ (Nat.le_of_ble_eq_true rfl) dX9_ofWay_18 (fun r3 h3 hp3 => ?_) rfl
    obtain ⟨rfl, rfl⟩ := hp3
    refine v_some ?_
    rw [show (nI 0 ≤ k ∧ k ≤ nI 6) = ix k 7 from in_ix (by decide)]
    refine v_ifB_ne (tgt := 30) K dX9_ofWay_21 rfl (fun c2 => ?_) (fun c2 => ?_)
    · skip
      obtain ⟨j2, Hj2, rfl⟩ := c2
      refine v_aload_n K dX9_ofWay_30 rfl ?_
      refine v_getr (q := 1) K fX9_10 sh_0 pl_0 gl_0_0 dX9_ofWay_31 ?_
      refine v_getr (q := 2) K fX9_25 sh_1 pl_1 gl_1_0 dX9_ofWay_34 ?_
      refine v_iload_n K dX9_ofWay_37 rfl ?_
      refine v_iload_n K dX9_ofWay_38 rfl ?_
      refine v_callV (As := [.int (nI j1), .int (nI j2)]) K (c_X1_wayPart h 2 (s 119) j1 j2 hB_2 hC.W.1 hd (by omega) (by omega)) lX9_98 ck_X1 rfl sh_2 pl_2 rfl ⟨by decide, by decide⟩ (Nat.le_of_ble_eq_true rfl) dX9_ofWay_39 (fun r4 h4 hp4 => ?_) rfl
      obtain ⟨rfl, rfl⟩ := hp4
      refine v_some ?_
      refine v_iret K dX9_ofWay_42 ?_
      have eY : Y_ofWay s (nI j1) (nI j2) = (partD (s 119) j1 j2, s) := by
        unfold Y_ofWay
        refine (@if_pos _ (Classical.propDecidable _) (by refine ⟨?_, ?_⟩ <;> (first | assumption | exact ⟨_, by assumption, rfl⟩ | exact Or.inl rfl | exact Or.inr (Or.inl rfl) | exact Or.inr (Or.inr rfl) | omega)) _ _ _).trans ?_
        (rw [cl_ix (show j1 < 2 ^ 31 by omega), cl_ix (show j2 < 2 ^ 31 by omega)])
      exact xfin eY hC
    · skip
      refine v_aload_n K dX9_ofWay_24 rfl ?_
      refine v_iconstN K 1 rfl dX9_ofWay_25 ?_
      refine v_callV (As := [.int (nI 1)]) K (c_X9_error h 1 (by omega)) lX9_75 ck_X9 rfl sh_0 pl_0 rfl ⟨by decide, by decide⟩ (Nat.le_of_ble_eq_true rfl) dX9_ofWay_26 (fun r5 h5 hp5 => ?_) rfl
      obtain ⟨rfl, rfl⟩ := hp5
      refine v_some ?_
      have hCe2 : CX cM (u2 h 109 1 (h 109 1 + nI 1)) (u2 s 122 1 (s 122 1 + nI 1)) τ τk := CX.er hC (by omega) (by omega)
      refine v_iret K dX9_ofWay_29 ?_
      have eY : Y_ofWay s (nI j1) k = ((-1000000000) - nI 1, (u2 s 122 1 (s 122 1 + nI 1))) := by
        unfold Y_ofWay
        refine (@if_neg _ (Classical.propDecidable _) (fun q => by first | exact absurd q.1 (by assumption) | exact absurd q.2 (by assumption)) _ _ _).trans ?_
        first | rfl | ((try rw [cl_ix (show j1 < 2 ^ 31 by omega)]))
      exact xfin eY hCe2

abbrev P_X9_ofThing (cM h s : Mm) (τ τk : Nat → List Int32) (w k : Int32) : Option Value → Mm → Prop := fun r h2 => r = some (.int (Y_ofThing s w k).1) ∧ CX cM h2 (Y_ofThing s w k).2 τ τk
theorem c_X9_ofThing {l : Launch} (cM h s : Mm) (τ τk : Nat → List Int32) (w k : Int32) (hC : CX cM h s τ τk) (hI : INV s τ τk) : Con l yX9_ofThing cX9_ofThing 3 (some .int) 2 43 132 GL h [.ref 0, .int w, .int k] (P_X9_ofThing cM h s τ τk w k) := by
  refine Con.ofV (own := "FoxRounds") (nm := "ofThing") rfl rfl (by decide) (Nat.le_of_ble_eq_true rfl) ?_
  intro κ ρ hkl K
  subst hkl
  show V κ (QM κ (132, ρ, GL, 0, 0) (P_X9_ofThing cM h s τ τk w k)) 3 (132, ρ, GL, 0, 0) h 0 [(0, .ref 0), (1, .int w), (2, .int k)] []
  have hd := hI.d
  have hn8 := hd.nw8
  have ht5 := hd.nt5
  refine v_aload_n K dX9_ofThing_0 rfl ?_
  refine v_getr (q := 1) K fX9_10 sh_0 pl_0 gl_0_0 dX9_ofThing_1 ?_
  refine v_getr (q := 2) K fX9_25 sh_1 pl_1 gl_1_0 dX9_ofThing_4 ?_
  refine v_iload_n K dX9_ofThing_7 rfl ?_
  refine v_callV (As := [.int w]) K (c_X1_hasThing h 2 (s 119) w hB_2 hC.W.1 hd) lX9_129 ck_X1 rfl sh_2 pl_2 rfl ⟨by decide, by decide⟩ (Nat.le_of_ble_eq_true rfl) dX9_ofThing_8 (fun r1 h1 hp1 => ?_) rfl
  obtain ⟨rfl, rfl⟩ := hp1
  refine v_some ?_
  refine v_ifB_eq (tgt := 23) K dX9_ofThing_11 rfl (fun c1 => ?_) (fun c1 => ?_)
  · skip
    refine v_aload_n K dX9_ofThing_23 rfl ?_
    refine v_iconstN K 1 rfl dX9_ofThing_24 ?_
    refine v_callV (As := [.int (nI 1)]) K (c_X9_error h 1 (by omega)) lX9_75 ck_X9 rfl sh_0 pl_0 rfl ⟨by decide, by decide⟩ (Nat.le_of_ble_eq_true rfl) dX9_ofThing_25 (fun r2 h2 hp2 => ?_) rfl
    obtain ⟨rfl, rfl⟩ := hp2
    refine v_some ?_
    have hCe1 : CX cM (u2 h 109 1 (h 109 1 + nI 1)) (u2 s 122 1 (s 122 1 + nI 1)) τ τk := CX.er hC (by omega) (by omega)
    refine v_iret K dX9_ofThing_28 ?_
    have eY : Y_ofThing s w k = ((-1000000000) - nI 1, (u2 s 122 1 (s 122 1 + nI 1))) := by
      unfold Y_ofThing
      refine (@if_neg _ (Classical.propDecidable _) (fun q => by first | exact absurd q.1 (by assumption) | exact absurd q.2 (by assumption)) _ _ _).trans ?_
      first | rfl | (rfl)
    exact xfin eY hCe1
  · skip
    obtain ⟨j1, Hj1, rfl⟩ := c1
    refine v_iload_n K dX9_ofThing_14 rfl ?_
    refine v_iconstN K 0 rfl dX9_ofThing_15 ?_
    refine v_iconstN K 2 rfl dX9_ofThing_16 ?_
    refine v_callS (As := [.int k, .int (nI 0), .int (nI 2)]) K (c_X9_within h k (nI 0) (nI 2)) lX9_65 rfl ⟨by decide, by decide⟩ (Nat.le_of_ble_eq_true rfl) dX9_ofThing_17 (fun r3 h3 hp3 => ?_) rfl
    obtain ⟨rfl, rfl⟩ := hp3
    refine v_some ?_
    rw [show (nI 0 ≤ k ∧ k ≤ nI 2) = ix k 3 from in_ix (by decide)]
    refine v_ifB_ne (tgt := 29) K dX9_ofThing_20 rfl (fun c2 => ?_) (fun c2 => ?_)
    · skip
      obtain ⟨j2, Hj2, rfl⟩ := c2
      refine v_aload_n K dX9_ofThing_29 rfl ?_
      refine v_getr (q := 1) K fX9_10 sh_0 pl_0 gl_0_0 dX9_ofThing_30 ?_
      refine v_getr (q := 2) K fX9_25 sh_1 pl_1 gl_1_0 dX9_ofThing_33 ?_
      refine v_getr (q := 13) K fX9_132 sh_2 pl_2 gl_2_5 dX9_ofThing_36 ?_
      refine v_iload_n K dX9_ofThing_39 rfl ?_
      refine v_aald (q := 2 + 12 + j1) K sh_13 (Or.inl rfl) pl_13 (by omega) (hB_2.gt (by omega)) dX9_ofThing_40 ?_
      refine v_iload_n K dX9_ofThing_41 rfl ?_
      refine v_iald (x := s 119 (94 + 3 * j1 + j2)) K (hB_2.t (by omega)) (hB_2.l12 (by omega)) (by omega) (hC.W.1.t (by omega) (by omega)) dX9_ofThing_42 ?_
      refine v_iret K dX9_ofThing_43 ?_
      have eY : Y_ofThing s (nI j1) (nI j2) = (s 119 (94 + 3 * j1 + j2), s) := by
        unfold Y_ofThing
        refine (@if_pos _ (Classical.propDecidable _) (by refine ⟨?_, ?_⟩ <;> (first | assumption | exact ⟨_, by assumption, rfl⟩ | exact Or.inl rfl | exact Or.inr (Or.inl rfl) | exact Or.inr (Or.inr rfl) | omega)) _ _ _).trans ?_
        first | rfl | ((try rw [cl_ix (show j1 < 2 ^ 31 by omega)]) ; (try rw [cl_ix (show j2 < 2 ^ 31 by omega)]))
      exact xfin eY hC
    · skip
      refine v_aload_n K dX9_ofThing_23 rfl ?_
      refine v_iconstN K 1 rfl dX9_ofThing_24 ?_
      refine v_callV (As := [.int (nI 1)]) K (c_X9_error h 1 (by omega)) lX9_75 ck_X9 rfl sh_0 pl_0 rfl ⟨by decide, by decide⟩ (Nat.le_of_ble_eq_true rfl) dX9_ofThing_25 (fun r4 h4 hp4 => ?_) rfl
      obtain ⟨rfl, rfl⟩ := hp4
      refine v_some ?_
      have hCe2 : CX cM (u2 h 109 1 (h 109 1 + nI 1)) (u2 s 122 1 (s 122 1 + nI 1)) τ τk := CX.er hC (by omega) (by omega)
      refine v_iret K dX9_ofThing_28 ?_
      have eY : Y_ofThing s (nI j1) k = ((-1000000000) - nI 1, (u2 s 122 1 (s 122 1 + nI 1))) := by
        unfold Y_ofThing
        refine (@if_neg _ (Classical.propDecidable _) (fun q => by first | exact absurd q.1 (by assumption) | exact absurd q.2 (by assumption)) _ _ _).trans ?_
        first | rfl | ((try rw [cl_ix (show j1 < 2 ^ 31 by omega)]))
      exact xfin eY hCe2

abbrev P_X9_hang (cM h s : Mm) (τ τk : Nat → List Int32) (w v : Int32) : Option Value → Mm → Prop := fun r h2 => r = some (.int (Y_hang s w v).1) ∧ CX cM h2 (Y_hang s w v).2 τ τk
theorem c_X9_hang {l : Launch} (cM h s : Mm) (τ τk : Nat → List Int32) (w v : Int32) (hC : CX cM h s τ τk) (hI : INV s τ τk) : Con l yX9_hang cX9_hang 5 (some .int) 2 43 132 GL h [.ref 0, .int w, .int v] (P_X9_hang cM h s τ τk w v) := by
  refine Con.ofV (own := "FoxRounds") (nm := "hang") rfl rfl (by decide) (Nat.le_of_ble_eq_true rfl) ?_
  intro κ ρ hkl K
  subst hkl
  show V κ (QM κ (132, ρ, GL, 0, 0) (P_X9_hang cM h s τ τk w v)) 5 (132, ρ, GL, 0, 0) h 0 [(0, .ref 0), (1, .int w), (2, .int v)] []
  have hd := hI.d
  have hn8 := hd.nw8
  have ht5 := hd.nt5
  refine v_aload_n K dX9_hang_0 rfl ?_
  refine v_getr (q := 1) K fX9_10 sh_0 pl_0 gl_0_0 dX9_hang_1 ?_
  refine v_getr (q := 2) K fX9_25 sh_1 pl_1 gl_1_0 dX9_hang_4 ?_
  refine v_iload_n K dX9_hang_7 rfl ?_
  refine v_callV (As := [.int w]) K (c_X1_hasThing h 2 (s 119) w hB_2 hC.W.1 hd) lX9_129 ck_X1 rfl sh_2 pl_2 rfl ⟨by decide, by decide⟩ (Nat.le_of_ble_eq_true rfl) dX9_hang_8 (fun r1 h1 hp1 => ?_) rfl
  obtain ⟨rfl, rfl⟩ := hp1
  refine v_some ?_
  refine v_ifB_eq (tgt := 23) K dX9_hang_11 rfl (fun c1 => ?_) (fun c1 => ?_)
  · skip
    refine v_aload_n K dX9_hang_23 rfl ?_
    refine v_iconstN K 1 rfl dX9_hang_24 ?_
    refine v_callV (As := [.int (nI 1)]) K (c_X9_error h 1 (by omega)) lX9_75 ck_X9 rfl sh_0 pl_0 rfl ⟨by decide, by decide⟩ (Nat.le_of_ble_eq_true rfl) dX9_hang_25 (fun r2 h2 hp2 => ?_) rfl
    obtain ⟨rfl, rfl⟩ := hp2
    refine v_some ?_
    have hCe1 : CX cM (u2 h 109 1 (h 109 1 + nI 1)) (u2 s 122 1 (s 122 1 + nI 1)) τ τk := CX.er hC (by omega) (by omega)
    refine v_iret K dX9_hang_28 ?_
    have eY : Y_hang s w v = ((-1000000000) - nI 1, (u2 s 122 1 (s 122 1 + nI 1))) := by
      unfold Y_hang
      refine (@if_neg _ (Classical.propDecidable _) (fun q => by first | exact absurd q.1 (by assumption) | exact absurd q.2 (by assumption)) _ _ _).trans ?_
      first | rfl | (rfl)
    exact xfin eY hCe1
  · skip
    obtain ⟨j1, Hj1, rfl⟩ := c1
    refine v_iload_n K dX9_hang_14 rfl ?_
    refine v_iconstN K 0 rfl dX9_hang_15 ?_
    refine v_iconstN K 1 rfl dX9_hang_16 ?_
    refine v_callS (As := [.int v, .int (nI 0), .int (nI 1)]) K (c_X9_within h v (nI 0) (nI 1)) lX9_65 rfl ⟨by decide, by decide⟩ (Nat.le_of_ble_eq_true rfl) dX9_hang_17 (fun r3 h3 hp3 => ?_) rfl
    obtain ⟨rfl, rfl⟩ := hp3
    refine v_some ?_
    rw [show (nI 0 ≤ v ∧ v ≤ nI 1) = ix v 2 from in_ix (by decide)]
    refine v_ifB_ne (tgt := 29) K dX9_hang_20 rfl (fun c2 => ?_) (fun c2 => ?_)
    · skip
      obtain ⟨j2, Hj2, rfl⟩ := c2
      refine v_aload_n K dX9_hang_29 rfl ?_
      refine v_getr (q := 1) K fX9_10 sh_0 pl_0 gl_0_0 dX9_hang_30 ?_
      refine v_getr (q := 2) K fX9_25 sh_1 pl_1 gl_1_0 dX9_hang_33 ?_
      refine v_getr (q := 13) K fX9_132 sh_2 pl_2 gl_2_5 dX9_hang_36 ?_
      refine v_iload_n K dX9_hang_39 rfl ?_
      refine v_aald (q := 2 + 12 + j1) K sh_13 (Or.inl rfl) pl_13 (by omega) (hB_2.gt (by omega)) dX9_hang_40 ?_
      refine v_astore_n (lv2 := [(3, .ref (2 + 12 + j1)), (0, .ref 0), (1, .int (nI j1)), (2, .int (nI j2))]) K dX9_hang_41 (by decide) rfl ?_
      refine v_aload_n K dX9_hang_42 rfl ?_
      refine v_iconstN K 2 rfl dX9_hang_43 ?_
      refine v_iald (x := s 119 (94 + 3 * j1 + 2)) K (hB_2.t (by omega)) (hB_2.l12 (by omega)) (by omega) (hC.W.1.t (by omega) (by omega)) dX9_hang_44 ?_
      refine v_istore (lv2 := [(4, .int (s 119 (94 + 3 * j1 + 2))), (3, .ref (2 + 12 + j1)), (0, .ref 0), (1, .int (nI j1)), (2, .int (nI j2))]) K dX9_hang_45 (by decide) rfl ?_
      refine v_aload_n K dX9_hang_47 rfl ?_
      refine v_iconstN K 2 rfl dX9_hang_48 ?_
      refine v_iload_n K dX9_hang_49 rfl ?_
      refine v_iast K (hB_2.t (by omega)) (hB_2.l12 (by omega)) (by omega) dX9_hang_50 ?_
      have hCx1 : CX cM (u2 h (2 + 12 + j1) 2 (nI j2)) (u2 s 119 (94 + 3 * j1 + 2) (nI j2)) τ τk := CX.w2 hC (WX.t hC.W (by omega) (by omega)) (by omega) (by omega)
      refine v_iload K dX9_hang_51 rfl ?_
      refine v_iret K dX9_hang_53 ?_
      have eY : Y_hang s (nI j1) (nI j2) = (s 119 (94 + 3 * j1 + 2), (u2 s 119 (94 + 3 * j1 + 2) (nI j2))) := by
        unfold Y_hang
        refine (@if_pos _ (Classical.propDecidable _) (by refine ⟨?_, ?_⟩ <;> (first | assumption | exact ⟨_, by assumption, rfl⟩ | exact Or.inl rfl | exact Or.inr (Or.inl rfl) | exact Or.inr (Or.inr rfl) | omega)) _ _ _).trans ?_
        first | rfl | ((try rw [cl_ix (show j1 < 2 ^ 31 by omega)]) ; (try rw [cl_ix (show j2 < 2 ^ 31 by omega)]))
      exact xfin eY hCx1
    · skip
      refine v_aload_n K dX9_hang_23 rfl ?_
      refine v_iconstN K 1 rfl dX9_hang_24 ?_
      refine v_callV (As := [.int (nI 1)]) K (c_X9_error h 1 (by omega)) lX9_75 ck_X9 rfl sh_0 pl_0 rfl ⟨by decide, by decide⟩ (Nat.le_of_ble_eq_true rfl) dX9_hang_25 (fun r4 h4 hp4 => ?_) rfl
      obtain ⟨rfl, rfl⟩ := hp4
      refine v_some ?_
      have hCe2 : CX cM (u2 h 109 1 (h 109 1 + nI 1)) (u2 s 122 1 (s 122 1 + nI 1)) τ τk := CX.er hC (by omega) (by omega)
      refine v_iret K dX9_hang_28 ?_
      have eY : Y_hang s (nI j1) v = ((-1000000000) - nI 1, (u2 s 122 1 (s 122 1 + nI 1))) := by
        unfold Y_hang
        refine (@if_neg _ (Classical.propDecidable _) (fun q => by first | exact absurd q.1 (by assumption) | exact absurd q.2 (by assumption)) _ _ _).trans ?_
        first | rfl | ((try rw [cl_ix (show j1 < 2 ^ 31 by omega)]))
      exact xfin eY hCe2

abbrev P_X9_bitten (cM h s : Mm) (τ τk : Nat → List Int32) : Option Value → Mm → Prop := fun r h2 => r = some (.int (Y_bitten s ).1) ∧ CX cM h2 (Y_bitten s ).2 τ τk
theorem c_X9_bitten {l : Launch} (cM h s : Mm) (τ τk : Nat → List Int32) (hC : CX cM h s τ τk) (hI : INV s τ τk) : Con l yX9_bitten cX9_bitten 2 (some .int) 0 0 132 GL h [.ref 0] (P_X9_bitten cM h s τ τk) := by
  refine Con.ofV (own := "FoxRounds") (nm := "bitten") rfl rfl (by decide) (Nat.le_of_ble_eq_true rfl) ?_
  intro κ ρ hkl K
  subst hkl
  show V κ (QM κ (132, ρ, GL, 0, 0) (P_X9_bitten cM h s τ τk)) 2 (132, ρ, GL, 0, 0) h 0 [(0, .ref 0)] []
  have hd := hI.d
  have hn8 := hd.nw8
  have ht5 := hd.nt5
  refine v_aload_n K dX9_bitten_0 rfl ?_
  refine v_getr (q := 1) K fX9_10 sh_0 pl_0 gl_0_0 dX9_bitten_1 ?_
  refine v_getr (q := 2) K fX9_25 sh_1 pl_1 gl_1_0 dX9_bitten_4 ?_
  refine v_getr (q := 3) K fX9_79 sh_2 pl_2 gl_2_0 dX9_bitten_7 ?_
  refine v_iconstN K 3 rfl dX9_bitten_10 ?_
  refine v_iald (x := s 119 3) K sh_3 pl_3 (by omega) (hC.W.1.n (by decide)) dX9_bitten_11 ?_
  refine v_istore_n (lv2 := [(1, .int (s 119 3)), (0, .ref 0)]) K dX9_bitten_12 (by decide) rfl ?_
  refine v_aload_n K dX9_bitten_13 rfl ?_
  refine v_getr (q := 1) K fX9_10 sh_0 pl_0 gl_0_0 dX9_bitten_14 ?_
  refine v_getr (q := 2) K fX9_25 sh_1 pl_1 gl_1_0 dX9_bitten_17 ?_
  refine v_getr (q := 3) K fX9_79 sh_2 pl_2 gl_2_0 dX9_bitten_20 ?_
  refine v_iconstN K 3 rfl dX9_bitten_23 ?_
  refine v_bipushN K 99 rfl dX9_bitten_24 ?_
  refine v_iast K sh_3 pl_3 (by omega) dX9_bitten_26 ?_
  have hCx1 : CX cM (u2 h 3 3 (nI 99)) (u2 s 119 3 (nI 99)) τ τk := CX.w2 hC (WX.n hC.W (by omega)) (by omega) (by omega)
  refine v_iload_n K dX9_bitten_27 rfl ?_
  refine v_iret K dX9_bitten_28 ?_
  have eY : Y_bitten s  = (s 119 3, (u2 s 119 3 (nI 99))) := by
    unfold Y_bitten
    first | rfl | (rfl)
  exact xfin eY hCx1

abbrev P_X9_bold (cM h s : Mm) (τ τk : Nat → List Int32) : Option Value → Mm → Prop := fun r h2 => r = some (.int (Y_bold s ).1) ∧ CX cM h2 (Y_bold s ).2 τ τk
theorem c_X9_bold {l : Launch} (cM h s : Mm) (τ τk : Nat → List Int32) (hC : CX cM h s τ τk) (hI : INV s τ τk) : Con l yX9_bold cX9_bold 1 (some .int) 2 42 132 GL h [.ref 0] (P_X9_bold cM h s τ τk) := by
  refine Con.ofV (own := "FoxRounds") (nm := "bold") rfl rfl (by decide) (Nat.le_of_ble_eq_true rfl) ?_
  intro κ ρ hkl K
  subst hkl
  show V κ (QM κ (132, ρ, GL, 0, 0) (P_X9_bold cM h s τ τk)) 1 (132, ρ, GL, 0, 0) h 0 [(0, .ref 0)] []
  have hd := hI.d
  have hn8 := hd.nw8
  have ht5 := hd.nt5
  refine v_aload_n K dX9_bold_0 rfl ?_
  refine v_getr (q := 1) K fX9_10 sh_0 pl_0 gl_0_0 dX9_bold_1 ?_
  refine v_getr (q := 2) K fX9_25 sh_1 pl_1 gl_1_0 dX9_bold_4 ?_
  refine v_callV (As := []) K (c_X1_boldness h 2 (s 119) hB_2 hC.W.1 hd) lX9_135 ck_X1 rfl sh_2 pl_2 rfl ⟨by decide, by decide⟩ (Nat.le_of_ble_eq_true rfl) dX9_bold_7 (fun r1 h1 hp1 => ?_) rfl
  obtain ⟨rfl, rfl⟩ := hp1
  refine v_some ?_
  refine v_iret K dX9_bold_10 ?_
  have eY : Y_bold s  = (boldD (s 119), s) := by
    unfold Y_bold
    first | rfl | (rfl)
  exact xfin eY hC

abbrev P_X9_dusk (cM h s : Mm) (τ τk : Nat → List Int32) (w v : Int32) : Option Value → Mm → Prop := fun r h2 => r = some (.int (Y_dusk s w v).1) ∧ CX cM h2 (Y_dusk s w v).2 τ τk
theorem c_X9_dusk {l : Launch} (cM h s : Mm) (τ τk : Nat → List Int32) (w v : Int32) (hC : CX cM h s τ τk) (hI : INV s τ τk) : Con l yX9_dusk cX9_dusk 4 (some .int) 2 43 132 GL h [.ref 0, .int w, .int v] (P_X9_dusk cM h s τ τk w v) := by
  refine Con.ofV (own := "FoxRounds") (nm := "dusk") rfl rfl (by decide) (Nat.le_of_ble_eq_true rfl) ?_
  intro κ ρ hkl K
  subst hkl
  show V κ (QM κ (132, ρ, GL, 0, 0) (P_X9_dusk cM h s τ τk w v)) 4 (132, ρ, GL, 0, 0) h 0 [(0, .ref 0), (1, .int w), (2, .int v)] []
  have hd := hI.d
  have hn8 := hd.nw8
  have ht5 := hd.nt5
  refine v_iload_n K dX9_dusk_0 rfl ?_
  refine v_iconstN K 0 rfl dX9_dusk_1 ?_
  refine v_bipushN K 11 rfl dX9_dusk_2 ?_
  refine v_callS (As := [.int w, .int (nI 0), .int (nI 11)]) K (c_X9_within h w (nI 0) (nI 11)) lX9_65 rfl ⟨by decide, by decide⟩ (Nat.le_of_ble_eq_true rfl) dX9_dusk_4 (fun r1 h1 hp1 => ?_) rfl
  obtain ⟨rfl, rfl⟩ := hp1
  refine v_some ?_
  rw [show (nI 0 ≤ w ∧ w ≤ nI 11) = ix w 12 from in_ix (by decide)]
  refine v_ifB_eq (tgt := 21) K dX9_dusk_7 rfl (fun c1 => ?_) (fun c1 => ?_)
  · skip
    refine v_aload_n K dX9_dusk_21 rfl ?_
    refine v_iconstN K 1 rfl dX9_dusk_22 ?_
    refine v_callV (As := [.int (nI 1)]) K (c_X9_error h 1 (by omega)) lX9_75 ck_X9 rfl sh_0 pl_0 rfl ⟨by decide, by decide⟩ (Nat.le_of_ble_eq_true rfl) dX9_dusk_23 (fun r2 h2 hp2 => ?_) rfl
    obtain ⟨rfl, rfl⟩ := hp2
    refine v_some ?_
    have hCe1 : CX cM (u2 h 109 1 (h 109 1 + nI 1)) (u2 s 122 1 (s 122 1 + nI 1)) τ τk := CX.er hC (by omega) (by omega)
    refine v_iret K dX9_dusk_26 ?_
    have eY : Y_dusk s w v = ((-1000000000) - nI 1, (u2 s 122 1 (s 122 1 + nI 1))) := by
      unfold Y_dusk
      refine (@if_neg _ (Classical.propDecidable _) (fun q => by first | exact absurd q.1 (by assumption) | exact absurd q.2 (by assumption)) _ _ _).trans ?_
      first | rfl | (rfl)
    exact xfin eY hCe1
  · skip
    obtain ⟨j1, Hj1, rfl⟩ := c1
    refine v_iload_n K dX9_dusk_10 rfl ?_
    refine v_iconstN K 0 rfl dX9_dusk_11 ?_
    refine v_sipushN K 1439 rfl dX9_dusk_12 ?_
    refine v_callS (As := [.int v, .int (nI 0), .int (nI 1439)]) K (c_X9_within h v (nI 0) (nI 1439)) lX9_65 rfl ⟨by decide, by decide⟩ (Nat.le_of_ble_eq_true rfl) dX9_dusk_15 (fun r3 h3 hp3 => ?_) rfl
    obtain ⟨rfl, rfl⟩ := hp3
    refine v_some ?_
    rw [show (nI 0 ≤ v ∧ v ≤ nI 1439) = ix v 1440 from in_ix (by decide)]
    refine v_ifB_ne (tgt := 27) K dX9_dusk_18 rfl (fun c2 => ?_) (fun c2 => ?_)
    · skip
      obtain ⟨j2, Hj2, rfl⟩ := c2
      refine v_aload_n K dX9_dusk_27 rfl ?_
      refine v_getr (q := 1) K fX9_10 sh_0 pl_0 gl_0_0 dX9_dusk_28 ?_
      refine v_getr (q := 38) K fX9_225 sh_1 pl_1 gl_1_7 dX9_dusk_31 ?_
      refine v_iload_n K dX9_dusk_34 rfl ?_
      refine v_iald (x := s 119 (16 + j1)) K sh_38 pl_38 (by omega) (hC.W.2.2.2.1.2.2 _ (by omega)) dX9_dusk_35 ?_
      refine v_istore_n (lv2 := [(3, .int (s 119 (16 + j1))), (0, .ref 0), (1, .int (nI j1)), (2, .int (nI j2))]) K dX9_dusk_36 (by decide) rfl ?_
      refine v_aload_n K dX9_dusk_37 rfl ?_
      refine v_getr (q := 1) K fX9_10 sh_0 pl_0 gl_0_0 dX9_dusk_38 ?_
      refine v_getr (q := 38) K fX9_225 sh_1 pl_1 gl_1_7 dX9_dusk_41 ?_
      refine v_iload_n K dX9_dusk_44 rfl ?_
      refine v_iload_n K dX9_dusk_45 rfl ?_
      refine v_iast K sh_38 pl_38 (by omega) dX9_dusk_46 ?_
      have hCx1 : CX cM (u2 h 38 j1 (nI j2)) (u2 s 119 (16 + j1) (nI j2)) τ τk := CX.w2 hC (WX.du hC.W (by omega)) (by omega) (by omega)
      refine v_iload_n K dX9_dusk_47 rfl ?_
      refine v_iret K dX9_dusk_48 ?_
      have eY : Y_dusk s (nI j1) (nI j2) = (s 119 (16 + j1), (u2 s 119 (16 + j1) (nI j2))) := by
        unfold Y_dusk
        refine (@if_pos _ (Classical.propDecidable _) (by refine ⟨?_, ?_⟩ <;> (first | assumption | exact ⟨_, by assumption, rfl⟩ | exact Or.inl rfl | exact Or.inr (Or.inl rfl) | exact Or.inr (Or.inr rfl) | omega)) _ _ _).trans ?_
        first | rfl | ((try rw [cl_ix (show j1 < 2 ^ 31 by omega)]) ; (try rw [cl_ix (show j2 < 2 ^ 31 by omega)]))
      exact xfin eY hCx1
    · skip
      refine v_aload_n K dX9_dusk_21 rfl ?_
      refine v_iconstN K 1 rfl dX9_dusk_22 ?_
      refine v_callV (As := [.int (nI 1)]) K (c_X9_error h 1 (by omega)) lX9_75 ck_X9 rfl sh_0 pl_0 rfl ⟨by decide, by decide⟩ (Nat.le_of_ble_eq_true rfl) dX9_dusk_23 (fun r4 h4 hp4 => ?_) rfl
      obtain ⟨rfl, rfl⟩ := hp4
      refine v_some ?_
      have hCe2 : CX cM (u2 h 109 1 (h 109 1 + nI 1)) (u2 s 122 1 (s 122 1 + nI 1)) τ τk := CX.er hC (by omega) (by omega)
      refine v_iret K dX9_dusk_26 ?_
      have eY : Y_dusk s (nI j1) v = ((-1000000000) - nI 1, (u2 s 122 1 (s 122 1 + nI 1))) := by
        unfold Y_dusk
        refine (@if_neg _ (Classical.propDecidable _) (fun q => by first | exact absurd q.1 (by assumption) | exact absurd q.2 (by assumption)) _ _ _).trans ?_
        first | rfl | ((try rw [cl_ix (show j1 < 2 ^ 31 by omega)]))
      exact xfin eY hCe2

abbrev P_X9_seed (cM h s : Mm) (τ τk : Nat → List Int32) (v : Int32) : Option Value → Mm → Prop := fun r h2 => r = some (.int (Y_seed s v).1) ∧ CX cM h2 (Y_seed s v).2 τ τk
theorem c_X9_seed {l : Launch} (cM h s : Mm) (τ τk : Nat → List Int32) (v : Int32) (hC : CX cM h s τ τk) (hI : INV s τ τk) : Con l yX9_seed cX9_seed 3 (some .int) 0 0 132 GL h [.ref 0, .int v] (P_X9_seed cM h s τ τk v) := by
  refine Con.ofV (own := "FoxRounds") (nm := "seed") rfl rfl (by decide) (Nat.le_of_ble_eq_true rfl) ?_
  intro κ ρ hkl K
  subst hkl
  show V κ (QM κ (132, ρ, GL, 0, 0) (P_X9_seed cM h s τ τk v)) 3 (132, ρ, GL, 0, 0) h 0 [(0, .ref 0), (1, .int v)] []
  have hd := hI.d
  have hn8 := hd.nw8
  have ht5 := hd.nt5
  refine v_aload_n K dX9_seed_0 rfl ?_
  refine v_getr (q := 1) K fX9_10 sh_0 pl_0 gl_0_0 dX9_seed_1 ?_
  refine v_geti (x := s 119 12) K fX9_275 sh_1 pl_1 hC.W.2.2.2.2.2.2 dX9_seed_4 ?_
  refine v_istore_n (lv2 := [(2, .int (s 119 12)), (0, .ref 0), (1, .int v)]) K dX9_seed_7 (by decide) rfl ?_
  refine v_aload_n K dX9_seed_8 rfl ?_
  refine v_getr (q := 1) K fX9_10 sh_0 pl_0 gl_0_0 dX9_seed_9 ?_
  refine v_iload_n K dX9_seed_12 rfl ?_
  refine v_puti K pX9_275 sh_1 pl_1 dX9_seed_13 ?_
  have hCx1 : CX cM (u2 h 1 8 v) (u2 s 119 12 v) τ τk := CX.w2 hC (WX.o hC.W (by omega)) (by omega) (by omega)
  refine v_iload_n K dX9_seed_16 rfl ?_
  refine v_iret K dX9_seed_17 ?_
  have eY : Y_seed s v = (s 119 12, (u2 s 119 12 v)) := by
    unfold Y_seed
    first | rfl | (rfl)
  exact xfin eY hCx1
