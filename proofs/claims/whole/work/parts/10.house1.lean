/-! a house of the class: at b its object, behind it its rows -/
def hB (b : Nat) : Prop := b = 2 ∨ b = 40 ∨ b = 78
theorem hB.o {b : Nat} (H : hB b) : SH b = (1, 1, 9) := by rcases H with rfl | rfl | rfl <;> rfl
theorem hB.n {b : Nat} (H : hB b) : SH (b + 1) = (2, 0, 8) := by rcases H with rfl | rfl | rfl <;> rfl
theorem hB.W {b : Nat} (H : hB b) : SH (b + 2) = (3, 3, 8) := by rcases H with rfl | rfl | rfl <;> rfl
theorem hB.w {b w : Nat} (H : hB b) (hw : w < 8) : SH (b + 3 + w) = (2, 0, 6) := by
  have k : ∀ w, w < 8 → SH (2 + 3 + w) = (2, 0, 6) ∧ SH (40 + 3 + w) = (2, 0, 6) ∧ SH (78 + 3 + w) = (2, 0, 6) := by decide
  rcases H with rfl | rfl | rfl
  · exact (k w hw).1
  · exact (k w hw).2.1
  · exact (k w hw).2.2
theorem hB.T {b : Nat} (H : hB b) : SH (b + 11) = (3, 3, 5) := by rcases H with rfl | rfl | rfl <;> rfl
theorem hB.t {b w : Nat} (H : hB b) (hw : w < 5) : SH (b + 12 + w) = (2, 0, 3) := by
  have k : ∀ w, w < 5 → SH (2 + 12 + w) = (2, 0, 3) ∧ SH (40 + 12 + w) = (2, 0, 3) ∧ SH (78 + 12 + w) = (2, 0, 3) := by decide
  rcases H with rfl | rfl | rfl
  · exact (k w hw).1
  · exact (k w hw).2.1
  · exact (k w hw).2.2
theorem hB.r {b : Nat} (H : hB b) : SH (b + 17) = (2, 0, 8) := by rcases H with rfl | rfl | rfl <;> rfl
theorem hB.l0 {b : Nat} (H : hB b) : b < 132 := by rcases H with rfl | rfl | rfl <;> decide
theorem hB.l {b k : Nat} (H : hB b) (hk : k < 18) : b + k < 132 := by rcases H with rfl | rfl | rfl <;> omega
theorem hB.l3 {b k : Nat} (H : hB b) (hk : k < 8) : b + 3 + k < 132 := by rcases H with rfl | rfl | rfl <;> omega
theorem hB.l12 {b k : Nat} (H : hB b) (hk : k < 5) : b + 12 + k < 132 := by rcases H with rfl | rfl | rfl <;> omega
theorem hB.g0 {b : Nat} (H : hB b) : GL b 0 = b + 1 + 1 := by rcases H with rfl | rfl | rfl <;> rfl
theorem hB.g3 {b : Nat} (H : hB b) : GL b 3 = b + 2 + 1 := by rcases H with rfl | rfl | rfl <;> rfl
theorem hB.g5 {b : Nat} (H : hB b) : GL b 5 = b + 11 + 1 := by rcases H with rfl | rfl | rfl <;> rfl
theorem hB.g8 {b : Nat} (H : hB b) : GL b 8 = b + 17 + 1 := by rcases H with rfl | rfl | rfl <;> rfl
theorem hB.gw {b w : Nat} (H : hB b) (hw : w < 8) : GL (b + 2) w = b + 3 + w + 1 := by
  have k : ∀ w, w < 8 → GL (2 + 2) w = 2 + 3 + w + 1 ∧ GL (40 + 2) w = 40 + 3 + w + 1 ∧ GL (78 + 2) w = 78 + 3 + w + 1 := by decide
  rcases H with rfl | rfl | rfl
  · exact (k w hw).1
  · exact (k w hw).2.1
  · exact (k w hw).2.2
theorem hB.gt {b w : Nat} (H : hB b) (hw : w < 5) : GL (b + 11) w = b + 12 + w + 1 := by
  have k : ∀ w, w < 5 → GL (2 + 11) w = 2 + 12 + w + 1 ∧ GL (40 + 11) w = 40 + 12 + w + 1 ∧ GL (78 + 11) w = 78 + 12 + w + 1 := by decide
  rcases H with rfl | rfl | rfl
  · exact (k w hw).1
  · exact (k w hw).2.1
  · exact (k w hw).2.2
theorem hB_2 : hB 2 := Or.inl rfl
theorem hB_40 : hB 40 := Or.inr (Or.inl rfl)
theorem hB_78 : hB 78 := Or.inr (Or.inr rfl)
/-- the house at b has the numbers d -/
def RH (b : Nat) (h : Mm) (d : Dm) : Prop := (∀ k, k < 8 → h (b + 1) k = d k) ∧ (h b 1 = d 8 ∧ h b 2 = d 9 ∧ h b 4 = d 10 ∧ h b 6 = d 11) ∧ (∀ w k, w < 8 → k < 6 → h (b + 3 + w) k = d (46 + 6 * w + k)) ∧ (∀ t k, t < 5 → k < 3 → h (b + 12 + t) k = d (94 + 3 * t + k))
section RHS
variable {b : Nat} {h : Mm} {d : Dm}
theorem RH.n (H : RH b h d) {k : Nat} (hk : k < 8) : h (b + 1) k = d k := H.1 k hk
theorem RH.o8 (H : RH b h d) : h b 1 = d 8 := H.2.1.1
theorem RH.o9 (H : RH b h d) : h b 2 = d 9 := H.2.1.2.1
theorem RH.oA (H : RH b h d) : h b 4 = d 10 := H.2.1.2.2.1
theorem RH.oB (H : RH b h d) : h b 6 = d 11 := H.2.1.2.2.2
theorem RH.w (H : RH b h d) {w k : Nat} (hw : w < 8) (hk : k < 6) : h (b + 3 + w) k = d (46 + 6 * w + k) := H.2.2.1 w k hw hk
theorem RH.t (H : RH b h d) {t k : Nat} (ht : t < 5) (hk : k < 3) : h (b + 12 + t) k = d (94 + 3 * t + k) := H.2.2.2 t k ht hk
theorem RH.setn (H : RH b h d) {k : Nat} {v : Int32} (hk : k < 8) : RH b (u2 h (b + 1) k v) (upd d k v) := by
  refine ⟨fun j hj => ?_, ⟨?_, ?_, ?_, ?_⟩, fun w j hw hj => ?_, fun t j ht hj => ?_⟩
  · by_cases e : j = k
    · subst e; rw [u2_at, upd_at]
    · rw [u2_ne (Or.inr e), upd_ne e]; exact H.n hj
  · rw [u2_ne (by omega), upd_ne (by omega)]; exact H.o8
  · rw [u2_ne (by omega), upd_ne (by omega)]; exact H.o9
  · rw [u2_ne (by omega), upd_ne (by omega)]; exact H.oA
  · rw [u2_ne (by omega), upd_ne (by omega)]; exact H.oB
  · rw [u2_ne (by omega), upd_ne (by omega)]; exact H.w hw hj
  · rw [u2_ne (by omega), upd_ne (by omega)]; exact H.t ht hj
theorem RH.setw (H : RH b h d) {w k : Nat} {v : Int32} (hw : w < 8) (hk : k < 6) : RH b (u2 h (b + 3 + w) k v) (upd d (46 + 6 * w + k) v) := by
  refine ⟨fun j hj => ?_, ⟨?_, ?_, ?_, ?_⟩, fun w2 j hw2 hj => ?_, fun t j ht hj => ?_⟩
  · rw [u2_ne (by omega), upd_ne (by omega)]; exact H.n hj
  · rw [u2_ne (by omega), upd_ne (by omega)]; exact H.o8
  · rw [u2_ne (by omega), upd_ne (by omega)]; exact H.o9
  · rw [u2_ne (by omega), upd_ne (by omega)]; exact H.oA
  · rw [u2_ne (by omega), upd_ne (by omega)]; exact H.oB
  · by_cases e : w2 = w ∧ j = k
    · obtain ⟨rfl, rfl⟩ := e; rw [u2_at, upd_at]
    · rw [u2_ne (by omega), upd_ne (by omega)]; exact H.w hw2 hj
  · rw [u2_ne (by omega), upd_ne (by omega)]; exact H.t ht hj
theorem RH.sett (H : RH b h d) {t k : Nat} {v : Int32} (ht : t < 5) (hk : k < 3) : RH b (u2 h (b + 12 + t) k v) (upd d (94 + 3 * t + k) v) := by
  refine ⟨fun j hj => ?_, ⟨?_, ?_, ?_, ?_⟩, fun w2 j hw2 hj => ?_, fun t2 j ht2 hj => ?_⟩
  · rw [u2_ne (by omega), upd_ne (by omega)]; exact H.n hj
  · rw [u2_ne (by omega), upd_ne (by omega)]; exact H.o8
  · rw [u2_ne (by omega), upd_ne (by omega)]; exact H.o9
  · rw [u2_ne (by omega), upd_ne (by omega)]; exact H.oA
  · rw [u2_ne (by omega), upd_ne (by omega)]; exact H.oB
  · rw [u2_ne (by omega), upd_ne (by omega)]; exact H.w hw2 hj
  · by_cases e : t2 = t ∧ j = k
    · obtain ⟨rfl, rfl⟩ := e; rw [u2_at, upd_at]
    · rw [u2_ne (by omega), upd_ne (by omega)]; exact H.t ht2 hj
theorem RH.seto (H : RH b h d) {s i : Nat} {v : Int32} (hs : (s = 1 ∧ i = 8) ∨ (s = 2 ∧ i = 9) ∨ (s = 4 ∧ i = 10) ∨ (s = 6 ∧ i = 11)) : RH b (u2 h b s v) (upd d i v) := by
  refine ⟨fun j hj => ?_, ⟨?_, ?_, ?_, ?_⟩, fun w2 j hw2 hj => ?_, fun t2 j ht2 hj => ?_⟩
  · rw [u2_ne (by omega), upd_ne (by omega)]; exact H.n hj
  · rcases hs with ⟨rfl, rfl⟩ | ⟨rfl, rfl⟩ | ⟨rfl, rfl⟩ | ⟨rfl, rfl⟩ <;> first | (rw [u2_at, upd_at]; done) | (rw [u2_ne (by omega), upd_ne (by omega)]; exact H.o8)
  · rcases hs with ⟨rfl, rfl⟩ | ⟨rfl, rfl⟩ | ⟨rfl, rfl⟩ | ⟨rfl, rfl⟩ <;> first | (rw [u2_at, upd_at]; done) | (rw [u2_ne (by omega), upd_ne (by omega)]; exact H.o9)
  · rcases hs with ⟨rfl, rfl⟩ | ⟨rfl, rfl⟩ | ⟨rfl, rfl⟩ | ⟨rfl, rfl⟩ <;> first | (rw [u2_at, upd_at]; done) | (rw [u2_ne (by omega), upd_ne (by omega)]; exact H.oA)
  · rcases hs with ⟨rfl, rfl⟩ | ⟨rfl, rfl⟩ | ⟨rfl, rfl⟩ | ⟨rfl, rfl⟩ <;> first | (rw [u2_at, upd_at]; done) | (rw [u2_ne (by omega), upd_ne (by omega)]; exact H.oB)
  · rw [u2_ne (by omega), upd_ne (by omega)]; exact H.w hw2 hj
  · rw [u2_ne (by omega), upd_ne (by omega)]; exact H.t ht2 hj
/-- a slot of the house's that its numbers don't tell: entry, order -/
theorem RH.other (H : RH b h d) {a k : Nat} {v : Int32} (hs : (a = b ∧ k = 7) ∨ a = b + 17) : RH b (u2 h a k v) d := by
  refine ⟨fun j hj => ?_, ⟨?_, ?_, ?_, ?_⟩, fun w2 j hw2 hj => ?_, fun t2 j ht2 hj => ?_⟩ <;> rw [u2_ne (by omega)]
  · exact H.n hj
  · exact H.o8
  · exact H.o9
  · exact H.oA
  · exact H.oB
  · exact H.w hw2 hj
  · exact H.t ht2 hj
theorem RH.far (H : RH b h d) {h2 : Mm} (e : ∀ a, b ≤ a → a < b + 18 → h2 a = h a) : RH b h2 d := by
  refine ⟨fun j hj => ?_, ⟨?_, ?_, ?_, ?_⟩, fun w2 j hw2 hj => ?_, fun t2 j ht2 hj => ?_⟩ <;> rw [e _ (by omega) (by omega)]
  · exact H.n hj
  · exact H.o8
  · exact H.o9
  · exact H.oA
  · exact H.oB
  · exact H.w hw2 hj
  · exact H.t ht2 hj
end RHS
/-- nothing outside lo .. hi has changed -/
def FrO (lo hi : Nat) (h h2 : Mm) : Prop := ∀ a, (a < lo ∨ hi ≤ a) → h2 a = h a
theorem FrO.r {lo hi : Nat} {h : Mm} : FrO lo hi h h := fun _ _ => rfl
theorem FrO.t {lo hi : Nat} {h h1 h2 : Mm} (H : FrO lo hi h h1) (H2 : FrO lo hi h1 h2) : FrO lo hi h h2 := fun a ha => (H2 a ha).trans (H a ha)
theorem FrO.u {lo hi a k : Nat} {v : Int32} {h h1 : Mm} (H : FrO lo hi h h1) (h1' : lo ≤ a) (h2' : a < hi) : FrO lo hi h (u2 h1 a k v) := fun x hx => by rw [u2_off (by omega)]; exact H x hx
theorem FrO.w {lo hi lo2 hi2 : Nat} {h h2 : Mm} (H : FrO lo2 hi2 h h2) (h1 : lo ≤ lo2) (h2' : hi2 ≤ hi) : FrO lo hi h h2 := fun x hx => H x (by omega)
theorem FrO.rw {lo hi a : Nat} {f : Nat → Int32} {h h1 : Mm} (H : FrO lo hi h h1) (h1' : lo ≤ a) (h2' : a < hi) : FrO lo hi h (rw2 h1 a f) := fun x hx => by rw [rw2_off (by omega)]; exact H x hx
def addWD (d : Dm) (k sm c : Int32) : Dm := upd (upd (upd (upd (upd (upd (upd d (46 + 6 * nwD d + 0) k) (46 + 6 * nwD d + 1) (sm / nI 100)) (46 + 6 * nwD d + 2) (sm - sm / nI 100 * nI 100)) (46 + 6 * nwD d + 3) c) (46 + 6 * nwD d + 4) (nI 0)) (46 + 6 * nwD d + 5) (nI 0)) 10 (nI (nwD d + 1))
def addTD (d : Dm) (f s : Int32) : Dm := upd (upd (upd (upd d (94 + 3 * ntD d + 0) f) (94 + 3 * ntD d + 1) s) (94 + 3 * ntD d + 2) (nI 0)) 11 (nI (ntD d + 1))
/-- how many of the first k THINGS aren't hung up -/
def idleN (d : Dm) : Nat → Nat
  | 0 => 0
  | k + 1 => idleN d k + (if d (94 + 3 * k + 2) = nI 1 then 0 else 1)
def idleD (d : Dm) : Nat := idleN d (ntD d)
theorem idleN_s {d : Dm} {k : Nat} (H : DOK d) (hk : k < 5) : nI (idleN d k) + (nI 1 - d (94 + 3 * k + 2)) = nI (idleN d (k + 1)) := by
  obtain ⟨j, hj, e⟩ := H.hu hk
  show _ = nI (idleN d k + _)
  rw [e]
  have : j = 0 ∨ j = 1 := by omega
  rcases this with rfl | rfl
  · rw [if_neg (by decide), ← nI_add]; rfl
  · rw [if_pos rfl, show nI 1 - nI 1 = nI 0 from rfl, nI_add]
theorem idleN_le {d : Dm} : ∀ k, idleN d k ≤ k
  | 0 => Nat.le_refl _
  | k + 1 => by
    have := idleN_le (d := d) k
    show idleN d k + _ ≤ _
    split <;> omega
theorem min_held {s : Int32} {a : Nat} (hs : ix s 100) (ha : a ≤ 50) : (if s + nI a < nI 99 then s + nI a else nI 99) = heldM (s + nI a) (nI 0) (nI 99) := by
  obtain ⟨j, hj, rfl⟩ := hs
  rw [nI_add]
  unfold heldM
  rw [if_pos ((nI_leI (by omega) (by omega)).mpr (by omega))]
  by_cases h : j + a < 99
  · rw [if_pos ((nI_ltI (by omega) (by omega)).mpr h), if_pos ((nI_leI (by omega) (by omega)).mpr (by omega))]
  · rw [if_neg (fun q => h ((nI_ltI (by omega) (by omega)).mp q))]
    by_cases h2 : j + a ≤ 99
    · rw [if_pos ((nI_leI (by omega) (by omega)).mpr h2)]; congr 1; omega
    · rw [if_neg (fun q => h2 ((nI_leI (by omega) (by omega)).mp q))]
theorem DOK.st {d : Dm} (H : DOK d) {w : Nat} (hw : w < 8) : ix (d (46 + 6 * w + 1)) 100 := (H.2.2.2.1 w hw).2.1
theorem DOK.we {d : Dm} (H : DOK d) {w : Nat} (hw : w < 8) : ix (d (46 + 6 * w + 4)) 100 := (H.2.2.2.1 w hw).2.2.1
theorem DOK.me {d : Dm} (H : DOK d) {w : Nat} (hw : w < 8) : ix (d (46 + 6 * w + 5)) 10 := (H.2.2.2.1 w hw).2.2.2
theorem lt2_le1 {x : Int32} : x < nI 2 ↔ x ≤ nI 1 := by
  rw [i32_lt, i32_le, show (nI 2).toInt = 2 from rfl, show (nI 1).toInt = 1 from rfl]
  omega

def partD (d : Dm) (w k : Nat) : Int32 := if k = 6 then easeD d w else d (46 + 6 * w + k)

abbrev P_X1_fear (h : Mm) (b : Nat) (d : Dm) : Option Value → Mm → Prop := fun r h2 => r = some (.int (fearD d)) ∧ h = h2
theorem c_X1_fear {l : Launch} (h : Mm) (b : Nat) (d : Dm) (Hb : hB b) (hR : RH b h d) (hd : DOK d)  : Con l yX1_fear cX1_fear 3 (some .int) 0 0 132 GL h [.ref b] (P_X1_fear h b d) := by
  refine Con.ofV (own := "FoxRounds$House") (nm := "fear") rfl rfl (by decide) (Nat.le_of_ble_eq_true rfl) ?_
  intro κ ρ hkl K
  subst hkl
  show V κ (QM κ (132, ρ, GL, 0, 0) (P_X1_fear h b d)) 3 (132, ρ, GL, 0, 0) h 0 [(0, .ref b)] []
  have hnt := hd.nt5
  refine v_aload_n K dX1_fear_0 rfl ?_
  refine v_getr (q := b + 1) K fX1_9 Hb.o Hb.l0 Hb.g0 dX1_fear_1 ?_
  refine v_iconstN K 3 rfl dX1_fear_4 ?_
  refine v_iald (x := d 3) K Hb.n (Hb.l (by omega)) (by omega) (hR.n (by decide)) dX1_fear_5 ?_
  refine v_istore_n (lv2 := [(1, .int (d 3)), (0, .ref b)]) K dX1_fear_6 (by decide) rfl ?_
  refine v_iconstN K 0 rfl dX1_fear_7 ?_
  refine v_istore_n (lv2 := [(2, .int (nI 0)), (1, .int (d 3)), (0, .ref b)]) K dX1_fear_8 (by decide) rfl ?_
  have L9 : ∀ (mm : Nat) (f : Int32) (k : Nat) (hk : k ≤ ntD d) (hf : f = sumFear d k), ntD d + 1 - k < mm → V κ (QM κ (132, ρ, GL, 0, 0) (P_X1_fear h b d)) 3 (132, ρ, GL, 0, 0) h 9 [(0, .ref b), (1, .int f), (2, .int (nI k))] [] := by
    intro mm
    induction mm with
    | zero => intro f k hk hf hmm; exact absurd hmm (Nat.not_lt_zero _)
    | succ mm ih9 =>
      intro f k hk hf hmm
      refine v_iload_n K dX1_fear_9 rfl ?_
      refine v_aload_n K dX1_fear_10 rfl ?_
      refine v_geti (x := nI (ntD d)) K fX1_33 Hb.o Hb.l0 (hR.oB.trans hd.nt) dX1_fear_11 ?_
      refine v_icmpN_ge (tgt := 46) K (by omega) (by omega) dX1_fear_14 rfl (fun c1 => ?_) (fun c1 => ?_)
      · skip
        refine v_iload_n K dX1_fear_46 rfl ?_
        refine v_iret K dX1_fear_47 ?_
        have e : k = ntD d := by omega
        exact ⟨by rw [hf, e]; rfl, rfl⟩
      · skip
        refine v_aload_n K dX1_fear_17 rfl ?_
        refine v_getr (q := b + 11) K fX1_30 Hb.o Hb.l0 Hb.g5 dX1_fear_18 ?_
        refine v_iload_n K dX1_fear_21 rfl ?_
        refine v_aald (q := b + 12 + k) K Hb.T (Or.inl rfl) (Hb.l (by omega)) (by omega) (Hb.gt (by omega)) dX1_fear_22 ?_
        refine v_iconstN K 2 rfl dX1_fear_23 ?_
        refine v_iald (x := d (94 + 3 * k + 2)) K (Hb.t (by omega)) (Hb.l12 (by omega)) (by omega) (hR.t (by omega) (by decide)) dX1_fear_24 ?_
        refine v_iconstN K 1 rfl dX1_fear_25 ?_
        refine v_icmp_ne (tgt := 40) K dX1_fear_26 rfl (fun c2 => ?_) (fun c2 => ?_)
        · skip
          refine v_iincN (lv2 := [(2, .int (nI (k + 1))), (0, .ref b), (1, .int f)]) K 1 dX1_fear_40 rfl rfl (by decide) rfl ?_
          refine v_goto (tgt := 9) K dX1_fear_43 rfl ?_
          refine v_sub (lv2 := [(0, .ref b), (1, .int f), (2, .int (nI (k + 1)))]) (by simp) ?_
          exact ih9 f (k + 1) (by first | assumption | omega | rfl) (by rw [hf]; show _ = _ + _; first | (rw [if_pos (by assumption)]; rfl) | (rw [if_neg (by assumption)]; exact (Int32.add_zero _).symm)) (by omega)
        · skip
          refine v_iload_n K dX1_fear_29 rfl ?_
          refine v_aload_n K dX1_fear_30 rfl ?_
          refine v_getr (q := b + 11) K fX1_30 Hb.o Hb.l0 Hb.g5 dX1_fear_31 ?_
          refine v_iload_n K dX1_fear_34 rfl ?_
          refine v_aald (q := b + 12 + k) K Hb.T (Or.inl rfl) (Hb.l (by omega)) (by omega) (Hb.gt (by omega)) dX1_fear_35 ?_
          refine v_iconstN K 0 rfl dX1_fear_36 ?_
          refine v_iald (x := d (94 + 3 * k + 0)) K (Hb.t (by omega)) (Hb.l12 (by omega)) (by omega) (hR.t (by omega) (by decide)) dX1_fear_37 ?_
          refine v_iadd K dX1_fear_38 ?_
          refine v_nm (fun x1 e_x1 => ?_)
          refine v_istore_n (lv2 := [(1, .int x1), (0, .ref b), (2, .int (nI k))]) K dX1_fear_39 (by decide) rfl ?_
          refine v_iincN (lv2 := [(2, .int (nI (k + 1))), (1, .int x1), (0, .ref b)]) K 1 dX1_fear_40 rfl rfl (by decide) rfl ?_
          refine v_goto (tgt := 9) K dX1_fear_43 rfl ?_
          refine v_sub (lv2 := [(0, .ref b), (1, .int x1), (2, .int (nI (k + 1)))]) (by simp) ?_
          exact ih9 x1 (k + 1) (by first | assumption | omega | rfl) (by rw [e_x1, hf]; show _ = _ + _; first | (rw [if_pos (by assumption)]; rfl) | (rw [if_neg (by assumption)]; exact (Int32.add_zero _).symm)) (by omega)
  refine v_sub (lv2 := [(0, .ref b), (1, .int (d 3)), (2, .int (nI 0))]) (by simp) ?_
  exact L9 (ntD d + 1 - 0 + 1) (d 3) 0 (by first | assumption | omega | rfl) (by rfl) (Nat.lt_succ_self _)

abbrev P_X1_boldness (h : Mm) (b : Nat) (d : Dm) : Option Value → Mm → Prop := fun r h2 => r = some (.int (boldD d)) ∧ h = h2
theorem c_X1_boldness {l : Launch} (h : Mm) (b : Nat) (d : Dm) (Hb : hB b) (hR : RH b h d) (hd : DOK d)  : Con l yX1_boldness cX1_boldness 1 (some .int) 1 22 132 GL h [.ref b] (P_X1_boldness h b d) := by
  refine Con.ofV (own := "FoxRounds$House") (nm := "boldness") rfl rfl (by decide) (Nat.le_of_ble_eq_true rfl) ?_
  intro κ ρ hkl K
  subst hkl
  show V κ (QM κ (132, ρ, GL, 0, 0) (P_X1_boldness h b d)) 1 (132, ρ, GL, 0, 0) h 0 [(0, .ref b)] []
  refine v_aload_n K dX1_boldness_0 rfl ?_
  refine v_getr (q := b + 1) K fX1_9 Hb.o Hb.l0 Hb.g0 dX1_boldness_1 ?_
  refine v_iconstN K 2 rfl dX1_boldness_4 ?_
  refine v_iald (x := d 2) K Hb.n (Hb.l (by omega)) (by omega) (hR.n (by decide)) dX1_boldness_5 ?_
  refine v_aload_n K dX1_boldness_6 rfl ?_
  refine v_callV (As := []) K (c_X1_fear h b d Hb hR hd) lX1_65 ck_X1 rfl Hb.o Hb.l0 rfl ⟨by decide, by decide⟩ (Nat.le_of_ble_eq_true rfl) dX1_boldness_7 (fun r1 h1 hp1 => ?_) rfl
  obtain ⟨rfl, rfl⟩ := hp1
  refine v_some ?_
  refine v_isub K dX1_boldness_10 ?_
  refine v_iconstN K 5 rfl dX1_boldness_11 ?_
  refine v_aload_n K dX1_boldness_12 rfl ?_
  refine v_getr (q := b + 1) K fX1_9 Hb.o Hb.l0 Hb.g0 dX1_boldness_13 ?_
  refine v_iconstN K 1 rfl dX1_boldness_16 ?_
  refine v_iald (x := d 1) K Hb.n (Hb.l (by omega)) (by omega) (hR.n (by decide)) dX1_boldness_17 ?_
  refine v_imul K dX1_boldness_18 ?_
  refine v_iadd K dX1_boldness_19 ?_
  refine v_iret K dX1_boldness_20 ?_
  exact ⟨rfl, rfl⟩

abbrev P_X1_month (h : Mm) (b : Nat) (d : Dm) : Option Value → Mm → Prop := fun r h2 => r = some (.int (monthD d)) ∧ h = h2
theorem c_X1_month {l : Launch} (h : Mm) (b : Nat) (d : Dm) (Hb : hB b) (hR : RH b h d) (hd : DOK d)  : Con l yX1_month cX1_month 1 (some .int) 0 0 132 GL h [.ref b] (P_X1_month h b d) := by
  refine Con.ofV (own := "FoxRounds$House") (nm := "month") rfl rfl (by decide) (Nat.le_of_ble_eq_true rfl) ?_
  intro κ ρ hkl K
  subst hkl
  show V κ (QM κ (132, ρ, GL, 0, 0) (P_X1_month h b d)) 1 (132, ρ, GL, 0, 0) h 0 [(0, .ref b)] []
  refine v_aload_n K dX1_month_0 rfl ?_
  refine v_geti (x := d 8) K fX1_15 Hb.o Hb.l0 hR.o8 dX1_month_1 ?_
  refine v_bipushN K 30 rfl dX1_month_4 ?_
  refine v_idiv K dX1_month_6 (by decide) ?_
  refine v_bipushN K 12 rfl dX1_month_7 ?_
  refine v_irem K dX1_month_9 (by decide) ?_
  refine v_iret K dX1_month_10 ?_
  exact ⟨rfl, rfl⟩

abbrev P_X1_doorEase (h : Mm) (b : Nat) (d : Dm) (w : Nat) : Option Value → Mm → Prop := fun r h2 => r = some (.int (doorD d w)) ∧ h = h2
theorem c_X1_doorEase {l : Launch} (h : Mm) (b : Nat) (d : Dm) (w : Nat) (Hb : hB b) (hR : RH b h d) (hd : DOK d) (hw : w < 8) : Con l yX1_doorEase cX1_doorEase 2 (some .int) 0 0 132 GL h [.ref b, .ref (b + 3 + w)] (P_X1_doorEase h b d w) := by
  refine Con.ofV (own := "FoxRounds$House") (nm := "doorEase") rfl rfl (by decide) (Nat.le_of_ble_eq_true rfl) ?_
  intro κ ρ hkl K
  subst hkl
  show V κ (QM κ (132, ρ, GL, 0, 0) (P_X1_doorEase h b d w)) 2 (132, ρ, GL, 0, 0) h 0 [(0, .ref b), (1, .ref (b + 3 + w))] []
  refine v_aload_n K dX1_doorEase_0 rfl ?_
  refine v_getr (q := b + 1) K fX1_9 Hb.o Hb.l0 Hb.g0 dX1_doorEase_1 ?_
  refine v_iconstN K 4 rfl dX1_doorEase_4 ?_
  refine v_iald (x := d 4) K Hb.n (Hb.l (by omega)) (by omega) (hR.n (by decide)) dX1_doorEase_5 ?_
  refine v_iconstN K 1 rfl dX1_doorEase_6 ?_
  refine v_icmp_ne (tgt := 15) K dX1_doorEase_7 rfl (fun c1 => ?_) (fun c1 => ?_)
  · skip
    refine v_bipushN K 99 rfl dX1_doorEase_15 ?_
    refine v_aload_n K dX1_doorEase_17 rfl ?_
    refine v_iconstN K 1 rfl dX1_doorEase_18 ?_
    refine v_iald (x := d (46 + 6 * w + 1)) K (Hb.w (by omega)) (Hb.l3 (by omega)) (by omega) (hR.w (by omega) (by decide)) dX1_doorEase_19 ?_
    refine v_isub K dX1_doorEase_20 ?_
    refine v_iret K dX1_doorEase_21 ?_
    refine ⟨some_int ?_, rfl⟩
    unfold doorD
    first | rfl | rw [if_pos (by assumption)] | (rw [if_neg (by assumption)]; rfl)
  · skip
    refine v_bipushN K 99 rfl dX1_doorEase_10 ?_
    refine v_goto (tgt := 21) K dX1_doorEase_12 rfl ?_
    refine v_iret K dX1_doorEase_21 ?_
    refine ⟨some_int ?_, rfl⟩
    unfold doorD
    first | rfl | rw [if_pos (by assumption)] | (rw [if_neg (by assumption)]; rfl)

abbrev P_X1_looseEase (h : Mm) (b : Nat) (d : Dm) (w : Nat) : Option Value → Mm → Prop := fun r h2 => r = some (.int (looseD d w)) ∧ h = h2
theorem c_X1_looseEase {l : Launch} (h : Mm) (b : Nat) (d : Dm) (w : Nat) (Hb : hB b) (hR : RH b h d) (hd : DOK d) (hw : w < 8) : Con l yX1_looseEase cX1_looseEase 2 (some .int) 0 0 132 GL h [.ref b, .ref (b + 3 + w)] (P_X1_looseEase h b d w) := by
  refine Con.ofV (own := "FoxRounds$House") (nm := "looseEase") rfl rfl (by decide) (Nat.le_of_ble_eq_true rfl) ?_
  intro κ ρ hkl K
  subst hkl
  show V κ (QM κ (132, ρ, GL, 0, 0) (P_X1_looseEase h b d w)) 2 (132, ρ, GL, 0, 0) h 0 [(0, .ref b), (1, .ref (b + 3 + w))] []
  refine v_bipushN K 99 rfl dX1_looseEase_0 ?_
  refine v_aload_n K dX1_looseEase_2 rfl ?_
  refine v_iconstN K 1 rfl dX1_looseEase_3 ?_
  refine v_iald (x := d (46 + 6 * w + 1)) K (Hb.w (by omega)) (Hb.l3 (by omega)) (by omega) (hR.w (by omega) (by decide)) dX1_looseEase_4 ?_
  refine v_isub K dX1_looseEase_5 ?_
  refine v_iconstN K 5 rfl dX1_looseEase_6 ?_
  refine v_aload_n K dX1_looseEase_7 rfl ?_
  refine v_iconstN K 4 rfl dX1_looseEase_8 ?_
  refine v_iald (x := d (46 + 6 * w + 4)) K (Hb.w (by omega)) (Hb.l3 (by omega)) (by omega) (hR.w (by omega) (by decide)) dX1_looseEase_9 ?_
  refine v_imul K dX1_looseEase_10 ?_
  refine v_iadd K dX1_looseEase_11 ?_
  refine v_iret K dX1_looseEase_12 ?_
  exact ⟨rfl, rfl⟩

abbrev P_X1_dugEase (h : Mm) (b : Nat) (d : Dm) (w : Nat) : Option Value → Mm → Prop := fun r h2 => r = some (.int (dugD d w)) ∧ h = h2
theorem c_X1_dugEase {l : Launch} (h : Mm) (b : Nat) (d : Dm) (w : Nat) (Hb : hB b) (hR : RH b h d) (hd : DOK d) (hw : w < 8) : Con l yX1_dugEase cX1_dugEase 3 (some .int) 1 20 132 GL h [.ref b, .ref (b + 3 + w)] (P_X1_dugEase h b d w) := by
  refine Con.ofV (own := "FoxRounds$House") (nm := "dugEase") rfl rfl (by decide) (Nat.le_of_ble_eq_true rfl) ?_
  intro κ ρ hkl K
  subst hkl
  show V κ (QM κ (132, ρ, GL, 0, 0) (P_X1_dugEase h b d w)) 3 (132, ρ, GL, 0, 0) h 0 [(0, .ref b), (1, .ref (b + 3 + w))] []
  have L23 : ∀ (fr : Int32) (hfr : fr = frostD d), V κ (QM κ (132, ρ, GL, 0, 0) (P_X1_dugEase h b d w)) 3 (132, ρ, GL, 0, 0) h 23 [(0, .ref b), (1, .ref (b + 3 + w))] [.int fr] := by
    intro fr hfr
    refine v_istore_n (lv2 := [(2, .int fr), (0, .ref b), (1, .ref (b + 3 + w))]) K dX1_dugEase_23 (by decide) rfl ?_
    refine v_bipushN K 99 rfl dX1_dugEase_24 ?_
    refine v_aload_n K dX1_dugEase_26 rfl ?_
    refine v_iconstN K 1 rfl dX1_dugEase_27 ?_
    refine v_iald (x := d (46 + 6 * w + 1)) K (Hb.w (by omega)) (Hb.l3 (by omega)) (by omega) (hR.w (by omega) (by decide)) dX1_dugEase_28 ?_
    refine v_isub K dX1_dugEase_29 ?_
    refine v_iconstN K 3 rfl dX1_dugEase_30 ?_
    refine v_aload_n K dX1_dugEase_31 rfl ?_
    refine v_iconstN K 4 rfl dX1_dugEase_32 ?_
    refine v_iald (x := d (46 + 6 * w + 4)) K (Hb.w (by omega)) (Hb.l3 (by omega)) (by omega) (hR.w (by omega) (by decide)) dX1_dugEase_33 ?_
    refine v_imul K dX1_dugEase_34 ?_
    refine v_iadd K dX1_dugEase_35 ?_
    refine v_iload_n K dX1_dugEase_36 rfl ?_
    refine v_isub K dX1_dugEase_37 ?_
    refine v_iret K dX1_dugEase_38 ?_
    exact ⟨some_int (by rw [hfr]; rfl), rfl⟩
  refine v_aload_n K dX1_dugEase_0 rfl ?_
  refine v_callV (As := []) K (c_X1_month h b d Hb hR hd) lX1_72 ck_X1 rfl Hb.o Hb.l0 rfl ⟨by decide, by decide⟩ (Nat.le_of_ble_eq_true rfl) dX1_dugEase_1 (fun r1 h1 hp1 => ?_) rfl
  obtain ⟨rfl, rfl⟩ := hp1
  refine v_some ?_
  refine v_iconstN K 1 rfl dX1_dugEase_4 ?_
  refine v_icmp_le (tgt := 17) K dX1_dugEase_5 rfl (fun c1 => ?_) (fun c1 => ?_)
  · skip
    refine v_bipushN K 20 rfl dX1_dugEase_17 ?_
    refine v_goto (tgt := 23) K dX1_dugEase_19 rfl ?_
    refine v_sub (lv2 := [(0, .ref b), (1, .ref (b + 3 + w))]) (by simp) ?_
    exact L23 (nI 20) (by unfold frostD; first | rw [if_pos (Or.inl (lt2_le1.mpr (by assumption)))] | rw [if_pos (Or.inr (by assumption))] | rw [if_neg (by rw [not_or, lt2_le1]; exact ⟨by assumption, by assumption⟩)])
  · skip
    refine v_aload_n K dX1_dugEase_8 rfl ?_
    refine v_callV (As := []) K (c_X1_month h b d Hb hR hd) lX1_72 ck_X1 rfl Hb.o Hb.l0 rfl ⟨by decide, by decide⟩ (Nat.le_of_ble_eq_true rfl) dX1_dugEase_9 (fun r2 h2 hp2 => ?_) rfl
    obtain ⟨rfl, rfl⟩ := hp2
    refine v_some ?_
    refine v_bipushN K 11 rfl dX1_dugEase_12 ?_
    refine v_icmp_ne (tgt := 22) K dX1_dugEase_14 rfl (fun c2 => ?_) (fun c2 => ?_)
    · skip
      refine v_iconstN K 0 rfl dX1_dugEase_22 ?_
      refine v_sub (lv2 := [(0, .ref b), (1, .ref (b + 3 + w))]) (by simp) ?_
      exact L23 (nI 0) (by unfold frostD; first | rw [if_pos (Or.inl (lt2_le1.mpr (by assumption)))] | rw [if_pos (Or.inr (by assumption))] | rw [if_neg (by rw [not_or, lt2_le1]; exact ⟨by assumption, by assumption⟩)])
    · skip
      refine v_bipushN K 20 rfl dX1_dugEase_17 ?_
      refine v_goto (tgt := 23) K dX1_dugEase_19 rfl ?_
      refine v_sub (lv2 := [(0, .ref b), (1, .ref (b + 3 + w))]) (by simp) ?_
      exact L23 (nI 20) (by unfold frostD; first | rw [if_pos (Or.inl (lt2_le1.mpr (by assumption)))] | rw [if_pos (Or.inr (by assumption))] | rw [if_neg (by rw [not_or, lt2_le1]; exact ⟨by assumption, by assumption⟩)])

abbrev P_X1_ease (h : Mm) (b : Nat) (d : Dm) (w : Nat) : Option Value → Mm → Prop := fun r h2 => r = some (.int (easeD d w)) ∧ h = h2
theorem c_X1_ease {l : Launch} (h : Mm) (b : Nat) (d : Dm) (w : Nat) (Hb : hB b) (hR : RH b h d) (hd : DOK d) (hw : w < 8) : Con l yX1_ease cX1_ease 2 (some .int) 2 42 132 GL h [.ref b, .ref (b + 3 + w)] (P_X1_ease h b d w) := by
  refine Con.ofV (own := "FoxRounds$House") (nm := "ease") rfl rfl (by decide) (Nat.le_of_ble_eq_true rfl) ?_
  intro κ ρ hkl K
  subst hkl
  show V κ (QM κ (132, ρ, GL, 0, 0) (P_X1_ease h b d w)) 2 (132, ρ, GL, 0, 0) h 0 [(0, .ref b), (1, .ref (b + 3 + w))] []
  refine v_aload_n K dX1_ease_0 rfl ?_
  refine v_iconstN K 0 rfl dX1_ease_1 ?_
  refine v_iald (x := d (46 + 6 * w + 0)) K (Hb.w (by omega)) (Hb.l3 (by omega)) (by omega) (hR.w (by omega) (by decide)) dX1_ease_2 ?_
  rcases ixc_7 (hd.kd hw) with e | e | e | e | e | e | e
  · skip
    refine v_top (y := nI 0) e ?_
    refine v_toutN (tgt := 105) K (by decide) dX1_ease_3 (by decide) rfl ?_
    refine v_bipushN K 99 rfl dX1_ease_105 ?_
    refine v_aload_n K dX1_ease_107 rfl ?_
    refine v_iconstN K 1 rfl dX1_ease_108 ?_
    refine v_iald (x := d (46 + 6 * w + 1)) K (Hb.w (by omega)) (Hb.l3 (by omega)) (by omega) (hR.w (by omega) (by decide)) dX1_ease_109 ?_
    refine v_isub K dX1_ease_110 ?_
    refine v_iret K dX1_ease_111 ?_
    exact ⟨some_int (by rw [easeD_0 e]; rfl), rfl⟩
  · skip
    refine v_top (y := nI 1) e ?_
    refine v_tinN (off := 37) (tgt := 40) K (by decide) 1 dX1_ease_3 (by decide) (by decide) (by decide) rfl rfl ?_
    refine v_aload_n K dX1_ease_40 rfl ?_
    refine v_aload_n K dX1_ease_41 rfl ?_
    refine v_callV (As := [.ref (b + 3 + w)]) K (c_X1_doorEase h b d w Hb hR hd (by omega)) lX1_69 ck_X1 rfl Hb.o Hb.l0 rfl ⟨by decide, by decide⟩ (Nat.le_of_ble_eq_true rfl) dX1_ease_42 (fun r1 h1 hp1 => ?_) rfl
    obtain ⟨rfl, rfl⟩ := hp1
    refine v_some ?_
    refine v_iret K dX1_ease_45 ?_
    exact ⟨some_int (easeD_1 e).symm, rfl⟩
  · skip
    refine v_top (y := nI 2) e ?_
    refine v_tinN (off := 70) (tgt := 73) K (by decide) 2 dX1_ease_3 (by decide) (by decide) (by decide) rfl rfl ?_
    refine v_aload_n K dX1_ease_73 rfl ?_
    refine v_aload_n K dX1_ease_74 rfl ?_
    refine v_callV (As := [.ref (b + 3 + w)]) K (c_X1_dugEase h b d w Hb hR hd (by omega)) lX1_75 ck_X1 rfl Hb.o Hb.l0 rfl ⟨by decide, by decide⟩ (Nat.le_of_ble_eq_true rfl) dX1_ease_75 (fun r2 h2 hp2 => ?_) rfl
    obtain ⟨rfl, rfl⟩ := hp2
    refine v_some ?_
    refine v_iret K dX1_ease_78 ?_
    exact ⟨some_int (easeD_2 e).symm, rfl⟩
  · skip
    refine v_top (y := nI 3) e ?_
    refine v_tinN (off := 86) (tgt := 89) K (by decide) 3 dX1_ease_3 (by decide) (by decide) (by decide) rfl rfl ?_
    refine v_aload_n K dX1_ease_89 rfl ?_
    refine v_aload_n K dX1_ease_90 rfl ?_
    refine v_callV (As := [.ref (b + 3 + w)]) K (c_X1_looseEase h b d w Hb hR hd (by omega)) lX1_78 ck_X1 rfl Hb.o Hb.l0 rfl ⟨by decide, by decide⟩ (Nat.le_of_ble_eq_true rfl) dX1_ease_91 (fun r3 h3 hp3 => ?_) rfl
    obtain ⟨rfl, rfl⟩ := hp3
    refine v_some ?_
    refine v_iret K dX1_ease_94 ?_
    exact ⟨some_int (easeD_3 e).symm, rfl⟩
  · skip
    refine v_top (y := nI 4) e ?_
    refine v_tinN (off := 76) (tgt := 79) K (by decide) 4 dX1_ease_3 (by decide) (by decide) (by decide) rfl rfl ?_
    refine v_aload_n K dX1_ease_79 rfl ?_
    refine v_aload_n K dX1_ease_80 rfl ?_
    refine v_callV (As := [.ref (b + 3 + w)]) K (c_X1_dugEase h b d w Hb hR hd (by omega)) lX1_75 ck_X1 rfl Hb.o Hb.l0 rfl ⟨by decide, by decide⟩ (Nat.le_of_ble_eq_true rfl) dX1_ease_81 (fun r4 h4 hp4 => ?_) rfl
    obtain ⟨rfl, rfl⟩ := hp4
    refine v_some ?_
    refine v_aload_n K dX1_ease_84 rfl ?_
    refine v_iconstN K 2 rfl dX1_ease_85 ?_
    refine v_iald (x := d (46 + 6 * w + 2)) K (Hb.w (by omega)) (Hb.l3 (by omega)) (by omega) (hR.w (by omega) (by decide)) dX1_ease_86 ?_
    refine v_isub K dX1_ease_87 ?_
    refine v_iret K dX1_ease_88 ?_
    exact ⟨some_int (easeD_4 e).symm, rfl⟩
  · skip
    refine v_top (y := nI 5) e ?_
    refine v_tinN (off := 92) (tgt := 95) K (by decide) 5 dX1_ease_3 (by decide) (by decide) (by decide) rfl rfl ?_
    refine v_aload_n K dX1_ease_95 rfl ?_
    refine v_aload_n K dX1_ease_96 rfl ?_
    refine v_callV (As := [.ref (b + 3 + w)]) K (c_X1_looseEase h b d w Hb hR hd (by omega)) lX1_78 ck_X1 rfl Hb.o Hb.l0 rfl ⟨by decide, by decide⟩ (Nat.le_of_ble_eq_true rfl) dX1_ease_97 (fun r5 h5 hp5 => ?_) rfl
    obtain ⟨rfl, rfl⟩ := hp5
    refine v_some ?_
    refine v_aload_n K dX1_ease_100 rfl ?_
    refine v_iconstN K 2 rfl dX1_ease_101 ?_
    refine v_iald (x := d (46 + 6 * w + 2)) K (Hb.w (by omega)) (Hb.l3 (by omega)) (by omega) (hR.w (by omega) (by decide)) dX1_ease_102 ?_
    refine v_iadd K dX1_ease_103 ?_
    refine v_iret K dX1_ease_104 ?_
    exact ⟨some_int (easeD_5 e).symm, rfl⟩
  · skip
    refine v_top (y := nI 6) e ?_
    refine v_tinN (off := 43) (tgt := 46) K (by decide) 6 dX1_ease_3 (by decide) (by decide) (by decide) rfl rfl ?_
    refine v_aload_n K dX1_ease_46 rfl ?_
    refine v_aload_n K dX1_ease_47 rfl ?_
    refine v_callV (As := [.ref (b + 3 + w)]) K (c_X1_doorEase h b d w Hb hR hd (by omega)) lX1_69 ck_X1 rfl Hb.o Hb.l0 rfl ⟨by decide, by decide⟩ (Nat.le_of_ble_eq_true rfl) dX1_ease_48 (fun r6 h6 hp6 => ?_) rfl
    obtain ⟨rfl, rfl⟩ := hp6
    refine v_some ?_
    refine v_aload_n K dX1_ease_51 rfl ?_
    refine v_callV (As := []) K (c_X1_month h b d Hb hR hd) lX1_72 ck_X1 rfl Hb.o Hb.l0 rfl ⟨by decide, by decide⟩ (Nat.le_of_ble_eq_true rfl) dX1_ease_52 (fun r7 h7 hp7 => ?_) rfl
    obtain ⟨rfl, rfl⟩ := hp7
    refine v_some ?_
    refine v_iconstN K 5 rfl dX1_ease_55 ?_
    refine v_bipushN K 7 rfl dX1_ease_56 ?_
    refine v_callN (As := [.int (monthD d), .int (nI 5), .int (nI 7)]) K (c_X9_within h (monthD d) (nI 5) (nI 7)) lX1_51 rfl ⟨by decide, by decide⟩ (Nat.le_of_ble_eq_true rfl) dX1_ease_58 (fun r8 h8 hp8 => ?_) rfl
    obtain ⟨rfl, rfl⟩ := hp8
    refine v_some ?_
    refine v_ifB_eq (tgt := 70) K dX1_ease_61 rfl (fun c1 => ?_) (fun c1 => ?_)
    · skip
      refine v_iconstN K 0 rfl dX1_ease_70 ?_
      refine v_isub K dX1_ease_71 ?_
      refine v_iret K dX1_ease_72 ?_
      refine ⟨some_int ?_, rfl⟩
      rw [easeD_6 e]
      first | rw [if_pos (by assumption)] | (rw [if_neg (by assumption)]; exact Int32.sub_zero _)
    · skip
      refine v_aload_n K dX1_ease_64 rfl ?_
      refine v_iconstN K 2 rfl dX1_ease_65 ?_
      refine v_iald (x := d (46 + 6 * w + 2)) K (Hb.w (by omega)) (Hb.l3 (by omega)) (by omega) (hR.w (by omega) (by decide)) dX1_ease_66 ?_
      refine v_goto (tgt := 71) K dX1_ease_67 rfl ?_
      refine v_isub K dX1_ease_71 ?_
      refine v_iret K dX1_ease_72 ?_
      refine ⟨some_int ?_, rfl⟩
      rw [easeD_6 e]
      first | rw [if_pos (by assumption)] | (rw [if_neg (by assumption)]; exact Int32.sub_zero _)

abbrev P_X1_hasWay (h : Mm) (b : Nat) (d : Dm) (v : Int32) : Option Value → Mm → Prop := fun r h2 => r = some (.int (b2i (ix v (nwD d)))) ∧ h = h2
theorem c_X1_hasWay {l : Launch} (h : Mm) (b : Nat) (d : Dm) (v : Int32) (Hb : hB b) (hR : RH b h d) (hd : DOK d)  : Con l yX1_hasWay cX1_hasWay 2 (some .boolean) 1 22 132 GL h [.ref b, .int v] (P_X1_hasWay h b d v) := by
  refine Con.ofV (own := "FoxRounds$House") (nm := "hasWay") rfl rfl (by decide) (Nat.le_of_ble_eq_true rfl) ?_
  intro κ ρ hkl K
  subst hkl
  show V κ (QM κ (132, ρ, GL, 0, 0) (P_X1_hasWay h b d v)) 2 (132, ρ, GL, 0, 0) h 0 [(0, .ref b), (1, .int v)] []
  have hb := hd.nw8
  refine v_iload_n K dX1_hasWay_0 rfl ?_
  refine v_iconstN K 0 rfl dX1_hasWay_1 ?_
  refine v_aload_n K dX1_hasWay_2 rfl ?_
  refine v_geti (x := nI (nwD d)) K fX1_27 Hb.o Hb.l0 (hR.oA.trans hd.nw) dX1_hasWay_3 ?_
  refine v_iconstN K 1 rfl dX1_hasWay_6 ?_
  refine v_isub K dX1_hasWay_7 ?_
  refine v_callN (As := [.int v, .int (nI 0), .int ((nI (nwD d)) - (nI 1))]) K (c_X9_within h v (nI 0) ((nI (nwD d)) - (nI 1))) lX1_51 rfl ⟨by decide, by decide⟩ (Nat.le_of_ble_eq_true rfl) dX1_hasWay_8 (fun r1 h1 hp1 => ?_) rfl
  obtain ⟨rfl, rfl⟩ := hp1
  refine v_some ?_
  refine v_zret K dX1_hasWay_11 (b2i_01 _) ?_
  exact ⟨some_int (b2i_e (ix_rng1 (by omega))), rfl⟩

abbrev P_X1_hasThing (h : Mm) (b : Nat) (d : Dm) (v : Int32) : Option Value → Mm → Prop := fun r h2 => r = some (.int (b2i (ix v (ntD d)))) ∧ h = h2
theorem c_X1_hasThing {l : Launch} (h : Mm) (b : Nat) (d : Dm) (v : Int32) (Hb : hB b) (hR : RH b h d) (hd : DOK d)  : Con l yX1_hasThing cX1_hasThing 2 (some .boolean) 1 22 132 GL h [.ref b, .int v] (P_X1_hasThing h b d v) := by
  refine Con.ofV (own := "FoxRounds$House") (nm := "hasThing") rfl rfl (by decide) (Nat.le_of_ble_eq_true rfl) ?_
  intro κ ρ hkl K
  subst hkl
  show V κ (QM κ (132, ρ, GL, 0, 0) (P_X1_hasThing h b d v)) 2 (132, ρ, GL, 0, 0) h 0 [(0, .ref b), (1, .int v)] []
  have hb := hd.nt5
  refine v_iload_n K dX1_hasThing_0 rfl ?_
  refine v_iconstN K 0 rfl dX1_hasThing_1 ?_
  refine v_aload_n K dX1_hasThing_2 rfl ?_
  refine v_geti (x := nI (ntD d)) K fX1_33 Hb.o Hb.l0 (hR.oB.trans hd.nt) dX1_hasThing_3 ?_
  refine v_iconstN K 1 rfl dX1_hasThing_6 ?_
  refine v_isub K dX1_hasThing_7 ?_
  refine v_callN (As := [.int v, .int (nI 0), .int ((nI (ntD d)) - (nI 1))]) K (c_X9_within h v (nI 0) ((nI (ntD d)) - (nI 1))) lX1_51 rfl ⟨by decide, by decide⟩ (Nat.le_of_ble_eq_true rfl) dX1_hasThing_8 (fun r1 h1 hp1 => ?_) rfl
  obtain ⟨rfl, rfl⟩ := hp1
  refine v_some ?_
  refine v_zret K dX1_hasThing_11 (b2i_01 _) ?_
  exact ⟨some_int (b2i_e (ix_rng1 (by omega))), rfl⟩

abbrev P_X1_wayPart (h : Mm) (b : Nat) (d : Dm) (w k : Nat) : Option Value → Mm → Prop := fun r h2 => r = some (.int (partD d w k)) ∧ h = h2
theorem c_X1_wayPart {l : Launch} (h : Mm) (b : Nat) (d : Dm) (w k : Nat) (Hb : hB b) (hR : RH b h d) (hd : DOK d) (hw : w < 8) (hk : k < 7) : Con l yX1_wayPart cX1_wayPart 3 (some .int) 3 63 132 GL h [.ref b, .int (nI w), .int (nI k)] (P_X1_wayPart h b d w k) := by
  refine Con.ofV (own := "FoxRounds$House") (nm := "wayPart") rfl rfl (by decide) (Nat.le_of_ble_eq_true rfl) ?_
  intro κ ρ hkl K
  subst hkl
  show V κ (QM κ (132, ρ, GL, 0, 0) (P_X1_wayPart h b d w k)) 3 (132, ρ, GL, 0, 0) h 0 [(0, .ref b), (1, .int (nI w)), (2, .int (nI k))] []
  refine v_iload_n K dX1_wayPart_0 rfl ?_
  refine v_bipushN K 6 rfl dX1_wayPart_1 ?_
  refine v_icmpN_ne (tgt := 19) K (by omega) (by omega) dX1_wayPart_3 rfl (fun c1 => ?_) (fun c1 => ?_)
  · skip
    refine v_aload_n K dX1_wayPart_19 rfl ?_
    refine v_getr (q := b + 2) K fX1_24 Hb.o Hb.l0 Hb.g3 dX1_wayPart_20 ?_
    refine v_iload_n K dX1_wayPart_23 rfl ?_
    refine v_aald (q := b + 3 + w) K Hb.W (Or.inl rfl) (Hb.l (by omega)) (by omega) (Hb.gw (by omega)) dX1_wayPart_24 ?_
    refine v_iload_n K dX1_wayPart_25 rfl ?_
    refine v_iald (x := d (46 + 6 * w + k)) K (Hb.w (by omega)) (Hb.l3 (by omega)) (by omega) (hR.w hw (by omega)) dX1_wayPart_26 ?_
    refine v_iret K dX1_wayPart_27 ?_
    refine ⟨some_int ?_, rfl⟩
    unfold partD
    first | rw [if_pos (by assumption)] | rw [if_neg (by assumption)]
  · skip
    refine v_aload_n K dX1_wayPart_6 rfl ?_
    refine v_aload_n K dX1_wayPart_7 rfl ?_
    refine v_getr (q := b + 2) K fX1_24 Hb.o Hb.l0 Hb.g3 dX1_wayPart_8 ?_
    refine v_iload_n K dX1_wayPart_11 rfl ?_
    refine v_aald (q := b + 3 + w) K Hb.W (Or.inl rfl) (Hb.l (by omega)) (by omega) (Hb.gw (by omega)) dX1_wayPart_12 ?_
    refine v_callV (As := [.ref (b + 3 + w)]) K (c_X1_ease h b d w Hb hR hd (by omega)) lX1_55 ck_X1 rfl Hb.o Hb.l0 rfl ⟨by decide, by decide⟩ (Nat.le_of_ble_eq_true rfl) dX1_wayPart_13 (fun r1 h1 hp1 => ?_) rfl
    obtain ⟨rfl, rfl⟩ := hp1
    refine v_some ?_
    refine v_goto (tgt := 27) K dX1_wayPart_16 rfl ?_
    refine v_iret K dX1_wayPart_27 ?_
    refine ⟨some_int ?_, rfl⟩
    unfold partD
    first | rw [if_pos (by assumption)] | rw [if_neg (by assumption)]

abbrev P_X1_mendWay (h : Mm) (b : Nat) (d : Dm) (w : Nat) : Option Value → Mm → Prop := fun r h2 => r = none ∧ RH b h2 (mendD d w) ∧ FrO b (b + 18) h h2
theorem c_X1_mendWay {l : Launch} (h : Mm) (b : Nat) (d : Dm) (w : Nat) (Hb : hB b) (hR : RH b h d) (hd : DOK d) (hw : w < 8) : Con l yX1_mendWay cX1_mendWay 2 none 1 21 132 GL h [.ref b, .int (nI w)] (P_X1_mendWay h b d w) := by
  refine Con.ofV (own := "FoxRounds$House") (nm := "mendWay") rfl rfl (by decide) (Nat.le_of_ble_eq_true rfl) ?_
  intro κ ρ hkl K
  subst hkl
  show V κ (QM κ (132, ρ, GL, 0, 0) (P_X1_mendWay h b d w)) 2 (132, ρ, GL, 0, 0) h 0 [(0, .ref b), (1, .int (nI w))] []
  refine v_aload_n K dX1_mendWay_0 rfl ?_
  refine v_getr (q := b + 2) K fX1_24 Hb.o Hb.l0 Hb.g3 dX1_mendWay_1 ?_
  refine v_iload_n K dX1_mendWay_4 rfl ?_
  refine v_aald (q := b + 3 + w) K Hb.W (Or.inl rfl) (Hb.l (by omega)) (by omega) (Hb.gw (by omega)) dX1_mendWay_5 ?_
  refine v_iconstN K 1 rfl dX1_mendWay_6 ?_
  refine v_bipushN K 99 rfl dX1_mendWay_7 ?_
  refine v_aload_n K dX1_mendWay_9 rfl ?_
  refine v_getr (q := b + 2) K fX1_24 Hb.o Hb.l0 Hb.g3 dX1_mendWay_10 ?_
  refine v_iload_n K dX1_mendWay_13 rfl ?_
  refine v_aald (q := b + 3 + w) K Hb.W (Or.inl rfl) (Hb.l (by omega)) (by omega) (Hb.gw (by omega)) dX1_mendWay_14 ?_
  refine v_iconstN K 1 rfl dX1_mendWay_15 ?_
  refine v_iald (x := d (46 + 6 * w + 1)) K (Hb.w (by omega)) (Hb.l3 (by omega)) (by omega) (hR.w (by omega) (by decide)) dX1_mendWay_16 ?_
  refine v_bipushN K 50 rfl dX1_mendWay_17 ?_
  refine v_iadd K dX1_mendWay_19 ?_
  refine v_min K jX1_59 jst_min jin_math jco_min ⟨by decide, by decide, Nat.zero_le _, Nat.zero_le _⟩ (Nat.le_of_ble_eq_true rfl) dX1_mendWay_20 ?_
  refine v_top (min_held (hd.st hw) (by decide)) ?_
  refine v_iast K (Hb.w (by omega)) (Hb.l3 (by omega)) (by omega) dX1_mendWay_23 ?_
  refine v_aload_n K dX1_mendWay_24 rfl ?_
  refine v_getr (q := b + 2) K fX1_24 Hb.o Hb.l0 Hb.g3 dX1_mendWay_25 ?_
  refine v_iload_n K dX1_mendWay_28 rfl ?_
  refine v_aald (q := b + 3 + w) K Hb.W (Or.inl rfl) (Hb.l (by omega)) (by omega) (Hb.gw (by omega)) dX1_mendWay_29 ?_
  refine v_iconstN K 4 rfl dX1_mendWay_30 ?_
  refine v_iconstN K 0 rfl dX1_mendWay_31 ?_
  refine v_iast K (Hb.w (by omega)) (Hb.l3 (by omega)) (by omega) dX1_mendWay_32 ?_
  refine v_vret K dX1_mendWay_33 ?_
  exact ⟨rfl, ((hR.setw (by omega) (by decide)).setw (by omega) (by decide)), (((FrO.r (lo := b) (hi := b + 18) (h := h)).u (by omega) (by omega)).u (by omega) (by omega))⟩

abbrev P_X1_idleThings (h : Mm) (b : Nat) (d : Dm) : Option Value → Mm → Prop := fun r h2 => r = some (.int (nI (idleD d))) ∧ h = h2
theorem c_X1_idleThings {l : Launch} (h : Mm) (b : Nat) (d : Dm) (Hb : hB b) (hR : RH b h d) (hd : DOK d)  : Con l yX1_idleThings cX1_idleThings 3 (some .int) 0 0 132 GL h [.ref b] (P_X1_idleThings h b d) := by
  refine Con.ofV (own := "FoxRounds$House") (nm := "idleThings") rfl rfl (by decide) (Nat.le_of_ble_eq_true rfl) ?_
  intro κ ρ hkl K
  subst hkl
  show V κ (QM κ (132, ρ, GL, 0, 0) (P_X1_idleThings h b d)) 3 (132, ρ, GL, 0, 0) h 0 [(0, .ref b)] []
  have hnt := hd.nt5
  refine v_iconstN K 0 rfl dX1_idleThings_0 ?_
  refine v_istore_n (lv2 := [(1, .int (nI 0)), (0, .ref b)]) K dX1_idleThings_1 (by decide) rfl ?_
  refine v_iconstN K 0 rfl dX1_idleThings_2 ?_
  refine v_istore_n (lv2 := [(2, .int (nI 0)), (1, .int (nI 0)), (0, .ref b)]) K dX1_idleThings_3 (by decide) rfl ?_
  have L4 : ∀ (mm : Nat) (c : Nat) (k : Nat) (hk : k ≤ ntD d) (hc : c = idleN d k), ntD d + 1 - k < mm → V κ (QM κ (132, ρ, GL, 0, 0) (P_X1_idleThings h b d)) 3 (132, ρ, GL, 0, 0) h 4 [(0, .ref b), (1, .int (nI c)), (2, .int (nI k))] [] := by
    intro mm
    induction mm with
    | zero => intro c k hk hc hmm; exact absurd hmm (Nat.not_lt_zero _)
    | succ mm ih4 =>
      intro c k hk hc hmm
      refine v_iload_n K dX1_idleThings_4 rfl ?_
      refine v_aload_n K dX1_idleThings_5 rfl ?_
      refine v_geti (x := nI (ntD d)) K fX1_33 Hb.o Hb.l0 (hR.oB.trans hd.nt) dX1_idleThings_6 ?_
      refine v_icmpN_ge (tgt := 31) K (by omega) (by omega) dX1_idleThings_9 rfl (fun c1 => ?_) (fun c1 => ?_)
      · skip
        refine v_iload_n K dX1_idleThings_31 rfl ?_
        refine v_iret K dX1_idleThings_32 ?_
        have e : k = ntD d := by omega
        exact ⟨by rw [hc, e]; rfl, rfl⟩
      · skip
        refine v_iload_n K dX1_idleThings_12 rfl ?_
        refine v_iconstN K 1 rfl dX1_idleThings_13 ?_
        refine v_aload_n K dX1_idleThings_14 rfl ?_
        refine v_getr (q := b + 11) K fX1_30 Hb.o Hb.l0 Hb.g5 dX1_idleThings_15 ?_
        refine v_iload_n K dX1_idleThings_18 rfl ?_
        refine v_aald (q := b + 12 + k) K Hb.T (Or.inl rfl) (Hb.l (by omega)) (by omega) (Hb.gt (by omega)) dX1_idleThings_19 ?_
        refine v_iconstN K 2 rfl dX1_idleThings_20 ?_
        refine v_iald (x := d (94 + 3 * k + 2)) K (Hb.t (by omega)) (Hb.l12 (by omega)) (by omega) (hR.t (by omega) (by decide)) dX1_idleThings_21 ?_
        refine v_isub K dX1_idleThings_22 ?_
        refine v_iadd K dX1_idleThings_23 ?_
        subst hc
        refine v_top (idleN_s hd (by omega)) ?_
        refine v_istore_n (lv2 := [(1, .int (nI (idleN d (k + 1)))), (0, .ref b), (2, .int (nI k))]) K dX1_idleThings_24 (by decide) rfl ?_
        refine v_iincN (lv2 := [(2, .int (nI (k + 1))), (1, .int (nI (idleN d (k + 1)))), (0, .ref b)]) K 1 dX1_idleThings_25 rfl rfl (by decide) rfl ?_
        refine v_goto (tgt := 4) K dX1_idleThings_28 rfl ?_
        refine v_sub (lv2 := [(0, .ref b), (1, .int (nI (idleN d (k + 1)))), (2, .int (nI (k + 1)))]) (by simp) ?_
        exact ih4 (idleN d (k + 1)) (k + 1) (by first | assumption | omega | rfl) (by rfl) (by omega)
  refine v_sub (lv2 := [(0, .ref b), (1, .int (nI 0)), (2, .int (nI 0))]) (by simp) ?_
  exact L4 (ntD d + 1 - 0 + 1) 0 0 (by first | assumption | omega | rfl) (by rfl) (Nat.lt_succ_self _)

abbrev P_X1_addWay (h : Mm) (b : Nat) (d : Dm) (k sm c : Int32) : Option Value → Mm → Prop := fun r h2 => r = some (.int (nI (nwD d))) ∧ RH b h2 (addWD d k sm c) ∧ FrO b (b + 18) h h2
theorem c_X1_addWay {l : Launch} (h : Mm) (b : Nat) (d : Dm) (k sm c : Int32) (Hb : hB b) (hR : RH b h d) (hd : DOK d) (hw : nwD d < 8) : Con l yX1_addWay cX1_addWay 5 (some .int) 0 0 132 GL h [.ref b, .int k, .int sm, .int c] (P_X1_addWay h b d k sm c) := by
  refine Con.ofV (own := "FoxRounds$House") (nm := "addWay") rfl rfl (by decide) (Nat.le_of_ble_eq_true rfl) ?_
  intro κ ρ hkl K
  subst hkl
  show V κ (QM κ (132, ρ, GL, 0, 0) (P_X1_addWay h b d k sm c)) 5 (132, ρ, GL, 0, 0) h 0 [(0, .ref b), (1, .int k), (2, .int sm), (3, .int c)] []
  refine v_aload_n K dX1_addWay_0 rfl ?_
  refine v_getr (q := b + 2) K fX1_24 Hb.o Hb.l0 Hb.g3 dX1_addWay_1 ?_
  refine v_aload_n K dX1_addWay_4 rfl ?_
  refine v_geti (x := nI (nwD d)) K fX1_27 Hb.o Hb.l0 (hR.oA.trans hd.nw) dX1_addWay_5 ?_
  refine v_aald (q := b + 3 + nwD d) K Hb.W (Or.inl rfl) (Hb.l (by omega)) (by omega) (Hb.gw (by omega)) dX1_addWay_8 ?_
  refine v_astore (lv2 := [(4, .ref (b + 3 + nwD d)), (0, .ref b), (1, .int k), (2, .int sm), (3, .int c)]) K dX1_addWay_9 (by decide) rfl ?_
  refine v_aload K dX1_addWay_11 rfl ?_
  refine v_iconstN K 0 rfl dX1_addWay_13 ?_
  refine v_iload_n K dX1_addWay_14 rfl ?_
  refine v_iast K (Hb.w (by omega)) (Hb.l3 (by omega)) (by omega) dX1_addWay_15 ?_
  refine v_aload K dX1_addWay_16 rfl ?_
  refine v_iconstN K 1 rfl dX1_addWay_18 ?_
  refine v_iload_n K dX1_addWay_19 rfl ?_
  refine v_bipushN K 100 rfl dX1_addWay_20 ?_
  refine v_idiv K dX1_addWay_22 (by decide) ?_
  refine v_iast K (Hb.w (by omega)) (Hb.l3 (by omega)) (by omega) dX1_addWay_23 ?_
  refine v_aload K dX1_addWay_24 rfl ?_
  refine v_iconstN K 2 rfl dX1_addWay_26 ?_
  refine v_iload_n K dX1_addWay_27 rfl ?_
  refine v_bipushN K 100 rfl dX1_addWay_28 ?_
  refine v_irem K dX1_addWay_30 (by decide) ?_
  refine v_iast K (Hb.w (by omega)) (Hb.l3 (by omega)) (by omega) dX1_addWay_31 ?_
  refine v_aload K dX1_addWay_32 rfl ?_
  refine v_iconstN K 3 rfl dX1_addWay_34 ?_
  refine v_iload_n K dX1_addWay_35 rfl ?_
  refine v_iast K (Hb.w (by omega)) (Hb.l3 (by omega)) (by omega) dX1_addWay_36 ?_
  refine v_aload K dX1_addWay_37 rfl ?_
  refine v_iconstN K 4 rfl dX1_addWay_39 ?_
  refine v_iconstN K 0 rfl dX1_addWay_40 ?_
  refine v_iast K (Hb.w (by omega)) (Hb.l3 (by omega)) (by omega) dX1_addWay_41 ?_
  refine v_aload K dX1_addWay_42 rfl ?_
  refine v_iconstN K 5 rfl dX1_addWay_44 ?_
  refine v_iconstN K 0 rfl dX1_addWay_45 ?_
  refine v_iast K (Hb.w (by omega)) (Hb.l3 (by omega)) (by omega) dX1_addWay_46 ?_
  refine v_aload_n K dX1_addWay_47 rfl ?_
  refine v_dup K dX1_addWay_48 rfl ?_
  refine v_geti (x := nI (nwD d)) K fX1_27 Hb.o Hb.l0 (((((((((((((hR.setw (by omega) (by decide)).setw (by omega) (by decide)).setw (by omega) (by decide)).setw (by omega) (by decide)).setw (by omega) (by decide)).setw (by omega) (by decide)).oA.trans (upd_ne (by omega))).trans (upd_ne (by omega))).trans (upd_ne (by omega))).trans (upd_ne (by omega))).trans (upd_ne (by omega))).trans (upd_ne (by omega))).trans hd.nw) dX1_addWay_49 ?_
  refine v_iconstN K 1 rfl dX1_addWay_52 ?_
  refine v_iaddN K dX1_addWay_53 ?_
  refine v_puti K pX1_27 Hb.o Hb.l0 dX1_addWay_54 ?_
  refine v_aload_n K dX1_addWay_57 rfl ?_
  refine v_geti (x := nI (nwD d + 1)) K fX1_27 Hb.o Hb.l0 ((((((((hR.setw (by omega) (by decide)).setw (by omega) (by decide)).setw (by omega) (by decide)).setw (by omega) (by decide)).setw (by omega) (by decide)).setw (by omega) (by decide)).seto (by decide)).oA.trans upd_at) dX1_addWay_58 ?_
  refine v_iconstN K 1 rfl dX1_addWay_61 ?_
  refine v_isubN K (by omega) dX1_addWay_62 ?_
  refine v_iret K dX1_addWay_63 ?_
  exact ⟨rfl, (((((((hR.setw (by omega) (by decide)).setw (by omega) (by decide)).setw (by omega) (by decide)).setw (by omega) (by decide)).setw (by omega) (by decide)).setw (by omega) (by decide)).seto (by decide)), ((((((((FrO.r (lo := b) (hi := b + 18) (h := h)).u (by omega) (by omega)).u (by omega) (by omega)).u (by omega) (by omega)).u (by omega) (by omega)).u (by omega) (by omega)).u (by omega) (by omega)).u (by omega) (by omega))⟩

abbrev P_X1_addThing (h : Mm) (b : Nat) (d : Dm) (f s : Int32) : Option Value → Mm → Prop := fun r h2 => r = some (.int (nI (ntD d))) ∧ RH b h2 (addTD d f s) ∧ FrO b (b + 18) h h2
theorem c_X1_addThing {l : Launch} (h : Mm) (b : Nat) (d : Dm) (f s : Int32) (Hb : hB b) (hR : RH b h d) (hd : DOK d) (hw : ntD d < 5) : Con l yX1_addThing cX1_addThing 4 (some .int) 0 0 132 GL h [.ref b, .int f, .int s] (P_X1_addThing h b d f s) := by
  refine Con.ofV (own := "FoxRounds$House") (nm := "addThing") rfl rfl (by decide) (Nat.le_of_ble_eq_true rfl) ?_
  intro κ ρ hkl K
  subst hkl
  show V κ (QM κ (132, ρ, GL, 0, 0) (P_X1_addThing h b d f s)) 4 (132, ρ, GL, 0, 0) h 0 [(0, .ref b), (1, .int f), (2, .int s)] []
  refine v_aload_n K dX1_addThing_0 rfl ?_
  refine v_getr (q := b + 11) K fX1_30 Hb.o Hb.l0 Hb.g5 dX1_addThing_1 ?_
  refine v_aload_n K dX1_addThing_4 rfl ?_
  refine v_geti (x := nI (ntD d)) K fX1_33 Hb.o Hb.l0 (hR.oB.trans hd.nt) dX1_addThing_5 ?_
  refine v_aald (q := b + 12 + ntD d) K Hb.T (Or.inl rfl) (Hb.l (by omega)) (by omega) (Hb.gt (by omega)) dX1_addThing_8 ?_
  refine v_astore_n (lv2 := [(3, .ref (b + 12 + ntD d)), (0, .ref b), (1, .int f), (2, .int s)]) K dX1_addThing_9 (by decide) rfl ?_
  refine v_aload_n K dX1_addThing_10 rfl ?_
  refine v_iconstN K 0 rfl dX1_addThing_11 ?_
  refine v_iload_n K dX1_addThing_12 rfl ?_
  refine v_iast K (Hb.t (by omega)) (Hb.l12 (by omega)) (by omega) dX1_addThing_13 ?_
  refine v_aload_n K dX1_addThing_14 rfl ?_
  refine v_iconstN K 1 rfl dX1_addThing_15 ?_
  refine v_iload_n K dX1_addThing_16 rfl ?_
  refine v_iast K (Hb.t (by omega)) (Hb.l12 (by omega)) (by omega) dX1_addThing_17 ?_
  refine v_aload_n K dX1_addThing_18 rfl ?_
  refine v_iconstN K 2 rfl dX1_addThing_19 ?_
  refine v_iconstN K 0 rfl dX1_addThing_20 ?_
  refine v_iast K (Hb.t (by omega)) (Hb.l12 (by omega)) (by omega) dX1_addThing_21 ?_
  refine v_aload_n K dX1_addThing_22 rfl ?_
  refine v_dup K dX1_addThing_23 rfl ?_
  refine v_geti (x := nI (ntD d)) K fX1_33 Hb.o Hb.l0 (((((((hR.sett (by omega) (by decide)).sett (by omega) (by decide)).sett (by omega) (by decide)).oB.trans (upd_ne (by omega))).trans (upd_ne (by omega))).trans (upd_ne (by omega))).trans hd.nt) dX1_addThing_24 ?_
  refine v_iconstN K 1 rfl dX1_addThing_27 ?_
  refine v_iaddN K dX1_addThing_28 ?_
  refine v_puti K pX1_33 Hb.o Hb.l0 dX1_addThing_29 ?_
  refine v_aload_n K dX1_addThing_32 rfl ?_
  refine v_geti (x := nI (ntD d + 1)) K fX1_33 Hb.o Hb.l0 (((((hR.sett (by omega) (by decide)).sett (by omega) (by decide)).sett (by omega) (by decide)).seto (by decide)).oB.trans upd_at) dX1_addThing_33 ?_
  refine v_iconstN K 1 rfl dX1_addThing_36 ?_
  refine v_isubN K (by omega) dX1_addThing_37 ?_
  refine v_iret K dX1_addThing_38 ?_
  exact ⟨rfl, ((((hR.sett (by omega) (by decide)).sett (by omega) (by decide)).sett (by omega) (by decide)).seto (by decide)), (((((FrO.r (lo := b) (hi := b + 18) (h := h)).u (by omega) (by omega)).u (by omega) (by omega)).u (by omega) (by omega)).u (by omega) (by omega))⟩
