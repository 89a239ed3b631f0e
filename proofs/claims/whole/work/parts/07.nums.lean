/-! numbers that count: nI on Nat; yes and no; rows for them -/
noncomputable def b2i (p : Prop) : Int32 := @ite _ p (Classical.propDecidable p) 1 0
theorem b2i_t {p : Prop} (h : p) : b2i p = 1 := by unfold b2i; rw [if_pos h]
theorem b2i_f {p : Prop} (h : ¬ p) : b2i p = 0 := by unfold b2i; rw [if_neg h]
theorem b2i_01 (p : Prop) : b2i p = 0 ∨ b2i p = 1 := by
  by_cases h : p
  · exact Or.inr (b2i_t h)
  · exact Or.inl (b2i_f h)
theorem b2i_e {p q : Prop} (h : p ↔ q) : b2i p = b2i q := by rw [propext h]
theorem b2i_ite {p : Prop} [Decidable p] : (if p then (1 : Int32) else 0) = b2i p := by
  by_cases h : p
  · rw [if_pos h, b2i_t h]
  · rw [if_neg h, b2i_f h]
theorem b2i_eq0 {p : Prop} : b2i p = 0 ↔ ¬ p := by
  by_cases h : p
  · rw [b2i_t h]; exact ⟨fun q => absurd q (by decide), fun q => absurd h q⟩
  · rw [b2i_f h]; exact ⟨fun _ => h, fun _ => rfl⟩
theorem b2i_ne0 {p : Prop} : ¬ b2i p = 0 ↔ p := by rw [b2i_eq0]; exact Classical.not_not
/-- a place among n -/
def ix (w : Int32) (n : Nat) : Prop := ∃ j, j < n ∧ w = nI j
theorem ix_iff {w : Int32} {n : Nat} (hn : n < 2 ^ 31) : ix w n ↔ 0 ≤ w.toInt ∧ w.toInt < n := by
  constructor
  · rintro ⟨j, hj, rfl⟩
    rw [nI_toInt (by omega)]
    omega
  · rintro ⟨h1, h2⟩
    have h0 : ¬ w < 0 := by rw [Int32.lt_iff_toInt_lt, Int32.toInt_zero]; omega
    obtain ⟨j, hj, rfl⟩ := nI_of h0
    rw [nI_toInt hj] at h2
    exact ⟨j, by omega, rfl⟩
theorem ix_nI {j n : Nat} (h : j < n) : ix (nI j) n := ⟨j, h, rfl⟩
theorem ix_not {j n : Nat} (hj : j < 2 ^ 31) (hn : n < 2 ^ 31) (h : n ≤ j) : ¬ ix (nI j) n := by
  rw [ix_iff hn, nI_toInt hj]
  omega
section VN
variable {κ : KT} {own nm : String} {cc : ByteArray} {nL : Nat} {R : Room} {ret : Option FieldType} {Q : State → Prop} {ω : Wo} {h : Mm} {pc : Nat} {lv : List (Nat × Value)} {st : List Value}
theorem v_some {v : Value} (k : V κ Q nL ω h pc lv (v :: st)) : V κ Q nL ω h pc lv ((some v).toList ++ st) := k
theorem v_none (k : V κ Q nL ω h pc lv st) : V κ Q nL ω h pc lv ((none : Option Value).toList ++ st) := k
theorem ofI_N (k : Nat) : Int32.ofInt (k : Int) = nI k := Int32.ofInt_eq_ofNat
theorem v_iconstN (K : KOK κ own nm cc nL R ret) {z : Int} (k : Nat) (hz : z = (k : Int)) (d : decode cc pc = .ok (.iconst z, 1)) (kk : V κ Q nL ω h (pc + 1) lv (.int (nI k) :: st)) : V κ Q nL ω h pc lv st := v_iconst K d (by rw [hz]; exact ofI_N k) kk
theorem v_bipushN (K : KOK κ own nm cc nL R ret) {z : Int} (k : Nat) (hz : (Int8.ofInt z).toInt32 = nI k) (d : decode cc pc = .ok (.bipush z, 2)) (kk : V κ Q nL ω h (pc + 2) lv (.int (nI k) :: st)) : V κ Q nL ω h pc lv st := v_bipush K d hz kk
theorem v_sipushN (K : KOK κ own nm cc nL R ret) {z : Int} (k : Nat) (hz : (Int16.ofInt z).toInt32 = nI k) (d : decode cc pc = .ok (.sipush z, 3)) (kk : V κ Q nL ω h (pc + 3) lv (.int (nI k) :: st)) : V κ Q nL ω h pc lv st := v_sipush K d hz kk
theorem v_iaddN (K : KOK κ own nm cc nL R ret) {x y : Nat} (d : decode cc pc = .ok (.iadd, 1)) (kk : V κ Q nL ω h (pc + 1) lv (.int (nI (x + y)) :: st)) : V κ Q nL ω h pc lv (.int (nI y) :: .int (nI x) :: st) := v_iadd K d (by rw [nI_add]; exact kk)
theorem v_imulN (K : KOK κ own nm cc nL R ret) {x y : Nat} (d : decode cc pc = .ok (.imul, 1)) (kk : V κ Q nL ω h (pc + 1) lv (.int (nI (x * y)) :: st)) : V κ Q nL ω h pc lv (.int (nI y) :: .int (nI x) :: st) := v_imul K d (by rw [pk_mul]; exact kk)
theorem v_isubN (K : KOK κ own nm cc nL R ret) {x y : Nat} (hxy : y ≤ x) (d : decode cc pc = .ok (.isub, 1)) (kk : V κ Q nL ω h (pc + 1) lv (.int (nI (x - y)) :: st)) : V κ Q nL ω h pc lv (.int (nI y) :: .int (nI x) :: st) := v_isub K d (by rw [pk_sub hxy]; exact kk)
theorem v_idivN (K : KOK κ own nm cc nL R ret) {x y : Nat} (hx : x < 2 ^ 31) (h0 : 0 < y) (hy : y < 2 ^ 31) (d : decode cc pc = .ok (.idiv, 1)) (kk : V κ Q nL ω h (pc + 1) lv (.int (nI (x / y)) :: st)) : V κ Q nL ω h pc lv (.int (nI y) :: .int (nI x) :: st) := v_idiv K d (nI_ne0 h0 hy) (by rw [pk_div hx h0 hy]; exact kk)
theorem v_iremN (K : KOK κ own nm cc nL R ret) {x y : Nat} (hx : x < 2 ^ 31) (h0 : 0 < y) (hy : y < 2 ^ 31) (d : decode cc pc = .ok (.irem, 1)) (kk : V κ Q nL ω h (pc + 1) lv (.int (nI (x % y)) :: st)) : V κ Q nL ω h pc lv (.int (nI y) :: .int (nI x) :: st) := v_irem K d (nI_ne0 h0 hy) (by rw [pk_rem hx h0 hy]; exact kk)
theorem v_iincN (K : KOK κ own nm cc nL R ret) {i x : Nat} {z : Int} {lv2 : List (Nat × Value)} (k : Nat) (d : decode cc pc = .ok (.iinc i z, 3)) (hz : z = (k : Int)) (hk : lkp lv i = some (.int (nI x))) (hn : i < nL) (hq : lst lv i (.int (nI (x + k))) = lv2) (kk : V κ Q nL ω h (pc + 3) lv2 st) : V κ Q nL ω h pc lv st :=
  v_iinc K d hk (v := nI (x + k)) (by rw [hz, ofI_N, nI_add]) hn hq kk
theorem v_icmpN_eq (K : KOK κ own nm cc nL R ret) {x y : Nat} {z : Int} {tgt : Nat} (hx : x < 2 ^ 31) (hy : y < 2 ^ 31) (d : decode cc pc = .ok (.if_icmp .eq z, 3)) (ht : (pc : Int) + z = (tgt : Int)) (kt : x = y → V κ Q nL ω h tgt lv st) (kf : ¬ x = y → V κ Q nL ω h (pc + 3) lv st) : V κ Q nL ω h pc lv (.int (nI y) :: .int (nI x) :: st) :=
  v_icmp_eq K d ht (fun c => kt ((nI_eq hx hy).mp c)) (fun c => kf (fun q => c (by rw [q])))
theorem v_icmpN_ne (K : KOK κ own nm cc nL R ret) {x y : Nat} {z : Int} {tgt : Nat} (hx : x < 2 ^ 31) (hy : y < 2 ^ 31) (d : decode cc pc = .ok (.if_icmp .ne z, 3)) (ht : (pc : Int) + z = (tgt : Int)) (kt : ¬ x = y → V κ Q nL ω h tgt lv st) (kf : x = y → V κ Q nL ω h (pc + 3) lv st) : V κ Q nL ω h pc lv (.int (nI y) :: .int (nI x) :: st) :=
  v_icmp_ne K d ht (fun c => kt (fun q => c (by rw [q]))) (fun c => kf ((nI_eq hx hy).mp c))
theorem nlt_le {a b : Nat} (ha : a < 2 ^ 31) (hb : b < 2 ^ 31) (h : ¬ nI a < nI b) : b ≤ a := Nat.not_lt.mp (fun q => h ((nI_ltI ha hb).mpr q))
theorem nle_lt {a b : Nat} (ha : a < 2 ^ 31) (hb : b < 2 ^ 31) (h : ¬ nI a ≤ nI b) : b < a := Nat.not_le.mp (fun q => h ((nI_leI ha hb).mpr q))
theorem v_icmpN_lt (K : KOK κ own nm cc nL R ret) {x y : Nat} {z : Int} {tgt : Nat} (hx : x < 2 ^ 31) (hy : y < 2 ^ 31) (d : decode cc pc = .ok (.if_icmp .lt z, 3)) (ht : (pc : Int) + z = (tgt : Int)) (kt : x < y → V κ Q nL ω h tgt lv st) (kf : y ≤ x → V κ Q nL ω h (pc + 3) lv st) : V κ Q nL ω h pc lv (.int (nI y) :: .int (nI x) :: st) :=
  v_icmp_lt K d ht (fun c => kt ((nI_ltI hx hy).mp c)) (fun c => kf (by first | exact nlt_le hx hy c | exact (nI_leI hy hx).mp c))
theorem v_icmpN_ge (K : KOK κ own nm cc nL R ret) {x y : Nat} {z : Int} {tgt : Nat} (hx : x < 2 ^ 31) (hy : y < 2 ^ 31) (d : decode cc pc = .ok (.if_icmp .ge z, 3)) (ht : (pc : Int) + z = (tgt : Int)) (kt : y ≤ x → V κ Q nL ω h tgt lv st) (kf : x < y → V κ Q nL ω h (pc + 3) lv st) : V κ Q nL ω h pc lv (.int (nI y) :: .int (nI x) :: st) :=
  v_icmp_ge K d ht (fun c => kt (by first | exact (nI_leI hy hx).mp c | exact nlt_le hx hy c)) (fun c => kf (by first | exact nle_lt hy hx c | exact (nI_ltI hx hy).mp c))
theorem v_icmpN_gt (K : KOK κ own nm cc nL R ret) {x y : Nat} {z : Int} {tgt : Nat} (hx : x < 2 ^ 31) (hy : y < 2 ^ 31) (d : decode cc pc = .ok (.if_icmp .gt z, 3)) (ht : (pc : Int) + z = (tgt : Int)) (kt : y < x → V κ Q nL ω h tgt lv st) (kf : x ≤ y → V κ Q nL ω h (pc + 3) lv st) : V κ Q nL ω h pc lv (.int (nI y) :: .int (nI x) :: st) :=
  v_icmp_gt K d ht (fun c => kt (by first | exact (nI_ltI hy hx).mp c | exact nle_lt hx hy c)) (fun c => kf (by first | exact nlt_le hy hx c | exact (nI_leI hx hy).mp c))
theorem v_icmpN_le (K : KOK κ own nm cc nL R ret) {x y : Nat} {z : Int} {tgt : Nat} (hx : x < 2 ^ 31) (hy : y < 2 ^ 31) (d : decode cc pc = .ok (.if_icmp .le z, 3)) (ht : (pc : Int) + z = (tgt : Int)) (kt : x ≤ y → V κ Q nL ω h tgt lv st) (kf : y < x → V κ Q nL ω h (pc + 3) lv st) : V κ Q nL ω h pc lv (.int (nI y) :: .int (nI x) :: st) :=
  v_icmp_le K d ht (fun c => kt (by first | exact (nI_leI hx hy).mp c | exact nlt_le hy hx c)) (fun c => kf (by first | exact nle_lt hx hy c | exact (nI_ltI hy hx).mp c))
theorem v_ifN_eq (K : KOK κ own nm cc nL R ret) {x : Nat} {z : Int} {tgt : Nat} (hx : x < 2 ^ 31) (d : decode cc pc = .ok (.ifCond .eq z, 3)) (ht : (pc : Int) + z = (tgt : Int)) (kt : x = 0 → V κ Q nL ω h tgt lv st) (kf : 0 < x → V κ Q nL ω h (pc + 3) lv st) : V κ Q nL ω h pc lv (.int (nI x) :: st) :=
  v_if_eq K d ht (fun c => kt ((nI_eq hx (by decide)).mp (c.trans nI_0.symm))) (fun c => kf (Nat.pos_of_ne_zero (fun q => c (by rw [q]; exact nI_0))))
theorem v_ifN_ne (K : KOK κ own nm cc nL R ret) {x : Nat} {z : Int} {tgt : Nat} (hx : x < 2 ^ 31) (d : decode cc pc = .ok (.ifCond .ne z, 3)) (ht : (pc : Int) + z = (tgt : Int)) (kt : 0 < x → V κ Q nL ω h tgt lv st) (kf : x = 0 → V κ Q nL ω h (pc + 3) lv st) : V κ Q nL ω h pc lv (.int (nI x) :: st) :=
  v_if_ne K d ht (fun c => kt (Nat.pos_of_ne_zero (fun q => c (by rw [q]; exact nI_0)))) (fun c => kf ((nI_eq hx (by decide)).mp (c.trans nI_0.symm)))
theorem v_ifB_eq (K : KOK κ own nm cc nL R ret) {p : Prop} {z : Int} {tgt : Nat} (d : decode cc pc = .ok (.ifCond .eq z, 3)) (ht : (pc : Int) + z = (tgt : Int)) (kt : ¬ p → V κ Q nL ω h tgt lv st) (kf : p → V κ Q nL ω h (pc + 3) lv st) : V κ Q nL ω h pc lv (.int (b2i p) :: st) :=
  v_if_eq K d ht (fun c => kt (b2i_eq0.mp c)) (fun c => kf (b2i_ne0.mp c))
theorem v_ifB_ne (K : KOK κ own nm cc nL R ret) {p : Prop} {z : Int} {tgt : Nat} (d : decode cc pc = .ok (.ifCond .ne z, 3)) (ht : (pc : Int) + z = (tgt : Int)) (kt : p → V κ Q nL ω h tgt lv st) (kf : ¬ p → V κ Q nL ω h (pc + 3) lv st) : V κ Q nL ω h pc lv (.int (b2i p) :: st) :=
  v_if_ne K d ht (fun c => kt (b2i_ne0.mp c)) (fun c => kf (b2i_eq0.mp c))
theorem v_tinN (K : KOK κ own nm cc nL R ret) {dflt lo hi : Int} {offs : Array Int} {len : Nat} {x : Nat} {off : Int} {tgt : Nat} (hx : x < 2 ^ 31) (i : Int) (d : decode cc pc = .ok (.tableswitch dflt lo hi offs, len)) (hi2 : (x : Int) = i) (h1 : ¬ i < lo) (h2 : ¬ hi < i) (ho : offs[(i - lo).toNat]? = some off) (ht : (pc : Int) + off = (tgt : Int)) (kk : V κ Q nL ω h tgt lv st) : V κ Q nL ω h pc lv (.int (nI x) :: st) :=
  v_tin K i d ((nI_toInt hx).trans hi2) h1 h2 ho ht kk
theorem v_toutN (K : KOK κ own nm cc nL R ret) {dflt lo hi : Int} {offs : Array Int} {len : Nat} {x : Nat} {tgt : Nat} (hx : x < 2 ^ 31) (d : decode cc pc = .ok (.tableswitch dflt lo hi offs, len)) (hi2 : (x : Int) < lo ∨ hi < (x : Int)) (ht : (pc : Int) + dflt = (tgt : Int)) (kk : V κ Q nL ω h tgt lv st) : V κ Q nL ω h pc lv (.int (nI x) :: st) :=
  v_tout K d (by rw [nI_toInt hx]; exact hi2) ht kk
theorem v_lookN (K : KOK κ own nm cc nL R ret) {dflt : Int} {ps : Array (Int × Int)} {len : Nat} {x : Nat} {off : Int} {tgt : Nat} (hx : x < 2 ^ 31) (i : Int) (d : decode cc pc = .ok (.lookupswitch dflt ps, len)) (hp : (ps.toList.zip (ps.toList.drop 1)).all (fun (a, next) => a.1 < next.1) = true) (hi2 : (x : Int) = i) (ho : Op.lookupswitch.offset ps.toList dflt i = off) (ht : (pc : Int) + off = (tgt : Int)) (kk : V κ Q nL ω h tgt lv st) : V κ Q nL ω h pc lv (.int (nI x) :: st) :=
  v_look K d hp (by rw [nI_toInt hx, hi2]; exact ho) ht kk
end VN
def GLL : List (List Nat) := [[2, 40, 0, 78, 100, 107, 109, 110], [3, 21, 32, 37, 0, 38, 0, 39], [4, 0, 0, 5, 0, 14, 0, 0, 20], [], [6, 7, 8, 9, 10, 11, 12, 13], [], [], [], [], [], [], [], [], [15, 16, 17, 18, 19], [], [], [], [], [], [], [22, 25, 28, 31], [23, 0, 24], [], [], [26, 0, 27], [], [], [29, 0, 30], [], [], [], [33, 34, 35, 0, 36], [], [], [], [], [], [], [], [41, 59, 70, 75, 0, 76, 0, 77], [42, 0, 0, 43, 0, 52, 0, 0, 58], [], [44, 45, 46, 47, 48, 49, 50, 51], [], [], [], [], [], [], [], [], [53, 54, 55, 56, 57], [], [], [], [], [], [], [60, 63, 66, 69], [61, 0, 62], [], [], [64, 0, 65], [], [], [67, 0, 68], [], [], [], [71, 72, 73, 0, 74], [], [], [], [], [], [], [], [3, 21, 79, 0, 0, 97, 98, 99], [80, 0, 0, 81, 0, 90, 0, 0, 96], [], [82, 83, 84, 85, 86, 87, 88, 89], [], [], [], [], [], [], [], [], [91, 92, 93, 94, 95], [], [], [], [], [], [], [], [], [], [101, 0, 0, 0, 0, 106], [103, 0, 104], [], [], [], [], [], [108], [], [111, 113, 115, 117], [], [0, 0, 112], [], [0, 0, 114], [], [0, 0, 116], [], [0, 0, 118], [], [120, 121, 122, 0, 123, 0, 0, 0, 0, 0, 0, 124, 125, 126, 127, 128, 0, 0, 129, 130, 131, 132], [], [], [], [], [], [], [], [], [], [], [], [], []]
def GL : Gm := fun a k => (GLL.getD a []).getD k 0
theorem sh_0 : SH 0 = (1, 9, 8) := rfl
theorem pl_0 : 0 < 132 := Nat.le_of_ble_eq_true rfl
theorem sh_1 : SH 1 = (1, 8, 9) := rfl
theorem pl_1 : 1 < 132 := Nat.le_of_ble_eq_true rfl
theorem sh_2 : SH 2 = (1, 1, 9) := rfl
theorem pl_2 : 2 < 132 := Nat.le_of_ble_eq_true rfl
theorem sh_3 : SH 3 = (2, 0, 8) := rfl
theorem pl_3 : 3 < 132 := Nat.le_of_ble_eq_true rfl
theorem sh_4 : SH 4 = (3, 3, 8) := rfl
theorem pl_4 : 4 < 132 := Nat.le_of_ble_eq_true rfl
theorem sh_5 : SH 5 = (2, 0, 6) := rfl
theorem pl_5 : 5 < 132 := Nat.le_of_ble_eq_true rfl
theorem sh_6 : SH 6 = (2, 0, 6) := rfl
theorem pl_6 : 6 < 132 := Nat.le_of_ble_eq_true rfl
theorem sh_7 : SH 7 = (2, 0, 6) := rfl
theorem pl_7 : 7 < 132 := Nat.le_of_ble_eq_true rfl
theorem sh_8 : SH 8 = (2, 0, 6) := rfl
theorem pl_8 : 8 < 132 := Nat.le_of_ble_eq_true rfl
theorem sh_9 : SH 9 = (2, 0, 6) := rfl
theorem pl_9 : 9 < 132 := Nat.le_of_ble_eq_true rfl
theorem sh_10 : SH 10 = (2, 0, 6) := rfl
theorem pl_10 : 10 < 132 := Nat.le_of_ble_eq_true rfl
theorem sh_11 : SH 11 = (2, 0, 6) := rfl
theorem pl_11 : 11 < 132 := Nat.le_of_ble_eq_true rfl
theorem sh_12 : SH 12 = (2, 0, 6) := rfl
theorem pl_12 : 12 < 132 := Nat.le_of_ble_eq_true rfl
theorem sh_13 : SH 13 = (3, 3, 5) := rfl
theorem pl_13 : 13 < 132 := Nat.le_of_ble_eq_true rfl
theorem sh_14 : SH 14 = (2, 0, 3) := rfl
theorem pl_14 : 14 < 132 := Nat.le_of_ble_eq_true rfl
theorem sh_15 : SH 15 = (2, 0, 3) := rfl
theorem pl_15 : 15 < 132 := Nat.le_of_ble_eq_true rfl
theorem sh_16 : SH 16 = (2, 0, 3) := rfl
theorem pl_16 : 16 < 132 := Nat.le_of_ble_eq_true rfl
theorem sh_17 : SH 17 = (2, 0, 3) := rfl
theorem pl_17 : 17 < 132 := Nat.le_of_ble_eq_true rfl
theorem sh_18 : SH 18 = (2, 0, 3) := rfl
theorem pl_18 : 18 < 132 := Nat.le_of_ble_eq_true rfl
theorem sh_19 : SH 19 = (2, 0, 8) := rfl
theorem pl_19 : 19 < 132 := Nat.le_of_ble_eq_true rfl
theorem sh_20 : SH 20 = (1, 2, 4) := rfl
theorem pl_20 : 20 < 132 := Nat.le_of_ble_eq_true rfl
theorem sh_21 : SH 21 = (1, 5, 3) := rfl
theorem pl_21 : 21 < 132 := Nat.le_of_ble_eq_true rfl
theorem sh_22 : SH 22 = (2, 0, 50) := rfl
theorem pl_22 : 22 < 132 := Nat.le_of_ble_eq_true rfl
theorem sh_23 : SH 23 = (2, 0, 50) := rfl
theorem pl_23 : 23 < 132 := Nat.le_of_ble_eq_true rfl
theorem sh_24 : SH 24 = (1, 5, 3) := rfl
theorem pl_24 : 24 < 132 := Nat.le_of_ble_eq_true rfl
theorem sh_25 : SH 25 = (2, 0, 50) := rfl
theorem pl_25 : 25 < 132 := Nat.le_of_ble_eq_true rfl
theorem sh_26 : SH 26 = (2, 0, 50) := rfl
theorem pl_26 : 26 < 132 := Nat.le_of_ble_eq_true rfl
theorem sh_27 : SH 27 = (1, 5, 3) := rfl
theorem pl_27 : 27 < 132 := Nat.le_of_ble_eq_true rfl
theorem sh_28 : SH 28 = (2, 0, 50) := rfl
theorem pl_28 : 28 < 132 := Nat.le_of_ble_eq_true rfl
theorem sh_29 : SH 29 = (2, 0, 50) := rfl
theorem pl_29 : 29 < 132 := Nat.le_of_ble_eq_true rfl
theorem sh_30 : SH 30 = (2, 0, 5) := rfl
theorem pl_30 : 30 < 132 := Nat.le_of_ble_eq_true rfl
theorem sh_31 : SH 31 = (1, 6, 5) := rfl
theorem pl_31 : 31 < 132 := Nat.le_of_ble_eq_true rfl
theorem sh_32 : SH 32 = (2, 0, 6) := rfl
theorem pl_32 : 32 < 132 := Nat.le_of_ble_eq_true rfl
theorem sh_33 : SH 33 = (2, 0, 6) := rfl
theorem pl_33 : 33 < 132 := Nat.le_of_ble_eq_true rfl
theorem sh_34 : SH 34 = (2, 0, 6) := rfl
theorem pl_34 : 34 < 132 := Nat.le_of_ble_eq_true rfl
theorem sh_35 : SH 35 = (2, 0, 6) := rfl
theorem pl_35 : 35 < 132 := Nat.le_of_ble_eq_true rfl
theorem sh_36 : SH 36 = (2, 1, 50) := rfl
theorem pl_36 : 36 < 132 := Nat.le_of_ble_eq_true rfl
theorem sh_37 : SH 37 = (2, 0, 20) := rfl
theorem pl_37 : 37 < 132 := Nat.le_of_ble_eq_true rfl
theorem sh_38 : SH 38 = (2, 0, 12) := rfl
theorem pl_38 : 38 < 132 := Nat.le_of_ble_eq_true rfl
theorem sh_39 : SH 39 = (1, 8, 9) := rfl
theorem pl_39 : 39 < 132 := Nat.le_of_ble_eq_true rfl
theorem sh_40 : SH 40 = (1, 1, 9) := rfl
theorem pl_40 : 40 < 132 := Nat.le_of_ble_eq_true rfl
theorem sh_41 : SH 41 = (2, 0, 8) := rfl
theorem pl_41 : 41 < 132 := Nat.le_of_ble_eq_true rfl
theorem sh_42 : SH 42 = (3, 3, 8) := rfl
theorem pl_42 : 42 < 132 := Nat.le_of_ble_eq_true rfl
theorem sh_43 : SH 43 = (2, 0, 6) := rfl
theorem pl_43 : 43 < 132 := Nat.le_of_ble_eq_true rfl
theorem sh_44 : SH 44 = (2, 0, 6) := rfl
theorem pl_44 : 44 < 132 := Nat.le_of_ble_eq_true rfl
theorem sh_45 : SH 45 = (2, 0, 6) := rfl
theorem pl_45 : 45 < 132 := Nat.le_of_ble_eq_true rfl
theorem sh_46 : SH 46 = (2, 0, 6) := rfl
theorem pl_46 : 46 < 132 := Nat.le_of_ble_eq_true rfl
theorem sh_47 : SH 47 = (2, 0, 6) := rfl
theorem pl_47 : 47 < 132 := Nat.le_of_ble_eq_true rfl
theorem sh_48 : SH 48 = (2, 0, 6) := rfl
theorem pl_48 : 48 < 132 := Nat.le_of_ble_eq_true rfl
theorem sh_49 : SH 49 = (2, 0, 6) := rfl
theorem pl_49 : 49 < 132 := Nat.le_of_ble_eq_true rfl
theorem sh_50 : SH 50 = (2, 0, 6) := rfl
theorem pl_50 : 50 < 132 := Nat.le_of_ble_eq_true rfl
theorem sh_51 : SH 51 = (3, 3, 5) := rfl
theorem pl_51 : 51 < 132 := Nat.le_of_ble_eq_true rfl
theorem sh_52 : SH 52 = (2, 0, 3) := rfl
theorem pl_52 : 52 < 132 := Nat.le_of_ble_eq_true rfl
theorem sh_53 : SH 53 = (2, 0, 3) := rfl
theorem pl_53 : 53 < 132 := Nat.le_of_ble_eq_true rfl
theorem sh_54 : SH 54 = (2, 0, 3) := rfl
theorem pl_54 : 54 < 132 := Nat.le_of_ble_eq_true rfl
theorem sh_55 : SH 55 = (2, 0, 3) := rfl
theorem pl_55 : 55 < 132 := Nat.le_of_ble_eq_true rfl
theorem sh_56 : SH 56 = (2, 0, 3) := rfl
theorem pl_56 : 56 < 132 := Nat.le_of_ble_eq_true rfl
theorem sh_57 : SH 57 = (2, 0, 8) := rfl
theorem pl_57 : 57 < 132 := Nat.le_of_ble_eq_true rfl
theorem sh_58 : SH 58 = (1, 2, 4) := rfl
theorem pl_58 : 58 < 132 := Nat.le_of_ble_eq_true rfl
theorem sh_59 : SH 59 = (1, 5, 3) := rfl
theorem pl_59 : 59 < 132 := Nat.le_of_ble_eq_true rfl
theorem sh_60 : SH 60 = (2, 0, 50) := rfl
theorem pl_60 : 60 < 132 := Nat.le_of_ble_eq_true rfl
theorem sh_61 : SH 61 = (2, 0, 50) := rfl
theorem pl_61 : 61 < 132 := Nat.le_of_ble_eq_true rfl
theorem sh_62 : SH 62 = (1, 5, 3) := rfl
theorem pl_62 : 62 < 132 := Nat.le_of_ble_eq_true rfl
theorem sh_63 : SH 63 = (2, 0, 50) := rfl
theorem pl_63 : 63 < 132 := Nat.le_of_ble_eq_true rfl
theorem sh_64 : SH 64 = (2, 0, 50) := rfl
theorem pl_64 : 64 < 132 := Nat.le_of_ble_eq_true rfl
theorem sh_65 : SH 65 = (1, 5, 3) := rfl
theorem pl_65 : 65 < 132 := Nat.le_of_ble_eq_true rfl
theorem sh_66 : SH 66 = (2, 0, 50) := rfl
theorem pl_66 : 66 < 132 := Nat.le_of_ble_eq_true rfl
theorem sh_67 : SH 67 = (2, 0, 50) := rfl
theorem pl_67 : 67 < 132 := Nat.le_of_ble_eq_true rfl
theorem sh_68 : SH 68 = (2, 0, 5) := rfl
theorem pl_68 : 68 < 132 := Nat.le_of_ble_eq_true rfl
theorem sh_69 : SH 69 = (1, 6, 5) := rfl
theorem pl_69 : 69 < 132 := Nat.le_of_ble_eq_true rfl
theorem sh_70 : SH 70 = (2, 0, 6) := rfl
theorem pl_70 : 70 < 132 := Nat.le_of_ble_eq_true rfl
theorem sh_71 : SH 71 = (2, 0, 6) := rfl
theorem pl_71 : 71 < 132 := Nat.le_of_ble_eq_true rfl
theorem sh_72 : SH 72 = (2, 0, 6) := rfl
theorem pl_72 : 72 < 132 := Nat.le_of_ble_eq_true rfl
theorem sh_73 : SH 73 = (2, 0, 6) := rfl
theorem pl_73 : 73 < 132 := Nat.le_of_ble_eq_true rfl
theorem sh_74 : SH 74 = (2, 1, 50) := rfl
theorem pl_74 : 74 < 132 := Nat.le_of_ble_eq_true rfl
theorem sh_75 : SH 75 = (2, 0, 20) := rfl
theorem pl_75 : 75 < 132 := Nat.le_of_ble_eq_true rfl
theorem sh_76 : SH 76 = (2, 0, 12) := rfl
theorem pl_76 : 76 < 132 := Nat.le_of_ble_eq_true rfl
theorem sh_77 : SH 77 = (1, 0, 8) := rfl
theorem pl_77 : 77 < 132 := Nat.le_of_ble_eq_true rfl
theorem sh_78 : SH 78 = (1, 1, 9) := rfl
theorem pl_78 : 78 < 132 := Nat.le_of_ble_eq_true rfl
theorem sh_79 : SH 79 = (2, 0, 8) := rfl
theorem pl_79 : 79 < 132 := Nat.le_of_ble_eq_true rfl
theorem sh_80 : SH 80 = (3, 3, 8) := rfl
theorem pl_80 : 80 < 132 := Nat.le_of_ble_eq_true rfl
theorem sh_81 : SH 81 = (2, 0, 6) := rfl
theorem pl_81 : 81 < 132 := Nat.le_of_ble_eq_true rfl
theorem sh_82 : SH 82 = (2, 0, 6) := rfl
theorem pl_82 : 82 < 132 := Nat.le_of_ble_eq_true rfl
theorem sh_83 : SH 83 = (2, 0, 6) := rfl
theorem pl_83 : 83 < 132 := Nat.le_of_ble_eq_true rfl
theorem sh_84 : SH 84 = (2, 0, 6) := rfl
theorem pl_84 : 84 < 132 := Nat.le_of_ble_eq_true rfl
theorem sh_85 : SH 85 = (2, 0, 6) := rfl
theorem pl_85 : 85 < 132 := Nat.le_of_ble_eq_true rfl
theorem sh_86 : SH 86 = (2, 0, 6) := rfl
theorem pl_86 : 86 < 132 := Nat.le_of_ble_eq_true rfl
theorem sh_87 : SH 87 = (2, 0, 6) := rfl
theorem pl_87 : 87 < 132 := Nat.le_of_ble_eq_true rfl
theorem sh_88 : SH 88 = (2, 0, 6) := rfl
theorem pl_88 : 88 < 132 := Nat.le_of_ble_eq_true rfl
theorem sh_89 : SH 89 = (3, 3, 5) := rfl
theorem pl_89 : 89 < 132 := Nat.le_of_ble_eq_true rfl
theorem sh_90 : SH 90 = (2, 0, 3) := rfl
theorem pl_90 : 90 < 132 := Nat.le_of_ble_eq_true rfl
theorem sh_91 : SH 91 = (2, 0, 3) := rfl
theorem pl_91 : 91 < 132 := Nat.le_of_ble_eq_true rfl
theorem sh_92 : SH 92 = (2, 0, 3) := rfl
theorem pl_92 : 92 < 132 := Nat.le_of_ble_eq_true rfl
theorem sh_93 : SH 93 = (2, 0, 3) := rfl
theorem pl_93 : 93 < 132 := Nat.le_of_ble_eq_true rfl
theorem sh_94 : SH 94 = (2, 0, 3) := rfl
theorem pl_94 : 94 < 132 := Nat.le_of_ble_eq_true rfl
theorem sh_95 : SH 95 = (2, 0, 8) := rfl
theorem pl_95 : 95 < 132 := Nat.le_of_ble_eq_true rfl
theorem sh_96 : SH 96 = (2, 0, 4) := rfl
theorem pl_96 : 96 < 132 := Nat.le_of_ble_eq_true rfl
theorem sh_97 : SH 97 = (2, 0, 4) := rfl
theorem pl_97 : 97 < 132 := Nat.le_of_ble_eq_true rfl
theorem sh_98 : SH 98 = (2, 0, 4) := rfl
theorem pl_98 : 98 < 132 := Nat.le_of_ble_eq_true rfl
theorem sh_99 : SH 99 = (1, 3, 10) := rfl
theorem pl_99 : 99 < 132 := Nat.le_of_ble_eq_true rfl
theorem sh_100 : SH 100 = (1, 5, 3) := rfl
theorem pl_100 : 100 < 132 := Nat.le_of_ble_eq_true rfl
theorem sh_101 : SH 101 = (2, 0, 0) := rfl
theorem pl_101 : 101 < 132 := Nat.le_of_ble_eq_true rfl
theorem sh_102 : SH 102 = (2, 0, 50) := rfl
theorem pl_102 : 102 < 132 := Nat.le_of_ble_eq_true rfl
theorem sh_103 : SH 103 = (2, 0, 50) := rfl
theorem pl_103 : 103 < 132 := Nat.le_of_ble_eq_true rfl
theorem sh_104 : SH 104 = (2, 1, 0) := rfl
theorem pl_104 : 104 < 132 := Nat.le_of_ble_eq_true rfl
theorem sh_105 : SH 105 = (2, 0, 50) := rfl
theorem pl_105 : 105 < 132 := Nat.le_of_ble_eq_true rfl
theorem sh_106 : SH 106 = (1, 7, 5) := rfl
theorem pl_106 : 106 < 132 := Nat.le_of_ble_eq_true rfl
theorem sh_107 : SH 107 = (2, 0, 40) := rfl
theorem pl_107 : 107 < 132 := Nat.le_of_ble_eq_true rfl
theorem sh_108 : SH 108 = (3, 4, 4) := rfl
theorem pl_108 : 108 < 132 := Nat.le_of_ble_eq_true rfl
theorem sh_109 : SH 109 = (2, 0, 6) := rfl
theorem pl_109 : 109 < 132 := Nat.le_of_ble_eq_true rfl
theorem sh_110 : SH 110 = (1, 4, 3) := rfl
theorem pl_110 : 110 < 132 := Nat.le_of_ble_eq_true rfl
theorem sh_111 : SH 111 = (2, 0, 40) := rfl
theorem pl_111 : 111 < 132 := Nat.le_of_ble_eq_true rfl
theorem sh_112 : SH 112 = (1, 4, 3) := rfl
theorem pl_112 : 112 < 132 := Nat.le_of_ble_eq_true rfl
theorem sh_113 : SH 113 = (2, 0, 40) := rfl
theorem pl_113 : 113 < 132 := Nat.le_of_ble_eq_true rfl
theorem sh_114 : SH 114 = (1, 4, 3) := rfl
theorem pl_114 : 114 < 132 := Nat.le_of_ble_eq_true rfl
theorem sh_115 : SH 115 = (2, 0, 40) := rfl
theorem pl_115 : 115 < 132 := Nat.le_of_ble_eq_true rfl
theorem sh_116 : SH 116 = (1, 4, 3) := rfl
theorem pl_116 : 116 < 132 := Nat.le_of_ble_eq_true rfl
theorem sh_117 : SH 117 = (2, 0, 40) := rfl
theorem pl_117 : 117 < 132 := Nat.le_of_ble_eq_true rfl
theorem sh_118 : SH 118 = (1, 10, 22) := rfl
theorem pl_118 : 118 < 132 := Nat.le_of_ble_eq_true rfl
theorem sh_119 : SH 119 = (2, 0, 340) := rfl
theorem pl_119 : 119 < 132 := Nat.le_of_ble_eq_true rfl
theorem sh_120 : SH 120 = (2, 0, 340) := rfl
theorem pl_120 : 120 < 132 := Nat.le_of_ble_eq_true rfl
theorem sh_121 : SH 121 = (2, 0, 340) := rfl
theorem pl_121 : 121 < 132 := Nat.le_of_ble_eq_true rfl
theorem sh_122 : SH 122 = (2, 0, 6) := rfl
theorem pl_122 : 122 < 132 := Nat.le_of_ble_eq_true rfl
theorem sh_123 : SH 123 = (2, 0, 5) := rfl
theorem pl_123 : 123 < 132 := Nat.le_of_ble_eq_true rfl
theorem sh_124 : SH 124 = (2, 2, 8) := rfl
theorem pl_124 : 124 < 132 := Nat.le_of_ble_eq_true rfl
theorem sh_125 : SH 125 = (2, 0, 5) := rfl
theorem pl_125 : 125 < 132 := Nat.le_of_ble_eq_true rfl
theorem sh_126 : SH 126 = (2, 0, 4) := rfl
theorem pl_126 : 126 < 132 := Nat.le_of_ble_eq_true rfl
theorem sh_127 : SH 127 = (2, 0, 40) := rfl
theorem pl_127 : 127 < 132 := Nat.le_of_ble_eq_true rfl
theorem sh_128 : SH 128 = (2, 0, 4) := rfl
theorem pl_128 : 128 < 132 := Nat.le_of_ble_eq_true rfl
theorem sh_129 : SH 129 = (2, 0, 4) := rfl
theorem pl_129 : 129 < 132 := Nat.le_of_ble_eq_true rfl
theorem sh_130 : SH 130 = (2, 0, 160) := rfl
theorem pl_130 : 130 < 132 := Nat.le_of_ble_eq_true rfl
theorem sh_131 : SH 131 = (2, 0, 40) := rfl
theorem pl_131 : 131 < 132 := Nat.le_of_ble_eq_true rfl
theorem gl_0_0 : GL 0 0 = 1 + 1 := rfl
theorem gl_0_1 : GL 0 1 = 39 + 1 := rfl
theorem gl_0_3 : GL 0 3 = 77 + 1 := rfl
theorem gl_0_4 : GL 0 4 = 99 + 1 := rfl
theorem gl_0_5 : GL 0 5 = 106 + 1 := rfl
theorem gl_0_6 : GL 0 6 = 108 + 1 := rfl
theorem gl_0_7 : GL 0 7 = 109 + 1 := rfl
theorem gl_1_0 : GL 1 0 = 2 + 1 := rfl
theorem gl_1_1 : GL 1 1 = 20 + 1 := rfl
theorem gl_1_2 : GL 1 2 = 31 + 1 := rfl
theorem gl_1_3 : GL 1 3 = 36 + 1 := rfl
theorem gl_1_5 : GL 1 5 = 37 + 1 := rfl
theorem gl_1_7 : GL 1 7 = 38 + 1 := rfl
theorem gl_2_0 : GL 2 0 = 3 + 1 := rfl
theorem gl_2_3 : GL 2 3 = 4 + 1 := rfl
theorem gl_2_5 : GL 2 5 = 13 + 1 := rfl
theorem gl_2_8 : GL 2 8 = 19 + 1 := rfl
theorem gl_4_0 : GL 4 0 = 5 + 1 := rfl
theorem gl_4_1 : GL 4 1 = 6 + 1 := rfl
theorem gl_4_2 : GL 4 2 = 7 + 1 := rfl
theorem gl_4_3 : GL 4 3 = 8 + 1 := rfl
theorem gl_4_4 : GL 4 4 = 9 + 1 := rfl
theorem gl_4_5 : GL 4 5 = 10 + 1 := rfl
theorem gl_4_6 : GL 4 6 = 11 + 1 := rfl
theorem gl_4_7 : GL 4 7 = 12 + 1 := rfl
theorem gl_13_0 : GL 13 0 = 14 + 1 := rfl
theorem gl_13_1 : GL 13 1 = 15 + 1 := rfl
theorem gl_13_2 : GL 13 2 = 16 + 1 := rfl
theorem gl_13_3 : GL 13 3 = 17 + 1 := rfl
theorem gl_13_4 : GL 13 4 = 18 + 1 := rfl
theorem gl_20_0 : GL 20 0 = 21 + 1 := rfl
theorem gl_20_1 : GL 20 1 = 24 + 1 := rfl
theorem gl_20_2 : GL 20 2 = 27 + 1 := rfl
theorem gl_20_3 : GL 20 3 = 30 + 1 := rfl
theorem gl_21_0 : GL 21 0 = 22 + 1 := rfl
theorem gl_21_2 : GL 21 2 = 23 + 1 := rfl
theorem gl_24_0 : GL 24 0 = 25 + 1 := rfl
theorem gl_24_2 : GL 24 2 = 26 + 1 := rfl
theorem gl_27_0 : GL 27 0 = 28 + 1 := rfl
theorem gl_27_2 : GL 27 2 = 29 + 1 := rfl
theorem gl_31_0 : GL 31 0 = 32 + 1 := rfl
theorem gl_31_1 : GL 31 1 = 33 + 1 := rfl
theorem gl_31_2 : GL 31 2 = 34 + 1 := rfl
theorem gl_31_4 : GL 31 4 = 35 + 1 := rfl
theorem gl_39_0 : GL 39 0 = 40 + 1 := rfl
theorem gl_39_1 : GL 39 1 = 58 + 1 := rfl
theorem gl_39_2 : GL 39 2 = 69 + 1 := rfl
theorem gl_39_3 : GL 39 3 = 74 + 1 := rfl
theorem gl_39_5 : GL 39 5 = 75 + 1 := rfl
theorem gl_39_7 : GL 39 7 = 76 + 1 := rfl
theorem gl_40_0 : GL 40 0 = 41 + 1 := rfl
theorem gl_40_3 : GL 40 3 = 42 + 1 := rfl
theorem gl_40_5 : GL 40 5 = 51 + 1 := rfl
theorem gl_40_8 : GL 40 8 = 57 + 1 := rfl
theorem gl_42_0 : GL 42 0 = 43 + 1 := rfl
theorem gl_42_1 : GL 42 1 = 44 + 1 := rfl
theorem gl_42_2 : GL 42 2 = 45 + 1 := rfl
theorem gl_42_3 : GL 42 3 = 46 + 1 := rfl
theorem gl_42_4 : GL 42 4 = 47 + 1 := rfl
theorem gl_42_5 : GL 42 5 = 48 + 1 := rfl
theorem gl_42_6 : GL 42 6 = 49 + 1 := rfl
theorem gl_42_7 : GL 42 7 = 50 + 1 := rfl
theorem gl_51_0 : GL 51 0 = 52 + 1 := rfl
theorem gl_51_1 : GL 51 1 = 53 + 1 := rfl
theorem gl_51_2 : GL 51 2 = 54 + 1 := rfl
theorem gl_51_3 : GL 51 3 = 55 + 1 := rfl
theorem gl_51_4 : GL 51 4 = 56 + 1 := rfl
theorem gl_58_0 : GL 58 0 = 59 + 1 := rfl
theorem gl_58_1 : GL 58 1 = 62 + 1 := rfl
theorem gl_58_2 : GL 58 2 = 65 + 1 := rfl
theorem gl_58_3 : GL 58 3 = 68 + 1 := rfl
theorem gl_59_0 : GL 59 0 = 60 + 1 := rfl
theorem gl_59_2 : GL 59 2 = 61 + 1 := rfl
theorem gl_62_0 : GL 62 0 = 63 + 1 := rfl
theorem gl_62_2 : GL 62 2 = 64 + 1 := rfl
theorem gl_65_0 : GL 65 0 = 66 + 1 := rfl
theorem gl_65_2 : GL 65 2 = 67 + 1 := rfl
theorem gl_69_0 : GL 69 0 = 70 + 1 := rfl
theorem gl_69_1 : GL 69 1 = 71 + 1 := rfl
theorem gl_69_2 : GL 69 2 = 72 + 1 := rfl
theorem gl_69_4 : GL 69 4 = 73 + 1 := rfl
theorem gl_77_0 : GL 77 0 = 2 + 1 := rfl
theorem gl_77_1 : GL 77 1 = 20 + 1 := rfl
theorem gl_77_2 : GL 77 2 = 78 + 1 := rfl
theorem gl_77_5 : GL 77 5 = 96 + 1 := rfl
theorem gl_77_6 : GL 77 6 = 97 + 1 := rfl
theorem gl_77_7 : GL 77 7 = 98 + 1 := rfl
theorem gl_78_0 : GL 78 0 = 79 + 1 := rfl
theorem gl_78_3 : GL 78 3 = 80 + 1 := rfl
theorem gl_78_5 : GL 78 5 = 89 + 1 := rfl
theorem gl_78_8 : GL 78 8 = 95 + 1 := rfl
theorem gl_80_0 : GL 80 0 = 81 + 1 := rfl
theorem gl_80_1 : GL 80 1 = 82 + 1 := rfl
theorem gl_80_2 : GL 80 2 = 83 + 1 := rfl
theorem gl_80_3 : GL 80 3 = 84 + 1 := rfl
theorem gl_80_4 : GL 80 4 = 85 + 1 := rfl
theorem gl_80_5 : GL 80 5 = 86 + 1 := rfl
theorem gl_80_6 : GL 80 6 = 87 + 1 := rfl
theorem gl_80_7 : GL 80 7 = 88 + 1 := rfl
theorem gl_89_0 : GL 89 0 = 90 + 1 := rfl
theorem gl_89_1 : GL 89 1 = 91 + 1 := rfl
theorem gl_89_2 : GL 89 2 = 92 + 1 := rfl
theorem gl_89_3 : GL 89 3 = 93 + 1 := rfl
theorem gl_89_4 : GL 89 4 = 94 + 1 := rfl
theorem gl_99_0 : GL 99 0 = 100 + 1 := rfl
theorem gl_99_5 : GL 99 5 = 105 + 1 := rfl
theorem gl_100_0 : GL 100 0 = 102 + 1 := rfl
theorem gl_100_2 : GL 100 2 = 103 + 1 := rfl
theorem gl_106_0 : GL 106 0 = 107 + 1 := rfl
theorem gl_108_0 : GL 108 0 = 110 + 1 := rfl
theorem gl_108_1 : GL 108 1 = 112 + 1 := rfl
theorem gl_108_2 : GL 108 2 = 114 + 1 := rfl
theorem gl_108_3 : GL 108 3 = 116 + 1 := rfl
theorem gl_110_2 : GL 110 2 = 111 + 1 := rfl
theorem gl_112_2 : GL 112 2 = 113 + 1 := rfl
theorem gl_114_2 : GL 114 2 = 115 + 1 := rfl
theorem gl_116_2 : GL 116 2 = 117 + 1 := rfl
theorem gl_118_0 : GL 118 0 = 119 + 1 := rfl
theorem gl_118_1 : GL 118 1 = 120 + 1 := rfl
theorem gl_118_2 : GL 118 2 = 121 + 1 := rfl
theorem gl_118_4 : GL 118 4 = 122 + 1 := rfl
theorem gl_118_11 : GL 118 11 = 123 + 1 := rfl
theorem gl_118_12 : GL 118 12 = 124 + 1 := rfl
theorem gl_118_13 : GL 118 13 = 125 + 1 := rfl
theorem gl_118_14 : GL 118 14 = 126 + 1 := rfl
theorem gl_118_15 : GL 118 15 = 127 + 1 := rfl
theorem gl_118_18 : GL 118 18 = 128 + 1 := rfl
theorem gl_118_19 : GL 118 19 = 129 + 1 := rfl
theorem gl_118_20 : GL 118 20 = 130 + 1 := rfl
theorem gl_118_21 : GL 118 21 = 131 + 1 := rfl
