/-! making: the world grows -/
def AGR (n : Nat) (ρ ρ' : Nat → Nat) : Prop := ∀ a, a < n ∨ 132 ≤ a → ρ' a = ρ a
theorem AGR.r {n : Nat} {ρ : Nat → Nat} : AGR n ρ ρ := fun _ _ => rfl
theorem AGR.t {n n1 : Nat} {ρ ρ1 ρ2 : Nat → Nat} (H : AGR n ρ ρ1) (H2 : AGR n1 ρ1 ρ2) (h : n ≤ n1) : AGR n ρ ρ2 := fun a ha => (H2 a (by omega)).trans (H a ha)
def RFk (n x : Nat) : Prop := x ≤ n ∨ 133 ≤ x
theorem RFk.m {n n' x : Nat} (H : RFk n x) (h : n ≤ n') : RFk n' x := by unfold RFk at *; omega
def WFR (n : Nat) (g : Gm) (h : Mm) : Prop := (∀ a, a < n → ∀ k, RFk n (g a k)) ∧ (99 < n → RFk n (h 99 1).toNatClampNeg ∧ RFk n (h 99 3).toNatClampNeg)
def okV (n : Nat) (v : Value) : Bool := match v with
  | .ref a => decide (a < n) || decide (132 ≤ a)
  | _ => true
def okS (n : Nat) (st : List Value) : Bool := st.all (okV n)
def okL (n : Nat) (lv : List (Nat × Value)) : Bool := lv.all (fun q => okV n q.2)
theorem ph_ag {n : Nat} {ρ ρ' : Nat → Nat} (A : AGR n ρ ρ') {v : Value} (h : okV n v = true) : ph ρ' v = ph ρ v := by
  cases v with
  | ref a =>
    have h : (decide (a < n) || decide (132 ≤ a)) = true := h
    rw [Bool.or_eq_true, decide_eq_true_iff, decide_eq_true_iff] at h
    exact congrArg Value.ref (A a h)
  | _ => rfl
theorem map_ag {n : Nat} {ρ ρ' : Nat → Nat} (A : AGR n ρ ρ') {st : List Value} (h : okS n st = true) : st.map (ph ρ') = st.map (ph ρ) :=
  List.map_congr_left fun v hv => ph_ag A (List.all_eq_true.mp h v hv)
theorem plv_ag {n : Nat} {ρ ρ' : Nat → Nat} (A : AGR n ρ ρ') {lv : List (Nat × Value)} (h : okL n lv = true) : plv ρ' lv = plv ρ lv :=
  List.map_congr_left fun q hq => by rw [ph_ag A (List.all_eq_true.mp h q hq)]
theorem rfw_ag {n x : Nat} {ρ ρ' : Nat → Nat} (A : AGR n ρ ρ') (h : RFk n x) : ph ρ' (rfw x) = ph ρ (rfw x) := by
  cases x with
  | zero => rfl
  | succ c => exact congrArg Value.ref (A c (by unfold RFk at h; omega))
theorem rfo_ag {n x : Nat} {ρ ρ' : Nat → Nat} (A : AGR n ρ ρ') (h : RFk n x) : (rfo x).map ρ' = (rfo x).map ρ := by
  cases x with
  | zero => rfl
  | succ c => exact congrArg some (A c (by unfold RFk at h; omega))
theorem fv_kinds : ∀ a, a < 132 → (SH a).1 = 1 → ∀ k, k < 22 → FV (SH a).2.1 k = 0 ∨ FV (SH a).2.1 k = 1 ∨ (a = 99 ∧ (k = 1 ∨ k = 3)) := by decide +kernel
theorem sh_small : ∀ a, a < 132 → (SH a).1 = 1 → (SH a).2.2 ≤ 22 := by decide +kernel
theorem sh_big {a : Nat} (h : 132 ≤ a) : SH a = (0, 0, 0) := by
  have e : SHL[a]? = none := by
    rw [List.getElem?_eq_none_iff]
    show 132 ≤ a
    exact h
  unfold SH
  rw [List.getD_eq_getElem?_getD, e]
  rfl
theorem cel_ag {cA : Nat → ClassId} {n a : Nat} {ρ ρ' : Nat → Nat} {g : Gm} {h : Mm} (A : AGR n ρ ρ') (W : WFR n g h) (ha : a < n) : cel cA ρ' (SH a) (g a) (h a) = cel cA ρ (SH a) (g a) (h a) := by
  rcases Nat.lt_or_ge a 132 with hl | hl
  · have hk := fv_kinds a hl
    have hN := sh_small a hl
    have hg := W.1 a ha
    rcases hs : SH a with ⟨x, y, z⟩
    rw [hs] at hk hN
    match x, hk, hN with
    | 1, hk, hN =>
      show Sum.inr (y, _) = Sum.inr (y, _)
      congr 2
      refine List.map_congr_left fun k hkz => ?_
      have hkz : k < z := List.mem_range.mp hkz
      have hz : z ≤ 22 := hN rfl
      rcases hk rfl k (by omega) with e | e | ⟨e, e2⟩
      · have e : FV y k = 0 := e
        rw [e]; rfl
      · have e : FV y k = 1 := e
        rw [e]; exact rfw_ag A (hg k)
      · subst e
        have hs2 : (1, y, z) = (1, 3, 10) := hs.symm.trans rfl
        cases hs2
        rcases e2 with rfl | rfl
        · exact rfw_ag A (W.2 ha).1
        · exact rfw_ag A (W.2 ha).2
    | 0, _, _ =>
      show Sum.inl _ = Sum.inl _
      have : (fun i => (rfo (g a i)).map ρ') = fun i => (rfo (g a i)).map ρ := funext fun i => rfo_ag A (hg i)
      simp only [this]
    | 2, _, _ => rfl
    | (w + 3), _, _ =>
      show Sum.inl _ = Sum.inl _
      have : (fun i => (rfo (g a i)).map ρ') = fun i => (rfo (g a i)).map ρ := funext fun i => rfo_ag A (hg i)
      simp only [this]
  · rw [sh_big hl]
    show Sum.inl _ = Sum.inl _
    have : (fun i => (rfo (g a i)).map ρ') = fun i => (rfo (g a i)).map ρ := funext fun i => rfo_ag A (W.1 a ha i)
    simp only [this]
theorem wl_ag {cA : Nat → ClassId} {n c z c' z' : Nat} {ρ ρ' : Nat → Nat} {g : Gm} {h : Mm} (A : AGR n ρ ρ') (W : WFR n g h) : wl cA (n, ρ', g, c, z) h = wl cA (n, ρ, g, c', z') h := by
  unfold wl
  refine List.map_congr_left fun a ha => ?_
  have ha : a < n := List.mem_range.mp ha
  show (ρ' a, cel cA ρ' (SH a) (g a) (h a)) = (ρ a, cel cA ρ (SH a) (g a) (h a))
  rw [A a (Or.inl ha), cel_ag A W ha]
theorem wl_snoc {cA : Nat → ClassId} {n c z c' z' : Nat} {ρ : Nat → Nat} {g : Gm} {h : Mm} : wl cA (n + 1, ρ, g, c, z) h = wl cA (n, ρ, g, c', z') h ++ [(ρ n, cel cA ρ (SH n) (g n) (h n))] := by
  unfold wl
  show (List.range (n + 1)).map _ = _
  rw [List.range_succ, List.map_append]
  rfl
theorem wl_gh {cA : Nat → ClassId} {n c z c' z' : Nat} {ρ : Nat → Nat} {g g' : Gm} {h h' : Mm} (hg : ∀ a, a < n → g' a = g a) (hh : ∀ a, a < n → h' a = h a) : wl cA (n, ρ, g', c, z) h' = wl cA (n, ρ, g, c', z') h := by
  unfold wl
  refine List.map_congr_left fun a ha => ?_
  have ha : a < n := List.mem_range.mp ha
  show (ρ a, cel cA ρ (SH a) (g' a) (h' a)) = (ρ a, cel cA ρ (SH a) (g a) (h a))
  rw [hg a ha, hh a ha]
theorem EX.ag {n : Nat} {ρ ρ' : Nat → Nat} {A : Nat → Prop} {U : State} {H : Heap} (G : AGR n ρ ρ') (h : EX ρ A U H) : EX ρ' A U H := by
  have e : ∀ j, ρ' (1000 + j) = ρ (1000 + j) := fun j => G _ (by omega)
  have e2 : (fun i => ρ' (1020 + i)) = fun i => ρ (1020 + i) := funext fun j => G _ (by omega)
  have e3 : (fun i => ρ' (1030 + i)) = fun i => ρ (1030 + i) := funext fun j => G _ (by omega)
  obtain ⟨h1, h2, h3, h4, h5, h6, h7⟩ := h
  refine ⟨fun j hj => by rw [e]; exact h1 j hj, h2, h3, h4, by rw [e2, e3]; exact h5, ?_, h7⟩
  rw [G 1020 (by omega), G 1021 (by omega), G 1022 (by omega), G 1023 (by omega)]
  exact h6
theorem WFR.m {n : Nat} {g : Gm} {h : Mm} (W : WFR n g h) (hg : ∀ k, g n k = 0) (hh : n = 99 → h 99 1 = 0 ∧ h 99 3 = 0) : WFR (n + 1) g h := by
  refine ⟨fun a ha k => ?_, fun h9 => ?_⟩
  · by_cases e : a = n
    · subst e; rw [hg k]; exact Or.inl (Nat.zero_le _)
    · exact (W.1 a (by omega) k).m (Nat.le_succ _)
  · by_cases e : n = 99
    · obtain ⟨q1, q2⟩ := hh e
      rw [q1, q2]; exact ⟨Or.inl (Nat.zero_le _), Or.inl (Nat.zero_le _)⟩
    · obtain ⟨q1, q2⟩ := W.2 (by omega)
      exact ⟨q1.m (Nat.le_succ _), q2.m (Nat.le_succ _)⟩
/-- rows of references -/
def gr (L : List Nat) : Nat → Nat := fun k => L.getD k 0
def gw (g : Gm) (a : Nat) (f : Nat → Nat) : Gm := fun x => if x = a then f else g x
theorem gw_at {g : Gm} {a : Nat} {f : Nat → Nat} : gw g a f a = f := if_pos rfl
theorem gw_off {g : Gm} {a x : Nat} {f : Nat → Nat} (H : x ≠ a) : gw g a f x = g x := if_neg H
theorem gr_le {L : List Nat} {n : Nat} (H : L.all (fun x => decide (x ≤ n)) = true) (k : Nat) : RFk n (gr L k) := by
  refine Or.inl ?_
  unfold gr
  rw [List.getD_eq_getElem?_getD]
  cases e : L[k]? with
  | none => exact Nat.zero_le _
  | some x => exact of_decide_eq_true (List.all_eq_true.mp H x (List.mem_of_getElem? e))
theorem WFR.w {n a : Nat} {g : Gm} {h : Mm} {L : List Nat} (W : WFR n g h) (H : L.all (fun x => decide (x ≤ n)) = true) : WFR n (gw g a (gr L)) h :=
  ⟨fun x hx y => by
    by_cases e : x = a
    · subst e; rw [gw_at]; exact gr_le H y
    · rw [gw_off e]; exact W.1 x hx y, W.2⟩
theorem WFR.far {n : Nat} {g : Gm} {h h' : Mm} (W : WFR n g h) (e : n ≤ 99 ∨ (h' 99 1 = h 99 1 ∧ h' 99 3 = h 99 3)) : WFR n g h' :=
  ⟨W.1, fun h9 => by
    rcases e with e | ⟨e1, e2⟩
    · omega
    · rw [e1, e2]; exact W.2 h9⟩
def dfv : Nat → Value
  | 0 => .int 0
  | _ => .null
/-- a class whose objects are made -/
def NWK (own : String) (idx ci N : Nat) : Prop := ∃ (C : String) (T : u_T) (ty : Nat → FieldType), Cond.classLink own idx C ∈ LT ∧ Cond.instantiable C N ∈ LT ∧ Cond.initialized C ∈ LT ∧ CL[ci]? = some (C, T, N) ∧ (∀ w ∈ u_ws C T N, w ∈ LT) ∧ (∀ k, k < N → parseFieldDescriptor (T k).2.2.1 = some (ty k)) ∧ ∀ j, j < N → defaultValue (ty j) = dfv (FV ci j)
section VNEW
variable {κ : KT} {own nm : String} {cc : ByteArray} {nL : Nat} {R : Room} {ret : Option FieldType} {Q : State → Prop} {h : Mm} {pc : Nat} {lv : List (Nat × Value)} {st : List Value} {n c z : Nat} {ρ : Nat → Nat} {g : Gm}
theorem fv_born {ci k : Nat} : fvl ρ (FV ci k) 0 0 = dfv (FV ci k) := by
  cases FV ci k with
  | zero => rfl
  | succ m => cases m <;> rfl
theorem v_new (K : KOK κ own nm cc nL R ret) {idx N ci : Nat} (nw : NWK own idx ci N) (hn : n < 132) (hs : SH n = (1, ci, N)) (hg : ∀ k, g n k = 0) (hz : ∀ k, k < N → h n k = 0) (W : WFR n g h) (hlv : okL n lv = true) (hst : okS n st = true) (hr : c + 1 ≤ R.cells ∧ z + N ≤ R.slots) (d : decode cc pc = .ok (.new idx, 3))
    (kk : ∀ ρ', AGR n ρ ρ' → V κ Q nL (n + 1, ρ', g, c + 1, z + N) h (pc + 3) lv (.ref n :: st)) : V κ Q nL (n, ρ, g, c, z) h pc lv st := by
  intro H locs ls hl hP hD hS hE
  have hR := K.2.2.2.2.2.2.2.1
  obtain ⟨C, T, ty, w1, w2, w3, hc, hin, hty, hdf⟩ := nw
  refine va_new K.1 K.2.1 K.2.2.2.2.1 hin ty hty K.2.2.2.1 (K.2.2.2.2.1 _ w1) (K.2.2.2.2.1 _ w2) (K.2.2.2.2.1 _ w3) K.2.2.2.2.2.1 hP hD hS K.2.2.2.2.2.2.1 hc (fs := (List.range N).map (fun k => fvl ρ (FV ci k) 0 0)) (fun j hj => ?_) (by rw [hR]; exact hr.1) (by rw [hR]; exact hr.2) d (fun q H1 hP1 hD1 hS1 => ?_)
  · rw [hdf j hj]
    show _ = ((List.range N).map _).getD j Value.null
    rw [List.getD_eq_getElem?_getD, rg_get _ hj]
    exact fv_born.symm
  · obtain ⟨ρ', hρ⟩ : ∃ ρ' : Nat → Nat, ρ' = fun a => if a = n then q else ρ a := ⟨_, rfl⟩
    have A : AGR n ρ ρ' := fun a ha => by rw [hρ]; exact if_neg (by omega)
    have en : ρ' n = q := by rw [hρ]; exact if_pos rfl
    have e : wl (kC κ) (n + 1, ρ', g, c + 1, z + N) h = wl (kC κ) (n, ρ, g, c, z) h ++ [(q, .inr (ci, (List.range N).map (fun k => fvl ρ (FV ci k) 0 0)))] := by
      rw [wl_snoc (c' := c) (z' := z), wl_ag A W (c' := c) (z' := z), en, hs]
      have : (List.range N).map (fun k => fvl ρ' (FV ci k) (g n k) (h n k)) = (List.range N).map (fun k => fvl ρ (FV ci k) 0 0) := by
        refine List.map_congr_left fun k hk => ?_
        rw [hg k, hz k (List.mem_range.mp hk), fv_born, fv_born]
      show _ ++ [(q, Sum.inr (ci, (List.range N).map (fun k => fvl ρ' (FV ci k) (g n k) (h n k))))] = _
      rw [this]
    have := kk ρ' A H1 locs ls (by show lv_has ls nL (plv ρ' lv); rw [plv_ag A hlv]; exact hl) (by rw [e]; exact hP1) (by rw [e]; exact hD1) hS1 (hE.ag A)
    have e2 : ((.ref n :: st : List Value)).map (ph ρ') = .ref q :: st.map (ph ρ) := by
      show ph ρ' (.ref n) :: st.map (ph ρ') = _
      rw [map_ag A hst]
      show Value.ref (ρ' n) :: _ = _
      rw [en]
    rw [← e2]
    exact this
theorem v_newa (K : KOK κ own nm cc nL R ret) {N t : Nat} {at_ : ArrayType} (hn : n < 132) (hs : SH n = (2, t, N)) (hz : h n = fun _ => 0) (ht : (t = 0 ∧ at_ = .int) ∨ (t = 1 ∧ at_ = .byte) ∨ (t = 2 ∧ at_ = .boolean)) (hg : ∀ k, g n k = 0) (W : WFR n g h) (hN : N ≤ 1000) (hlv : okL n lv = true) (hst : okS n st = true) (wa : Cond.arrayClass (newarray.typeOf at_) ∈ LT) (hr : c + 1 ≤ R.cells ∧ z + N ≤ R.slots) (d : decode cc pc = .ok (.newarray at_, 2))
    (kk : ∀ ρ', AGR n ρ ρ' → V κ Q nL (n + 1, ρ', g, c + 1, z + N) h (pc + 2) lv (.ref n :: st)) : V κ Q nL (n, ρ, g, c, z) h pc lv (.int (nI N) :: st) := by
  intro H locs ls hl hP hD hS hE
  have hR := K.2.2.2.2.2.2.2.1
  have hcb : componentBytes (newarray.typeOf at_) ≤ 8 := by rcases ht with ⟨-, rfl⟩ | ⟨-, rfl⟩ | ⟨-, rfl⟩ <;> decide
  have hby : N * componentBytes (newarray.typeOf at_) ≤ 536870912 := by
    have := Nat.mul_le_mul hN hcb
    omega
  refine va_newa (atype := at_) K.1 K.2.1 (K.2.2.2.2.1 _ wa) rfl K.2.2.2.2.2.1 hP hD hS K.2.2.2.2.2.2.1 (a0 := (N, .inl (fun _ => 0))) (fun cA => by rcases ht with ⟨-, rfl⟩ | ⟨-, rfl⟩ | ⟨-, rfl⟩ <;> rfl) (nI_pos (by omega)) (nI_clamp (by omega)) hby (by rw [hR]; exact hr.1) (by rw [hR]; exact hr.2) d (fun q cA H1 hK1 hP1 hD1 hS1 => ?_)
  have ec : cA = kC κ t := by
    have h2 := (hK1.2 5 (cA, newarray.typeOf at_) rfl).2
    rcases ht with ⟨rfl, rfl⟩ | ⟨rfl, rfl⟩ | ⟨rfl, rfl⟩
    · exact Option.some.inj ((show (ks κ).vm.findClass _ = some cA from h2).symm.trans (K.2.2.2.2.2.1.2 0 _ rfl).2)
    · exact Option.some.inj ((show (ks κ).vm.findClass _ = some cA from h2).symm.trans (K.2.2.2.2.2.1.2 1 _ rfl).2)
    · exact Option.some.inj ((show (ks κ).vm.findClass _ = some cA from h2).symm.trans (K.2.2.2.2.2.1.2 2 _ rfl).2)
  subst ec
  obtain ⟨ρ', hρ⟩ : ∃ ρ' : Nat → Nat, ρ' = fun a => if a = n then q else ρ a := ⟨_, rfl⟩
  have A : AGR n ρ ρ' := fun a ha => by rw [hρ]; exact if_neg (by omega)
  have en : ρ' n = q := by rw [hρ]; exact if_pos rfl
  have e : wl (kC κ) (n + 1, ρ', g, c + 1, z + N) h = wl (kC κ) (n, ρ, g, c, z) h ++ [(q, .inl (kC κ t, N, .inl (fun _ => 0)))] := by
    rw [wl_snoc (c' := c) (z' := z), wl_ag A W (c' := c) (z' := z), en, hs, hz]
    rfl
  have := kk ρ' A H1 locs ls (by show lv_has ls nL (plv ρ' lv); rw [plv_ag A hlv]; exact hl) (by rw [e]; exact hP1) (by rw [e]; exact hD1) hS1 (hE.ag A)
  have e2 : ((.ref n :: st : List Value)).map (ph ρ') = .ref q :: st.map (ph ρ) := by
    show ph ρ' (.ref n) :: st.map (ph ρ') = _
    rw [map_ag A hst]
    show Value.ref (ρ' n) :: _ = _
    rw [en]
  rw [← e2]
  exact this
theorem v_newq (K : KOK κ own nm cc nL R ret) {N idx : Nat} (hn : n < 132) (hs : SH n = (3, 4, N)) (hg : g n = fun _ => 0) (W : WFR n g h) (hN : N ≤ 1000) (hlv : okL n lv = true) (hst : okS n st = true) (wc : Cond.classLink own idx "FoxRounds$Sheet" ∈ LT) (hr : c + 1 ≤ R.cells ∧ z + N ≤ R.slots) (d : decode cc pc = .ok (.anewarray idx, 3))
    (kk : ∀ ρ', AGR n ρ ρ' → V κ Q nL (n + 1, ρ', g, c + 1, z + N) h (pc + 3) lv (.ref n :: st)) : V κ Q nL (n, ρ, g, c, z) h pc lv (.int (nI N) :: st) := by
  intro H locs ls hl hP hD hS hE
  have hR := K.2.2.2.2.2.2.2.1
  refine va_newq K.1 K.2.1 K.2.2.2.1 (K.2.2.2.2.1 _ wc) hE.2.2.2.1.1 K.2.2.2.2.2.1 hP hD hS K.2.2.2.2.2.2.1 (nI_pos (by omega)) (nI_clamp (by omega)) (by omega) (by rw [hR]; exact hr.1) (by rw [hR]; exact hr.2) d (fun q cA H1 hK1 hP1 hD1 hS1 => ?_)
  have ec : cA = kC κ 4 := by
    obtain ⟨kA, comp, -, -, -, h2⟩ := (hK1.2 5 (cA, .object "FoxRounds$Sheet") rfl).2
    obtain ⟨kA', comp', -, -, -, h3⟩ := (K.2.2.2.2.2.1.2 4 (kC κ 4, .object "FoxRounds$Sheet") rfl).2
    exact Option.some.inj (h2.symm.trans h3)
  subst ec
  obtain ⟨ρ', hρ⟩ : ∃ ρ' : Nat → Nat, ρ' = fun a => if a = n then q else ρ a := ⟨_, rfl⟩
  have A : AGR n ρ ρ' := fun a ha => by rw [hρ]; exact if_neg (by omega)
  have en : ρ' n = q := by rw [hρ]; exact if_pos rfl
  have e : wl (kC κ) (n + 1, ρ', g, c + 1, z + N) h = wl (kC κ) (n, ρ, g, c, z) h ++ [(q, .inl (kC κ 4, N, .inr (.inr (.inr (.inr (fun _ => none))))))] := by
    rw [wl_snoc (c' := c) (z' := z), wl_ag A W (c' := c) (z' := z), en, hs, hg]
    rfl
  have := kk ρ' A H1 locs ls (by show lv_has ls nL (plv ρ' lv); rw [plv_ag A hlv]; exact hl) (by rw [e]; exact hP1) (by rw [e]; exact hD1) hS1 (hE.ag A)
  have e2 : ((.ref n :: st : List Value)).map (ph ρ') = .ref q :: st.map (ph ρ) := by
    show ph ρ' (.ref n) :: st.map (ph ρ') = _
    rw [map_ag A hst]
    show Value.ref (ρ' n) :: _ = _
    rw [en]
  rw [← e2]
  exact this
theorem wl_setg {cA : Nat → ClassId} {ω : Wo} {g' : Gm} {h : Mm} {a : Nat} {e : va_E} (ha : a < ω.1) (hx : ∀ x, x < ω.1 → x ≠ a → g' x = ω.2.2.1 x) (he : e = cel cA ω.2.1 (SH a) (g' a) (h a)) : (wl cA ω h).set a (ω.2.1 a, e) = wl cA (ω.1, ω.2.1, g', ω.2.2.2) h := by
  subst he
  apply List.ext_getElem?
  intro i
  rw [List.getElem?_set]
  by_cases e : a = i
  · subst e
    rw [if_pos rfl, wl_get (ω := (ω.1, ω.2.1, g', ω.2.2.2)) ha]
    have : (wl cA ω h).length = ω.1 := by unfold wl; simp
    rw [this, if_pos ha]
  · rw [if_neg e]
    by_cases hl : i < ω.1
    · rw [wl_get hl, wl_get (ω := (ω.1, ω.2.1, g', ω.2.2.2)) hl]
      show _ = some (ω.2.1 i, cel cA ω.2.1 (SH i) (g' i) (h i))
      rw [hx i hl (fun q => e q.symm)]
    · have l1 : (wl cA ω h)[i]? = none := List.getElem?_eq_none_iff.mpr (by unfold wl; simp; omega)
      have l2 : (wl cA (ω.1, ω.2.1, g', ω.2.2.2) h)[i]? = none := List.getElem?_eq_none_iff.mpr (by unfold wl; simp; omega)
      rw [l1, l2]
/-- the rows of references may be told otherwise -/
theorem v_gsw {g' : Gm} (e : ∀ a, a < n → g' a = g a) (kk : V κ Q nL (n, ρ, g', c, z) h pc lv st) : V κ Q nL (n, ρ, g, c, z) h pc lv st := by
  intro H locs ls hl hP hD hS hE
  have e1 : wl (kC κ) (n, ρ, g', c, z) h = wl (kC κ) (n, ρ, g, c, z) h := wl_gh e (fun _ _ => rfl)
  exact kk H locs ls hl (by rw [e1]; exact hP) (by rw [e1]; exact hD) hS hE
theorem v_putg (K : KOK κ own nm cc nL R ret) {g' : Gm} {a ci N idx k q : Nat} {fin : Bool} {ty : FieldType} (f : FP own idx ci k 1 N fin ty) (hfi : fin = true → nm = "<init>") (hty : (∃ c, ty = .object c) ∨ ∃ t, ty = .array t) (hs : SH a = (1, ci, N)) (ha : a < n) (e1 : g' a k = q + 1) (e2 : ∀ j, j < N → j ≠ k → g' a j = g a j) (e3 : ∀ x, x < n → x ≠ a → g' x = g x) (d : decode cc pc = .ok (.putfield idx, 3)) (kk : V κ Q nL (n, ρ, g', c, z) h (pc + 3) lv st) : V κ Q nL (n, ρ, g, c, z) h pc lv (.ref q :: .ref a :: st) := by
  intro H locs ls hl hP hD hS hE
  obtain ⟨C, T, ⟨hc, hin, hC, ⟨ty0, hty0⟩, hnm⟩, hlk, hk, hkd, hfin, hd, hco⟩ := f
  have hn : narrow ty (Value.ref (ρ q)) = .ref (ρ q) := by rcases hty with ⟨c, rfl⟩ | ⟨t, rfl⟩ <;> rfl
  have hfit : fits ty (Value.ref (ρ q)) = true := by rcases hty with ⟨c, rfl⟩ | ⟨t, rfl⟩ <;> rfl
  have e : (wl (kC κ) (n, ρ, g, c, z) h).set a (ρ a, .inr (ci, ((List.range N).map (fun k => fvl ρ (FV ci k) (g a k) (h a k))).set k (.ref (ρ q)))) = wl (kC κ) (n, ρ, g', c, z) h := by
    refine wl_setg (ω := (n, ρ, g, c, z)) ha e3 ?_
    rw [hs]
    show Sum.inr (ci, _) = Sum.inr (ci, _)
    congr 2
    apply List.ext_getElem?
    intro i
    rw [List.getElem?_set, List.getElem?_map, List.getElem?_map]
    rcases Nat.lt_or_ge i N with hi | hi
    · rw [List.getElem?_range hi]
      by_cases e : k = i
      · subst e
        rw [if_pos rfl, List.length_map, List.length_range, if_pos hi]
        show some _ = some (fvl ρ (FV ci k) (g' a k) (h a k))
        rw [hkd, e1]; rfl
      · rw [if_neg e]
        show some _ = some (fvl ρ (FV ci i) (g' a i) (h a i))
        rw [e2 i hi (fun q => e q.symm)]
    · have hn : (List.range N)[i]? = none := List.getElem?_eq_none_iff.mpr (by rw [List.length_range]; exact hi)
      rw [hn]
      by_cases e : k = i
      · subst e; rw [if_pos rfl, List.length_map, List.length_range, if_neg (by omega)]; rfl
      · rw [if_neg e]; rfl
  have hsame : ∀ x, (ks κ).fieldFound? (T k).1 (T k).2.1 (T k).2.2.1 = some x → (ks κ).fieldFound? C (T k).2.1 (T k).2.2.1 = some x := fun x hx => by rw [hC k hk] at hx; exact hx
  cases fin with
  | false =>
    refine va_put (C := C) (T := T) (N := N) (ci := ci) (ref := C) K.1 K.2.1 K.2.2.2.2.1 hin ty0 hty0 hnm K.2.2.2.1 K.2.2.2.2.2.1 hP hD hS a (wl_obj ha hs) hc k hk (K.2.2.2.2.1 _ hlk) hsame hfin hd (v := .ref (ρ q)) hn hfit (by simpa using hk) d (fun H1 locs1 hP1 hD1 hS1 => ?_)
    rw [e] at hP1 hD1
    exact kk H1 locs1 ls hl hP1 hD1 hS1 hE
  | true =>
    refine va_putF (C := C) (T := T) (N := N) (ci := ci) (ref := C) K.1 K.2.1 K.2.2.2.2.1 hin ty0 hty0 hnm K.2.2.2.1 K.2.2.2.2.2.1 hP hD hS a (wl_obj ha hs) hc k hk (K.2.2.2.2.1 _ hlk) hsame hfin (by rw [← hfi rfl]; exact K.2.2.2.2.2.2.2.2.2.2) (by rw [hC k hk]; exact hco rfl) hd (v := .ref (ρ q)) hn hfit (by simpa using hk) d (fun H1 locs1 hP1 hD1 hS1 => ?_)
    rw [e] at hP1 hD1
    exact kk H1 locs1 ls hl hP1 hD1 hS1 hE
theorem v_aastq (K : KOK κ own nm cc nL R ret) {g' : Gm} {a b N k ci : Nat} {T : u_T} {M : Nat} (hs : SH a = (3, 4, N)) (ha : a < n) (hb : SH b = (1, ci, M)) (hbn : b < n) (hc : CL[ci]? = some ("FoxRounds$Sheet", T, M)) (hk : k < N) (hN : N ≤ 1000) (e1 : g' a k = b + 1) (e2 : ∀ j, j ≠ k → g' a j = g a j) (e3 : ∀ x, x < n → x ≠ a → g' x = g x) (d : decode cc pc = .ok (.aastore, 1)) (kk : V κ Q nL (n, ρ, g', c, z) h (pc + 1) lv st) : V κ Q nL (n, ρ, g, c, z) h pc lv (.ref b :: .int (nI k) :: .ref a :: st) := by
  intro H locs ls hl hP hD hS hE
  have e : (wl (kC κ) (n, ρ, g, c, z) h).set a (ρ a, .inl (kC κ 4, N, .inr (.inr (.inr (.inr (va_up (fun i => (rfo (g a i)).map ρ) (nI k).toNatClampNeg (some (ρ b)))))))) = wl (kC κ) (n, ρ, g', c, z) h := by
    refine wl_setg (ω := (n, ρ, g, c, z)) ha e3 ?_
    rw [hs, nI_clamp (by omega)]
    have : va_up (fun i => (rfo (g a i)).map ρ) k (some (ρ b)) = fun i => (rfo (g' a i)).map ρ := by
      funext i
      by_cases q : i = k
      · subst q; rw [e1]; simp [va_up, rfo]
      · rw [e2 i q]; simp [va_up, q]
    rw [this]
    rfl
  refine va_astq K.1 K.2.1 K.2.2.2.2.2.1 hP hD hS a 4 b ci (wl_ref (ω := (n, ρ, g, c, z)) ha hs) rfl (wl_obj (ω := (n, ρ, g, c, z)) hbn hb) hc (vp_in_nI hk (by omega)) d (fun H1 locs1 hP1 hD1 hS1 => ?_)
  rw [e] at hP1 hD1
  exact kk H1 locs1 ls hl hP1 hD1 hS1 hE
theorem v_objInit (K : KOK κ own nm cc nL R ret) {idx a : Nat} (w1 : Cond.methodLink own idx Lib.objectInit ∈ LT) (w2 : Cond.instanceMethod Lib.objectInit ∈ LT) (w3 : Cond.code Lib.objectInit ⟨#[0xb1]⟩ 1 none ∈ LT) (hr : 1 ≤ R.frames ∧ 20 ≤ R.locals) (hcat : (st.map fun v => v.category).sum ≤ 8) (d : decode cc pc = .ok (.invokespecial idx, 3)) (kk : V κ Q nL (n, ρ, g, c, z) h (pc + 3) lv st) : V κ Q nL (n, ρ, g, c, z) h pc lv (.ref a :: st) := by
  intro H locs ls hl hP hD hS hE
  have hR := K.2.2.2.2.2.2.2.1
  have hcat' : ((st.map (ph ρ)).map fun v => v.category).sum = (st.map fun v => v.category).sum := by rw [List.map_map]; congr 1; apply List.map_congr_left; intro v _; exact ph_cat _ v
  refine W.objInit K.1 K.2.1 K.2.2.2.1 (K.2.2.2.2.1 _ w1) (K.2.2.2.2.1 _ w2) (K.2.2.2.2.1 _ w3) rfl (hl.1.trans K.2.2.1.symm) rfl d (by rw [hR]; exact hr.1) ?_ (kk H locs ls hl hP hD hS hE)
  show 2 * 0 + ((st.map (ph ρ)).map fun v => v.category).sum + 12 ≤ _
  rw [hcat', hR]; omega
end VNEW
/-! a contract of a constructor: from n places to n' -/
def QA (D : va_G) (cA : Nat → ClassId) (A : Nat → Prop) (n lo n' : Nat) (ρ : Nat → Nat) (g : Gm) (Post : Mm → Prop) : Array Value → State → Outcome → State → Prop := fun _ st oc t =>
  (∃ (ρ' : Nat → Nat) (g' : Gm) (h' : Mm), oc = .returned none ∧ AGR n ρ ρ' ∧ (∀ a, (a < lo ∨ n' ≤ a) → g' a = g a) ∧ (∀ a, lo ≤ a → a < n' → g' a = GL a) ∧ WFR n' g' h' ∧ Post h' ∧ Wd D cA A (n', ρ', g', 0, 0) h' t) ∧ va_F A st t
def ConA (l : Launch) (y : MethodName) (cc : ByteArray) (nL : Nat) (fr lo mc ms n b n' : Nat) (g : Gm) (h : Mm) (vs : List Value) (Post : Mm → Prop) : Prop :=
  ∀ (D : va_G) (cA : Nat → ClassId) (A : Nat → Prop) (ρ : Nat → Nat), Met l y (.code y cc nL none :: LT) ({ frames := fr, cells := mc, slots := ms, locals := lo }) (va_Pc (vs.map (ph ρ)) (fun U => Wd D cA A (n, ρ, g, 0, 0) h U)) (QA D cA A n b n' ρ g Post) mc ms A
def QMA (κ : KT) (n b n' : Nat) (ρ : Nat → Nat) (g : Gm) (Post : Mm → Prop) (mc ms : Nat) : State → Prop := MQ (kb κ) (QA (kD κ) (kC κ) (kA κ) n b n' ρ g Post) (ka κ) (ks κ) mc ms (kA κ)
theorem ConA.ofV {l : Launch} {y : MethodName} {cc : ByteArray} {nL : Nat} {fr lo mc ms n b n' : Nat} {g : Gm} {h : Mm} {vs : List Value} {Post : Mm → Prop} {own nm : String} (ho : y.cls = own) (hnm : y.name = nm) (hpl : plainName y.cls = true) (hlen : (lg_sl vs).length ≤ nL)
    (body : ∀ (κ : KT) (ρ : Nat → Nat), kl κ = l → KOK κ own nm cc nL ({ frames := fr, cells := mc, slots := ms, locals := lo }) none → V κ (QMA κ n b n' ρ g Post mc ms) nL (n, ρ, g, 0, 0) h 0 (lv_args 0 vs) []) : ConA l y cc nL fr lo mc ms n b n' g h vs Post := by
  intro D cA A ρ
  refine Met.ofW (cc := cc) (maxL := nL) (ret := none) hpl rfl ?_
  intro p e s m args below meth c s₁ B hml hv
  obtain ⟨hargs, hP, hK, hD, hE, hA⟩ := hv
  have hts := atoms_spec (ws := .code y cc nL none :: LT) B.pre
  have hown : s.vm.findClass own = some m.cls := by rw [← ho]; exact findClass_of_methodNamed B.named
  have hin : meth.name = nm := by rw [← hnm]; exact (name_of_methodNamed B.named B.method).1
  have K := body ((p, l, e, { frames := fr, cells := mc, slots := ms, locals := lo }, s), (m, args, below, meth, c), (D, cA, A)) ρ rfl ⟨B.exec, B.bytes, hml, hown, fun w hw => hts w (List.mem_cons_of_mem _ hw), hK, hA, rfl, B.returns, B.notSynchronized, hin⟩
  have hl := lv_entry (vs.map (ph ρ)) (n := nL) (by rw [nsl_ph]; exact hlen)
  rw [lv_args_ph] at hl
  subst hargs
  rw [lg_entry_eq]
  exact K s.heap [] _ hl hP hD va_S.rf hE
section VCALLA
variable {κ : KT} {own nm : String} {cc : ByteArray} {nL : Nat} {R : Room} {ret : Option FieldType} {Q : State → Prop} {h : Mm} {pc : Nat} {lv : List (Nat × Value)} {st : List Value} {n c z : Nat} {ρ : Nat → Nat} {g : Gm}
theorem v_vretA (K : KOK κ own nm cc nL R none) {n0 b mc ms : Nat} {ρ0 : Nat → Nat} {g0 : Gm} {Post : Mm → Prop} (d : decode cc pc = .ok (.return_, 1)) (A : AGR n0 ρ0 ρ) (hg1 : ∀ a, (a < b ∨ n ≤ a) → g a = g0 a) (hg2 : ∀ a, b ≤ a → a < n → g a = GL a) (hw : WFR n g h) (hp : Post h) : V κ (QMA κ n0 b n ρ0 g0 Post mc ms) nL (n, ρ, g, mc, ms) h pc lv [] := by
  intro H locs ls hl hP hD hS hE
  refine W.vret K.1 K.2.1 K.2.2.2.2.2.2.2.2.1 (fun t ht hW => ?_) hS.2.2 d K.2.2.2.2.2.2.2.2.2.1
  refine ⟨⟨ρ, g, h, rfl, A, hg1, hg2, hw, hp, by rw [ht]; exact hP, va_K.moved hW.alike K.2.2.2.2.2.1, hD, ?_, fun q hq => K.2.2.2.2.2.2.1 q (by rw [ht] at hq; exact Nat.le_trans hS.1 hq)⟩, hS.F ht⟩
  rw [ht]
  exact (hE.kept hS.2.1).warm hW
/-- behind a constructor's call -/
theorem v_backA {b n' mc ms : Nat} {Post : Mm → Prop} {g0 : JFrame} {rest : List Value} {H : Heap} {locs : List Loc} {ls : Array Slot} {aa : Array Value} (hl : lv_has ls nL (plv ρ lv)) (hlv : okL n lv = true) (hst : okS n st = true) (hS : va_S (kA κ) (ks κ).heap H locs) (hE : EX ρ (kA κ) (ks κ) (ks κ).heap) (hg : g0 = F0 (km κ) pc ls rest)
    (hr : va_Run (kp κ) (kl κ) (ke κ) (kR κ) (ks κ) (km κ) (ka κ) (kb κ) (kM κ) (kc κ) H locs c z mc ms g0 (st.map (ph ρ)) (QA (kD κ) (kC κ) (kA κ) n b n' ρ g Post aa) (kA κ))
    (kk : ∀ ρ' g' h', AGR n ρ ρ' → (∀ a, (a < b ∨ n' ≤ a) → g' a = g a) → (∀ a, b ≤ a → a < n' → g' a = GL a) → WFR n' g' h' → Post h' → V κ Q nL (n', ρ', g', c + mc, z + ms) h' (pc + 3) lv st) : W (kp κ) (kl κ) (ke κ) (kR κ) (ks κ) (km κ) (ka κ) (kb κ) (kM κ) (kc κ) H locs c z Q g0 := by
  intro T hT X
  obtain ⟨v, st₀, t, T', L, h0, X', hL, e1, e2, ⟨⟨ρ', g', h', hv, hA, hg1, hg2, hw, hp, hP', hK', hD', hE', hA'⟩, hz, hk⟩, step⟩ := hr T hT X
  cases hv
  rw [h0] at hz hk
  have hS' : va_S (kA κ) (ks κ).heap T'.heap (locs ++ L) := ⟨Nat.le_trans hS.1 (by rw [e1]; exact hz), fun q h1 h2 => by rw [e1, hk q (Nat.lt_of_lt_of_le h1 hS.1) h2]; exact hS.2.1 q h1 h2, fun q hq => by
      rcases List.mem_append.mp hq with hh | hh
      · exact hS.2.2 q hh
      · exact hL q hh⟩
  have K1 := kk ρ' g' h' hA hg1 hg2 hw hp T'.heap (locs ++ L) ls (by show lv_has ls nL (plv ρ' lv); rw [plv_ag hA hlv]; exact hl) (by rw [e1]; exact hP') hD' hS' (hE.ag hA)
  obtain ⟨t2, a1, b1⟩ := K1 T' rfl X'
  refine ⟨t2, step t2 ?_, b1⟩
  subst hg
  show Steps _ _ _ (T'.setTop (F0 (km κ) (pc + 3) ls (st.map (ph ρ)))) _
  rw [← map_ag hA hst]
  exact a1
theorem v_callI (K : KOK κ own nm cc nL R ret) {b n' a idx na fr lo mL mc ms : Nat} {y : MethodName} {bb : ByteArray} {As : List Value} {Post : Mm → Prop} (hc : ConA (kl κ) y bb mL fr lo mc ms n b n' g h (.ref a :: As) Post) (lk : LK own idx y bb mL none na ∧ Cond.instanceMethod y ∈ LT) (hy : y.name = "<init>") (hn : As.length = na) (hroom : fr + 1 ≤ R.frames ∧ 8 + (mL + 11) + lo ≤ R.locals) (hroom2 : c + mc ≤ R.cells ∧ z + ms ≤ R.slots) (hcat : (st.map fun v => v.category).sum ≤ 8) (hlv : okL n lv = true) (hok : okS n st = true) (d : decode cc pc = .ok (.invokespecial idx, 3))
    (kk : ∀ ρ' g' h', AGR n ρ ρ' → (∀ a, (a < b ∨ n' ≤ a) → g' a = g a) → (∀ a, b ≤ a → a < n' → g' a = GL a) → WFR n' g' h' → Post h' → V κ Q nL (n', ρ', g', c + mc, z + ms) h' (pc + 3) lv st) {st0 : List Value} (hst : st0 = As.reverse ++ .ref a :: st) : V κ Q nL (n, ρ, g, c, z) h pc lv st0 := by
  subst hst
  intro H locs ls hl hP hD hS hE
  have hR := K.2.2.2.2.2.2.2.1
  have hcat' : ((st.map (ph ρ)).map fun v => v.category).sum = (st.map fun v => v.category).sum := by rw [List.map_map]; congr 1; apply List.map_congr_left; intro v _; exact ph_cat _ v
  obtain ⟨⟨l1, l2, l3, l4⟩, l5⟩ := lk
  refine v_backA (Post := Post) hl hlv hok hS hE rfl (va_runI (b := ρ a) (As := As.map (ph ρ)) (n := na) ⟨K.1, K.2.1, K.2.2.1, K.2.2.2.1, K.2.2.2.2.1⟩ (hc (kD κ) (kC κ) (kA κ) ρ) (cwI na K.2.2.2.2.1 (lt_good (fun w hw => ?_)) rfl rfl rfl (K.2.2.2.2.1 _ l2) (K.2.2.2.2.1 _ l1) (K.2.2.2.2.1 _ l5) hy l4 (by rw [hR]; exact hroom)) ⟨Wd.blind, fun U hU hW => ⟨rfl, Wd.pre K hP hD hS hE hU hW⟩⟩ rfl (by rw [List.length_map]; exact hn) hl.1 ph_ref (lv_room (by rw [hcat']; exact hcat)) d (by rw [hR]; exact hroom2)) kk
  rcases List.mem_cons.mp hw with rfl | hw
  · exact l3
  · exact hw
theorem v_callIN (K : KOK κ own nm cc nL R ret) {b n' a idx na fr lo mL mc ms : Nat} {y : MethodName} {bb : ByteArray} {As : List Value} {Post : Mm → Prop} (hc : ConA (kl κ) y bb mL fr lo mc ms n b n' g h (.ref a :: As) Post) (lk : (own, idx, y) ∈ NWm ∧ Cond.initialized y.cls ∈ LT ∧ Cond.code y bb mL none ∈ LT ∧ Cond.instanceMethod y ∈ LT) (hd : y.cls ≠ "java/lang/invoke/MethodHandle" ∧ y.cls ≠ "java/lang/invoke/VarHandle" ∧ (parseMethodDescriptor y.desc).map (fun d => d.parameters.length) = some na) (hy : y.name = "<init>") (hn : As.length = na) (hroom : fr + 1 ≤ R.frames ∧ 8 + (mL + 11) + lo ≤ R.locals) (hroom2 : c + mc ≤ R.cells ∧ z + ms ≤ R.slots) (hcat : (st.map fun v => v.category).sum ≤ 8) (hlv : okL n lv = true) (hok : okS n st = true) (d : decode cc pc = .ok (.invokespecial idx, 3))
    (kk : ∀ ρ' g' h', AGR n ρ ρ' → (∀ a, (a < b ∨ n' ≤ a) → g' a = g a) → (∀ a, b ≤ a → a < n' → g' a = GL a) → WFR n' g' h' → Post h' → V κ Q nL (n', ρ', g', c + mc, z + ms) h' (pc + 3) lv st) {st0 : List Value} (hst : st0 = As.reverse ++ .ref a :: st) : V κ Q nL (n, ρ, g, c, z) h pc lv st0 := by
  subst hst
  intro H locs ls hl hP hD hS hE
  have hR := K.2.2.2.2.2.2.2.1
  have hcat' : ((st.map (ph ρ)).map fun v => v.category).sum = (st.map fun v => v.category).sum := by rw [List.map_map]; congr 1; apply List.map_congr_left; intro v _; exact ph_cat _ v
  obtain ⟨l1, l2, l3, l5⟩ := lk
  refine v_backA (Post := Post) hl hlv hok hS hE rfl (va_runIN (host := "FoxRounds") (b := ρ a) (As := As.map (ph ρ)) (n := na) ⟨K.1, K.2.1, K.2.2.1, K.2.2.2.1, K.2.2.2.2.1⟩ (hc (kD κ) (kC κ) (kA κ) ρ) ⟨va_cnB na K.2.2.2.2.1 (lt_good (fun w hw => ?_)) rfl rfl rfl (hE.2.1 _ l1) (K.2.2.2.2.1 _ l2) hd (by rw [hR]; exact hroom), hy, K.2.2.2.2.1 _ l5⟩ ⟨Wd.blind, fun U hU hW => ⟨rfl, Wd.pre K hP hD hS hE hU hW⟩⟩ rfl (by rw [List.length_map]; exact hn) hl.1 ph_ref (lv_room (by rw [hcat']; exact hcat)) d (by rw [hR]; exact hroom2)) kk
  rcases List.mem_cons.mp hw with rfl | hw
  · exact l3
  · exact hw
/-- a call that makes nothing, behind something made -/
theorem v_callVc (K : KOK κ own nm cc nL R ret) {a ci nf idx na fr lo mL : Nat} {y : MethodName} {b : ByteArray} {rt : Option FieldType} {C : String} {T : u_T} {As : List Value} {Post : Option Value → Mm → Prop} (hc : Con (kl κ) y b mL rt fr lo n g h (.ref a :: As) Post) (lk : LKv own idx y b mL rt na) (ck : CK ci C T nf) (hC : y.cls = C) (hs : SH a = (1, ci, nf)) (ha : a < n) (hn : As.length = na) (hroom : fr + 1 ≤ R.frames ∧ 8 + (mL + 11) + lo ≤ R.locals) (hroom2 : c ≤ R.cells ∧ z ≤ R.slots) (hcat : (st.map fun v => v.category).sum ≤ 8) (d : decode cc pc = .ok (.invokevirtual idx, 3))
    (kk : ∀ r h', Post r h' → V κ Q nL (n, ρ, g, c, z) h' (pc + 3) lv (r.toList ++ st)) {st0 : List Value} (hst : st0 = As.reverse ++ .ref a :: st) : V κ Q nL (n, ρ, g, c, z) h pc lv st0 := by
  subst hst
  subst hC
  intro H locs ls hl hP hD hS hE
  have hR := K.2.2.2.2.2.2.2.1
  have hcat' : ((st.map (ph ρ)).map fun v => v.category).sum = (st.map fun v => v.category).sum := by rw [List.map_map]; congr 1; apply List.map_congr_left; intro v _; exact ph_cat _ v
  obtain ⟨⟨l1, l2, l3, l4⟩, l5, l6⟩ := lk
  have hwd : ∀ w ∈ ([Cond.methodLink own idx y, Cond.instanceMethod y, Cond.selects y.cls y y, Cond.initialized y.cls] ++ (Cond.code y b mL rt :: LT)), w ∈ LT := fun w hw => by
    rcases List.mem_append.mp hw with hw | hw
    · simp only [List.mem_cons, List.not_mem_nil, or_false] at hw
      rcases hw with rfl | rfl | rfl | rfl
      · exact l1
      · exact l5
      · exact l6
      · exact l2
    · rcases List.mem_cons.mp hw with rfl | hw
      · exact l3
      · exact hw
  have hr : va_Run (kp κ) (kl κ) (ke κ) (kR κ) (ks κ) (km κ) (ka κ) (kb κ) (kM κ) (kc κ) H locs c z 0 0 (F0 (km κ) pc ls ((As.reverse ++ .ref a :: st).map (ph ρ))) (st.map (ph ρ)) (QP (kD κ) (kC κ) (kA κ) (n, ρ, g, 0, 0) Post (Value.ref (ρ a) :: As.map (ph ρ)).toArray) (kA κ) := va_runV (C := y.cls) (b := ρ a) (As := As.map (ph ρ)) (n := na) ⟨K.1, K.2.1, K.2.2.1, K.2.2.2.1, K.2.2.2.2.1⟩ (hc (kD κ) (kC κ) (kA κ) ρ) (cwV na K.2.2.2.2.1 (lt_good (fun w hw => hwd w hw)) rfl rfl rfl ⟨rfl, l4⟩ (by rw [hR]; exact hroom)) ⟨Wd.blind, va_recv K.2.2.2.2.2.1 hP ck.1 (wl_obj ha hs), fun U hU hW => ⟨rfl, Wd.pre K hP hD hS hE hU hW⟩⟩ rfl (by rw [List.length_map]; exact hn) hl.1 ph_ref (lv_room (by rw [hcat']; exact hcat)) d (by rw [hR]; exact hroom2)
  intro T hT X
  obtain ⟨v, st₀, t, T', L, h0, X', hL, e1, e2, ⟨⟨r, h', hv, hp, hP', hK', hD', hE', hA'⟩, hz, hk⟩, step⟩ := hr T hT X
  cases hv
  rw [h0] at hz hk
  have hS' : va_S (kA κ) (ks κ).heap T'.heap (locs ++ L) := ⟨Nat.le_trans hS.1 (by rw [e1]; exact hz), fun q h1 h2 => by rw [e1, hk q (Nat.lt_of_lt_of_le h1 hS.1) h2]; exact hS.2.1 q h1 h2, fun q hq => by
      rcases List.mem_append.mp hq with hh | hh
      · exact hS.2.2 q hh
      · exact hL q hh⟩
  obtain ⟨t2, a1, b1⟩ := kk r h' hp T'.heap (locs ++ L) ls hl (by rw [e1]; exact hP') (wl_D hD) hS' hE T' rfl X'
  refine ⟨t2, step t2 ?_, b1⟩
  have : (r.map (ph ρ)).toList ++ st.map (ph ρ) = (r.toList ++ st).map (ph ρ) := by cases r <;> rfl
  show Steps _ _ _ (T'.setTop (F0 (km κ) (pc + 3) ls ((r.map (ph ρ)).toList ++ st.map (ph ρ)))) _
  rw [this]
  exact a1
end VCALLA
