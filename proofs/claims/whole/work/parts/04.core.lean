/-! virtual worlds: a place a cell, a slot an int; ρ tells where the places lie -/
abbrev Mm : Type := Nat → Nat → Int32
def u2 (h : Mm) (a k : Nat) (v : Int32) : Mm := fun x y => if x = a ∧ y = k then v else h x y
theorem u2_at {h : Mm} {a k : Nat} {v : Int32} : u2 h a k v a k = v := if_pos ⟨rfl, rfl⟩
theorem u2_ne {h : Mm} {a k x y : Nat} {v : Int32} (H : x ≠ a ∨ y ≠ k) : u2 h a k v x y = h x y := if_neg (fun q => H.elim (fun z => z q.1) (fun z => z q.2))
theorem u2_row {h : Mm} {a k : Nat} {v : Int32} : u2 h a k v a = upd (h a) k v := by
  funext y
  by_cases e : y = k <;> simp [u2, upd, e]
theorem u2_off {h : Mm} {a k x : Nat} {v : Int32} (H : x ≠ a) : u2 h a k v x = h x := by
  funext y
  exact u2_ne (Or.inl H)
/-- a row replaced -/
def rw2 (h : Mm) (a : Nat) (f : Nat → Int32) : Mm := fun x => if x = a then f else h x
theorem rw2_at {h : Mm} {a : Nat} {f : Nat → Int32} : rw2 h a f a = f := if_pos rfl
theorem rw2_off {h : Mm} {a x : Nat} {f : Nat → Int32} (H : x ≠ a) : rw2 h a f x = h x := if_neg H
abbrev Gm : Type := Nat → Nat → Nat
abbrev Wo : Type := Nat × (Nat → Nat) × Gm × Nat × Nat
def rfo : Nat → Option Nat
  | 0 => none
  | c + 1 => some c
def rfw : Nat → Value
  | 0 => .null
  | c + 1 => .ref c
def ph (ρ : Nat → Nat) : Value → Value
  | .ref a => .ref (ρ a)
  | v => v
def fvl (ρ : Nat → Nat) (kd gk : Nat) (hk : Int32) : Value := match kd with
  | 0 => .int hk
  | 1 => ph ρ (rfw gk)
  | _ => ph ρ (rfw hk.toNatClampNeg)
def FVL : List (List Nat) := [[1, 1, 1, 0, 0, 1, 1, 1], [1, 0, 0, 1, 0, 1, 0, 0, 1], [1, 1, 1, 1], [1, 2, 0, 2, 0, 1, 0, 0, 0, 0], [0, 0, 1], [1, 0, 1], [1, 1, 1, 0, 1], [1, 0, 0, 0, 0], [1, 1, 1, 1, 0, 1, 0, 1, 0], [1, 1, 0, 1, 1, 1, 1, 1], [1, 1, 1, 0, 1, 0, 0, 0, 0, 0, 0, 1, 1, 1, 1, 1, 0, 0, 1, 1, 1, 1]]
def FV (c k : Nat) : Nat := (FVL.getD c []).getD k 0
def SHL : List (Nat × Nat × Nat) := [(1, 9, 8), (1, 8, 9), (1, 1, 9), (2, 0, 8), (3, 3, 8), (2, 0, 6), (2, 0, 6), (2, 0, 6), (2, 0, 6), (2, 0, 6), (2, 0, 6), (2, 0, 6), (2, 0, 6), (3, 3, 5), (2, 0, 3), (2, 0, 3), (2, 0, 3), (2, 0, 3), (2, 0, 3), (2, 0, 8), (1, 2, 4), (1, 5, 3), (2, 0, 50), (2, 0, 50), (1, 5, 3), (2, 0, 50), (2, 0, 50), (1, 5, 3), (2, 0, 50), (2, 0, 50), (2, 0, 5), (1, 6, 5), (2, 0, 6), (2, 0, 6), (2, 0, 6), (2, 0, 6), (2, 1, 50), (2, 0, 20), (2, 0, 12), (1, 8, 9), (1, 1, 9), (2, 0, 8), (3, 3, 8), (2, 0, 6), (2, 0, 6), (2, 0, 6), (2, 0, 6), (2, 0, 6), (2, 0, 6), (2, 0, 6), (2, 0, 6), (3, 3, 5), (2, 0, 3), (2, 0, 3), (2, 0, 3), (2, 0, 3), (2, 0, 3), (2, 0, 8), (1, 2, 4), (1, 5, 3), (2, 0, 50), (2, 0, 50), (1, 5, 3), (2, 0, 50), (2, 0, 50), (1, 5, 3), (2, 0, 50), (2, 0, 50), (2, 0, 5), (1, 6, 5), (2, 0, 6), (2, 0, 6), (2, 0, 6), (2, 0, 6), (2, 1, 50), (2, 0, 20), (2, 0, 12), (1, 0, 8), (1, 1, 9), (2, 0, 8), (3, 3, 8), (2, 0, 6), (2, 0, 6), (2, 0, 6), (2, 0, 6), (2, 0, 6), (2, 0, 6), (2, 0, 6), (2, 0, 6), (3, 3, 5), (2, 0, 3), (2, 0, 3), (2, 0, 3), (2, 0, 3), (2, 0, 3), (2, 0, 8), (2, 0, 4), (2, 0, 4), (2, 0, 4), (1, 3, 10), (1, 5, 3), (2, 0, 0), (2, 0, 50), (2, 0, 50), (2, 1, 0), (2, 0, 50), (1, 7, 5), (2, 0, 40), (3, 4, 4), (2, 0, 6), (1, 4, 3), (2, 0, 40), (1, 4, 3), (2, 0, 40), (1, 4, 3), (2, 0, 40), (1, 4, 3), (2, 0, 40), (1, 10, 22), (2, 0, 340), (2, 0, 340), (2, 0, 340), (2, 0, 6), (2, 0, 5), (2, 2, 8), (2, 0, 5), (2, 0, 4), (2, 0, 40), (2, 0, 4), (2, 0, 4), (2, 0, 160), (2, 0, 40)]
def SH (a : Nat) : Nat × Nat × Nat := SHL.getD a (0, 0, 0)
abbrev CL : List vw_C := [(RX0, TX0, 8), (RX1, TX1, 9), (RX2, TX2, 4), (RX3, TX3, 10), (RX4, TX4, 3), (RX5, TX5, 3), (RX6, TX6, 5), (RX7, TX7, 5), (RX8, TX8, 9), (RX9, TX9, 8), (RX10, TX10, 22)]
abbrev TY (cA : Nat → ClassId) : List (ClassId × FieldType) := [(cA 0, .int), (cA 1, .byte), (cA 2, .boolean), (cA 3, .array .int), (cA 4, .object "FoxRounds$Sheet")]
def TYL : List FieldType := [.int, .byte, .boolean, .array .int, .object "FoxRounds$Sheet"]
def cel (cA : Nat → ClassId) (ρ : Nat → Nat) (s : Nat × Nat × Nat) (gr : Nat → Nat) (hr : Nat → Int32) : va_E := match s.1 with
  | 1 => .inr (s.2.1, (List.range s.2.2).map (fun k => fvl ρ (FV s.2.1 k) (gr k) (hr k)))
  | 2 => .inl (cA s.2.1, s.2.2, .inl hr)
  | _ => .inl (cA s.2.1, s.2.2, .inr (.inr (.inr (.inr (fun i => (rfo (gr i)).map ρ)))))
def wl (cA : Nat → ClassId) (ω : Wo) (h : Mm) : va_W := (List.range ω.1).map (fun a => (ω.2.1 a, cel cA ω.2.1 (SH a) (ω.2.2.1 a) (h a)))
theorem wl_get {cA : Nat → ClassId} {ω : Wo} {h : Mm} {a : Nat} (ha : a < ω.1) : (wl cA ω h)[a]? = some (ω.2.1 a, cel cA ω.2.1 (SH a) (ω.2.2.1 a) (h a)) := by
  unfold wl
  rw [List.getElem?_map, List.getElem?_range ha]
  rfl
theorem wl_set {cA : Nat → ClassId} {ω : Wo} {h h' : Mm} {a : Nat} {e : va_E} (hx : ∀ x, x ≠ a → h' x = h x) (he : e = cel cA ω.2.1 (SH a) (ω.2.2.1 a) (h' a)) : (wl cA ω h).set a (ω.2.1 a, e) = wl cA ω h' := by
  subst he
  apply List.ext_getElem?
  intro i
  rw [List.getElem?_set]
  unfold wl
  by_cases e : a = i
  · subst e
    by_cases hl : a < ω.1
    · simp [hl]
    · simp [hl]
  · rw [if_neg e, List.getElem?_map, List.getElem?_map]
    cases hq : (List.range ω.1)[i]? with
    | none => rfl
    | some j =>
      have hj : j = i := by
        have := List.getElem?_eq_some_iff.mp hq
        obtain ⟨h1, h2⟩ := this
        simpa using h2.symm
      subst hj
      simp only [Option.map_some]
      rw [hx j (fun q => e q.symm)]
theorem wl_D {cA : Nat → ClassId} {ω : Wo} {h h' : Mm} {A : Nat → Prop} (H : va_D A (wl cA ω h)) : va_D A (wl cA ω h') := by
  have key : ∀ (k : Nat) (q : Nat × va_E), (wl cA ω h')[k]? = some q → ∃ q', (wl cA ω h)[k]? = some q' ∧ q'.1 = q.1 := by
    intro k q hq
    have hl : k < ω.1 := by
      have := (List.getElem?_eq_some_iff.mp hq).1
      simpa [wl] using this
    rw [wl_get hl] at hq
    cases hq
    exact ⟨_, wl_get hl, rfl⟩
  refine ⟨fun i j p q hi hj e => ?_, fun k q hk => ?_⟩
  · obtain ⟨p', h1, e1⟩ := key i p hi
    obtain ⟨q', h2, e2⟩ := key j q hj
    exact H.1 i j p' q' h1 h2 (by rw [e1, e2]; exact e)
  · obtain ⟨q', h1, e1⟩ := key k q hk
    rw [← e1]
    exact H.2 k q' h1
/-! what lies outside: static tables, texts, what the tables say of nest mates -/
def stN (j : Nat) : String := (["ABOVE", "LOWEST", "HIGHEST", "AT_FIRST", "FIRST_ENTERS", "FIRST_KILLS", "FIRST_STAYS", "FACTORIAL"] : List String).getD j ""
def stA (j : Nat) : List Int32 := ([[-1, 0, 0, 0, 2, 3, 1], [0, 1, 0, 0, 0, 60, 0, -120], [99, 4, 99, 99, 1, 900, 120, 240], [11, 1, 20, 0, 0, 480, 20, 30], [-1, -2, -43, 99, -62], [-2, 3, -42, -3, 50, -62, 3, -42, -43], [-1, -1, 30, -47, -45], [1, 1, 2, 6, 24]] : List (List Int32)).getD j []
def stL (j : Nat) : Nat := ([7, 8, 8, 8, 5, 9, 5, 5] : List Nat).getD j 0
def stV (j i : Nat) : Int32 := (stA j).getD i 0
def NWm : List (String × Nat × MethodName) := [("FoxRounds$World", 20, ⟨"FoxRounds$Laws", "<init>", "()V"⟩), ("FoxRounds$World", 27, ⟨"FoxRounds$Village", "<init>", "()V"⟩), ("FoxRounds", 42, ⟨"FoxRounds$Reader", "<init>", "()V"⟩), ("FoxRounds", 49, ⟨"FoxRounds$Voices", "<init>", "()V"⟩), ("FoxRounds", 64, ⟨"FoxRounds$Sheet", "<init>", "()V"⟩), ("FoxRounds$House", 51, ⟨"FoxRounds", "within", "(III)Z"⟩), ("FoxRounds$Laws", 47, ⟨"FoxRounds", "held", "(III)I"⟩), ("FoxRounds$House", 111, ⟨"FoxRounds", "held", "(III)I"⟩)]
def NWf : List (String × Nat × String) := [("FoxRounds$House", 42, "AT_FIRST"), ("FoxRounds$Laws", 11, "FIRST_ENTERS"), ("FoxRounds$Laws", 24, "FIRST_KILLS"), ("FoxRounds$Laws", 30, "FIRST_STAYS"), ("FoxRounds$Ahead", 87, "FACTORIAL")]
def txB : List (List Int32) := [[], [101, 98, 109, 119, 116], [104, 102, 103], [97, 116]]
def txL : List Nat := [0, 5, 3, 2]
def EX (ρ : Nat → Nat) (A : Nat → Prop) (U : State) (H : Heap) : Prop :=
  (∀ j, j < 8 → va_Z "FoxRounds" (stN j) "[I" (.ref (ρ (1000 + j))) A U H ∧ va_T .int (ρ (1000 + j)) (stL j) (fun i => .int (stV j i)) A U H) ∧
  (∀ q ∈ NWm, va_Nw (.methodLinkNest q.1 q.2.1 q.2.2 "FoxRounds") U) ∧ (∀ q ∈ NWf, va_Nw (.fieldLinkNest q.1 q.2.1 "FoxRounds" q.2.2 "[I" "FoxRounds") U) ∧
  (va_AO "FoxRounds$Sheet" U ∧ (Cond.arrayOver (.array .int)).before #[] U = true) ∧
  vk_S 4 txL txB (fun i => ρ (1020 + i)) (fun i => ρ (1030 + i)) A U H ∧
  (vk_R "FoxRounds$Reader" 28 "" (ρ 1020) U ∧ vk_R "FoxRounds" 335 "ebmwt" (ρ 1021) U ∧ vk_R "FoxRounds" 337 "hfg" (ρ 1022) U ∧ vk_R "FoxRounds" 339 "at" (ρ 1023) U) ∧
  va_Z "java/lang/String" "COMPACT_STRINGS" "Z" (.int 1) A U H
theorem ao_moved {ty : FieldType} {u U : State} (hvm : u.vm.Alike U.vm) (h : (Cond.arrayOver ty).before #[] u = true) : (Cond.arrayOver ty).before #[] U = true := by
  have h1 : (Cond.arrayOver ty).before #[] (u.setVm U.vm) = true := by rw [Cond.arrayOver_setVmC hvm]; exact h
  first | exact h1 | (simp only [Cond.before, Cond.holds, Cond.value, State.vm_setVm] at h1 ⊢; exact h1)
theorem EX.warm {ρ : Nat → Nat} {A : Nat → Prop} {s U : State} {H : Heap} (hW : s.WarmedH U.vm) (h : EX ρ A s H) : EX ρ A U H := by
  obtain ⟨h1, h2, h3, h4, h5, h6, h7⟩ := h
  have hA := hW.alike
  exact ⟨fun j hj => ⟨va_Z.moved hA (h1 j hj).1, va_T.moved hA (h1 j hj).2⟩, fun q hq => va_Nw.warmM hW (h2 q hq), fun q hq => va_Nw.warmF hW (h3 q hq), ⟨va_AO.moved hA h4.1, ao_moved hA h4.2⟩, vk_S.moved hA h5, ⟨h6.1.warm hW, h6.2.1.warm hW, h6.2.2.1.warm hW, h6.2.2.2.warm hW⟩, va_Z.moved hA h7⟩
theorem EX.kept {ρ : Nat → Nat} {A : Nat → Prop} {U : State} {H H1 : Heap} (h : EX ρ A U H) (hq : ∀ a : Nat, a < H.size → ¬ A a → H1[a]? = H[a]?) : EX ρ A U H1 := by
  obtain ⟨h1, h2, h3, h4, h5, h6, h7⟩ := h
  exact ⟨fun j hj => ⟨(h1 j hj).1.kept hq, (h1 j hj).2.kept hq⟩, h2, h3, h4, h5.kept hq, h6, h7.kept hq⟩
theorem EX.same {ρ : Nat → Nat} {A : Nat → Prop} {s U : State} {H : Heap} (hv : s.vm = U.vm) (h : EX ρ A s H) : EX ρ A U H := by
  obtain ⟨h1, h2, h3, h4, h5, h6, h7⟩ := h
  have hA : s.vm.Alike U.vm := by rw [hv]; exact Vm.Alike.refl _
  exact ⟨fun j hj => ⟨va_Z.moved hA (h1 j hj).1, va_T.moved hA (h1 j hj).2⟩, fun q hq => va_Nw.same rfl hv (h2 q hq), fun q hq => va_Nw.same rfl hv (h3 q hq), ⟨va_AO.moved hA h4.1, ao_moved hA h4.2⟩, vk_S.moved hA h5, ⟨h6.1.same hv.symm, h6.2.1.same hv.symm, h6.2.2.1.same hv.symm, h6.2.2.2.same hv.symm⟩, va_Z.moved hA h7⟩
/-! the tables' words that stay -/
def LT : List Cond := lw_tbl.filter goodWord
theorem lt_in {w : Cond} (h : w ∈ LT) : w ∈ lw_tbl := (List.mem_filter.mp h).1
theorem lt_good {ws : List Cond} (h : ∀ w ∈ ws, w ∈ LT) : GoodIn LT ws := fun w hw => ⟨h w hw, good_of_word (List.mem_filter.mp (h w hw)).2⟩
theorem lt_of (i : Nat) {w : Cond} (h : lw_tbl[i]? = some w) (hg : goodWord w = true) : w ∈ LT := List.mem_filter.mpr ⟨List.mem_of_getElem? h, hg⟩
/-! the judgement -/
abbrev KT : Type := (Program × Launch × Env × Room × State) × (MethodId × Array Value × List Frame × Method × Code) × (va_G × (Nat → ClassId) × (Nat → Prop))
abbrev kp (κ : KT) : Program := κ.1.1
abbrev kl (κ : KT) : Launch := κ.1.2.1
abbrev ke (κ : KT) : Env := κ.1.2.2.1
abbrev kR (κ : KT) : Room := κ.1.2.2.2.1
abbrev ks (κ : KT) : State := κ.1.2.2.2.2
abbrev km (κ : KT) : MethodId := κ.2.1.1
abbrev ka (κ : KT) : Array Value := κ.2.1.2.1
abbrev kb (κ : KT) : List Frame := κ.2.1.2.2.1
abbrev kM (κ : KT) : Method := κ.2.1.2.2.2.1
abbrev kc (κ : KT) : Code := κ.2.1.2.2.2.2
abbrev kD (κ : KT) : va_G := κ.2.2.1
abbrev kC (κ : KT) : Nat → ClassId := κ.2.2.2.1
abbrev kA (κ : KT) : Nat → Prop := κ.2.2.2.2
def plv (ρ : Nat → Nat) (lv : List (Nat × Value)) : List (Nat × Value) := lv.map (fun q => (q.1, ph ρ q.2))
def V (κ : KT) (Q : State → Prop) (nL : Nat) (ω : Wo) (h : Mm) (pc : Nat) (lv : List (Nat × Value)) (st : List Value) : Prop :=
  ∀ (H : Heap) (locs : List Loc) (ls : Array Slot), lv_has ls nL (plv ω.2.1 lv) → va_P (kD κ) CL (wl (kC κ) ω h) H → va_D (kA κ) (wl (kC κ) ω h) → va_S (kA κ) (ks κ).heap H locs → EX ω.2.1 (kA κ) (ks κ) (ks κ).heap →
    W (kp κ) (kl κ) (ke κ) (kR κ) (ks κ) (km κ) (ka κ) (kb κ) (kM κ) (kc κ) H locs ω.2.2.2.1 ω.2.2.2.2 Q (F0 (km κ) pc ls (st.map (ph ω.2.1)))
def KOK (κ : KT) (own nm : String) (cc : ByteArray) (nL : Nat) (R : Room) (ret : Option FieldType) : Prop :=
  (kp κ).tables.exec = Jvm.exec ∧ (kc κ).code = cc ∧ (kc κ).maxLocals = nL ∧ (ks κ).vm.findClass own = some (km κ).cls ∧ (∀ w ∈ LT, w.before (ka κ) (ks κ) = true) ∧ va_K (kD κ) CL (TY (kC κ)) (ks κ) ∧ (∀ q, (ks κ).heap.size ≤ q → kA κ q) ∧ kR κ = R ∧ (kM κ).sig.returnType = ret ∧ (kM κ).locks = false ∧ (kM κ).name = nm
def Wd (D : va_G) (cA : Nat → ClassId) (A : Nat → Prop) (ω : Wo) (h : Mm) (U : State) : Prop :=
  va_P D CL (wl cA ω h) U.heap ∧ va_K D CL (TY cA) U ∧ va_D A (wl cA ω h) ∧ EX ω.2.1 A U U.heap ∧ ∀ q, U.heap.size ≤ q → A q
def QP (D : va_G) (cA : Nat → ClassId) (A : Nat → Prop) (ω : Wo) (Post : Option Value → Mm → Prop) : Array Value → State → Outcome → State → Prop := fun _ st oc t =>
  (∃ (r : Option Value) (h' : Mm), oc = .returned (r.map (ph ω.2.1)) ∧ Post r h' ∧ Wd D cA A ω h' t) ∧ va_F A st t
/-- a contract of a method that makes nothing -/
def Con (l : Launch) (y : MethodName) (cc : ByteArray) (nL : Nat) (ret : Option FieldType) (fr lo : Nat) (n : Nat) (g : Gm) (h : Mm) (vs : List Value) (Post : Option Value → Mm → Prop) : Prop :=
  ∀ (D : va_G) (cA : Nat → ClassId) (A : Nat → Prop) (ρ : Nat → Nat), Met l y (.code y cc nL ret :: LT) ({ frames := fr, cells := 0, slots := 0, locals := lo }) (va_Pc (vs.map (ph ρ)) (fun U => Wd D cA A (n, ρ, g, 0, 0) h U)) (QP D cA A (n, ρ, g, 0, 0) Post) 0 0 A
def QM (κ : KT) (ω : Wo) (Post : Option Value → Mm → Prop) : State → Prop := MQ (kb κ) (QP (kD κ) (kC κ) (kA κ) ω Post) (ka κ) (ks κ) 0 0 (kA κ)
theorem ph_cat (ρ : Nat → Nat) (v : Value) : (ph ρ v).category = v.category := by cases v <;> rfl
theorem lv_args_ph (ρ : Nat → Nat) : ∀ (vs : List Value) (i : Nat), lv_args i (vs.map (ph ρ)) = plv ρ (lv_args i vs)
  | [], _ => rfl
  | v :: vs, i => by
    show (i, ph ρ v) :: lv_args (if (ph ρ v).category = 2 then i + 2 else i + 1) (vs.map (ph ρ)) = (i, ph ρ v) :: plv ρ (lv_args (if v.category = 2 then i + 2 else i + 1) vs)
    rw [ph_cat, lv_args_ph ρ vs]
def nsl : List Value → Nat
  | [] => 0
  | v :: vs => v.category + nsl vs
theorem nsl_ph (ρ : Nat → Nat) : ∀ vs : List Value, (lg_sl (vs.map (ph ρ))).length = (lg_sl vs).length
  | [] => rfl
  | v :: vs => by
    have ih := nsl_ph ρ vs
    simp only [lg_sl, List.map_cons, List.flatMap_cons, List.length_append] at ih ⊢
    rw [ih, ph_cat]
    by_cases h : v.category = 2 <;> simp [h]
theorem Con.ofV {l : Launch} {y : MethodName} {cc : ByteArray} {nL : Nat} {ret : Option FieldType} {fr lo n : Nat} {g : Gm} {h : Mm} {vs : List Value} {Post : Option Value → Mm → Prop} {own nm : String} (ho : y.cls = own) (hnm : y.name = nm) (hpl : plainName y.cls = true) (hlen : (lg_sl vs).length ≤ nL)
    (body : ∀ (κ : KT) (ρ : Nat → Nat), kl κ = l → KOK κ own nm cc nL ({ frames := fr, cells := 0, slots := 0, locals := lo }) ret → V κ (QM κ (n, ρ, g, 0, 0) Post) nL (n, ρ, g, 0, 0) h 0 (lv_args 0 vs) []) : Con l y cc nL ret fr lo n g h vs Post := by
  intro D cA A ρ
  refine Met.ofW (cc := cc) (maxL := nL) (ret := ret) hpl rfl ?_
  intro p e s m args below meth c s₁ B hml hv
  obtain ⟨hargs, hP, hK, hD, hE, hA⟩ := hv
  have hts := atoms_spec (ws := .code y cc nL ret :: LT) B.pre
  have hown : s.vm.findClass own = some m.cls := by rw [← ho]; exact findClass_of_methodNamed B.named
  have hin : meth.name = nm := by rw [← hnm]; exact (name_of_methodNamed B.named B.method).1
  have K := body ((p, l, e, { frames := fr, cells := 0, slots := 0, locals := lo }, s), (m, args, below, meth, c), (D, cA, A)) ρ rfl ⟨B.exec, B.bytes, hml, hown, fun w hw => hts w (List.mem_cons_of_mem _ hw), hK, hA, rfl, B.returns, B.notSynchronized, hin⟩
  have hl := lv_entry (vs.map (ph ρ)) (n := nL) (by rw [nsl_ph]; exact hlen)
  rw [lv_args_ph] at hl
  subst hargs
  rw [lg_entry_eq]
  exact K s.heap [] _ hl hP hD va_S.rf hE
section VL
variable {κ : KT} {own nm : String} {cc : ByteArray} {nL : Nat} {R : Room} {ret : Option FieldType} {Q : State → Prop} {ω : Wo} {h : Mm} {pc : Nat} {lv : List (Nat × Value)} {st : List Value}
def lkp : List (Nat × Value) → Nat → Option Value
  | [], _ => none
  | q :: l, i => if Nat.beq q.1 i then some q.2 else lkp l i
theorem lkp_mem {i : Nat} {v : Value} : ∀ {l : List (Nat × Value)}, lkp l i = some v → (i, v) ∈ l
  | q :: l, h => by
    unfold lkp at h
    by_cases e : Nat.beq q.1 i = true
    · rw [if_pos e] at h
      cases h
      have := Nat.eq_of_beq_eq_true e
      rw [← this]
      exact List.mem_cons_self
    · rw [if_neg e] at h
      exact List.mem_cons_of_mem _ (lkp_mem h)
theorem plv_at {ρ : Nat → Nat} {ls : Array Slot} {i : Nat} {v : Value} (hl : lv_has ls nL (plv ρ lv)) (hk : lkp lv i = some v) : ls[i]? = some (.val (ph ρ v)) :=
  hl.2.2 (i, ph ρ v) (List.mem_map.mpr ⟨(i, v), lkp_mem hk, rfl⟩)
/-- the locals behind a store -/
def lst (lv : List (Nat × Value)) (i : Nat) (v : Value) : List (Nat × Value) := (i, v) :: lv.filter (fun q => !(q.1 == i) && !(q.1 + 1 == i && q.2.category == 2))
def lst2 (lv : List (Nat × Value)) (i : Nat) (v : Value) : List (Nat × Value) := (i, v) :: lv.filter (fun q => !(q.1 == i) && (!(q.1 == i + 1) && !(q.1 + 1 == i && q.2.category == 2)))
theorem lst_ph {ρ : Nat → Nat} {i : Nat} {v : Value} : (i, ph ρ v) :: (plv ρ lv).filter (fun q => !(q.1 == i) && !(q.1 + 1 == i && q.2.category == 2)) = plv ρ (lst lv i v) := by
  unfold lst plv
  rw [List.map_cons, List.filter_map]
  congr 2
  apply List.filter_congr
  intro q _
  simp [Function.comp, ph_cat]
theorem lst2_ph {ρ : Nat → Nat} {i : Nat} {v : Value} : (i, ph ρ v) :: (plv ρ lv).filter (fun q => !(q.1 == i) && (!(q.1 == i + 1) && !(q.1 + 1 == i && q.2.category == 2))) = plv ρ (lst2 lv i v) := by
  unfold lst2 plv
  rw [List.map_cons, List.filter_map]
  congr 2
  apply List.filter_congr
  intro q _
  simp [Function.comp, ph_cat]
theorem v_sub {lv2 : List (Nat × Value)} (hl : ∀ q ∈ lv2, q ∈ lv) (k : V κ Q nL ω h pc lv2 st) : V κ Q nL ω h pc lv st := by
  intro H locs ls h1 hP hD hS hE
  refine k H locs ls ⟨h1.1, h1.2.1, fun q hq => ?_⟩ hP hD hS hE
  obtain ⟨q', hq', e⟩ := List.mem_map.mp hq
  exact h1.2.2 q (List.mem_map.mpr ⟨q', hl q' hq', e⟩)
theorem v_eq {h' : Mm} {st' : List Value} (e : h = h') (e2 : st = st') (k : V κ Q nL ω h' pc lv st') : V κ Q nL ω h pc lv st := by subst e; subst e2; exact k
theorem v_top {x y : Int32} (e : x = y) (k : V κ Q nL ω h pc lv (.int y :: st)) : V κ Q nL ω h pc lv (.int x :: st) := e ▸ k
theorem v_topL {x y : Int64} (e : x = y) (k : V κ Q nL ω h pc lv (.long y :: st)) : V κ Q nL ω h pc lv (.long x :: st) := e ▸ k
theorem v_nm {x : Int32} (k : ∀ y, y = x → V κ Q nL ω h pc lv (.int y :: st)) : V κ Q nL ω h pc lv (.int x :: st) := k x rfl
theorem v_mem (k : ∀ h', h' = h → V κ Q nL ω h' pc lv st) : V κ Q nL ω h pc lv st := k h rfl

theorem v_iadd (K : KOK κ own nm cc nL R ret) {x y : Int32} (d : decode cc pc = .ok (.iadd, 1))  (k : V κ Q nL ω h (pc + 1) lv (.int (x + y) :: st)) : V κ Q nL ω h pc lv (.int y :: .int x :: st) :=
  fun H locs ls hl hP hD hS hE => lv_iadd K.1 K.2.1 d  (k H locs ls hl hP hD hS hE)
theorem v_isub (K : KOK κ own nm cc nL R ret) {x y : Int32} (d : decode cc pc = .ok (.isub, 1))  (k : V κ Q nL ω h (pc + 1) lv (.int (x - y) :: st)) : V κ Q nL ω h pc lv (.int y :: .int x :: st) :=
  fun H locs ls hl hP hD hS hE => lv_isub K.1 K.2.1 d  (k H locs ls hl hP hD hS hE)
theorem v_imul (K : KOK κ own nm cc nL R ret) {x y : Int32} (d : decode cc pc = .ok (.imul, 1))  (k : V κ Q nL ω h (pc + 1) lv (.int (x * y) :: st)) : V κ Q nL ω h pc lv (.int y :: .int x :: st) :=
  fun H locs ls hl hP hD hS hE => lv_imul K.1 K.2.1 d  (k H locs ls hl hP hD hS hE)
theorem v_iand (K : KOK κ own nm cc nL R ret) {x y : Int32} (d : decode cc pc = .ok (.iand, 1))  (k : V κ Q nL ω h (pc + 1) lv (.int (x &&& y) :: st)) : V κ Q nL ω h pc lv (.int y :: .int x :: st) :=
  fun H locs ls hl hP hD hS hE => lv_iand K.1 K.2.1 d  (k H locs ls hl hP hD hS hE)
theorem v_ior (K : KOK κ own nm cc nL R ret) {x y : Int32} (d : decode cc pc = .ok (.ior, 1))  (k : V κ Q nL ω h (pc + 1) lv (.int (x ||| y) :: st)) : V κ Q nL ω h pc lv (.int y :: .int x :: st) :=
  fun H locs ls hl hP hD hS hE => lv_ior K.1 K.2.1 d  (k H locs ls hl hP hD hS hE)
theorem v_ixor (K : KOK κ own nm cc nL R ret) {x y : Int32} (d : decode cc pc = .ok (.ixor, 1))  (k : V κ Q nL ω h (pc + 1) lv (.int (x ^^^ y) :: st)) : V κ Q nL ω h pc lv (.int y :: .int x :: st) :=
  fun H locs ls hl hP hD hS hE => lv_ixor K.1 K.2.1 d  (k H locs ls hl hP hD hS hE)
theorem v_ishl (K : KOK κ own nm cc nL R ret) {x y : Int32} (d : decode cc pc = .ok (.ishl, 1))  (k : V κ Q nL ω h (pc + 1) lv (.int (x <<< (y &&& 31)) :: st)) : V κ Q nL ω h pc lv (.int y :: .int x :: st) :=
  fun H locs ls hl hP hD hS hE => lv_ishl K.1 K.2.1 d  (k H locs ls hl hP hD hS hE)
theorem v_ishr (K : KOK κ own nm cc nL R ret) {x y : Int32} (d : decode cc pc = .ok (.ishr, 1))  (k : V κ Q nL ω h (pc + 1) lv (.int (x >>> (y &&& 31)) :: st)) : V κ Q nL ω h pc lv (.int y :: .int x :: st) :=
  fun H locs ls hl hP hD hS hE => lv_ishr K.1 K.2.1 d  (k H locs ls hl hP hD hS hE)
theorem v_idiv (K : KOK κ own nm cc nL R ret) {x y : Int32} (d : decode cc pc = .ok (.idiv, 1)) (hne : ¬ y = 0) (k : V κ Q nL ω h (pc + 1) lv (.int (x / y) :: st)) : V κ Q nL ω h pc lv (.int y :: .int x :: st) :=
  fun H locs ls hl hP hD hS hE => lv_idiv K.1 K.2.1 d hne (k H locs ls hl hP hD hS hE)
theorem v_irem (K : KOK κ own nm cc nL R ret) {x y : Int32} (d : decode cc pc = .ok (.irem, 1)) (hne : ¬ y = 0) (k : V κ Q nL ω h (pc + 1) lv (.int (x - x / y * y) :: st)) : V κ Q nL ω h pc lv (.int y :: .int x :: st) :=
  fun H locs ls hl hP hD hS hE => lv_irem K.1 K.2.1 d hne (k H locs ls hl hP hD hS hE)
theorem v_ineg (K : KOK κ own nm cc nL R ret) {x : Int32} (d : decode cc pc = .ok (.ineg, 1))  (k : V κ Q nL ω h (pc + 1) lv (.int (-x) :: st)) : V κ Q nL ω h pc lv (.int x :: st) :=
  fun H locs ls hl hP hD hS hE => lv_ineg K.1 K.2.1 d  (k H locs ls hl hP hD hS hE)
theorem v_ladd (K : KOK κ own nm cc nL R ret) {x y : Int64} (d : decode cc pc = .ok (.ladd, 1))  (k : V κ Q nL ω h (pc + 1) lv (.long (x + y) :: st)) : V κ Q nL ω h pc lv (.long y :: .long x :: st) :=
  fun H locs ls hl hP hD hS hE => lv_ladd K.1 K.2.1 d  (k H locs ls hl hP hD hS hE)
theorem v_lsub (K : KOK κ own nm cc nL R ret) {x y : Int64} (d : decode cc pc = .ok (.lsub, 1))  (k : V κ Q nL ω h (pc + 1) lv (.long (x - y) :: st)) : V κ Q nL ω h pc lv (.long y :: .long x :: st) :=
  fun H locs ls hl hP hD hS hE => lv_lsub K.1 K.2.1 d  (k H locs ls hl hP hD hS hE)
theorem v_lmul (K : KOK κ own nm cc nL R ret) {x y : Int64} (d : decode cc pc = .ok (.lmul, 1))  (k : V κ Q nL ω h (pc + 1) lv (.long (x * y) :: st)) : V κ Q nL ω h pc lv (.long y :: .long x :: st) :=
  fun H locs ls hl hP hD hS hE => lv_lmul K.1 K.2.1 d  (k H locs ls hl hP hD hS hE)
theorem v_land (K : KOK κ own nm cc nL R ret) {x y : Int64} (d : decode cc pc = .ok (.land, 1))  (k : V κ Q nL ω h (pc + 1) lv (.long (x &&& y) :: st)) : V κ Q nL ω h pc lv (.long y :: .long x :: st) :=
  fun H locs ls hl hP hD hS hE => lv_land K.1 K.2.1 d  (k H locs ls hl hP hD hS hE)
theorem v_lor (K : KOK κ own nm cc nL R ret) {x y : Int64} (d : decode cc pc = .ok (.lor, 1))  (k : V κ Q nL ω h (pc + 1) lv (.long (x ||| y) :: st)) : V κ Q nL ω h pc lv (.long y :: .long x :: st) :=
  fun H locs ls hl hP hD hS hE => lv_lor K.1 K.2.1 d  (k H locs ls hl hP hD hS hE)
theorem v_ldiv (K : KOK κ own nm cc nL R ret) {x y : Int64} (d : decode cc pc = .ok (.ldiv, 1)) (hne : ¬ y = 0) (k : V κ Q nL ω h (pc + 1) lv (.long (x / y) :: st)) : V κ Q nL ω h pc lv (.long y :: .long x :: st) :=
  fun H locs ls hl hP hD hS hE => lv_ldiv K.1 K.2.1 d hne (k H locs ls hl hP hD hS hE)
theorem v_lrem (K : KOK κ own nm cc nL R ret) {x y : Int64} (d : decode cc pc = .ok (.lrem, 1)) (hne : ¬ y = 0) (k : V κ Q nL ω h (pc + 1) lv (.long (x - x / y * y) :: st)) : V κ Q nL ω h pc lv (.long y :: .long x :: st) :=
  fun H locs ls hl hP hD hS hE => lv_lrem K.1 K.2.1 d hne (k H locs ls hl hP hD hS hE)
theorem v_lneg (K : KOK κ own nm cc nL R ret) {x : Int64} (d : decode cc pc = .ok (.lneg, 1))  (k : V κ Q nL ω h (pc + 1) lv (.long (-x) :: st)) : V κ Q nL ω h pc lv (.long x :: st) :=
  fun H locs ls hl hP hD hS hE => lv_lneg K.1 K.2.1 d  (k H locs ls hl hP hD hS hE)
theorem v_i2l (K : KOK κ own nm cc nL R ret) {x : Int32} {v : Int64} (d : decode cc pc = .ok (.i2l, 1)) (hv : x.toInt64 = v) (k : V κ Q nL ω h (pc + 1) lv (.long v :: st)) : V κ Q nL ω h pc lv (.int x :: st) :=
  fun H locs ls hl hP hD hS hE => lv_i2l K.1 K.2.1 d hv (k H locs ls hl hP hD hS hE)
theorem v_l2i (K : KOK κ own nm cc nL R ret) {x : Int64} {v : Int32} (d : decode cc pc = .ok (.l2i, 1)) (hv : x.toInt32 = v) (k : V κ Q nL ω h (pc + 1) lv (.int v :: st)) : V κ Q nL ω h pc lv (.long x :: st) :=
  fun H locs ls hl hP hD hS hE => lv_l2i K.1 K.2.1 d hv (k H locs ls hl hP hD hS hE)
theorem v_i2b (K : KOK κ own nm cc nL R ret) {x : Int32} {v : Int32} (d : decode cc pc = .ok (.i2b, 1)) (hv : x.toInt8.toInt32 = v) (k : V κ Q nL ω h (pc + 1) lv (.int v :: st)) : V κ Q nL ω h pc lv (.int x :: st) :=
  fun H locs ls hl hP hD hS hE => lv_i2b K.1 K.2.1 d hv (k H locs ls hl hP hD hS hE)
theorem v_i2s (K : KOK κ own nm cc nL R ret) {x : Int32} {v : Int32} (d : decode cc pc = .ok (.i2s, 1)) (hv : x.toInt16.toInt32 = v) (k : V κ Q nL ω h (pc + 1) lv (.int v :: st)) : V κ Q nL ω h pc lv (.int x :: st) :=
  fun H locs ls hl hP hD hS hE => lv_i2s K.1 K.2.1 d hv (k H locs ls hl hP hD hS hE)
theorem v_i2c (K : KOK κ own nm cc nL R ret) {x : Int32} {v : Int32} (d : decode cc pc = .ok (.i2c, 1)) (hv : (x.toUInt32 % 65536).toInt32 = v) (k : V κ Q nL ω h (pc + 1) lv (.int v :: st)) : V κ Q nL ω h pc lv (.int x :: st) :=
  fun H locs ls hl hP hD hS hE => lv_i2c K.1 K.2.1 d hv (k H locs ls hl hP hD hS hE)
theorem v_iushr (K : KOK κ own nm cc nL R ret) {x y v : Int32} (d : decode cc pc = .ok (.iushr, 1)) (hv : (x.toUInt32 >>> (y.toUInt32 &&& Int32.toUInt32 31)).toInt32 = v) (k : V κ Q nL ω h (pc + 1) lv (.int v :: st)) : V κ Q nL ω h pc lv (.int y :: .int x :: st) :=
  fun H locs ls hl hP hD hS hE => lv_iushr K.1 K.2.1 d hv (k H locs ls hl hP hD hS hE)
theorem v_lushr (K : KOK κ own nm cc nL R ret) {x v : Int64} {y : Int32} (d : decode cc pc = .ok (.lushr, 1)) (hv : (x.toUInt64 >>> (y.toInt64.toUInt64 &&& Int64.toUInt64 63)).toInt64 = v) (k : V κ Q nL ω h (pc + 1) lv (.long v :: st)) : V κ Q nL ω h pc lv (.int y :: .long x :: st) :=
  fun H locs ls hl hP hD hS hE => lv_lushr K.1 K.2.1 d hv (k H locs ls hl hP hD hS hE)
theorem v_lshl (K : KOK κ own nm cc nL R ret) {x v : Int64} {y : Int32} (d : decode cc pc = .ok (.lshl, 1)) (hv : x <<< (y.toInt64 &&& 63) = v) (k : V κ Q nL ω h (pc + 1) lv (.long v :: st)) : V κ Q nL ω h pc lv (.int y :: .long x :: st) :=
  fun H locs ls hl hP hD hS hE => lv_lshl K.1 K.2.1 d hv (k H locs ls hl hP hD hS hE)
theorem v_lshr (K : KOK κ own nm cc nL R ret) {x v : Int64} {y : Int32} (d : decode cc pc = .ok (.lshr, 1)) (hv : x >>> (y.toInt64 &&& 63) = v) (k : V κ Q nL ω h (pc + 1) lv (.long v :: st)) : V κ Q nL ω h pc lv (.int y :: .long x :: st) :=
  fun H locs ls hl hP hD hS hE => lv_lshr K.1 K.2.1 d hv (k H locs ls hl hP hD hS hE)
theorem v_iconst (K : KOK κ own nm cc nL R ret) {z : Int} {v : Int32} (d : decode cc pc = .ok (.iconst z, 1)) (hv : Int32.ofInt z = v) (k : V κ Q nL ω h (pc + 1) lv (.int v :: st)) : V κ Q nL ω h pc lv (st) :=
  fun H locs ls hl hP hD hS hE => lv_iconst K.1 K.2.1 d hv (k H locs ls hl hP hD hS hE)
theorem v_bipush (K : KOK κ own nm cc nL R ret) {z : Int} {v : Int32} (d : decode cc pc = .ok (.bipush z, 2)) (hv : (Int8.ofInt z).toInt32 = v) (k : V κ Q nL ω h (pc + 2) lv (.int v :: st)) : V κ Q nL ω h pc lv (st) :=
  fun H locs ls hl hP hD hS hE => lv_bipush K.1 K.2.1 d hv (k H locs ls hl hP hD hS hE)
theorem v_sipush (K : KOK κ own nm cc nL R ret) {z : Int} {v : Int32} (d : decode cc pc = .ok (.sipush z, 3)) (hv : (Int16.ofInt z).toInt32 = v) (k : V κ Q nL ω h (pc + 3) lv (.int v :: st)) : V κ Q nL ω h pc lv (st) :=
  fun H locs ls hl hP hD hS hE => lv_sipush K.1 K.2.1 d hv (k H locs ls hl hP hD hS hE)
theorem v_lconst (K : KOK κ own nm cc nL R ret) {z : Fin 2} {v : Int64} (d : decode cc pc = .ok (.lconst z, 1)) (hv : Int64.ofNat (z : Nat) = v) (k : V κ Q nL ω h (pc + 1) lv (.long v :: st)) : V κ Q nL ω h pc lv (st) :=
  fun H locs ls hl hP hD hS hE => lv_lconst K.1 K.2.1 d hv (k H locs ls hl hP hD hS hE)
theorem v_iload_n (K : KOK κ own nm cc nL R ret) {i : Fin 4} {x : Int32} (d : decode cc pc = .ok (.iload_n i, 1)) (hk : lkp lv (i : Nat) = some (.int x)) (k : V κ Q nL ω h (pc + 1) lv (.int x :: st)) : V κ Q nL ω h pc lv (st) :=
  fun H locs ls hl hP hD hS hE => lv_iload_n K.1 K.2.1 d rfl (plv_at hl hk) (k H locs ls hl hP hD hS hE)
theorem v_iload (K : KOK κ own nm cc nL R ret) {i : Nat} {x : Int32} (d : decode cc pc = .ok (.iload i, 2)) (hk : lkp lv i = some (.int x)) (k : V κ Q nL ω h (pc + 2) lv (.int x :: st)) : V κ Q nL ω h pc lv (st) :=
  fun H locs ls hl hP hD hS hE => lv_iload K.1 K.2.1 d (plv_at hl hk) (k H locs ls hl hP hD hS hE)
theorem v_lload_n (K : KOK κ own nm cc nL R ret) {i : Fin 4} {x : Int64} (d : decode cc pc = .ok (.lload_n i, 1)) (hk : lkp lv (i : Nat) = some (.long x)) (k : V κ Q nL ω h (pc + 1) lv (.long x :: st)) : V κ Q nL ω h pc lv (st) :=
  fun H locs ls hl hP hD hS hE => lv_lload_n K.1 K.2.1 d rfl (plv_at hl hk) (k H locs ls hl hP hD hS hE)
theorem v_lload (K : KOK κ own nm cc nL R ret) {i : Nat} {x : Int64} (d : decode cc pc = .ok (.lload i, 2)) (hk : lkp lv i = some (.long x)) (k : V κ Q nL ω h (pc + 2) lv (.long x :: st)) : V κ Q nL ω h pc lv (st) :=
  fun H locs ls hl hP hD hS hE => lv_lload K.1 K.2.1 d (plv_at hl hk) (k H locs ls hl hP hD hS hE)
theorem v_aload_n (K : KOK κ own nm cc nL R ret) {i : Fin 4} {x : Nat} (d : decode cc pc = .ok (.aload_n i, 1)) (hk : lkp lv (i : Nat) = some (.ref x)) (k : V κ Q nL ω h (pc + 1) lv (.ref x :: st)) : V κ Q nL ω h pc lv (st) :=
  fun H locs ls hl hP hD hS hE => lv_aload_n K.1 K.2.1 d rfl (plv_at hl hk) (k H locs ls hl hP hD hS hE)
theorem v_aload (K : KOK κ own nm cc nL R ret) {i : Nat} {x : Nat} (d : decode cc pc = .ok (.aload i, 2)) (hk : lkp lv i = some (.ref x)) (k : V κ Q nL ω h (pc + 2) lv (.ref x :: st)) : V κ Q nL ω h pc lv (st) :=
  fun H locs ls hl hP hD hS hE => lv_aload K.1 K.2.1 d (plv_at hl hk) (k H locs ls hl hP hD hS hE)
theorem v_istore_n (K : KOK κ own nm cc nL R ret) {i : Fin 4} {x : Int32} {lv2 : List (Nat × Value)} (d : decode cc pc = .ok (.istore_n i, 1)) (hn : (i : Nat) < nL) (hq : lst lv (i : Nat) (.int x) = lv2) (k : V κ Q nL ω h (pc + 1) lv2 st) : V κ Q nL ω h pc lv (.int x :: st) :=
  fun H locs ls hl hP hD hS hE => lv_istore_n K.1 K.2.1 d rfl hl hn (lst_ph (v := .int x)) (fun ls2 h2 => k H locs ls2 (hq ▸ h2) hP hD hS hE)
theorem v_istore (K : KOK κ own nm cc nL R ret) {i : Nat} {x : Int32} {lv2 : List (Nat × Value)} (d : decode cc pc = .ok (.istore i, 2)) (hn : i < nL) (hq : lst lv i (.int x) = lv2) (k : V κ Q nL ω h (pc + 2) lv2 st) : V κ Q nL ω h pc lv (.int x :: st) :=
  fun H locs ls hl hP hD hS hE => lv_istore K.1 K.2.1 d hl hn (lst_ph (v := .int x)) (fun ls2 h2 => k H locs ls2 (hq ▸ h2) hP hD hS hE)
theorem v_lstore_n (K : KOK κ own nm cc nL R ret) {i : Fin 4} {x : Int64} {lv2 : List (Nat × Value)} (d : decode cc pc = .ok (.lstore_n i, 1)) (hn : (i : Nat) + 1 < nL) (hq : lst2 lv (i : Nat) (.long x) = lv2) (k : V κ Q nL ω h (pc + 1) lv2 st) : V κ Q nL ω h pc lv (.long x :: st) :=
  fun H locs ls hl hP hD hS hE => lv_lstore_n K.1 K.2.1 d rfl hl hn (lst2_ph (v := .long x)) (fun ls2 h2 => k H locs ls2 (hq ▸ h2) hP hD hS hE)
theorem v_lstore (K : KOK κ own nm cc nL R ret) {i : Nat} {x : Int64} {lv2 : List (Nat × Value)} (d : decode cc pc = .ok (.lstore i, 2)) (hn : i + 1 < nL) (hq : lst2 lv i (.long x) = lv2) (k : V κ Q nL ω h (pc + 2) lv2 st) : V κ Q nL ω h pc lv (.long x :: st) :=
  fun H locs ls hl hP hD hS hE => lv_lstore K.1 K.2.1 d hl hn (lst2_ph (v := .long x)) (fun ls2 h2 => k H locs ls2 (hq ▸ h2) hP hD hS hE)
theorem v_astore_n (K : KOK κ own nm cc nL R ret) {i : Fin 4} {x : Nat} {lv2 : List (Nat × Value)} (d : decode cc pc = .ok (.astore_n i, 1)) (hn : (i : Nat) < nL) (hq : lst lv (i : Nat) (.ref x) = lv2) (k : V κ Q nL ω h (pc + 1) lv2 st) : V κ Q nL ω h pc lv (.ref x :: st) :=
  fun H locs ls hl hP hD hS hE => lv_astore_n K.1 K.2.1 d rfl hl hn (lst_ph (v := .ref x)) (fun ls2 h2 => k H locs ls2 (hq ▸ h2) hP hD hS hE)
theorem v_astore (K : KOK κ own nm cc nL R ret) {i : Nat} {x : Nat} {lv2 : List (Nat × Value)} (d : decode cc pc = .ok (.astore i, 2)) (hn : i < nL) (hq : lst lv i (.ref x) = lv2) (k : V κ Q nL ω h (pc + 2) lv2 st) : V κ Q nL ω h pc lv (.ref x :: st) :=
  fun H locs ls hl hP hD hS hE => lv_astore K.1 K.2.1 d hl hn (lst_ph (v := .ref x)) (fun ls2 h2 => k H locs ls2 (hq ▸ h2) hP hD hS hE)
theorem v_iinc (K : KOK κ own nm cc nL R ret) {i : Nat} {z : Int} {x v : Int32} {lv2 : List (Nat × Value)} (d : decode cc pc = .ok (.iinc i z, 3)) (hk : lkp lv i = some (.int x)) (hv : x + Int32.ofInt z = v) (hn : i < nL) (hq : lst lv i (.int v) = lv2) (k : V κ Q nL ω h (pc + 3) lv2 st) : V κ Q nL ω h pc lv st := by
  intro H locs ls hl hP hD hS hE
  have hm := lkp_mem hk
  obtain ⟨j, hj⟩ := List.getElem?_of_mem hm
  have hj2 : (plv ω.2.1 lv)[j]? = some (i, .int x) := by unfold plv; rw [List.getElem?_map, hj]; rfl
  exact lv_iinc K.1 K.2.1 d hl hj2 hv hn (lst_ph (v := .int v)) (fun ls2 h2 => k H locs ls2 (hq ▸ h2) hP hD hS hE)
theorem v_icmp_eq (K : KOK κ own nm cc nL R ret) {x y : Int32} {z : Int} {tgt : Nat} (d : decode cc pc = .ok (.if_icmp .eq z, 3)) (ht : (pc : Int) + z = (tgt : Int)) (kt : x = y → V κ Q nL ω h tgt lv st) (kf : ¬ x = y → V κ Q nL ω h (pc + 3) lv st) : V κ Q nL ω h pc lv (.int y :: .int x :: st) :=
  fun H locs ls hl hP hD hS hE => lv_icmp_eq K.1 K.2.1 d ht (fun c => kt c H locs ls hl hP hD hS hE) (fun c => kf c H locs ls hl hP hD hS hE)
theorem v_if_eq (K : KOK κ own nm cc nL R ret) {x : Int32} {z : Int} {tgt : Nat} (d : decode cc pc = .ok (.ifCond .eq z, 3)) (ht : (pc : Int) + z = (tgt : Int)) (kt : x = 0 → V κ Q nL ω h tgt lv st) (kf : ¬ x = 0 → V κ Q nL ω h (pc + 3) lv st) : V κ Q nL ω h pc lv (.int x :: st) :=
  fun H locs ls hl hP hD hS hE => lv_if_eq K.1 K.2.1 d ht (fun c => kt c H locs ls hl hP hD hS hE) (fun c => kf c H locs ls hl hP hD hS hE)
theorem v_icmp_ne (K : KOK κ own nm cc nL R ret) {x y : Int32} {z : Int} {tgt : Nat} (d : decode cc pc = .ok (.if_icmp .ne z, 3)) (ht : (pc : Int) + z = (tgt : Int)) (kt : ¬ x = y → V κ Q nL ω h tgt lv st) (kf : x = y → V κ Q nL ω h (pc + 3) lv st) : V κ Q nL ω h pc lv (.int y :: .int x :: st) :=
  fun H locs ls hl hP hD hS hE => lv_icmp_ne K.1 K.2.1 d ht (fun c => kt c H locs ls hl hP hD hS hE) (fun c => kf c H locs ls hl hP hD hS hE)
theorem v_if_ne (K : KOK κ own nm cc nL R ret) {x : Int32} {z : Int} {tgt : Nat} (d : decode cc pc = .ok (.ifCond .ne z, 3)) (ht : (pc : Int) + z = (tgt : Int)) (kt : ¬ x = 0 → V κ Q nL ω h tgt lv st) (kf : x = 0 → V κ Q nL ω h (pc + 3) lv st) : V κ Q nL ω h pc lv (.int x :: st) :=
  fun H locs ls hl hP hD hS hE => lv_if_ne K.1 K.2.1 d ht (fun c => kt c H locs ls hl hP hD hS hE) (fun c => kf c H locs ls hl hP hD hS hE)
theorem v_icmp_lt (K : KOK κ own nm cc nL R ret) {x y : Int32} {z : Int} {tgt : Nat} (d : decode cc pc = .ok (.if_icmp .lt z, 3)) (ht : (pc : Int) + z = (tgt : Int)) (kt : x < y → V κ Q nL ω h tgt lv st) (kf : ¬ x < y → V κ Q nL ω h (pc + 3) lv st) : V κ Q nL ω h pc lv (.int y :: .int x :: st) :=
  fun H locs ls hl hP hD hS hE => lv_icmp_lt K.1 K.2.1 d ht (fun c => kt c H locs ls hl hP hD hS hE) (fun c => kf c H locs ls hl hP hD hS hE)
theorem v_if_lt (K : KOK κ own nm cc nL R ret) {x : Int32} {z : Int} {tgt : Nat} (d : decode cc pc = .ok (.ifCond .lt z, 3)) (ht : (pc : Int) + z = (tgt : Int)) (kt : x < 0 → V κ Q nL ω h tgt lv st) (kf : ¬ x < 0 → V κ Q nL ω h (pc + 3) lv st) : V κ Q nL ω h pc lv (.int x :: st) :=
  fun H locs ls hl hP hD hS hE => lv_if_lt K.1 K.2.1 d ht (fun c => kt c H locs ls hl hP hD hS hE) (fun c => kf c H locs ls hl hP hD hS hE)
theorem v_icmp_ge (K : KOK κ own nm cc nL R ret) {x y : Int32} {z : Int} {tgt : Nat} (d : decode cc pc = .ok (.if_icmp .ge z, 3)) (ht : (pc : Int) + z = (tgt : Int)) (kt : y ≤ x → V κ Q nL ω h tgt lv st) (kf : ¬ y ≤ x → V κ Q nL ω h (pc + 3) lv st) : V κ Q nL ω h pc lv (.int y :: .int x :: st) :=
  fun H locs ls hl hP hD hS hE => lv_icmp_ge K.1 K.2.1 d ht (fun c => kt c H locs ls hl hP hD hS hE) (fun c => kf c H locs ls hl hP hD hS hE)
theorem v_if_ge (K : KOK κ own nm cc nL R ret) {x : Int32} {z : Int} {tgt : Nat} (d : decode cc pc = .ok (.ifCond .ge z, 3)) (ht : (pc : Int) + z = (tgt : Int)) (kt : 0 ≤ x → V κ Q nL ω h tgt lv st) (kf : ¬ 0 ≤ x → V κ Q nL ω h (pc + 3) lv st) : V κ Q nL ω h pc lv (.int x :: st) :=
  fun H locs ls hl hP hD hS hE => lv_if_ge K.1 K.2.1 d ht (fun c => kt c H locs ls hl hP hD hS hE) (fun c => kf c H locs ls hl hP hD hS hE)
theorem v_icmp_gt (K : KOK κ own nm cc nL R ret) {x y : Int32} {z : Int} {tgt : Nat} (d : decode cc pc = .ok (.if_icmp .gt z, 3)) (ht : (pc : Int) + z = (tgt : Int)) (kt : y < x → V κ Q nL ω h tgt lv st) (kf : ¬ y < x → V κ Q nL ω h (pc + 3) lv st) : V κ Q nL ω h pc lv (.int y :: .int x :: st) :=
  fun H locs ls hl hP hD hS hE => lv_icmp_gt K.1 K.2.1 d ht (fun c => kt c H locs ls hl hP hD hS hE) (fun c => kf c H locs ls hl hP hD hS hE)
theorem v_if_gt (K : KOK κ own nm cc nL R ret) {x : Int32} {z : Int} {tgt : Nat} (d : decode cc pc = .ok (.ifCond .gt z, 3)) (ht : (pc : Int) + z = (tgt : Int)) (kt : 0 < x → V κ Q nL ω h tgt lv st) (kf : ¬ 0 < x → V κ Q nL ω h (pc + 3) lv st) : V κ Q nL ω h pc lv (.int x :: st) :=
  fun H locs ls hl hP hD hS hE => lv_if_gt K.1 K.2.1 d ht (fun c => kt c H locs ls hl hP hD hS hE) (fun c => kf c H locs ls hl hP hD hS hE)
theorem v_icmp_le (K : KOK κ own nm cc nL R ret) {x y : Int32} {z : Int} {tgt : Nat} (d : decode cc pc = .ok (.if_icmp .le z, 3)) (ht : (pc : Int) + z = (tgt : Int)) (kt : x ≤ y → V κ Q nL ω h tgt lv st) (kf : ¬ x ≤ y → V κ Q nL ω h (pc + 3) lv st) : V κ Q nL ω h pc lv (.int y :: .int x :: st) :=
  fun H locs ls hl hP hD hS hE => lv_icmp_le K.1 K.2.1 d ht (fun c => kt c H locs ls hl hP hD hS hE) (fun c => kf c H locs ls hl hP hD hS hE)
theorem v_if_le (K : KOK κ own nm cc nL R ret) {x : Int32} {z : Int} {tgt : Nat} (d : decode cc pc = .ok (.ifCond .le z, 3)) (ht : (pc : Int) + z = (tgt : Int)) (kt : x ≤ 0 → V κ Q nL ω h tgt lv st) (kf : ¬ x ≤ 0 → V κ Q nL ω h (pc + 3) lv st) : V κ Q nL ω h pc lv (.int x :: st) :=
  fun H locs ls hl hP hD hS hE => lv_if_le K.1 K.2.1 d ht (fun c => kt c H locs ls hl hP hD hS hE) (fun c => kf c H locs ls hl hP hD hS hE)
theorem v_goto (K : KOK κ own nm cc nL R ret) {z : Int} {tgt : Nat} (d : decode cc pc = .ok (.goto z, 3)) (ht : (pc : Int) + z = (tgt : Int)) (k : V κ Q nL ω h tgt lv st) : V κ Q nL ω h pc lv st :=
  fun H locs ls hl hP hD hS hE => lv_goto K.1 K.2.1 d ht (k H locs ls hl hP hD hS hE)
theorem v_dup (K : KOK κ own nm cc nL R ret) {v : Value} (d : decode cc pc = .ok (.dup, 1)) (hv : v.category = 1) (k : V κ Q nL ω h (pc + 1) lv (v :: v :: st)) : V κ Q nL ω h pc lv (v :: st) :=
  fun H locs ls hl hP hD hS hE => lv_dup K.1 K.2.1 d (by rw [ph_cat]; exact hv) (k H locs ls hl hP hD hS hE)
theorem v_pop (K : KOK κ own nm cc nL R ret) {v : Value} (d : decode cc pc = .ok (.pop, 1)) (hv : v.category = 1) (k : V κ Q nL ω h (pc + 1) lv st) : V κ Q nL ω h pc lv (v :: st) :=
  fun H locs ls hl hP hD hS hE => lv_pop K.1 K.2.1 d (by rw [ph_cat]; exact hv) (k H locs ls hl hP hD hS hE)
theorem v_dup2 (K : KOK κ own nm cc nL R ret) {v w : Value} (d : decode cc pc = .ok (.dup2, 1)) (hv : v.category = 1) (hw : w.category = 1) (k : V κ Q nL ω h (pc + 1) lv (v :: w :: v :: w :: st)) : V κ Q nL ω h pc lv (v :: w :: st) :=
  fun H locs ls hl hP hD hS hE => lv_dup2_11 K.1 K.2.1 d (by rw [ph_cat]; exact hv) (by rw [ph_cat]; exact hw) (k H locs ls hl hP hD hS hE)
end VL
