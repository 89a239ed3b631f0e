/-! objects and rows of the world -/
theorem wl_obj {cA : Nat → ClassId} {ω : Wo} {h : Mm} {a ci N : Nat} (ha : a < ω.1) (hs : SH a = (1, ci, N)) : (wl cA ω h)[a]? = some (ω.2.1 a, .inr (ci, (List.range N).map (fun k => fvl ω.2.1 (FV ci k) (ω.2.2.1 a k) (h a k)))) := by
  rw [wl_get ha, hs]
  rfl
theorem wl_arr {cA : Nat → ClassId} {ω : Wo} {h : Mm} {a t N : Nat} (ha : a < ω.1) (hs : SH a = (2, t, N)) : (wl cA ω h)[a]? = some (ω.2.1 a, .inl (cA t, N, .inl (h a))) := by
  rw [wl_get ha, hs]
  rfl
theorem wl_ref {cA : Nat → ClassId} {ω : Wo} {h : Mm} {a t N : Nat} (ha : a < ω.1) (hs : SH a = (3, t, N)) : (wl cA ω h)[a]? = some (ω.2.1 a, .inl (cA t, N, .inr (.inr (.inr (.inr (fun i => (rfo (ω.2.2.1 a i)).map ω.2.1)))))) := by
  rw [wl_get ha, hs]
  rfl
theorem sh_len : ∀ a, (SH a).2.2 < 2 ^ 31 := by
  intro a
  by_cases h : a < 132
  · have key : ∀ a, a < 132 → (SH a).2.2 < 2 ^ 31 := by decide +kernel
    exact key a h
  · have e : SHL[a]? = none := by
      rw [List.getElem?_eq_none_iff]
      show 132 ≤ a
      omega
    unfold SH
    rw [List.getD_eq_getElem?_getD, e]
    decide
theorem rg_get {α : Type} {N k : Nat} (F : Nat → α) (hk : k < N) : ((List.range N).map F)[k]? = some (F k) := by
  rw [List.getElem?_map, List.getElem?_range hk]
  rfl
theorem rg_set {α : Type} {N k : Nat} (F G : Nat → α) {v : α} (hv : G k = v) (ho : ∀ j, j ≠ k → G j = F j) : ((List.range N).map F).set k v = (List.range N).map G := by
  apply List.ext_getElem?
  intro i
  rw [List.getElem?_set, List.getElem?_map, List.getElem?_map]
  by_cases e : k = i
  · subst e
    by_cases hl : k < N
    · simp [hl, hv]
    · simp [hl]
  · rw [if_neg e]
    cases hq : (List.range N)[i]? with
    | none => rfl
    | some j =>
      have hj : j = i := by
        obtain ⟨h1, h2⟩ := List.getElem?_eq_some_iff.mp hq
        simpa using h2.symm
      subst hj
      simp [ho j (fun q => e q.symm)]
/-- a class of ours -/
def CK (ci : Nat) (C : String) (T : u_T) (N : Nat) : Prop := CL[ci]? = some (C, T, N) ∧ (∀ w ∈ u_ws C T N, w ∈ LT) ∧ (∀ k, k < N → (T k).1 = C) ∧ (∃ ty : Nat → FieldType, ∀ k, k < N → parseFieldDescriptor (T k).2.2.1 = some (ty k)) ∧ (∀ a, a < N → ∀ b, b < N → a ≠ b → (T a).2.1 ≠ (T b).2.1)
/-- a field, by a class's entry -/
def FL (own : String) (idx ci k kd N : Nat) : Prop := ∃ (C : String) (T : u_T), CK ci C T N ∧ Cond.fieldLink own idx C (T k).2.1 (T k).2.2.1 ∈ LT ∧ k < N ∧ FV ci k = kd
/-- one that is written: not final, of that type -/
def FP (own : String) (idx ci k kd N : Nat) (fin : Bool) (ty : FieldType) : Prop := ∃ (C : String) (T : u_T), CK ci C T N ∧ Cond.fieldLink own idx C (T k).2.1 (T k).2.2.1 ∈ LT ∧ k < N ∧ FV ci k = kd ∧ (T k).2.2.2 = fin ∧ parseFieldDescriptor (T k).2.2.1 = some ty ∧ (fin = true → C = own)
section VM
variable {κ : KT} {own nm : String} {cc : ByteArray} {nL : Nat} {R : Room} {ret : Option FieldType} {Q : State → Prop} {ω : Wo} {h : Mm} {pc : Nat} {lv : List (Nat × Value)} {st : List Value}
theorem v_getv (K : KOK κ own nm cc nL R ret) {a ci N idx k kd : Nat} {v : Value} (f : FL own idx ci k kd N) (hs : SH a = (1, ci, N)) (ha : a < ω.1) (hv : fvl ω.2.1 kd (ω.2.2.1 a k) (h a k) = ph ω.2.1 v) (d : decode cc pc = .ok (.getfield idx, 3)) (kk : V κ Q nL ω h (pc + 3) lv (v :: st)) : V κ Q nL ω h pc lv (.ref a :: st) := by
  intro H locs ls hl hP hD hS hE
  obtain ⟨C, T, ⟨hc, hin, hC, -, -⟩, hlk, hk, hkd⟩ := f
  refine va_get (C := C) (T := T) (N := N) (ci := ci) (ref := C) K.1 K.2.1 K.2.2.2.2.1 hin K.2.2.2.1 K.2.2.2.2.2.1 hP a (wl_obj ha hs) hc k hk (K.2.2.2.2.1 _ hlk) (fun x hx => by rw [← hC k hk]; rw [hC k hk] at hx ⊢; exact hx) (v := ph ω.2.1 v) ?_ d (kk H locs ls hl hP hD hS hE)
  rw [rg_get _ hk, hkd, hv]
theorem v_geti (K : KOK κ own nm cc nL R ret) {a ci N idx k : Nat} {x : Int32} (f : FL own idx ci k 0 N) (hs : SH a = (1, ci, N)) (ha : a < ω.1) (hv : h a k = x) (d : decode cc pc = .ok (.getfield idx, 3)) (kk : V κ Q nL ω h (pc + 3) lv (.int x :: st)) : V κ Q nL ω h pc lv (.ref a :: st) :=
  v_getv K f hs ha (by rw [← hv]; rfl) d kk
theorem v_getr (K : KOK κ own nm cc nL R ret) {a ci N idx k q : Nat} (f : FL own idx ci k 1 N) (hs : SH a = (1, ci, N)) (ha : a < ω.1) (hv : ω.2.2.1 a k = q + 1) (d : decode cc pc = .ok (.getfield idx, 3)) (kk : V κ Q nL ω h (pc + 3) lv (.ref q :: st)) : V κ Q nL ω h pc lv (.ref a :: st) :=
  v_getv K (v := .ref q) f hs ha (by rw [hv]; rfl) d kk
theorem v_getd (K : KOK κ own nm cc nL R ret) {a ci N idx k q : Nat} (f : FL own idx ci k 2 N) (hs : SH a = (1, ci, N)) (ha : a < ω.1) (hv : h a k = nI (q + 1)) (hq : q < 2000) (d : decode cc pc = .ok (.getfield idx, 3)) (kk : V κ Q nL ω h (pc + 3) lv (.ref q :: st)) : V κ Q nL ω h pc lv (.ref a :: st) :=
  v_getv K (v := .ref q) f hs ha (by rw [hv]; show ph _ (rfw (nI (q + 1)).toNatClampNeg) = _; rw [nI_clamp (by omega)]; rfl) d kk
theorem v_putv (K : KOK κ own nm cc nL R ret) {a ci N idx k kd : Nat} {fin : Bool} {ty : FieldType} {v : Value} {x : Int32} (f : FP own idx ci k kd N fin ty) (hfi : fin = true → nm = "<init>") (hs : SH a = (1, ci, N)) (ha : a < ω.1) (hn : narrow ty (ph ω.2.1 v) = ph ω.2.1 v) (hfit : fits ty (ph ω.2.1 v) = true) (hx : fvl ω.2.1 kd (ω.2.2.1 a k) x = ph ω.2.1 v) (d : decode cc pc = .ok (.putfield idx, 3)) (kk : V κ Q nL ω (u2 h a k x) (pc + 3) lv st) : V κ Q nL ω h pc lv (v :: .ref a :: st) := by
  intro H locs ls hl hP hD hS hE
  obtain ⟨C, T, ⟨hc, hin, hC, ⟨ty0, hty⟩, hnm⟩, hlk, hk, hkd, hfin, hd, hco⟩ := f
  have e : (wl (kC κ) ω h).set a (ω.2.1 a, .inr (ci, ((List.range N).map (fun k => fvl ω.2.1 (FV ci k) (ω.2.2.1 a k) (h a k))).set k (ph ω.2.1 v))) = wl (kC κ) ω (u2 h a k x) := by
    refine wl_set (fun y hy => u2_off hy) ?_
    rw [hs]
    show Sum.inr (ci, _) = Sum.inr (ci, _)
    rw [rg_set (G := fun j => fvl ω.2.1 (FV ci j) (ω.2.2.1 a j) (u2 h a k x a j)) _ (by rw [hkd, u2_at]; exact hx) (fun j hj => by rw [u2_ne (Or.inr hj)])]
  have hsame : ∀ x, (ks κ).fieldFound? (T k).1 (T k).2.1 (T k).2.2.1 = some x → (ks κ).fieldFound? C (T k).2.1 (T k).2.2.1 = some x := fun x hx => by rw [hC k hk] at hx; exact hx
  cases fin with
  | false =>
    refine va_put (C := C) (T := T) (N := N) (ci := ci) (ref := C) K.1 K.2.1 K.2.2.2.2.1 hin ty0 hty hnm K.2.2.2.1 K.2.2.2.2.2.1 hP hD hS a (wl_obj ha hs) hc k hk (K.2.2.2.2.1 _ hlk) hsame hfin hd (v := ph ω.2.1 v) hn hfit (by simpa using hk) d (fun H1 locs1 hP1 hD1 hS1 => ?_)
    rw [e] at hP1 hD1
    exact kk H1 locs1 ls hl hP1 hD1 hS1 hE
  | true =>
    refine va_putF (C := C) (T := T) (N := N) (ci := ci) (ref := C) K.1 K.2.1 K.2.2.2.2.1 hin ty0 hty hnm K.2.2.2.1 K.2.2.2.2.2.1 hP hD hS a (wl_obj ha hs) hc k hk (K.2.2.2.2.1 _ hlk) hsame hfin (by rw [← hfi rfl]; exact K.2.2.2.2.2.2.2.2.2.2) (by rw [hC k hk]; exact hco rfl) hd (v := ph ω.2.1 v) hn hfit (by simpa using hk) d (fun H1 locs1 hP1 hD1 hS1 => ?_)
    rw [e] at hP1 hD1
    exact kk H1 locs1 ls hl hP1 hD1 hS1 hE
theorem v_puti (K : KOK κ own nm cc nL R ret) {a ci N idx k : Nat} {x : Int32} (f : FP own idx ci k 0 N false .int) (hs : SH a = (1, ci, N)) (ha : a < ω.1) (d : decode cc pc = .ok (.putfield idx, 3)) (kk : V κ Q nL ω (u2 h a k x) (pc + 3) lv st) : V κ Q nL ω h pc lv (.int x :: .ref a :: st) :=
  v_putv K (v := .int x) f (fun q => by cases q) hs ha rfl rfl rfl d kk
theorem v_putz (K : KOK κ own nm cc nL R ret) {a ci N idx k : Nat} {x : Int32} (f : FP own idx ci k 0 N false .boolean) (hs : SH a = (1, ci, N)) (ha : a < ω.1) (hx : x = 0 ∨ x = 1) (d : decode cc pc = .ok (.putfield idx, 3)) (kk : V κ Q nL ω (u2 h a k x) (pc + 3) lv st) : V κ Q nL ω h pc lv (.int x :: .ref a :: st) :=
  v_putv K (v := .int x) f (fun q => by cases q) hs ha (by rcases hx with rfl | rfl <;> rfl) (by rcases hx with rfl | rfl <;> rfl) rfl d kk
theorem v_putd (K : KOK κ own nm cc nL R ret) {a ci N idx k q : Nat} {ty : FieldType} (f : FP own idx ci k 2 N false ty) (hty : (∃ c, ty = .object c) ∨ ∃ t, ty = .array t) (hs : SH a = (1, ci, N)) (ha : a < ω.1) (hq : q < 2000) (d : decode cc pc = .ok (.putfield idx, 3)) (kk : V κ Q nL ω (u2 h a k (nI (q + 1))) (pc + 3) lv st) : V κ Q nL ω h pc lv (.ref q :: .ref a :: st) :=
  v_putv K (v := .ref q) (x := nI (q + 1)) f (fun q => by cases q) hs ha (by rcases hty with ⟨c, rfl⟩ | ⟨t, rfl⟩ <;> rfl) (by rcases hty with ⟨c, rfl⟩ | ⟨t, rfl⟩ <;> rfl) (by show ph _ (rfw (nI (q + 1)).toNatClampNeg) = _; rw [nI_clamp (by omega)]; rfl) d kk
/-! rows -/
theorem v_iald (K : KOK κ own nm cc nL R ret) {a N k : Nat} {x : Int32} (hs : SH a = (2, 0, N)) (ha : a < ω.1) (hk : k < N) (hv : h a k = x) (d : decode cc pc = .ok (.iaload, 1)) (kk : V κ Q nL ω h (pc + 1) lv (.int x :: st)) : V κ Q nL ω h pc lv (.int (nI k) :: .ref a :: st) := by
  intro H locs ls hl hP hD hS hE
  have hN : N < 2 ^ 31 := by have := sh_len a; rw [hs] at this; exact this
  refine va_iald K.1 K.2.1 K.2.2.2.2.2.1 hP a 0 (wl_arr ha hs) rfl (vp_in_nI hk hN) d ?_
  rw [nI_clamp (Nat.lt_trans hk hN), hv]
  exact kk H locs ls hl hP hD hS hE
theorem v_bald (K : KOK κ own nm cc nL R ret) {a N k : Nat} {x : Int32} (hs : SH a = (2, 1, N)) (ha : a < ω.1) (hk : k < N) (hv : h a k = x) (d : decode cc pc = .ok (.baload, 1)) (kk : V κ Q nL ω h (pc + 1) lv (.int x :: st)) : V κ Q nL ω h pc lv (.int (nI k) :: .ref a :: st) := by
  intro H locs ls hl hP hD hS hE
  have hN : N < 2 ^ 31 := by have := sh_len a; rw [hs] at this; exact this
  refine va_bald K.1 K.2.1 K.2.2.2.2.2.1 hP a 1 (wl_arr ha hs) rfl (vp_in_nI hk hN) d ?_
  rw [nI_clamp (Nat.lt_trans hk hN), hv]
  exact kk H locs ls hl hP hD hS hE
theorem v_zald (K : KOK κ own nm cc nL R ret) {a N k : Nat} {x : Int32} (hs : SH a = (2, 2, N)) (ha : a < ω.1) (hk : k < N) (hv : h a k = x) (d : decode cc pc = .ok (.baload, 1)) (kk : V κ Q nL ω h (pc + 1) lv (.int x :: st)) : V κ Q nL ω h pc lv (.int (nI k) :: .ref a :: st) := by
  intro H locs ls hl hP hD hS hE
  have hN : N < 2 ^ 31 := by have := sh_len a; rw [hs] at this; exact this
  refine va_zald K.1 K.2.1 K.2.2.2.2.2.1 hP a 2 (wl_arr ha hs) rfl (vp_in_nI hk hN) d ?_
  rw [nI_clamp (Nat.lt_trans hk hN), hv]
  exact kk H locs ls hl hP hD hS hE
theorem wl_setA {cA : Nat → ClassId} {a t N k : Nat} {x : Int32} (hs : SH a = (2, t, N)) : (wl cA ω h).set a (ω.2.1 a, .inl (cA t, N, .inl (upd (h a) k x))) = wl cA ω (u2 h a k x) := by
  refine wl_set (fun y hy => u2_off hy) ?_
  rw [hs, u2_row]
  rfl
theorem v_iast (K : KOK κ own nm cc nL R ret) {a N k : Nat} {x : Int32} (hs : SH a = (2, 0, N)) (ha : a < ω.1) (hk : k < N) (d : decode cc pc = .ok (.iastore, 1)) (kk : V κ Q nL ω (u2 h a k x) (pc + 1) lv st) : V κ Q nL ω h pc lv (.int x :: .int (nI k) :: .ref a :: st) := by
  intro H locs ls hl hP hD hS hE
  have hN : N < 2 ^ 31 := by have := sh_len a; rw [hs] at this; exact this
  refine va_iast K.1 K.2.1 K.2.2.2.2.2.1 hP hD hS a 0 (wl_arr ha hs) rfl (vp_in_nI hk hN) d (fun H1 locs1 hP1 hD1 hS1 => ?_)
  rw [nI_clamp (Nat.lt_trans hk hN), wl_setA hs] at hP1 hD1
  exact kk H1 locs1 ls hl hP1 hD1 hS1 hE
theorem v_bast (K : KOK κ own nm cc nL R ret) {a N k : Nat} {x : Int32} (hs : SH a = (2, 1, N)) (ha : a < ω.1) (hk : k < N) (d : decode cc pc = .ok (.bastore, 1)) (kk : V κ Q nL ω (u2 h a k x.toInt8.toInt32) (pc + 1) lv st) : V κ Q nL ω h pc lv (.int x :: .int (nI k) :: .ref a :: st) := by
  intro H locs ls hl hP hD hS hE
  have hN : N < 2 ^ 31 := by have := sh_len a; rw [hs] at this; exact this
  refine va_bast K.1 K.2.1 K.2.2.2.2.2.1 hP hD hS a 1 (wl_arr ha hs) rfl (vp_in_nI hk hN) d (fun H1 locs1 hP1 hD1 hS1 => ?_)
  rw [nI_clamp (Nat.lt_trans hk hN), vp_nar_byte, wl_setA hs] at hP1 hD1
  exact kk H1 locs1 ls hl hP1 hD1 hS1 hE
theorem v_zast (K : KOK κ own nm cc nL R ret) {a N k : Nat} {x : Int32} (hs : SH a = (2, 2, N)) (ha : a < ω.1) (hk : k < N) (hx : x = 0 ∨ x = 1) (d : decode cc pc = .ok (.bastore, 1)) (kk : V κ Q nL ω (u2 h a k x) (pc + 1) lv st) : V κ Q nL ω h pc lv (.int x :: .int (nI k) :: .ref a :: st) := by
  intro H locs ls hl hP hD hS hE
  have hN : N < 2 ^ 31 := by have := sh_len a; rw [hs] at this; exact this
  refine va_zast K.1 K.2.1 K.2.2.2.2.2.1 hP hD hS a 2 (wl_arr ha hs) rfl (vp_in_nI hk hN) d (fun H1 locs1 hP1 hD1 hS1 => ?_)
  have hz : vp_nar .boolean x = x := by rcases hx with rfl | rfl <;> rfl
  rw [nI_clamp (Nat.lt_trans hk hN), hz, wl_setA hs] at hP1 hD1
  exact kk H1 locs1 ls hl hP1 hD1 hS1 hE
theorem v_aald (K : KOK κ own nm cc nL R ret) {a t N k q : Nat} (hs : SH a = (3, t, N)) (ht : t = 3 ∨ t = 4) (ha : a < ω.1) (hk : k < N) (hv : ω.2.2.1 a k = q + 1) (d : decode cc pc = .ok (.aaload, 1)) (kk : V κ Q nL ω h (pc + 1) lv (.ref q :: st)) : V κ Q nL ω h pc lv (.int (nI k) :: .ref a :: st) := by
  intro H locs ls hl hP hD hS hE
  have hN : N < 2 ^ 31 := by have := sh_len a; rw [hs] at this; exact this
  have hk2 : (nI k).toNatClampNeg = k := nI_clamp (Nat.lt_trans hk hN)
  have hcell := hP a _ (wl_ref ha hs)
  have go : ∀ (ty : FieldType), ty.isReference = true → (TY (kC κ))[t]? = some (kC κ t, ty) → W (kp κ) (kl κ) (ke κ) (kR κ) (ks κ) (km κ) (ka κ) (kb κ) (kM κ) (kc κ) H locs ω.2.2.2.1 ω.2.2.2.2 Q (F0 (km κ) pc ls (.int (nI k) :: .ref (ω.2.1 a) :: st.map (ph ω.2.1))) := by
    intro ty hty hT
    refine W.aald (v := .ref (ω.2.1 q)) (ty := ty) K.1 K.2.1 hcell ((K.2.2.2.2.2.1.2 t _ hT).1 N (fun j => va_rf ((rfo (ω.2.2.1 a j)).map ω.2.1))) hty (fun q => by cases q) (by show ¬ (_ < 0 ∨ (arrV _ _ _).slots.size ≤ _); rw [arrV_size]; exact vp_in_nI hk hN) ?_ rfl rfl d (kk H locs ls hl hP hD hS hE)
    show (arrV _ _ _).slots[_]? = _
    rw [hk2, arrV_read _ _ hk]
    show some (va_rf (Option.map ω.2.1 (rfo (ω.2.2.1 a k)))) = _
    rw [hv]
    rfl
  rcases ht with rfl | rfl
  · exact go (.array .int) rfl rfl
  · exact go (.object "FoxRounds$Sheet") rfl rfl
theorem v_alen (K : KOK κ own nm cc nL R ret) {a N t : Nat} (hs : SH a = (2, t, N)) (ht : t < 3) (ha : a < ω.1) (d : decode cc pc = .ok (.arraylength, 1)) (kk : V κ Q nL ω h (pc + 1) lv (.int (nI N) :: st)) : V κ Q nL ω h pc lv (.ref a :: st) := by
  intro H locs ls hl hP hD hS hE
  have go : ∀ (ty : FieldType), (TY (kC κ))[t]? = some (kC κ t, ty) → W (kp κ) (kl κ) (ke κ) (kR κ) (ks κ) (km κ) (ka κ) (kb κ) (kM κ) (kc κ) H locs ω.2.2.2.1 ω.2.2.2.2 Q (F0 (km κ) pc ls (.ref (ω.2.1 a) :: st.map (ph ω.2.1))) := fun ty hT => va_alen K.1 K.2.1 K.2.2.2.2.2.1 hP a t (wl_arr ha hs) hT rfl d (kk H locs ls hl hP hD hS hE)
  match t, ht with
  | 0, _ => exact go .int rfl
  | 1, _ => exact go .byte rfl
  | 2, _ => exact go .boolean rfl
/-! statics, constants -/
theorem v_gets (K : KOK κ own nm cc nL R ret) {idx j : Nat} (hj : j < 8) (hw : Cond.fieldLink own idx "FoxRounds" (stN j) "[I" ∈ LT) (d : decode cc pc = .ok (.getstatic idx, 3)) (kk : V κ Q nL ω h (pc + 3) lv (.ref (1000 + j) :: st)) : V κ Q nL ω h pc lv st :=
  fun H locs ls hl hP hD hS hE => va_gets K.1 K.2.1 (hE.1 j hj).1 hS K.2.2.2.1 (K.2.2.2.2.1 _ hw) (fun _ q => q) d (kk H locs ls hl hP hD hS hE)
theorem v_getsN (K : KOK κ own nm cc nL R ret) {idx j : Nat} (hj : j < 8) (hw : (own, idx, stN j) ∈ NWf) (d : decode cc pc = .ok (.getstatic idx, 3)) (kk : V κ Q nL ω h (pc + 3) lv (.ref (1000 + j) :: st)) : V κ Q nL ω h pc lv st :=
  fun H locs ls hl hP hD hS hE => va_getsN K.1 K.2.1 (hE.1 j hj).1 hS K.2.2.2.1 (va_Nw.use rfl (hE.2.2.1 _ hw)) (fun _ q => q) d (kk H locs ls hl hP hD hS hE)
theorem v_sald (K : KOK κ own nm cc nL R ret) {j k : Nat} {x : Int32} (hj : j < 8) (hk : k < stL j) (hv : stV j k = x) (d : decode cc pc = .ok (.iaload, 1)) (kk : V κ Q nL ω h (pc + 1) lv (.int x :: st)) : V κ Q nL ω h pc lv (.int (nI k) :: .ref (1000 + j) :: st) := by
  intro H locs ls hl hP hD hS hE
  have hb : ∀ j, j < 8 → stL j < 100 := by decide +kernel
  have h2 := hb j hj
  exact va_ti K.1 K.2.1 (hE.1 j hj).2 hS (vp_in_nI hk (by omega)) (v := .int x) (by rw [nI_clamp (by omega), hv]) d (kk H locs ls hl hP hD hS hE)
theorem v_slen (K : KOK κ own nm cc nL R ret) {j : Nat} (hj : j < 8) (d : decode cc pc = .ok (.arraylength, 1)) (kk : V κ Q nL ω h (pc + 1) lv (.int (nI (stL j)) :: st)) : V κ Q nL ω h pc lv (.ref (1000 + j) :: st) :=
  fun H locs ls hl hP hD hS hE => va_tlen K.1 K.2.1 (hE.1 j hj).2 hS rfl d (kk H locs ls hl hP hD hS hE)
theorem v_ldc (K : KOK κ own nm cc nL R ret) {idx : Nat} {x : Int32} (hw : Cond.constant own idx x ∈ LT) (d : decode cc pc = .ok (.ldc idx, 2)) (kk : V κ Q nL ω h (pc + 2) lv (.int x :: st)) : V κ Q nL ω h pc lv st :=
  fun H locs ls hl hP hD hS hE => lv_ldc K.1 K.2.1 K.2.2.2.1 (K.2.2.2.2.1 _ hw) d (kk H locs ls hl hP hD hS hE)
theorem v_ldcw (K : KOK κ own nm cc nL R ret) {idx : Nat} {x : Int32} (hw : Cond.constant own idx x ∈ LT) (d : decode cc pc = .ok (.ldc_w idx, 3)) (kk : V κ Q nL ω h (pc + 3) lv (.int x :: st)) : V κ Q nL ω h pc lv st :=
  fun H locs ls hl hP hD hS hE => lv_ldcw K.1 K.2.1 K.2.2.2.1 (K.2.2.2.2.1 _ hw) d (kk H locs ls hl hP hD hS hE)
theorem v_ldc2 (K : KOK κ own nm cc nL R ret) {idx : Nat} {x : Int64} (hw : Cond.constantLong own idx x ∈ LT) (d : decode cc pc = .ok (.ldc2_w idx, 3)) (kk : V κ Q nL ω h (pc + 3) lv (.long x :: st)) : V κ Q nL ω h pc lv st :=
  fun H locs ls hl hP hD hS hE => lv_ldc2 K.1 K.2.1 K.2.2.2.1 (K.2.2.2.2.1 _ hw) d (kk H locs ls hl hP hD hS hE)
theorem v_lcmp (K : KOK κ own nm cc nL R ret) {x y : Int64} (d : decode cc pc = .ok (.lcmp, 1)) (kk : V κ Q nL ω h (pc + 1) lv (.int (lg_cmp x y) :: st)) : V κ Q nL ω h pc lv (.long y :: .long x :: st) :=
  fun H locs ls hl hP hD hS hE => W.lcmp K.1 K.2.1 d (kk H locs ls hl hP hD hS hE)
/-! switches -/
theorem v_tout (K : KOK κ own nm cc nL R ret) {dflt lo hi : Int} {offs : Array Int} {len : Nat} {x : Int32} {tgt : Nat} (d : decode cc pc = .ok (.tableswitch dflt lo hi offs, len)) (hx : x.toInt < lo ∨ hi < x.toInt) (ht : (pc : Int) + dflt = (tgt : Int)) (kk : V κ Q nL ω h tgt lv st) : V κ Q nL ω h pc lv (.int x :: st) :=
  fun H locs ls hl hP hD hS hE => lv_tableOut K.1 K.2.1 d hx ht (kk H locs ls hl hP hD hS hE)
theorem v_tin (K : KOK κ own nm cc nL R ret) {dflt lo hi : Int} {offs : Array Int} {len : Nat} {x : Int32} {off : Int} {tgt : Nat} (i : Int) (d : decode cc pc = .ok (.tableswitch dflt lo hi offs, len)) (hx : x.toInt = i) (h1 : ¬ i < lo) (h2 : ¬ hi < i) (ho : offs[(i - lo).toNat]? = some off) (ht : (pc : Int) + off = (tgt : Int)) (kk : V κ Q nL ω h tgt lv st) : V κ Q nL ω h pc lv (.int x :: st) :=
  fun H locs ls hl hP hD hS hE => lv_tableIn K.1 K.2.1 d (by rw [hx]; exact h1) (by rw [hx]; exact h2) (by rw [hx]; exact ho) ht (kk H locs ls hl hP hD hS hE)
theorem v_look (K : KOK κ own nm cc nL R ret) {dflt : Int} {ps : Array (Int × Int)} {len : Nat} {x : Int32} {off : Int} {tgt : Nat} (d : decode cc pc = .ok (.lookupswitch dflt ps, len)) (hp : (ps.toList.zip (ps.toList.drop 1)).all (fun (a, next) => a.1 < next.1) = true) (ho : Op.lookupswitch.offset ps.toList dflt x.toInt = off) (ht : (pc : Int) + off = (tgt : Int)) (kk : V κ Q nL ω h tgt lv st) : V κ Q nL ω h pc lv (.int x :: st) :=
  fun H locs ls hl hP hD hS hE => lv_lookup K.1 K.2.1 d hp ho ht (kk H locs ls hl hP hD hS hE)
/-! Math, copies -/
theorem v_max (K : KOK κ own nm cc nL R ret) {idx : Nat} {x y : Int32} (w1 : Cond.methodLink own idx Lib.Math.max.name ∈ LT) (w2 : Cond.static Lib.Math.max.name ∈ LT) (w3 : Cond.initialized "java/lang/Math" ∈ LT) (w4 : Cond.code Lib.Math.max.name Lib.Math.max.code 2 (some .int) ∈ LT) (hr : 1 ≤ R.frames ∧ 21 ≤ R.locals ∧ ω.2.2.2.1 ≤ R.cells ∧ ω.2.2.2.2 ≤ R.slots) (hc : (st.map fun v => v.category).sum ≤ 8) (d : decode cc pc = .ok (.invokestatic idx, 3)) (kk : V κ Q nL ω h (pc + 3) lv (.int (if x < y then y else x) :: st)) : V κ Q nL ω h pc lv (.int y :: .int x :: st) := by
  intro H locs ls hl hP hD hS hE
  have hcat : ((st.map (ph ω.2.1)).map fun v => v.category).sum = (st.map fun v => v.category).sum := by rw [List.map_map]; congr 1; apply List.map_congr_left; intro v _; exact ph_cat _ v
  have hR := K.2.2.2.2.2.2.2.1
  exact va_mmax K.1 K.2.1 (K.2.2.1.trans hl.1.symm) K.2.2.2.1 (K.2.2.2.2.1 _ w1) (K.2.2.2.2.1 _ w2) (K.2.2.2.2.1 _ w3) (K.2.2.2.2.1 _ w4) (by rw [hR]; exact hr.1) (by rw [hR, hcat]; omega) (by rw [hR]; exact hr.2.2.1) (by rw [hR]; exact hr.2.2.2) d (kk H locs ls hl hP hD hS hE)
theorem v_min (K : KOK κ own nm cc nL R ret) {idx : Nat} {x y : Int32} (w1 : Cond.methodLink own idx Lib.Math.min.name ∈ LT) (w2 : Cond.static Lib.Math.min.name ∈ LT) (w3 : Cond.initialized "java/lang/Math" ∈ LT) (w4 : Cond.code Lib.Math.min.name Lib.Math.min.code 2 (some .int) ∈ LT) (hr : 1 ≤ R.frames ∧ 21 ≤ R.locals ∧ ω.2.2.2.1 ≤ R.cells ∧ ω.2.2.2.2 ≤ R.slots) (hc : (st.map fun v => v.category).sum ≤ 8) (d : decode cc pc = .ok (.invokestatic idx, 3)) (kk : V κ Q nL ω h (pc + 3) lv (.int (if y < x then y else x) :: st)) : V κ Q nL ω h pc lv (.int y :: .int x :: st) := by
  intro H locs ls hl hP hD hS hE
  have hcat : ((st.map (ph ω.2.1)).map fun v => v.category).sum = (st.map fun v => v.category).sum := by rw [List.map_map]; congr 1; apply List.map_congr_left; intro v _; exact ph_cat _ v
  have hR := K.2.2.2.2.2.2.2.1
  exact va_mmin K.1 K.2.1 (K.2.2.1.trans hl.1.symm) K.2.2.2.1 (K.2.2.2.2.1 _ w1) (K.2.2.2.2.1 _ w2) (K.2.2.2.2.1 _ w3) (K.2.2.2.2.1 _ w4) (by rw [hR]; exact hr.1) (by rw [hR, hcat]; omega) (by rw [hR]; exact hr.2.2.1) (by rw [hR]; exact hr.2.2.2) d (kk H locs ls hl hP hD hS hE)
theorem v_minL (K : KOK κ own nm cc nL R ret) {idx : Nat} {x y : Int64} (w1 : Cond.methodLink own idx Lib.MathLoose.min_long.x ∈ LT) (w2 : Cond.static Lib.MathLoose.min_long.x ∈ LT) (w3 : Cond.initialized "java/lang/Math" ∈ LT) (w4 : Cond.code Lib.MathLoose.min_long.x Lib.MathLoose.min_long.code 4 (some .long) ∈ LT) (hr : 1 ≤ R.frames ∧ 23 ≤ R.locals ∧ ω.2.2.2.1 ≤ R.cells ∧ ω.2.2.2.2 ≤ R.slots) (hc : (st.map fun v => v.category).sum ≤ 8) (d : decode cc pc = .ok (.invokestatic idx, 3)) (kk : V κ Q nL ω h (pc + 3) lv (.long (if y < x then y else x) :: st)) : V κ Q nL ω h pc lv (.long y :: .long x :: st) := by
  intro H locs ls hl hP hD hS hE
  have hcat : ((st.map (ph ω.2.1)).map fun v => v.category).sum = (st.map fun v => v.category).sum := by rw [List.map_map]; congr 1; apply List.map_congr_left; intro v _; exact ph_cat _ v
  have hR := K.2.2.2.2.2.2.2.1
  exact va_mmin_long K.1 K.2.1 (K.2.2.1.trans hl.1.symm) K.2.2.2.1 (K.2.2.2.2.1 _ w1) (K.2.2.2.2.1 _ w2) (K.2.2.2.2.1 _ w3) (K.2.2.2.2.1 _ w4) (by rw [hR]; exact hr.1) (by rw [hR, hcat]; omega) (by rw [hR]; exact hr.2.2.1) (by rw [hR]; exact hr.2.2.2) d (kk H locs ls hl hP hD hS hE)
theorem v_absL (K : KOK κ own nm cc nL R ret) {idx : Nat} {x : Int64} (w1 : Cond.methodLink own idx Lib.MathLoose.abs_long.x ∈ LT) (w2 : Cond.static Lib.MathLoose.abs_long.x ∈ LT) (w3 : Cond.initialized "java/lang/Math" ∈ LT) (w4 : Cond.code Lib.MathLoose.abs_long.x Lib.MathLoose.abs_long.code 2 (some .long) ∈ LT) (hr : 1 ≤ R.frames ∧ 21 ≤ R.locals ∧ ω.2.2.2.1 ≤ R.cells ∧ ω.2.2.2.2 ≤ R.slots) (hc : (st.map fun v => v.category).sum ≤ 8) (d : decode cc pc = .ok (.invokestatic idx, 3)) (kk : V κ Q nL ω h (pc + 3) lv (.long (if 0 < x then x else -x) :: st)) : V κ Q nL ω h pc lv (.long x :: st) := by
  intro H locs ls hl hP hD hS hE
  have hcat : ((st.map (ph ω.2.1)).map fun v => v.category).sum = (st.map fun v => v.category).sum := by rw [List.map_map]; congr 1; apply List.map_congr_left; intro v _; exact ph_cat _ v
  have hR := K.2.2.2.2.2.2.2.1
  exact va_mabs_long K.1 K.2.1 (K.2.2.1.trans hl.1.symm) K.2.2.2.1 (K.2.2.2.2.1 _ w1) (K.2.2.2.2.1 _ w2) (K.2.2.2.2.1 _ w3) (K.2.2.2.2.1 _ w4) (by rw [hR]; exact hr.1) (by rw [hR, hcat]; omega) (by rw [hR]; exact hr.2.2.1) (by rw [hR]; exact hr.2.2.2) d (kk H locs ls hl hP hD hS hE)
/-- a run of one row's numbers copied into another (or the same) -/
theorem v_copy (K : KOK κ own nm cc nL R ret) {idx a b t N M sp dp n : Nat} (w1 : Cond.methodLink own idx arraycopyName ∈ LT) (w2 : Cond.native arraycopyName ∈ LT) (w3 : Cond.static arraycopyName ∈ LT) (w4 : Cond.initialized "java/lang/System" ∈ LT) (hs : SH a = (2, t, N)) (hs2 : SH b = (2, t, M)) (ht : t = 0 ∨ (t = 1 ∧ ∀ i, i < n → fits .byte (.int (h a (sp + i))) = true)) (ha : a < ω.1) (hb : b < ω.1) (h1 : sp + n ≤ N) (h2 : dp + n ≤ M) (hr : 1 ≤ R.frames ∧ 8 + (nativeFrameWords "java/lang/System" "arraycopy" 5 + 11) ≤ R.locals) (hc : (st.map fun v => v.category).sum ≤ 8) (d : decode cc pc = .ok (.invokestatic idx, 3))
    (kk : V κ Q nL ω (rw2 h b (va_cpy (h a) (h b) sp dp n)) (pc + 3) lv st) : V κ Q nL ω h pc lv (.int (nI n) :: .int (nI dp) :: .ref b :: .int (nI sp) :: .ref a :: st) := by
  intro H locs ls hl hP hD hS hE
  have hN : N < 2 ^ 31 := by have := sh_len a; rw [hs] at this; exact this
  have hM : M < 2 ^ 31 := by have := sh_len b; rw [hs2] at this; exact this
  have hcat : ((st.map (ph ω.2.1)).map fun v => v.category).sum = (st.map fun v => v.category).sum := by rw [List.map_map]; congr 1; apply List.map_congr_left; intro v _; exact ph_cat _ v
  have hR := K.2.2.2.2.2.2.2.1
  have e : (wl (kC κ) ω h).set b (ω.2.1 b, .inl (kC κ t, M, .inl (va_cpy (h a) (h b) sp dp n))) = wl (kC κ) ω (rw2 h b (va_cpy (h a) (h b) sp dp n)) := by
    refine wl_set (fun y hy => rw2_off hy) ?_
    rw [hs2, rw2_at]
    rfl
  have go : ∀ ty : FieldType, (TY (kC κ))[t]? = some (kC κ t, ty) → refKind ty = false → (∀ i, i < n → fits ty (.int (h a (sp + i))) = true) → W (kp κ) (kl κ) (ke κ) (kR κ) (ks κ) (km κ) (ka κ) (kb κ) (kM κ) (kc κ) H locs ω.2.2.2.1 ω.2.2.2.2 Q (F0 (km κ) pc ls (.int (nI n) :: .int (nI dp) :: .ref (ω.2.1 b) :: .int (nI sp) :: .ref (ω.2.1 a) :: st.map (ph ω.2.1))) := by
    intro ty hT hrk hfit
    have c1 : (nI sp).toNatClampNeg = sp := nI_clamp (by omega)
    have c2 : (nI dp).toNatClampNeg = dp := nI_clamp (by omega)
    have c3 : (nI n).toNatClampNeg = n := nI_clamp (by omega)
    refine va_copyi K.1 K.2.1 (K.2.2.1.trans hl.1.symm) K.2.2.2.1 (K.2.2.2.2.1 _ w1) (K.2.2.2.2.1 _ w2) (K.2.2.2.2.1 _ w3) (K.2.2.2.2.1 _ w4) K.2.2.2.2.2.1 hP hD hS a b t t (wl_arr ha hs) (wl_arr hb hs2) hT hT hrk (nI_pos (by omega)) (nI_pos (by omega)) (nI_pos (by omega)) (by rw [c1, c3]; exact h1) (by rw [c2, c3]; exact h2) (by rw [c1, c3]; exact hfit) (by rw [hR]; exact hr.1) (by rw [hR, hcat]; omega) d (fun H1 locs1 hP1 hD1 hS1 => ?_)
    rw [c1, c2, c3, e] at hP1 hD1
    exact kk H1 locs1 ls hl hP1 hD1 hS1 hE
  rcases ht with rfl | ⟨rfl, hf⟩
  · exact go .int rfl rfl (fun _ _ => rfl)
  · exact go .byte rfl rfl hf
/-! ends -/
theorem q_end (K : KOK κ own nm cc nL R ret) {Post : Option Value → Mm → Prop} {r : Option Value} {H : Heap} {locs : List Loc} (hp : Post r h) (hP : va_P (kD κ) CL (wl (kC κ) ω h) H) (hD : va_D (kA κ) (wl (kC κ) ω h)) (hS : va_S (kA κ) (ks κ).heap H locs) (hE : EX ω.2.1 (kA κ) (ks κ) (ks κ).heap) : ∀ t : State, t.heap = H → (ks κ).WarmedH t.vm → QP (kD κ) (kC κ) (kA κ) ω Post (ka κ) (ks κ) (.returned (r.map (ph ω.2.1))) t := by
  intro t ht hW
  refine ⟨⟨r, h, rfl, hp, by rw [ht]; exact hP, va_K.moved hW.alike K.2.2.2.2.2.1, hD, ?_, fun q hq => K.2.2.2.2.2.2.1 q (by rw [ht] at hq; exact Nat.le_trans hS.1 hq)⟩, hS.F ht⟩
  rw [ht]
  exact (hE.kept hS.2.1).warm hW
theorem v_iret {n : Nat} {ρ : Nat → Nat} {g : Gm} (K : KOK κ own nm cc nL R (some .int)) {Post : Option Value → Mm → Prop} {x : Int32} (d : decode cc pc = .ok (.ireturn, 1)) (hp : Post (some (.int x)) h) : V κ (QM κ (n, ρ, g, 0, 0) Post) nL (n, ρ, g, 0, 0) h pc lv [.int x] :=
  fun _ _ _ _ hP hD hS hE => W.iret K.1 K.2.1 K.2.2.2.2.2.2.2.2.1 (q_end K (r := some (.int x)) hp hP hD hS hE) hS.2.2 d K.2.2.2.2.2.2.2.2.2.1
theorem v_zret {n : Nat} {ρ : Nat → Nat} {g : Gm} (K : KOK κ own nm cc nL R (some .boolean)) {Post : Option Value → Mm → Prop} {x : Int32} (d : decode cc pc = .ok (.ireturn, 1)) (hx : x = 0 ∨ x = 1) (hp : Post (some (.int x)) h) : V κ (QM κ (n, ρ, g, 0, 0) Post) nL (n, ρ, g, 0, 0) h pc lv [.int x] :=
  fun _ _ _ _ hP hD hS hE => W.zret K.1 K.2.1 K.2.2.2.2.2.2.2.2.1 (by rcases hx with rfl | rfl <;> rfl) (q_end K (r := some (.int x)) hp hP hD hS hE) hS.2.2 d K.2.2.2.2.2.2.2.2.2.1
theorem v_lret {n : Nat} {ρ : Nat → Nat} {g : Gm} (K : KOK κ own nm cc nL R (some .long)) {Post : Option Value → Mm → Prop} {x : Int64} (d : decode cc pc = .ok (.lreturn, 1)) (hp : Post (some (.long x)) h) : V κ (QM κ (n, ρ, g, 0, 0) Post) nL (n, ρ, g, 0, 0) h pc lv [.long x] :=
  fun _ _ _ _ hP hD hS hE => W.lret K.1 K.2.1 K.2.2.2.2.2.2.2.2.1 (q_end K (r := some (.long x)) hp hP hD hS hE) hS.2.2 d K.2.2.2.2.2.2.2.2.2.1
theorem v_vret {n : Nat} {ρ : Nat → Nat} {g : Gm} (K : KOK κ own nm cc nL R none) {Post : Option Value → Mm → Prop} (d : decode cc pc = .ok (.return_, 1)) (hp : Post none h) : V κ (QM κ (n, ρ, g, 0, 0) Post) nL (n, ρ, g, 0, 0) h pc lv [] :=
  fun _ _ _ _ hP hD hS hE => W.vret K.1 K.2.1 K.2.2.2.2.2.2.2.2.1 (q_end K (r := none) hp hP hD hS hE) hS.2.2 d K.2.2.2.2.2.2.2.2.2.1
theorem v_aret {n : Nat} {ρ : Nat → Nat} {g : Gm} {rt : FieldType} (K : KOK κ own nm cc nL R (some rt)) (hrt : (∃ c, rt = .object c) ∨ ∃ t, rt = .array t) {Post : Option Value → Mm → Prop} {a : Nat} (d : decode cc pc = .ok (.areturn, 1)) (hp : Post (some (.ref a)) h) : V κ (QM κ (n, ρ, g, 0, 0) Post) nL (n, ρ, g, 0, 0) h pc lv [.ref a] :=
  fun _ _ _ _ hP hD hS hE => W.aret K.1 K.2.1 K.2.2.2.2.2.2.2.2.1 hrt (Or.inr ⟨_, rfl⟩) (q_end K (r := some (.ref a)) hp hP hD hS hE) hS.2.2 d K.2.2.2.2.2.2.2.2.2.1
/-! calls -/
def LK (own : String) (idx : Nat) (y : MethodName) (b : ByteArray) (mL : Nat) (r : Option FieldType) (na : Nat) : Prop :=
  Cond.methodLink own idx y ∈ LT ∧ Cond.initialized y.cls ∈ LT ∧ Cond.code y b mL r ∈ LT ∧ y.cls ≠ "java/lang/invoke/MethodHandle" ∧ y.cls ≠ "java/lang/invoke/VarHandle" ∧ (parseMethodDescriptor y.desc).map (fun d => d.parameters.length) = some na
def LKv (own : String) (idx : Nat) (y : MethodName) (b : ByteArray) (mL : Nat) (r : Option FieldType) (na : Nat) : Prop := LK own idx y b mL r na ∧ Cond.instanceMethod y ∈ LT ∧ Cond.selects y.cls y y ∈ LT
def LKs (own : String) (idx : Nat) (y : MethodName) (b : ByteArray) (mL : Nat) (r : Option FieldType) (na : Nat) : Prop := LK own idx y b mL r na ∧ Cond.static y ∈ LT
def LKn (own : String) (idx : Nat) (y : MethodName) (b : ByteArray) (mL : Nat) (r : Option FieldType) (na : Nat) : Prop := (own, idx, y) ∈ NWm ∧ Cond.initialized y.cls ∈ LT ∧ Cond.code y b mL r ∈ LT ∧ (y.cls ≠ "java/lang/invoke/MethodHandle" ∧ y.cls ≠ "java/lang/invoke/VarHandle" ∧ (parseMethodDescriptor y.desc).map (fun d => d.parameters.length) = some na) ∧ Cond.static y ∈ LT
theorem ph_ref {ρ : Nat → Nat} {As st : List Value} {a : Nat} : (As.reverse ++ .ref a :: st).map (ph ρ) = (As.map (ph ρ)).reverse ++ .ref (ρ a) :: st.map (ph ρ) := by
  rw [List.map_append, List.map_reverse]
  rfl
theorem ph_app {ρ : Nat → Nat} {As st : List Value} : (As.reverse ++ st).map (ph ρ) = (As.map (ph ρ)).reverse ++ st.map (ph ρ) := by
  rw [List.map_append, List.map_reverse]
/-- behind a call -/
theorem v_back {n : Nat} {ρ : Nat → Nat} {g : Gm} {Post : Option Value → Mm → Prop} {g0 : JFrame} {rest : List Value} {H : Heap} {locs : List Loc} {ls : Array Slot} {aa : Array Value} (hl : lv_has ls nL (plv ρ lv)) (hD : va_D (kA κ) (wl (kC κ) (n, ρ, g, 0, 0) h)) (hS : va_S (kA κ) (ks κ).heap H locs) (hE : EX ρ (kA κ) (ks κ) (ks κ).heap) (hg : g0 = F0 (km κ) pc ls rest)
    (hr : va_Run (kp κ) (kl κ) (ke κ) (kR κ) (ks κ) (km κ) (ka κ) (kb κ) (kM κ) (kc κ) H locs 0 0 0 0 g0 (st.map (ph ρ)) (QP (kD κ) (kC κ) (kA κ) (n, ρ, g, 0, 0) Post aa) (kA κ))
    (kk : ∀ r h', Post r h' → V κ Q nL (n, ρ, g, 0, 0) h' (pc + 3) lv (r.toList ++ st)) : W (kp κ) (kl κ) (ke κ) (kR κ) (ks κ) (km κ) (ka κ) (kb κ) (kM κ) (kc κ) H locs 0 0 Q g0 := by
  intro T hT X
  obtain ⟨v, st₀, t, T', L, h0, X', hL, e1, e2, ⟨⟨r, h', hv, hp, hP', hK', hD', hE', hA'⟩, hz, hk⟩, step⟩ := hr T hT X
  cases hv
  rw [h0] at hz hk
  have hS' : va_S (kA κ) (ks κ).heap T'.heap (locs ++ L) := ⟨Nat.le_trans hS.1 (by rw [e1]; exact hz), fun q h1 h2 => by rw [e1, hk q (Nat.lt_of_lt_of_le h1 hS.1) h2]; exact hS.2.1 q h1 h2, fun q hq => by
      rcases List.mem_append.mp hq with hh | hh
      · exact hS.2.2 q hh
      · exact hL q hh⟩
  have K1 := kk r h' hp T'.heap (locs ++ L) ls hl (by rw [e1]; exact hP') (wl_D hD) hS' hE
  obtain ⟨t2, a1, b1⟩ := K1 T' rfl X'
  refine ⟨t2, step t2 ?_, b1⟩
  subst hg
  have : (r.map (ph ρ)).toList ++ st.map (ph ρ) = (r.toList ++ st).map (ph ρ) := by cases r <;> rfl
  show Steps _ _ _ (T'.setTop (F0 (km κ) (pc + 3) ls ((r.map (ph ρ)).toList ++ st.map (ph ρ)))) _
  rw [this]
  exact a1
theorem Wd.blind {D : va_G} {cA : Nat → ClassId} {A : Nat → Prop} {n : Nat} {ρ : Nat → Nat} {g : Gm} {av : List Value} : FrameBlind (va_Pc av (fun U => Wd D cA A (n, ρ, g, 0, 0) h U)) := fun a U g0 mk q => ⟨q.1, q.2.1, va_K.moved (u := U) (U := U.calling g0 mk a) (Vm.Alike.refl U.vm) q.2.2.1, q.2.2.2.1, q.2.2.2.2.1.same rfl, q.2.2.2.2.2⟩
theorem Wd.pre {n : Nat} {ρ : Nat → Nat} {g : Gm} {H : Heap} {locs : List Loc} (K : KOK κ own nm cc nL R ret) (hP : va_P (kD κ) CL (wl (kC κ) (n, ρ, g, 0, 0) h) H) (hD : va_D (kA κ) (wl (kC κ) (n, ρ, g, 0, 0) h)) (hS : va_S (kA κ) (ks κ).heap H locs) (hE : EX ρ (kA κ) (ks κ) (ks κ).heap) {U : State} (hU : U.heap = H) (hW : (ks κ).WarmedH U.vm) : Wd (kD κ) (kC κ) (kA κ) (n, ρ, g, 0, 0) h U := by
  refine ⟨by rw [hU]; exact hP, va_K.moved hW.alike K.2.2.2.2.2.1, hD, ?_, fun q hq => K.2.2.2.2.2.2.1 q (by rw [hU] at hq; exact Nat.le_trans hS.1 hq)⟩
  rw [hU]
  exact (hE.kept hS.2.1).warm hW
theorem v_callV {n : Nat} {ρ : Nat → Nat} {g : Gm} (K : KOK κ own nm cc nL R ret) {a ci nf idx na fr lo mL : Nat} {y : MethodName} {b : ByteArray} {rt : Option FieldType} {C : String} {T : u_T} {As : List Value} {Post : Option Value → Mm → Prop} (hc : Con (kl κ) y b mL rt fr lo n g h (.ref a :: As) Post) (lk : LKv own idx y b mL rt na) (ck : CK ci C T nf) (hC : y.cls = C) (hs : SH a = (1, ci, nf)) (ha : a < n) (hn : As.length = na) (hroom : fr + 1 ≤ R.frames ∧ 8 + (mL + 11) + lo ≤ R.locals) (hcat : (st.map fun v => v.category).sum ≤ 8) (d : decode cc pc = .ok (.invokevirtual idx, 3))
    (kk : ∀ r h', Post r h' → V κ Q nL (n, ρ, g, 0, 0) h' (pc + 3) lv (r.toList ++ st)) {st0 : List Value} (hst : st0 = As.reverse ++ .ref a :: st) : V κ Q nL (n, ρ, g, 0, 0) h pc lv st0 := by
  subst hst
  subst hC
  intro H locs ls hl hP hD hS hE
  have hR := K.2.2.2.2.2.2.2.1
  have hcat' : ((st.map (ph ρ)).map fun v => v.category).sum = (st.map fun v => v.category).sum := by rw [List.map_map]; congr 1; apply List.map_congr_left; intro v _; exact ph_cat _ v
  obtain ⟨⟨l1, l2, l3, l4⟩, l5, l6⟩ := lk
  refine v_back (Post := Post) hl hD hS hE rfl (va_runV (C := y.cls) (b := ρ a) (As := As.map (ph ρ)) (n := na) ⟨K.1, K.2.1, K.2.2.1, K.2.2.2.1, K.2.2.2.2.1⟩ (hc (kD κ) (kC κ) (kA κ) ρ) (cwV na K.2.2.2.2.1 (lt_good (fun w hw => ?_)) rfl rfl rfl ⟨rfl, l4⟩ (by rw [hR]; exact hroom)) ⟨Wd.blind, ?_, fun U hU hW => ⟨rfl, Wd.pre K hP hD hS hE hU hW⟩⟩ rfl (by rw [List.length_map]; exact hn) hl.1 ph_ref (lv_room (by rw [hcat']; exact hcat)) d ⟨Nat.zero_le _, Nat.zero_le _⟩) kk
  · rcases List.mem_append.mp hw with hw | hw
    · simp only [List.mem_cons, List.not_mem_nil, or_false] at hw
      rcases hw with rfl | rfl | rfl | rfl
      · exact l1
      · exact l5
      · exact l6
      · exact l2
    · rcases List.mem_cons.mp hw with rfl | hw
      · exact l3
      · exact hw
  · exact va_recv K.2.2.2.2.2.1 hP ck.1 (wl_obj ha hs)
theorem v_callS {n : Nat} {ρ : Nat → Nat} {g : Gm} (K : KOK κ own nm cc nL R ret) {idx na fr lo mL : Nat} {y : MethodName} {b : ByteArray} {rt : Option FieldType} {As : List Value} {Post : Option Value → Mm → Prop} (hc : Con (kl κ) y b mL rt fr lo n g h As Post) (lk : LKs own idx y b mL rt na) (hn : As.length = na) (hroom : fr + 1 ≤ R.frames ∧ 8 + (mL + 11) + lo ≤ R.locals) (hcat : (st.map fun v => v.category).sum ≤ 8) (d : decode cc pc = .ok (.invokestatic idx, 3))
    (kk : ∀ r h', Post r h' → V κ Q nL (n, ρ, g, 0, 0) h' (pc + 3) lv (r.toList ++ st)) {st0 : List Value} (hst : st0 = As.reverse ++ st) : V κ Q nL (n, ρ, g, 0, 0) h pc lv st0 := by
  subst hst
  intro H locs ls hl hP hD hS hE
  have hR := K.2.2.2.2.2.2.2.1
  have hcat' : ((st.map (ph ρ)).map fun v => v.category).sum = (st.map fun v => v.category).sum := by rw [List.map_map]; congr 1; apply List.map_congr_left; intro v _; exact ph_cat _ v
  obtain ⟨⟨l1, l2, l3, l4⟩, l5⟩ := lk
  refine v_back (Post := Post) hl hD hS hE rfl (va_runS (As := As.map (ph ρ)) (n := na) ⟨K.1, K.2.1, K.2.2.1, K.2.2.2.1, K.2.2.2.2.1⟩ (hc (kD κ) (kC κ) (kA κ) ρ) (va_cwS na K.2.2.2.2.1 (lt_good (fun w hw => ?_)) rfl rfl rfl l4 (by rw [hR]; exact hroom)) ⟨Wd.blind, fun U hU hW => ⟨rfl, Wd.pre K hP hD hS hE hU hW⟩⟩ rfl (by rw [List.length_map]; exact hn) hl.1 ph_app (lv_room (by rw [hcat']; exact hcat)) d ⟨Nat.zero_le _, Nat.zero_le _⟩) kk
  · rcases List.mem_append.mp hw with hw | hw
    · simp only [List.mem_cons, List.not_mem_nil, or_false] at hw
      rcases hw with rfl | rfl | rfl
      · exact l1
      · exact l5
      · exact l2
    · rcases List.mem_cons.mp hw with rfl | hw
      · exact l3
      · exact hw
theorem v_callN {n : Nat} {ρ : Nat → Nat} {g : Gm} (K : KOK κ own nm cc nL R ret) {idx na fr lo mL : Nat} {y : MethodName} {b : ByteArray} {rt : Option FieldType} {As : List Value} {Post : Option Value → Mm → Prop} (hc : Con (kl κ) y b mL rt fr lo n g h As Post) (lk : LKn own idx y b mL rt na) (hn : As.length = na) (hroom : fr + 1 ≤ R.frames ∧ 8 + (mL + 11) + lo ≤ R.locals) (hcat : (st.map fun v => v.category).sum ≤ 8) (d : decode cc pc = .ok (.invokestatic idx, 3))
    (kk : ∀ r h', Post r h' → V κ Q nL (n, ρ, g, 0, 0) h' (pc + 3) lv (r.toList ++ st)) {st0 : List Value} (hst : st0 = As.reverse ++ st) : V κ Q nL (n, ρ, g, 0, 0) h pc lv st0 := by
  subst hst
  intro H locs ls hl hP hD hS hE
  have hR := K.2.2.2.2.2.2.2.1
  have hcat' : ((st.map (ph ρ)).map fun v => v.category).sum = (st.map fun v => v.category).sum := by rw [List.map_map]; congr 1; apply List.map_congr_left; intro v _; exact ph_cat _ v
  obtain ⟨l1, l2, l3, l4, l5⟩ := lk
  refine v_back (Post := Post) hl hD hS hE rfl (va_runSN (host := "FoxRounds") (As := As.map (ph ρ)) (n := na) ⟨K.1, K.2.1, K.2.2.1, K.2.2.2.1, K.2.2.2.2.1⟩ (hc (kD κ) (kC κ) (kA κ) ρ) ⟨va_cnB na K.2.2.2.2.1 (lt_good (fun w hw => ?_)) rfl rfl rfl (hE.2.1 _ l1) (K.2.2.2.2.1 _ l2) l4 (by rw [hR]; exact hroom), K.2.2.2.2.1 _ l5, trivial⟩ ⟨Wd.blind, fun U hU hW => ⟨rfl, Wd.pre K hP hD hS hE hU hW⟩⟩ rfl (by rw [List.length_map]; exact hn) hl.1 ph_app (lv_room (by rw [hcat']; exact hcat)) d ⟨Nat.zero_le _, Nat.zero_le _⟩) kk
  rcases List.mem_cons.mp hw with rfl | hw
  · exact l3
  · exact hw
end VM
