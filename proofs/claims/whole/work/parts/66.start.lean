/-! THE CLAIM OUT OF ONE WALK OF THE LAW'S BODY. Your part is whole_start (and what it stands on); all else here is the same for every law, but numbers. -/
def R_law : String := "FoxRoundsLaw"
def lw_P (b : Addr) (xs : List Int32) (args : Array Value) (s : State) : Prop := args = #[.ref b] ∧ s.IntsAt b xs ∧ xs.length ≤ 384 ∧ (Jvm.Cond.and given_1 narrow_1).before args s = true
def lw_Q (_ : Array Value) (s : State) (o : Outcome) (t : State) : Prop := o = .returned (some (.int 1)) ∧ Framed s o t [] 600000 7302250
def lw_Z (below : List Frame) (a : Array Value) (s : State) : State → Prop := fun t => ∃ o, t.status = .running ∧ Ended t below o ∧ lw_Q a s o t
/-- the law's own end, with 1 on the stack, nothing written that was there before, its room as the claim has it -/
theorem lw_ret {p : Program} {l : Launch} {e : Env} {s : State} {m : MethodId} {below : List Frame} {meth : Method} {c : Code} {b : Nat} (hx : p.tables.exec = Jvm.exec) (hb : c.code = code) (hr : meth.sig.returnType = ret) (hlocks : meth.locks = false) {pc : Nat} {H : Heap} {ls : Array Slot} (hdg : decode code pc = .ok (.ireturn, 1)) : W p l e room_1 s m #[Value.ref b] below meth c H [] 600000 7302250 (lw_Z below #[Value.ref b] s) (F0 m pc ls [.int 1]) := by
  intro T hT X
  obtain ⟨fs, hret, hrun, hended, hW, hframe⟩ := X.leave (v := some (.int 1)) (hlocks := hlocks) (fun h => by rw [hr] at h; cases h)
  have hmeth' : T.vm.method? m = some meth := X.method'
  refine ⟨T.setFrames fs, ?_, .returned (some (.int 1)), hrun, hended, rfl, ⟨_, rfl⟩, hW, hframe⟩
  jvm_step X.here [X.here.top, hx, hb, hdg, hmeth', hr, ret, narrow_b1]
  (try refine ⟨rfl, ?_⟩); (try refine ⟨rfl, ?_⟩)
  first | (intro acts; rw [hret _ acts rfl rfl rfl]) | rw [hret _ _ rfl rfl rfl]
  exact Steps.refl _
/-- what holds at the law's entry: the machine, the code, the tables' words (any of lw_tbl by 'hts w (by decide +kernel)'), the script of L ints xs at the cell b, what the Statement gives of the start (any of its parts by flat_of_before) -/
def lw_At (p : Program) (s : State) (m : MethodId) (meth : Method) (c : Code) (b L : Nat) (xs : Nat → Int32) : Prop :=
  p.tables.exec = Jvm.exec ∧ c.code = code ∧ meth.sig.returnType = ret ∧ c.maxLocals = 4 ∧ s.vm.findClass R_law = some m.cls ∧ (∀ w ∈ lw_tbl, w.before #[Value.ref b] s = true) ∧ va_X b L xs s s.heap ∧ b < s.heap.size ∧ meth.locks = false ∧ (Jvm.Cond.and given_1 narrow_1).before #[Value.ref b] s = true

set_option maxRecDepth 100000 in
theorem k_cls {s : State} {args : Array Value} (hts : ∀ w ∈ LT, w.before args s = true) : ∀ (k : Nat) (q : vw_C), CL[k]? = some q → ∃ (cC : ClassId) (iS : Nat → Nat), u_Kn s q.1 q.2.1 q.2.2 cC iS := by
  intro k q h
  match k, h with
  | 0, h => cases h; exact u_known hts ck_X0.2.1 (hts (.instantiable RX0 8) (lt_of 270 rfl rfl))
  | 1, h => cases h; exact u_known hts ck_X1.2.1 (hts (.instantiable RX1 9) (lt_of 103 rfl rfl))
  | 2, h => cases h; exact u_known hts ck_X2.2.1 (hts (.instantiable RX2 4) (lt_of 161 rfl rfl))
  | 3, h => cases h; exact u_known hts ck_X3.2.1 (hts (.instantiable RX3 10) (lt_of 306 rfl rfl))
  | 4, h => cases h; exact u_known hts ck_X4.2.1 (hts (.instantiable RX4 3) (lt_of 372 rfl rfl))
  | 5, h => cases h; exact u_known hts ck_X5.2.1 (hts (.instantiable RX5 3) (lt_of 167 rfl rfl))
  | 6, h => cases h; exact u_known hts ck_X6.2.1 (hts (.instantiable RX6 5) (lt_of 206 rfl rfl))
  | 7, h => cases h; exact u_known hts ck_X7.2.1 (hts (.instantiable RX7 5) (lt_of 347 rfl rfl))
  | 8, h => cases h; exact u_known hts ck_X8.2.1 (hts (.instantiable RX8 9) (lt_of 97 rfl rfl))
  | 9, h => cases h; exact u_known hts ck_X9.2.1 (hts (.instantiable RX9 8) (lt_of 89 rfl rfl))
  | 10, h => cases h; exact u_known hts ck_X10.2.1 (hts (.instantiable RX10 22) (lt_of 1041 rfl rfl))
  | n + 11, h => exact absurd h (by simp [CL])
theorem k_arr {s : State} {args : Array Value} {ty : FieldType} (h : (Cond.arrayClass ty).before args s = true) (hn : ∀ c, ty ≠ .object c) : ∃ cA, ArrOfT s cA ty ∧ va_RA s cA ty := by
  obtain ⟨c, k, comp, h1, h2, h3⟩ := Cond.arrayClass_spec h
  refine ⟨c, fun n z => ⟨fun k h => (by cases h), k, h2, comp, h3⟩, ?_⟩
  cases ty with
  | object C => exact absurd rfl (hn C)
  | _ => exact h1
theorem k_arrA {s : State} {args : Array Value} (h : (Cond.arrayOver (.array .int)).before args s = true) : ∃ cA, ArrOfT s cA (.array .int) ∧ va_RA s cA (.array .int) := by
  obtain ⟨comp, c, k, h1, h2, h3, h4⟩ := Cond.arrayOver_specA h
  exact ⟨c, fun n z => ⟨fun k h => (by cases h), k, h2, comp, h3⟩, h4⟩
theorem k_arrO {s : State} {args : Array Value} {C : String} (h : (Cond.arrayOver (.object C)).before args s = true) : ∃ cA, ArrOfT s cA (.object C) ∧ va_RA s cA (.object C) := by
  obtain ⟨comp, c, k, h1, -, h2, h3, h4⟩ := Cond.arrayOver_spec h
  exact ⟨c, fun n z => ⟨fun k h => (by cases h), k, h2, comp, h3⟩, ⟨k, comp, h2, h3, h1, h4⟩⟩
set_option maxRecDepth 100000 in
theorem wd_ao : Cond.arrayOver (.array .int) ∈ lw_tbl ∧ Cond.arrayOver (.object "FoxRounds$Sheet") ∈ lw_tbl := by decide +kernel
theorem k_start {s : State} {args : Array Value} (hts : ∀ w ∈ lw_tbl, w.before args s = true) : ∃ (D : va_G) (cA : Nat → ClassId), va_K D CL (TY cA) s := by
  have ht : ∀ w ∈ LT, w.before args s = true := fun w hw => hts w (lt_in hw)
  have h1 : ∀ k : Nat, ∃ p : ClassId × (Nat → Nat), ∀ q : vw_C, CL[k]? = some q → u_Kn s q.1 q.2.1 q.2.2 p.1 p.2 := by
    intro k
    cases e : CL[k]? with
    | none => exact ⟨(0, fun _ => 0), fun q h => by cases h⟩
    | some q0 =>
      obtain ⟨cC, iS, h⟩ := k_cls ht k q0 e
      exact ⟨(cC, iS), fun q hq => by cases hq; exact h⟩
  obtain ⟨f, hf⟩ := Classical.axiomOfChoice h1
  obtain ⟨c0, a0⟩ := k_arr (ht _ wa_int) (fun c h => by cases h)
  obtain ⟨c1, a1⟩ := k_arr (ht _ wa_byte) (fun c h => by cases h)
  obtain ⟨c2, a2⟩ := k_arr (ht _ wa_boolean) (fun c h => by cases h)
  obtain ⟨c3, a3⟩ := k_arrA (hts _ wd_ao.1)
  obtain ⟨c4, a4⟩ := k_arrO (hts _ wd_ao.2)
  refine ⟨(fun k => (f k).1, fun k => (f k).2), fun k => if k = 0 then c0 else if k = 1 then c1 else if k = 2 then c2 else if k = 3 then c3 else c4, fun k q h => hf k q h, fun k q h => ?_⟩
  match k, h with
  | 0, h => cases h; exact a0
  | 1, h => cases h; exact a1
  | 2, h => cases h; exact a2
  | 3, h => cases h; exact a3
  | 4, h => cases h; exact a4
  | n + 5, h => exact absurd h (by simp [TY])
def FLN : List Cond := flatC (Jvm.Cond.and given_1 narrow_1)
set_option maxRecDepth 100000 in
theorem fl_arr : ∀ j, j < 8 → Cond.arrayOf (.static "FoxRounds" (stN j) "[I") .int ∈ FLN := by decide +kernel
set_option maxRecDepth 100000 in
theorem fl_len : ∀ j, j < 8 → Cond.eq (.length (.static "FoxRounds" (stN j) "[I")) (.int (Int32.ofNat (stL j))) ∈ FLN := by decide +kernel
set_option maxRecDepth 100000 in
theorem fl_el : ∀ j, j < 8 → ∀ i, i < stL j → Cond.eq (.elem (.static "FoxRounds" (stN j) "[I") (.int (Int32.ofNat i))) (.int (stV j i)) ∈ FLN := by decide +kernel
set_option maxRecDepth 100000 in
theorem wd_lay : ∀ j, j < 8 → Cond.laysStatic "FoxRounds" (stN j) "[I" ∈ lw_tbl := by decide +kernel
set_option maxRecDepth 100000 in
theorem wd_ini : Cond.initialized "FoxRounds" ∈ lw_tbl ∧ Cond.initialized "java/lang/String" ∈ lw_tbl ∧ Cond.laysStatic "java/lang/String" "COMPACT_STRINGS" "Z" ∈ lw_tbl := by decide +kernel
set_option maxRecDepth 100000 in
theorem wd_nwm : ∀ q ∈ NWm, Cond.methodLinkNest q.1 q.2.1 q.2.2 "FoxRounds" ∈ lw_tbl := by decide +kernel
set_option maxRecDepth 100000 in
theorem wd_nwf : ∀ q ∈ NWf, Cond.fieldLinkNest q.1 q.2.1 "FoxRounds" q.2.2 "[I" "FoxRounds" ∈ lw_tbl := by decide +kernel
def stT (i : Nat) : Term := ([.string "FoxRounds$Reader" 28, .string "FoxRounds" 335, .string "FoxRounds" 337, .string "FoxRounds" 339] : List Term).getD i (.int 0)
set_option maxRecDepth 100000 in
theorem fl_s1 : ∀ i, i < 4 → Cond.exactly (stT i) "java/lang/String" ∈ FLN ∧ Cond.eq (.field (stT i) "java/lang/String" "coder" "B") (.int 0) ∈ FLN ∧ Cond.arrayOf (.field (stT i) "java/lang/String" "value" "[B") .byte ∈ FLN ∧ Cond.eq (.length (.field (stT i) "java/lang/String" "value" "[B")) (.int (Int32.ofNat (txL.getD i 0))) ∈ FLN := by decide +kernel
set_option maxRecDepth 100000 in
theorem fl_s2 : ∀ i, i < 4 → ∀ j, j < txL.getD i 0 → Cond.eq (.elem (.field (stT i) "java/lang/String" "value" "[B") (.int (Int32.ofNat j))) (.int ((txB.getD i []).getD j 0)) ∈ FLN := by decide +kernel
set_option maxRecDepth 100000 in
theorem fl_s3 : ∀ i, i < 4 → ∀ j, j < 4 → i ≠ j → Cond.not (Cond.eq (stT i) (stT j)) ∈ FLN ∨ Cond.not (Cond.eq (stT j) (stT i)) ∈ FLN := by decide +kernel
set_option maxRecDepth 100000 in
theorem fl_cs : Cond.eq (.static "java/lang/String" "COMPACT_STRINGS" "Z") (.int 1) ∈ FLN := by decide +kernel
set_option maxRecDepth 100000 in
theorem wd_str : Cond.stringRef "FoxRounds$Reader" 28 "" ∈ lw_tbl ∧ Cond.stringRef "FoxRounds" 335 "ebmwt" ∈ lw_tbl ∧ Cond.stringRef "FoxRounds" 337 "hfg" ∈ lw_tbl ∧ Cond.stringRef "FoxRounds" 339 "at" ∈ lw_tbl := by decide +kernel
theorem e_start {s : State} {b : Nat} (hts : ∀ w ∈ lw_tbl, w.before #[Value.ref b] s = true) (hgv : (Jvm.Cond.and given_1 narrow_1).before #[Value.ref b] s = true) : ∃ ρ : Nat → Nat, EX ρ (fun q : Nat => s.heap.size ≤ q) s s.heap ∧ ρ 1040 = b := by
  have hf : ∀ w ∈ FLN, w.before #[Value.ref b] s = true := flat_of_before _ hgv
  have hA : ∀ a : Nat, a < s.heap.size → ¬ (fun q : Nat => s.heap.size ≤ q) a := fun a h => Nat.not_le.mpr h
  have h1 : ∀ j : Nat, ∃ t : Nat, j < 8 → va_Z "FoxRounds" (stN j) "[I" (.ref t) (fun q : Nat => s.heap.size ≤ q) s s.heap ∧ va_T .int t (stL j) (fun i => .int (stV j i)) (fun q : Nat => s.heap.size ≤ q) s s.heap := by
    intro j
    by_cases hj : j < 8
    · have hN : stL j < 2 ^ 31 := by
        have : ∀ j, j < 8 → stL j < 2 ^ 31 := by decide
        exact this j hj
      obtain ⟨t, ht, hT⟩ := va_Tof (f := fun i => .int (stV j i)) hN (hf _ (fl_arr j hj)) (va_eqt (hf _ (fl_len j hj))) (fun i hi => va_eqt (hf _ (fl_el j hj i hi))) hA
      exact ⟨t, fun _ => ⟨va_Zref (hts _ (wd_lay j hj)) (hts _ wd_ini.1) ht hA, hT⟩⟩
    · exact ⟨0, fun h => absurd h hj⟩
  obtain ⟨f, hfz⟩ := Classical.axiomOfChoice h1
  obtain ⟨adK, adV, hS, hev⟩ := vk_Sof (N := 4) (tm := stT) (len := txL) (byt := txB) (by decide) (fun i hi => hf _ (fl_s1 i hi).1) (fun i hi => hf _ (fl_s1 i hi).2.1) (fun i hi => hf _ (fl_s1 i hi).2.2.1) (fun i hi => hf _ (fl_s1 i hi).2.2.2) (fun i hi j hj => hf _ (fl_s2 i hi j hj)) (fun i j hi hj hne => (fl_s3 i hi j hj hne).imp (fun q => hf _ q) (fun q => hf _ q)) hA
  obtain ⟨ρ, hρ⟩ : ∃ ρ : Nat → Nat, ρ = fun a => if a < 1010 then f (a - 1000) else if a < 1030 then adK (a - 1020) else if a < 1040 then adV (a - 1030) else b := ⟨_, rfl⟩
  have e0 : ∀ j, j < 8 → ρ (1000 + j) = f j := fun j hj => by
    rw [hρ]
    dsimp only
    rw [if_pos (by omega), Nat.add_sub_cancel_left]
  have e1 : ∀ j, j < 4 → ρ (1020 + j) = adK j := fun j hj => by
    rw [hρ]
    dsimp only
    rw [if_neg (by omega), if_pos (by omega), Nat.add_sub_cancel_left]
  have e2 : ∀ j, j < 4 → ρ (1030 + j) = adV j := fun j hj => by
    rw [hρ]
    dsimp only
    rw [if_neg (by omega), if_neg (by omega), if_pos (by omega), Nat.add_sub_cancel_left]
  refine ⟨ρ, ⟨fun j hj => by rw [e0 j hj]; exact hfz j hj, fun q hq => va_Nw.of rfl (hts _ (wd_nwm q hq)), fun q hq => va_Nw.of rfl (hts _ (wd_nwf q hq)), ⟨va_AO.of (hts _ wd_ao.2), ?_⟩, ⟨fun i hi => ?_, fun i j hi hj e => ?_⟩, ⟨?_, ?_, ?_, ?_⟩, va_Zof (hts _ wd_ini.2.2) (hts _ wd_ini.2.1) (va_eqt (hf _ fl_cs)) hA⟩, ?_⟩
  · exact hts _ wd_ao.1
  · have := hS.1 i hi
    show va_O _ (ρ (1020 + i)) _ _ _ ∧ va_OF _ _ _ _ (ρ (1020 + i)) _ _ _ ∧ va_OF _ _ _ (.ref (ρ (1030 + i))) (ρ (1020 + i)) _ _ _ ∧ va_T _ (ρ (1030 + i)) _ _ _ _ _
    rw [e1 i hi, e2 i hi]
    exact this
  · have e : ρ (1020 + i) = ρ (1020 + j) := e
    rw [e1 i hi, e1 j hj] at e
    exact hS.2 i j hi hj e
  · exact vk_R.of (hts _ wd_str.1) (by rw [e1 0 (by omega)]; exact hev 0 (by omega))
  · exact vk_R.of (hts _ wd_str.2.1) (by rw [e1 1 (by omega)]; exact hev 1 (by omega))
  · exact vk_R.of (hts _ wd_str.2.2.1) (by rw [e1 2 (by omega)]; exact hev 2 (by omega))
  · exact vk_R.of (hts _ wd_str.2.2.2) (by rw [e1 3 (by omega)]; exact hev 3 (by omega))
  · rw [hρ]
    dsimp only
    rw [if_neg (by omega), if_neg (by omega), if_neg (by omega)]
/-! the two objects, told by one state -/
def LI (h : Mm) (τ τk : Nat → List Int32) : Prop := CX h h h τ τk ∧ INV h τ τk
theorem CX.rr {h h2 s : Mm} {τ τk : Nat → List Int32} (H : CX h h2 s τ τk) : RR h2 (pt h2 h) := by
  have e := H.2.2.2.2.2
  refine ⟨fun a ha => ?_, congrFun (e 118 (by omega)) 3, congrFun (e 118 (by omega)) 16⟩
  by_cases l : a < 118
  · exact (pt_lo l).symm
  · rw [pt_hi (by omega)]; exact e a (by omega)
theorem LI.step {h h2 h3 s2 : Mm} {τ τk : Nat → List Int32} (hC : CX h h2 s2 τ τk) (hR : RR h3 (pt h2 s2)) (hI : INV s2 τ τk) : LI h3 τ τk := by
  have lo : ∀ a, a < 118 → h3 a = h2 a := fun a ha => (hR.1 a (Or.inr (Or.inr (Or.inr (Or.inr ha))))).trans (pt_lo ha)
  have r119 : h3 119 = s2 119 := hR.1 119 RA_119
  have r121 : h3 121 = s2 121 := hR.1 121 RA_121
  have r122 : h3 122 = s2 122 := hR.1 122 RA_122
  have r127 : h3 127 = s2 127 := hR.1 127 RA_127
  have r128 : h3 128 = s2 128 := hR.1 128 RA_128
  have r129 : h3 129 = s2 129 := hR.1 129 RA_129
  have r130 : h3 130 = s2 130 := hR.1 130 RA_130
  have r3 : h3 118 3 = s2 118 3 := hR.2.1
  have r16 : h3 118 16 = s2 118 16 := hR.2.2
  obtain ⟨c1, c2, c3, c4, c5, -⟩ := hC
  refine ⟨⟨?_, c2.far (by rw [lo 0 (by omega)]) (fun a q1 q2 => lo a (by omega)) r3 r121, c3.far (lo 109 (by omega)) r122, c4.far (by rw [lo 106 (by omega)]) (lo 107 (by omega)) r16 r127, c5.far (fun a q1 q2 => lo a (by omega)) r128 r129 r130, fun _ _ => rfl⟩, hI.o r119 r121 r3 (hI.2.2.1.same r128 r129) (by rw [r16]; exact hI.2.2.2)⟩
  rw [r119]
  exact c1.far (fun a q1 q2 => lo a (by omega))
set_option maxRecDepth 100000 in
theorem LI.first : LI FH firstR firstR := by
  refine ⟨⟨⟨⟨?_, ?_, ?_, ?_⟩, ⟨⟨?_, by decide, ?_⟩, ⟨?_, by decide, ?_⟩, ⟨?_, by decide, ?_⟩⟩, ?_, ⟨?_, ?_, ?_⟩, ?_⟩, ⟨by decide +kernel, Or.inl (by decide +kernel)⟩, ?_, ⟨by decide +kernel, ?_⟩, ?_, fun _ _ => rfl⟩, ⟨⟨⟨⟨⟨by decide +kernel, by decide +kernel⟩, ⟨by decide +kernel, by decide +kernel⟩, ⟨⟨11, by decide, by decide +kernel⟩, ⟨20, by decide, by decide +kernel⟩, ⟨0, by decide, by decide +kernel⟩, ⟨0, by decide, by decide +kernel⟩⟩, fun w hw => ⟨⟨0, by decide, ?_⟩, ⟨0, by decide, ?_⟩, ⟨0, by decide, ?_⟩, ⟨0, by decide, ?_⟩⟩, fun t ht => ⟨⟨0, by decide, ?_⟩, ⟨0, by decide, ?_⟩, ⟨0, by decide, ?_⟩⟩⟩, ⟨0, by decide, by decide +kernel⟩, ⟨0, by decide, by decide +kernel⟩, ⟨0, by decide, by decide +kernel⟩, fun y hy => ⟨0, by decide, ?_⟩, fun i hi => ⟨0, by decide, ?_⟩⟩, fun u hu => Or.inl ⟨?_, rfl⟩, TOK.first⟩, Or.inl (by decide +kernel), fun i hi => ⟨Or.inl ?_, 0, by decide, ?_, fun _ => rfl⟩, ⟨0, by decide, by decide +kernel⟩⟩⟩
  · exact (by decide +kernel : ∀ k, k < 8 → FH 3 k = FH 119 k)
  · exact (by decide +kernel : FH 2 1 = FH 119 8 ∧ FH 2 2 = FH 119 9 ∧ FH 2 4 = FH 119 10 ∧ FH 2 6 = FH 119 11)
  · exact fun w k hw hk => (by decide +kernel : ∀ w, w < 8 → ∀ k, k < 6 → FH (1 + 1 + 3 + w) k = FH 119 (46 + 6 * w + k)) w hw k hk
  · exact fun t k ht hk => (by decide +kernel : ∀ t, t < 5 → ∀ k, k < 3 → FH (1 + 1 + 12 + t) k = FH 119 (94 + 3 * t + k)) t ht k hk
  · decide +kernel
  · exact (by decide +kernel : ∀ k, k < 5 → FH (1 + 19 + 1 + 1) k = (firstR 0).getD k 0)
  · decide +kernel
  · exact (by decide +kernel : ∀ k, k < 9 → FH (1 + 19 + 4 + 1) k = (firstR 1).getD k 0)
  · decide +kernel
  · exact (by decide +kernel : ∀ k, k < 5 → FH (1 + 19 + 7 + 1) k = (firstR 2).getD k 0)
  · exact (by decide +kernel : ∀ y, y < 6 → FH (1 + 30 + 1) y = FH 119 (28 + 3 * y) ∧ FH (1 + 30 + 2) y = FH 119 (28 + 3 * y + 1) ∧ FH (1 + 30 + 3) y = FH 119 (28 + 3 * y + 2))
  · exact (by decide +kernel : ∀ k, k < 50 → FH (1 + 35) k = (FH 119 (284 + k)).toInt8.toInt32)
  · exact (by decide +kernel : ∀ k, k < 20 → FH (1 + 36) k = FH 119 (114 + k))
  · exact (by decide +kernel : ∀ k, k < 12 → FH (1 + 37) k = FH 119 (16 + k))
  · exact (by decide +kernel : FH 1 4 = FH 119 13 ∧ FH 1 6 = FH 119 14 ∧ FH 1 8 = FH 119 12)
  · exact fun k h1 h6 => (by decide +kernel : ∀ k, k < 6 → FH 109 k = FH 122 k) k h6
  · intro k hk
    exact absurd hk (by rw [show (FH 118 16).toNatClampNeg = 0 by decide +kernel]; omega)
  · exact fun i hi => ⟨(by decide +kernel : ∀ i, i < 4 → FH (110 + 2 * i) 0 = FH 128 i) i hi, (by decide +kernel : ∀ i, i < 4 → FH (110 + 2 * i) 1 = FH 129 i) i hi, (by decide +kernel : ∀ i, i < 4 → ∀ k, k < 40 → FH (111 + 2 * i) k = FH 130 (40 * i + k)) i hi⟩
  · exact (by decide +kernel : ∀ w, w < 8 → FH 119 (46 + 6 * w) = nI 0) w hw
  · exact (by decide +kernel : ∀ w, w < 8 → FH 119 (46 + 6 * w + 1) = nI 0) w hw
  · exact (by decide +kernel : ∀ w, w < 8 → FH 119 (46 + 6 * w + 4) = nI 0) w hw
  · exact (by decide +kernel : ∀ w, w < 8 → FH 119 (46 + 6 * w + 5) = nI 0) w hw
  · exact (by decide +kernel : ∀ w, w < 5 → FH 119 (94 + 3 * w) = nI 0) t ht
  · exact (by decide +kernel : ∀ w, w < 5 → FH 119 (94 + 3 * w + 1) = nI 0) t ht
  · exact (by decide +kernel : ∀ w, w < 5 → FH 119 (94 + 3 * w + 2) = nI 0) t ht
  · exact (by decide +kernel : ∀ y, y < 6 → FH 119 (28 + 3 * y + 2) = nI 0) y hy
  · exact (by decide +kernel : ∀ i, i < 50 → FH 119 (284 + i) = nI 0) i hi
  · exact (by decide +kernel : ∀ u, u < 3 → FH 119 (110 + u) = nI 0) u hu
  · exact (by decide +kernel : ∀ i, i < 4 → FH 128 i = nI 0) i hi
  · exact (by decide +kernel : ∀ i, i < 4 → FH 129 i = nI 0) i hi
/-! the script -/
def SX (κ : KT) (ρ : Nat → Nat) (L : Nat) (xs : Nat → Int32) : Prop := va_X (ρ 1040) L xs (ks κ) (ks κ).heap ∧ ρ 1040 < (ks κ).heap.size ∧ ¬ kA κ (ρ 1040)
section VSC
variable {κ : KT} {own nm : String} {cc : ByteArray} {nL : Nat} {R : Room} {ret : Option FieldType} {Q : State → Prop} {ω : Wo} {h : Mm} {pc : Nat} {lv : List (Nat × Value)} {st : List Value} {L : Nat} {xs : Nat → Int32}
theorem v_scr (K : KOK κ own nm cc nL R ret) (S : SX κ ω.2.1 L xs) {k : Nat} (hk : k < L) (hL : L ≤ 384) (d : decode cc pc = .ok (.iaload, 1)) (kk : V κ Q nL ω h (pc + 1) lv (.int (xs k) :: st)) : V κ Q nL ω h pc lv (.int (nI k) :: .ref 1040 :: st) := by
  intro H locs ls hl hP hD hS hE
  refine va_sld K.1 K.2.1 S.1 S.2.1 S.2.2 hS (vp_in_nI hk (by omega)) d ?_
  rw [nI_clamp (by omega)]
  exact kk H locs ls hl hP hD hS hE
theorem v_scrL (K : KOK κ own nm cc nL R ret) (S : SX κ ω.2.1 L xs) (d : decode cc pc = .ok (.arraylength, 1)) (kk : V κ Q nL ω h (pc + 1) lv (.int (nI L) :: st)) : V κ Q nL ω h pc lv (.ref 1040 :: st) :=
  fun H locs ls hl hP hD hS hE => va_slen K.1 K.2.1 S.1 S.2.1 S.2.2 hS d (kk H locs ls hl hP hD hS hE)
end VSC
theorem lg_self {x : Int64} : lg_cmp x x = 0 := (lg_cmp_eq x x).mpr rfl
