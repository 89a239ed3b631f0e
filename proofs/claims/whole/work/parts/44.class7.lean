/-! the class's VOICES -/
def VQ (h : Mm) (o w : Nat) (m : Int32) (L : List Nat) : Prop := h 106 1 = nI L.length ∧ (∀ k, k < L.length → h 107 k = nI (L.getD k 0)) ∧ h 106 2 = nI o ∧ h 106 3 = nI w ∧ h 106 4 = m
theorem VQ.b {h : Mm} {o w b : Nat} {m : Int32} {L : List Nat} (H : VQ h o w m L) : VQ (u2 (u2 h 107 L.length (nI b)) 106 1 (nI (L.length + 1))) o w m (L ++ [b]) := by
  have e : (L ++ [b]).length = L.length + 1 := by simp
  refine ⟨by rw [u2_at, e], fun k hk => ?_, ?_, ?_, ?_⟩
  · rw [u2_off (by omega)]
    by_cases q : k = L.length
    · subst q; rw [u2_at, List.getD_eq_getElem?_getD, List.getElem?_append_right (Nat.le_refl _), Nat.sub_self]; rfl
    · rw [u2_ne (Or.inr q), List.getD_eq_getElem?_getD, List.getElem?_append_left (by omega), ← List.getD_eq_getElem?_getD]; exact H.2.1 k (by omega)
  · rw [u2_ne (by omega), u2_off (by omega)]; exact H.2.2.1
  · rw [u2_ne (by omega), u2_off (by omega)]; exact H.2.2.2.1
  · rw [u2_ne (by omega), u2_off (by omega)]; exact H.2.2.2.2
theorem CX.vc {c h h2 s : Mm} {o w : Nat} {m : Int32} {L : List Nat} {τ τk : Nat → List Int32} (H : CX c h s τ τk) (F : FrO 106 108 h h2) (Q : VQ h2 o w m L) (hL : L.length < 100) : CX c h2 (VS s L) τ τk := by
  have e : ∀ a, a ≠ 118 → a ≠ 127 → VS s L a = s a := fun a a1 a2 => by unfold VS; rw [u2_off a1, rw2_off a2]
  have e3 : VS s L 118 3 = s 118 3 := by unfold VS; rw [u2_ne (by omega), rw2_off (by omega)]
  refine ⟨by rw [vs_119]; exact H.W.far (fun a q1 q2 => F a (by omega)), H.2.1.far (by rw [F 0 (by omega)]) (fun a q1 q2 => F a (by omega)) e3 (e 121 (by omega) (by omega)), H.2.2.1.far (F 109 (by omega)) (e 122 (by omega) (by omega)), ⟨Q.1.trans vs_16.symm, fun k hk => ?_⟩,
    H.2.2.2.2.1.far (fun a q1 q2 => F a (by omega)) (e 128 (by omega) (by omega)) (e 129 (by omega) (by omega)) (e 130 (by omega) (by omega)), fun a ha => (F a (by omega)).trans (H.2.2.2.2.2 a ha)⟩
  rw [vs_16, cl_ix (show L.length < 2 ^ 31 by omega)] at hk
  rw [Q.2.1 k hk, tr_vs hk]

abbrev P_X7_begin (h : Mm) (o w b : Nat) (m : Int32) (L : List Nat) : Option Value → Mm → Prop := fun r h2 => r = none ∧ VQ h2 o w m (L ++ [b]) ∧ FrO 106 108 h h2
theorem c_X7_begin {l : Launch} (h : Mm) (o w b : Nat) (m : Int32) (L : List Nat) (hQ : VQ h o w m L) (hL : L.length < 40) : Con l yX7_begin cX7_begin 2 none 0 0 132 GL h [.ref 106, .int (nI b)] (P_X7_begin h o w b m L) := by
  refine Con.ofV (own := "FoxRounds$Voices") (nm := "begin") rfl rfl (by decide) (Nat.le_of_ble_eq_true rfl) ?_
  intro κ ρ hkl K
  subst hkl
  show V κ (QM κ (132, ρ, GL, 0, 0) (P_X7_begin h o w b m L)) 2 (132, ρ, GL, 0, 0) h 0 [(0, .ref 106), (1, .int (nI b))] []
  refine v_aload_n K dX7_begin_0 rfl ?_
  refine v_geti (x := nI L.length) K fX7_15 sh_106 pl_106 hQ.1 dX7_begin_1 ?_
  refine v_bipushN K 40 rfl dX7_begin_4 ?_
  refine v_icmpN_ge (tgt := 29) K (by omega) (by omega) dX7_begin_6 rfl (fun c1 => ?_) (fun c1 => ?_)
  · skip
    exfalso; omega
  · skip
    refine v_aload_n K dX7_begin_9 rfl ?_
    refine v_getr (q := 107) K fX7_9 sh_106 pl_106 gl_106_0 dX7_begin_10 ?_
    refine v_aload_n K dX7_begin_13 rfl ?_
    refine v_geti (x := nI L.length) K fX7_15 sh_106 pl_106 hQ.1 dX7_begin_14 ?_
    refine v_iload_n K dX7_begin_17 rfl ?_
    refine v_iast K sh_107 pl_107 (by omega) dX7_begin_18 ?_
    refine v_aload_n K dX7_begin_19 rfl ?_
    refine v_dup K dX7_begin_20 rfl ?_
    refine v_geti (x := nI L.length) K fX7_15 sh_106 pl_106 ((u2_ne (by omega)).trans hQ.1) dX7_begin_21 ?_
    refine v_iconstN K 1 rfl dX7_begin_24 ?_
    refine v_iaddN K dX7_begin_25 ?_
    refine v_puti K pX7_15 sh_106 pl_106 dX7_begin_26 ?_
    refine v_vret K dX7_begin_29 ?_
    exact ⟨rfl, hQ.b, (FrO.r.u (by omega) (by omega)).u (by omega) (by omega)⟩

abbrev P_X7_tries_0 (h : Mm) (o w dp : Nat) (m x : Int32) (L : List Nat) : Option Value → Mm → Prop := fun r h2 => r = some (.int (vcT 0 x (nI w))) ∧ VQ h2 o w m (L ++ vcTt 0) ∧ FrO 106 108 h h2
theorem c_X7_tries_0 {l : Launch} (h : Mm) (o w dp : Nat) (m x : Int32) (L : List Nat) (hQ : VQ h o w m L) (ho7 : o < 7) (hL : L.length ≤ 36) (hdp : dp ≤ 38) : Con l yX7_tries cX7_tries 4 (some .int) 1 21 132 GL h [.ref 106, .int (nI 0), .int x, .int (nI dp)] (P_X7_tries_0 h o w dp m x L) := by
  refine Con.ofV (own := "FoxRounds$Voices") (nm := "tries") rfl rfl (by decide) (Nat.le_of_ble_eq_true rfl) ?_
  intro κ ρ hkl K
  subst hkl
  show V κ (QM κ (132, ρ, GL, 0, 0) (P_X7_tries_0 h o w dp m x L)) 4 (132, ρ, GL, 0, 0) h 0 [(0, .ref 106), (1, .int (nI 0)), (2, .int x), (3, .int (nI dp))] []
  refine v_iload_n K dX7_tries_0 rfl ?_
  refine v_bipushN K 40 rfl dX7_tries_1 ?_
  refine v_icmpN_le (tgt := 8) K (by omega) (by omega) dX7_tries_3 rfl (fun c1 => ?_) (fun c1 => ?_)
  · skip
    refine v_iload_n K dX7_tries_8 rfl ?_
    refine v_lookN (off := 63) (tgt := 72) K (by decide) 0 dX7_tries_9 rfl (by decide) rfl rfl ?_
    refine v_aload_n K dX7_tries_72 rfl ?_
    refine v_bipushN K 10 rfl dX7_tries_73 ?_
    refine v_callV (As := [.int (nI 10)]) K (c_X7_begin h o w 10 m (L) hQ (by (try simp only [List.length_append, List.length_cons, List.length_nil]); have t1 := vcTt_len ho7; have t2 := vcSt_len ho7; have t3 := vcFt_len ho7 ho7; (try simp only [vcTt, vcSt, vcFt, vcLt, List.length_append, List.length_cons, List.length_nil] at *); omega)) lX7_41 ck_X7 rfl sh_106 pl_106 rfl ⟨by decide, by decide⟩ (Nat.le_of_ble_eq_true rfl) dX7_tries_75 (fun r1 h1 hp1 => ?_) rfl
    obtain ⟨rfl, hQq1, hF0q1⟩ := hp1
    have hFq1 := FrO.t (FrO.r (lo := 106) (hi := 108) (h := h)) hF0q1
    refine v_none ?_
    refine v_iload_n K dX7_tries_78 rfl ?_
    refine v_aload_n K dX7_tries_79 rfl ?_
    refine v_geti (x := nI w) K fX7_22 sh_106 pl_106 hQq1.2.2.2.1 dX7_tries_80 ?_
    refine v_iadd K dX7_tries_83 ?_
    refine v_iret K dX7_tries_84 ?_
    exact ⟨rfl, by first | exact hQq1 | (have hx := hQq1; simp only [List.append_assoc, List.cons_append, List.nil_append] at hx ⊢; exact hx), hFq1⟩
  · skip
    exfalso; omega

abbrev P_X7_tries_1 (h : Mm) (o w dp : Nat) (m x : Int32) (L : List Nat) : Option Value → Mm → Prop := fun r h2 => r = some (.int (vcT 1 x (nI w))) ∧ VQ h2 o w m (L ++ vcTt 1) ∧ FrO 106 108 h h2
theorem c_X7_tries_1 {l : Launch} (h : Mm) (o w dp : Nat) (m x : Int32) (L : List Nat) (hQ : VQ h o w m L) (ho7 : o < 7) (hL : L.length ≤ 36) (hdp : dp ≤ 38) : Con l yX7_tries cX7_tries 4 (some .int) 1 21 132 GL h [.ref 106, .int (nI 1), .int x, .int (nI dp)] (P_X7_tries_1 h o w dp m x L) := by
  refine Con.ofV (own := "FoxRounds$Voices") (nm := "tries") rfl rfl (by decide) (Nat.le_of_ble_eq_true rfl) ?_
  intro κ ρ hkl K
  subst hkl
  show V κ (QM κ (132, ρ, GL, 0, 0) (P_X7_tries_1 h o w dp m x L)) 4 (132, ρ, GL, 0, 0) h 0 [(0, .ref 106), (1, .int (nI 1)), (2, .int x), (3, .int (nI dp))] []
  refine v_iload_n K dX7_tries_0 rfl ?_
  refine v_bipushN K 40 rfl dX7_tries_1 ?_
  refine v_icmpN_le (tgt := 8) K (by omega) (by omega) dX7_tries_3 rfl (fun c1 => ?_) (fun c1 => ?_)
  · skip
    refine v_iload_n K dX7_tries_8 rfl ?_
    refine v_lookN (off := 63) (tgt := 72) K (by decide) 1 dX7_tries_9 rfl (by decide) rfl rfl ?_
    refine v_aload_n K dX7_tries_72 rfl ?_
    refine v_bipushN K 10 rfl dX7_tries_73 ?_
    refine v_callV (As := [.int (nI 10)]) K (c_X7_begin h o w 10 m (L) hQ (by (try simp only [List.length_append, List.length_cons, List.length_nil]); have t1 := vcTt_len ho7; have t2 := vcSt_len ho7; have t3 := vcFt_len ho7 ho7; (try simp only [vcTt, vcSt, vcFt, vcLt, List.length_append, List.length_cons, List.length_nil] at *); omega)) lX7_41 ck_X7 rfl sh_106 pl_106 rfl ⟨by decide, by decide⟩ (Nat.le_of_ble_eq_true rfl) dX7_tries_75 (fun r1 h1 hp1 => ?_) rfl
    obtain ⟨rfl, hQq1, hF0q1⟩ := hp1
    have hFq1 := FrO.t (FrO.r (lo := 106) (hi := 108) (h := h)) hF0q1
    refine v_none ?_
    refine v_iload_n K dX7_tries_78 rfl ?_
    refine v_aload_n K dX7_tries_79 rfl ?_
    refine v_geti (x := nI w) K fX7_22 sh_106 pl_106 hQq1.2.2.2.1 dX7_tries_80 ?_
    refine v_iadd K dX7_tries_83 ?_
    refine v_iret K dX7_tries_84 ?_
    exact ⟨rfl, by first | exact hQq1 | (have hx := hQq1; simp only [List.append_assoc, List.cons_append, List.nil_append] at hx ⊢; exact hx), hFq1⟩
  · skip
    exfalso; omega

abbrev P_X7_tries_2 (h : Mm) (o w dp : Nat) (m x : Int32) (L : List Nat) : Option Value → Mm → Prop := fun r h2 => r = some (.int (vcT 2 x (nI w))) ∧ VQ h2 o w m (L ++ vcTt 2) ∧ FrO 106 108 h h2
theorem c_X7_tries_2 {l : Launch} (h : Mm) (o w dp : Nat) (m x : Int32) (L : List Nat) (hQ : VQ h o w m L) (ho7 : o < 7) (hL : L.length ≤ 35) (hdp : dp ≤ 37) : Con l yX7_tries cX7_tries 4 (some .int) 2 44 132 GL h [.ref 106, .int (nI 2), .int x, .int (nI dp)] (P_X7_tries_2 h o w dp m x L) := by
  refine Con.ofV (own := "FoxRounds$Voices") (nm := "tries") rfl rfl (by decide) (Nat.le_of_ble_eq_true rfl) ?_
  intro κ ρ hkl K
  subst hkl
  show V κ (QM κ (132, ρ, GL, 0, 0) (P_X7_tries_2 h o w dp m x L)) 4 (132, ρ, GL, 0, 0) h 0 [(0, .ref 106), (1, .int (nI 2)), (2, .int x), (3, .int (nI dp))] []
  refine v_iload_n K dX7_tries_0 rfl ?_
  refine v_bipushN K 40 rfl dX7_tries_1 ?_
  refine v_icmpN_le (tgt := 8) K (by omega) (by omega) dX7_tries_3 rfl (fun c1 => ?_) (fun c1 => ?_)
  · skip
    refine v_iload_n K dX7_tries_8 rfl ?_
    refine v_lookN (off := 45) (tgt := 54) K (by decide) 2 dX7_tries_9 rfl (by decide) rfl rfl ?_
    refine v_aload_n K dX7_tries_54 rfl ?_
    refine v_bipushN K 30 rfl dX7_tries_55 ?_
    refine v_callV (As := [.int (nI 30)]) K (c_X7_begin h o w 30 m (L) hQ (by (try simp only [List.length_append, List.length_cons, List.length_nil]); have t1 := vcTt_len ho7; have t2 := vcSt_len ho7; have t3 := vcFt_len ho7 ho7; (try simp only [vcTt, vcSt, vcFt, vcLt, List.length_append, List.length_cons, List.length_nil] at *); omega)) lX7_41 ck_X7 rfl sh_106 pl_106 rfl ⟨by decide, by decide⟩ (Nat.le_of_ble_eq_true rfl) dX7_tries_57 (fun r1 h1 hp1 => ?_) rfl
    obtain ⟨rfl, hQq1, hF0q1⟩ := hp1
    have hFq1 := FrO.t (FrO.r (lo := 106) (hi := 108) (h := h)) hF0q1
    refine v_none ?_
    refine v_aload_n K dX7_tries_60 rfl ?_
    refine v_iconstN K 0 rfl dX7_tries_61 ?_
    refine v_iload_n K dX7_tries_62 rfl ?_
    refine v_iload_n K dX7_tries_63 rfl ?_
    refine v_iconstN K 1 rfl dX7_tries_64 ?_
    refine v_iaddN K dX7_tries_65 ?_
    refine v_callV (As := [.int (nI 0), .int x, .int (nI (dp + 1))]) K (c_X7_tries_0 h1 o w (dp + 1) m x (L ++ [30]) hQq1 ho7 (by (try simp only [List.length_append, List.length_cons, List.length_nil]); have t1 := vcTt_len ho7; have t2 := vcSt_len ho7; have t3 := vcFt_len ho7 ho7; (try simp only [vcTt, vcSt, vcFt, vcLt, List.length_append, List.length_cons, List.length_nil] at *); omega) (by omega)) lX7_28 ck_X7 rfl sh_106 pl_106 rfl ⟨by decide, by decide⟩ (Nat.le_of_ble_eq_true rfl) dX7_tries_66 (fun r2 h2 hp2 => ?_) rfl
    obtain ⟨rfl, hQq2, hF0q2⟩ := hp2
    have hFq2 := FrO.t hFq1 hF0q2
    refine v_some ?_
    refine v_iconstN K 3 rfl dX7_tries_69 ?_
    refine v_imul K dX7_tries_70 ?_
    refine v_iret K dX7_tries_71 ?_
    exact ⟨rfl, by first | exact hQq2 | (have hx := hQq2; simp only [List.append_assoc, List.cons_append, List.nil_append] at hx ⊢; exact hx), hFq2⟩
  · skip
    exfalso; omega

abbrev P_X7_tries_3 (h : Mm) (o w dp : Nat) (m x : Int32) (L : List Nat) : Option Value → Mm → Prop := fun r h2 => r = some (.int (vcT 3 x (nI w))) ∧ VQ h2 o w m (L ++ vcTt 3) ∧ FrO 106 108 h h2
theorem c_X7_tries_3 {l : Launch} (h : Mm) (o w dp : Nat) (m x : Int32) (L : List Nat) (hQ : VQ h o w m L) (ho7 : o < 7) (hL : L.length ≤ 36) (hdp : dp ≤ 38) : Con l yX7_tries cX7_tries 4 (some .int) 1 21 132 GL h [.ref 106, .int (nI 3), .int x, .int (nI dp)] (P_X7_tries_3 h o w dp m x L) := by
  refine Con.ofV (own := "FoxRounds$Voices") (nm := "tries") rfl rfl (by decide) (Nat.le_of_ble_eq_true rfl) ?_
  intro κ ρ hkl K
  subst hkl
  show V κ (QM κ (132, ρ, GL, 0, 0) (P_X7_tries_3 h o w dp m x L)) 4 (132, ρ, GL, 0, 0) h 0 [(0, .ref 106), (1, .int (nI 3)), (2, .int x), (3, .int (nI dp))] []
  refine v_iload_n K dX7_tries_0 rfl ?_
  refine v_bipushN K 40 rfl dX7_tries_1 ?_
  refine v_icmpN_le (tgt := 8) K (by omega) (by omega) dX7_tries_3 rfl (fun c1 => ?_) (fun c1 => ?_)
  · skip
    refine v_iload_n K dX7_tries_8 rfl ?_
    refine v_lookN (off := 63) (tgt := 72) K (by decide) 3 dX7_tries_9 rfl (by decide) rfl rfl ?_
    refine v_aload_n K dX7_tries_72 rfl ?_
    refine v_bipushN K 10 rfl dX7_tries_73 ?_
    refine v_callV (As := [.int (nI 10)]) K (c_X7_begin h o w 10 m (L) hQ (by (try simp only [List.length_append, List.length_cons, List.length_nil]); have t1 := vcTt_len ho7; have t2 := vcSt_len ho7; have t3 := vcFt_len ho7 ho7; (try simp only [vcTt, vcSt, vcFt, vcLt, List.length_append, List.length_cons, List.length_nil] at *); omega)) lX7_41 ck_X7 rfl sh_106 pl_106 rfl ⟨by decide, by decide⟩ (Nat.le_of_ble_eq_true rfl) dX7_tries_75 (fun r1 h1 hp1 => ?_) rfl
    obtain ⟨rfl, hQq1, hF0q1⟩ := hp1
    have hFq1 := FrO.t (FrO.r (lo := 106) (hi := 108) (h := h)) hF0q1
    refine v_none ?_
    refine v_iload_n K dX7_tries_78 rfl ?_
    refine v_aload_n K dX7_tries_79 rfl ?_
    refine v_geti (x := nI w) K fX7_22 sh_106 pl_106 hQq1.2.2.2.1 dX7_tries_80 ?_
    refine v_iadd K dX7_tries_83 ?_
    refine v_iret K dX7_tries_84 ?_
    exact ⟨rfl, by first | exact hQq1 | (have hx := hQq1; simp only [List.append_assoc, List.cons_append, List.nil_append] at hx ⊢; exact hx), hFq1⟩
  · skip
    exfalso; omega

abbrev P_X7_tries_4 (h : Mm) (o w dp : Nat) (m x : Int32) (L : List Nat) : Option Value → Mm → Prop := fun r h2 => r = some (.int (vcT 4 x (nI w))) ∧ VQ h2 o w m (L ++ vcTt 4) ∧ FrO 106 108 h h2
theorem c_X7_tries_4 {l : Launch} (h : Mm) (o w dp : Nat) (m x : Int32) (L : List Nat) (hQ : VQ h o w m L) (ho7 : o < 7) (hL : L.length ≤ 34) (hdp : dp ≤ 36) : Con l yX7_tries cX7_tries 4 (some .int) 3 67 132 GL h [.ref 106, .int (nI 4), .int x, .int (nI dp)] (P_X7_tries_4 h o w dp m x L) := by
  refine Con.ofV (own := "FoxRounds$Voices") (nm := "tries") rfl rfl (by decide) (Nat.le_of_ble_eq_true rfl) ?_
  intro κ ρ hkl K
  subst hkl
  show V κ (QM κ (132, ρ, GL, 0, 0) (P_X7_tries_4 h o w dp m x L)) 4 (132, ρ, GL, 0, 0) h 0 [(0, .ref 106), (1, .int (nI 4)), (2, .int x), (3, .int (nI dp))] []
  refine v_iload_n K dX7_tries_0 rfl ?_
  refine v_bipushN K 40 rfl dX7_tries_1 ?_
  refine v_icmpN_le (tgt := 8) K (by omega) (by omega) dX7_tries_3 rfl (fun c1 => ?_) (fun c1 => ?_)
  · skip
    refine v_iload_n K dX7_tries_8 rfl ?_
    refine v_lookN (off := 27) (tgt := 36) K (by decide) 4 dX7_tries_9 rfl (by decide) rfl rfl ?_
    refine v_aload_n K dX7_tries_36 rfl ?_
    refine v_bipushN K 50 rfl dX7_tries_37 ?_
    refine v_callV (As := [.int (nI 50)]) K (c_X7_begin h o w 50 m (L) hQ (by (try simp only [List.length_append, List.length_cons, List.length_nil]); have t1 := vcTt_len ho7; have t2 := vcSt_len ho7; have t3 := vcFt_len ho7 ho7; (try simp only [vcTt, vcSt, vcFt, vcLt, List.length_append, List.length_cons, List.length_nil] at *); omega)) lX7_41 ck_X7 rfl sh_106 pl_106 rfl ⟨by decide, by decide⟩ (Nat.le_of_ble_eq_true rfl) dX7_tries_39 (fun r1 h1 hp1 => ?_) rfl
    obtain ⟨rfl, hQq1, hF0q1⟩ := hp1
    have hFq1 := FrO.t (FrO.r (lo := 106) (hi := 108) (h := h)) hF0q1
    refine v_none ?_
    refine v_aload_n K dX7_tries_42 rfl ?_
    refine v_iconstN K 2 rfl dX7_tries_43 ?_
    refine v_iload_n K dX7_tries_44 rfl ?_
    refine v_iconstN K 1 rfl dX7_tries_45 ?_
    refine v_iadd K dX7_tries_46 ?_
    refine v_iload_n K dX7_tries_47 rfl ?_
    refine v_iconstN K 1 rfl dX7_tries_48 ?_
    refine v_iaddN K dX7_tries_49 ?_
    refine v_callV (As := [.int (nI 2), .int (x + (nI 1)), .int (nI (dp + 1))]) K (c_X7_tries_2 h1 o w (dp + 1) m (x + (nI 1)) (L ++ [50]) hQq1 ho7 (by (try simp only [List.length_append, List.length_cons, List.length_nil]); have t1 := vcTt_len ho7; have t2 := vcSt_len ho7; have t3 := vcFt_len ho7 ho7; (try simp only [vcTt, vcSt, vcFt, vcLt, List.length_append, List.length_cons, List.length_nil] at *); omega) (by omega)) lX7_28 ck_X7 rfl sh_106 pl_106 rfl ⟨by decide, by decide⟩ (Nat.le_of_ble_eq_true rfl) dX7_tries_50 (fun r2 h2 hp2 => ?_) rfl
    obtain ⟨rfl, hQq2, hF0q2⟩ := hp2
    have hFq2 := FrO.t hFq1 hF0q2
    refine v_some ?_
    refine v_iret K dX7_tries_53 ?_
    exact ⟨rfl, by first | exact hQq2 | (have hx := hQq2; simp only [List.append_assoc, List.cons_append, List.nil_append] at hx ⊢; exact hx), hFq2⟩
  · skip
    exfalso; omega

abbrev P_X7_tries_5 (h : Mm) (o w dp : Nat) (m x : Int32) (L : List Nat) : Option Value → Mm → Prop := fun r h2 => r = some (.int (vcT 5 x (nI w))) ∧ VQ h2 o w m (L ++ vcTt 5) ∧ FrO 106 108 h h2
theorem c_X7_tries_5 {l : Launch} (h : Mm) (o w dp : Nat) (m x : Int32) (L : List Nat) (hQ : VQ h o w m L) (ho7 : o < 7) (hL : L.length ≤ 36) (hdp : dp ≤ 38) : Con l yX7_tries cX7_tries 4 (some .int) 1 21 132 GL h [.ref 106, .int (nI 5), .int x, .int (nI dp)] (P_X7_tries_5 h o w dp m x L) := by
  refine Con.ofV (own := "FoxRounds$Voices") (nm := "tries") rfl rfl (by decide) (Nat.le_of_ble_eq_true rfl) ?_
  intro κ ρ hkl K
  subst hkl
  show V κ (QM κ (132, ρ, GL, 0, 0) (P_X7_tries_5 h o w dp m x L)) 4 (132, ρ, GL, 0, 0) h 0 [(0, .ref 106), (1, .int (nI 5)), (2, .int x), (3, .int (nI dp))] []
  refine v_iload_n K dX7_tries_0 rfl ?_
  refine v_bipushN K 40 rfl dX7_tries_1 ?_
  refine v_icmpN_le (tgt := 8) K (by omega) (by omega) dX7_tries_3 rfl (fun c1 => ?_) (fun c1 => ?_)
  · skip
    refine v_iload_n K dX7_tries_8 rfl ?_
    refine v_lookN (off := 63) (tgt := 72) K (by decide) 5 dX7_tries_9 rfl (by decide) rfl rfl ?_
    refine v_aload_n K dX7_tries_72 rfl ?_
    refine v_bipushN K 10 rfl dX7_tries_73 ?_
    refine v_callV (As := [.int (nI 10)]) K (c_X7_begin h o w 10 m (L) hQ (by (try simp only [List.length_append, List.length_cons, List.length_nil]); have t1 := vcTt_len ho7; have t2 := vcSt_len ho7; have t3 := vcFt_len ho7 ho7; (try simp only [vcTt, vcSt, vcFt, vcLt, List.length_append, List.length_cons, List.length_nil] at *); omega)) lX7_41 ck_X7 rfl sh_106 pl_106 rfl ⟨by decide, by decide⟩ (Nat.le_of_ble_eq_true rfl) dX7_tries_75 (fun r1 h1 hp1 => ?_) rfl
    obtain ⟨rfl, hQq1, hF0q1⟩ := hp1
    have hFq1 := FrO.t (FrO.r (lo := 106) (hi := 108) (h := h)) hF0q1
    refine v_none ?_
    refine v_iload_n K dX7_tries_78 rfl ?_
    refine v_aload_n K dX7_tries_79 rfl ?_
    refine v_geti (x := nI w) K fX7_22 sh_106 pl_106 hQq1.2.2.2.1 dX7_tries_80 ?_
    refine v_iadd K dX7_tries_83 ?_
    refine v_iret K dX7_tries_84 ?_
    exact ⟨rfl, by first | exact hQq1 | (have hx := hQq1; simp only [List.append_assoc, List.cons_append, List.nil_append] at hx ⊢; exact hx), hFq1⟩
  · skip
    exfalso; omega

abbrev P_X7_tries_6 (h : Mm) (o w dp : Nat) (m x : Int32) (L : List Nat) : Option Value → Mm → Prop := fun r h2 => r = some (.int (vcT 6 x (nI w))) ∧ VQ h2 o w m (L ++ vcTt 6) ∧ FrO 106 108 h h2
theorem c_X7_tries_6 {l : Launch} (h : Mm) (o w dp : Nat) (m x : Int32) (L : List Nat) (hQ : VQ h o w m L) (ho7 : o < 7) (hL : L.length ≤ 36) (hdp : dp ≤ 38) : Con l yX7_tries cX7_tries 4 (some .int) 1 21 132 GL h [.ref 106, .int (nI 6), .int x, .int (nI dp)] (P_X7_tries_6 h o w dp m x L) := by
  refine Con.ofV (own := "FoxRounds$Voices") (nm := "tries") rfl rfl (by decide) (Nat.le_of_ble_eq_true rfl) ?_
  intro κ ρ hkl K
  subst hkl
  show V κ (QM κ (132, ρ, GL, 0, 0) (P_X7_tries_6 h o w dp m x L)) 4 (132, ρ, GL, 0, 0) h 0 [(0, .ref 106), (1, .int (nI 6)), (2, .int x), (3, .int (nI dp))] []
  refine v_iload_n K dX7_tries_0 rfl ?_
  refine v_bipushN K 40 rfl dX7_tries_1 ?_
  refine v_icmpN_le (tgt := 8) K (by omega) (by omega) dX7_tries_3 rfl (fun c1 => ?_) (fun c1 => ?_)
  · skip
    refine v_iload_n K dX7_tries_8 rfl ?_
    refine v_lookN (off := 63) (tgt := 72) K (by decide) 6 dX7_tries_9 rfl (by decide) rfl rfl ?_
    refine v_aload_n K dX7_tries_72 rfl ?_
    refine v_bipushN K 10 rfl dX7_tries_73 ?_
    refine v_callV (As := [.int (nI 10)]) K (c_X7_begin h o w 10 m (L) hQ (by (try simp only [List.length_append, List.length_cons, List.length_nil]); have t1 := vcTt_len ho7; have t2 := vcSt_len ho7; have t3 := vcFt_len ho7 ho7; (try simp only [vcTt, vcSt, vcFt, vcLt, List.length_append, List.length_cons, List.length_nil] at *); omega)) lX7_41 ck_X7 rfl sh_106 pl_106 rfl ⟨by decide, by decide⟩ (Nat.le_of_ble_eq_true rfl) dX7_tries_75 (fun r1 h1 hp1 => ?_) rfl
    obtain ⟨rfl, hQq1, hF0q1⟩ := hp1
    have hFq1 := FrO.t (FrO.r (lo := 106) (hi := 108) (h := h)) hF0q1
    refine v_none ?_
    refine v_iload_n K dX7_tries_78 rfl ?_
    refine v_aload_n K dX7_tries_79 rfl ?_
    refine v_geti (x := nI w) K fX7_22 sh_106 pl_106 hQq1.2.2.2.1 dX7_tries_80 ?_
    refine v_iadd K dX7_tries_83 ?_
    refine v_iret K dX7_tries_84 ?_
    exact ⟨rfl, by first | exact hQq1 | (have hx := hQq1; simp only [List.append_assoc, List.cons_append, List.nil_append] at hx ⊢; exact hx), hFq1⟩
  · skip
    exfalso; omega

abbrev P_X7_tries_0w (h : Mm) (o w dp : Nat) (m x : Int32) (L : List Nat) : Option Value → Mm → Prop := fun r h2 => r = some (.int (vcT 0 x (nI w))) ∧ VQ h2 o w m (L ++ vcTt 0) ∧ FrO 106 108 h h2
theorem c_X7_tries_0w {l : Launch} (h : Mm) (o w dp : Nat) (m x : Int32) (L : List Nat) (hQ : VQ h o w m L) (ho7 : o < 7) (hL : L.length ≤ 36) (hdp : dp ≤ 38) : Con l yX7_tries cX7_tries 4 (some .int) 3 67 132 GL h [.ref 106, .int (nI 0), .int x, .int (nI dp)] (P_X7_tries_0w h o w dp m x L) := by
  refine Con.ofV (own := "FoxRounds$Voices") (nm := "tries") rfl rfl (by decide) (Nat.le_of_ble_eq_true rfl) ?_
  intro κ ρ hkl K
  subst hkl
  show V κ (QM κ (132, ρ, GL, 0, 0) (P_X7_tries_0w h o w dp m x L)) 4 (132, ρ, GL, 0, 0) h 0 [(0, .ref 106), (1, .int (nI 0)), (2, .int x), (3, .int (nI dp))] []
  refine v_iload_n K dX7_tries_0 rfl ?_
  refine v_bipushN K 40 rfl dX7_tries_1 ?_
  refine v_icmpN_le (tgt := 8) K (by omega) (by omega) dX7_tries_3 rfl (fun c1 => ?_) (fun c1 => ?_)
  · skip
    refine v_iload_n K dX7_tries_8 rfl ?_
    refine v_lookN (off := 63) (tgt := 72) K (by decide) 0 dX7_tries_9 rfl (by decide) rfl rfl ?_
    refine v_aload_n K dX7_tries_72 rfl ?_
    refine v_bipushN K 10 rfl dX7_tries_73 ?_
    refine v_callV (As := [.int (nI 10)]) K (c_X7_begin h o w 10 m (L) hQ (by (try simp only [List.length_append, List.length_cons, List.length_nil]); have t1 := vcTt_len ho7; have t2 := vcSt_len ho7; have t3 := vcFt_len ho7 ho7; (try simp only [vcTt, vcSt, vcFt, vcLt, List.length_append, List.length_cons, List.length_nil] at *); omega)) lX7_41 ck_X7 rfl sh_106 pl_106 rfl ⟨by decide, by decide⟩ (Nat.le_of_ble_eq_true rfl) dX7_tries_75 (fun r1 h1 hp1 => ?_) rfl
    obtain ⟨rfl, hQq1, hF0q1⟩ := hp1
    have hFq1 := FrO.t (FrO.r (lo := 106) (hi := 108) (h := h)) hF0q1
    refine v_none ?_
    refine v_iload_n K dX7_tries_78 rfl ?_
    refine v_aload_n K dX7_tries_79 rfl ?_
    refine v_geti (x := nI w) K fX7_22 sh_106 pl_106 hQq1.2.2.2.1 dX7_tries_80 ?_
    refine v_iadd K dX7_tries_83 ?_
    refine v_iret K dX7_tries_84 ?_
    exact ⟨rfl, by first | exact hQq1 | (have hx := hQq1; simp only [List.append_assoc, List.cons_append, List.nil_append] at hx ⊢; exact hx), hFq1⟩
  · skip
    exfalso; omega

abbrev P_X7_tries_1w (h : Mm) (o w dp : Nat) (m x : Int32) (L : List Nat) : Option Value → Mm → Prop := fun r h2 => r = some (.int (vcT 1 x (nI w))) ∧ VQ h2 o w m (L ++ vcTt 1) ∧ FrO 106 108 h h2
theorem c_X7_tries_1w {l : Launch} (h : Mm) (o w dp : Nat) (m x : Int32) (L : List Nat) (hQ : VQ h o w m L) (ho7 : o < 7) (hL : L.length ≤ 36) (hdp : dp ≤ 38) : Con l yX7_tries cX7_tries 4 (some .int) 3 67 132 GL h [.ref 106, .int (nI 1), .int x, .int (nI dp)] (P_X7_tries_1w h o w dp m x L) := by
  refine Con.ofV (own := "FoxRounds$Voices") (nm := "tries") rfl rfl (by decide) (Nat.le_of_ble_eq_true rfl) ?_
  intro κ ρ hkl K
  subst hkl
  show V κ (QM κ (132, ρ, GL, 0, 0) (P_X7_tries_1w h o w dp m x L)) 4 (132, ρ, GL, 0, 0) h 0 [(0, .ref 106), (1, .int (nI 1)), (2, .int x), (3, .int (nI dp))] []
  refine v_iload_n K dX7_tries_0 rfl ?_
  refine v_bipushN K 40 rfl dX7_tries_1 ?_
  refine v_icmpN_le (tgt := 8) K (by omega) (by omega) dX7_tries_3 rfl (fun c1 => ?_) (fun c1 => ?_)
  · skip
    refine v_iload_n K dX7_tries_8 rfl ?_
    refine v_lookN (off := 63) (tgt := 72) K (by decide) 1 dX7_tries_9 rfl (by decide) rfl rfl ?_
    refine v_aload_n K dX7_tries_72 rfl ?_
    refine v_bipushN K 10 rfl dX7_tries_73 ?_
    refine v_callV (As := [.int (nI 10)]) K (c_X7_begin h o w 10 m (L) hQ (by (try simp only [List.length_append, List.length_cons, List.length_nil]); have t1 := vcTt_len ho7; have t2 := vcSt_len ho7; have t3 := vcFt_len ho7 ho7; (try simp only [vcTt, vcSt, vcFt, vcLt, List.length_append, List.length_cons, List.length_nil] at *); omega)) lX7_41 ck_X7 rfl sh_106 pl_106 rfl ⟨by decide, by decide⟩ (Nat.le_of_ble_eq_true rfl) dX7_tries_75 (fun r1 h1 hp1 => ?_) rfl
    obtain ⟨rfl, hQq1, hF0q1⟩ := hp1
    have hFq1 := FrO.t (FrO.r (lo := 106) (hi := 108) (h := h)) hF0q1
    refine v_none ?_
    refine v_iload_n K dX7_tries_78 rfl ?_
    refine v_aload_n K dX7_tries_79 rfl ?_
    refine v_geti (x := nI w) K fX7_22 sh_106 pl_106 hQq1.2.2.2.1 dX7_tries_80 ?_
    refine v_iadd K dX7_tries_83 ?_
    refine v_iret K dX7_tries_84 ?_
    exact ⟨rfl, by first | exact hQq1 | (have hx := hQq1; simp only [List.append_assoc, List.cons_append, List.nil_append] at hx ⊢; exact hx), hFq1⟩
  · skip
    exfalso; omega

abbrev P_X7_tries_2w (h : Mm) (o w dp : Nat) (m x : Int32) (L : List Nat) : Option Value → Mm → Prop := fun r h2 => r = some (.int (vcT 2 x (nI w))) ∧ VQ h2 o w m (L ++ vcTt 2) ∧ FrO 106 108 h h2
theorem c_X7_tries_2w {l : Launch} (h : Mm) (o w dp : Nat) (m x : Int32) (L : List Nat) (hQ : VQ h o w m L) (ho7 : o < 7) (hL : L.length ≤ 35) (hdp : dp ≤ 37) : Con l yX7_tries cX7_tries 4 (some .int) 3 67 132 GL h [.ref 106, .int (nI 2), .int x, .int (nI dp)] (P_X7_tries_2w h o w dp m x L) := by
  refine Con.ofV (own := "FoxRounds$Voices") (nm := "tries") rfl rfl (by decide) (Nat.le_of_ble_eq_true rfl) ?_
  intro κ ρ hkl K
  subst hkl
  show V κ (QM κ (132, ρ, GL, 0, 0) (P_X7_tries_2w h o w dp m x L)) 4 (132, ρ, GL, 0, 0) h 0 [(0, .ref 106), (1, .int (nI 2)), (2, .int x), (3, .int (nI dp))] []
  refine v_iload_n K dX7_tries_0 rfl ?_
  refine v_bipushN K 40 rfl dX7_tries_1 ?_
  refine v_icmpN_le (tgt := 8) K (by omega) (by omega) dX7_tries_3 rfl (fun c1 => ?_) (fun c1 => ?_)
  · skip
    refine v_iload_n K dX7_tries_8 rfl ?_
    refine v_lookN (off := 45) (tgt := 54) K (by decide) 2 dX7_tries_9 rfl (by decide) rfl rfl ?_
    refine v_aload_n K dX7_tries_54 rfl ?_
    refine v_bipushN K 30 rfl dX7_tries_55 ?_
    refine v_callV (As := [.int (nI 30)]) K (c_X7_begin h o w 30 m (L) hQ (by (try simp only [List.length_append, List.length_cons, List.length_nil]); have t1 := vcTt_len ho7; have t2 := vcSt_len ho7; have t3 := vcFt_len ho7 ho7; (try simp only [vcTt, vcSt, vcFt, vcLt, List.length_append, List.length_cons, List.length_nil] at *); omega)) lX7_41 ck_X7 rfl sh_106 pl_106 rfl ⟨by decide, by decide⟩ (Nat.le_of_ble_eq_true rfl) dX7_tries_57 (fun r1 h1 hp1 => ?_) rfl
    obtain ⟨rfl, hQq1, hF0q1⟩ := hp1
    have hFq1 := FrO.t (FrO.r (lo := 106) (hi := 108) (h := h)) hF0q1
    refine v_none ?_
    refine v_aload_n K dX7_tries_60 rfl ?_
    refine v_iconstN K 0 rfl dX7_tries_61 ?_
    refine v_iload_n K dX7_tries_62 rfl ?_
    refine v_iload_n K dX7_tries_63 rfl ?_
    refine v_iconstN K 1 rfl dX7_tries_64 ?_
    refine v_iaddN K dX7_tries_65 ?_
    refine v_callV (As := [.int (nI 0), .int x, .int (nI (dp + 1))]) K (c_X7_tries_0 h1 o w (dp + 1) m x (L ++ [30]) hQq1 ho7 (by (try simp only [List.length_append, List.length_cons, List.length_nil]); have t1 := vcTt_len ho7; have t2 := vcSt_len ho7; have t3 := vcFt_len ho7 ho7; (try simp only [vcTt, vcSt, vcFt, vcLt, List.length_append, List.length_cons, List.length_nil] at *); omega) (by omega)) lX7_28 ck_X7 rfl sh_106 pl_106 rfl ⟨by decide, by decide⟩ (Nat.le_of_ble_eq_true rfl) dX7_tries_66 (fun r2 h2 hp2 => ?_) rfl
    obtain ⟨rfl, hQq2, hF0q2⟩ := hp2
    have hFq2 := FrO.t hFq1 hF0q2
    refine v_some ?_
    refine v_iconstN K 3 rfl dX7_tries_69 ?_
    refine v_imul K dX7_tries_70 ?_
    refine v_iret K dX7_tries_71 ?_
    exact ⟨rfl, by first | exact hQq2 | (have hx := hQq2; simp only [List.append_assoc, List.cons_append, List.nil_append] at hx ⊢; exact hx), hFq2⟩
  · skip
    exfalso; omega

abbrev P_X7_tries_3w (h : Mm) (o w dp : Nat) (m x : Int32) (L : List Nat) : Option Value → Mm → Prop := fun r h2 => r = some (.int (vcT 3 x (nI w))) ∧ VQ h2 o w m (L ++ vcTt 3) ∧ FrO 106 108 h h2
theorem c_X7_tries_3w {l : Launch} (h : Mm) (o w dp : Nat) (m x : Int32) (L : List Nat) (hQ : VQ h o w m L) (ho7 : o < 7) (hL : L.length ≤ 36) (hdp : dp ≤ 38) : Con l yX7_tries cX7_tries 4 (some .int) 3 67 132 GL h [.ref 106, .int (nI 3), .int x, .int (nI dp)] (P_X7_tries_3w h o w dp m x L) := by
  refine Con.ofV (own := "FoxRounds$Voices") (nm := "tries") rfl rfl (by decide) (Nat.le_of_ble_eq_true rfl) ?_
  intro κ ρ hkl K
  subst hkl
  show V κ (QM κ (132, ρ, GL, 0, 0) (P_X7_tries_3w h o w dp m x L)) 4 (132, ρ, GL, 0, 0) h 0 [(0, .ref 106), (1, .int (nI 3)), (2, .int x), (3, .int (nI dp))] []
  refine v_iload_n K dX7_tries_0 rfl ?_
  refine v_bipushN K 40 rfl dX7_tries_1 ?_
  refine v_icmpN_le (tgt := 8) K (by omega) (by omega) dX7_tries_3 rfl (fun c1 => ?_) (fun c1 => ?_)
  · skip
    refine v_iload_n K dX7_tries_8 rfl ?_
    refine v_lookN (off := 63) (tgt := 72) K (by decide) 3 dX7_tries_9 rfl (by decide) rfl rfl ?_
    refine v_aload_n K dX7_tries_72 rfl ?_
    refine v_bipushN K 10 rfl dX7_tries_73 ?_
    refine v_callV (As := [.int (nI 10)]) K (c_X7_begin h o w 10 m (L) hQ (by (try simp only [List.length_append, List.length_cons, List.length_nil]); have t1 := vcTt_len ho7; have t2 := vcSt_len ho7; have t3 := vcFt_len ho7 ho7; (try simp only [vcTt, vcSt, vcFt, vcLt, List.length_append, List.length_cons, List.length_nil] at *); omega)) lX7_41 ck_X7 rfl sh_106 pl_106 rfl ⟨by decide, by decide⟩ (Nat.le_of_ble_eq_true rfl) dX7_tries_75 (fun r1 h1 hp1 => ?_) rfl
    obtain ⟨rfl, hQq1, hF0q1⟩ := hp1
    have hFq1 := FrO.t (FrO.r (lo := 106) (hi := 108) (h := h)) hF0q1
    refine v_none ?_
    refine v_iload_n K dX7_tries_78 rfl ?_
    refine v_aload_n K dX7_tries_79 rfl ?_
    refine v_geti (x := nI w) K fX7_22 sh_106 pl_106 hQq1.2.2.2.1 dX7_tries_80 ?_
    refine v_iadd K dX7_tries_83 ?_
    refine v_iret K dX7_tries_84 ?_
    exact ⟨rfl, by first | exact hQq1 | (have hx := hQq1; simp only [List.append_assoc, List.cons_append, List.nil_append] at hx ⊢; exact hx), hFq1⟩
  · skip
    exfalso; omega

abbrev P_X7_tries_5w (h : Mm) (o w dp : Nat) (m x : Int32) (L : List Nat) : Option Value → Mm → Prop := fun r h2 => r = some (.int (vcT 5 x (nI w))) ∧ VQ h2 o w m (L ++ vcTt 5) ∧ FrO 106 108 h h2
theorem c_X7_tries_5w {l : Launch} (h : Mm) (o w dp : Nat) (m x : Int32) (L : List Nat) (hQ : VQ h o w m L) (ho7 : o < 7) (hL : L.length ≤ 36) (hdp : dp ≤ 38) : Con l yX7_tries cX7_tries 4 (some .int) 3 67 132 GL h [.ref 106, .int (nI 5), .int x, .int (nI dp)] (P_X7_tries_5w h o w dp m x L) := by
  refine Con.ofV (own := "FoxRounds$Voices") (nm := "tries") rfl rfl (by decide) (Nat.le_of_ble_eq_true rfl) ?_
  intro κ ρ hkl K
  subst hkl
  show V κ (QM κ (132, ρ, GL, 0, 0) (P_X7_tries_5w h o w dp m x L)) 4 (132, ρ, GL, 0, 0) h 0 [(0, .ref 106), (1, .int (nI 5)), (2, .int x), (3, .int (nI dp))] []
  refine v_iload_n K dX7_tries_0 rfl ?_
  refine v_bipushN K 40 rfl dX7_tries_1 ?_
  refine v_icmpN_le (tgt := 8) K (by omega) (by omega) dX7_tries_3 rfl (fun c1 => ?_) (fun c1 => ?_)
  · skip
    refine v_iload_n K dX7_tries_8 rfl ?_
    refine v_lookN (off := 63) (tgt := 72) K (by decide) 5 dX7_tries_9 rfl (by decide) rfl rfl ?_
    refine v_aload_n K dX7_tries_72 rfl ?_
    refine v_bipushN K 10 rfl dX7_tries_73 ?_
    refine v_callV (As := [.int (nI 10)]) K (c_X7_begin h o w 10 m (L) hQ (by (try simp only [List.length_append, List.length_cons, List.length_nil]); have t1 := vcTt_len ho7; have t2 := vcSt_len ho7; have t3 := vcFt_len ho7 ho7; (try simp only [vcTt, vcSt, vcFt, vcLt, List.length_append, List.length_cons, List.length_nil] at *); omega)) lX7_41 ck_X7 rfl sh_106 pl_106 rfl ⟨by decide, by decide⟩ (Nat.le_of_ble_eq_true rfl) dX7_tries_75 (fun r1 h1 hp1 => ?_) rfl
    obtain ⟨rfl, hQq1, hF0q1⟩ := hp1
    have hFq1 := FrO.t (FrO.r (lo := 106) (hi := 108) (h := h)) hF0q1
    refine v_none ?_
    refine v_iload_n K dX7_tries_78 rfl ?_
    refine v_aload_n K dX7_tries_79 rfl ?_
    refine v_geti (x := nI w) K fX7_22 sh_106 pl_106 hQq1.2.2.2.1 dX7_tries_80 ?_
    refine v_iadd K dX7_tries_83 ?_
    refine v_iret K dX7_tries_84 ?_
    exact ⟨rfl, by first | exact hQq1 | (have hx := hQq1; simp only [List.append_assoc, List.cons_append, List.nil_append] at hx ⊢; exact hx), hFq1⟩
  · skip
    exfalso; omega

abbrev P_X7_tries_6w (h : Mm) (o w dp : Nat) (m x : Int32) (L : List Nat) : Option Value → Mm → Prop := fun r h2 => r = some (.int (vcT 6 x (nI w))) ∧ VQ h2 o w m (L ++ vcTt 6) ∧ FrO 106 108 h h2
theorem c_X7_tries_6w {l : Launch} (h : Mm) (o w dp : Nat) (m x : Int32) (L : List Nat) (hQ : VQ h o w m L) (ho7 : o < 7) (hL : L.length ≤ 36) (hdp : dp ≤ 38) : Con l yX7_tries cX7_tries 4 (some .int) 3 67 132 GL h [.ref 106, .int (nI 6), .int x, .int (nI dp)] (P_X7_tries_6w h o w dp m x L) := by
  refine Con.ofV (own := "FoxRounds$Voices") (nm := "tries") rfl rfl (by decide) (Nat.le_of_ble_eq_true rfl) ?_
  intro κ ρ hkl K
  subst hkl
  show V κ (QM κ (132, ρ, GL, 0, 0) (P_X7_tries_6w h o w dp m x L)) 4 (132, ρ, GL, 0, 0) h 0 [(0, .ref 106), (1, .int (nI 6)), (2, .int x), (3, .int (nI dp))] []
  refine v_iload_n K dX7_tries_0 rfl ?_
  refine v_bipushN K 40 rfl dX7_tries_1 ?_
  refine v_icmpN_le (tgt := 8) K (by omega) (by omega) dX7_tries_3 rfl (fun c1 => ?_) (fun c1 => ?_)
  · skip
    refine v_iload_n K dX7_tries_8 rfl ?_
    refine v_lookN (off := 63) (tgt := 72) K (by decide) 6 dX7_tries_9 rfl (by decide) rfl rfl ?_
    refine v_aload_n K dX7_tries_72 rfl ?_
    refine v_bipushN K 10 rfl dX7_tries_73 ?_
    refine v_callV (As := [.int (nI 10)]) K (c_X7_begin h o w 10 m (L) hQ (by (try simp only [List.length_append, List.length_cons, List.length_nil]); have t1 := vcTt_len ho7; have t2 := vcSt_len ho7; have t3 := vcFt_len ho7 ho7; (try simp only [vcTt, vcSt, vcFt, vcLt, List.length_append, List.length_cons, List.length_nil] at *); omega)) lX7_41 ck_X7 rfl sh_106 pl_106 rfl ⟨by decide, by decide⟩ (Nat.le_of_ble_eq_true rfl) dX7_tries_75 (fun r1 h1 hp1 => ?_) rfl
    obtain ⟨rfl, hQq1, hF0q1⟩ := hp1
    have hFq1 := FrO.t (FrO.r (lo := 106) (hi := 108) (h := h)) hF0q1
    refine v_none ?_
    refine v_iload_n K dX7_tries_78 rfl ?_
    refine v_aload_n K dX7_tries_79 rfl ?_
    refine v_geti (x := nI w) K fX7_22 sh_106 pl_106 hQq1.2.2.2.1 dX7_tries_80 ?_
    refine v_iadd K dX7_tries_83 ?_
    refine v_iret K dX7_tries_84 ?_
    exact ⟨rfl, by first | exact hQq1 | (have hx := hQq1; simp only [List.append_assoc, List.cons_append, List.nil_append] at hx ⊢; exact hx), hFq1⟩
  · skip
    exfalso; omega

abbrev P_X7_tries (h : Mm) (o w dp : Nat) (m x : Int32) (L : List Nat) (k : Nat) : Option Value → Mm → Prop := fun r h2 => r = some (.int (vcT k x (nI w))) ∧ VQ h2 o w m (L ++ vcTt k) ∧ FrO 106 108 h h2
theorem c_X7_tries {l : Launch} (h : Mm) (o w dp : Nat) (m x : Int32) (L : List Nat) (hQ : VQ h o w m L) (ho7 : o < 7) (hL : L.length ≤ 34) (hdp : dp ≤ 36) (k : Nat) (hk : k < 7) : Con l yX7_tries cX7_tries 4 (some .int) 3 67 132 GL h [.ref 106, .int (nI k), .int x, .int (nI dp)] (P_X7_tries h o w dp m x L k) := by
  obtain rfl | rfl | rfl | rfl | rfl | rfl | rfl : k = 0 ∨ k = 1 ∨ k = 2 ∨ k = 3 ∨ k = 4 ∨ k = 5 ∨ k = 6 := by omega
  · exact c_X7_tries_0w h o w dp m x L hQ ho7 (by omega) (by omega)
  · exact c_X7_tries_1w h o w dp m x L hQ ho7 (by omega) (by omega)
  · exact c_X7_tries_2w h o w dp m x L hQ ho7 (by omega) (by omega)
  · exact c_X7_tries_3w h o w dp m x L hQ ho7 (by omega) (by omega)
  · exact c_X7_tries_4 h o w dp m x L hQ ho7 (by omega) (by omega)
  · exact c_X7_tries_5w h o w dp m x L hQ ho7 (by omega) (by omega)
  · exact c_X7_tries_6w h o w dp m x L hQ ho7 (by omega) (by omega)

abbrev P_X7_shuts_0 (h : Mm) (o w dp : Nat) (m x : Int32) (L : List Nat) : Option Value → Mm → Prop := fun r h2 => r = some (.int (vcS 0 x m)) ∧ VQ h2 o w m (L ++ vcSt 0) ∧ FrO 106 108 h h2
theorem c_X7_shuts_0 {l : Launch} (h : Mm) (o w dp : Nat) (m x : Int32) (L : List Nat) (hQ : VQ h o w m L) (ho7 : o < 7) (hL : L.length ≤ 37) (hdp : dp ≤ 38) : Con l yX7_shuts cX7_shuts 4 (some .int) 1 21 132 GL h [.ref 106, .int (nI 0), .int x, .int (nI dp)] (P_X7_shuts_0 h o w dp m x L) := by
  refine Con.ofV (own := "FoxRounds$Voices") (nm := "shuts") rfl rfl (by decide) (Nat.le_of_ble_eq_true rfl) ?_
  intro κ ρ hkl K
  subst hkl
  show V κ (QM κ (132, ρ, GL, 0, 0) (P_X7_shuts_0 h o w dp m x L)) 4 (132, ρ, GL, 0, 0) h 0 [(0, .ref 106), (1, .int (nI 0)), (2, .int x), (3, .int (nI dp))] []
  refine v_iload_n K dX7_shuts_0 rfl ?_
  refine v_bipushN K 40 rfl dX7_shuts_1 ?_
  refine v_icmpN_le (tgt := 8) K (by omega) (by omega) dX7_shuts_3 rfl (fun c1 => ?_) (fun c1 => ?_)
  · skip
    refine v_iload_n K dX7_shuts_8 rfl ?_
    refine v_lookN (off := 44) (tgt := 53) K (by decide) 0 dX7_shuts_9 rfl (by decide) rfl rfl ?_
    refine v_aload_n K dX7_shuts_53 rfl ?_
    refine v_bipushN K 12 rfl dX7_shuts_54 ?_
    refine v_callV (As := [.int (nI 12)]) K (c_X7_begin h o w 12 m (L) hQ (by (try simp only [List.length_append, List.length_cons, List.length_nil]); have t1 := vcTt_len ho7; have t2 := vcSt_len ho7; have t3 := vcFt_len ho7 ho7; (try simp only [vcTt, vcSt, vcFt, vcLt, List.length_append, List.length_cons, List.length_nil] at *); omega)) lX7_41 ck_X7 rfl sh_106 pl_106 rfl ⟨by decide, by decide⟩ (Nat.le_of_ble_eq_true rfl) dX7_shuts_56 (fun r1 h1 hp1 => ?_) rfl
    obtain ⟨rfl, hQq1, hF0q1⟩ := hp1
    have hFq1 := FrO.t (FrO.r (lo := 106) (hi := 108) (h := h)) hF0q1
    refine v_none ?_
    refine v_iload_n K dX7_shuts_59 rfl ?_
    refine v_aload_n K dX7_shuts_60 rfl ?_
    refine v_geti (x := m) K fX7_25 sh_106 pl_106 hQq1.2.2.2.2 dX7_shuts_61 ?_
    refine v_isub K dX7_shuts_64 ?_
    refine v_iret K dX7_shuts_65 ?_
    exact ⟨rfl, by first | exact hQq1 | (have hx := hQq1; simp only [List.append_assoc, List.cons_append, List.nil_append] at hx ⊢; exact hx), hFq1⟩
  · skip
    exfalso; omega

abbrev P_X7_shuts_1 (h : Mm) (o w dp : Nat) (m x : Int32) (L : List Nat) : Option Value → Mm → Prop := fun r h2 => r = some (.int (vcS 1 x m)) ∧ VQ h2 o w m (L ++ vcSt 1) ∧ FrO 106 108 h h2
theorem c_X7_shuts_1 {l : Launch} (h : Mm) (o w dp : Nat) (m x : Int32) (L : List Nat) (hQ : VQ h o w m L) (ho7 : o < 7) (hL : L.length ≤ 37) (hdp : dp ≤ 38) : Con l yX7_shuts cX7_shuts 4 (some .int) 1 21 132 GL h [.ref 106, .int (nI 1), .int x, .int (nI dp)] (P_X7_shuts_1 h o w dp m x L) := by
  refine Con.ofV (own := "FoxRounds$Voices") (nm := "shuts") rfl rfl (by decide) (Nat.le_of_ble_eq_true rfl) ?_
  intro κ ρ hkl K
  subst hkl
  show V κ (QM κ (132, ρ, GL, 0, 0) (P_X7_shuts_1 h o w dp m x L)) 4 (132, ρ, GL, 0, 0) h 0 [(0, .ref 106), (1, .int (nI 1)), (2, .int x), (3, .int (nI dp))] []
  refine v_iload_n K dX7_shuts_0 rfl ?_
  refine v_bipushN K 40 rfl dX7_shuts_1 ?_
  refine v_icmpN_le (tgt := 8) K (by omega) (by omega) dX7_shuts_3 rfl (fun c1 => ?_) (fun c1 => ?_)
  · skip
    refine v_iload_n K dX7_shuts_8 rfl ?_
    refine v_lookN (off := 44) (tgt := 53) K (by decide) 1 dX7_shuts_9 rfl (by decide) rfl rfl ?_
    refine v_aload_n K dX7_shuts_53 rfl ?_
    refine v_bipushN K 12 rfl dX7_shuts_54 ?_
    refine v_callV (As := [.int (nI 12)]) K (c_X7_begin h o w 12 m (L) hQ (by (try simp only [List.length_append, List.length_cons, List.length_nil]); have t1 := vcTt_len ho7; have t2 := vcSt_len ho7; have t3 := vcFt_len ho7 ho7; (try simp only [vcTt, vcSt, vcFt, vcLt, List.length_append, List.length_cons, List.length_nil] at *); omega)) lX7_41 ck_X7 rfl sh_106 pl_106 rfl ⟨by decide, by decide⟩ (Nat.le_of_ble_eq_true rfl) dX7_shuts_56 (fun r1 h1 hp1 => ?_) rfl
    obtain ⟨rfl, hQq1, hF0q1⟩ := hp1
    have hFq1 := FrO.t (FrO.r (lo := 106) (hi := 108) (h := h)) hF0q1
    refine v_none ?_
    refine v_iload_n K dX7_shuts_59 rfl ?_
    refine v_aload_n K dX7_shuts_60 rfl ?_
    refine v_geti (x := m) K fX7_25 sh_106 pl_106 hQq1.2.2.2.2 dX7_shuts_61 ?_
    refine v_isub K dX7_shuts_64 ?_
    refine v_iret K dX7_shuts_65 ?_
    exact ⟨rfl, by first | exact hQq1 | (have hx := hQq1; simp only [List.append_assoc, List.cons_append, List.nil_append] at hx ⊢; exact hx), hFq1⟩
  · skip
    exfalso; omega

abbrev P_X7_shuts_2 (h : Mm) (o w dp : Nat) (m x : Int32) (L : List Nat) : Option Value → Mm → Prop := fun r h2 => r = some (.int (vcS 2 x m)) ∧ VQ h2 o w m (L ++ vcSt 2) ∧ FrO 106 108 h h2
theorem c_X7_shuts_2 {l : Launch} (h : Mm) (o w dp : Nat) (m x : Int32) (L : List Nat) (hQ : VQ h o w m L) (ho7 : o < 7) (hL : L.length ≤ 37) (hdp : dp ≤ 38) : Con l yX7_shuts cX7_shuts 4 (some .int) 1 21 132 GL h [.ref 106, .int (nI 2), .int x, .int (nI dp)] (P_X7_shuts_2 h o w dp m x L) := by
  refine Con.ofV (own := "FoxRounds$Voices") (nm := "shuts") rfl rfl (by decide) (Nat.le_of_ble_eq_true rfl) ?_
  intro κ ρ hkl K
  subst hkl
  show V κ (QM κ (132, ρ, GL, 0, 0) (P_X7_shuts_2 h o w dp m x L)) 4 (132, ρ, GL, 0, 0) h 0 [(0, .ref 106), (1, .int (nI 2)), (2, .int x), (3, .int (nI dp))] []
  refine v_iload_n K dX7_shuts_0 rfl ?_
  refine v_bipushN K 40 rfl dX7_shuts_1 ?_
  refine v_icmpN_le (tgt := 8) K (by omega) (by omega) dX7_shuts_3 rfl (fun c1 => ?_) (fun c1 => ?_)
  · skip
    refine v_iload_n K dX7_shuts_8 rfl ?_
    refine v_lookN (off := 44) (tgt := 53) K (by decide) 2 dX7_shuts_9 rfl (by decide) rfl rfl ?_
    refine v_aload_n K dX7_shuts_53 rfl ?_
    refine v_bipushN K 12 rfl dX7_shuts_54 ?_
    refine v_callV (As := [.int (nI 12)]) K (c_X7_begin h o w 12 m (L) hQ (by (try simp only [List.length_append, List.length_cons, List.length_nil]); have t1 := vcTt_len ho7; have t2 := vcSt_len ho7; have t3 := vcFt_len ho7 ho7; (try simp only [vcTt, vcSt, vcFt, vcLt, List.length_append, List.length_cons, List.length_nil] at *); omega)) lX7_41 ck_X7 rfl sh_106 pl_106 rfl ⟨by decide, by decide⟩ (Nat.le_of_ble_eq_true rfl) dX7_shuts_56 (fun r1 h1 hp1 => ?_) rfl
    obtain ⟨rfl, hQq1, hF0q1⟩ := hp1
    have hFq1 := FrO.t (FrO.r (lo := 106) (hi := 108) (h := h)) hF0q1
    refine v_none ?_
    refine v_iload_n K dX7_shuts_59 rfl ?_
    refine v_aload_n K dX7_shuts_60 rfl ?_
    refine v_geti (x := m) K fX7_25 sh_106 pl_106 hQq1.2.2.2.2 dX7_shuts_61 ?_
    refine v_isub K dX7_shuts_64 ?_
    refine v_iret K dX7_shuts_65 ?_
    exact ⟨rfl, by first | exact hQq1 | (have hx := hQq1; simp only [List.append_assoc, List.cons_append, List.nil_append] at hx ⊢; exact hx), hFq1⟩
  · skip
    exfalso; omega

abbrev P_X7_shuts_3 (h : Mm) (o w dp : Nat) (m x : Int32) (L : List Nat) : Option Value → Mm → Prop := fun r h2 => r = some (.int (vcS 3 x m)) ∧ VQ h2 o w m (L ++ vcSt 3) ∧ FrO 106 108 h h2
theorem c_X7_shuts_3 {l : Launch} (h : Mm) (o w dp : Nat) (m x : Int32) (L : List Nat) (hQ : VQ h o w m L) (ho7 : o < 7) (hL : L.length ≤ 36) (hdp : dp ≤ 37) : Con l yX7_shuts cX7_shuts 4 (some .int) 2 44 132 GL h [.ref 106, .int (nI 3), .int x, .int (nI dp)] (P_X7_shuts_3 h o w dp m x L) := by
  refine Con.ofV (own := "FoxRounds$Voices") (nm := "shuts") rfl rfl (by decide) (Nat.le_of_ble_eq_true rfl) ?_
  intro κ ρ hkl K
  subst hkl
  show V κ (QM κ (132, ρ, GL, 0, 0) (P_X7_shuts_3 h o w dp m x L)) 4 (132, ρ, GL, 0, 0) h 0 [(0, .ref 106), (1, .int (nI 3)), (2, .int x), (3, .int (nI dp))] []
  refine v_iload_n K dX7_shuts_0 rfl ?_
  refine v_bipushN K 40 rfl dX7_shuts_1 ?_
  refine v_icmpN_le (tgt := 8) K (by omega) (by omega) dX7_shuts_3 rfl (fun c1 => ?_) (fun c1 => ?_)
  · skip
    refine v_iload_n K dX7_shuts_8 rfl ?_
    refine v_lookN (off := 27) (tgt := 36) K (by decide) 3 dX7_shuts_9 rfl (by decide) rfl rfl ?_
    refine v_aload_n K dX7_shuts_36 rfl ?_
    refine v_bipushN K 40 rfl dX7_shuts_37 ?_
    refine v_callV (As := [.int (nI 40)]) K (c_X7_begin h o w 40 m (L) hQ (by (try simp only [List.length_append, List.length_cons, List.length_nil]); have t1 := vcTt_len ho7; have t2 := vcSt_len ho7; have t3 := vcFt_len ho7 ho7; (try simp only [vcTt, vcSt, vcFt, vcLt, List.length_append, List.length_cons, List.length_nil] at *); omega)) lX7_41 ck_X7 rfl sh_106 pl_106 rfl ⟨by decide, by decide⟩ (Nat.le_of_ble_eq_true rfl) dX7_shuts_39 (fun r1 h1 hp1 => ?_) rfl
    obtain ⟨rfl, hQq1, hF0q1⟩ := hp1
    have hFq1 := FrO.t (FrO.r (lo := 106) (hi := 108) (h := h)) hF0q1
    refine v_none ?_
    refine v_aload_n K dX7_shuts_42 rfl ?_
    refine v_iconstN K 0 rfl dX7_shuts_43 ?_
    refine v_iload_n K dX7_shuts_44 rfl ?_
    refine v_iload_n K dX7_shuts_45 rfl ?_
    refine v_iconstN K 1 rfl dX7_shuts_46 ?_
    refine v_iaddN K dX7_shuts_47 ?_
    refine v_callV (As := [.int (nI 0), .int x, .int (nI (dp + 1))]) K (c_X7_shuts_0 h1 o w (dp + 1) m x (L ++ [40]) hQq1 ho7 (by (try simp only [List.length_append, List.length_cons, List.length_nil]); have t1 := vcTt_len ho7; have t2 := vcSt_len ho7; have t3 := vcFt_len ho7 ho7; (try simp only [vcTt, vcSt, vcFt, vcLt, List.length_append, List.length_cons, List.length_nil] at *); omega) (by omega)) lX7_35 ck_X7 rfl sh_106 pl_106 rfl ⟨by decide, by decide⟩ (Nat.le_of_ble_eq_true rfl) dX7_shuts_48 (fun r2 h2 hp2 => ?_) rfl
    obtain ⟨rfl, hQq2, hF0q2⟩ := hp2
    have hFq2 := FrO.t hFq1 hF0q2
    refine v_some ?_
    refine v_ineg K dX7_shuts_51 ?_
    refine v_iret K dX7_shuts_52 ?_
    exact ⟨rfl, by first | exact hQq2 | (have hx := hQq2; simp only [List.append_assoc, List.cons_append, List.nil_append] at hx ⊢; exact hx), hFq2⟩
  · skip
    exfalso; omega

abbrev P_X7_shuts_4 (h : Mm) (o w dp : Nat) (m x : Int32) (L : List Nat) : Option Value → Mm → Prop := fun r h2 => r = some (.int (vcS 4 x m)) ∧ VQ h2 o w m (L ++ vcSt 4) ∧ FrO 106 108 h h2
theorem c_X7_shuts_4 {l : Launch} (h : Mm) (o w dp : Nat) (m x : Int32) (L : List Nat) (hQ : VQ h o w m L) (ho7 : o < 7) (hL : L.length ≤ 37) (hdp : dp ≤ 38) : Con l yX7_shuts cX7_shuts 4 (some .int) 1 21 132 GL h [.ref 106, .int (nI 4), .int x, .int (nI dp)] (P_X7_shuts_4 h o w dp m x L) := by
  refine Con.ofV (own := "FoxRounds$Voices") (nm := "shuts") rfl rfl (by decide) (Nat.le_of_ble_eq_true rfl) ?_
  intro κ ρ hkl K
  subst hkl
  show V κ (QM κ (132, ρ, GL, 0, 0) (P_X7_shuts_4 h o w dp m x L)) 4 (132, ρ, GL, 0, 0) h 0 [(0, .ref 106), (1, .int (nI 4)), (2, .int x), (3, .int (nI dp))] []
  refine v_iload_n K dX7_shuts_0 rfl ?_
  refine v_bipushN K 40 rfl dX7_shuts_1 ?_
  refine v_icmpN_le (tgt := 8) K (by omega) (by omega) dX7_shuts_3 rfl (fun c1 => ?_) (fun c1 => ?_)
  · skip
    refine v_iload_n K dX7_shuts_8 rfl ?_
    refine v_lookN (off := 44) (tgt := 53) K (by decide) 4 dX7_shuts_9 rfl (by decide) rfl rfl ?_
    refine v_aload_n K dX7_shuts_53 rfl ?_
    refine v_bipushN K 12 rfl dX7_shuts_54 ?_
    refine v_callV (As := [.int (nI 12)]) K (c_X7_begin h o w 12 m (L) hQ (by (try simp only [List.length_append, List.length_cons, List.length_nil]); have t1 := vcTt_len ho7; have t2 := vcSt_len ho7; have t3 := vcFt_len ho7 ho7; (try simp only [vcTt, vcSt, vcFt, vcLt, List.length_append, List.length_cons, List.length_nil] at *); omega)) lX7_41 ck_X7 rfl sh_106 pl_106 rfl ⟨by decide, by decide⟩ (Nat.le_of_ble_eq_true rfl) dX7_shuts_56 (fun r1 h1 hp1 => ?_) rfl
    obtain ⟨rfl, hQq1, hF0q1⟩ := hp1
    have hFq1 := FrO.t (FrO.r (lo := 106) (hi := 108) (h := h)) hF0q1
    refine v_none ?_
    refine v_iload_n K dX7_shuts_59 rfl ?_
    refine v_aload_n K dX7_shuts_60 rfl ?_
    refine v_geti (x := m) K fX7_25 sh_106 pl_106 hQq1.2.2.2.2 dX7_shuts_61 ?_
    refine v_isub K dX7_shuts_64 ?_
    refine v_iret K dX7_shuts_65 ?_
    exact ⟨rfl, by first | exact hQq1 | (have hx := hQq1; simp only [List.append_assoc, List.cons_append, List.nil_append] at hx ⊢; exact hx), hFq1⟩
  · skip
    exfalso; omega

abbrev P_X7_shuts_5 (h : Mm) (o w dp : Nat) (m x : Int32) (L : List Nat) : Option Value → Mm → Prop := fun r h2 => r = some (.int (vcS 5 x m)) ∧ VQ h2 o w m (L ++ vcSt 5) ∧ FrO 106 108 h h2
theorem c_X7_shuts_5 {l : Launch} (h : Mm) (o w dp : Nat) (m x : Int32) (L : List Nat) (hQ : VQ h o w m L) (ho7 : o < 7) (hL : L.length ≤ 36) (hdp : dp ≤ 37) : Con l yX7_shuts cX7_shuts 4 (some .int) 2 44 132 GL h [.ref 106, .int (nI 5), .int x, .int (nI dp)] (P_X7_shuts_5 h o w dp m x L) := by
  refine Con.ofV (own := "FoxRounds$Voices") (nm := "shuts") rfl rfl (by decide) (Nat.le_of_ble_eq_true rfl) ?_
  intro κ ρ hkl K
  subst hkl
  show V κ (QM κ (132, ρ, GL, 0, 0) (P_X7_shuts_5 h o w dp m x L)) 4 (132, ρ, GL, 0, 0) h 0 [(0, .ref 106), (1, .int (nI 5)), (2, .int x), (3, .int (nI dp))] []
  refine v_iload_n K dX7_shuts_0 rfl ?_
  refine v_bipushN K 40 rfl dX7_shuts_1 ?_
  refine v_icmpN_le (tgt := 8) K (by omega) (by omega) dX7_shuts_3 rfl (fun c1 => ?_) (fun c1 => ?_)
  · skip
    refine v_iload_n K dX7_shuts_8 rfl ?_
    refine v_lookN (off := 27) (tgt := 36) K (by decide) 5 dX7_shuts_9 rfl (by decide) rfl rfl ?_
    refine v_aload_n K dX7_shuts_36 rfl ?_
    refine v_bipushN K 40 rfl dX7_shuts_37 ?_
    refine v_callV (As := [.int (nI 40)]) K (c_X7_begin h o w 40 m (L) hQ (by (try simp only [List.length_append, List.length_cons, List.length_nil]); have t1 := vcTt_len ho7; have t2 := vcSt_len ho7; have t3 := vcFt_len ho7 ho7; (try simp only [vcTt, vcSt, vcFt, vcLt, List.length_append, List.length_cons, List.length_nil] at *); omega)) lX7_41 ck_X7 rfl sh_106 pl_106 rfl ⟨by decide, by decide⟩ (Nat.le_of_ble_eq_true rfl) dX7_shuts_39 (fun r1 h1 hp1 => ?_) rfl
    obtain ⟨rfl, hQq1, hF0q1⟩ := hp1
    have hFq1 := FrO.t (FrO.r (lo := 106) (hi := 108) (h := h)) hF0q1
    refine v_none ?_
    refine v_aload_n K dX7_shuts_42 rfl ?_
    refine v_iconstN K 0 rfl dX7_shuts_43 ?_
    refine v_iload_n K dX7_shuts_44 rfl ?_
    refine v_iload_n K dX7_shuts_45 rfl ?_
    refine v_iconstN K 1 rfl dX7_shuts_46 ?_
    refine v_iaddN K dX7_shuts_47 ?_
    refine v_callV (As := [.int (nI 0), .int x, .int (nI (dp + 1))]) K (c_X7_shuts_0 h1 o w (dp + 1) m x (L ++ [40]) hQq1 ho7 (by (try simp only [List.length_append, List.length_cons, List.length_nil]); have t1 := vcTt_len ho7; have t2 := vcSt_len ho7; have t3 := vcFt_len ho7 ho7; (try simp only [vcTt, vcSt, vcFt, vcLt, List.length_append, List.length_cons, List.length_nil] at *); omega) (by omega)) lX7_35 ck_X7 rfl sh_106 pl_106 rfl ⟨by decide, by decide⟩ (Nat.le_of_ble_eq_true rfl) dX7_shuts_48 (fun r2 h2 hp2 => ?_) rfl
    obtain ⟨rfl, hQq2, hF0q2⟩ := hp2
    have hFq2 := FrO.t hFq1 hF0q2
    refine v_some ?_
    refine v_ineg K dX7_shuts_51 ?_
    refine v_iret K dX7_shuts_52 ?_
    exact ⟨rfl, by first | exact hQq2 | (have hx := hQq2; simp only [List.append_assoc, List.cons_append, List.nil_append] at hx ⊢; exact hx), hFq2⟩
  · skip
    exfalso; omega

abbrev P_X7_shuts_6 (h : Mm) (o w dp : Nat) (m x : Int32) (L : List Nat) : Option Value → Mm → Prop := fun r h2 => r = some (.int (vcS 6 x m)) ∧ VQ h2 o w m (L ++ vcSt 6) ∧ FrO 106 108 h h2
theorem c_X7_shuts_6 {l : Launch} (h : Mm) (o w dp : Nat) (m x : Int32) (L : List Nat) (hQ : VQ h o w m L) (ho7 : o < 7) (hL : L.length ≤ 37) (hdp : dp ≤ 38) : Con l yX7_shuts cX7_shuts 4 (some .int) 1 21 132 GL h [.ref 106, .int (nI 6), .int x, .int (nI dp)] (P_X7_shuts_6 h o w dp m x L) := by
  refine Con.ofV (own := "FoxRounds$Voices") (nm := "shuts") rfl rfl (by decide) (Nat.le_of_ble_eq_true rfl) ?_
  intro κ ρ hkl K
  subst hkl
  show V κ (QM κ (132, ρ, GL, 0, 0) (P_X7_shuts_6 h o w dp m x L)) 4 (132, ρ, GL, 0, 0) h 0 [(0, .ref 106), (1, .int (nI 6)), (2, .int x), (3, .int (nI dp))] []
  refine v_iload_n K dX7_shuts_0 rfl ?_
  refine v_bipushN K 40 rfl dX7_shuts_1 ?_
  refine v_icmpN_le (tgt := 8) K (by omega) (by omega) dX7_shuts_3 rfl (fun c1 => ?_) (fun c1 => ?_)
  · skip
    refine v_iload_n K dX7_shuts_8 rfl ?_
    refine v_lookN (off := 44) (tgt := 53) K (by decide) 6 dX7_shuts_9 rfl (by decide) rfl rfl ?_
    refine v_aload_n K dX7_shuts_53 rfl ?_
    refine v_bipushN K 12 rfl dX7_shuts_54 ?_
    refine v_callV (As := [.int (nI 12)]) K (c_X7_begin h o w 12 m (L) hQ (by (try simp only [List.length_append, List.length_cons, List.length_nil]); have t1 := vcTt_len ho7; have t2 := vcSt_len ho7; have t3 := vcFt_len ho7 ho7; (try simp only [vcTt, vcSt, vcFt, vcLt, List.length_append, List.length_cons, List.length_nil] at *); omega)) lX7_41 ck_X7 rfl sh_106 pl_106 rfl ⟨by decide, by decide⟩ (Nat.le_of_ble_eq_true rfl) dX7_shuts_56 (fun r1 h1 hp1 => ?_) rfl
    obtain ⟨rfl, hQq1, hF0q1⟩ := hp1
    have hFq1 := FrO.t (FrO.r (lo := 106) (hi := 108) (h := h)) hF0q1
    refine v_none ?_
    refine v_iload_n K dX7_shuts_59 rfl ?_
    refine v_aload_n K dX7_shuts_60 rfl ?_
    refine v_geti (x := m) K fX7_25 sh_106 pl_106 hQq1.2.2.2.2 dX7_shuts_61 ?_
    refine v_isub K dX7_shuts_64 ?_
    refine v_iret K dX7_shuts_65 ?_
    exact ⟨rfl, by first | exact hQq1 | (have hx := hQq1; simp only [List.append_assoc, List.cons_append, List.nil_append] at hx ⊢; exact hx), hFq1⟩
  · skip
    exfalso; omega

abbrev P_X7_shuts_0w (h : Mm) (o w dp : Nat) (m x : Int32) (L : List Nat) : Option Value → Mm → Prop := fun r h2 => r = some (.int (vcS 0 x m)) ∧ VQ h2 o w m (L ++ vcSt 0) ∧ FrO 106 108 h h2
theorem c_X7_shuts_0w {l : Launch} (h : Mm) (o w dp : Nat) (m x : Int32) (L : List Nat) (hQ : VQ h o w m L) (ho7 : o < 7) (hL : L.length ≤ 37) (hdp : dp ≤ 38) : Con l yX7_shuts cX7_shuts 4 (some .int) 2 44 132 GL h [.ref 106, .int (nI 0), .int x, .int (nI dp)] (P_X7_shuts_0w h o w dp m x L) := by
  refine Con.ofV (own := "FoxRounds$Voices") (nm := "shuts") rfl rfl (by decide) (Nat.le_of_ble_eq_true rfl) ?_
  intro κ ρ hkl K
  subst hkl
  show V κ (QM κ (132, ρ, GL, 0, 0) (P_X7_shuts_0w h o w dp m x L)) 4 (132, ρ, GL, 0, 0) h 0 [(0, .ref 106), (1, .int (nI 0)), (2, .int x), (3, .int (nI dp))] []
  refine v_iload_n K dX7_shuts_0 rfl ?_
  refine v_bipushN K 40 rfl dX7_shuts_1 ?_
  refine v_icmpN_le (tgt := 8) K (by omega) (by omega) dX7_shuts_3 rfl (fun c1 => ?_) (fun c1 => ?_)
  · skip
    refine v_iload_n K dX7_shuts_8 rfl ?_
    refine v_lookN (off := 44) (tgt := 53) K (by decide) 0 dX7_shuts_9 rfl (by decide) rfl rfl ?_
    refine v_aload_n K dX7_shuts_53 rfl ?_
    refine v_bipushN K 12 rfl dX7_shuts_54 ?_
    refine v_callV (As := [.int (nI 12)]) K (c_X7_begin h o w 12 m (L) hQ (by (try simp only [List.length_append, List.length_cons, List.length_nil]); have t1 := vcTt_len ho7; have t2 := vcSt_len ho7; have t3 := vcFt_len ho7 ho7; (try simp only [vcTt, vcSt, vcFt, vcLt, List.length_append, List.length_cons, List.length_nil] at *); omega)) lX7_41 ck_X7 rfl sh_106 pl_106 rfl ⟨by decide, by decide⟩ (Nat.le_of_ble_eq_true rfl) dX7_shuts_56 (fun r1 h1 hp1 => ?_) rfl
    obtain ⟨rfl, hQq1, hF0q1⟩ := hp1
    have hFq1 := FrO.t (FrO.r (lo := 106) (hi := 108) (h := h)) hF0q1
    refine v_none ?_
    refine v_iload_n K dX7_shuts_59 rfl ?_
    refine v_aload_n K dX7_shuts_60 rfl ?_
    refine v_geti (x := m) K fX7_25 sh_106 pl_106 hQq1.2.2.2.2 dX7_shuts_61 ?_
    refine v_isub K dX7_shuts_64 ?_
    refine v_iret K dX7_shuts_65 ?_
    exact ⟨rfl, by first | exact hQq1 | (have hx := hQq1; simp only [List.append_assoc, List.cons_append, List.nil_append] at hx ⊢; exact hx), hFq1⟩
  · skip
    exfalso; omega

abbrev P_X7_shuts_1w (h : Mm) (o w dp : Nat) (m x : Int32) (L : List Nat) : Option Value → Mm → Prop := fun r h2 => r = some (.int (vcS 1 x m)) ∧ VQ h2 o w m (L ++ vcSt 1) ∧ FrO 106 108 h h2
theorem c_X7_shuts_1w {l : Launch} (h : Mm) (o w dp : Nat) (m x : Int32) (L : List Nat) (hQ : VQ h o w m L) (ho7 : o < 7) (hL : L.length ≤ 37) (hdp : dp ≤ 38) : Con l yX7_shuts cX7_shuts 4 (some .int) 2 44 132 GL h [.ref 106, .int (nI 1), .int x, .int (nI dp)] (P_X7_shuts_1w h o w dp m x L) := by
  refine Con.ofV (own := "FoxRounds$Voices") (nm := "shuts") rfl rfl (by decide) (Nat.le_of_ble_eq_true rfl) ?_
  intro κ ρ hkl K
  subst hkl
  show V κ (QM κ (132, ρ, GL, 0, 0) (P_X7_shuts_1w h o w dp m x L)) 4 (132, ρ, GL, 0, 0) h 0 [(0, .ref 106), (1, .int (nI 1)), (2, .int x), (3, .int (nI dp))] []
  refine v_iload_n K dX7_shuts_0 rfl ?_
  refine v_bipushN K 40 rfl dX7_shuts_1 ?_
  refine v_icmpN_le (tgt := 8) K (by omega) (by omega) dX7_shuts_3 rfl (fun c1 => ?_) (fun c1 => ?_)
  · skip
    refine v_iload_n K dX7_shuts_8 rfl ?_
    refine v_lookN (off := 44) (tgt := 53) K (by decide) 1 dX7_shuts_9 rfl (by decide) rfl rfl ?_
    refine v_aload_n K dX7_shuts_53 rfl ?_
    refine v_bipushN K 12 rfl dX7_shuts_54 ?_
    refine v_callV (As := [.int (nI 12)]) K (c_X7_begin h o w 12 m (L) hQ (by (try simp only [List.length_append, List.length_cons, List.length_nil]); have t1 := vcTt_len ho7; have t2 := vcSt_len ho7; have t3 := vcFt_len ho7 ho7; (try simp only [vcTt, vcSt, vcFt, vcLt, List.length_append, List.length_cons, List.length_nil] at *); omega)) lX7_41 ck_X7 rfl sh_106 pl_106 rfl ⟨by decide, by decide⟩ (Nat.le_of_ble_eq_true rfl) dX7_shuts_56 (fun r1 h1 hp1 => ?_) rfl
    obtain ⟨rfl, hQq1, hF0q1⟩ := hp1
    have hFq1 := FrO.t (FrO.r (lo := 106) (hi := 108) (h := h)) hF0q1
    refine v_none ?_
    refine v_iload_n K dX7_shuts_59 rfl ?_
    refine v_aload_n K dX7_shuts_60 rfl ?_
    refine v_geti (x := m) K fX7_25 sh_106 pl_106 hQq1.2.2.2.2 dX7_shuts_61 ?_
    refine v_isub K dX7_shuts_64 ?_
    refine v_iret K dX7_shuts_65 ?_
    exact ⟨rfl, by first | exact hQq1 | (have hx := hQq1; simp only [List.append_assoc, List.cons_append, List.nil_append] at hx ⊢; exact hx), hFq1⟩
  · skip
    exfalso; omega

abbrev P_X7_shuts_2w (h : Mm) (o w dp : Nat) (m x : Int32) (L : List Nat) : Option Value → Mm → Prop := fun r h2 => r = some (.int (vcS 2 x m)) ∧ VQ h2 o w m (L ++ vcSt 2) ∧ FrO 106 108 h h2
theorem c_X7_shuts_2w {l : Launch} (h : Mm) (o w dp : Nat) (m x : Int32) (L : List Nat) (hQ : VQ h o w m L) (ho7 : o < 7) (hL : L.length ≤ 37) (hdp : dp ≤ 38) : Con l yX7_shuts cX7_shuts 4 (some .int) 2 44 132 GL h [.ref 106, .int (nI 2), .int x, .int (nI dp)] (P_X7_shuts_2w h o w dp m x L) := by
  refine Con.ofV (own := "FoxRounds$Voices") (nm := "shuts") rfl rfl (by decide) (Nat.le_of_ble_eq_true rfl) ?_
  intro κ ρ hkl K
  subst hkl
  show V κ (QM κ (132, ρ, GL, 0, 0) (P_X7_shuts_2w h o w dp m x L)) 4 (132, ρ, GL, 0, 0) h 0 [(0, .ref 106), (1, .int (nI 2)), (2, .int x), (3, .int (nI dp))] []
  refine v_iload_n K dX7_shuts_0 rfl ?_
  refine v_bipushN K 40 rfl dX7_shuts_1 ?_
  refine v_icmpN_le (tgt := 8) K (by omega) (by omega) dX7_shuts_3 rfl (fun c1 => ?_) (fun c1 => ?_)
  · skip
    refine v_iload_n K dX7_shuts_8 rfl ?_
    refine v_lookN (off := 44) (tgt := 53) K (by decide) 2 dX7_shuts_9 rfl (by decide) rfl rfl ?_
    refine v_aload_n K dX7_shuts_53 rfl ?_
    refine v_bipushN K 12 rfl dX7_shuts_54 ?_
    refine v_callV (As := [.int (nI 12)]) K (c_X7_begin h o w 12 m (L) hQ (by (try simp only [List.length_append, List.length_cons, List.length_nil]); have t1 := vcTt_len ho7; have t2 := vcSt_len ho7; have t3 := vcFt_len ho7 ho7; (try simp only [vcTt, vcSt, vcFt, vcLt, List.length_append, List.length_cons, List.length_nil] at *); omega)) lX7_41 ck_X7 rfl sh_106 pl_106 rfl ⟨by decide, by decide⟩ (Nat.le_of_ble_eq_true rfl) dX7_shuts_56 (fun r1 h1 hp1 => ?_) rfl
    obtain ⟨rfl, hQq1, hF0q1⟩ := hp1
    have hFq1 := FrO.t (FrO.r (lo := 106) (hi := 108) (h := h)) hF0q1
    refine v_none ?_
    refine v_iload_n K dX7_shuts_59 rfl ?_
    refine v_aload_n K dX7_shuts_60 rfl ?_
    refine v_geti (x := m) K fX7_25 sh_106 pl_106 hQq1.2.2.2.2 dX7_shuts_61 ?_
    refine v_isub K dX7_shuts_64 ?_
    refine v_iret K dX7_shuts_65 ?_
    exact ⟨rfl, by first | exact hQq1 | (have hx := hQq1; simp only [List.append_assoc, List.cons_append, List.nil_append] at hx ⊢; exact hx), hFq1⟩
  · skip
    exfalso; omega

abbrev P_X7_shuts_4w (h : Mm) (o w dp : Nat) (m x : Int32) (L : List Nat) : Option Value → Mm → Prop := fun r h2 => r = some (.int (vcS 4 x m)) ∧ VQ h2 o w m (L ++ vcSt 4) ∧ FrO 106 108 h h2
theorem c_X7_shuts_4w {l : Launch} (h : Mm) (o w dp : Nat) (m x : Int32) (L : List Nat) (hQ : VQ h o w m L) (ho7 : o < 7) (hL : L.length ≤ 37) (hdp : dp ≤ 38) : Con l yX7_shuts cX7_shuts 4 (some .int) 2 44 132 GL h [.ref 106, .int (nI 4), .int x, .int (nI dp)] (P_X7_shuts_4w h o w dp m x L) := by
  refine Con.ofV (own := "FoxRounds$Voices") (nm := "shuts") rfl rfl (by decide) (Nat.le_of_ble_eq_true rfl) ?_
  intro κ ρ hkl K
  subst hkl
  show V κ (QM κ (132, ρ, GL, 0, 0) (P_X7_shuts_4w h o w dp m x L)) 4 (132, ρ, GL, 0, 0) h 0 [(0, .ref 106), (1, .int (nI 4)), (2, .int x), (3, .int (nI dp))] []
  refine v_iload_n K dX7_shuts_0 rfl ?_
  refine v_bipushN K 40 rfl dX7_shuts_1 ?_
  refine v_icmpN_le (tgt := 8) K (by omega) (by omega) dX7_shuts_3 rfl (fun c1 => ?_) (fun c1 => ?_)
  · skip
    refine v_iload_n K dX7_shuts_8 rfl ?_
    refine v_lookN (off := 44) (tgt := 53) K (by decide) 4 dX7_shuts_9 rfl (by decide) rfl rfl ?_
    refine v_aload_n K dX7_shuts_53 rfl ?_
    refine v_bipushN K 12 rfl dX7_shuts_54 ?_
    refine v_callV (As := [.int (nI 12)]) K (c_X7_begin h o w 12 m (L) hQ (by (try simp only [List.length_append, List.length_cons, List.length_nil]); have t1 := vcTt_len ho7; have t2 := vcSt_len ho7; have t3 := vcFt_len ho7 ho7; (try simp only [vcTt, vcSt, vcFt, vcLt, List.length_append, List.length_cons, List.length_nil] at *); omega)) lX7_41 ck_X7 rfl sh_106 pl_106 rfl ⟨by decide, by decide⟩ (Nat.le_of_ble_eq_true rfl) dX7_shuts_56 (fun r1 h1 hp1 => ?_) rfl
    obtain ⟨rfl, hQq1, hF0q1⟩ := hp1
    have hFq1 := FrO.t (FrO.r (lo := 106) (hi := 108) (h := h)) hF0q1
    refine v_none ?_
    refine v_iload_n K dX7_shuts_59 rfl ?_
    refine v_aload_n K dX7_shuts_60 rfl ?_
    refine v_geti (x := m) K fX7_25 sh_106 pl_106 hQq1.2.2.2.2 dX7_shuts_61 ?_
    refine v_isub K dX7_shuts_64 ?_
    refine v_iret K dX7_shuts_65 ?_
    exact ⟨rfl, by first | exact hQq1 | (have hx := hQq1; simp only [List.append_assoc, List.cons_append, List.nil_append] at hx ⊢; exact hx), hFq1⟩
  · skip
    exfalso; omega

abbrev P_X7_shuts_6w (h : Mm) (o w dp : Nat) (m x : Int32) (L : List Nat) : Option Value → Mm → Prop := fun r h2 => r = some (.int (vcS 6 x m)) ∧ VQ h2 o w m (L ++ vcSt 6) ∧ FrO 106 108 h h2
theorem c_X7_shuts_6w {l : Launch} (h : Mm) (o w dp : Nat) (m x : Int32) (L : List Nat) (hQ : VQ h o w m L) (ho7 : o < 7) (hL : L.length ≤ 37) (hdp : dp ≤ 38) : Con l yX7_shuts cX7_shuts 4 (some .int) 2 44 132 GL h [.ref 106, .int (nI 6), .int x, .int (nI dp)] (P_X7_shuts_6w h o w dp m x L) := by
  refine Con.ofV (own := "FoxRounds$Voices") (nm := "shuts") rfl rfl (by decide) (Nat.le_of_ble_eq_true rfl) ?_
  intro κ ρ hkl K
  subst hkl
  show V κ (QM κ (132, ρ, GL, 0, 0) (P_X7_shuts_6w h o w dp m x L)) 4 (132, ρ, GL, 0, 0) h 0 [(0, .ref 106), (1, .int (nI 6)), (2, .int x), (3, .int (nI dp))] []
  refine v_iload_n K dX7_shuts_0 rfl ?_
  refine v_bipushN K 40 rfl dX7_shuts_1 ?_
  refine v_icmpN_le (tgt := 8) K (by omega) (by omega) dX7_shuts_3 rfl (fun c1 => ?_) (fun c1 => ?_)
  · skip
    refine v_iload_n K dX7_shuts_8 rfl ?_
    refine v_lookN (off := 44) (tgt := 53) K (by decide) 6 dX7_shuts_9 rfl (by decide) rfl rfl ?_
    refine v_aload_n K dX7_shuts_53 rfl ?_
    refine v_bipushN K 12 rfl dX7_shuts_54 ?_
    refine v_callV (As := [.int (nI 12)]) K (c_X7_begin h o w 12 m (L) hQ (by (try simp only [List.length_append, List.length_cons, List.length_nil]); have t1 := vcTt_len ho7; have t2 := vcSt_len ho7; have t3 := vcFt_len ho7 ho7; (try simp only [vcTt, vcSt, vcFt, vcLt, List.length_append, List.length_cons, List.length_nil] at *); omega)) lX7_41 ck_X7 rfl sh_106 pl_106 rfl ⟨by decide, by decide⟩ (Nat.le_of_ble_eq_true rfl) dX7_shuts_56 (fun r1 h1 hp1 => ?_) rfl
    obtain ⟨rfl, hQq1, hF0q1⟩ := hp1
    have hFq1 := FrO.t (FrO.r (lo := 106) (hi := 108) (h := h)) hF0q1
    refine v_none ?_
    refine v_iload_n K dX7_shuts_59 rfl ?_
    refine v_aload_n K dX7_shuts_60 rfl ?_
    refine v_geti (x := m) K fX7_25 sh_106 pl_106 hQq1.2.2.2.2 dX7_shuts_61 ?_
    refine v_isub K dX7_shuts_64 ?_
    refine v_iret K dX7_shuts_65 ?_
    exact ⟨rfl, by first | exact hQq1 | (have hx := hQq1; simp only [List.append_assoc, List.cons_append, List.nil_append] at hx ⊢; exact hx), hFq1⟩
  · skip
    exfalso; omega

abbrev P_X7_shuts (h : Mm) (o w dp : Nat) (m x : Int32) (L : List Nat) (k : Nat) : Option Value → Mm → Prop := fun r h2 => r = some (.int (vcS k x m)) ∧ VQ h2 o w m (L ++ vcSt k) ∧ FrO 106 108 h h2
theorem c_X7_shuts {l : Launch} (h : Mm) (o w dp : Nat) (m x : Int32) (L : List Nat) (hQ : VQ h o w m L) (ho7 : o < 7) (hL : L.length ≤ 36) (hdp : dp ≤ 37) (k : Nat) (hk : k < 7) : Con l yX7_shuts cX7_shuts 4 (some .int) 2 44 132 GL h [.ref 106, .int (nI k), .int x, .int (nI dp)] (P_X7_shuts h o w dp m x L k) := by
  obtain rfl | rfl | rfl | rfl | rfl | rfl | rfl : k = 0 ∨ k = 1 ∨ k = 2 ∨ k = 3 ∨ k = 4 ∨ k = 5 ∨ k = 6 := by omega
  · exact c_X7_shuts_0w h o w dp m x L hQ ho7 (by omega) (by omega)
  · exact c_X7_shuts_1w h o w dp m x L hQ ho7 (by omega) (by omega)
  · exact c_X7_shuts_2w h o w dp m x L hQ ho7 (by omega) (by omega)
  · exact c_X7_shuts_3 h o w dp m x L hQ ho7 (by omega) (by omega)
  · exact c_X7_shuts_4w h o w dp m x L hQ ho7 (by omega) (by omega)
  · exact c_X7_shuts_5 h o w dp m x L hQ ho7 (by omega) (by omega)
  · exact c_X7_shuts_6w h o w dp m x L hQ ho7 (by omega) (by omega)

abbrev P_X7_fears_0 (h : Mm) (o w dp : Nat) (m x : Int32) (L : List Nat) : Option Value → Mm → Prop := fun r h2 => r = some (.int (vcF o 0 x (nI w) m)) ∧ VQ h2 o w m (L ++ vcFt o 0) ∧ FrO 106 108 h h2
theorem c_X7_fears_0 {l : Launch} (h : Mm) (o w dp : Nat) (m x : Int32) (L : List Nat) (hQ : VQ h o w m L) (ho7 : o < 7) (hL : L.length ≤ 33) (hdp : dp ≤ 35) : Con l yX7_fears cX7_fears 4 (some .int) 4 90 132 GL h [.ref 106, .int (nI 0), .int x, .int (nI dp)] (P_X7_fears_0 h o w dp m x L) := by
  refine Con.ofV (own := "FoxRounds$Voices") (nm := "fears") rfl rfl (by decide) (Nat.le_of_ble_eq_true rfl) ?_
  intro κ ρ hkl K
  subst hkl
  show V κ (QM κ (132, ρ, GL, 0, 0) (P_X7_fears_0 h o w dp m x L)) 4 (132, ρ, GL, 0, 0) h 0 [(0, .ref 106), (1, .int (nI 0)), (2, .int x), (3, .int (nI dp))] []
  refine v_iload_n K dX7_fears_0 rfl ?_
  refine v_bipushN K 40 rfl dX7_fears_1 ?_
  refine v_icmpN_le (tgt := 8) K (by omega) (by omega) dX7_fears_3 rfl (fun c1 => ?_) (fun c1 => ?_)
  · skip
    refine v_iload_n K dX7_fears_8 rfl ?_
    refine v_lookN (off := 77) (tgt := 86) K (by decide) 0 dX7_fears_9 rfl (by decide) rfl rfl ?_
    refine v_aload_n K dX7_fears_86 rfl ?_
    refine v_bipushN K 11 rfl dX7_fears_87 ?_
    refine v_callV (As := [.int (nI 11)]) K (c_X7_begin h o w 11 m (L) hQ (by (try simp only [List.length_append, List.length_cons, List.length_nil]); have t1 := vcTt_len ho7; have t2 := vcSt_len ho7; have t3 := vcFt_len ho7 ho7; (try simp only [vcTt, vcSt, vcFt, vcLt, List.length_append, List.length_cons, List.length_nil] at *); omega)) lX7_41 ck_X7 rfl sh_106 pl_106 rfl ⟨by decide, by decide⟩ (Nat.le_of_ble_eq_true rfl) dX7_fears_89 (fun r1 h1 hp1 => ?_) rfl
    obtain ⟨rfl, hQq1, hF0q1⟩ := hp1
    have hFq1 := FrO.t (FrO.r (lo := 106) (hi := 108) (h := h)) hF0q1
    refine v_none ?_
    refine v_aload_n K dX7_fears_92 rfl ?_
    refine v_aload_n K dX7_fears_93 rfl ?_
    refine v_geti (x := nI o) K fX7_19 sh_106 pl_106 hQq1.2.2.1 dX7_fears_94 ?_
    refine v_iload_n K dX7_fears_97 rfl ?_
    refine v_iload_n K dX7_fears_98 rfl ?_
    refine v_iconstN K 1 rfl dX7_fears_99 ?_
    refine v_iaddN K dX7_fears_100 ?_
    refine v_callV (As := [.int (nI o), .int x, .int (nI (dp + 1))]) K (c_X7_tries h1 o w (dp + 1) m x (L ++ [11]) hQq1 ho7 (by (try simp only [List.length_append, List.length_cons, List.length_nil]); have t1 := vcTt_len ho7; have t2 := vcSt_len ho7; have t3 := vcFt_len ho7 ho7; (try simp only [vcTt, vcSt, vcFt, vcLt, List.length_append, List.length_cons, List.length_nil] at *); omega) (by omega) o (by omega)) lX7_28 ck_X7 rfl sh_106 pl_106 rfl ⟨by decide, by decide⟩ (Nat.le_of_ble_eq_true rfl) dX7_fears_101 (fun r2 h2 hp2 => ?_) rfl
    obtain ⟨rfl, hQq2, hF0q2⟩ := hp2
    have hFq2 := FrO.t hFq1 hF0q2
    refine v_some ?_
    refine v_iconstN K 2 rfl dX7_fears_104 ?_
    refine v_imul K dX7_fears_105 ?_
    refine v_iret K dX7_fears_106 ?_
    exact ⟨rfl, by first | exact hQq2 | (have hx := hQq2; simp only [List.append_assoc, List.cons_append, List.nil_append] at hx ⊢; exact hx), hFq2⟩
  · skip
    exfalso; omega

abbrev P_X7_fears_1 (h : Mm) (o w dp : Nat) (m x : Int32) (L : List Nat) : Option Value → Mm → Prop := fun r h2 => r = some (.int (vcF o 1 x (nI w) m)) ∧ VQ h2 o w m (L ++ vcFt o 1) ∧ FrO 106 108 h h2
theorem c_X7_fears_1 {l : Launch} (h : Mm) (o w dp : Nat) (m x : Int32) (L : List Nat) (hQ : VQ h o w m L) (ho7 : o < 7) (hL : L.length ≤ 31) (hdp : dp ≤ 34) : Con l yX7_fears cX7_fears 4 (some .int) 5 113 132 GL h [.ref 106, .int (nI 1), .int x, .int (nI dp)] (P_X7_fears_1 h o w dp m x L) := by
  refine Con.ofV (own := "FoxRounds$Voices") (nm := "fears") rfl rfl (by decide) (Nat.le_of_ble_eq_true rfl) ?_
  intro κ ρ hkl K
  subst hkl
  show V κ (QM κ (132, ρ, GL, 0, 0) (P_X7_fears_1 h o w dp m x L)) 4 (132, ρ, GL, 0, 0) h 0 [(0, .ref 106), (1, .int (nI 1)), (2, .int x), (3, .int (nI dp))] []
  refine v_iload_n K dX7_fears_0 rfl ?_
  refine v_bipushN K 40 rfl dX7_fears_1 ?_
  refine v_icmpN_le (tgt := 8) K (by omega) (by omega) dX7_fears_3 rfl (fun c1 => ?_) (fun c1 => ?_)
  · skip
    refine v_iload_n K dX7_fears_8 rfl ?_
    refine v_lookN (off := 48) (tgt := 57) K (by decide) 1 dX7_fears_9 rfl (by decide) rfl rfl ?_
    refine v_aload_n K dX7_fears_57 rfl ?_
    refine v_bipushN K 20 rfl dX7_fears_58 ?_
    refine v_callV (As := [.int (nI 20)]) K (c_X7_begin h o w 20 m (L) hQ (by (try simp only [List.length_append, List.length_cons, List.length_nil]); have t1 := vcTt_len ho7; have t2 := vcSt_len ho7; have t3 := vcFt_len ho7 ho7; (try simp only [vcTt, vcSt, vcFt, vcLt, List.length_append, List.length_cons, List.length_nil] at *); omega)) lX7_41 ck_X7 rfl sh_106 pl_106 rfl ⟨by decide, by decide⟩ (Nat.le_of_ble_eq_true rfl) dX7_fears_60 (fun r1 h1 hp1 => ?_) rfl
    obtain ⟨rfl, hQq1, hF0q1⟩ := hp1
    have hFq1 := FrO.t (FrO.r (lo := 106) (hi := 108) (h := h)) hF0q1
    refine v_none ?_
    refine v_aload_n K dX7_fears_63 rfl ?_
    refine v_iconstN K 0 rfl dX7_fears_64 ?_
    refine v_iload_n K dX7_fears_65 rfl ?_
    refine v_iload_n K dX7_fears_66 rfl ?_
    refine v_iconstN K 1 rfl dX7_fears_67 ?_
    refine v_iaddN K dX7_fears_68 ?_
    refine v_callV (As := [.int (nI 0), .int x, .int (nI (dp + 1))]) K (c_X7_fears_0 h1 o w (dp + 1) m x (L ++ [20]) hQq1 ho7 (by (try simp only [List.length_append, List.length_cons, List.length_nil]); have t1 := vcTt_len ho7; have t2 := vcSt_len ho7; have t3 := vcFt_len ho7 ho7; (try simp only [vcTt, vcSt, vcFt, vcLt, List.length_append, List.length_cons, List.length_nil] at *); omega) (by omega)) lX7_32 ck_X7 rfl sh_106 pl_106 rfl ⟨by decide, by decide⟩ (Nat.le_of_ble_eq_true rfl) dX7_fears_69 (fun r2 h2 hp2 => ?_) rfl
    obtain ⟨rfl, hQq2, hF0q2⟩ := hp2
    have hFq2 := FrO.t hFq1 hF0q2
    refine v_some ?_
    refine v_aload_n K dX7_fears_72 rfl ?_
    refine v_aload_n K dX7_fears_73 rfl ?_
    refine v_geti (x := nI o) K fX7_19 sh_106 pl_106 hQq2.2.2.1 dX7_fears_74 ?_
    refine v_iconstN K 1 rfl dX7_fears_77 ?_
    refine v_iload_n K dX7_fears_78 rfl ?_
    refine v_iconstN K 1 rfl dX7_fears_79 ?_
    refine v_iaddN K dX7_fears_80 ?_
    refine v_callV (As := [.int (nI o), .int (nI 1), .int (nI (dp + 1))]) K (c_X7_shuts h2 o w (dp + 1) m (nI 1) (L ++ [20] ++ (vcFt o 0)) hQq2 ho7 (by (try simp only [List.length_append, List.length_cons, List.length_nil]); have t1 := vcTt_len ho7; have t2 := vcSt_len ho7; have t3 := vcFt_len ho7 ho7; (try simp only [vcTt, vcSt, vcFt, vcLt, List.length_append, List.length_cons, List.length_nil] at *); omega) (by omega) o (by omega)) lX7_35 ck_X7 rfl sh_106 pl_106 rfl ⟨by decide, by decide⟩ (Nat.le_of_ble_eq_true rfl) dX7_fears_81 (fun r3 h3 hp3 => ?_) rfl
    obtain ⟨rfl, hQq3, hF0q3⟩ := hp3
    have hFq3 := FrO.t hFq2 hF0q3
    refine v_some ?_
    refine v_isub K dX7_fears_84 ?_
    refine v_iret K dX7_fears_85 ?_
    exact ⟨rfl, by first | exact hQq3 | (have hx := hQq3; simp only [List.append_assoc, List.cons_append, List.nil_append] at hx ⊢; exact hx), hFq3⟩
  · skip
    exfalso; omega

abbrev P_X7_fears_2 (h : Mm) (o w dp : Nat) (m x : Int32) (L : List Nat) : Option Value → Mm → Prop := fun r h2 => r = some (.int (vcF o 2 x (nI w) m)) ∧ VQ h2 o w m (L ++ vcFt o 2) ∧ FrO 106 108 h h2
theorem c_X7_fears_2 {l : Launch} (h : Mm) (o w dp : Nat) (m x : Int32) (L : List Nat) (hQ : VQ h o w m L) (ho7 : o < 7) (hL : L.length ≤ 33) (hdp : dp ≤ 35) : Con l yX7_fears cX7_fears 4 (some .int) 4 90 132 GL h [.ref 106, .int (nI 2), .int x, .int (nI dp)] (P_X7_fears_2 h o w dp m x L) := by
  refine Con.ofV (own := "FoxRounds$Voices") (nm := "fears") rfl rfl (by decide) (Nat.le_of_ble_eq_true rfl) ?_
  intro κ ρ hkl K
  subst hkl
  show V κ (QM κ (132, ρ, GL, 0, 0) (P_X7_fears_2 h o w dp m x L)) 4 (132, ρ, GL, 0, 0) h 0 [(0, .ref 106), (1, .int (nI 2)), (2, .int x), (3, .int (nI dp))] []
  refine v_iload_n K dX7_fears_0 rfl ?_
  refine v_bipushN K 40 rfl dX7_fears_1 ?_
  refine v_icmpN_le (tgt := 8) K (by omega) (by omega) dX7_fears_3 rfl (fun c1 => ?_) (fun c1 => ?_)
  · skip
    refine v_iload_n K dX7_fears_8 rfl ?_
    refine v_lookN (off := 77) (tgt := 86) K (by decide) 2 dX7_fears_9 rfl (by decide) rfl rfl ?_
    refine v_aload_n K dX7_fears_86 rfl ?_
    refine v_bipushN K 11 rfl dX7_fears_87 ?_
    refine v_callV (As := [.int (nI 11)]) K (c_X7_begin h o w 11 m (L) hQ (by (try simp only [List.length_append, List.length_cons, List.length_nil]); have t1 := vcTt_len ho7; have t2 := vcSt_len ho7; have t3 := vcFt_len ho7 ho7; (try simp only [vcTt, vcSt, vcFt, vcLt, List.length_append, List.length_cons, List.length_nil] at *); omega)) lX7_41 ck_X7 rfl sh_106 pl_106 rfl ⟨by decide, by decide⟩ (Nat.le_of_ble_eq_true rfl) dX7_fears_89 (fun r1 h1 hp1 => ?_) rfl
    obtain ⟨rfl, hQq1, hF0q1⟩ := hp1
    have hFq1 := FrO.t (FrO.r (lo := 106) (hi := 108) (h := h)) hF0q1
    refine v_none ?_
    refine v_aload_n K dX7_fears_92 rfl ?_
    refine v_aload_n K dX7_fears_93 rfl ?_
    refine v_geti (x := nI o) K fX7_19 sh_106 pl_106 hQq1.2.2.1 dX7_fears_94 ?_
    refine v_iload_n K dX7_fears_97 rfl ?_
    refine v_iload_n K dX7_fears_98 rfl ?_
    refine v_iconstN K 1 rfl dX7_fears_99 ?_
    refine v_iaddN K dX7_fears_100 ?_
    refine v_callV (As := [.int (nI o), .int x, .int (nI (dp + 1))]) K (c_X7_tries h1 o w (dp + 1) m x (L ++ [11]) hQq1 ho7 (by (try simp only [List.length_append, List.length_cons, List.length_nil]); have t1 := vcTt_len ho7; have t2 := vcSt_len ho7; have t3 := vcFt_len ho7 ho7; (try simp only [vcTt, vcSt, vcFt, vcLt, List.length_append, List.length_cons, List.length_nil] at *); omega) (by omega) o (by omega)) lX7_28 ck_X7 rfl sh_106 pl_106 rfl ⟨by decide, by decide⟩ (Nat.le_of_ble_eq_true rfl) dX7_fears_101 (fun r2 h2 hp2 => ?_) rfl
    obtain ⟨rfl, hQq2, hF0q2⟩ := hp2
    have hFq2 := FrO.t hFq1 hF0q2
    refine v_some ?_
    refine v_iconstN K 2 rfl dX7_fears_104 ?_
    refine v_imul K dX7_fears_105 ?_
    refine v_iret K dX7_fears_106 ?_
    exact ⟨rfl, by first | exact hQq2 | (have hx := hQq2; simp only [List.append_assoc, List.cons_append, List.nil_append] at hx ⊢; exact hx), hFq2⟩
  · skip
    exfalso; omega

abbrev P_X7_fears_3 (h : Mm) (o w dp : Nat) (m x : Int32) (L : List Nat) : Option Value → Mm → Prop := fun r h2 => r = some (.int (vcF o 3 x (nI w) m)) ∧ VQ h2 o w m (L ++ vcFt o 3) ∧ FrO 106 108 h h2
theorem c_X7_fears_3 {l : Launch} (h : Mm) (o w dp : Nat) (m x : Int32) (L : List Nat) (hQ : VQ h o w m L) (ho7 : o < 7) (hL : L.length ≤ 33) (hdp : dp ≤ 35) : Con l yX7_fears cX7_fears 4 (some .int) 4 90 132 GL h [.ref 106, .int (nI 3), .int x, .int (nI dp)] (P_X7_fears_3 h o w dp m x L) := by
  refine Con.ofV (own := "FoxRounds$Voices") (nm := "fears") rfl rfl (by decide) (Nat.le_of_ble_eq_true rfl) ?_
  intro κ ρ hkl K
  subst hkl
  show V κ (QM κ (132, ρ, GL, 0, 0) (P_X7_fears_3 h o w dp m x L)) 4 (132, ρ, GL, 0, 0) h 0 [(0, .ref 106), (1, .int (nI 3)), (2, .int x), (3, .int (nI dp))] []
  refine v_iload_n K dX7_fears_0 rfl ?_
  refine v_bipushN K 40 rfl dX7_fears_1 ?_
  refine v_icmpN_le (tgt := 8) K (by omega) (by omega) dX7_fears_3 rfl (fun c1 => ?_) (fun c1 => ?_)
  · skip
    refine v_iload_n K dX7_fears_8 rfl ?_
    refine v_lookN (off := 77) (tgt := 86) K (by decide) 3 dX7_fears_9 rfl (by decide) rfl rfl ?_
    refine v_aload_n K dX7_fears_86 rfl ?_
    refine v_bipushN K 11 rfl dX7_fears_87 ?_
    refine v_callV (As := [.int (nI 11)]) K (c_X7_begin h o w 11 m (L) hQ (by (try simp only [List.length_append, List.length_cons, List.length_nil]); have t1 := vcTt_len ho7; have t2 := vcSt_len ho7; have t3 := vcFt_len ho7 ho7; (try simp only [vcTt, vcSt, vcFt, vcLt, List.length_append, List.length_cons, List.length_nil] at *); omega)) lX7_41 ck_X7 rfl sh_106 pl_106 rfl ⟨by decide, by decide⟩ (Nat.le_of_ble_eq_true rfl) dX7_fears_89 (fun r1 h1 hp1 => ?_) rfl
    obtain ⟨rfl, hQq1, hF0q1⟩ := hp1
    have hFq1 := FrO.t (FrO.r (lo := 106) (hi := 108) (h := h)) hF0q1
    refine v_none ?_
    refine v_aload_n K dX7_fears_92 rfl ?_
    refine v_aload_n K dX7_fears_93 rfl ?_
    refine v_geti (x := nI o) K fX7_19 sh_106 pl_106 hQq1.2.2.1 dX7_fears_94 ?_
    refine v_iload_n K dX7_fears_97 rfl ?_
    refine v_iload_n K dX7_fears_98 rfl ?_
    refine v_iconstN K 1 rfl dX7_fears_99 ?_
    refine v_iaddN K dX7_fears_100 ?_
    refine v_callV (As := [.int (nI o), .int x, .int (nI (dp + 1))]) K (c_X7_tries h1 o w (dp + 1) m x (L ++ [11]) hQq1 ho7 (by (try simp only [List.length_append, List.length_cons, List.length_nil]); have t1 := vcTt_len ho7; have t2 := vcSt_len ho7; have t3 := vcFt_len ho7 ho7; (try simp only [vcTt, vcSt, vcFt, vcLt, List.length_append, List.length_cons, List.length_nil] at *); omega) (by omega) o (by omega)) lX7_28 ck_X7 rfl sh_106 pl_106 rfl ⟨by decide, by decide⟩ (Nat.le_of_ble_eq_true rfl) dX7_fears_101 (fun r2 h2 hp2 => ?_) rfl
    obtain ⟨rfl, hQq2, hF0q2⟩ := hp2
    have hFq2 := FrO.t hFq1 hF0q2
    refine v_some ?_
    refine v_iconstN K 2 rfl dX7_fears_104 ?_
    refine v_imul K dX7_fears_105 ?_
    refine v_iret K dX7_fears_106 ?_
    exact ⟨rfl, by first | exact hQq2 | (have hx := hQq2; simp only [List.append_assoc, List.cons_append, List.nil_append] at hx ⊢; exact hx), hFq2⟩
  · skip
    exfalso; omega

abbrev P_X7_fears_4 (h : Mm) (o w dp : Nat) (m x : Int32) (L : List Nat) : Option Value → Mm → Prop := fun r h2 => r = some (.int (vcF o 4 x (nI w) m)) ∧ VQ h2 o w m (L ++ vcFt o 4) ∧ FrO 106 108 h h2
theorem c_X7_fears_4 {l : Launch} (h : Mm) (o w dp : Nat) (m x : Int32) (L : List Nat) (hQ : VQ h o w m L) (ho7 : o < 7) (hL : L.length ≤ 33) (hdp : dp ≤ 35) : Con l yX7_fears cX7_fears 4 (some .int) 4 90 132 GL h [.ref 106, .int (nI 4), .int x, .int (nI dp)] (P_X7_fears_4 h o w dp m x L) := by
  refine Con.ofV (own := "FoxRounds$Voices") (nm := "fears") rfl rfl (by decide) (Nat.le_of_ble_eq_true rfl) ?_
  intro κ ρ hkl K
  subst hkl
  show V κ (QM κ (132, ρ, GL, 0, 0) (P_X7_fears_4 h o w dp m x L)) 4 (132, ρ, GL, 0, 0) h 0 [(0, .ref 106), (1, .int (nI 4)), (2, .int x), (3, .int (nI dp))] []
  refine v_iload_n K dX7_fears_0 rfl ?_
  refine v_bipushN K 40 rfl dX7_fears_1 ?_
  refine v_icmpN_le (tgt := 8) K (by omega) (by omega) dX7_fears_3 rfl (fun c1 => ?_) (fun c1 => ?_)
  · skip
    refine v_iload_n K dX7_fears_8 rfl ?_
    refine v_lookN (off := 77) (tgt := 86) K (by decide) 4 dX7_fears_9 rfl (by decide) rfl rfl ?_
    refine v_aload_n K dX7_fears_86 rfl ?_
    refine v_bipushN K 11 rfl dX7_fears_87 ?_
    refine v_callV (As := [.int (nI 11)]) K (c_X7_begin h o w 11 m (L) hQ (by (try simp only [List.length_append, List.length_cons, List.length_nil]); have t1 := vcTt_len ho7; have t2 := vcSt_len ho7; have t3 := vcFt_len ho7 ho7; (try simp only [vcTt, vcSt, vcFt, vcLt, List.length_append, List.length_cons, List.length_nil] at *); omega)) lX7_41 ck_X7 rfl sh_106 pl_106 rfl ⟨by decide, by decide⟩ (Nat.le_of_ble_eq_true rfl) dX7_fears_89 (fun r1 h1 hp1 => ?_) rfl
    obtain ⟨rfl, hQq1, hF0q1⟩ := hp1
    have hFq1 := FrO.t (FrO.r (lo := 106) (hi := 108) (h := h)) hF0q1
    refine v_none ?_
    refine v_aload_n K dX7_fears_92 rfl ?_
    refine v_aload_n K dX7_fears_93 rfl ?_
    refine v_geti (x := nI o) K fX7_19 sh_106 pl_106 hQq1.2.2.1 dX7_fears_94 ?_
    refine v_iload_n K dX7_fears_97 rfl ?_
    refine v_iload_n K dX7_fears_98 rfl ?_
    refine v_iconstN K 1 rfl dX7_fears_99 ?_
    refine v_iaddN K dX7_fears_100 ?_
    refine v_callV (As := [.int (nI o), .int x, .int (nI (dp + 1))]) K (c_X7_tries h1 o w (dp + 1) m x (L ++ [11]) hQq1 ho7 (by (try simp only [List.length_append, List.length_cons, List.length_nil]); have t1 := vcTt_len ho7; have t2 := vcSt_len ho7; have t3 := vcFt_len ho7 ho7; (try simp only [vcTt, vcSt, vcFt, vcLt, List.length_append, List.length_cons, List.length_nil] at *); omega) (by omega) o (by omega)) lX7_28 ck_X7 rfl sh_106 pl_106 rfl ⟨by decide, by decide⟩ (Nat.le_of_ble_eq_true rfl) dX7_fears_101 (fun r2 h2 hp2 => ?_) rfl
    obtain ⟨rfl, hQq2, hF0q2⟩ := hp2
    have hFq2 := FrO.t hFq1 hF0q2
    refine v_some ?_
    refine v_iconstN K 2 rfl dX7_fears_104 ?_
    refine v_imul K dX7_fears_105 ?_
    refine v_iret K dX7_fears_106 ?_
    exact ⟨rfl, by first | exact hQq2 | (have hx := hQq2; simp only [List.append_assoc, List.cons_append, List.nil_append] at hx ⊢; exact hx), hFq2⟩
  · skip
    exfalso; omega

abbrev P_X7_fears_5 (h : Mm) (o w dp : Nat) (m x : Int32) (L : List Nat) : Option Value → Mm → Prop := fun r h2 => r = some (.int (vcF o 5 x (nI w) m)) ∧ VQ h2 o w m (L ++ vcFt o 5) ∧ FrO 106 108 h h2
theorem c_X7_fears_5 {l : Launch} (h : Mm) (o w dp : Nat) (m x : Int32) (L : List Nat) (hQ : VQ h o w m L) (ho7 : o < 7) (hL : L.length ≤ 33) (hdp : dp ≤ 35) : Con l yX7_fears cX7_fears 4 (some .int) 4 90 132 GL h [.ref 106, .int (nI 5), .int x, .int (nI dp)] (P_X7_fears_5 h o w dp m x L) := by
  refine Con.ofV (own := "FoxRounds$Voices") (nm := "fears") rfl rfl (by decide) (Nat.le_of_ble_eq_true rfl) ?_
  intro κ ρ hkl K
  subst hkl
  show V κ (QM κ (132, ρ, GL, 0, 0) (P_X7_fears_5 h o w dp m x L)) 4 (132, ρ, GL, 0, 0) h 0 [(0, .ref 106), (1, .int (nI 5)), (2, .int x), (3, .int (nI dp))] []
  refine v_iload_n K dX7_fears_0 rfl ?_
  refine v_bipushN K 40 rfl dX7_fears_1 ?_
  refine v_icmpN_le (tgt := 8) K (by omega) (by omega) dX7_fears_3 rfl (fun c1 => ?_) (fun c1 => ?_)
  · skip
    refine v_iload_n K dX7_fears_8 rfl ?_
    refine v_lookN (off := 77) (tgt := 86) K (by decide) 5 dX7_fears_9 rfl (by decide) rfl rfl ?_
    refine v_aload_n K dX7_fears_86 rfl ?_
    refine v_bipushN K 11 rfl dX7_fears_87 ?_
    refine v_callV (As := [.int (nI 11)]) K (c_X7_begin h o w 11 m (L) hQ (by (try simp only [List.length_append, List.length_cons, List.length_nil]); have t1 := vcTt_len ho7; have t2 := vcSt_len ho7; have t3 := vcFt_len ho7 ho7; (try simp only [vcTt, vcSt, vcFt, vcLt, List.length_append, List.length_cons, List.length_nil] at *); omega)) lX7_41 ck_X7 rfl sh_106 pl_106 rfl ⟨by decide, by decide⟩ (Nat.le_of_ble_eq_true rfl) dX7_fears_89 (fun r1 h1 hp1 => ?_) rfl
    obtain ⟨rfl, hQq1, hF0q1⟩ := hp1
    have hFq1 := FrO.t (FrO.r (lo := 106) (hi := 108) (h := h)) hF0q1
    refine v_none ?_
    refine v_aload_n K dX7_fears_92 rfl ?_
    refine v_aload_n K dX7_fears_93 rfl ?_
    refine v_geti (x := nI o) K fX7_19 sh_106 pl_106 hQq1.2.2.1 dX7_fears_94 ?_
    refine v_iload_n K dX7_fears_97 rfl ?_
    refine v_iload_n K dX7_fears_98 rfl ?_
    refine v_iconstN K 1 rfl dX7_fears_99 ?_
    refine v_iaddN K dX7_fears_100 ?_
    refine v_callV (As := [.int (nI o), .int x, .int (nI (dp + 1))]) K (c_X7_tries h1 o w (dp + 1) m x (L ++ [11]) hQq1 ho7 (by (try simp only [List.length_append, List.length_cons, List.length_nil]); have t1 := vcTt_len ho7; have t2 := vcSt_len ho7; have t3 := vcFt_len ho7 ho7; (try simp only [vcTt, vcSt, vcFt, vcLt, List.length_append, List.length_cons, List.length_nil] at *); omega) (by omega) o (by omega)) lX7_28 ck_X7 rfl sh_106 pl_106 rfl ⟨by decide, by decide⟩ (Nat.le_of_ble_eq_true rfl) dX7_fears_101 (fun r2 h2 hp2 => ?_) rfl
    obtain ⟨rfl, hQq2, hF0q2⟩ := hp2
    have hFq2 := FrO.t hFq1 hF0q2
    refine v_some ?_
    refine v_iconstN K 2 rfl dX7_fears_104 ?_
    refine v_imul K dX7_fears_105 ?_
    refine v_iret K dX7_fears_106 ?_
    exact ⟨rfl, by first | exact hQq2 | (have hx := hQq2; simp only [List.append_assoc, List.cons_append, List.nil_append] at hx ⊢; exact hx), hFq2⟩
  · skip
    exfalso; omega

abbrev P_X7_fears_6 (h : Mm) (o w dp : Nat) (m x : Int32) (L : List Nat) : Option Value → Mm → Prop := fun r h2 => r = some (.int (vcF o 6 x (nI w) m)) ∧ VQ h2 o w m (L ++ vcFt o 6) ∧ FrO 106 108 h h2
theorem c_X7_fears_6 {l : Launch} (h : Mm) (o w dp : Nat) (m x : Int32) (L : List Nat) (hQ : VQ h o w m L) (ho7 : o < 7) (hL : L.length ≤ 30) (hdp : dp ≤ 33) : Con l yX7_fears cX7_fears 4 (some .int) 6 136 132 GL h [.ref 106, .int (nI 6), .int x, .int (nI dp)] (P_X7_fears_6 h o w dp m x L) := by
  refine Con.ofV (own := "FoxRounds$Voices") (nm := "fears") rfl rfl (by decide) (Nat.le_of_ble_eq_true rfl) ?_
  intro κ ρ hkl K
  subst hkl
  show V κ (QM κ (132, ρ, GL, 0, 0) (P_X7_fears_6 h o w dp m x L)) 4 (132, ρ, GL, 0, 0) h 0 [(0, .ref 106), (1, .int (nI 6)), (2, .int x), (3, .int (nI dp))] []
  refine v_iload_n K dX7_fears_0 rfl ?_
  refine v_bipushN K 40 rfl dX7_fears_1 ?_
  refine v_icmpN_le (tgt := 8) K (by omega) (by omega) dX7_fears_3 rfl (fun c1 => ?_) (fun c1 => ?_)
  · skip
    refine v_iload_n K dX7_fears_8 rfl ?_
    refine v_lookN (off := 27) (tgt := 36) K (by decide) 6 dX7_fears_9 rfl (by decide) rfl rfl ?_
    refine v_aload_n K dX7_fears_36 rfl ?_
    refine v_bipushN K 70 rfl dX7_fears_37 ?_
    refine v_callV (As := [.int (nI 70)]) K (c_X7_begin h o w 70 m (L) hQ (by (try simp only [List.length_append, List.length_cons, List.length_nil]); have t1 := vcTt_len ho7; have t2 := vcSt_len ho7; have t3 := vcFt_len ho7 ho7; (try simp only [vcTt, vcSt, vcFt, vcLt, List.length_append, List.length_cons, List.length_nil] at *); omega)) lX7_41 ck_X7 rfl sh_106 pl_106 rfl ⟨by decide, by decide⟩ (Nat.le_of_ble_eq_true rfl) dX7_fears_39 (fun r1 h1 hp1 => ?_) rfl
    obtain ⟨rfl, hQq1, hF0q1⟩ := hp1
    have hFq1 := FrO.t (FrO.r (lo := 106) (hi := 108) (h := h)) hF0q1
    refine v_none ?_
    refine v_aload_n K dX7_fears_42 rfl ?_
    refine v_iconstN K 1 rfl dX7_fears_43 ?_
    refine v_iload_n K dX7_fears_44 rfl ?_
    refine v_iload_n K dX7_fears_45 rfl ?_
    refine v_iconstN K 1 rfl dX7_fears_46 ?_
    refine v_iaddN K dX7_fears_47 ?_
    refine v_callV (As := [.int (nI 1), .int x, .int (nI (dp + 1))]) K (c_X7_fears_1 h1 o w (dp + 1) m x (L ++ [70]) hQq1 ho7 (by (try simp only [List.length_append, List.length_cons, List.length_nil]); have t1 := vcTt_len ho7; have t2 := vcSt_len ho7; have t3 := vcFt_len ho7 ho7; (try simp only [vcTt, vcSt, vcFt, vcLt, List.length_append, List.length_cons, List.length_nil] at *); omega) (by omega)) lX7_32 ck_X7 rfl sh_106 pl_106 rfl ⟨by decide, by decide⟩ (Nat.le_of_ble_eq_true rfl) dX7_fears_48 (fun r2 h2 hp2 => ?_) rfl
    obtain ⟨rfl, hQq2, hF0q2⟩ := hp2
    have hFq2 := FrO.t hFq1 hF0q2
    refine v_some ?_
    refine v_aload_n K dX7_fears_51 rfl ?_
    refine v_geti (x := nI w) K fX7_22 sh_106 pl_106 hQq2.2.2.2.1 dX7_fears_52 ?_
    refine v_ixor K dX7_fears_55 ?_
    refine v_iret K dX7_fears_56 ?_
    exact ⟨rfl, by first | exact hQq2 | (have hx := hQq2; simp only [List.append_assoc, List.cons_append, List.nil_append] at hx ⊢; exact hx), hFq2⟩
  · skip
    exfalso; omega

abbrev P_X7_fears_0w (h : Mm) (o w dp : Nat) (m x : Int32) (L : List Nat) : Option Value → Mm → Prop := fun r h2 => r = some (.int (vcF o 0 x (nI w) m)) ∧ VQ h2 o w m (L ++ vcFt o 0) ∧ FrO 106 108 h h2
theorem c_X7_fears_0w {l : Launch} (h : Mm) (o w dp : Nat) (m x : Int32) (L : List Nat) (hQ : VQ h o w m L) (ho7 : o < 7) (hL : L.length ≤ 33) (hdp : dp ≤ 35) : Con l yX7_fears cX7_fears 4 (some .int) 6 136 132 GL h [.ref 106, .int (nI 0), .int x, .int (nI dp)] (P_X7_fears_0w h o w dp m x L) := by
  refine Con.ofV (own := "FoxRounds$Voices") (nm := "fears") rfl rfl (by decide) (Nat.le_of_ble_eq_true rfl) ?_
  intro κ ρ hkl K
  subst hkl
  show V κ (QM κ (132, ρ, GL, 0, 0) (P_X7_fears_0w h o w dp m x L)) 4 (132, ρ, GL, 0, 0) h 0 [(0, .ref 106), (1, .int (nI 0)), (2, .int x), (3, .int (nI dp))] []
  refine v_iload_n K dX7_fears_0 rfl ?_
  refine v_bipushN K 40 rfl dX7_fears_1 ?_
  refine v_icmpN_le (tgt := 8) K (by omega) (by omega) dX7_fears_3 rfl (fun c1 => ?_) (fun c1 => ?_)
  · skip
    refine v_iload_n K dX7_fears_8 rfl ?_
    refine v_lookN (off := 77) (tgt := 86) K (by decide) 0 dX7_fears_9 rfl (by decide) rfl rfl ?_
    refine v_aload_n K dX7_fears_86 rfl ?_
    refine v_bipushN K 11 rfl dX7_fears_87 ?_
    refine v_callV (As := [.int (nI 11)]) K (c_X7_begin h o w 11 m (L) hQ (by (try simp only [List.length_append, List.length_cons, List.length_nil]); have t1 := vcTt_len ho7; have t2 := vcSt_len ho7; have t3 := vcFt_len ho7 ho7; (try simp only [vcTt, vcSt, vcFt, vcLt, List.length_append, List.length_cons, List.length_nil] at *); omega)) lX7_41 ck_X7 rfl sh_106 pl_106 rfl ⟨by decide, by decide⟩ (Nat.le_of_ble_eq_true rfl) dX7_fears_89 (fun r1 h1 hp1 => ?_) rfl
    obtain ⟨rfl, hQq1, hF0q1⟩ := hp1
    have hFq1 := FrO.t (FrO.r (lo := 106) (hi := 108) (h := h)) hF0q1
    refine v_none ?_
    refine v_aload_n K dX7_fears_92 rfl ?_
    refine v_aload_n K dX7_fears_93 rfl ?_
    refine v_geti (x := nI o) K fX7_19 sh_106 pl_106 hQq1.2.2.1 dX7_fears_94 ?_
    refine v_iload_n K dX7_fears_97 rfl ?_
    refine v_iload_n K dX7_fears_98 rfl ?_
    refine v_iconstN K 1 rfl dX7_fears_99 ?_
    refine v_iaddN K dX7_fears_100 ?_
    refine v_callV (As := [.int (nI o), .int x, .int (nI (dp + 1))]) K (c_X7_tries h1 o w (dp + 1) m x (L ++ [11]) hQq1 ho7 (by (try simp only [List.length_append, List.length_cons, List.length_nil]); have t1 := vcTt_len ho7; have t2 := vcSt_len ho7; have t3 := vcFt_len ho7 ho7; (try simp only [vcTt, vcSt, vcFt, vcLt, List.length_append, List.length_cons, List.length_nil] at *); omega) (by omega) o (by omega)) lX7_28 ck_X7 rfl sh_106 pl_106 rfl ⟨by decide, by decide⟩ (Nat.le_of_ble_eq_true rfl) dX7_fears_101 (fun r2 h2 hp2 => ?_) rfl
    obtain ⟨rfl, hQq2, hF0q2⟩ := hp2
    have hFq2 := FrO.t hFq1 hF0q2
    refine v_some ?_
    refine v_iconstN K 2 rfl dX7_fears_104 ?_
    refine v_imul K dX7_fears_105 ?_
    refine v_iret K dX7_fears_106 ?_
    exact ⟨rfl, by first | exact hQq2 | (have hx := hQq2; simp only [List.append_assoc, List.cons_append, List.nil_append] at hx ⊢; exact hx), hFq2⟩
  · skip
    exfalso; omega

abbrev P_X7_fears_1w (h : Mm) (o w dp : Nat) (m x : Int32) (L : List Nat) : Option Value → Mm → Prop := fun r h2 => r = some (.int (vcF o 1 x (nI w) m)) ∧ VQ h2 o w m (L ++ vcFt o 1) ∧ FrO 106 108 h h2
theorem c_X7_fears_1w {l : Launch} (h : Mm) (o w dp : Nat) (m x : Int32) (L : List Nat) (hQ : VQ h o w m L) (ho7 : o < 7) (hL : L.length ≤ 31) (hdp : dp ≤ 34) : Con l yX7_fears cX7_fears 4 (some .int) 6 136 132 GL h [.ref 106, .int (nI 1), .int x, .int (nI dp)] (P_X7_fears_1w h o w dp m x L) := by
  refine Con.ofV (own := "FoxRounds$Voices") (nm := "fears") rfl rfl (by decide) (Nat.le_of_ble_eq_true rfl) ?_
  intro κ ρ hkl K
  subst hkl
  show V κ (QM κ (132, ρ, GL, 0, 0) (P_X7_fears_1w h o w dp m x L)) 4 (132, ρ, GL, 0, 0) h 0 [(0, .ref 106), (1, .int (nI 1)), (2, .int x), (3, .int (nI dp))] []
  refine v_iload_n K dX7_fears_0 rfl ?_
  refine v_bipushN K 40 rfl dX7_fears_1 ?_
  refine v_icmpN_le (tgt := 8) K (by omega) (by omega) dX7_fears_3 rfl (fun c1 => ?_) (fun c1 => ?_)
  · skip
    refine v_iload_n K dX7_fears_8 rfl ?_
    refine v_lookN (off := 48) (tgt := 57) K (by decide) 1 dX7_fears_9 rfl (by decide) rfl rfl ?_
    refine v_aload_n K dX7_fears_57 rfl ?_
    refine v_bipushN K 20 rfl dX7_fears_58 ?_
    refine v_callV (As := [.int (nI 20)]) K (c_X7_begin h o w 20 m (L) hQ (by (try simp only [List.length_append, List.length_cons, List.length_nil]); have t1 := vcTt_len ho7; have t2 := vcSt_len ho7; have t3 := vcFt_len ho7 ho7; (try simp only [vcTt, vcSt, vcFt, vcLt, List.length_append, List.length_cons, List.length_nil] at *); omega)) lX7_41 ck_X7 rfl sh_106 pl_106 rfl ⟨by decide, by decide⟩ (Nat.le_of_ble_eq_true rfl) dX7_fears_60 (fun r1 h1 hp1 => ?_) rfl
    obtain ⟨rfl, hQq1, hF0q1⟩ := hp1
    have hFq1 := FrO.t (FrO.r (lo := 106) (hi := 108) (h := h)) hF0q1
    refine v_none ?_
    refine v_aload_n K dX7_fears_63 rfl ?_
    refine v_iconstN K 0 rfl dX7_fears_64 ?_
    refine v_iload_n K dX7_fears_65 rfl ?_
    refine v_iload_n K dX7_fears_66 rfl ?_
    refine v_iconstN K 1 rfl dX7_fears_67 ?_
    refine v_iaddN K dX7_fears_68 ?_
    refine v_callV (As := [.int (nI 0), .int x, .int (nI (dp + 1))]) K (c_X7_fears_0 h1 o w (dp + 1) m x (L ++ [20]) hQq1 ho7 (by (try simp only [List.length_append, List.length_cons, List.length_nil]); have t1 := vcTt_len ho7; have t2 := vcSt_len ho7; have t3 := vcFt_len ho7 ho7; (try simp only [vcTt, vcSt, vcFt, vcLt, List.length_append, List.length_cons, List.length_nil] at *); omega) (by omega)) lX7_32 ck_X7 rfl sh_106 pl_106 rfl ⟨by decide, by decide⟩ (Nat.le_of_ble_eq_true rfl) dX7_fears_69 (fun r2 h2 hp2 => ?_) rfl
    obtain ⟨rfl, hQq2, hF0q2⟩ := hp2
    have hFq2 := FrO.t hFq1 hF0q2
    refine v_some ?_
    refine v_aload_n K dX7_fears_72 rfl ?_
    refine v_aload_n K dX7_fears_73 rfl ?_
    refine v_geti (x := nI o) K fX7_19 sh_106 pl_106 hQq2.2.2.1 dX7_fears_74 ?_
    refine v_iconstN K 1 rfl dX7_fears_77 ?_
    refine v_iload_n K dX7_fears_78 rfl ?_
    refine v_iconstN K 1 rfl dX7_fears_79 ?_
    refine v_iaddN K dX7_fears_80 ?_
    refine v_callV (As := [.int (nI o), .int (nI 1), .int (nI (dp + 1))]) K (c_X7_shuts h2 o w (dp + 1) m (nI 1) (L ++ [20] ++ (vcFt o 0)) hQq2 ho7 (by (try simp only [List.length_append, List.length_cons, List.length_nil]); have t1 := vcTt_len ho7; have t2 := vcSt_len ho7; have t3 := vcFt_len ho7 ho7; (try simp only [vcTt, vcSt, vcFt, vcLt, List.length_append, List.length_cons, List.length_nil] at *); omega) (by omega) o (by omega)) lX7_35 ck_X7 rfl sh_106 pl_106 rfl ⟨by decide, by decide⟩ (Nat.le_of_ble_eq_true rfl) dX7_fears_81 (fun r3 h3 hp3 => ?_) rfl
    obtain ⟨rfl, hQq3, hF0q3⟩ := hp3
    have hFq3 := FrO.t hFq2 hF0q3
    refine v_some ?_
    refine v_isub K dX7_fears_84 ?_
    refine v_iret K dX7_fears_85 ?_
    exact ⟨rfl, by first | exact hQq3 | (have hx := hQq3; simp only [List.append_assoc, List.cons_append, List.nil_append] at hx ⊢; exact hx), hFq3⟩
  · skip
    exfalso; omega

abbrev P_X7_fears_2w (h : Mm) (o w dp : Nat) (m x : Int32) (L : List Nat) : Option Value → Mm → Prop := fun r h2 => r = some (.int (vcF o 2 x (nI w) m)) ∧ VQ h2 o w m (L ++ vcFt o 2) ∧ FrO 106 108 h h2
theorem c_X7_fears_2w {l : Launch} (h : Mm) (o w dp : Nat) (m x : Int32) (L : List Nat) (hQ : VQ h o w m L) (ho7 : o < 7) (hL : L.length ≤ 33) (hdp : dp ≤ 35) : Con l yX7_fears cX7_fears 4 (some .int) 6 136 132 GL h [.ref 106, .int (nI 2), .int x, .int (nI dp)] (P_X7_fears_2w h o w dp m x L) := by
  refine Con.ofV (own := "FoxRounds$Voices") (nm := "fears") rfl rfl (by decide) (Nat.le_of_ble_eq_true rfl) ?_
  intro κ ρ hkl K
  subst hkl
  show V κ (QM κ (132, ρ, GL, 0, 0) (P_X7_fears_2w h o w dp m x L)) 4 (132, ρ, GL, 0, 0) h 0 [(0, .ref 106), (1, .int (nI 2)), (2, .int x), (3, .int (nI dp))] []
  refine v_iload_n K dX7_fears_0 rfl ?_
  refine v_bipushN K 40 rfl dX7_fears_1 ?_
  refine v_icmpN_le (tgt := 8) K (by omega) (by omega) dX7_fears_3 rfl (fun c1 => ?_) (fun c1 => ?_)
  · skip
    refine v_iload_n K dX7_fears_8 rfl ?_
    refine v_lookN (off := 77) (tgt := 86) K (by decide) 2 dX7_fears_9 rfl (by decide) rfl rfl ?_
    refine v_aload_n K dX7_fears_86 rfl ?_
    refine v_bipushN K 11 rfl dX7_fears_87 ?_
    refine v_callV (As := [.int (nI 11)]) K (c_X7_begin h o w 11 m (L) hQ (by (try simp only [List.length_append, List.length_cons, List.length_nil]); have t1 := vcTt_len ho7; have t2 := vcSt_len ho7; have t3 := vcFt_len ho7 ho7; (try simp only [vcTt, vcSt, vcFt, vcLt, List.length_append, List.length_cons, List.length_nil] at *); omega)) lX7_41 ck_X7 rfl sh_106 pl_106 rfl ⟨by decide, by decide⟩ (Nat.le_of_ble_eq_true rfl) dX7_fears_89 (fun r1 h1 hp1 => ?_) rfl
    obtain ⟨rfl, hQq1, hF0q1⟩ := hp1
    have hFq1 := FrO.t (FrO.r (lo := 106) (hi := 108) (h := h)) hF0q1
    refine v_none ?_
    refine v_aload_n K dX7_fears_92 rfl ?_
    refine v_aload_n K dX7_fears_93 rfl ?_
    refine v_geti (x := nI o) K fX7_19 sh_106 pl_106 hQq1.2.2.1 dX7_fears_94 ?_
    refine v_iload_n K dX7_fears_97 rfl ?_
    refine v_iload_n K dX7_fears_98 rfl ?_
    refine v_iconstN K 1 rfl dX7_fears_99 ?_
    refine v_iaddN K dX7_fears_100 ?_
    refine v_callV (As := [.int (nI o), .int x, .int (nI (dp + 1))]) K (c_X7_tries h1 o w (dp + 1) m x (L ++ [11]) hQq1 ho7 (by (try simp only [List.length_append, List.length_cons, List.length_nil]); have t1 := vcTt_len ho7; have t2 := vcSt_len ho7; have t3 := vcFt_len ho7 ho7; (try simp only [vcTt, vcSt, vcFt, vcLt, List.length_append, List.length_cons, List.length_nil] at *); omega) (by omega) o (by omega)) lX7_28 ck_X7 rfl sh_106 pl_106 rfl ⟨by decide, by decide⟩ (Nat.le_of_ble_eq_true rfl) dX7_fears_101 (fun r2 h2 hp2 => ?_) rfl
    obtain ⟨rfl, hQq2, hF0q2⟩ := hp2
    have hFq2 := FrO.t hFq1 hF0q2
    refine v_some ?_
    refine v_iconstN K 2 rfl dX7_fears_104 ?_
    refine v_imul K dX7_fears_105 ?_
    refine v_iret K dX7_fears_106 ?_
    exact ⟨rfl, by first | exact hQq2 | (have hx := hQq2; simp only [List.append_assoc, List.cons_append, List.nil_append] at hx ⊢; exact hx), hFq2⟩
  · skip
    exfalso; omega

abbrev P_X7_fears_3w (h : Mm) (o w dp : Nat) (m x : Int32) (L : List Nat) : Option Value → Mm → Prop := fun r h2 => r = some (.int (vcF o 3 x (nI w) m)) ∧ VQ h2 o w m (L ++ vcFt o 3) ∧ FrO 106 108 h h2
theorem c_X7_fears_3w {l : Launch} (h : Mm) (o w dp : Nat) (m x : Int32) (L : List Nat) (hQ : VQ h o w m L) (ho7 : o < 7) (hL : L.length ≤ 33) (hdp : dp ≤ 35) : Con l yX7_fears cX7_fears 4 (some .int) 6 136 132 GL h [.ref 106, .int (nI 3), .int x, .int (nI dp)] (P_X7_fears_3w h o w dp m x L) := by
  refine Con.ofV (own := "FoxRounds$Voices") (nm := "fears") rfl rfl (by decide) (Nat.le_of_ble_eq_true rfl) ?_
  intro κ ρ hkl K
  subst hkl
  show V κ (QM κ (132, ρ, GL, 0, 0) (P_X7_fears_3w h o w dp m x L)) 4 (132, ρ, GL, 0, 0) h 0 [(0, .ref 106), (1, .int (nI 3)), (2, .int x), (3, .int (nI dp))] []
  refine v_iload_n K dX7_fears_0 rfl ?_
  refine v_bipushN K 40 rfl dX7_fears_1 ?_
  refine v_icmpN_le (tgt := 8) K (by omega) (by omega) dX7_fears_3 rfl (fun c1 => ?_) (fun c1 => ?_)
  · skip
    refine v_iload_n K dX7_fears_8 rfl ?_
    refine v_lookN (off := 77) (tgt := 86) K (by decide) 3 dX7_fears_9 rfl (by decide) rfl rfl ?_
    refine v_aload_n K dX7_fears_86 rfl ?_
    refine v_bipushN K 11 rfl dX7_fears_87 ?_
    refine v_callV (As := [.int (nI 11)]) K (c_X7_begin h o w 11 m (L) hQ (by (try simp only [List.length_append, List.length_cons, List.length_nil]); have t1 := vcTt_len ho7; have t2 := vcSt_len ho7; have t3 := vcFt_len ho7 ho7; (try simp only [vcTt, vcSt, vcFt, vcLt, List.length_append, List.length_cons, List.length_nil] at *); omega)) lX7_41 ck_X7 rfl sh_106 pl_106 rfl ⟨by decide, by decide⟩ (Nat.le_of_ble_eq_true rfl) dX7_fears_89 (fun r1 h1 hp1 => ?_) rfl
    obtain ⟨rfl, hQq1, hF0q1⟩ := hp1
    have hFq1 := FrO.t (FrO.r (lo := 106) (hi := 108) (h := h)) hF0q1
    refine v_none ?_
    refine v_aload_n K dX7_fears_92 rfl ?_
    refine v_aload_n K dX7_fears_93 rfl ?_
    refine v_geti (x := nI o) K fX7_19 sh_106 pl_106 hQq1.2.2.1 dX7_fears_94 ?_
    refine v_iload_n K dX7_fears_97 rfl ?_
    refine v_iload_n K dX7_fears_98 rfl ?_
    refine v_iconstN K 1 rfl dX7_fears_99 ?_
    refine v_iaddN K dX7_fears_100 ?_
    refine v_callV (As := [.int (nI o), .int x, .int (nI (dp + 1))]) K (c_X7_tries h1 o w (dp + 1) m x (L ++ [11]) hQq1 ho7 (by (try simp only [List.length_append, List.length_cons, List.length_nil]); have t1 := vcTt_len ho7; have t2 := vcSt_len ho7; have t3 := vcFt_len ho7 ho7; (try simp only [vcTt, vcSt, vcFt, vcLt, List.length_append, List.length_cons, List.length_nil] at *); omega) (by omega) o (by omega)) lX7_28 ck_X7 rfl sh_106 pl_106 rfl ⟨by decide, by decide⟩ (Nat.le_of_ble_eq_true rfl) dX7_fears_101 (fun r2 h2 hp2 => ?_) rfl
    obtain ⟨rfl, hQq2, hF0q2⟩ := hp2
    have hFq2 := FrO.t hFq1 hF0q2
    refine v_some ?_
    refine v_iconstN K 2 rfl dX7_fears_104 ?_
    refine v_imul K dX7_fears_105 ?_
    refine v_iret K dX7_fears_106 ?_
    exact ⟨rfl, by first | exact hQq2 | (have hx := hQq2; simp only [List.append_assoc, List.cons_append, List.nil_append] at hx ⊢; exact hx), hFq2⟩
  · skip
    exfalso; omega

abbrev P_X7_fears_4w (h : Mm) (o w dp : Nat) (m x : Int32) (L : List Nat) : Option Value → Mm → Prop := fun r h2 => r = some (.int (vcF o 4 x (nI w) m)) ∧ VQ h2 o w m (L ++ vcFt o 4) ∧ FrO 106 108 h h2
theorem c_X7_fears_4w {l : Launch} (h : Mm) (o w dp : Nat) (m x : Int32) (L : List Nat) (hQ : VQ h o w m L) (ho7 : o < 7) (hL : L.length ≤ 33) (hdp : dp ≤ 35) : Con l yX7_fears cX7_fears 4 (some .int) 6 136 132 GL h [.ref 106, .int (nI 4), .int x, .int (nI dp)] (P_X7_fears_4w h o w dp m x L) := by
  refine Con.ofV (own := "FoxRounds$Voices") (nm := "fears") rfl rfl (by decide) (Nat.le_of_ble_eq_true rfl) ?_
  intro κ ρ hkl K
  subst hkl
  show V κ (QM κ (132, ρ, GL, 0, 0) (P_X7_fears_4w h o w dp m x L)) 4 (132, ρ, GL, 0, 0) h 0 [(0, .ref 106), (1, .int (nI 4)), (2, .int x), (3, .int (nI dp))] []
  refine v_iload_n K dX7_fears_0 rfl ?_
  refine v_bipushN K 40 rfl dX7_fears_1 ?_
  refine v_icmpN_le (tgt := 8) K (by omega) (by omega) dX7_fears_3 rfl (fun c1 => ?_) (fun c1 => ?_)
  · skip
    refine v_iload_n K dX7_fears_8 rfl ?_
    refine v_lookN (off := 77) (tgt := 86) K (by decide) 4 dX7_fears_9 rfl (by decide) rfl rfl ?_
    refine v_aload_n K dX7_fears_86 rfl ?_
    refine v_bipushN K 11 rfl dX7_fears_87 ?_
    refine v_callV (As := [.int (nI 11)]) K (c_X7_begin h o w 11 m (L) hQ (by (try simp only [List.length_append, List.length_cons, List.length_nil]); have t1 := vcTt_len ho7; have t2 := vcSt_len ho7; have t3 := vcFt_len ho7 ho7; (try simp only [vcTt, vcSt, vcFt, vcLt, List.length_append, List.length_cons, List.length_nil] at *); omega)) lX7_41 ck_X7 rfl sh_106 pl_106 rfl ⟨by decide, by decide⟩ (Nat.le_of_ble_eq_true rfl) dX7_fears_89 (fun r1 h1 hp1 => ?_) rfl
    obtain ⟨rfl, hQq1, hF0q1⟩ := hp1
    have hFq1 := FrO.t (FrO.r (lo := 106) (hi := 108) (h := h)) hF0q1
    refine v_none ?_
    refine v_aload_n K dX7_fears_92 rfl ?_
    refine v_aload_n K dX7_fears_93 rfl ?_
    refine v_geti (x := nI o) K fX7_19 sh_106 pl_106 hQq1.2.2.1 dX7_fears_94 ?_
    refine v_iload_n K dX7_fears_97 rfl ?_
    refine v_iload_n K dX7_fears_98 rfl ?_
    refine v_iconstN K 1 rfl dX7_fears_99 ?_
    refine v_iaddN K dX7_fears_100 ?_
    refine v_callV (As := [.int (nI o), .int x, .int (nI (dp + 1))]) K (c_X7_tries h1 o w (dp + 1) m x (L ++ [11]) hQq1 ho7 (by (try simp only [List.length_append, List.length_cons, List.length_nil]); have t1 := vcTt_len ho7; have t2 := vcSt_len ho7; have t3 := vcFt_len ho7 ho7; (try simp only [vcTt, vcSt, vcFt, vcLt, List.length_append, List.length_cons, List.length_nil] at *); omega) (by omega) o (by omega)) lX7_28 ck_X7 rfl sh_106 pl_106 rfl ⟨by decide, by decide⟩ (Nat.le_of_ble_eq_true rfl) dX7_fears_101 (fun r2 h2 hp2 => ?_) rfl
    obtain ⟨rfl, hQq2, hF0q2⟩ := hp2
    have hFq2 := FrO.t hFq1 hF0q2
    refine v_some ?_
    refine v_iconstN K 2 rfl dX7_fears_104 ?_
    refine v_imul K dX7_fears_105 ?_
    refine v_iret K dX7_fears_106 ?_
    exact ⟨rfl, by first | exact hQq2 | (have hx := hQq2; simp only [List.append_assoc, List.cons_append, List.nil_append] at hx ⊢; exact hx), hFq2⟩
  · skip
    exfalso; omega

abbrev P_X7_fears_5w (h : Mm) (o w dp : Nat) (m x : Int32) (L : List Nat) : Option Value → Mm → Prop := fun r h2 => r = some (.int (vcF o 5 x (nI w) m)) ∧ VQ h2 o w m (L ++ vcFt o 5) ∧ FrO 106 108 h h2
theorem c_X7_fears_5w {l : Launch} (h : Mm) (o w dp : Nat) (m x : Int32) (L : List Nat) (hQ : VQ h o w m L) (ho7 : o < 7) (hL : L.length ≤ 33) (hdp : dp ≤ 35) : Con l yX7_fears cX7_fears 4 (some .int) 6 136 132 GL h [.ref 106, .int (nI 5), .int x, .int (nI dp)] (P_X7_fears_5w h o w dp m x L) := by
  refine Con.ofV (own := "FoxRounds$Voices") (nm := "fears") rfl rfl (by decide) (Nat.le_of_ble_eq_true rfl) ?_
  intro κ ρ hkl K
  subst hkl
  show V κ (QM κ (132, ρ, GL, 0, 0) (P_X7_fears_5w h o w dp m x L)) 4 (132, ρ, GL, 0, 0) h 0 [(0, .ref 106), (1, .int (nI 5)), (2, .int x), (3, .int (nI dp))] []
  refine v_iload_n K dX7_fears_0 rfl ?_
  refine v_bipushN K 40 rfl dX7_fears_1 ?_
  refine v_icmpN_le (tgt := 8) K (by omega) (by omega) dX7_fears_3 rfl (fun c1 => ?_) (fun c1 => ?_)
  · skip
    refine v_iload_n K dX7_fears_8 rfl ?_
    refine v_lookN (off := 77) (tgt := 86) K (by decide) 5 dX7_fears_9 rfl (by decide) rfl rfl ?_
    refine v_aload_n K dX7_fears_86 rfl ?_
    refine v_bipushN K 11 rfl dX7_fears_87 ?_
    refine v_callV (As := [.int (nI 11)]) K (c_X7_begin h o w 11 m (L) hQ (by (try simp only [List.length_append, List.length_cons, List.length_nil]); have t1 := vcTt_len ho7; have t2 := vcSt_len ho7; have t3 := vcFt_len ho7 ho7; (try simp only [vcTt, vcSt, vcFt, vcLt, List.length_append, List.length_cons, List.length_nil] at *); omega)) lX7_41 ck_X7 rfl sh_106 pl_106 rfl ⟨by decide, by decide⟩ (Nat.le_of_ble_eq_true rfl) dX7_fears_89 (fun r1 h1 hp1 => ?_) rfl
    obtain ⟨rfl, hQq1, hF0q1⟩ := hp1
    have hFq1 := FrO.t (FrO.r (lo := 106) (hi := 108) (h := h)) hF0q1
    refine v_none ?_
    refine v_aload_n K dX7_fears_92 rfl ?_
    refine v_aload_n K dX7_fears_93 rfl ?_
    refine v_geti (x := nI o) K fX7_19 sh_106 pl_106 hQq1.2.2.1 dX7_fears_94 ?_
    refine v_iload_n K dX7_fears_97 rfl ?_
    refine v_iload_n K dX7_fears_98 rfl ?_
    refine v_iconstN K 1 rfl dX7_fears_99 ?_
    refine v_iaddN K dX7_fears_100 ?_
    refine v_callV (As := [.int (nI o), .int x, .int (nI (dp + 1))]) K (c_X7_tries h1 o w (dp + 1) m x (L ++ [11]) hQq1 ho7 (by (try simp only [List.length_append, List.length_cons, List.length_nil]); have t1 := vcTt_len ho7; have t2 := vcSt_len ho7; have t3 := vcFt_len ho7 ho7; (try simp only [vcTt, vcSt, vcFt, vcLt, List.length_append, List.length_cons, List.length_nil] at *); omega) (by omega) o (by omega)) lX7_28 ck_X7 rfl sh_106 pl_106 rfl ⟨by decide, by decide⟩ (Nat.le_of_ble_eq_true rfl) dX7_fears_101 (fun r2 h2 hp2 => ?_) rfl
    obtain ⟨rfl, hQq2, hF0q2⟩ := hp2
    have hFq2 := FrO.t hFq1 hF0q2
    refine v_some ?_
    refine v_iconstN K 2 rfl dX7_fears_104 ?_
    refine v_imul K dX7_fears_105 ?_
    refine v_iret K dX7_fears_106 ?_
    exact ⟨rfl, by first | exact hQq2 | (have hx := hQq2; simp only [List.append_assoc, List.cons_append, List.nil_append] at hx ⊢; exact hx), hFq2⟩
  · skip
    exfalso; omega

abbrev P_X7_fears (h : Mm) (o w dp : Nat) (m x : Int32) (L : List Nat) (k : Nat) : Option Value → Mm → Prop := fun r h2 => r = some (.int (vcF o k x (nI w) m)) ∧ VQ h2 o w m (L ++ vcFt o k) ∧ FrO 106 108 h h2
theorem c_X7_fears {l : Launch} (h : Mm) (o w dp : Nat) (m x : Int32) (L : List Nat) (hQ : VQ h o w m L) (ho7 : o < 7) (hL : L.length ≤ 30) (hdp : dp ≤ 33) (k : Nat) (hk : k < 7) : Con l yX7_fears cX7_fears 4 (some .int) 6 136 132 GL h [.ref 106, .int (nI k), .int x, .int (nI dp)] (P_X7_fears h o w dp m x L k) := by
  obtain rfl | rfl | rfl | rfl | rfl | rfl | rfl : k = 0 ∨ k = 1 ∨ k = 2 ∨ k = 3 ∨ k = 4 ∨ k = 5 ∨ k = 6 := by omega
  · exact c_X7_fears_0w h o w dp m x L hQ ho7 (by omega) (by omega)
  · exact c_X7_fears_1w h o w dp m x L hQ ho7 (by omega) (by omega)
  · exact c_X7_fears_2w h o w dp m x L hQ ho7 (by omega) (by omega)
  · exact c_X7_fears_3w h o w dp m x L hQ ho7 (by omega) (by omega)
  · exact c_X7_fears_4w h o w dp m x L hQ ho7 (by omega) (by omega)
  · exact c_X7_fears_5w h o w dp m x L hQ ho7 (by omega) (by omega)
  · exact c_X7_fears_6 h o w dp m x L hQ ho7 (by omega) (by omega)

abbrev P_X7_tells_0 (h : Mm) (o w dp : Nat) (m x : Int32) (L : List Nat) : Option Value → Mm → Prop := fun r h2 => r = some (.int (vcL o 0 x (nI w) m)) ∧ VQ h2 o w m (L ++ vcLt o 0) ∧ FrO 106 108 h h2
theorem c_X7_tells_0 {l : Launch} (h : Mm) (o w dp : Nat) (m x : Int32) (L : List Nat) (hQ : VQ h o w m L) (ho7 : o < 7) (hL : L.length ≤ 27) (hdp : dp ≤ 32) : Con l yX7_tells cX7_tells 4 (some .int) 7 159 132 GL h [.ref 106, .int (nI 0), .int x, .int (nI dp)] (P_X7_tells_0 h o w dp m x L) := by
  refine Con.ofV (own := "FoxRounds$Voices") (nm := "tells") rfl rfl (by decide) (Nat.le_of_ble_eq_true rfl) ?_
  intro κ ρ hkl K
  subst hkl
  show V κ (QM κ (132, ρ, GL, 0, 0) (P_X7_tells_0 h o w dp m x L)) 4 (132, ρ, GL, 0, 0) h 0 [(0, .ref 106), (1, .int (nI 0)), (2, .int x), (3, .int (nI dp))] []
  refine v_iload_n K dX7_tells_0 rfl ?_
  refine v_bipushN K 40 rfl dX7_tells_1 ?_
  refine v_icmpN_le (tgt := 8) K (by omega) (by omega) dX7_tells_3 rfl (fun c1 => ?_) (fun c1 => ?_)
  · skip
    refine v_iload_n K dX7_tells_8 rfl ?_
    refine v_lookN (off := 85) (tgt := 94) K (by decide) 0 dX7_tells_9 rfl (by decide) rfl rfl ?_
    refine v_aload_n K dX7_tells_94 rfl ?_
    refine v_bipushN K 13 rfl dX7_tells_95 ?_
    refine v_callV (As := [.int (nI 13)]) K (c_X7_begin h o w 13 m (L) hQ (by (try simp only [List.length_append, List.length_cons, List.length_nil]); have t1 := vcTt_len ho7; have t2 := vcSt_len ho7; have t3 := vcFt_len ho7 ho7; (try simp only [vcTt, vcSt, vcFt, vcLt, List.length_append, List.length_cons, List.length_nil] at *); omega)) lX7_41 ck_X7 rfl sh_106 pl_106 rfl ⟨by decide, by decide⟩ (Nat.le_of_ble_eq_true rfl) dX7_tells_97 (fun r1 h1 hp1 => ?_) rfl
    obtain ⟨rfl, hQq1, hF0q1⟩ := hp1
    have hFq1 := FrO.t (FrO.r (lo := 106) (hi := 108) (h := h)) hF0q1
    refine v_none ?_
    refine v_aload_n K dX7_tells_100 rfl ?_
    refine v_aload_n K dX7_tells_101 rfl ?_
    refine v_geti (x := nI o) K fX7_19 sh_106 pl_106 hQq1.2.2.1 dX7_tells_102 ?_
    refine v_iload_n K dX7_tells_105 rfl ?_
    refine v_iload_n K dX7_tells_106 rfl ?_
    refine v_iconstN K 1 rfl dX7_tells_107 ?_
    refine v_iaddN K dX7_tells_108 ?_
    refine v_callV (As := [.int (nI o), .int x, .int (nI (dp + 1))]) K (c_X7_fears h1 o w (dp + 1) m x (L ++ [13]) hQq1 ho7 (by (try simp only [List.length_append, List.length_cons, List.length_nil]); have t1 := vcTt_len ho7; have t2 := vcSt_len ho7; have t3 := vcFt_len ho7 ho7; (try simp only [vcTt, vcSt, vcFt, vcLt, List.length_append, List.length_cons, List.length_nil] at *); omega) (by omega) o (by omega)) lX7_32 ck_X7 rfl sh_106 pl_106 rfl ⟨by decide, by decide⟩ (Nat.le_of_ble_eq_true rfl) dX7_tells_109 (fun r2 h2 hp2 => ?_) rfl
    obtain ⟨rfl, hQq2, hF0q2⟩ := hp2
    have hFq2 := FrO.t hFq1 hF0q2
    refine v_some ?_
    refine v_aload_n K dX7_tells_112 rfl ?_
    refine v_aload_n K dX7_tells_113 rfl ?_
    refine v_geti (x := nI o) K fX7_19 sh_106 pl_106 hQq2.2.2.1 dX7_tells_114 ?_
    refine v_iload_n K dX7_tells_117 rfl ?_
    refine v_iload_n K dX7_tells_118 rfl ?_
    refine v_iconstN K 1 rfl dX7_tells_119 ?_
    refine v_iaddN K dX7_tells_120 ?_
    refine v_callV (As := [.int (nI o), .int x, .int (nI (dp + 1))]) K (c_X7_shuts h2 o w (dp + 1) m x (L ++ [13] ++ (vcFt o o)) hQq2 ho7 (by (try simp only [List.length_append, List.length_cons, List.length_nil]); have t1 := vcTt_len ho7; have t2 := vcSt_len ho7; have t3 := vcFt_len ho7 ho7; (try simp only [vcTt, vcSt, vcFt, vcLt, List.length_append, List.length_cons, List.length_nil] at *); omega) (by omega) o (by omega)) lX7_35 ck_X7 rfl sh_106 pl_106 rfl ⟨by decide, by decide⟩ (Nat.le_of_ble_eq_true rfl) dX7_tells_121 (fun r3 h3 hp3 => ?_) rfl
    obtain ⟨rfl, hQq3, hF0q3⟩ := hp3
    have hFq3 := FrO.t hFq2 hF0q3
    refine v_some ?_
    refine v_ixor K dX7_tells_124 ?_
    refine v_iret K dX7_tells_125 ?_
    exact ⟨rfl, by first | exact hQq3 | (have hx := hQq3; simp only [List.append_assoc, List.cons_append, List.nil_append] at hx ⊢; exact hx), hFq3⟩
  · skip
    exfalso; omega

abbrev P_X7_tells_1 (h : Mm) (o w dp : Nat) (m x : Int32) (L : List Nat) : Option Value → Mm → Prop := fun r h2 => r = some (.int (vcL o 1 x (nI w) m)) ∧ VQ h2 o w m (L ++ vcLt o 1) ∧ FrO 106 108 h h2
theorem c_X7_tells_1 {l : Launch} (h : Mm) (o w dp : Nat) (m x : Int32) (L : List Nat) (hQ : VQ h o w m L) (ho7 : o < 7) (hL : L.length ≤ 27) (hdp : dp ≤ 32) : Con l yX7_tells cX7_tells 4 (some .int) 7 159 132 GL h [.ref 106, .int (nI 1), .int x, .int (nI dp)] (P_X7_tells_1 h o w dp m x L) := by
  refine Con.ofV (own := "FoxRounds$Voices") (nm := "tells") rfl rfl (by decide) (Nat.le_of_ble_eq_true rfl) ?_
  intro κ ρ hkl K
  subst hkl
  show V κ (QM κ (132, ρ, GL, 0, 0) (P_X7_tells_1 h o w dp m x L)) 4 (132, ρ, GL, 0, 0) h 0 [(0, .ref 106), (1, .int (nI 1)), (2, .int x), (3, .int (nI dp))] []
  refine v_iload_n K dX7_tells_0 rfl ?_
  refine v_bipushN K 40 rfl dX7_tells_1 ?_
  refine v_icmpN_le (tgt := 8) K (by omega) (by omega) dX7_tells_3 rfl (fun c1 => ?_) (fun c1 => ?_)
  · skip
    refine v_iload_n K dX7_tells_8 rfl ?_
    refine v_lookN (off := 85) (tgt := 94) K (by decide) 1 dX7_tells_9 rfl (by decide) rfl rfl ?_
    refine v_aload_n K dX7_tells_94 rfl ?_
    refine v_bipushN K 13 rfl dX7_tells_95 ?_
    refine v_callV (As := [.int (nI 13)]) K (c_X7_begin h o w 13 m (L) hQ (by (try simp only [List.length_append, List.length_cons, List.length_nil]); have t1 := vcTt_len ho7; have t2 := vcSt_len ho7; have t3 := vcFt_len ho7 ho7; (try simp only [vcTt, vcSt, vcFt, vcLt, List.length_append, List.length_cons, List.length_nil] at *); omega)) lX7_41 ck_X7 rfl sh_106 pl_106 rfl ⟨by decide, by decide⟩ (Nat.le_of_ble_eq_true rfl) dX7_tells_97 (fun r1 h1 hp1 => ?_) rfl
    obtain ⟨rfl, hQq1, hF0q1⟩ := hp1
    have hFq1 := FrO.t (FrO.r (lo := 106) (hi := 108) (h := h)) hF0q1
    refine v_none ?_
    refine v_aload_n K dX7_tells_100 rfl ?_
    refine v_aload_n K dX7_tells_101 rfl ?_
    refine v_geti (x := nI o) K fX7_19 sh_106 pl_106 hQq1.2.2.1 dX7_tells_102 ?_
    refine v_iload_n K dX7_tells_105 rfl ?_
    refine v_iload_n K dX7_tells_106 rfl ?_
    refine v_iconstN K 1 rfl dX7_tells_107 ?_
    refine v_iaddN K dX7_tells_108 ?_
    refine v_callV (As := [.int (nI o), .int x, .int (nI (dp + 1))]) K (c_X7_fears h1 o w (dp + 1) m x (L ++ [13]) hQq1 ho7 (by (try simp only [List.length_append, List.length_cons, List.length_nil]); have t1 := vcTt_len ho7; have t2 := vcSt_len ho7; have t3 := vcFt_len ho7 ho7; (try simp only [vcTt, vcSt, vcFt, vcLt, List.length_append, List.length_cons, List.length_nil] at *); omega) (by omega) o (by omega)) lX7_32 ck_X7 rfl sh_106 pl_106 rfl ⟨by decide, by decide⟩ (Nat.le_of_ble_eq_true rfl) dX7_tells_109 (fun r2 h2 hp2 => ?_) rfl
    obtain ⟨rfl, hQq2, hF0q2⟩ := hp2
    have hFq2 := FrO.t hFq1 hF0q2
    refine v_some ?_
    refine v_aload_n K dX7_tells_112 rfl ?_
    refine v_aload_n K dX7_tells_113 rfl ?_
    refine v_geti (x := nI o) K fX7_19 sh_106 pl_106 hQq2.2.2.1 dX7_tells_114 ?_
    refine v_iload_n K dX7_tells_117 rfl ?_
    refine v_iload_n K dX7_tells_118 rfl ?_
    refine v_iconstN K 1 rfl dX7_tells_119 ?_
    refine v_iaddN K dX7_tells_120 ?_
    refine v_callV (As := [.int (nI o), .int x, .int (nI (dp + 1))]) K (c_X7_shuts h2 o w (dp + 1) m x (L ++ [13] ++ (vcFt o o)) hQq2 ho7 (by (try simp only [List.length_append, List.length_cons, List.length_nil]); have t1 := vcTt_len ho7; have t2 := vcSt_len ho7; have t3 := vcFt_len ho7 ho7; (try simp only [vcTt, vcSt, vcFt, vcLt, List.length_append, List.length_cons, List.length_nil] at *); omega) (by omega) o (by omega)) lX7_35 ck_X7 rfl sh_106 pl_106 rfl ⟨by decide, by decide⟩ (Nat.le_of_ble_eq_true rfl) dX7_tells_121 (fun r3 h3 hp3 => ?_) rfl
    obtain ⟨rfl, hQq3, hF0q3⟩ := hp3
    have hFq3 := FrO.t hFq2 hF0q3
    refine v_some ?_
    refine v_ixor K dX7_tells_124 ?_
    refine v_iret K dX7_tells_125 ?_
    exact ⟨rfl, by first | exact hQq3 | (have hx := hQq3; simp only [List.append_assoc, List.cons_append, List.nil_append] at hx ⊢; exact hx), hFq3⟩
  · skip
    exfalso; omega

abbrev P_X7_tells_2 (h : Mm) (o w dp : Nat) (m x : Int32) (L : List Nat) : Option Value → Mm → Prop := fun r h2 => r = some (.int (vcL o 2 x (nI w) m)) ∧ VQ h2 o w m (L ++ vcLt o 2) ∧ FrO 106 108 h h2
theorem c_X7_tells_2 {l : Launch} (h : Mm) (o w dp : Nat) (m x : Int32) (L : List Nat) (hQ : VQ h o w m L) (ho7 : o < 7) (hL : L.length ≤ 27) (hdp : dp ≤ 32) : Con l yX7_tells cX7_tells 4 (some .int) 7 159 132 GL h [.ref 106, .int (nI 2), .int x, .int (nI dp)] (P_X7_tells_2 h o w dp m x L) := by
  refine Con.ofV (own := "FoxRounds$Voices") (nm := "tells") rfl rfl (by decide) (Nat.le_of_ble_eq_true rfl) ?_
  intro κ ρ hkl K
  subst hkl
  show V κ (QM κ (132, ρ, GL, 0, 0) (P_X7_tells_2 h o w dp m x L)) 4 (132, ρ, GL, 0, 0) h 0 [(0, .ref 106), (1, .int (nI 2)), (2, .int x), (3, .int (nI dp))] []
  refine v_iload_n K dX7_tells_0 rfl ?_
  refine v_bipushN K 40 rfl dX7_tells_1 ?_
  refine v_icmpN_le (tgt := 8) K (by omega) (by omega) dX7_tells_3 rfl (fun c1 => ?_) (fun c1 => ?_)
  · skip
    refine v_iload_n K dX7_tells_8 rfl ?_
    refine v_lookN (off := 85) (tgt := 94) K (by decide) 2 dX7_tells_9 rfl (by decide) rfl rfl ?_
    refine v_aload_n K dX7_tells_94 rfl ?_
    refine v_bipushN K 13 rfl dX7_tells_95 ?_
    refine v_callV (As := [.int (nI 13)]) K (c_X7_begin h o w 13 m (L) hQ (by (try simp only [List.length_append, List.length_cons, List.length_nil]); have t1 := vcTt_len ho7; have t2 := vcSt_len ho7; have t3 := vcFt_len ho7 ho7; (try simp only [vcTt, vcSt, vcFt, vcLt, List.length_append, List.length_cons, List.length_nil] at *); omega)) lX7_41 ck_X7 rfl sh_106 pl_106 rfl ⟨by decide, by decide⟩ (Nat.le_of_ble_eq_true rfl) dX7_tells_97 (fun r1 h1 hp1 => ?_) rfl
    obtain ⟨rfl, hQq1, hF0q1⟩ := hp1
    have hFq1 := FrO.t (FrO.r (lo := 106) (hi := 108) (h := h)) hF0q1
    refine v_none ?_
    refine v_aload_n K dX7_tells_100 rfl ?_
    refine v_aload_n K dX7_tells_101 rfl ?_
    refine v_geti (x := nI o) K fX7_19 sh_106 pl_106 hQq1.2.2.1 dX7_tells_102 ?_
    refine v_iload_n K dX7_tells_105 rfl ?_
    refine v_iload_n K dX7_tells_106 rfl ?_
    refine v_iconstN K 1 rfl dX7_tells_107 ?_
    refine v_iaddN K dX7_tells_108 ?_
    refine v_callV (As := [.int (nI o), .int x, .int (nI (dp + 1))]) K (c_X7_fears h1 o w (dp + 1) m x (L ++ [13]) hQq1 ho7 (by (try simp only [List.length_append, List.length_cons, List.length_nil]); have t1 := vcTt_len ho7; have t2 := vcSt_len ho7; have t3 := vcFt_len ho7 ho7; (try simp only [vcTt, vcSt, vcFt, vcLt, List.length_append, List.length_cons, List.length_nil] at *); omega) (by omega) o (by omega)) lX7_32 ck_X7 rfl sh_106 pl_106 rfl ⟨by decide, by decide⟩ (Nat.le_of_ble_eq_true rfl) dX7_tells_109 (fun r2 h2 hp2 => ?_) rfl
    obtain ⟨rfl, hQq2, hF0q2⟩ := hp2
    have hFq2 := FrO.t hFq1 hF0q2
    refine v_some ?_
    refine v_aload_n K dX7_tells_112 rfl ?_
    refine v_aload_n K dX7_tells_113 rfl ?_
    refine v_geti (x := nI o) K fX7_19 sh_106 pl_106 hQq2.2.2.1 dX7_tells_114 ?_
    refine v_iload_n K dX7_tells_117 rfl ?_
    refine v_iload_n K dX7_tells_118 rfl ?_
    refine v_iconstN K 1 rfl dX7_tells_119 ?_
    refine v_iaddN K dX7_tells_120 ?_
    refine v_callV (As := [.int (nI o), .int x, .int (nI (dp + 1))]) K (c_X7_shuts h2 o w (dp + 1) m x (L ++ [13] ++ (vcFt o o)) hQq2 ho7 (by (try simp only [List.length_append, List.length_cons, List.length_nil]); have t1 := vcTt_len ho7; have t2 := vcSt_len ho7; have t3 := vcFt_len ho7 ho7; (try simp only [vcTt, vcSt, vcFt, vcLt, List.length_append, List.length_cons, List.length_nil] at *); omega) (by omega) o (by omega)) lX7_35 ck_X7 rfl sh_106 pl_106 rfl ⟨by decide, by decide⟩ (Nat.le_of_ble_eq_true rfl) dX7_tells_121 (fun r3 h3 hp3 => ?_) rfl
    obtain ⟨rfl, hQq3, hF0q3⟩ := hp3
    have hFq3 := FrO.t hFq2 hF0q3
    refine v_some ?_
    refine v_ixor K dX7_tells_124 ?_
    refine v_iret K dX7_tells_125 ?_
    exact ⟨rfl, by first | exact hQq3 | (have hx := hQq3; simp only [List.append_assoc, List.cons_append, List.nil_append] at hx ⊢; exact hx), hFq3⟩
  · skip
    exfalso; omega

abbrev P_X7_tells_3 (h : Mm) (o w dp : Nat) (m x : Int32) (L : List Nat) : Option Value → Mm → Prop := fun r h2 => r = some (.int (vcL o 3 x (nI w) m)) ∧ VQ h2 o w m (L ++ vcLt o 3) ∧ FrO 106 108 h h2
theorem c_X7_tells_3 {l : Launch} (h : Mm) (o w dp : Nat) (m x : Int32) (L : List Nat) (hQ : VQ h o w m L) (ho7 : o < 7) (hL : L.length ≤ 27) (hdp : dp ≤ 32) : Con l yX7_tells cX7_tells 4 (some .int) 7 159 132 GL h [.ref 106, .int (nI 3), .int x, .int (nI dp)] (P_X7_tells_3 h o w dp m x L) := by
  refine Con.ofV (own := "FoxRounds$Voices") (nm := "tells") rfl rfl (by decide) (Nat.le_of_ble_eq_true rfl) ?_
  intro κ ρ hkl K
  subst hkl
  show V κ (QM κ (132, ρ, GL, 0, 0) (P_X7_tells_3 h o w dp m x L)) 4 (132, ρ, GL, 0, 0) h 0 [(0, .ref 106), (1, .int (nI 3)), (2, .int x), (3, .int (nI dp))] []
  refine v_iload_n K dX7_tells_0 rfl ?_
  refine v_bipushN K 40 rfl dX7_tells_1 ?_
  refine v_icmpN_le (tgt := 8) K (by omega) (by omega) dX7_tells_3 rfl (fun c1 => ?_) (fun c1 => ?_)
  · skip
    refine v_iload_n K dX7_tells_8 rfl ?_
    refine v_lookN (off := 85) (tgt := 94) K (by decide) 3 dX7_tells_9 rfl (by decide) rfl rfl ?_
    refine v_aload_n K dX7_tells_94 rfl ?_
    refine v_bipushN K 13 rfl dX7_tells_95 ?_
    refine v_callV (As := [.int (nI 13)]) K (c_X7_begin h o w 13 m (L) hQ (by (try simp only [List.length_append, List.length_cons, List.length_nil]); have t1 := vcTt_len ho7; have t2 := vcSt_len ho7; have t3 := vcFt_len ho7 ho7; (try simp only [vcTt, vcSt, vcFt, vcLt, List.length_append, List.length_cons, List.length_nil] at *); omega)) lX7_41 ck_X7 rfl sh_106 pl_106 rfl ⟨by decide, by decide⟩ (Nat.le_of_ble_eq_true rfl) dX7_tells_97 (fun r1 h1 hp1 => ?_) rfl
    obtain ⟨rfl, hQq1, hF0q1⟩ := hp1
    have hFq1 := FrO.t (FrO.r (lo := 106) (hi := 108) (h := h)) hF0q1
    refine v_none ?_
    refine v_aload_n K dX7_tells_100 rfl ?_
    refine v_aload_n K dX7_tells_101 rfl ?_
    refine v_geti (x := nI o) K fX7_19 sh_106 pl_106 hQq1.2.2.1 dX7_tells_102 ?_
    refine v_iload_n K dX7_tells_105 rfl ?_
    refine v_iload_n K dX7_tells_106 rfl ?_
    refine v_iconstN K 1 rfl dX7_tells_107 ?_
    refine v_iaddN K dX7_tells_108 ?_
    refine v_callV (As := [.int (nI o), .int x, .int (nI (dp + 1))]) K (c_X7_fears h1 o w (dp + 1) m x (L ++ [13]) hQq1 ho7 (by (try simp only [List.length_append, List.length_cons, List.length_nil]); have t1 := vcTt_len ho7; have t2 := vcSt_len ho7; have t3 := vcFt_len ho7 ho7; (try simp only [vcTt, vcSt, vcFt, vcLt, List.length_append, List.length_cons, List.length_nil] at *); omega) (by omega) o (by omega)) lX7_32 ck_X7 rfl sh_106 pl_106 rfl ⟨by decide, by decide⟩ (Nat.le_of_ble_eq_true rfl) dX7_tells_109 (fun r2 h2 hp2 => ?_) rfl
    obtain ⟨rfl, hQq2, hF0q2⟩ := hp2
    have hFq2 := FrO.t hFq1 hF0q2
    refine v_some ?_
    refine v_aload_n K dX7_tells_112 rfl ?_
    refine v_aload_n K dX7_tells_113 rfl ?_
    refine v_geti (x := nI o) K fX7_19 sh_106 pl_106 hQq2.2.2.1 dX7_tells_114 ?_
    refine v_iload_n K dX7_tells_117 rfl ?_
    refine v_iload_n K dX7_tells_118 rfl ?_
    refine v_iconstN K 1 rfl dX7_tells_119 ?_
    refine v_iaddN K dX7_tells_120 ?_
    refine v_callV (As := [.int (nI o), .int x, .int (nI (dp + 1))]) K (c_X7_shuts h2 o w (dp + 1) m x (L ++ [13] ++ (vcFt o o)) hQq2 ho7 (by (try simp only [List.length_append, List.length_cons, List.length_nil]); have t1 := vcTt_len ho7; have t2 := vcSt_len ho7; have t3 := vcFt_len ho7 ho7; (try simp only [vcTt, vcSt, vcFt, vcLt, List.length_append, List.length_cons, List.length_nil] at *); omega) (by omega) o (by omega)) lX7_35 ck_X7 rfl sh_106 pl_106 rfl ⟨by decide, by decide⟩ (Nat.le_of_ble_eq_true rfl) dX7_tells_121 (fun r3 h3 hp3 => ?_) rfl
    obtain ⟨rfl, hQq3, hF0q3⟩ := hp3
    have hFq3 := FrO.t hFq2 hF0q3
    refine v_some ?_
    refine v_ixor K dX7_tells_124 ?_
    refine v_iret K dX7_tells_125 ?_
    exact ⟨rfl, by first | exact hQq3 | (have hx := hQq3; simp only [List.append_assoc, List.cons_append, List.nil_append] at hx ⊢; exact hx), hFq3⟩
  · skip
    exfalso; omega

abbrev P_X7_tells_4 (h : Mm) (o w dp : Nat) (m x : Int32) (L : List Nat) : Option Value → Mm → Prop := fun r h2 => r = some (.int (vcL o 4 x (nI w) m)) ∧ VQ h2 o w m (L ++ vcLt o 4) ∧ FrO 106 108 h h2
theorem c_X7_tells_4 {l : Launch} (h : Mm) (o w dp : Nat) (m x : Int32) (L : List Nat) (hQ : VQ h o w m L) (ho7 : o < 7) (hL : L.length ≤ 27) (hdp : dp ≤ 32) : Con l yX7_tells cX7_tells 4 (some .int) 7 159 132 GL h [.ref 106, .int (nI 4), .int x, .int (nI dp)] (P_X7_tells_4 h o w dp m x L) := by
  refine Con.ofV (own := "FoxRounds$Voices") (nm := "tells") rfl rfl (by decide) (Nat.le_of_ble_eq_true rfl) ?_
  intro κ ρ hkl K
  subst hkl
  show V κ (QM κ (132, ρ, GL, 0, 0) (P_X7_tells_4 h o w dp m x L)) 4 (132, ρ, GL, 0, 0) h 0 [(0, .ref 106), (1, .int (nI 4)), (2, .int x), (3, .int (nI dp))] []
  refine v_iload_n K dX7_tells_0 rfl ?_
  refine v_bipushN K 40 rfl dX7_tells_1 ?_
  refine v_icmpN_le (tgt := 8) K (by omega) (by omega) dX7_tells_3 rfl (fun c1 => ?_) (fun c1 => ?_)
  · skip
    refine v_iload_n K dX7_tells_8 rfl ?_
    refine v_lookN (off := 85) (tgt := 94) K (by decide) 4 dX7_tells_9 rfl (by decide) rfl rfl ?_
    refine v_aload_n K dX7_tells_94 rfl ?_
    refine v_bipushN K 13 rfl dX7_tells_95 ?_
    refine v_callV (As := [.int (nI 13)]) K (c_X7_begin h o w 13 m (L) hQ (by (try simp only [List.length_append, List.length_cons, List.length_nil]); have t1 := vcTt_len ho7; have t2 := vcSt_len ho7; have t3 := vcFt_len ho7 ho7; (try simp only [vcTt, vcSt, vcFt, vcLt, List.length_append, List.length_cons, List.length_nil] at *); omega)) lX7_41 ck_X7 rfl sh_106 pl_106 rfl ⟨by decide, by decide⟩ (Nat.le_of_ble_eq_true rfl) dX7_tells_97 (fun r1 h1 hp1 => ?_) rfl
    obtain ⟨rfl, hQq1, hF0q1⟩ := hp1
    have hFq1 := FrO.t (FrO.r (lo := 106) (hi := 108) (h := h)) hF0q1
    refine v_none ?_
    refine v_aload_n K dX7_tells_100 rfl ?_
    refine v_aload_n K dX7_tells_101 rfl ?_
    refine v_geti (x := nI o) K fX7_19 sh_106 pl_106 hQq1.2.2.1 dX7_tells_102 ?_
    refine v_iload_n K dX7_tells_105 rfl ?_
    refine v_iload_n K dX7_tells_106 rfl ?_
    refine v_iconstN K 1 rfl dX7_tells_107 ?_
    refine v_iaddN K dX7_tells_108 ?_
    refine v_callV (As := [.int (nI o), .int x, .int (nI (dp + 1))]) K (c_X7_fears h1 o w (dp + 1) m x (L ++ [13]) hQq1 ho7 (by (try simp only [List.length_append, List.length_cons, List.length_nil]); have t1 := vcTt_len ho7; have t2 := vcSt_len ho7; have t3 := vcFt_len ho7 ho7; (try simp only [vcTt, vcSt, vcFt, vcLt, List.length_append, List.length_cons, List.length_nil] at *); omega) (by omega) o (by omega)) lX7_32 ck_X7 rfl sh_106 pl_106 rfl ⟨by decide, by decide⟩ (Nat.le_of_ble_eq_true rfl) dX7_tells_109 (fun r2 h2 hp2 => ?_) rfl
    obtain ⟨rfl, hQq2, hF0q2⟩ := hp2
    have hFq2 := FrO.t hFq1 hF0q2
    refine v_some ?_
    refine v_aload_n K dX7_tells_112 rfl ?_
    refine v_aload_n K dX7_tells_113 rfl ?_
    refine v_geti (x := nI o) K fX7_19 sh_106 pl_106 hQq2.2.2.1 dX7_tells_114 ?_
    refine v_iload_n K dX7_tells_117 rfl ?_
    refine v_iload_n K dX7_tells_118 rfl ?_
    refine v_iconstN K 1 rfl dX7_tells_119 ?_
    refine v_iaddN K dX7_tells_120 ?_
    refine v_callV (As := [.int (nI o), .int x, .int (nI (dp + 1))]) K (c_X7_shuts h2 o w (dp + 1) m x (L ++ [13] ++ (vcFt o o)) hQq2 ho7 (by (try simp only [List.length_append, List.length_cons, List.length_nil]); have t1 := vcTt_len ho7; have t2 := vcSt_len ho7; have t3 := vcFt_len ho7 ho7; (try simp only [vcTt, vcSt, vcFt, vcLt, List.length_append, List.length_cons, List.length_nil] at *); omega) (by omega) o (by omega)) lX7_35 ck_X7 rfl sh_106 pl_106 rfl ⟨by decide, by decide⟩ (Nat.le_of_ble_eq_true rfl) dX7_tells_121 (fun r3 h3 hp3 => ?_) rfl
    obtain ⟨rfl, hQq3, hF0q3⟩ := hp3
    have hFq3 := FrO.t hFq2 hF0q3
    refine v_some ?_
    refine v_ixor K dX7_tells_124 ?_
    refine v_iret K dX7_tells_125 ?_
    exact ⟨rfl, by first | exact hQq3 | (have hx := hQq3; simp only [List.append_assoc, List.cons_append, List.nil_append] at hx ⊢; exact hx), hFq3⟩
  · skip
    exfalso; omega

abbrev P_X7_tells_5 (h : Mm) (o w dp : Nat) (m x : Int32) (L : List Nat) : Option Value → Mm → Prop := fun r h2 => r = some (.int (vcL o 5 x (nI w) m)) ∧ VQ h2 o w m (L ++ vcLt o 5) ∧ FrO 106 108 h h2
theorem c_X7_tells_5 {l : Launch} (h : Mm) (o w dp : Nat) (m x : Int32) (L : List Nat) (hQ : VQ h o w m L) (ho7 : o < 7) (hL : L.length ≤ 22) (hdp : dp ≤ 31) : Con l yX7_tells cX7_tells 4 (some .int) 8 182 132 GL h [.ref 106, .int (nI 5), .int x, .int (nI dp)] (P_X7_tells_5 h o w dp m x L) := by
  refine Con.ofV (own := "FoxRounds$Voices") (nm := "tells") rfl rfl (by decide) (Nat.le_of_ble_eq_true rfl) ?_
  intro κ ρ hkl K
  subst hkl
  show V κ (QM κ (132, ρ, GL, 0, 0) (P_X7_tells_5 h o w dp m x L)) 4 (132, ρ, GL, 0, 0) h 0 [(0, .ref 106), (1, .int (nI 5)), (2, .int x), (3, .int (nI dp))] []
  refine v_iload_n K dX7_tells_0 rfl ?_
  refine v_bipushN K 40 rfl dX7_tells_1 ?_
  refine v_icmpN_le (tgt := 8) K (by omega) (by omega) dX7_tells_3 rfl (fun c1 => ?_) (fun c1 => ?_)
  · skip
    refine v_iload_n K dX7_tells_8 rfl ?_
    refine v_lookN (off := 27) (tgt := 36) K (by decide) 5 dX7_tells_9 rfl (by decide) rfl rfl ?_
    refine v_aload_n K dX7_tells_36 rfl ?_
    refine v_bipushN K 60 rfl dX7_tells_37 ?_
    refine v_callV (As := [.int (nI 60)]) K (c_X7_begin h o w 60 m (L) hQ (by (try simp only [List.length_append, List.length_cons, List.length_nil]); have t1 := vcTt_len ho7; have t2 := vcSt_len ho7; have t3 := vcFt_len ho7 ho7; (try simp only [vcTt, vcSt, vcFt, vcLt, List.length_append, List.length_cons, List.length_nil] at *); omega)) lX7_41 ck_X7 rfl sh_106 pl_106 rfl ⟨by decide, by decide⟩ (Nat.le_of_ble_eq_true rfl) dX7_tells_39 (fun r1 h1 hp1 => ?_) rfl
    obtain ⟨rfl, hQq1, hF0q1⟩ := hp1
    have hFq1 := FrO.t (FrO.r (lo := 106) (hi := 108) (h := h)) hF0q1
    refine v_none ?_
    refine v_aload_n K dX7_tells_42 rfl ?_
    refine v_iconstN K 3 rfl dX7_tells_43 ?_
    refine v_iload_n K dX7_tells_44 rfl ?_
    refine v_iload_n K dX7_tells_45 rfl ?_
    refine v_iconstN K 1 rfl dX7_tells_46 ?_
    refine v_iaddN K dX7_tells_47 ?_
    refine v_callV (As := [.int (nI 3), .int x, .int (nI (dp + 1))]) K (c_X7_tells_3 h1 o w (dp + 1) m x (L ++ [60]) hQq1 ho7 (by (try simp only [List.length_append, List.length_cons, List.length_nil]); have t1 := vcTt_len ho7; have t2 := vcSt_len ho7; have t3 := vcFt_len ho7 ho7; (try simp only [vcTt, vcSt, vcFt, vcLt, List.length_append, List.length_cons, List.length_nil] at *); omega) (by omega)) lX7_38 ck_X7 rfl sh_106 pl_106 rfl ⟨by decide, by decide⟩ (Nat.le_of_ble_eq_true rfl) dX7_tells_48 (fun r2 h2 hp2 => ?_) rfl
    obtain ⟨rfl, hQq2, hF0q2⟩ := hp2
    have hFq2 := FrO.t hFq1 hF0q2
    refine v_some ?_
    refine v_aload_n K dX7_tells_51 rfl ?_
    refine v_aload_n K dX7_tells_52 rfl ?_
    refine v_geti (x := nI o) K fX7_19 sh_106 pl_106 hQq2.2.2.1 dX7_tells_53 ?_
    refine v_iconstN K 2 rfl dX7_tells_56 ?_
    refine v_iload_n K dX7_tells_57 rfl ?_
    refine v_iconstN K 1 rfl dX7_tells_58 ?_
    refine v_iaddN K dX7_tells_59 ?_
    refine v_callV (As := [.int (nI o), .int (nI 2), .int (nI (dp + 1))]) K (c_X7_tries h2 o w (dp + 1) m (nI 2) (L ++ [60] ++ (vcLt o 3)) hQq2 ho7 (by (try simp only [List.length_append, List.length_cons, List.length_nil]); have t1 := vcTt_len ho7; have t2 := vcSt_len ho7; have t3 := vcFt_len ho7 ho7; (try simp only [vcTt, vcSt, vcFt, vcLt, List.length_append, List.length_cons, List.length_nil] at *); omega) (by omega) o (by omega)) lX7_28 ck_X7 rfl sh_106 pl_106 rfl ⟨by decide, by decide⟩ (Nat.le_of_ble_eq_true rfl) dX7_tells_60 (fun r3 h3 hp3 => ?_) rfl
    obtain ⟨rfl, hQq3, hF0q3⟩ := hp3
    have hFq3 := FrO.t hFq2 hF0q3
    refine v_some ?_
    refine v_isub K dX7_tells_63 ?_
    refine v_iret K dX7_tells_64 ?_
    exact ⟨rfl, by first | exact hQq3 | (have hx := hQq3; simp only [List.append_assoc, List.cons_append, List.nil_append] at hx ⊢; exact hx), hFq3⟩
  · skip
    exfalso; omega

abbrev P_X7_tells_6 (h : Mm) (o w dp : Nat) (m x : Int32) (L : List Nat) : Option Value → Mm → Prop := fun r h2 => r = some (.int (vcL o 6 x (nI w) m)) ∧ VQ h2 o w m (L ++ vcLt o 6) ∧ FrO 106 108 h h2
theorem c_X7_tells_6 {l : Launch} (h : Mm) (o w dp : Nat) (m x : Int32) (L : List Nat) (hQ : VQ h o w m L) (ho7 : o < 7) (hL : L.length ≤ 18) (hdp : dp ≤ 31) : Con l yX7_tells cX7_tells 4 (some .int) 8 182 132 GL h [.ref 106, .int (nI 6), .int x, .int (nI dp)] (P_X7_tells_6 h o w dp m x L) := by
  refine Con.ofV (own := "FoxRounds$Voices") (nm := "tells") rfl rfl (by decide) (Nat.le_of_ble_eq_true rfl) ?_
  intro κ ρ hkl K
  subst hkl
  show V κ (QM κ (132, ρ, GL, 0, 0) (P_X7_tells_6 h o w dp m x L)) 4 (132, ρ, GL, 0, 0) h 0 [(0, .ref 106), (1, .int (nI 6)), (2, .int x), (3, .int (nI dp))] []
  refine v_iload_n K dX7_tells_0 rfl ?_
  refine v_bipushN K 40 rfl dX7_tells_1 ?_
  refine v_icmpN_le (tgt := 8) K (by omega) (by omega) dX7_tells_3 rfl (fun c1 => ?_) (fun c1 => ?_)
  · skip
    refine v_iload_n K dX7_tells_8 rfl ?_
    refine v_lookN (off := 56) (tgt := 65) K (by decide) 6 dX7_tells_9 rfl (by decide) rfl rfl ?_
    refine v_aload_n K dX7_tells_65 rfl ?_
    refine v_bipushN K 71 rfl dX7_tells_66 ?_
    refine v_callV (As := [.int (nI 71)]) K (c_X7_begin h o w 71 m (L) hQ (by (try simp only [List.length_append, List.length_cons, List.length_nil]); have t1 := vcTt_len ho7; have t2 := vcSt_len ho7; have t3 := vcFt_len ho7 ho7; (try simp only [vcTt, vcSt, vcFt, vcLt, List.length_append, List.length_cons, List.length_nil] at *); omega)) lX7_41 ck_X7 rfl sh_106 pl_106 rfl ⟨by decide, by decide⟩ (Nat.le_of_ble_eq_true rfl) dX7_tells_68 (fun r1 h1 hp1 => ?_) rfl
    obtain ⟨rfl, hQq1, hF0q1⟩ := hp1
    have hFq1 := FrO.t (FrO.r (lo := 106) (hi := 108) (h := h)) hF0q1
    refine v_none ?_
    refine v_aload_n K dX7_tells_71 rfl ?_
    refine v_aload_n K dX7_tells_72 rfl ?_
    refine v_geti (x := nI o) K fX7_19 sh_106 pl_106 hQq1.2.2.1 dX7_tells_73 ?_
    refine v_iload_n K dX7_tells_76 rfl ?_
    refine v_iload_n K dX7_tells_77 rfl ?_
    refine v_iconstN K 1 rfl dX7_tells_78 ?_
    refine v_iaddN K dX7_tells_79 ?_
    refine v_callV (As := [.int (nI o), .int x, .int (nI (dp + 1))]) K (c_X7_fears h1 o w (dp + 1) m x (L ++ [71]) hQq1 ho7 (by (try simp only [List.length_append, List.length_cons, List.length_nil]); have t1 := vcTt_len ho7; have t2 := vcSt_len ho7; have t3 := vcFt_len ho7 ho7; (try simp only [vcTt, vcSt, vcFt, vcLt, List.length_append, List.length_cons, List.length_nil] at *); omega) (by omega) o (by omega)) lX7_32 ck_X7 rfl sh_106 pl_106 rfl ⟨by decide, by decide⟩ (Nat.le_of_ble_eq_true rfl) dX7_tells_80 (fun r2 h2 hp2 => ?_) rfl
    obtain ⟨rfl, hQq2, hF0q2⟩ := hp2
    have hFq2 := FrO.t hFq1 hF0q2
    refine v_some ?_
    refine v_aload_n K dX7_tells_83 rfl ?_
    refine v_iconstN K 1 rfl dX7_tells_84 ?_
    refine v_iload_n K dX7_tells_85 rfl ?_
    refine v_iload_n K dX7_tells_86 rfl ?_
    refine v_iconstN K 1 rfl dX7_tells_87 ?_
    refine v_iaddN K dX7_tells_88 ?_
    refine v_callV (As := [.int (nI 1), .int x, .int (nI (dp + 1))]) K (c_X7_tells_1 h2 o w (dp + 1) m x (L ++ [71] ++ (vcFt o o)) hQq2 ho7 (by (try simp only [List.length_append, List.length_cons, List.length_nil]); have t1 := vcTt_len ho7; have t2 := vcSt_len ho7; have t3 := vcFt_len ho7 ho7; (try simp only [vcTt, vcSt, vcFt, vcLt, List.length_append, List.length_cons, List.length_nil] at *); omega) (by omega)) lX7_38 ck_X7 rfl sh_106 pl_106 rfl ⟨by decide, by decide⟩ (Nat.le_of_ble_eq_true rfl) dX7_tells_89 (fun r3 h3 hp3 => ?_) rfl
    obtain ⟨rfl, hQq3, hF0q3⟩ := hp3
    have hFq3 := FrO.t hFq2 hF0q3
    refine v_some ?_
    refine v_isub K dX7_tells_92 ?_
    refine v_iret K dX7_tells_93 ?_
    exact ⟨rfl, by first | exact hQq3 | (have hx := hQq3; simp only [List.append_assoc, List.cons_append, List.nil_append] at hx ⊢; exact hx), hFq3⟩
  · skip
    exfalso; omega

abbrev P_X7_tells_0w (h : Mm) (o w dp : Nat) (m x : Int32) (L : List Nat) : Option Value → Mm → Prop := fun r h2 => r = some (.int (vcL o 0 x (nI w) m)) ∧ VQ h2 o w m (L ++ vcLt o 0) ∧ FrO 106 108 h h2
theorem c_X7_tells_0w {l : Launch} (h : Mm) (o w dp : Nat) (m x : Int32) (L : List Nat) (hQ : VQ h o w m L) (ho7 : o < 7) (hL : L.length ≤ 27) (hdp : dp ≤ 32) : Con l yX7_tells cX7_tells 4 (some .int) 8 182 132 GL h [.ref 106, .int (nI 0), .int x, .int (nI dp)] (P_X7_tells_0w h o w dp m x L) := by
  refine Con.ofV (own := "FoxRounds$Voices") (nm := "tells") rfl rfl (by decide) (Nat.le_of_ble_eq_true rfl) ?_
  intro κ ρ hkl K
  subst hkl
  show V κ (QM κ (132, ρ, GL, 0, 0) (P_X7_tells_0w h o w dp m x L)) 4 (132, ρ, GL, 0, 0) h 0 [(0, .ref 106), (1, .int (nI 0)), (2, .int x), (3, .int (nI dp))] []
  refine v_iload_n K dX7_tells_0 rfl ?_
  refine v_bipushN K 40 rfl dX7_tells_1 ?_
  refine v_icmpN_le (tgt := 8) K (by omega) (by omega) dX7_tells_3 rfl (fun c1 => ?_) (fun c1 => ?_)
  · skip
    refine v_iload_n K dX7_tells_8 rfl ?_
    refine v_lookN (off := 85) (tgt := 94) K (by decide) 0 dX7_tells_9 rfl (by decide) rfl rfl ?_
    refine v_aload_n K dX7_tells_94 rfl ?_
    refine v_bipushN K 13 rfl dX7_tells_95 ?_
    refine v_callV (As := [.int (nI 13)]) K (c_X7_begin h o w 13 m (L) hQ (by (try simp only [List.length_append, List.length_cons, List.length_nil]); have t1 := vcTt_len ho7; have t2 := vcSt_len ho7; have t3 := vcFt_len ho7 ho7; (try simp only [vcTt, vcSt, vcFt, vcLt, List.length_append, List.length_cons, List.length_nil] at *); omega)) lX7_41 ck_X7 rfl sh_106 pl_106 rfl ⟨by decide, by decide⟩ (Nat.le_of_ble_eq_true rfl) dX7_tells_97 (fun r1 h1 hp1 => ?_) rfl
    obtain ⟨rfl, hQq1, hF0q1⟩ := hp1
    have hFq1 := FrO.t (FrO.r (lo := 106) (hi := 108) (h := h)) hF0q1
    refine v_none ?_
    refine v_aload_n K dX7_tells_100 rfl ?_
    refine v_aload_n K dX7_tells_101 rfl ?_
    refine v_geti (x := nI o) K fX7_19 sh_106 pl_106 hQq1.2.2.1 dX7_tells_102 ?_
    refine v_iload_n K dX7_tells_105 rfl ?_
    refine v_iload_n K dX7_tells_106 rfl ?_
    refine v_iconstN K 1 rfl dX7_tells_107 ?_
    refine v_iaddN K dX7_tells_108 ?_
    refine v_callV (As := [.int (nI o), .int x, .int (nI (dp + 1))]) K (c_X7_fears h1 o w (dp + 1) m x (L ++ [13]) hQq1 ho7 (by (try simp only [List.length_append, List.length_cons, List.length_nil]); have t1 := vcTt_len ho7; have t2 := vcSt_len ho7; have t3 := vcFt_len ho7 ho7; (try simp only [vcTt, vcSt, vcFt, vcLt, List.length_append, List.length_cons, List.length_nil] at *); omega) (by omega) o (by omega)) lX7_32 ck_X7 rfl sh_106 pl_106 rfl ⟨by decide, by decide⟩ (Nat.le_of_ble_eq_true rfl) dX7_tells_109 (fun r2 h2 hp2 => ?_) rfl
    obtain ⟨rfl, hQq2, hF0q2⟩ := hp2
    have hFq2 := FrO.t hFq1 hF0q2
    refine v_some ?_
    refine v_aload_n K dX7_tells_112 rfl ?_
    refine v_aload_n K dX7_tells_113 rfl ?_
    refine v_geti (x := nI o) K fX7_19 sh_106 pl_106 hQq2.2.2.1 dX7_tells_114 ?_
    refine v_iload_n K dX7_tells_117 rfl ?_
    refine v_iload_n K dX7_tells_118 rfl ?_
    refine v_iconstN K 1 rfl dX7_tells_119 ?_
    refine v_iaddN K dX7_tells_120 ?_
    refine v_callV (As := [.int (nI o), .int x, .int (nI (dp + 1))]) K (c_X7_shuts h2 o w (dp + 1) m x (L ++ [13] ++ (vcFt o o)) hQq2 ho7 (by (try simp only [List.length_append, List.length_cons, List.length_nil]); have t1 := vcTt_len ho7; have t2 := vcSt_len ho7; have t3 := vcFt_len ho7 ho7; (try simp only [vcTt, vcSt, vcFt, vcLt, List.length_append, List.length_cons, List.length_nil] at *); omega) (by omega) o (by omega)) lX7_35 ck_X7 rfl sh_106 pl_106 rfl ⟨by decide, by decide⟩ (Nat.le_of_ble_eq_true rfl) dX7_tells_121 (fun r3 h3 hp3 => ?_) rfl
    obtain ⟨rfl, hQq3, hF0q3⟩ := hp3
    have hFq3 := FrO.t hFq2 hF0q3
    refine v_some ?_
    refine v_ixor K dX7_tells_124 ?_
    refine v_iret K dX7_tells_125 ?_
    exact ⟨rfl, by first | exact hQq3 | (have hx := hQq3; simp only [List.append_assoc, List.cons_append, List.nil_append] at hx ⊢; exact hx), hFq3⟩
  · skip
    exfalso; omega

abbrev P_X7_tells_1w (h : Mm) (o w dp : Nat) (m x : Int32) (L : List Nat) : Option Value → Mm → Prop := fun r h2 => r = some (.int (vcL o 1 x (nI w) m)) ∧ VQ h2 o w m (L ++ vcLt o 1) ∧ FrO 106 108 h h2
theorem c_X7_tells_1w {l : Launch} (h : Mm) (o w dp : Nat) (m x : Int32) (L : List Nat) (hQ : VQ h o w m L) (ho7 : o < 7) (hL : L.length ≤ 27) (hdp : dp ≤ 32) : Con l yX7_tells cX7_tells 4 (some .int) 8 182 132 GL h [.ref 106, .int (nI 1), .int x, .int (nI dp)] (P_X7_tells_1w h o w dp m x L) := by
  refine Con.ofV (own := "FoxRounds$Voices") (nm := "tells") rfl rfl (by decide) (Nat.le_of_ble_eq_true rfl) ?_
  intro κ ρ hkl K
  subst hkl
  show V κ (QM κ (132, ρ, GL, 0, 0) (P_X7_tells_1w h o w dp m x L)) 4 (132, ρ, GL, 0, 0) h 0 [(0, .ref 106), (1, .int (nI 1)), (2, .int x), (3, .int (nI dp))] []
  refine v_iload_n K dX7_tells_0 rfl ?_
  refine v_bipushN K 40 rfl dX7_tells_1 ?_
  refine v_icmpN_le (tgt := 8) K (by omega) (by omega) dX7_tells_3 rfl (fun c1 => ?_) (fun c1 => ?_)
  · skip
    refine v_iload_n K dX7_tells_8 rfl ?_
    refine v_lookN (off := 85) (tgt := 94) K (by decide) 1 dX7_tells_9 rfl (by decide) rfl rfl ?_
    refine v_aload_n K dX7_tells_94 rfl ?_
    refine v_bipushN K 13 rfl dX7_tells_95 ?_
    refine v_callV (As := [.int (nI 13)]) K (c_X7_begin h o w 13 m (L) hQ (by (try simp only [List.length_append, List.length_cons, List.length_nil]); have t1 := vcTt_len ho7; have t2 := vcSt_len ho7; have t3 := vcFt_len ho7 ho7; (try simp only [vcTt, vcSt, vcFt, vcLt, List.length_append, List.length_cons, List.length_nil] at *); omega)) lX7_41 ck_X7 rfl sh_106 pl_106 rfl ⟨by decide, by decide⟩ (Nat.le_of_ble_eq_true rfl) dX7_tells_97 (fun r1 h1 hp1 => ?_) rfl
    obtain ⟨rfl, hQq1, hF0q1⟩ := hp1
    have hFq1 := FrO.t (FrO.r (lo := 106) (hi := 108) (h := h)) hF0q1
    refine v_none ?_
    refine v_aload_n K dX7_tells_100 rfl ?_
    refine v_aload_n K dX7_tells_101 rfl ?_
    refine v_geti (x := nI o) K fX7_19 sh_106 pl_106 hQq1.2.2.1 dX7_tells_102 ?_
    refine v_iload_n K dX7_tells_105 rfl ?_
    refine v_iload_n K dX7_tells_106 rfl ?_
    refine v_iconstN K 1 rfl dX7_tells_107 ?_
    refine v_iaddN K dX7_tells_108 ?_
    refine v_callV (As := [.int (nI o), .int x, .int (nI (dp + 1))]) K (c_X7_fears h1 o w (dp + 1) m x (L ++ [13]) hQq1 ho7 (by (try simp only [List.length_append, List.length_cons, List.length_nil]); have t1 := vcTt_len ho7; have t2 := vcSt_len ho7; have t3 := vcFt_len ho7 ho7; (try simp only [vcTt, vcSt, vcFt, vcLt, List.length_append, List.length_cons, List.length_nil] at *); omega) (by omega) o (by omega)) lX7_32 ck_X7 rfl sh_106 pl_106 rfl ⟨by decide, by decide⟩ (Nat.le_of_ble_eq_true rfl) dX7_tells_109 (fun r2 h2 hp2 => ?_) rfl
    obtain ⟨rfl, hQq2, hF0q2⟩ := hp2
    have hFq2 := FrO.t hFq1 hF0q2
    refine v_some ?_
    refine v_aload_n K dX7_tells_112 rfl ?_
    refine v_aload_n K dX7_tells_113 rfl ?_
    refine v_geti (x := nI o) K fX7_19 sh_106 pl_106 hQq2.2.2.1 dX7_tells_114 ?_
    refine v_iload_n K dX7_tells_117 rfl ?_
    refine v_iload_n K dX7_tells_118 rfl ?_
    refine v_iconstN K 1 rfl dX7_tells_119 ?_
    refine v_iaddN K dX7_tells_120 ?_
    refine v_callV (As := [.int (nI o), .int x, .int (nI (dp + 1))]) K (c_X7_shuts h2 o w (dp + 1) m x (L ++ [13] ++ (vcFt o o)) hQq2 ho7 (by (try simp only [List.length_append, List.length_cons, List.length_nil]); have t1 := vcTt_len ho7; have t2 := vcSt_len ho7; have t3 := vcFt_len ho7 ho7; (try simp only [vcTt, vcSt, vcFt, vcLt, List.length_append, List.length_cons, List.length_nil] at *); omega) (by omega) o (by omega)) lX7_35 ck_X7 rfl sh_106 pl_106 rfl ⟨by decide, by decide⟩ (Nat.le_of_ble_eq_true rfl) dX7_tells_121 (fun r3 h3 hp3 => ?_) rfl
    obtain ⟨rfl, hQq3, hF0q3⟩ := hp3
    have hFq3 := FrO.t hFq2 hF0q3
    refine v_some ?_
    refine v_ixor K dX7_tells_124 ?_
    refine v_iret K dX7_tells_125 ?_
    exact ⟨rfl, by first | exact hQq3 | (have hx := hQq3; simp only [List.append_assoc, List.cons_append, List.nil_append] at hx ⊢; exact hx), hFq3⟩
  · skip
    exfalso; omega

abbrev P_X7_tells_2w (h : Mm) (o w dp : Nat) (m x : Int32) (L : List Nat) : Option Value → Mm → Prop := fun r h2 => r = some (.int (vcL o 2 x (nI w) m)) ∧ VQ h2 o w m (L ++ vcLt o 2) ∧ FrO 106 108 h h2
theorem c_X7_tells_2w {l : Launch} (h : Mm) (o w dp : Nat) (m x : Int32) (L : List Nat) (hQ : VQ h o w m L) (ho7 : o < 7) (hL : L.length ≤ 27) (hdp : dp ≤ 32) : Con l yX7_tells cX7_tells 4 (some .int) 8 182 132 GL h [.ref 106, .int (nI 2), .int x, .int (nI dp)] (P_X7_tells_2w h o w dp m x L) := by
  refine Con.ofV (own := "FoxRounds$Voices") (nm := "tells") rfl rfl (by decide) (Nat.le_of_ble_eq_true rfl) ?_
  intro κ ρ hkl K
  subst hkl
  show V κ (QM κ (132, ρ, GL, 0, 0) (P_X7_tells_2w h o w dp m x L)) 4 (132, ρ, GL, 0, 0) h 0 [(0, .ref 106), (1, .int (nI 2)), (2, .int x), (3, .int (nI dp))] []
  refine v_iload_n K dX7_tells_0 rfl ?_
  refine v_bipushN K 40 rfl dX7_tells_1 ?_
  refine v_icmpN_le (tgt := 8) K (by omega) (by omega) dX7_tells_3 rfl (fun c1 => ?_) (fun c1 => ?_)
  · skip
    refine v_iload_n K dX7_tells_8 rfl ?_
    refine v_lookN (off := 85) (tgt := 94) K (by decide) 2 dX7_tells_9 rfl (by decide) rfl rfl ?_
    refine v_aload_n K dX7_tells_94 rfl ?_
    refine v_bipushN K 13 rfl dX7_tells_95 ?_
    refine v_callV (As := [.int (nI 13)]) K (c_X7_begin h o w 13 m (L) hQ (by (try simp only [List.length_append, List.length_cons, List.length_nil]); have t1 := vcTt_len ho7; have t2 := vcSt_len ho7; have t3 := vcFt_len ho7 ho7; (try simp only [vcTt, vcSt, vcFt, vcLt, List.length_append, List.length_cons, List.length_nil] at *); omega)) lX7_41 ck_X7 rfl sh_106 pl_106 rfl ⟨by decide, by decide⟩ (Nat.le_of_ble_eq_true rfl) dX7_tells_97 (fun r1 h1 hp1 => ?_) rfl
    obtain ⟨rfl, hQq1, hF0q1⟩ := hp1
    have hFq1 := FrO.t (FrO.r (lo := 106) (hi := 108) (h := h)) hF0q1
    refine v_none ?_
    refine v_aload_n K dX7_tells_100 rfl ?_
    refine v_aload_n K dX7_tells_101 rfl ?_
    refine v_geti (x := nI o) K fX7_19 sh_106 pl_106 hQq1.2.2.1 dX7_tells_102 ?_
    refine v_iload_n K dX7_tells_105 rfl ?_
    refine v_iload_n K dX7_tells_106 rfl ?_
    refine v_iconstN K 1 rfl dX7_tells_107 ?_
    refine v_iaddN K dX7_tells_108 ?_
    refine v_callV (As := [.int (nI o), .int x, .int (nI (dp + 1))]) K (c_X7_fears h1 o w (dp + 1) m x (L ++ [13]) hQq1 ho7 (by (try simp only [List.length_append, List.length_cons, List.length_nil]); have t1 := vcTt_len ho7; have t2 := vcSt_len ho7; have t3 := vcFt_len ho7 ho7; (try simp only [vcTt, vcSt, vcFt, vcLt, List.length_append, List.length_cons, List.length_nil] at *); omega) (by omega) o (by omega)) lX7_32 ck_X7 rfl sh_106 pl_106 rfl ⟨by decide, by decide⟩ (Nat.le_of_ble_eq_true rfl) dX7_tells_109 (fun r2 h2 hp2 => ?_) rfl
    obtain ⟨rfl, hQq2, hF0q2⟩ := hp2
    have hFq2 := FrO.t hFq1 hF0q2
    refine v_some ?_
    refine v_aload_n K dX7_tells_112 rfl ?_
    refine v_aload_n K dX7_tells_113 rfl ?_
    refine v_geti (x := nI o) K fX7_19 sh_106 pl_106 hQq2.2.2.1 dX7_tells_114 ?_
    refine v_iload_n K dX7_tells_117 rfl ?_
    refine v_iload_n K dX7_tells_118 rfl ?_
    refine v_iconstN K 1 rfl dX7_tells_119 ?_
    refine v_iaddN K dX7_tells_120 ?_
    refine v_callV (As := [.int (nI o), .int x, .int (nI (dp + 1))]) K (c_X7_shuts h2 o w (dp + 1) m x (L ++ [13] ++ (vcFt o o)) hQq2 ho7 (by (try simp only [List.length_append, List.length_cons, List.length_nil]); have t1 := vcTt_len ho7; have t2 := vcSt_len ho7; have t3 := vcFt_len ho7 ho7; (try simp only [vcTt, vcSt, vcFt, vcLt, List.length_append, List.length_cons, List.length_nil] at *); omega) (by omega) o (by omega)) lX7_35 ck_X7 rfl sh_106 pl_106 rfl ⟨by decide, by decide⟩ (Nat.le_of_ble_eq_true rfl) dX7_tells_121 (fun r3 h3 hp3 => ?_) rfl
    obtain ⟨rfl, hQq3, hF0q3⟩ := hp3
    have hFq3 := FrO.t hFq2 hF0q3
    refine v_some ?_
    refine v_ixor K dX7_tells_124 ?_
    refine v_iret K dX7_tells_125 ?_
    exact ⟨rfl, by first | exact hQq3 | (have hx := hQq3; simp only [List.append_assoc, List.cons_append, List.nil_append] at hx ⊢; exact hx), hFq3⟩
  · skip
    exfalso; omega

abbrev P_X7_tells_3w (h : Mm) (o w dp : Nat) (m x : Int32) (L : List Nat) : Option Value → Mm → Prop := fun r h2 => r = some (.int (vcL o 3 x (nI w) m)) ∧ VQ h2 o w m (L ++ vcLt o 3) ∧ FrO 106 108 h h2
theorem c_X7_tells_3w {l : Launch} (h : Mm) (o w dp : Nat) (m x : Int32) (L : List Nat) (hQ : VQ h o w m L) (ho7 : o < 7) (hL : L.length ≤ 27) (hdp : dp ≤ 32) : Con l yX7_tells cX7_tells 4 (some .int) 8 182 132 GL h [.ref 106, .int (nI 3), .int x, .int (nI dp)] (P_X7_tells_3w h o w dp m x L) := by
  refine Con.ofV (own := "FoxRounds$Voices") (nm := "tells") rfl rfl (by decide) (Nat.le_of_ble_eq_true rfl) ?_
  intro κ ρ hkl K
  subst hkl
  show V κ (QM κ (132, ρ, GL, 0, 0) (P_X7_tells_3w h o w dp m x L)) 4 (132, ρ, GL, 0, 0) h 0 [(0, .ref 106), (1, .int (nI 3)), (2, .int x), (3, .int (nI dp))] []
  refine v_iload_n K dX7_tells_0 rfl ?_
  refine v_bipushN K 40 rfl dX7_tells_1 ?_
  refine v_icmpN_le (tgt := 8) K (by omega) (by omega) dX7_tells_3 rfl (fun c1 => ?_) (fun c1 => ?_)
  · skip
    refine v_iload_n K dX7_tells_8 rfl ?_
    refine v_lookN (off := 85) (tgt := 94) K (by decide) 3 dX7_tells_9 rfl (by decide) rfl rfl ?_
    refine v_aload_n K dX7_tells_94 rfl ?_
    refine v_bipushN K 13 rfl dX7_tells_95 ?_
    refine v_callV (As := [.int (nI 13)]) K (c_X7_begin h o w 13 m (L) hQ (by (try simp only [List.length_append, List.length_cons, List.length_nil]); have t1 := vcTt_len ho7; have t2 := vcSt_len ho7; have t3 := vcFt_len ho7 ho7; (try simp only [vcTt, vcSt, vcFt, vcLt, List.length_append, List.length_cons, List.length_nil] at *); omega)) lX7_41 ck_X7 rfl sh_106 pl_106 rfl ⟨by decide, by decide⟩ (Nat.le_of_ble_eq_true rfl) dX7_tells_97 (fun r1 h1 hp1 => ?_) rfl
    obtain ⟨rfl, hQq1, hF0q1⟩ := hp1
    have hFq1 := FrO.t (FrO.r (lo := 106) (hi := 108) (h := h)) hF0q1
    refine v_none ?_
    refine v_aload_n K dX7_tells_100 rfl ?_
    refine v_aload_n K dX7_tells_101 rfl ?_
    refine v_geti (x := nI o) K fX7_19 sh_106 pl_106 hQq1.2.2.1 dX7_tells_102 ?_
    refine v_iload_n K dX7_tells_105 rfl ?_
    refine v_iload_n K dX7_tells_106 rfl ?_
    refine v_iconstN K 1 rfl dX7_tells_107 ?_
    refine v_iaddN K dX7_tells_108 ?_
    refine v_callV (As := [.int (nI o), .int x, .int (nI (dp + 1))]) K (c_X7_fears h1 o w (dp + 1) m x (L ++ [13]) hQq1 ho7 (by (try simp only [List.length_append, List.length_cons, List.length_nil]); have t1 := vcTt_len ho7; have t2 := vcSt_len ho7; have t3 := vcFt_len ho7 ho7; (try simp only [vcTt, vcSt, vcFt, vcLt, List.length_append, List.length_cons, List.length_nil] at *); omega) (by omega) o (by omega)) lX7_32 ck_X7 rfl sh_106 pl_106 rfl ⟨by decide, by decide⟩ (Nat.le_of_ble_eq_true rfl) dX7_tells_109 (fun r2 h2 hp2 => ?_) rfl
    obtain ⟨rfl, hQq2, hF0q2⟩ := hp2
    have hFq2 := FrO.t hFq1 hF0q2
    refine v_some ?_
    refine v_aload_n K dX7_tells_112 rfl ?_
    refine v_aload_n K dX7_tells_113 rfl ?_
    refine v_geti (x := nI o) K fX7_19 sh_106 pl_106 hQq2.2.2.1 dX7_tells_114 ?_
    refine v_iload_n K dX7_tells_117 rfl ?_
    refine v_iload_n K dX7_tells_118 rfl ?_
    refine v_iconstN K 1 rfl dX7_tells_119 ?_
    refine v_iaddN K dX7_tells_120 ?_
    refine v_callV (As := [.int (nI o), .int x, .int (nI (dp + 1))]) K (c_X7_shuts h2 o w (dp + 1) m x (L ++ [13] ++ (vcFt o o)) hQq2 ho7 (by (try simp only [List.length_append, List.length_cons, List.length_nil]); have t1 := vcTt_len ho7; have t2 := vcSt_len ho7; have t3 := vcFt_len ho7 ho7; (try simp only [vcTt, vcSt, vcFt, vcLt, List.length_append, List.length_cons, List.length_nil] at *); omega) (by omega) o (by omega)) lX7_35 ck_X7 rfl sh_106 pl_106 rfl ⟨by decide, by decide⟩ (Nat.le_of_ble_eq_true rfl) dX7_tells_121 (fun r3 h3 hp3 => ?_) rfl
    obtain ⟨rfl, hQq3, hF0q3⟩ := hp3
    have hFq3 := FrO.t hFq2 hF0q3
    refine v_some ?_
    refine v_ixor K dX7_tells_124 ?_
    refine v_iret K dX7_tells_125 ?_
    exact ⟨rfl, by first | exact hQq3 | (have hx := hQq3; simp only [List.append_assoc, List.cons_append, List.nil_append] at hx ⊢; exact hx), hFq3⟩
  · skip
    exfalso; omega

abbrev P_X7_tells_4w (h : Mm) (o w dp : Nat) (m x : Int32) (L : List Nat) : Option Value → Mm → Prop := fun r h2 => r = some (.int (vcL o 4 x (nI w) m)) ∧ VQ h2 o w m (L ++ vcLt o 4) ∧ FrO 106 108 h h2
theorem c_X7_tells_4w {l : Launch} (h : Mm) (o w dp : Nat) (m x : Int32) (L : List Nat) (hQ : VQ h o w m L) (ho7 : o < 7) (hL : L.length ≤ 27) (hdp : dp ≤ 32) : Con l yX7_tells cX7_tells 4 (some .int) 8 182 132 GL h [.ref 106, .int (nI 4), .int x, .int (nI dp)] (P_X7_tells_4w h o w dp m x L) := by
  refine Con.ofV (own := "FoxRounds$Voices") (nm := "tells") rfl rfl (by decide) (Nat.le_of_ble_eq_true rfl) ?_
  intro κ ρ hkl K
  subst hkl
  show V κ (QM κ (132, ρ, GL, 0, 0) (P_X7_tells_4w h o w dp m x L)) 4 (132, ρ, GL, 0, 0) h 0 [(0, .ref 106), (1, .int (nI 4)), (2, .int x), (3, .int (nI dp))] []
  refine v_iload_n K dX7_tells_0 rfl ?_
  refine v_bipushN K 40 rfl dX7_tells_1 ?_
  refine v_icmpN_le (tgt := 8) K (by omega) (by omega) dX7_tells_3 rfl (fun c1 => ?_) (fun c1 => ?_)
  · skip
    refine v_iload_n K dX7_tells_8 rfl ?_
    refine v_lookN (off := 85) (tgt := 94) K (by decide) 4 dX7_tells_9 rfl (by decide) rfl rfl ?_
    refine v_aload_n K dX7_tells_94 rfl ?_
    refine v_bipushN K 13 rfl dX7_tells_95 ?_
    refine v_callV (As := [.int (nI 13)]) K (c_X7_begin h o w 13 m (L) hQ (by (try simp only [List.length_append, List.length_cons, List.length_nil]); have t1 := vcTt_len ho7; have t2 := vcSt_len ho7; have t3 := vcFt_len ho7 ho7; (try simp only [vcTt, vcSt, vcFt, vcLt, List.length_append, List.length_cons, List.length_nil] at *); omega)) lX7_41 ck_X7 rfl sh_106 pl_106 rfl ⟨by decide, by decide⟩ (Nat.le_of_ble_eq_true rfl) dX7_tells_97 (fun r1 h1 hp1 => ?_) rfl
    obtain ⟨rfl, hQq1, hF0q1⟩ := hp1
    have hFq1 := FrO.t (FrO.r (lo := 106) (hi := 108) (h := h)) hF0q1
    refine v_none ?_
    refine v_aload_n K dX7_tells_100 rfl ?_
    refine v_aload_n K dX7_tells_101 rfl ?_
    refine v_geti (x := nI o) K fX7_19 sh_106 pl_106 hQq1.2.2.1 dX7_tells_102 ?_
    refine v_iload_n K dX7_tells_105 rfl ?_
    refine v_iload_n K dX7_tells_106 rfl ?_
    refine v_iconstN K 1 rfl dX7_tells_107 ?_
    refine v_iaddN K dX7_tells_108 ?_
    refine v_callV (As := [.int (nI o), .int x, .int (nI (dp + 1))]) K (c_X7_fears h1 o w (dp + 1) m x (L ++ [13]) hQq1 ho7 (by (try simp only [List.length_append, List.length_cons, List.length_nil]); have t1 := vcTt_len ho7; have t2 := vcSt_len ho7; have t3 := vcFt_len ho7 ho7; (try simp only [vcTt, vcSt, vcFt, vcLt, List.length_append, List.length_cons, List.length_nil] at *); omega) (by omega) o (by omega)) lX7_32 ck_X7 rfl sh_106 pl_106 rfl ⟨by decide, by decide⟩ (Nat.le_of_ble_eq_true rfl) dX7_tells_109 (fun r2 h2 hp2 => ?_) rfl
    obtain ⟨rfl, hQq2, hF0q2⟩ := hp2
    have hFq2 := FrO.t hFq1 hF0q2
    refine v_some ?_
    refine v_aload_n K dX7_tells_112 rfl ?_
    refine v_aload_n K dX7_tells_113 rfl ?_
    refine v_geti (x := nI o) K fX7_19 sh_106 pl_106 hQq2.2.2.1 dX7_tells_114 ?_
    refine v_iload_n K dX7_tells_117 rfl ?_
    refine v_iload_n K dX7_tells_118 rfl ?_
    refine v_iconstN K 1 rfl dX7_tells_119 ?_
    refine v_iaddN K dX7_tells_120 ?_
    refine v_callV (As := [.int (nI o), .int x, .int (nI (dp + 1))]) K (c_X7_shuts h2 o w (dp + 1) m x (L ++ [13] ++ (vcFt o o)) hQq2 ho7 (by (try simp only [List.length_append, List.length_cons, List.length_nil]); have t1 := vcTt_len ho7; have t2 := vcSt_len ho7; have t3 := vcFt_len ho7 ho7; (try simp only [vcTt, vcSt, vcFt, vcLt, List.length_append, List.length_cons, List.length_nil] at *); omega) (by omega) o (by omega)) lX7_35 ck_X7 rfl sh_106 pl_106 rfl ⟨by decide, by decide⟩ (Nat.le_of_ble_eq_true rfl) dX7_tells_121 (fun r3 h3 hp3 => ?_) rfl
    obtain ⟨rfl, hQq3, hF0q3⟩ := hp3
    have hFq3 := FrO.t hFq2 hF0q3
    refine v_some ?_
    refine v_ixor K dX7_tells_124 ?_
    refine v_iret K dX7_tells_125 ?_
    exact ⟨rfl, by first | exact hQq3 | (have hx := hQq3; simp only [List.append_assoc, List.cons_append, List.nil_append] at hx ⊢; exact hx), hFq3⟩
  · skip
    exfalso; omega

abbrev P_X7_tells (h : Mm) (o w dp : Nat) (m x : Int32) (L : List Nat) (k : Nat) : Option Value → Mm → Prop := fun r h2 => r = some (.int (vcL o k x (nI w) m)) ∧ VQ h2 o w m (L ++ vcLt o k) ∧ FrO 106 108 h h2
theorem c_X7_tells {l : Launch} (h : Mm) (o w dp : Nat) (m x : Int32) (L : List Nat) (hQ : VQ h o w m L) (ho7 : o < 7) (hL : L.length ≤ 18) (hdp : dp ≤ 31) (k : Nat) (hk : k < 7) : Con l yX7_tells cX7_tells 4 (some .int) 8 182 132 GL h [.ref 106, .int (nI k), .int x, .int (nI dp)] (P_X7_tells h o w dp m x L k) := by
  obtain rfl | rfl | rfl | rfl | rfl | rfl | rfl : k = 0 ∨ k = 1 ∨ k = 2 ∨ k = 3 ∨ k = 4 ∨ k = 5 ∨ k = 6 := by omega
  · exact c_X7_tells_0w h o w dp m x L hQ ho7 (by omega) (by omega)
  · exact c_X7_tells_1w h o w dp m x L hQ ho7 (by omega) (by omega)
  · exact c_X7_tells_2w h o w dp m x L hQ ho7 (by omega) (by omega)
  · exact c_X7_tells_3w h o w dp m x L hQ ho7 (by omega) (by omega)
  · exact c_X7_tells_4w h o w dp m x L hQ ho7 (by omega) (by omega)
  · exact c_X7_tells_5 h o w dp m x L hQ ho7 (by omega) (by omega)
  · exact c_X7_tells_6 h o w dp m x L hQ ho7 (by omega) (by omega)

abbrev P_X7_speak (h : Mm) (o w a : Nat) (m x : Int32) : Option Value → Mm → Prop := fun r h2 => r = some (.int (vcV o a x (nI w) m)) ∧ VQ h2 o w m (vcVt o a) ∧ FrO 106 108 h h2
theorem c_X7_speak {l : Launch} (h : Mm) (o w a : Nat) (m x : Int32) (ho7 : o < 7) (ha : a < 4) : Con l yX7_speak cX7_speak 6 (some .int) 9 205 132 GL h [.ref 106, .int (nI o), .int (nI w), .int m, .int (nI a), .int x] (P_X7_speak h o w a m x) := by
  refine Con.ofV (own := "FoxRounds$Voices") (nm := "speak") rfl rfl (by decide) (Nat.le_of_ble_eq_true rfl) ?_
  intro κ ρ hkl K
  subst hkl
  show V κ (QM κ (132, ρ, GL, 0, 0) (P_X7_speak h o w a m x)) 6 (132, ρ, GL, 0, 0) h 0 [(0, .ref 106), (1, .int (nI o)), (2, .int (nI w)), (3, .int m), (4, .int (nI a)), (5, .int x)] []
  refine v_aload_n K dX7_speak_0 rfl ?_
  refine v_iload_n K dX7_speak_1 rfl ?_
  refine v_puti K pX7_19 sh_106 pl_106 dX7_speak_2 ?_
  refine v_aload_n K dX7_speak_5 rfl ?_
  refine v_iload_n K dX7_speak_6 rfl ?_
  refine v_puti K pX7_22 sh_106 pl_106 dX7_speak_7 ?_
  refine v_aload_n K dX7_speak_10 rfl ?_
  refine v_iload_n K dX7_speak_11 rfl ?_
  refine v_puti K pX7_25 sh_106 pl_106 dX7_speak_12 ?_
  refine v_aload_n K dX7_speak_15 rfl ?_
  refine v_iconstN K 0 rfl dX7_speak_16 ?_
  refine v_puti K pX7_15 sh_106 pl_106 dX7_speak_17 ?_
  have hQ0 : VQ (u2 (u2 (u2 (u2 h 106 2 (nI o)) 106 3 (nI w)) 106 4 m) 106 1 (nI 0)) o w m [] := ⟨u2_at, fun k hk => absurd hk (Nat.not_lt_zero _), (u2_ne (by omega)).trans ((u2_ne (by omega)).trans ((u2_ne (by omega)).trans u2_at)), (u2_ne (by omega)).trans ((u2_ne (by omega)).trans u2_at), (u2_ne (by omega)).trans u2_at⟩
  have hF0 : FrO 106 108 h (u2 (u2 (u2 (u2 h 106 2 (nI o)) 106 3 (nI w)) 106 4 m) 106 1 (nI 0)) := (((FrO.r.u (by omega) (by omega)).u (by omega) (by omega)).u (by omega) (by omega)).u (by omega) (by omega)
  refine v_iload K dX7_speak_20 rfl ?_
  obtain rfl | rfl | rfl | rfl : a = 0 ∨ a = 1 ∨ a = 2 ∨ a = 3 := by omega
  · skip
    refine v_tinN (off := 26) (tgt := 48) K (by decide) 0 dX7_speak_22 (by decide) (by decide) (by decide) rfl rfl ?_
    refine v_aload_n K dX7_speak_48 rfl ?_
    refine v_iload_n K dX7_speak_49 rfl ?_
    refine v_iload K dX7_speak_50 rfl ?_
    refine v_iconstN K 1 rfl dX7_speak_52 ?_
    refine v_callV (As := [.int (nI o), .int x, .int (nI 1)]) K (c_X7_tries ((u2 (u2 (u2 (u2 h 106 2 (nI o)) 106 3 (nI w)) 106 4 m) 106 1 (nI 0))) o w 1 m x ([]) hQ0 ho7 (by (try simp only [List.length_append, List.length_cons, List.length_nil]); have t1 := vcTt_len ho7; have t2 := vcSt_len ho7; have t3 := vcFt_len ho7 ho7; (try simp only [vcTt, vcSt, vcFt, vcLt, List.length_append, List.length_cons, List.length_nil] at *); omega) (by omega) o (by omega)) lX7_28 ck_X7 rfl sh_106 pl_106 rfl ⟨by decide, by decide⟩ (Nat.le_of_ble_eq_true rfl) dX7_speak_53 (fun r1 h1 hp1 => ?_) rfl
    obtain ⟨rfl, hQq1, hF0q1⟩ := hp1
    have hFq1 := FrO.t hF0 hF0q1
    refine v_some ?_
    refine v_iret K dX7_speak_56 ?_
    exact ⟨rfl, hQq1, hFq1⟩
  · skip
    refine v_tinN (off := 35) (tgt := 57) K (by decide) 1 dX7_speak_22 (by decide) (by decide) (by decide) rfl rfl ?_
    refine v_aload_n K dX7_speak_57 rfl ?_
    refine v_iload_n K dX7_speak_58 rfl ?_
    refine v_iload K dX7_speak_59 rfl ?_
    refine v_iconstN K 1 rfl dX7_speak_61 ?_
    refine v_callV (As := [.int (nI o), .int x, .int (nI 1)]) K (c_X7_fears ((u2 (u2 (u2 (u2 h 106 2 (nI o)) 106 3 (nI w)) 106 4 m) 106 1 (nI 0))) o w 1 m x ([]) hQ0 ho7 (by (try simp only [List.length_append, List.length_cons, List.length_nil]); have t1 := vcTt_len ho7; have t2 := vcSt_len ho7; have t3 := vcFt_len ho7 ho7; (try simp only [vcTt, vcSt, vcFt, vcLt, List.length_append, List.length_cons, List.length_nil] at *); omega) (by omega) o (by omega)) lX7_32 ck_X7 rfl sh_106 pl_106 rfl ⟨by decide, by decide⟩ (Nat.le_of_ble_eq_true rfl) dX7_speak_62 (fun r2 h2 hp2 => ?_) rfl
    obtain ⟨rfl, hQq2, hF0q2⟩ := hp2
    have hFq2 := FrO.t hF0 hF0q2
    refine v_some ?_
    refine v_iret K dX7_speak_65 ?_
    exact ⟨rfl, hQq2, hFq2⟩
  · skip
    refine v_tinN (off := 44) (tgt := 66) K (by decide) 2 dX7_speak_22 (by decide) (by decide) (by decide) rfl rfl ?_
    refine v_aload_n K dX7_speak_66 rfl ?_
    refine v_iload_n K dX7_speak_67 rfl ?_
    refine v_iload K dX7_speak_68 rfl ?_
    refine v_iconstN K 1 rfl dX7_speak_70 ?_
    refine v_callV (As := [.int (nI o), .int x, .int (nI 1)]) K (c_X7_shuts ((u2 (u2 (u2 (u2 h 106 2 (nI o)) 106 3 (nI w)) 106 4 m) 106 1 (nI 0))) o w 1 m x ([]) hQ0 ho7 (by (try simp only [List.length_append, List.length_cons, List.length_nil]); have t1 := vcTt_len ho7; have t2 := vcSt_len ho7; have t3 := vcFt_len ho7 ho7; (try simp only [vcTt, vcSt, vcFt, vcLt, List.length_append, List.length_cons, List.length_nil] at *); omega) (by omega) o (by omega)) lX7_35 ck_X7 rfl sh_106 pl_106 rfl ⟨by decide, by decide⟩ (Nat.le_of_ble_eq_true rfl) dX7_speak_71 (fun r3 h3 hp3 => ?_) rfl
    obtain ⟨rfl, hQq3, hF0q3⟩ := hp3
    have hFq3 := FrO.t hF0 hF0q3
    refine v_some ?_
    refine v_iret K dX7_speak_74 ?_
    exact ⟨rfl, hQq3, hFq3⟩
  · skip
    refine v_toutN (tgt := 75) K (by decide) dX7_speak_22 (by decide) rfl ?_
    refine v_aload_n K dX7_speak_75 rfl ?_
    refine v_iload_n K dX7_speak_76 rfl ?_
    refine v_iload K dX7_speak_77 rfl ?_
    refine v_iconstN K 1 rfl dX7_speak_79 ?_
    refine v_callV (As := [.int (nI o), .int x, .int (nI 1)]) K (c_X7_tells ((u2 (u2 (u2 (u2 h 106 2 (nI o)) 106 3 (nI w)) 106 4 m) 106 1 (nI 0))) o w 1 m x ([]) hQ0 ho7 (by (try simp only [List.length_append, List.length_cons, List.length_nil]); have t1 := vcTt_len ho7; have t2 := vcSt_len ho7; have t3 := vcFt_len ho7 ho7; (try simp only [vcTt, vcSt, vcFt, vcLt, List.length_append, List.length_cons, List.length_nil] at *); omega) (by omega) o (by omega)) lX7_38 ck_X7 rfl sh_106 pl_106 rfl ⟨by decide, by decide⟩ (Nat.le_of_ble_eq_true rfl) dX7_speak_80 (fun r4 h4 hp4 => ?_) rfl
    obtain ⟨rfl, hQq4, hF0q4⟩ := hp4
    have hFq4 := FrO.t hF0 hF0q4
    refine v_some ?_
    refine v_iret K dX7_speak_83 ?_
    exact ⟨rfl, hQq4, hFq4⟩

theorem vcVt_len {o a : Nat} (h : o < 7) (ha : a < 4) : (vcVt o a).length < 100 := by
  have : ∀ o, o < 7 → ∀ a, a < 4 → (vcVt o a).length < 100 := by decide
  exact this o h a ha

abbrev P_X9_voice (cM h s : Mm) (τ τk : Nat → List Int32) (w k x : Int32) : Option Value → Mm → Prop := fun r h2 => r = some (.int (Y_voice s w k x).1) ∧ CX cM h2 (Y_voice s w k x).2 τ τk
theorem c_X9_voice {l : Launch} (cM h s : Mm) (τ τk : Nat → List Int32) (w k x : Int32) (hC : CX cM h s τ τk) (hI : INV s τ τk) : Con l yX9_voice cX9_voice 5 (some .int) 10 230 132 GL h [.ref 0, .int w, .int k, .int x] (P_X9_voice cM h s τ τk w k x) := by
  refine Con.ofV (own := "FoxRounds") (nm := "voice") rfl rfl (by decide) (Nat.le_of_ble_eq_true rfl) ?_
  intro κ ρ hkl K
  subst hkl
  show V κ (QM κ (132, ρ, GL, 0, 0) (P_X9_voice cM h s τ τk w k x)) 5 (132, ρ, GL, 0, 0) h 0 [(0, .ref 0), (1, .int w), (2, .int k), (3, .int x)] []
  have hd := hI.d
  have hn8 := hd.nw8
  have ht5 := hd.nt5
  refine v_aload_n K dX9_voice_0 rfl ?_
  refine v_getr (q := 1) K fX9_10 sh_0 pl_0 gl_0_0 dX9_voice_1 ?_
  refine v_getr (q := 2) K fX9_25 sh_1 pl_1 gl_1_0 dX9_voice_4 ?_
  refine v_iload_n K dX9_voice_7 rfl ?_
  refine v_callV (As := [.int w]) K (c_X1_hasWay h 2 (s 119) w hB_2 hC.W.1 hd) lX9_94 ck_X1 rfl sh_2 pl_2 rfl ⟨by decide, by decide⟩ (Nat.le_of_ble_eq_true rfl) dX9_voice_8 (fun r1 h1 hp1 => ?_) rfl
  obtain ⟨rfl, rfl⟩ := hp1
  refine v_some ?_
  refine v_ifB_eq (tgt := 23) K dX9_voice_11 rfl (fun c1 => ?_) (fun c1 => ?_)
  · skip
    refine v_aload_n K dX9_voice_23 rfl ?_
    refine v_iconstN K 1 rfl dX9_voice_24 ?_
    refine v_callV (As := [.int (nI 1)]) K (c_X9_error h 1 (by omega)) lX9_75 ck_X9 rfl sh_0 pl_0 rfl ⟨by decide, by decide⟩ (Nat.le_of_ble_eq_true rfl) dX9_voice_25 (fun r2 h2 hp2 => ?_) rfl
    obtain ⟨rfl, rfl⟩ := hp2
    refine v_some ?_
    have hCe1 : CX cM (u2 h 109 1 (h 109 1 + nI 1)) (u2 s 122 1 (s 122 1 + nI 1)) τ τk := CX.er hC (by omega) (by omega)
    refine v_iret K dX9_voice_28 ?_
    have eY : Y_voice s w k x = ((-1000000000) - nI 1, (u2 s 122 1 (s 122 1 + nI 1))) := by
      unfold Y_voice
      refine (@if_pos _ (Classical.propDecidable _) (fun q => by first | exact absurd q.1 (by assumption) | exact absurd q.2 (by assumption)) _ _ _).trans ?_
      first | rfl | (rfl)
    exact xfin eY hCe1
  · skip
    obtain ⟨j1, Hj1, rfl⟩ := c1
    refine v_iload_n K dX9_voice_14 rfl ?_
    refine v_iconstN K 0 rfl dX9_voice_15 ?_
    refine v_iconstN K 3 rfl dX9_voice_16 ?_
    refine v_callS (As := [.int k, .int (nI 0), .int (nI 3)]) K (c_X9_within h k (nI 0) (nI 3)) lX9_65 rfl ⟨by decide, by decide⟩ (Nat.le_of_ble_eq_true rfl) dX9_voice_17 (fun r3 h3 hp3 => ?_) rfl
    obtain ⟨rfl, rfl⟩ := hp3
    refine v_some ?_
    rw [show (nI 0 ≤ k ∧ k ≤ nI 3) = ix k 4 from in_ix (by decide)]
    refine v_ifB_ne (tgt := 29) K dX9_voice_20 rfl (fun c2 => ?_) (fun c2 => ?_)
    · skip
      obtain ⟨j2, Hj2, rfl⟩ := c2
      refine v_aload_n K dX9_voice_29 rfl ?_
      refine v_getr (q := 1) K fX9_10 sh_0 pl_0 gl_0_0 dX9_voice_30 ?_
      refine v_getr (q := 2) K fX9_25 sh_1 pl_1 gl_1_0 dX9_voice_33 ?_
      refine v_getr (q := 4) K fX9_102 sh_2 pl_2 gl_2_3 dX9_voice_36 ?_
      refine v_iload_n K dX9_voice_39 rfl ?_
      refine v_aald (q := 2 + 3 + j1) K sh_4 (Or.inl rfl) pl_4 (by omega) (hB_2.gw (by omega)) dX9_voice_40 ?_
      refine v_astore (lv2 := [(4, .ref (2 + 3 + j1)), (0, .ref 0), (1, .int (nI j1)), (2, .int (nI j2)), (3, .int x)]) K dX9_voice_41 (by decide) rfl ?_
      refine v_aload_n K dX9_voice_43 rfl ?_
      refine v_getr (q := 106) K fX9_50 sh_0 pl_0 gl_0_5 dX9_voice_44 ?_
      refine v_aload K dX9_voice_47 rfl ?_
      refine v_iconstN K 0 rfl dX9_voice_49 ?_
      refine v_iald (x := s 119 (46 + 6 * j1 + 0)) K (hB_2.w (by omega)) (hB_2.l3 (by omega)) (by omega) (hC.W.1.w (by omega) (by omega)) dX9_voice_50 ?_
      obtain ⟨o, ho7, eo⟩ := hd.kd (w := j1) (by omega)
      refine v_top (y := nI o) eo ?_
      refine v_iload_n K dX9_voice_51 rfl ?_
      refine v_aload K dX9_voice_52 rfl ?_
      refine v_iconstN K 2 rfl dX9_voice_54 ?_
      refine v_iald (x := s 119 (46 + 6 * j1 + 2)) K (hB_2.w (by omega)) (hB_2.l3 (by omega)) (by omega) (hC.W.1.w (by omega) (by omega)) dX9_voice_55 ?_
      refine v_iload_n K dX9_voice_56 rfl ?_
      refine v_iload_n K dX9_voice_57 rfl ?_
      refine v_callV (As := [.int (nI o), .int (nI j1), .int (s 119 (46 + 6 * j1 + 2)), .int (nI j2), .int x]) K (c_X7_speak h o j1 j2 (s 119 (46 + 6 * j1 + 2)) x ho7 (by omega)) lX9_278 ck_X7 rfl sh_106 pl_106 rfl ⟨by decide, by decide⟩ (Nat.le_of_ble_eq_true rfl) dX9_voice_58 (fun r4 h4 hp4 => ?_) rfl
      obtain ⟨rfl, hQz, hFz⟩ := hp4
      have hCz : CX cM h4 (VS s (vcVt o j2)) τ τk := CX.vc hC hFz hQz (vcVt_len ho7 (by omega))
      refine v_some ?_
      refine v_iret K dX9_voice_61 ?_
      have eY : Y_voice s (nI j1) (nI j2) x = (vcV o j2 x (nI j1) (s 119 (46 + 6 * j1 + 2)), (VS s (vcVt o j2))) := by
        unfold Y_voice
        refine (@if_neg _ (Classical.propDecidable _) (fun q => q (by refine ⟨?_, ?_⟩ <;> (first | assumption | exact ⟨_, by assumption, rfl⟩ | exact Or.inl rfl | exact Or.inr (Or.inl rfl) | exact Or.inr (Or.inr rfl) | omega))) _ _ _).trans ?_
        rw [cl_ix (show j1 < 2 ^ 31 by omega), cl_ix (show j2 < 2 ^ 31 by omega), show s 119 (46 + 6 * j1 + 0) = nI o from eo, cl_ix (show o < 2 ^ 31 by omega)]
      exact xfin eY hCz
    · skip
      refine v_aload_n K dX9_voice_23 rfl ?_
      refine v_iconstN K 1 rfl dX9_voice_24 ?_
      refine v_callV (As := [.int (nI 1)]) K (c_X9_error h 1 (by omega)) lX9_75 ck_X9 rfl sh_0 pl_0 rfl ⟨by decide, by decide⟩ (Nat.le_of_ble_eq_true rfl) dX9_voice_25 (fun r5 h5 hp5 => ?_) rfl
      obtain ⟨rfl, rfl⟩ := hp5
      refine v_some ?_
      have hCe2 : CX cM (u2 h 109 1 (h 109 1 + nI 1)) (u2 s 122 1 (s 122 1 + nI 1)) τ τk := CX.er hC (by omega) (by omega)
      refine v_iret K dX9_voice_28 ?_
      have eY : Y_voice s (nI j1) k x = ((-1000000000) - nI 1, (u2 s 122 1 (s 122 1 + nI 1))) := by
        unfold Y_voice
        refine (@if_pos _ (Classical.propDecidable _) (fun q => by first | exact absurd q.1 (by assumption) | exact absurd q.2 (by assumption)) _ _ _).trans ?_
        first | rfl | ((try rw [cl_ix (show j1 < 2 ^ 31 by omega)]))
      exact xfin eY hCe2
