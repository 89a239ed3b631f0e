theorem c_addM {l : Launch} {n : Nat} {g : Gm} (h : Mm) (p q m : Nat) (v : Int32) (hsp : SH p = (1, 5, 3)) (hpn : p < n) (hsq : SH q = (2, 0, 50)) (hqn : q < n) (hg : g p 0 = q + 1) (hw : h p 1 = nI m) (hm : m < 50) : Con l yX5_add cX5_add 2 none 0 0 n g h [.ref p, .int v] (fun r h2 => r = none ∧ h2 = u2 (u2 h q m v) p 1 (nI (m + 1))) := by
  have hne : p ≠ q := fun e => by rw [e, hsq] at hsp; cases hsp
  refine Con.ofV (own := "FoxRounds$Text") (nm := "add") rfl rfl (by decide) (Nat.le_of_ble_eq_true rfl) ?_
  intro κ ρ hkl K
  subst hkl
  show V κ (QM κ (n, ρ, g, 0, 0) (fun r h2 => r = none ∧ h2 = u2 (u2 h q m v) p 1 (nI (m + 1)))) 2 (n, ρ, g, 0, 0) h 0 [(0, .ref p), (1, .int v)] []
  refine v_aload_n K dX5_add_0 rfl ?_
  refine v_geti (x := nI m) K fX5_15 hsp hpn hw dX5_add_1 ?_
  refine v_bipushN K 50 rfl dX5_add_4 ?_
  refine v_icmpN_ge (tgt := 29) K (by omega) (by omega) dX5_add_6 rfl (fun c1 => absurd c1 (by omega)) (fun c1 => ?_)
  refine v_aload_n K dX5_add_9 rfl ?_
  refine v_getr (q := q) K fX5_9 hsp hpn hg dX5_add_10 ?_
  refine v_aload_n K dX5_add_13 rfl ?_
  refine v_geti (x := nI m) K fX5_15 hsp hpn hw dX5_add_14 ?_
  refine v_iload_n K dX5_add_17 rfl ?_
  refine v_iast K hsq hqn (by omega) dX5_add_18 ?_
  refine v_aload_n K dX5_add_19 rfl ?_
  refine v_dup K dX5_add_20 rfl ?_
  refine v_geti (x := nI m) K fX5_15 hsp hpn ((u2_ne (Or.inl hne)).trans hw) dX5_add_21 ?_
  refine v_iconstN K 1 rfl dX5_add_24 ?_
  refine v_iaddN K dX5_add_25 ?_
  refine v_puti K pX5_15 hsp hpn dX5_add_26 ?_
  refine v_vret K dX5_add_29 ?_
  exact ⟨rfl, rfl⟩

theorem cA_X1_init_2 {l : Launch} {g0 : Gm} {h0 : Mm} (A0 : MK 2 3 g0 h0) : ConA l yX1_init cX1_init 1 1 60 17 92 3 2 20 g0 h0 [.ref 2] (fun h2 => h2 = FF 2 20 h0) := by
  have W0 := A0.1
  have hz := A0.2.2.2.2
  refine ConA.ofV (own := "FoxRounds$House") (nm := "<init>") rfl rfl (by decide) (by decide) ?_
  intro κ ρ hkl K
  subst hkl
  show V κ (QMA κ 3 2 20 ρ g0 (fun h2 => h2 = FF 2 20 h0) 17 92) 1 (3, ρ, g0, 0, 0) h0 0 [(0, .ref 2)] []
  refine v_sw (n := 3) (c := 0) (z := 0) (g' := (CT 0 GL 2 3 [(2, [0, 0, 0, 0, 0, 0, 0, 0, 0])] g0)) (h' := (CT 0 FH 2 3 [(2, [0, 0, 0, 0, 0, 0, 0, 0, 0])] h0)) (A0.s1 (by decide)) (A0.s2 (by decide)) ?_
  refine v_aload_n K dX1_init_0 rfl ?_
  refine v_objInit K oi_X1 oi_m oi_c ⟨by decide, by decide⟩ (by decide) dX1_init_1 ?_
  refine v_aload_n K dX1_init_4 rfl ?_
  refine v_bipushN K 8 rfl dX1_init_5 ?_
  refine v_newa K pl_3 sh_3 (CT_new (by decide) (hz 3 (by decide)).2) (Or.inl ⟨rfl, rfl⟩) (fun k => congrFun (CT_new (by decide) (hz 3 (by decide)).1) k) (W0.ct (by decide) (by decide) (by decide) (by decide +kernel) (by decide +kernel)) (by decide) rfl rfl wa_int ⟨by decide, by decide⟩ dX1_init_7 (fun ρ1 A1 => ?_)
  have B1 := AGR.t (AGR.r (n := 3) (ρ := ρ)) A1 (by decide)
  refine v_sw (n := 4) (c := 1) (z := 8) (g' := (CT 0 GL 2 4 [(2, [0, 0, 0, 0, 0, 0, 0, 0, 0])] g0)) (h' := (CT 0 FH 2 4 [(3, [0, 0, 0, 0, 0, 0, 0, 0]), (2, [0, 0, 0, 0, 0, 0, 0, 0, 0])] h0)) (CT_grow (by decide) (by decide) (by decide) (fun a h => (hz a (Nat.le_trans (by decide) h)).1) (GLz (by decide +kernel))) (CT_push (by decide) (hz 3 (by decide)).2 (zrI (by decide))) ?_
  have cs2 := CT_set (z := 0) (F := GL) (b := 2) (hi := 4) (f := g0) (T := [(2, [0, 0, 0, 0, 0, 0, 0, 0, 0])]) (T' := [(2, [4, 0, 0, 0, 0, 0, 0, 0, 0])]) (L := [0, 0, 0, 0, 0, 0, 0, 0, 0]) (k := 0) (v := 3 + 1) rfl (by decide) rfl (fun _ hx => (tl_ne hx).trans (tl_ne hx).symm)
  refine v_putg (g' := (CT 0 GL 2 4 [(2, [4, 0, 0, 0, 0, 0, 0, 0, 0])] g0)) K pX1_9 (fun _ => rfl) (Or.inr ⟨_, rfl⟩) sh_2 (show 2 < 4 by decide) cs2.1 (fun j _ hj => cs2.2.1 j hj) (fun x _ hx => cs2.2.2 x hx) dX1_init_9 ?_
  refine v_aload_n K dX1_init_12 rfl ?_
  refine v_iconstN K 0 rfl dX1_init_13 ?_
  refine v_puti K pX1_15 sh_2 (show 2 < 4 by decide) dX1_init_14 ?_
  refine v_hq (CT_u2 (F := FH) (T := [(3, [0, 0, 0, 0, 0, 0, 0, 0]), (2, [0, 0, 0, 0, 0, 0, 0, 0, 0])]) (T' := [(2, [0, nI 0, 0, 0, 0, 0, 0, 0, 0]), (3, [0, 0, 0, 0, 0, 0, 0, 0]), (2, [0, 0, 0, 0, 0, 0, 0, 0, 0])]) (L := [0, 0, 0, 0, 0, 0, 0, 0, 0]) rfl (by decide) rfl (fun _ hx => tl_ne hx)) ?_
  refine v_aload_n K dX1_init_17 rfl ?_
  refine v_iconstN K 0 rfl dX1_init_18 ?_
  refine v_puti K pX1_19 sh_2 (show 2 < 4 by decide) dX1_init_19 ?_
  refine v_hq (CT_u2 (F := FH) (T := [(2, [0, nI 0, 0, 0, 0, 0, 0, 0, 0]), (3, [0, 0, 0, 0, 0, 0, 0, 0]), (2, [0, 0, 0, 0, 0, 0, 0, 0, 0])]) (T' := [(2, [0, nI 0, nI 0, 0, 0, 0, 0, 0, 0]), (3, [0, 0, 0, 0, 0, 0, 0, 0]), (2, [0, 0, 0, 0, 0, 0, 0, 0, 0])]) (L := [0, nI 0, 0, 0, 0, 0, 0, 0, 0]) rfl (by decide) rfl (fun _ hx => (tl_ne hx).trans (tl_ne hx).symm)) ?_
  refine v_aload_n K dX1_init_22 rfl ?_
  refine v_bipushN K 8 rfl dX1_init_23 ?_
  refine v_bipushN K 6 rfl dX1_init_25 ?_
  refine v_multi (g' := (CT 0 GL 2 13 [(2, [4, 0, 0, 0, 0, 0, 0, 0, 0])] g0)) K (by decide) sh_4 (show ∀ i, i < 8 → SH (4 + 1 + i) = (2, 0, 6) by decide +kernel) (fun i hi => (congrFun (CT_in (tl_hi (n := 4) (by decide) (Nat.le_refl _)) ⟨by decide, by decide⟩) i).trans ((show ∀ i, i < 8 → GL 4 i = 4 + 1 + i + 1 by decide +kernel) i hi)) (CT_lt (by decide)) (fun i hi => (CT_far (by decide) (by omega)).trans (hz _ (by omega)).2) (W0.ct (by decide) (by decide) (by decide) (by decide +kernel) (by decide +kernel)) rfl rfl clX1_22 wa_int (by decide) (by decide) ⟨by decide, by decide⟩ dX1_init_27 (fun ρ3 A3 => ?_)
  have B3 := AGR.t B1 A3 (by decide)
  refine v_sw (n := 13) (c := 10) (z := 64) (g' := (CT 0 GL 2 13 [(2, [4, 0, 0, 0, 0, 0, 0, 0, 0])] g0)) (h' := (CT 0 FH 2 13 [(2, [0, nI 0, nI 0, 0, 0, 0, 0, 0, 0]), (3, [0, 0, 0, 0, 0, 0, 0, 0]), (2, [0, 0, 0, 0, 0, 0, 0, 0, 0])] h0)) (fun _ _ => rfl) (CT_grow (by decide) (by decide) (by decide) (fun a h => (hz a (Nat.le_trans (by decide) h)).2) (FHz (by decide +kernel))) ?_
  have cs4 := CT_set (z := 0) (F := GL) (b := 2) (hi := 13) (f := g0) (T := [(2, [4, 0, 0, 0, 0, 0, 0, 0, 0])]) (T' := [(2, [4, 0, 0, 5, 0, 0, 0, 0, 0])]) (L := [4, 0, 0, 0, 0, 0, 0, 0, 0]) (k := 3) (v := 4 + 1) rfl (by decide) rfl (fun _ hx => (tl_ne hx).trans (tl_ne hx).symm)
  refine v_putg (g' := (CT 0 GL 2 13 [(2, [4, 0, 0, 5, 0, 0, 0, 0, 0])] g0)) K pX1_24 (fun _ => rfl) (Or.inr ⟨_, rfl⟩) sh_2 (show 2 < 13 by decide) cs4.1 (fun j _ hj => cs4.2.1 j hj) (fun x _ hx => cs4.2.2 x hx) dX1_init_31 ?_
  refine v_aload_n K dX1_init_34 rfl ?_
  refine v_iconstN K 0 rfl dX1_init_35 ?_
  refine v_puti K pX1_27 sh_2 (show 2 < 13 by decide) dX1_init_36 ?_
  refine v_hq (CT_u2 (F := FH) (T := [(2, [0, nI 0, nI 0, 0, 0, 0, 0, 0, 0]), (3, [0, 0, 0, 0, 0, 0, 0, 0]), (2, [0, 0, 0, 0, 0, 0, 0, 0, 0])]) (T' := [(2, [0, nI 0, nI 0, 0, nI 0, 0, 0, 0, 0]), (3, [0, 0, 0, 0, 0, 0, 0, 0]), (2, [0, 0, 0, 0, 0, 0, 0, 0, 0])]) (L := [0, nI 0, nI 0, 0, 0, 0, 0, 0, 0]) rfl (by decide) rfl (fun _ hx => (tl_ne hx).trans (tl_ne hx).symm)) ?_
  refine v_aload_n K dX1_init_39 rfl ?_
  refine v_iconstN K 5 rfl dX1_init_40 ?_
  refine v_iconstN K 3 rfl dX1_init_41 ?_
  refine v_multi (g' := (CT 0 GL 2 19 [(2, [4, 0, 0, 5, 0, 0, 0, 0, 0])] g0)) K (by decide) sh_13 (show ∀ i, i < 5 → SH (13 + 1 + i) = (2, 0, 3) by decide +kernel) (fun i hi => (congrFun (CT_in (tl_hi (n := 13) (by decide) (Nat.le_refl _)) ⟨by decide, by decide⟩) i).trans ((show ∀ i, i < 5 → GL 13 i = 13 + 1 + i + 1 by decide +kernel) i hi)) (CT_lt (by decide)) (fun i hi => (CT_far (by decide) (by omega)).trans (hz _ (by omega)).2) (W0.ct (by decide) (by decide) (by decide) (by decide +kernel) (by decide +kernel)) rfl rfl clX1_22 wa_int (by decide) (by decide) ⟨by decide, by decide⟩ dX1_init_42 (fun ρ5 A5 => ?_)
  have B5 := AGR.t B3 A5 (by decide)
  refine v_sw (n := 19) (c := 16) (z := 84) (g' := (CT 0 GL 2 19 [(2, [4, 0, 0, 5, 0, 0, 0, 0, 0])] g0)) (h' := (CT 0 FH 2 19 [(2, [0, nI 0, nI 0, 0, nI 0, 0, 0, 0, 0]), (3, [0, 0, 0, 0, 0, 0, 0, 0]), (2, [0, 0, 0, 0, 0, 0, 0, 0, 0])] h0)) (fun _ _ => rfl) (CT_grow (by decide) (by decide) (by decide) (fun a h => (hz a (Nat.le_trans (by decide) h)).2) (FHz (by decide +kernel))) ?_
  have cs6 := CT_set (z := 0) (F := GL) (b := 2) (hi := 19) (f := g0) (T := [(2, [4, 0, 0, 5, 0, 0, 0, 0, 0])]) (T' := [(2, [4, 0, 0, 5, 0, 14, 0, 0, 0])]) (L := [4, 0, 0, 5, 0, 0, 0, 0, 0]) (k := 5) (v := 13 + 1) rfl (by decide) rfl (fun _ hx => (tl_ne hx).trans (tl_ne hx).symm)
  refine v_putg (g' := (CT 0 GL 2 19 [(2, [4, 0, 0, 5, 0, 14, 0, 0, 0])] g0)) K pX1_30 (fun _ => rfl) (Or.inr ⟨_, rfl⟩) sh_2 (show 2 < 19 by decide) cs6.1 (fun j _ hj => cs6.2.1 j hj) (fun x _ hx => cs6.2.2 x hx) dX1_init_46 ?_
  refine v_aload_n K dX1_init_49 rfl ?_
  refine v_iconstN K 0 rfl dX1_init_50 ?_
  refine v_puti K pX1_33 sh_2 (show 2 < 19 by decide) dX1_init_51 ?_
  refine v_hq (CT_u2 (F := FH) (T := [(2, [0, nI 0, nI 0, 0, nI 0, 0, 0, 0, 0]), (3, [0, 0, 0, 0, 0, 0, 0, 0]), (2, [0, 0, 0, 0, 0, 0, 0, 0, 0])]) (T' := [(2, [0, nI 0, nI 0, 0, nI 0, 0, nI 0, 0, 0]), (3, [0, 0, 0, 0, 0, 0, 0, 0]), (2, [0, 0, 0, 0, 0, 0, 0, 0, 0])]) (L := [0, nI 0, nI 0, 0, nI 0, 0, 0, 0, 0]) rfl (by decide) rfl (fun _ hx => (tl_ne hx).trans (tl_ne hx).symm)) ?_
  refine v_aload_n K dX1_init_54 rfl ?_
  refine v_iconst (v := (-1)) K dX1_init_55 (by decide) ?_
  refine v_puti K pX1_36 sh_2 (show 2 < 19 by decide) dX1_init_56 ?_
  refine v_hq (CT_u2 (F := FH) (T := [(2, [0, nI 0, nI 0, 0, nI 0, 0, nI 0, 0, 0]), (3, [0, 0, 0, 0, 0, 0, 0, 0]), (2, [0, 0, 0, 0, 0, 0, 0, 0, 0])]) (T' := [(2, [0, nI 0, nI 0, 0, nI 0, 0, nI 0, (-1), 0]), (3, [0, 0, 0, 0, 0, 0, 0, 0]), (2, [0, 0, 0, 0, 0, 0, 0, 0, 0])]) (L := [0, nI 0, nI 0, 0, nI 0, 0, nI 0, 0, 0]) rfl (by decide) rfl (fun _ hx => (tl_ne hx).trans (tl_ne hx).symm)) ?_
  refine v_aload_n K dX1_init_59 rfl ?_
  refine v_bipushN K 8 rfl dX1_init_60 ?_
  refine v_newa K pl_19 sh_19 (CT_new (by decide) (hz 19 (by decide)).2) (Or.inl ⟨rfl, rfl⟩) (fun k => congrFun (CT_new (by decide) (hz 19 (by decide)).1) k) (W0.ct (by decide) (by decide) (by decide) (by decide +kernel) (by decide +kernel)) (by decide) rfl rfl wa_int ⟨by decide, by decide⟩ dX1_init_62 (fun ρ7 A7 => ?_)
  have B7 := AGR.t B5 A7 (by decide)
  refine v_sw (n := 20) (c := 17) (z := 92) (g' := (CT 0 GL 2 20 [(2, [4, 0, 0, 5, 0, 14, 0, 0, 0])] g0)) (h' := (CT 0 FH 2 20 [(2, [0, nI 0, nI 0, 0, nI 0, 0, nI 0, (-1), 0]), (3, [0, 0, 0, 0, 0, 0, 0, 0]), (2, [0, 0, 0, 0, 0, 0, 0, 0, 0])] h0)) (CT_grow (by decide) (by decide) (by decide) (fun a h => (hz a (Nat.le_trans (by decide) h)).1) (GLz (by decide +kernel))) (CT_grow (by decide) (by decide) (by decide) (fun a h => (hz a (Nat.le_trans (by decide) h)).2) (FHz (by decide +kernel))) ?_
  have cs8 := CT_set (z := 0) (F := GL) (b := 2) (hi := 20) (f := g0) (T := [(2, [4, 0, 0, 5, 0, 14, 0, 0, 0])]) (T' := [(2, [4, 0, 0, 5, 0, 14, 0, 0, 20])]) (L := [4, 0, 0, 5, 0, 14, 0, 0, 0]) (k := 8) (v := 19 + 1) rfl (by decide) rfl (fun _ hx => (tl_ne hx).trans (tl_ne hx).symm)
  refine v_putg (g' := (CT 0 GL 2 20 [(2, [4, 0, 0, 5, 0, 14, 0, 0, 20])] g0)) K pX1_39 (fun _ => rfl) (Or.inr ⟨_, rfl⟩) sh_2 (show 2 < 20 by decide) cs8.1 (fun j _ hj => cs8.2.1 j hj) (fun x _ hx => cs8.2.2 x hx) dX1_init_64 ?_
  refine v_getsN (j := 3) K (by decide) sX1_42 dX1_init_67 ?_
  refine v_iconstN K 0 rfl dX1_init_70 ?_
  refine v_aload_n K dX1_init_71 rfl ?_
  refine v_getr (q := 3) K fX1_9 sh_2 (show 2 < 20 by decide) ((congrFun (CT_at (z := 0) (F := GL) (b := 2) (hi := 20) (f := g0) (a := 2) (T := [(2, [4, 0, 0, 5, 0, 14, 0, 0, 20])]) (L := [4, 0, 0, 5, 0, 14, 0, 0, 20]) rfl) 0).trans rfl) dX1_init_72 ?_
  refine v_iconstN K 0 rfl dX1_init_75 ?_
  refine v_aload_n K dX1_init_76 rfl ?_
  refine v_getr (q := 3) K fX1_9 sh_2 (show 2 < 20 by decide) ((congrFun (CT_at (z := 0) (F := GL) (b := 2) (hi := 20) (f := g0) (a := 2) (T := [(2, [4, 0, 0, 5, 0, 14, 0, 0, 20])]) (L := [4, 0, 0, 5, 0, 14, 0, 0, 20]) rfl) 0).trans rfl) dX1_init_77 ?_
  refine v_alen (N := 8) K sh_3 (by decide) (show 3 < 20 by decide) dX1_init_80 ?_
  refine v_copyS (j := 3) K jX1_45 jna_copy jst_copy jin_sys (by decide) sh_3 (show 3 < 20 by decide) (by decide) (by decide) ⟨by decide, by decide +kernel⟩ (by decide) dX1_init_81 ?_
  refine v_hq (CT_cpy (F := FH) (T := [(2, [0, nI 0, nI 0, 0, nI 0, 0, nI 0, (-1), 0]), (3, [0, 0, 0, 0, 0, 0, 0, 0]), (2, [0, 0, 0, 0, 0, 0, 0, 0, 0])]) (T' := [(3, [nI 11, nI 1, nI 20, nI 0, nI 0, nI 480, nI 20, nI 30]), (2, [0, nI 0, nI 0, 0, nI 0, 0, nI 0, (-1), 0]), (3, [0, 0, 0, 0, 0, 0, 0, 0]), (2, [0, 0, 0, 0, 0, 0, 0, 0, 0])]) (L := [0, 0, 0, 0, 0, 0, 0, 0]) rfl (by decide) rfl (fun _ hx => tl_ne hx) rfl (by decide +kernel)) ?_
  exact v_vretA K dX1_init_84 B7 (CT_off (by decide) (by decide)) (CT_fin tN_eq (fun _ => rfl) (by decide +kernel) rfl) (W0.ct (by decide) (by decide) (by decide) (by decide +kernel) (by decide +kernel)) (FF_fin (by decide) (by decide) (by decide +kernel) rfl)

theorem cA_X5_init_21 {l : Launch} {g0 : Gm} {h0 : Mm} (A0 : MK 21 22 g0 h0) : ConA l yX5_init cX5_init 3 1 21 2 100 22 21 24 g0 h0 [.ref 21, .ref (1000 + 4)] (fun h2 => h2 = FF 21 24 h0) := by
  have W0 := A0.1
  have hz := A0.2.2.2.2
  refine ConA.ofV (own := "FoxRounds$Text") (nm := "<init>") rfl rfl (by decide) (by decide) ?_
  intro κ ρ hkl K
  subst hkl
  show V κ (QMA κ 22 21 24 ρ g0 (fun h2 => h2 = FF 21 24 h0) 2 100) 3 (22, ρ, g0, 0, 0) h0 0 [(0, .ref 21), (1, .ref (1000 + 4))] []
  refine v_sw (n := 22) (c := 0) (z := 0) (g' := (CT 0 GL 21 22 [(21, [0, 0, 0])] g0)) (h' := (CT 0 FH 21 22 [(21, [0, 0, 0])] h0)) (A0.s1 (by decide)) (A0.s2 (by decide)) ?_
  refine v_aload_n K dX5_init_0 rfl ?_
  refine v_objInit K oi_X5 oi_m oi_c ⟨by decide, by decide⟩ (by decide) dX5_init_1 ?_
  refine v_aload_n K dX5_init_4 rfl ?_
  refine v_bipushN K 50 rfl dX5_init_5 ?_
  refine v_newa K pl_22 sh_22 (CT_new (by decide) (hz 22 (by decide)).2) (Or.inl ⟨rfl, rfl⟩) (fun k => congrFun (CT_new (by decide) (hz 22 (by decide)).1) k) (W0.ct (by decide) (by decide) (by decide) (by decide +kernel) (by decide +kernel)) (by decide) rfl rfl wa_int ⟨by decide, by decide⟩ dX5_init_7 (fun ρ1 A1 => ?_)
  have B1 := AGR.t (AGR.r (n := 22) (ρ := ρ)) A1 (by decide)
  refine v_sw (n := 23) (c := 1) (z := 50) (g' := (CT 0 GL 21 23 [(21, [0, 0, 0])] g0)) (h' := (CT 0 FH 21 23 [(22, [0, 0, 0, 0, 0]), (21, [0, 0, 0])] h0)) (CT_grow (by decide) (by decide) (by decide) (fun a h => (hz a (Nat.le_trans (by decide) h)).1) (GLz (by decide +kernel))) (CT_push (by decide) (hz 22 (by decide)).2 (zrI (by decide))) ?_
  have cs2 := CT_set (z := 0) (F := GL) (b := 21) (hi := 23) (f := g0) (T := [(21, [0, 0, 0])]) (T' := [(21, [23, 0, 0])]) (L := [0, 0, 0]) (k := 0) (v := 22 + 1) rfl (by decide) rfl (fun _ hx => (tl_ne hx).trans (tl_ne hx).symm)
  refine v_putg (g' := (CT 0 GL 21 23 [(21, [23, 0, 0])] g0)) K pX5_9 (fun _ => rfl) (Or.inr ⟨_, rfl⟩) sh_21 (show 21 < 23 by decide) cs2.1 (fun j _ hj => cs2.2.1 j hj) (fun x _ hx => cs2.2.2 x hx) dX5_init_9 ?_
  refine v_aload_n K dX5_init_12 rfl ?_
  refine v_iconstN K 0 rfl dX5_init_13 ?_
  refine v_puti K pX5_15 sh_21 (show 21 < 23 by decide) dX5_init_14 ?_
  refine v_hq (CT_u2 (F := FH) (T := [(22, [0, 0, 0, 0, 0]), (21, [0, 0, 0])]) (T' := [(21, [0, nI 0, 0]), (22, [0, 0, 0, 0, 0]), (21, [0, 0, 0])]) (L := [0, 0, 0]) rfl (by decide) rfl (fun _ hx => tl_ne hx)) ?_
  refine v_aload_n K dX5_init_17 rfl ?_
  refine v_bipushN K 50 rfl dX5_init_18 ?_
  refine v_newa K pl_23 sh_23 (CT_new (by decide) (hz 23 (by decide)).2) (Or.inl ⟨rfl, rfl⟩) (fun k => congrFun (CT_new (by decide) (hz 23 (by decide)).1) k) (W0.ct (by decide) (by decide) (by decide) (by decide +kernel) (by decide +kernel)) (by decide) rfl rfl wa_int ⟨by decide, by decide⟩ dX5_init_20 (fun ρ3 A3 => ?_)
  have B3 := AGR.t B1 A3 (by decide)
  refine v_sw (n := 24) (c := 2) (z := 100) (g' := (CT 0 GL 21 24 [(21, [23, 0, 0])] g0)) (h' := (CT 0 FH 21 24 [(21, [0, nI 0, 0]), (22, [0, 0, 0, 0, 0]), (21, [0, 0, 0])] h0)) (CT_grow (by decide) (by decide) (by decide) (fun a h => (hz a (Nat.le_trans (by decide) h)).1) (GLz (by decide +kernel))) (CT_grow (by decide) (by decide) (by decide) (fun a h => (hz a (Nat.le_trans (by decide) h)).2) (FHz (by decide +kernel))) ?_
  have cs4 := CT_set (z := 0) (F := GL) (b := 21) (hi := 24) (f := g0) (T := [(21, [23, 0, 0])]) (T' := [(21, [23, 0, 24])]) (L := [23, 0, 0]) (k := 2) (v := 23 + 1) rfl (by decide) rfl (fun _ hx => (tl_ne hx).trans (tl_ne hx).symm)
  refine v_putg (g' := (CT 0 GL 21 24 [(21, [23, 0, 24])] g0)) K pX5_19 (fun _ => rfl) (Or.inr ⟨_, rfl⟩) sh_21 (show 21 < 24 by decide) cs4.1 (fun j _ hj => cs4.2.1 j hj) (fun x _ hx => cs4.2.2 x hx) dX5_init_22 ?_
  refine v_iconstN K 0 rfl dX5_init_25 ?_
  refine v_istore_n (lv2 := [(2, .int (nI 0)), (0, .ref 21), (1, .ref (1000 + 4))]) K dX5_init_26 (by decide) rfl ?_
  refine v_iload_n K dX5_init_27 rfl ?_
  refine v_aload_n K dX5_init_28 rfl ?_
  refine v_slen (j := 4) K (by decide) dX5_init_29 ?_
  refine v_top (y := nI 5) rfl ?_
  refine v_icmpN_ge (tgt := 46) K (by decide) (by decide) dX5_init_30 rfl (fun c => absurd c (by decide)) (fun _ => ?_)
  refine v_aload_n K dX5_init_33 rfl ?_
  refine v_aload_n K dX5_init_34 rfl ?_
  refine v_iload_n K dX5_init_35 rfl ?_
  refine v_sald (j := 4) (x := (-1)) K (by decide) (by decide) (by decide) dX5_init_36 ?_
  refine v_callVc (As := [.int ((-1))]) K (c_addM (n := 24) (g := (CT 0 GL 21 24 [(21, [23, 0, 24])] g0)) (CT 0 FH 21 24 [(21, [0, nI 0, 0]), (22, [0, 0, 0, 0, 0]), (21, [0, 0, 0])] h0) 21 22 0 ((-1)) sh_21 (by decide) sh_22 (by decide) ((congrFun (CT_at (z := 0) (F := GL) (b := 21) (hi := 24) (f := g0) (T := [(21, [23, 0, 24])]) (L := [23, 0, 24]) rfl) 0).trans rfl) ((congrFun (CT_at (z := 0) (F := FH) (b := 21) (hi := 24) (f := h0) (T := [(21, [0, nI 0, 0]), (22, [0, 0, 0, 0, 0]), (21, [0, 0, 0])]) (L := [0, nI 0, 0]) rfl) 1).trans rfl) (by decide)) lX5_22 ck_X5 rfl sh_21 (by decide) rfl ⟨by decide, by decide⟩ ⟨by decide, by decide⟩ (by decide) dX5_init_37 (fun r hh hp => ?_) rfl
  obtain ⟨rfl, rfl⟩ := hp
  refine v_none ?_
  refine v_hq (congrArg (fun h => u2 h 21 1 (nI (0 + 1))) (CT_u2 (F := FH) (T := [(21, [0, nI 0, 0]), (22, [0, 0, 0, 0, 0]), (21, [0, 0, 0])]) (T' := [(22, [(-1), 0, 0, 0, 0]), (21, [0, nI 0, 0]), (22, [0, 0, 0, 0, 0]), (21, [0, 0, 0])]) (L := [0, 0, 0, 0, 0]) rfl (by decide) rfl (fun _ hx => tl_ne hx))) ?_
  refine v_hq (CT_u2 (F := FH) (T := [(22, [(-1), 0, 0, 0, 0]), (21, [0, nI 0, 0]), (22, [0, 0, 0, 0, 0]), (21, [0, 0, 0])]) (T' := [(21, [0, nI 1, 0]), (22, [(-1), 0, 0, 0, 0]), (21, [0, nI 0, 0]), (22, [0, 0, 0, 0, 0]), (21, [0, 0, 0])]) (L := [0, nI 0, 0]) rfl (by decide) rfl (fun _ hx => tl_ne hx)) ?_
  refine v_iincN (lv2 := [(2, .int (nI 1)), (0, .ref 21), (1, .ref (1000 + 4))]) K 1 dX5_init_40 rfl rfl (by decide) rfl ?_
  refine v_goto (tgt := 27) K dX5_init_43 rfl ?_
  refine v_iload_n K dX5_init_27 rfl ?_
  refine v_aload_n K dX5_init_28 rfl ?_
  refine v_slen (j := 4) K (by decide) dX5_init_29 ?_
  refine v_top (y := nI 5) rfl ?_
  refine v_icmpN_ge (tgt := 46) K (by decide) (by decide) dX5_init_30 rfl (fun c => absurd c (by decide)) (fun _ => ?_)
  refine v_aload_n K dX5_init_33 rfl ?_
  refine v_aload_n K dX5_init_34 rfl ?_
  refine v_iload_n K dX5_init_35 rfl ?_
  refine v_sald (j := 4) (x := (-2)) K (by decide) (by decide) (by decide) dX5_init_36 ?_
  refine v_callVc (As := [.int ((-2))]) K (c_addM (n := 24) (g := (CT 0 GL 21 24 [(21, [23, 0, 24])] g0)) (CT 0 FH 21 24 [(21, [0, nI 1, 0]), (22, [(-1), 0, 0, 0, 0]), (21, [0, nI 0, 0]), (22, [0, 0, 0, 0, 0]), (21, [0, 0, 0])] h0) 21 22 1 ((-2)) sh_21 (by decide) sh_22 (by decide) ((congrFun (CT_at (z := 0) (F := GL) (b := 21) (hi := 24) (f := g0) (T := [(21, [23, 0, 24])]) (L := [23, 0, 24]) rfl) 0).trans rfl) ((congrFun (CT_at (z := 0) (F := FH) (b := 21) (hi := 24) (f := h0) (T := [(21, [0, nI 1, 0]), (22, [(-1), 0, 0, 0, 0]), (21, [0, nI 0, 0]), (22, [0, 0, 0, 0, 0]), (21, [0, 0, 0])]) (L := [0, nI 1, 0]) rfl) 1).trans rfl) (by decide)) lX5_22 ck_X5 rfl sh_21 (by decide) rfl ⟨by decide, by decide⟩ ⟨by decide, by decide⟩ (by decide) dX5_init_37 (fun r hh hp => ?_) rfl
  obtain ⟨rfl, rfl⟩ := hp
  refine v_none ?_
  refine v_hq (congrArg (fun h => u2 h 21 1 (nI (1 + 1))) (CT_u2 (F := FH) (T := [(21, [0, nI 1, 0]), (22, [(-1), 0, 0, 0, 0]), (21, [0, nI 0, 0]), (22, [0, 0, 0, 0, 0]), (21, [0, 0, 0])]) (T' := [(22, [(-1), (-2), 0, 0, 0]), (21, [0, nI 1, 0]), (22, [(-1), 0, 0, 0, 0]), (21, [0, nI 0, 0]), (22, [0, 0, 0, 0, 0]), (21, [0, 0, 0])]) (L := [(-1), 0, 0, 0, 0]) rfl (by decide) rfl (fun _ hx => tl_ne hx))) ?_
  refine v_hq (CT_u2 (F := FH) (T := [(22, [(-1), (-2), 0, 0, 0]), (21, [0, nI 1, 0]), (22, [(-1), 0, 0, 0, 0]), (21, [0, nI 0, 0]), (22, [0, 0, 0, 0, 0]), (21, [0, 0, 0])]) (T' := [(21, [0, nI 2, 0]), (22, [(-1), (-2), 0, 0, 0]), (21, [0, nI 1, 0]), (22, [(-1), 0, 0, 0, 0]), (21, [0, nI 0, 0]), (22, [0, 0, 0, 0, 0]), (21, [0, 0, 0])]) (L := [0, nI 1, 0]) rfl (by decide) rfl (fun _ hx => tl_ne hx)) ?_
  refine v_iincN (lv2 := [(2, .int (nI 2)), (0, .ref 21), (1, .ref (1000 + 4))]) K 1 dX5_init_40 rfl rfl (by decide) rfl ?_
  refine v_goto (tgt := 27) K dX5_init_43 rfl ?_
  refine v_iload_n K dX5_init_27 rfl ?_
  refine v_aload_n K dX5_init_28 rfl ?_
  refine v_slen (j := 4) K (by decide) dX5_init_29 ?_
  refine v_top (y := nI 5) rfl ?_
  refine v_icmpN_ge (tgt := 46) K (by decide) (by decide) dX5_init_30 rfl (fun c => absurd c (by decide)) (fun _ => ?_)
  refine v_aload_n K dX5_init_33 rfl ?_
  refine v_aload_n K dX5_init_34 rfl ?_
  refine v_iload_n K dX5_init_35 rfl ?_
  refine v_sald (j := 4) (x := (-43)) K (by decide) (by decide) (by decide) dX5_init_36 ?_
  refine v_callVc (As := [.int ((-43))]) K (c_addM (n := 24) (g := (CT 0 GL 21 24 [(21, [23, 0, 24])] g0)) (CT 0 FH 21 24 [(21, [0, nI 2, 0]), (22, [(-1), (-2), 0, 0, 0]), (21, [0, nI 1, 0]), (22, [(-1), 0, 0, 0, 0]), (21, [0, nI 0, 0]), (22, [0, 0, 0, 0, 0]), (21, [0, 0, 0])] h0) 21 22 2 ((-43)) sh_21 (by decide) sh_22 (by decide) ((congrFun (CT_at (z := 0) (F := GL) (b := 21) (hi := 24) (f := g0) (T := [(21, [23, 0, 24])]) (L := [23, 0, 24]) rfl) 0).trans rfl) ((congrFun (CT_at (z := 0) (F := FH) (b := 21) (hi := 24) (f := h0) (T := [(21, [0, nI 2, 0]), (22, [(-1), (-2), 0, 0, 0]), (21, [0, nI 1, 0]), (22, [(-1), 0, 0, 0, 0]), (21, [0, nI 0, 0]), (22, [0, 0, 0, 0, 0]), (21, [0, 0, 0])]) (L := [0, nI 2, 0]) rfl) 1).trans rfl) (by decide)) lX5_22 ck_X5 rfl sh_21 (by decide) rfl ⟨by decide, by decide⟩ ⟨by decide, by decide⟩ (by decide) dX5_init_37 (fun r hh hp => ?_) rfl
  obtain ⟨rfl, rfl⟩ := hp
  refine v_none ?_
  refine v_hq (congrArg (fun h => u2 h 21 1 (nI (2 + 1))) (CT_u2 (F := FH) (T := [(21, [0, nI 2, 0]), (22, [(-1), (-2), 0, 0, 0]), (21, [0, nI 1, 0]), (22, [(-1), 0, 0, 0, 0]), (21, [0, nI 0, 0]), (22, [0, 0, 0, 0, 0]), (21, [0, 0, 0])]) (T' := [(22, [(-1), (-2), (-43), 0, 0]), (21, [0, nI 2, 0]), (22, [(-1), (-2), 0, 0, 0]), (21, [0, nI 1, 0]), (22, [(-1), 0, 0, 0, 0]), (21, [0, nI 0, 0]), (22, [0, 0, 0, 0, 0]), (21, [0, 0, 0])]) (L := [(-1), (-2), 0, 0, 0]) rfl (by decide) rfl (fun _ hx => tl_ne hx))) ?_
  refine v_hq (CT_u2 (F := FH) (T := [(22, [(-1), (-2), (-43), 0, 0]), (21, [0, nI 2, 0]), (22, [(-1), (-2), 0, 0, 0]), (21, [0, nI 1, 0]), (22, [(-1), 0, 0, 0, 0]), (21, [0, nI 0, 0]), (22, [0, 0, 0, 0, 0]), (21, [0, 0, 0])]) (T' := [(21, [0, nI 3, 0]), (22, [(-1), (-2), (-43), 0, 0]), (21, [0, nI 2, 0]), (22, [(-1), (-2), 0, 0, 0]), (21, [0, nI 1, 0]), (22, [(-1), 0, 0, 0, 0]), (21, [0, nI 0, 0]), (22, [0, 0, 0, 0, 0]), (21, [0, 0, 0])]) (L := [0, nI 2, 0]) rfl (by decide) rfl (fun _ hx => tl_ne hx)) ?_
  refine v_iincN (lv2 := [(2, .int (nI 3)), (0, .ref 21), (1, .ref (1000 + 4))]) K 1 dX5_init_40 rfl rfl (by decide) rfl ?_
  refine v_goto (tgt := 27) K dX5_init_43 rfl ?_
  refine v_iload_n K dX5_init_27 rfl ?_
  refine v_aload_n K dX5_init_28 rfl ?_
  refine v_slen (j := 4) K (by decide) dX5_init_29 ?_
  refine v_top (y := nI 5) rfl ?_
  refine v_icmpN_ge (tgt := 46) K (by decide) (by decide) dX5_init_30 rfl (fun c => absurd c (by decide)) (fun _ => ?_)
  refine v_aload_n K dX5_init_33 rfl ?_
  refine v_aload_n K dX5_init_34 rfl ?_
  refine v_iload_n K dX5_init_35 rfl ?_
  refine v_sald (j := 4) (x := nI 99) K (by decide) (by decide) (by decide) dX5_init_36 ?_
  refine v_callVc (As := [.int (nI 99)]) K (c_addM (n := 24) (g := (CT 0 GL 21 24 [(21, [23, 0, 24])] g0)) (CT 0 FH 21 24 [(21, [0, nI 3, 0]), (22, [(-1), (-2), (-43), 0, 0]), (21, [0, nI 2, 0]), (22, [(-1), (-2), 0, 0, 0]), (21, [0, nI 1, 0]), (22, [(-1), 0, 0, 0, 0]), (21, [0, nI 0, 0]), (22, [0, 0, 0, 0, 0]), (21, [0, 0, 0])] h0) 21 22 3 (nI 99) sh_21 (by decide) sh_22 (by decide) ((congrFun (CT_at (z := 0) (F := GL) (b := 21) (hi := 24) (f := g0) (T := [(21, [23, 0, 24])]) (L := [23, 0, 24]) rfl) 0).trans rfl) ((congrFun (CT_at (z := 0) (F := FH) (b := 21) (hi := 24) (f := h0) (T := [(21, [0, nI 3, 0]), (22, [(-1), (-2), (-43), 0, 0]), (21, [0, nI 2, 0]), (22, [(-1), (-2), 0, 0, 0]), (21, [0, nI 1, 0]), (22, [(-1), 0, 0, 0, 0]), (21, [0, nI 0, 0]), (22, [0, 0, 0, 0, 0]), (21, [0, 0, 0])]) (L := [0, nI 3, 0]) rfl) 1).trans rfl) (by decide)) lX5_22 ck_X5 rfl sh_21 (by decide) rfl ⟨by decide, by decide⟩ ⟨by decide, by decide⟩ (by decide) dX5_init_37 (fun r hh hp => ?_) rfl
  obtain ⟨rfl, rfl⟩ := hp
  refine v_none ?_
  refine v_hq (congrArg (fun h => u2 h 21 1 (nI (3 + 1))) (CT_u2 (F := FH) (T := [(21, [0, nI 3, 0]), (22, [(-1), (-2), (-43), 0, 0]), (21, [0, nI 2, 0]), (22, [(-1), (-2), 0, 0, 0]), (21, [0, nI 1, 0]), (22, [(-1), 0, 0, 0, 0]), (21, [0, nI 0, 0]), (22, [0, 0, 0, 0, 0]), (21, [0, 0, 0])]) (T' := [(22, [(-1), (-2), (-43), nI 99, 0]), (21, [0, nI 3, 0]), (22, [(-1), (-2), (-43), 0, 0]), (21, [0, nI 2, 0]), (22, [(-1), (-2), 0, 0, 0]), (21, [0, nI 1, 0]), (22, [(-1), 0, 0, 0, 0]), (21, [0, nI 0, 0]), (22, [0, 0, 0, 0, 0]), (21, [0, 0, 0])]) (L := [(-1), (-2), (-43), 0, 0]) rfl (by decide) rfl (fun _ hx => tl_ne hx))) ?_
  refine v_hq (CT_u2 (F := FH) (T := [(22, [(-1), (-2), (-43), nI 99, 0]), (21, [0, nI 3, 0]), (22, [(-1), (-2), (-43), 0, 0]), (21, [0, nI 2, 0]), (22, [(-1), (-2), 0, 0, 0]), (21, [0, nI 1, 0]), (22, [(-1), 0, 0, 0, 0]), (21, [0, nI 0, 0]), (22, [0, 0, 0, 0, 0]), (21, [0, 0, 0])]) (T' := [(21, [0, nI 4, 0]), (22, [(-1), (-2), (-43), nI 99, 0]), (21, [0, nI 3, 0]), (22, [(-1), (-2), (-43), 0, 0]), (21, [0, nI 2, 0]), (22, [(-1), (-2), 0, 0, 0]), (21, [0, nI 1, 0]), (22, [(-1), 0, 0, 0, 0]), (21, [0, nI 0, 0]), (22, [0, 0, 0, 0, 0]), (21, [0, 0, 0])]) (L := [0, nI 3, 0]) rfl (by decide) rfl (fun _ hx => tl_ne hx)) ?_
  refine v_iincN (lv2 := [(2, .int (nI 4)), (0, .ref 21), (1, .ref (1000 + 4))]) K 1 dX5_init_40 rfl rfl (by decide) rfl ?_
  refine v_goto (tgt := 27) K dX5_init_43 rfl ?_
  refine v_iload_n K dX5_init_27 rfl ?_
  refine v_aload_n K dX5_init_28 rfl ?_
  refine v_slen (j := 4) K (by decide) dX5_init_29 ?_
  refine v_top (y := nI 5) rfl ?_
  refine v_icmpN_ge (tgt := 46) K (by decide) (by decide) dX5_init_30 rfl (fun c => absurd c (by decide)) (fun _ => ?_)
  refine v_aload_n K dX5_init_33 rfl ?_
  refine v_aload_n K dX5_init_34 rfl ?_
  refine v_iload_n K dX5_init_35 rfl ?_
  refine v_sald (j := 4) (x := (-62)) K (by decide) (by decide) (by decide) dX5_init_36 ?_
  refine v_callVc (As := [.int ((-62))]) K (c_addM (n := 24) (g := (CT 0 GL 21 24 [(21, [23, 0, 24])] g0)) (CT 0 FH 21 24 [(21, [0, nI 4, 0]), (22, [(-1), (-2), (-43), nI 99, 0]), (21, [0, nI 3, 0]), (22, [(-1), (-2), (-43), 0, 0]), (21, [0, nI 2, 0]), (22, [(-1), (-2), 0, 0, 0]), (21, [0, nI 1, 0]), (22, [(-1), 0, 0, 0, 0]), (21, [0, nI 0, 0]), (22, [0, 0, 0, 0, 0]), (21, [0, 0, 0])] h0) 21 22 4 ((-62)) sh_21 (by decide) sh_22 (by decide) ((congrFun (CT_at (z := 0) (F := GL) (b := 21) (hi := 24) (f := g0) (T := [(21, [23, 0, 24])]) (L := [23, 0, 24]) rfl) 0).trans rfl) ((congrFun (CT_at (z := 0) (F := FH) (b := 21) (hi := 24) (f := h0) (T := [(21, [0, nI 4, 0]), (22, [(-1), (-2), (-43), nI 99, 0]), (21, [0, nI 3, 0]), (22, [(-1), (-2), (-43), 0, 0]), (21, [0, nI 2, 0]), (22, [(-1), (-2), 0, 0, 0]), (21, [0, nI 1, 0]), (22, [(-1), 0, 0, 0, 0]), (21, [0, nI 0, 0]), (22, [0, 0, 0, 0, 0]), (21, [0, 0, 0])]) (L := [0, nI 4, 0]) rfl) 1).trans rfl) (by decide)) lX5_22 ck_X5 rfl sh_21 (by decide) rfl ⟨by decide, by decide⟩ ⟨by decide, by decide⟩ (by decide) dX5_init_37 (fun r hh hp => ?_) rfl
  obtain ⟨rfl, rfl⟩ := hp
  refine v_none ?_
  refine v_hq (congrArg (fun h => u2 h 21 1 (nI (4 + 1))) (CT_u2 (F := FH) (T := [(21, [0, nI 4, 0]), (22, [(-1), (-2), (-43), nI 99, 0]), (21, [0, nI 3, 0]), (22, [(-1), (-2), (-43), 0, 0]), (21, [0, nI 2, 0]), (22, [(-1), (-2), 0, 0, 0]), (21, [0, nI 1, 0]), (22, [(-1), 0, 0, 0, 0]), (21, [0, nI 0, 0]), (22, [0, 0, 0, 0, 0]), (21, [0, 0, 0])]) (T' := [(22, [(-1), (-2), (-43), nI 99, (-62)]), (21, [0, nI 4, 0]), (22, [(-1), (-2), (-43), nI 99, 0]), (21, [0, nI 3, 0]), (22, [(-1), (-2), (-43), 0, 0]), (21, [0, nI 2, 0]), (22, [(-1), (-2), 0, 0, 0]), (21, [0, nI 1, 0]), (22, [(-1), 0, 0, 0, 0]), (21, [0, nI 0, 0]), (22, [0, 0, 0, 0, 0]), (21, [0, 0, 0])]) (L := [(-1), (-2), (-43), nI 99, 0]) rfl (by decide) rfl (fun _ hx => tl_ne hx))) ?_
  refine v_hq (CT_u2 (F := FH) (T := [(22, [(-1), (-2), (-43), nI 99, (-62)]), (21, [0, nI 4, 0]), (22, [(-1), (-2), (-43), nI 99, 0]), (21, [0, nI 3, 0]), (22, [(-1), (-2), (-43), 0, 0]), (21, [0, nI 2, 0]), (22, [(-1), (-2), 0, 0, 0]), (21, [0, nI 1, 0]), (22, [(-1), 0, 0, 0, 0]), (21, [0, nI 0, 0]), (22, [0, 0, 0, 0, 0]), (21, [0, 0, 0])]) (T' := [(21, [0, nI 5, 0]), (22, [(-1), (-2), (-43), nI 99, (-62)]), (21, [0, nI 4, 0]), (22, [(-1), (-2), (-43), nI 99, 0]), (21, [0, nI 3, 0]), (22, [(-1), (-2), (-43), 0, 0]), (21, [0, nI 2, 0]), (22, [(-1), (-2), 0, 0, 0]), (21, [0, nI 1, 0]), (22, [(-1), 0, 0, 0, 0]), (21, [0, nI 0, 0]), (22, [0, 0, 0, 0, 0]), (21, [0, 0, 0])]) (L := [0, nI 4, 0]) rfl (by decide) rfl (fun _ hx => tl_ne hx)) ?_
  refine v_iincN (lv2 := [(2, .int (nI 5)), (0, .ref 21), (1, .ref (1000 + 4))]) K 1 dX5_init_40 rfl rfl (by decide) rfl ?_
  refine v_goto (tgt := 27) K dX5_init_43 rfl ?_
  refine v_iload_n K dX5_init_27 rfl ?_
  refine v_aload_n K dX5_init_28 rfl ?_
  refine v_slen (j := 4) K (by decide) dX5_init_29 ?_
  refine v_top (y := nI 5) rfl ?_
  refine v_icmpN_ge (tgt := 46) K (by decide) (by decide) dX5_init_30 rfl (fun _ => ?_) (fun c => absurd c (by decide))
  exact v_vretA K dX5_init_46 B3 (CT_off (by decide) (by decide)) (CT_fin tN_eq (fun _ => rfl) (by decide +kernel) rfl) (W0.ct (by decide) (by decide) (by decide) (by decide +kernel) (by decide +kernel)) (FF_fin (by decide) (by decide) (by decide +kernel) rfl)

theorem cA_X5_init_24 {l : Launch} {g0 : Gm} {h0 : Mm} (A0 : MK 24 25 g0 h0) : ConA l yX5_init cX5_init 3 1 21 2 100 25 24 27 g0 h0 [.ref 24, .ref (1000 + 5)] (fun h2 => h2 = FF 24 27 h0) := by
  have W0 := A0.1
  have hz := A0.2.2.2.2
  refine ConA.ofV (own := "FoxRounds$Text") (nm := "<init>") rfl rfl (by decide) (by decide) ?_
  intro κ ρ hkl K
  subst hkl
  show V κ (QMA κ 25 24 27 ρ g0 (fun h2 => h2 = FF 24 27 h0) 2 100) 3 (25, ρ, g0, 0, 0) h0 0 [(0, .ref 24), (1, .ref (1000 + 5))] []
  refine v_sw (n := 25) (c := 0) (z := 0) (g' := (CT 0 GL 24 25 [(24, [0, 0, 0])] g0)) (h' := (CT 0 FH 24 25 [(24, [0, 0, 0])] h0)) (A0.s1 (by decide)) (A0.s2 (by decide)) ?_
  refine v_aload_n K dX5_init_0 rfl ?_
  refine v_objInit K oi_X5 oi_m oi_c ⟨by decide, by decide⟩ (by decide) dX5_init_1 ?_
  refine v_aload_n K dX5_init_4 rfl ?_
  refine v_bipushN K 50 rfl dX5_init_5 ?_
  refine v_newa K pl_25 sh_25 (CT_new (by decide) (hz 25 (by decide)).2) (Or.inl ⟨rfl, rfl⟩) (fun k => congrFun (CT_new (by decide) (hz 25 (by decide)).1) k) (W0.ct (by decide) (by decide) (by decide) (by decide +kernel) (by decide +kernel)) (by decide) rfl rfl wa_int ⟨by decide, by decide⟩ dX5_init_7 (fun ρ1 A1 => ?_)
  have B1 := AGR.t (AGR.r (n := 25) (ρ := ρ)) A1 (by decide)
  refine v_sw (n := 26) (c := 1) (z := 50) (g' := (CT 0 GL 24 26 [(24, [0, 0, 0])] g0)) (h' := (CT 0 FH 24 26 [(25, [0, 0, 0, 0, 0, 0, 0, 0, 0]), (24, [0, 0, 0])] h0)) (CT_grow (by decide) (by decide) (by decide) (fun a h => (hz a (Nat.le_trans (by decide) h)).1) (GLz (by decide +kernel))) (CT_push (by decide) (hz 25 (by decide)).2 (zrI (by decide))) ?_
  have cs2 := CT_set (z := 0) (F := GL) (b := 24) (hi := 26) (f := g0) (T := [(24, [0, 0, 0])]) (T' := [(24, [26, 0, 0])]) (L := [0, 0, 0]) (k := 0) (v := 25 + 1) rfl (by decide) rfl (fun _ hx => (tl_ne hx).trans (tl_ne hx).symm)
  refine v_putg (g' := (CT 0 GL 24 26 [(24, [26, 0, 0])] g0)) K pX5_9 (fun _ => rfl) (Or.inr ⟨_, rfl⟩) sh_24 (show 24 < 26 by decide) cs2.1 (fun j _ hj => cs2.2.1 j hj) (fun x _ hx => cs2.2.2 x hx) dX5_init_9 ?_
  refine v_aload_n K dX5_init_12 rfl ?_
  refine v_iconstN K 0 rfl dX5_init_13 ?_
  refine v_puti K pX5_15 sh_24 (show 24 < 26 by decide) dX5_init_14 ?_
  refine v_hq (CT_u2 (F := FH) (T := [(25, [0, 0, 0, 0, 0, 0, 0, 0, 0]), (24, [0, 0, 0])]) (T' := [(24, [0, nI 0, 0]), (25, [0, 0, 0, 0, 0, 0, 0, 0, 0]), (24, [0, 0, 0])]) (L := [0, 0, 0]) rfl (by decide) rfl (fun _ hx => tl_ne hx)) ?_
  refine v_aload_n K dX5_init_17 rfl ?_
  refine v_bipushN K 50 rfl dX5_init_18 ?_
  refine v_newa K pl_26 sh_26 (CT_new (by decide) (hz 26 (by decide)).2) (Or.inl ⟨rfl, rfl⟩) (fun k => congrFun (CT_new (by decide) (hz 26 (by decide)).1) k) (W0.ct (by decide) (by decide) (by decide) (by decide +kernel) (by decide +kernel)) (by decide) rfl rfl wa_int ⟨by decide, by decide⟩ dX5_init_20 (fun ρ3 A3 => ?_)
  have B3 := AGR.t B1 A3 (by decide)
  refine v_sw (n := 27) (c := 2) (z := 100) (g' := (CT 0 GL 24 27 [(24, [26, 0, 0])] g0)) (h' := (CT 0 FH 24 27 [(24, [0, nI 0, 0]), (25, [0, 0, 0, 0, 0, 0, 0, 0, 0]), (24, [0, 0, 0])] h0)) (CT_grow (by decide) (by decide) (by decide) (fun a h => (hz a (Nat.le_trans (by decide) h)).1) (GLz (by decide +kernel))) (CT_grow (by decide) (by decide) (by decide) (fun a h => (hz a (Nat.le_trans (by decide) h)).2) (FHz (by decide +kernel))) ?_
  have cs4 := CT_set (z := 0) (F := GL) (b := 24) (hi := 27) (f := g0) (T := [(24, [26, 0, 0])]) (T' := [(24, [26, 0, 27])]) (L := [26, 0, 0]) (k := 2) (v := 26 + 1) rfl (by decide) rfl (fun _ hx => (tl_ne hx).trans (tl_ne hx).symm)
  refine v_putg (g' := (CT 0 GL 24 27 [(24, [26, 0, 27])] g0)) K pX5_19 (fun _ => rfl) (Or.inr ⟨_, rfl⟩) sh_24 (show 24 < 27 by decide) cs4.1 (fun j _ hj => cs4.2.1 j hj) (fun x _ hx => cs4.2.2 x hx) dX5_init_22 ?_
  refine v_iconstN K 0 rfl dX5_init_25 ?_
  refine v_istore_n (lv2 := [(2, .int (nI 0)), (0, .ref 24), (1, .ref (1000 + 5))]) K dX5_init_26 (by decide) rfl ?_
  refine v_iload_n K dX5_init_27 rfl ?_
  refine v_aload_n K dX5_init_28 rfl ?_
  refine v_slen (j := 5) K (by decide) dX5_init_29 ?_
  refine v_top (y := nI 9) rfl ?_
  refine v_icmpN_ge (tgt := 46) K (by decide) (by decide) dX5_init_30 rfl (fun c => absurd c (by decide)) (fun _ => ?_)
  refine v_aload_n K dX5_init_33 rfl ?_
  refine v_aload_n K dX5_init_34 rfl ?_
  refine v_iload_n K dX5_init_35 rfl ?_
  refine v_sald (j := 5) (x := (-2)) K (by decide) (by decide) (by decide) dX5_init_36 ?_
  refine v_callVc (As := [.int ((-2))]) K (c_addM (n := 27) (g := (CT 0 GL 24 27 [(24, [26, 0, 27])] g0)) (CT 0 FH 24 27 [(24, [0, nI 0, 0]), (25, [0, 0, 0, 0, 0, 0, 0, 0, 0]), (24, [0, 0, 0])] h0) 24 25 0 ((-2)) sh_24 (by decide) sh_25 (by decide) ((congrFun (CT_at (z := 0) (F := GL) (b := 24) (hi := 27) (f := g0) (T := [(24, [26, 0, 27])]) (L := [26, 0, 27]) rfl) 0).trans rfl) ((congrFun (CT_at (z := 0) (F := FH) (b := 24) (hi := 27) (f := h0) (T := [(24, [0, nI 0, 0]), (25, [0, 0, 0, 0, 0, 0, 0, 0, 0]), (24, [0, 0, 0])]) (L := [0, nI 0, 0]) rfl) 1).trans rfl) (by decide)) lX5_22 ck_X5 rfl sh_24 (by decide) rfl ⟨by decide, by decide⟩ ⟨by decide, by decide⟩ (by decide) dX5_init_37 (fun r hh hp => ?_) rfl
  obtain ⟨rfl, rfl⟩ := hp
  refine v_none ?_
  refine v_hq (congrArg (fun h => u2 h 24 1 (nI (0 + 1))) (CT_u2 (F := FH) (T := [(24, [0, nI 0, 0]), (25, [0, 0, 0, 0, 0, 0, 0, 0, 0]), (24, [0, 0, 0])]) (T' := [(25, [(-2), 0, 0, 0, 0, 0, 0, 0, 0]), (24, [0, nI 0, 0]), (25, [0, 0, 0, 0, 0, 0, 0, 0, 0]), (24, [0, 0, 0])]) (L := [0, 0, 0, 0, 0, 0, 0, 0, 0]) rfl (by decide) rfl (fun _ hx => tl_ne hx))) ?_
  refine v_hq (CT_u2 (F := FH) (T := [(25, [(-2), 0, 0, 0, 0, 0, 0, 0, 0]), (24, [0, nI 0, 0]), (25, [0, 0, 0, 0, 0, 0, 0, 0, 0]), (24, [0, 0, 0])]) (T' := [(24, [0, nI 1, 0]), (25, [(-2), 0, 0, 0, 0, 0, 0, 0, 0]), (24, [0, nI 0, 0]), (25, [0, 0, 0, 0, 0, 0, 0, 0, 0]), (24, [0, 0, 0])]) (L := [0, nI 0, 0]) rfl (by decide) rfl (fun _ hx => tl_ne hx)) ?_
  refine v_iincN (lv2 := [(2, .int (nI 1)), (0, .ref 24), (1, .ref (1000 + 5))]) K 1 dX5_init_40 rfl rfl (by decide) rfl ?_
  refine v_goto (tgt := 27) K dX5_init_43 rfl ?_
  refine v_iload_n K dX5_init_27 rfl ?_
  refine v_aload_n K dX5_init_28 rfl ?_
  refine v_slen (j := 5) K (by decide) dX5_init_29 ?_
  refine v_top (y := nI 9) rfl ?_
  refine v_icmpN_ge (tgt := 46) K (by decide) (by decide) dX5_init_30 rfl (fun c => absurd c (by decide)) (fun _ => ?_)
  refine v_aload_n K dX5_init_33 rfl ?_
  refine v_aload_n K dX5_init_34 rfl ?_
  refine v_iload_n K dX5_init_35 rfl ?_
  refine v_sald (j := 5) (x := nI 3) K (by decide) (by decide) (by decide) dX5_init_36 ?_
  refine v_callVc (As := [.int (nI 3)]) K (c_addM (n := 27) (g := (CT 0 GL 24 27 [(24, [26, 0, 27])] g0)) (CT 0 FH 24 27 [(24, [0, nI 1, 0]), (25, [(-2), 0, 0, 0, 0, 0, 0, 0, 0]), (24, [0, nI 0, 0]), (25, [0, 0, 0, 0, 0, 0, 0, 0, 0]), (24, [0, 0, 0])] h0) 24 25 1 (nI 3) sh_24 (by decide) sh_25 (by decide) ((congrFun (CT_at (z := 0) (F := GL) (b := 24) (hi := 27) (f := g0) (T := [(24, [26, 0, 27])]) (L := [26, 0, 27]) rfl) 0).trans rfl) ((congrFun (CT_at (z := 0) (F := FH) (b := 24) (hi := 27) (f := h0) (T := [(24, [0, nI 1, 0]), (25, [(-2), 0, 0, 0, 0, 0, 0, 0, 0]), (24, [0, nI 0, 0]), (25, [0, 0, 0, 0, 0, 0, 0, 0, 0]), (24, [0, 0, 0])]) (L := [0, nI 1, 0]) rfl) 1).trans rfl) (by decide)) lX5_22 ck_X5 rfl sh_24 (by decide) rfl ⟨by decide, by decide⟩ ⟨by decide, by decide⟩ (by decide) dX5_init_37 (fun r hh hp => ?_) rfl
  obtain ⟨rfl, rfl⟩ := hp
  refine v_none ?_
  refine v_hq (congrArg (fun h => u2 h 24 1 (nI (1 + 1))) (CT_u2 (F := FH) (T := [(24, [0, nI 1, 0]), (25, [(-2), 0, 0, 0, 0, 0, 0, 0, 0]), (24, [0, nI 0, 0]), (25, [0, 0, 0, 0, 0, 0, 0, 0, 0]), (24, [0, 0, 0])]) (T' := [(25, [(-2), nI 3, 0, 0, 0, 0, 0, 0, 0]), (24, [0, nI 1, 0]), (25, [(-2), 0, 0, 0, 0, 0, 0, 0, 0]), (24, [0, nI 0, 0]), (25, [0, 0, 0, 0, 0, 0, 0, 0, 0]), (24, [0, 0, 0])]) (L := [(-2), 0, 0, 0, 0, 0, 0, 0, 0]) rfl (by decide) rfl (fun _ hx => tl_ne hx))) ?_
  refine v_hq (CT_u2 (F := FH) (T := [(25, [(-2), nI 3, 0, 0, 0, 0, 0, 0, 0]), (24, [0, nI 1, 0]), (25, [(-2), 0, 0, 0, 0, 0, 0, 0, 0]), (24, [0, nI 0, 0]), (25, [0, 0, 0, 0, 0, 0, 0, 0, 0]), (24, [0, 0, 0])]) (T' := [(24, [0, nI 2, 0]), (25, [(-2), nI 3, 0, 0, 0, 0, 0, 0, 0]), (24, [0, nI 1, 0]), (25, [(-2), 0, 0, 0, 0, 0, 0, 0, 0]), (24, [0, nI 0, 0]), (25, [0, 0, 0, 0, 0, 0, 0, 0, 0]), (24, [0, 0, 0])]) (L := [0, nI 1, 0]) rfl (by decide) rfl (fun _ hx => tl_ne hx)) ?_
  refine v_iincN (lv2 := [(2, .int (nI 2)), (0, .ref 24), (1, .ref (1000 + 5))]) K 1 dX5_init_40 rfl rfl (by decide) rfl ?_
  refine v_goto (tgt := 27) K dX5_init_43 rfl ?_
  refine v_iload_n K dX5_init_27 rfl ?_
  refine v_aload_n K dX5_init_28 rfl ?_
  refine v_slen (j := 5) K (by decide) dX5_init_29 ?_
  refine v_top (y := nI 9) rfl ?_
  refine v_icmpN_ge (tgt := 46) K (by decide) (by decide) dX5_init_30 rfl (fun c => absurd c (by decide)) (fun _ => ?_)
  refine v_aload_n K dX5_init_33 rfl ?_
  refine v_aload_n K dX5_init_34 rfl ?_
  refine v_iload_n K dX5_init_35 rfl ?_
  refine v_sald (j := 5) (x := (-42)) K (by decide) (by decide) (by decide) dX5_init_36 ?_
  refine v_callVc (As := [.int ((-42))]) K (c_addM (n := 27) (g := (CT 0 GL 24 27 [(24, [26, 0, 27])] g0)) (CT 0 FH 24 27 [(24, [0, nI 2, 0]), (25, [(-2), nI 3, 0, 0, 0, 0, 0, 0, 0]), (24, [0, nI 1, 0]), (25, [(-2), 0, 0, 0, 0, 0, 0, 0, 0]), (24, [0, nI 0, 0]), (25, [0, 0, 0, 0, 0, 0, 0, 0, 0]), (24, [0, 0, 0])] h0) 24 25 2 ((-42)) sh_24 (by decide) sh_25 (by decide) ((congrFun (CT_at (z := 0) (F := GL) (b := 24) (hi := 27) (f := g0) (T := [(24, [26, 0, 27])]) (L := [26, 0, 27]) rfl) 0).trans rfl) ((congrFun (CT_at (z := 0) (F := FH) (b := 24) (hi := 27) (f := h0) (T := [(24, [0, nI 2, 0]), (25, [(-2), nI 3, 0, 0, 0, 0, 0, 0, 0]), (24, [0, nI 1, 0]), (25, [(-2), 0, 0, 0, 0, 0, 0, 0, 0]), (24, [0, nI 0, 0]), (25, [0, 0, 0, 0, 0, 0, 0, 0, 0]), (24, [0, 0, 0])]) (L := [0, nI 2, 0]) rfl) 1).trans rfl) (by decide)) lX5_22 ck_X5 rfl sh_24 (by decide) rfl ⟨by decide, by decide⟩ ⟨by decide, by decide⟩ (by decide) dX5_init_37 (fun r hh hp => ?_) rfl
  obtain ⟨rfl, rfl⟩ := hp
  refine v_none ?_
  refine v_hq (congrArg (fun h => u2 h 24 1 (nI (2 + 1))) (CT_u2 (F := FH) (T := [(24, [0, nI 2, 0]), (25, [(-2), nI 3, 0, 0, 0, 0, 0, 0, 0]), (24, [0, nI 1, 0]), (25, [(-2), 0, 0, 0, 0, 0, 0, 0, 0]), (24, [0, nI 0, 0]), (25, [0, 0, 0, 0, 0, 0, 0, 0, 0]), (24, [0, 0, 0])]) (T' := [(25, [(-2), nI 3, (-42), 0, 0, 0, 0, 0, 0]), (24, [0, nI 2, 0]), (25, [(-2), nI 3, 0, 0, 0, 0, 0, 0, 0]), (24, [0, nI 1, 0]), (25, [(-2), 0, 0, 0, 0, 0, 0, 0, 0]), (24, [0, nI 0, 0]), (25, [0, 0, 0, 0, 0, 0, 0, 0, 0]), (24, [0, 0, 0])]) (L := [(-2), nI 3, 0, 0, 0, 0, 0, 0, 0]) rfl (by decide) rfl (fun _ hx => tl_ne hx))) ?_
  refine v_hq (CT_u2 (F := FH) (T := [(25, [(-2), nI 3, (-42), 0, 0, 0, 0, 0, 0]), (24, [0, nI 2, 0]), (25, [(-2), nI 3, 0, 0, 0, 0, 0, 0, 0]), (24, [0, nI 1, 0]), (25, [(-2), 0, 0, 0, 0, 0, 0, 0, 0]), (24, [0, nI 0, 0]), (25, [0, 0, 0, 0, 0, 0, 0, 0, 0]), (24, [0, 0, 0])]) (T' := [(24, [0, nI 3, 0]), (25, [(-2), nI 3, (-42), 0, 0, 0, 0, 0, 0]), (24, [0, nI 2, 0]), (25, [(-2), nI 3, 0, 0, 0, 0, 0, 0, 0]), (24, [0, nI 1, 0]), (25, [(-2), 0, 0, 0, 0, 0, 0, 0, 0]), (24, [0, nI 0, 0]), (25, [0, 0, 0, 0, 0, 0, 0, 0, 0]), (24, [0, 0, 0])]) (L := [0, nI 2, 0]) rfl (by decide) rfl (fun _ hx => tl_ne hx)) ?_
  refine v_iincN (lv2 := [(2, .int (nI 3)), (0, .ref 24), (1, .ref (1000 + 5))]) K 1 dX5_init_40 rfl rfl (by decide) rfl ?_
  refine v_goto (tgt := 27) K dX5_init_43 rfl ?_
  refine v_iload_n K dX5_init_27 rfl ?_
  refine v_aload_n K dX5_init_28 rfl ?_
  refine v_slen (j := 5) K (by decide) dX5_init_29 ?_
  refine v_top (y := nI 9) rfl ?_
  refine v_icmpN_ge (tgt := 46) K (by decide) (by decide) dX5_init_30 rfl (fun c => absurd c (by decide)) (fun _ => ?_)
  refine v_aload_n K dX5_init_33 rfl ?_
  refine v_aload_n K dX5_init_34 rfl ?_
  refine v_iload_n K dX5_init_35 rfl ?_
  refine v_sald (j := 5) (x := (-3)) K (by decide) (by decide) (by decide) dX5_init_36 ?_
  refine v_callVc (As := [.int ((-3))]) K (c_addM (n := 27) (g := (CT 0 GL 24 27 [(24, [26, 0, 27])] g0)) (CT 0 FH 24 27 [(24, [0, nI 3, 0]), (25, [(-2), nI 3, (-42), 0, 0, 0, 0, 0, 0]), (24, [0, nI 2, 0]), (25, [(-2), nI 3, 0, 0, 0, 0, 0, 0, 0]), (24, [0, nI 1, 0]), (25, [(-2), 0, 0, 0, 0, 0, 0, 0, 0]), (24, [0, nI 0, 0]), (25, [0, 0, 0, 0, 0, 0, 0, 0, 0]), (24, [0, 0, 0])] h0) 24 25 3 ((-3)) sh_24 (by decide) sh_25 (by decide) ((congrFun (CT_at (z := 0) (F := GL) (b := 24) (hi := 27) (f := g0) (T := [(24, [26, 0, 27])]) (L := [26, 0, 27]) rfl) 0).trans rfl) ((congrFun (CT_at (z := 0) (F := FH) (b := 24) (hi := 27) (f := h0) (T := [(24, [0, nI 3, 0]), (25, [(-2), nI 3, (-42), 0, 0, 0, 0, 0, 0]), (24, [0, nI 2, 0]), (25, [(-2), nI 3, 0, 0, 0, 0, 0, 0, 0]), (24, [0, nI 1, 0]), (25, [(-2), 0, 0, 0, 0, 0, 0, 0, 0]), (24, [0, nI 0, 0]), (25, [0, 0, 0, 0, 0, 0, 0, 0, 0]), (24, [0, 0, 0])]) (L := [0, nI 3, 0]) rfl) 1).trans rfl) (by decide)) lX5_22 ck_X5 rfl sh_24 (by decide) rfl ⟨by decide, by decide⟩ ⟨by decide, by decide⟩ (by decide) dX5_init_37 (fun r hh hp => ?_) rfl
  obtain ⟨rfl, rfl⟩ := hp
  refine v_none ?_
  refine v_hq (congrArg (fun h => u2 h 24 1 (nI (3 + 1))) (CT_u2 (F := FH) (T := [(24, [0, nI 3, 0]), (25, [(-2), nI 3, (-42), 0, 0, 0, 0, 0, 0]), (24, [0, nI 2, 0]), (25, [(-2), nI 3, 0, 0, 0, 0, 0, 0, 0]), (24, [0, nI 1, 0]), (25, [(-2), 0, 0, 0, 0, 0, 0, 0, 0]), (24, [0, nI 0, 0]), (25, [0, 0, 0, 0, 0, 0, 0, 0, 0]), (24, [0, 0, 0])]) (T' := [(25, [(-2), nI 3, (-42), (-3), 0, 0, 0, 0, 0]), (24, [0, nI 3, 0]), (25, [(-2), nI 3, (-42), 0, 0, 0, 0, 0, 0]), (24, [0, nI 2, 0]), (25, [(-2), nI 3, 0, 0, 0, 0, 0, 0, 0]), (24, [0, nI 1, 0]), (25, [(-2), 0, 0, 0, 0, 0, 0, 0, 0]), (24, [0, nI 0, 0]), (25, [0, 0, 0, 0, 0, 0, 0, 0, 0]), (24, [0, 0, 0])]) (L := [(-2), nI 3, (-42), 0, 0, 0, 0, 0, 0]) rfl (by decide) rfl (fun _ hx => tl_ne hx))) ?_
  refine v_hq (CT_u2 (F := FH) (T := [(25, [(-2), nI 3, (-42), (-3), 0, 0, 0, 0, 0]), (24, [0, nI 3, 0]), (25, [(-2), nI 3, (-42), 0, 0, 0, 0, 0, 0]), (24, [0, nI 2, 0]), (25, [(-2), nI 3, 0, 0, 0, 0, 0, 0, 0]), (24, [0, nI 1, 0]), (25, [(-2), 0, 0, 0, 0, 0, 0, 0, 0]), (24, [0, nI 0, 0]), (25, [0, 0, 0, 0, 0, 0, 0, 0, 0]), (24, [0, 0, 0])]) (T' := [(24, [0, nI 4, 0]), (25, [(-2), nI 3, (-42), (-3), 0, 0, 0, 0, 0]), (24, [0, nI 3, 0]), (25, [(-2), nI 3, (-42), 0, 0, 0, 0, 0, 0]), (24, [0, nI 2, 0]), (25, [(-2), nI 3, 0, 0, 0, 0, 0, 0, 0]), (24, [0, nI 1, 0]), (25, [(-2), 0, 0, 0, 0, 0, 0, 0, 0]), (24, [0, nI 0, 0]), (25, [0, 0, 0, 0, 0, 0, 0, 0, 0]), (24, [0, 0, 0])]) (L := [0, nI 3, 0]) rfl (by decide) rfl (fun _ hx => tl_ne hx)) ?_
  refine v_iincN (lv2 := [(2, .int (nI 4)), (0, .ref 24), (1, .ref (1000 + 5))]) K 1 dX5_init_40 rfl rfl (by decide) rfl ?_
  refine v_goto (tgt := 27) K dX5_init_43 rfl ?_
  refine v_iload_n K dX5_init_27 rfl ?_
  refine v_aload_n K dX5_init_28 rfl ?_
  refine v_slen (j := 5) K (by decide) dX5_init_29 ?_
  refine v_top (y := nI 9) rfl ?_
  refine v_icmpN_ge (tgt := 46) K (by decide) (by decide) dX5_init_30 rfl (fun c => absurd c (by decide)) (fun _ => ?_)
  refine v_aload_n K dX5_init_33 rfl ?_
  refine v_aload_n K dX5_init_34 rfl ?_
  refine v_iload_n K dX5_init_35 rfl ?_
  refine v_sald (j := 5) (x := nI 50) K (by decide) (by decide) (by decide) dX5_init_36 ?_
  refine v_callVc (As := [.int (nI 50)]) K (c_addM (n := 27) (g := (CT 0 GL 24 27 [(24, [26, 0, 27])] g0)) (CT 0 FH 24 27 [(24, [0, nI 4, 0]), (25, [(-2), nI 3, (-42), (-3), 0, 0, 0, 0, 0]), (24, [0, nI 3, 0]), (25, [(-2), nI 3, (-42), 0, 0, 0, 0, 0, 0]), (24, [0, nI 2, 0]), (25, [(-2), nI 3, 0, 0, 0, 0, 0, 0, 0]), (24, [0, nI 1, 0]), (25, [(-2), 0, 0, 0, 0, 0, 0, 0, 0]), (24, [0, nI 0, 0]), (25, [0, 0, 0, 0, 0, 0, 0, 0, 0]), (24, [0, 0, 0])] h0) 24 25 4 (nI 50) sh_24 (by decide) sh_25 (by decide) ((congrFun (CT_at (z := 0) (F := GL) (b := 24) (hi := 27) (f := g0) (T := [(24, [26, 0, 27])]) (L := [26, 0, 27]) rfl) 0).trans rfl) ((congrFun (CT_at (z := 0) (F := FH) (b := 24) (hi := 27) (f := h0) (T := [(24, [0, nI 4, 0]), (25, [(-2), nI 3, (-42), (-3), 0, 0, 0, 0, 0]), (24, [0, nI 3, 0]), (25, [(-2), nI 3, (-42), 0, 0, 0, 0, 0, 0]), (24, [0, nI 2, 0]), (25, [(-2), nI 3, 0, 0, 0, 0, 0, 0, 0]), (24, [0, nI 1, 0]), (25, [(-2), 0, 0, 0, 0, 0, 0, 0, 0]), (24, [0, nI 0, 0]), (25, [0, 0, 0, 0, 0, 0, 0, 0, 0]), (24, [0, 0, 0])]) (L := [0, nI 4, 0]) rfl) 1).trans rfl) (by decide)) lX5_22 ck_X5 rfl sh_24 (by decide) rfl ⟨by decide, by decide⟩ ⟨by decide, by decide⟩ (by decide) dX5_init_37 (fun r hh hp => ?_) rfl
  obtain ⟨rfl, rfl⟩ := hp
  refine v_none ?_
  refine v_hq (congrArg (fun h => u2 h 24 1 (nI (4 + 1))) (CT_u2 (F := FH) (T := [(24, [0, nI 4, 0]), (25, [(-2), nI 3, (-42), (-3), 0, 0, 0, 0, 0]), (24, [0, nI 3, 0]), (25, [(-2), nI 3, (-42), 0, 0, 0, 0, 0, 0]), (24, [0, nI 2, 0]), (25, [(-2), nI 3, 0, 0, 0, 0, 0, 0, 0]), (24, [0, nI 1, 0]), (25, [(-2), 0, 0, 0, 0, 0, 0, 0, 0]), (24, [0, nI 0, 0]), (25, [0, 0, 0, 0, 0, 0, 0, 0, 0]), (24, [0, 0, 0])]) (T' := [(25, [(-2), nI 3, (-42), (-3), nI 50, 0, 0, 0, 0]), (24, [0, nI 4, 0]), (25, [(-2), nI 3, (-42), (-3), 0, 0, 0, 0, 0]), (24, [0, nI 3, 0]), (25, [(-2), nI 3, (-42), 0, 0, 0, 0, 0, 0]), (24, [0, nI 2, 0]), (25, [(-2), nI 3, 0, 0, 0, 0, 0, 0, 0]), (24, [0, nI 1, 0]), (25, [(-2), 0, 0, 0, 0, 0, 0, 0, 0]), (24, [0, nI 0, 0]), (25, [0, 0, 0, 0, 0, 0, 0, 0, 0]), (24, [0, 0, 0])]) (L := [(-2), nI 3, (-42), (-3), 0, 0, 0, 0, 0]) rfl (by decide) rfl (fun _ hx => tl_ne hx))) ?_
  refine v_hq (CT_u2 (F := FH) (T := [(25, [(-2), nI 3, (-42), (-3), nI 50, 0, 0, 0, 0]), (24, [0, nI 4, 0]), (25, [(-2), nI 3, (-42), (-3), 0, 0, 0, 0, 0]), (24, [0, nI 3, 0]), (25, [(-2), nI 3, (-42), 0, 0, 0, 0, 0, 0]), (24, [0, nI 2, 0]), (25, [(-2), nI 3, 0, 0, 0, 0, 0, 0, 0]), (24, [0, nI 1, 0]), (25, [(-2), 0, 0, 0, 0, 0, 0, 0, 0]), (24, [0, nI 0, 0]), (25, [0, 0, 0, 0, 0, 0, 0, 0, 0]), (24, [0, 0, 0])]) (T' := [(24, [0, nI 5, 0]), (25, [(-2), nI 3, (-42), (-3), nI 50, 0, 0, 0, 0]), (24, [0, nI 4, 0]), (25, [(-2), nI 3, (-42), (-3), 0, 0, 0, 0, 0]), (24, [0, nI 3, 0]), (25, [(-2), nI 3, (-42), 0, 0, 0, 0, 0, 0]), (24, [0, nI 2, 0]), (25, [(-2), nI 3, 0, 0, 0, 0, 0, 0, 0]), (24, [0, nI 1, 0]), (25, [(-2), 0, 0, 0, 0, 0, 0, 0, 0]), (24, [0, nI 0, 0]), (25, [0, 0, 0, 0, 0, 0, 0, 0, 0]), (24, [0, 0, 0])]) (L := [0, nI 4, 0]) rfl (by decide) rfl (fun _ hx => tl_ne hx)) ?_
  refine v_iincN (lv2 := [(2, .int (nI 5)), (0, .ref 24), (1, .ref (1000 + 5))]) K 1 dX5_init_40 rfl rfl (by decide) rfl ?_
  refine v_goto (tgt := 27) K dX5_init_43 rfl ?_
  refine v_iload_n K dX5_init_27 rfl ?_
  refine v_aload_n K dX5_init_28 rfl ?_
  refine v_slen (j := 5) K (by decide) dX5_init_29 ?_
  refine v_top (y := nI 9) rfl ?_
  refine v_icmpN_ge (tgt := 46) K (by decide) (by decide) dX5_init_30 rfl (fun c => absurd c (by decide)) (fun _ => ?_)
  refine v_aload_n K dX5_init_33 rfl ?_
  refine v_aload_n K dX5_init_34 rfl ?_
  refine v_iload_n K dX5_init_35 rfl ?_
  refine v_sald (j := 5) (x := (-62)) K (by decide) (by decide) (by decide) dX5_init_36 ?_
  refine v_callVc (As := [.int ((-62))]) K (c_addM (n := 27) (g := (CT 0 GL 24 27 [(24, [26, 0, 27])] g0)) (CT 0 FH 24 27 [(24, [0, nI 5, 0]), (25, [(-2), nI 3, (-42), (-3), nI 50, 0, 0, 0, 0]), (24, [0, nI 4, 0]), (25, [(-2), nI 3, (-42), (-3), 0, 0, 0, 0, 0]), (24, [0, nI 3, 0]), (25, [(-2), nI 3, (-42), 0, 0, 0, 0, 0, 0]), (24, [0, nI 2, 0]), (25, [(-2), nI 3, 0, 0, 0, 0, 0, 0, 0]), (24, [0, nI 1, 0]), (25, [(-2), 0, 0, 0, 0, 0, 0, 0, 0]), (24, [0, nI 0, 0]), (25, [0, 0, 0, 0, 0, 0, 0, 0, 0]), (24, [0, 0, 0])] h0) 24 25 5 ((-62)) sh_24 (by decide) sh_25 (by decide) ((congrFun (CT_at (z := 0) (F := GL) (b := 24) (hi := 27) (f := g0) (T := [(24, [26, 0, 27])]) (L := [26, 0, 27]) rfl) 0).trans rfl) ((congrFun (CT_at (z := 0) (F := FH) (b := 24) (hi := 27) (f := h0) (T := [(24, [0, nI 5, 0]), (25, [(-2), nI 3, (-42), (-3), nI 50, 0, 0, 0, 0]), (24, [0, nI 4, 0]), (25, [(-2), nI 3, (-42), (-3), 0, 0, 0, 0, 0]), (24, [0, nI 3, 0]), (25, [(-2), nI 3, (-42), 0, 0, 0, 0, 0, 0]), (24, [0, nI 2, 0]), (25, [(-2), nI 3, 0, 0, 0, 0, 0, 0, 0]), (24, [0, nI 1, 0]), (25, [(-2), 0, 0, 0, 0, 0, 0, 0, 0]), (24, [0, nI 0, 0]), (25, [0, 0, 0, 0, 0, 0, 0, 0, 0]), (24, [0, 0, 0])]) (L := [0, nI 5, 0]) rfl) 1).trans rfl) (by decide)) lX5_22 ck_X5 rfl sh_24 (by decide) rfl ⟨by decide, by decide⟩ ⟨by decide, by decide⟩ (by decide) dX5_init_37 (fun r hh hp => ?_) rfl
  obtain ⟨rfl, rfl⟩ := hp
  refine v_none ?_
  refine v_hq (congrArg (fun h => u2 h 24 1 (nI (5 + 1))) (CT_u2 (F := FH) (T := [(24, [0, nI 5, 0]), (25, [(-2), nI 3, (-42), (-3), nI 50, 0, 0, 0, 0]), (24, [0, nI 4, 0]), (25, [(-2), nI 3, (-42), (-3), 0, 0, 0, 0, 0]), (24, [0, nI 3, 0]), (25, [(-2), nI 3, (-42), 0, 0, 0, 0, 0, 0]), (24, [0, nI 2, 0]), (25, [(-2), nI 3, 0, 0, 0, 0, 0, 0, 0]), (24, [0, nI 1, 0]), (25, [(-2), 0, 0, 0, 0, 0, 0, 0, 0]), (24, [0, nI 0, 0]), (25, [0, 0, 0, 0, 0, 0, 0, 0, 0]), (24, [0, 0, 0])]) (T' := [(25, [(-2), nI 3, (-42), (-3), nI 50, (-62), 0, 0, 0]), (24, [0, nI 5, 0]), (25, [(-2), nI 3, (-42), (-3), nI 50, 0, 0, 0, 0]), (24, [0, nI 4, 0]), (25, [(-2), nI 3, (-42), (-3), 0, 0, 0, 0, 0]), (24, [0, nI 3, 0]), (25, [(-2), nI 3, (-42), 0, 0, 0, 0, 0, 0]), (24, [0, nI 2, 0]), (25, [(-2), nI 3, 0, 0, 0, 0, 0, 0, 0]), (24, [0, nI 1, 0]), (25, [(-2), 0, 0, 0, 0, 0, 0, 0, 0]), (24, [0, nI 0, 0]), (25, [0, 0, 0, 0, 0, 0, 0, 0, 0]), (24, [0, 0, 0])]) (L := [(-2), nI 3, (-42), (-3), nI 50, 0, 0, 0, 0]) rfl (by decide) rfl (fun _ hx => tl_ne hx))) ?_
  refine v_hq (CT_u2 (F := FH) (T := [(25, [(-2), nI 3, (-42), (-3), nI 50, (-62), 0, 0, 0]), (24, [0, nI 5, 0]), (25, [(-2), nI 3, (-42), (-3), nI 50, 0, 0, 0, 0]), (24, [0, nI 4, 0]), (25, [(-2), nI 3, (-42), (-3), 0, 0, 0, 0, 0]), (24, [0, nI 3, 0]), (25, [(-2), nI 3, (-42), 0, 0, 0, 0, 0, 0]), (24, [0, nI 2, 0]), (25, [(-2), nI 3, 0, 0, 0, 0, 0, 0, 0]), (24, [0, nI 1, 0]), (25, [(-2), 0, 0, 0, 0, 0, 0, 0, 0]), (24, [0, nI 0, 0]), (25, [0, 0, 0, 0, 0, 0, 0, 0, 0]), (24, [0, 0, 0])]) (T' := [(24, [0, nI 6, 0]), (25, [(-2), nI 3, (-42), (-3), nI 50, (-62), 0, 0, 0]), (24, [0, nI 5, 0]), (25, [(-2), nI 3, (-42), (-3), nI 50, 0, 0, 0, 0]), (24, [0, nI 4, 0]), (25, [(-2), nI 3, (-42), (-3), 0, 0, 0, 0, 0]), (24, [0, nI 3, 0]), (25, [(-2), nI 3, (-42), 0, 0, 0, 0, 0, 0]), (24, [0, nI 2, 0]), (25, [(-2), nI 3, 0, 0, 0, 0, 0, 0, 0]), (24, [0, nI 1, 0]), (25, [(-2), 0, 0, 0, 0, 0, 0, 0, 0]), (24, [0, nI 0, 0]), (25, [0, 0, 0, 0, 0, 0, 0, 0, 0]), (24, [0, 0, 0])]) (L := [0, nI 5, 0]) rfl (by decide) rfl (fun _ hx => tl_ne hx)) ?_
  refine v_iincN (lv2 := [(2, .int (nI 6)), (0, .ref 24), (1, .ref (1000 + 5))]) K 1 dX5_init_40 rfl rfl (by decide) rfl ?_
  refine v_goto (tgt := 27) K dX5_init_43 rfl ?_
  refine v_iload_n K dX5_init_27 rfl ?_
  refine v_aload_n K dX5_init_28 rfl ?_
  refine v_slen (j := 5) K (by decide) dX5_init_29 ?_
  refine v_top (y := nI 9) rfl ?_
  refine v_icmpN_ge (tgt := 46) K (by decide) (by decide) dX5_init_30 rfl (fun c => absurd c (by decide)) (fun _ => ?_)
  refine v_aload_n K dX5_init_33 rfl ?_
  refine v_aload_n K dX5_init_34 rfl ?_
  refine v_iload_n K dX5_init_35 rfl ?_
  refine v_sald (j := 5) (x := nI 3) K (by decide) (by decide) (by decide) dX5_init_36 ?_
  refine v_callVc (As := [.int (nI 3)]) K (c_addM (n := 27) (g := (CT 0 GL 24 27 [(24, [26, 0, 27])] g0)) (CT 0 FH 24 27 [(24, [0, nI 6, 0]), (25, [(-2), nI 3, (-42), (-3), nI 50, (-62), 0, 0, 0]), (24, [0, nI 5, 0]), (25, [(-2), nI 3, (-42), (-3), nI 50, 0, 0, 0, 0]), (24, [0, nI 4, 0]), (25, [(-2), nI 3, (-42), (-3), 0, 0, 0, 0, 0]), (24, [0, nI 3, 0]), (25, [(-2), nI 3, (-42), 0, 0, 0, 0, 0, 0]), (24, [0, nI 2, 0]), (25, [(-2), nI 3, 0, 0, 0, 0, 0, 0, 0]), (24, [0, nI 1, 0]), (25, [(-2), 0, 0, 0, 0, 0, 0, 0, 0]), (24, [0, nI 0, 0]), (25, [0, 0, 0, 0, 0, 0, 0, 0, 0]), (24, [0, 0, 0])] h0) 24 25 6 (nI 3) sh_24 (by decide) sh_25 (by decide) ((congrFun (CT_at (z := 0) (F := GL) (b := 24) (hi := 27) (f := g0) (T := [(24, [26, 0, 27])]) (L := [26, 0, 27]) rfl) 0).trans rfl) ((congrFun (CT_at (z := 0) (F := FH) (b := 24) (hi := 27) (f := h0) (T := [(24, [0, nI 6, 0]), (25, [(-2), nI 3, (-42), (-3), nI 50, (-62), 0, 0, 0]), (24, [0, nI 5, 0]), (25, [(-2), nI 3, (-42), (-3), nI 50, 0, 0, 0, 0]), (24, [0, nI 4, 0]), (25, [(-2), nI 3, (-42), (-3), 0, 0, 0, 0, 0]), (24, [0, nI 3, 0]), (25, [(-2), nI 3, (-42), 0, 0, 0, 0, 0, 0]), (24, [0, nI 2, 0]), (25, [(-2), nI 3, 0, 0, 0, 0, 0, 0, 0]), (24, [0, nI 1, 0]), (25, [(-2), 0, 0, 0, 0, 0, 0, 0, 0]), (24, [0, nI 0, 0]), (25, [0, 0, 0, 0, 0, 0, 0, 0, 0]), (24, [0, 0, 0])]) (L := [0, nI 6, 0]) rfl) 1).trans rfl) (by decide)) lX5_22 ck_X5 rfl sh_24 (by decide) rfl ⟨by decide, by decide⟩ ⟨by decide, by decide⟩ (by decide) dX5_init_37 (fun r hh hp => ?_) rfl
  obtain ⟨rfl, rfl⟩ := hp
  refine v_none ?_
  refine v_hq (congrArg (fun h => u2 h 24 1 (nI (6 + 1))) (CT_u2 (F := FH) (T := [(24, [0, nI 6, 0]), (25, [(-2), nI 3, (-42), (-3), nI 50, (-62), 0, 0, 0]), (24, [0, nI 5, 0]), (25, [(-2), nI 3, (-42), (-3), nI 50, 0, 0, 0, 0]), (24, [0, nI 4, 0]), (25, [(-2), nI 3, (-42), (-3), 0, 0, 0, 0, 0]), (24, [0, nI 3, 0]), (25, [(-2), nI 3, (-42), 0, 0, 0, 0, 0, 0]), (24, [0, nI 2, 0]), (25, [(-2), nI 3, 0, 0, 0, 0, 0, 0, 0]), (24, [0, nI 1, 0]), (25, [(-2), 0, 0, 0, 0, 0, 0, 0, 0]), (24, [0, nI 0, 0]), (25, [0, 0, 0, 0, 0, 0, 0, 0, 0]), (24, [0, 0, 0])]) (T' := [(25, [(-2), nI 3, (-42), (-3), nI 50, (-62), nI 3, 0, 0]), (24, [0, nI 6, 0]), (25, [(-2), nI 3, (-42), (-3), nI 50, (-62), 0, 0, 0]), (24, [0, nI 5, 0]), (25, [(-2), nI 3, (-42), (-3), nI 50, 0, 0, 0, 0]), (24, [0, nI 4, 0]), (25, [(-2), nI 3, (-42), (-3), 0, 0, 0, 0, 0]), (24, [0, nI 3, 0]), (25, [(-2), nI 3, (-42), 0, 0, 0, 0, 0, 0]), (24, [0, nI 2, 0]), (25, [(-2), nI 3, 0, 0, 0, 0, 0, 0, 0]), (24, [0, nI 1, 0]), (25, [(-2), 0, 0, 0, 0, 0, 0, 0, 0]), (24, [0, nI 0, 0]), (25, [0, 0, 0, 0, 0, 0, 0, 0, 0]), (24, [0, 0, 0])]) (L := [(-2), nI 3, (-42), (-3), nI 50, (-62), 0, 0, 0]) rfl (by decide) rfl (fun _ hx => tl_ne hx))) ?_
  refine v_hq (CT_u2 (F := FH) (T := [(25, [(-2), nI 3, (-42), (-3), nI 50, (-62), nI 3, 0, 0]), (24, [0, nI 6, 0]), (25, [(-2), nI 3, (-42), (-3), nI 50, (-62), 0, 0, 0]), (24, [0, nI 5, 0]), (25, [(-2), nI 3, (-42), (-3), nI 50, 0, 0, 0, 0]), (24, [0, nI 4, 0]), (25, [(-2), nI 3, (-42), (-3), 0, 0, 0, 0, 0]), (24, [0, nI 3, 0]), (25, [(-2), nI 3, (-42), 0, 0, 0, 0, 0, 0]), (24, [0, nI 2, 0]), (25, [(-2), nI 3, 0, 0, 0, 0, 0, 0, 0]), (24, [0, nI 1, 0]), (25, [(-2), 0, 0, 0, 0, 0, 0, 0, 0]), (24, [0, nI 0, 0]), (25, [0, 0, 0, 0, 0, 0, 0, 0, 0]), (24, [0, 0, 0])]) (T' := [(24, [0, nI 7, 0]), (25, [(-2), nI 3, (-42), (-3), nI 50, (-62), nI 3, 0, 0]), (24, [0, nI 6, 0]), (25, [(-2), nI 3, (-42), (-3), nI 50, (-62), 0, 0, 0]), (24, [0, nI 5, 0]), (25, [(-2), nI 3, (-42), (-3), nI 50, 0, 0, 0, 0]), (24, [0, nI 4, 0]), (25, [(-2), nI 3, (-42), (-3), 0, 0, 0, 0, 0]), (24, [0, nI 3, 0]), (25, [(-2), nI 3, (-42), 0, 0, 0, 0, 0, 0]), (24, [0, nI 2, 0]), (25, [(-2), nI 3, 0, 0, 0, 0, 0, 0, 0]), (24, [0, nI 1, 0]), (25, [(-2), 0, 0, 0, 0, 0, 0, 0, 0]), (24, [0, nI 0, 0]), (25, [0, 0, 0, 0, 0, 0, 0, 0, 0]), (24, [0, 0, 0])]) (L := [0, nI 6, 0]) rfl (by decide) rfl (fun _ hx => tl_ne hx)) ?_
  refine v_iincN (lv2 := [(2, .int (nI 7)), (0, .ref 24), (1, .ref (1000 + 5))]) K 1 dX5_init_40 rfl rfl (by decide) rfl ?_
  refine v_goto (tgt := 27) K dX5_init_43 rfl ?_
  refine v_iload_n K dX5_init_27 rfl ?_
  refine v_aload_n K dX5_init_28 rfl ?_
  refine v_slen (j := 5) K (by decide) dX5_init_29 ?_
  refine v_top (y := nI 9) rfl ?_
  refine v_icmpN_ge (tgt := 46) K (by decide) (by decide) dX5_init_30 rfl (fun c => absurd c (by decide)) (fun _ => ?_)
  refine v_aload_n K dX5_init_33 rfl ?_
  refine v_aload_n K dX5_init_34 rfl ?_
  refine v_iload_n K dX5_init_35 rfl ?_
  refine v_sald (j := 5) (x := (-42)) K (by decide) (by decide) (by decide) dX5_init_36 ?_
  refine v_callVc (As := [.int ((-42))]) K (c_addM (n := 27) (g := (CT 0 GL 24 27 [(24, [26, 0, 27])] g0)) (CT 0 FH 24 27 [(24, [0, nI 7, 0]), (25, [(-2), nI 3, (-42), (-3), nI 50, (-62), nI 3, 0, 0]), (24, [0, nI 6, 0]), (25, [(-2), nI 3, (-42), (-3), nI 50, (-62), 0, 0, 0]), (24, [0, nI 5, 0]), (25, [(-2), nI 3, (-42), (-3), nI 50, 0, 0, 0, 0]), (24, [0, nI 4, 0]), (25, [(-2), nI 3, (-42), (-3), 0, 0, 0, 0, 0]), (24, [0, nI 3, 0]), (25, [(-2), nI 3, (-42), 0, 0, 0, 0, 0, 0]), (24, [0, nI 2, 0]), (25, [(-2), nI 3, 0, 0, 0, 0, 0, 0, 0]), (24, [0, nI 1, 0]), (25, [(-2), 0, 0, 0, 0, 0, 0, 0, 0]), (24, [0, nI 0, 0]), (25, [0, 0, 0, 0, 0, 0, 0, 0, 0]), (24, [0, 0, 0])] h0) 24 25 7 ((-42)) sh_24 (by decide) sh_25 (by decide) ((congrFun (CT_at (z := 0) (F := GL) (b := 24) (hi := 27) (f := g0) (T := [(24, [26, 0, 27])]) (L := [26, 0, 27]) rfl) 0).trans rfl) ((congrFun (CT_at (z := 0) (F := FH) (b := 24) (hi := 27) (f := h0) (T := [(24, [0, nI 7, 0]), (25, [(-2), nI 3, (-42), (-3), nI 50, (-62), nI 3, 0, 0]), (24, [0, nI 6, 0]), (25, [(-2), nI 3, (-42), (-3), nI 50, (-62), 0, 0, 0]), (24, [0, nI 5, 0]), (25, [(-2), nI 3, (-42), (-3), nI 50, 0, 0, 0, 0]), (24, [0, nI 4, 0]), (25, [(-2), nI 3, (-42), (-3), 0, 0, 0, 0, 0]), (24, [0, nI 3, 0]), (25, [(-2), nI 3, (-42), 0, 0, 0, 0, 0, 0]), (24, [0, nI 2, 0]), (25, [(-2), nI 3, 0, 0, 0, 0, 0, 0, 0]), (24, [0, nI 1, 0]), (25, [(-2), 0, 0, 0, 0, 0, 0, 0, 0]), (24, [0, nI 0, 0]), (25, [0, 0, 0, 0, 0, 0, 0, 0, 0]), (24, [0, 0, 0])]) (L := [0, nI 7, 0]) rfl) 1).trans rfl) (by decide)) lX5_22 ck_X5 rfl sh_24 (by decide) rfl ⟨by decide, by decide⟩ ⟨by decide, by decide⟩ (by decide) dX5_init_37 (fun r hh hp => ?_) rfl
  obtain ⟨rfl, rfl⟩ := hp
  refine v_none ?_
  refine v_hq (congrArg (fun h => u2 h 24 1 (nI (7 + 1))) (CT_u2 (F := FH) (T := [(24, [0, nI 7, 0]), (25, [(-2), nI 3, (-42), (-3), nI 50, (-62), nI 3, 0, 0]), (24, [0, nI 6, 0]), (25, [(-2), nI 3, (-42), (-3), nI 50, (-62), 0, 0, 0]), (24, [0, nI 5, 0]), (25, [(-2), nI 3, (-42), (-3), nI 50, 0, 0, 0, 0]), (24, [0, nI 4, 0]), (25, [(-2), nI 3, (-42), (-3), 0, 0, 0, 0, 0]), (24, [0, nI 3, 0]), (25, [(-2), nI 3, (-42), 0, 0, 0, 0, 0, 0]), (24, [0, nI 2, 0]), (25, [(-2), nI 3, 0, 0, 0, 0, 0, 0, 0]), (24, [0, nI 1, 0]), (25, [(-2), 0, 0, 0, 0, 0, 0, 0, 0]), (24, [0, nI 0, 0]), (25, [0, 0, 0, 0, 0, 0, 0, 0, 0]), (24, [0, 0, 0])]) (T' := [(25, [(-2), nI 3, (-42), (-3), nI 50, (-62), nI 3, (-42), 0]), (24, [0, nI 7, 0]), (25, [(-2), nI 3, (-42), (-3), nI 50, (-62), nI 3, 0, 0]), (24, [0, nI 6, 0]), (25, [(-2), nI 3, (-42), (-3), nI 50, (-62), 0, 0, 0]), (24, [0, nI 5, 0]), (25, [(-2), nI 3, (-42), (-3), nI 50, 0, 0, 0, 0]), (24, [0, nI 4, 0]), (25, [(-2), nI 3, (-42), (-3), 0, 0, 0, 0, 0]), (24, [0, nI 3, 0]), (25, [(-2), nI 3, (-42), 0, 0, 0, 0, 0, 0]), (24, [0, nI 2, 0]), (25, [(-2), nI 3, 0, 0, 0, 0, 0, 0, 0]), (24, [0, nI 1, 0]), (25, [(-2), 0, 0, 0, 0, 0, 0, 0, 0]), (24, [0, nI 0, 0]), (25, [0, 0, 0, 0, 0, 0, 0, 0, 0]), (24, [0, 0, 0])]) (L := [(-2), nI 3, (-42), (-3), nI 50, (-62), nI 3, 0, 0]) rfl (by decide) rfl (fun _ hx => tl_ne hx))) ?_
  refine v_hq (CT_u2 (F := FH) (T := [(25, [(-2), nI 3, (-42), (-3), nI 50, (-62), nI 3, (-42), 0]), (24, [0, nI 7, 0]), (25, [(-2), nI 3, (-42), (-3), nI 50, (-62), nI 3, 0, 0]), (24, [0, nI 6, 0]), (25, [(-2), nI 3, (-42), (-3), nI 50, (-62), 0, 0, 0]), (24, [0, nI 5, 0]), (25, [(-2), nI 3, (-42), (-3), nI 50, 0, 0, 0, 0]), (24, [0, nI 4, 0]), (25, [(-2), nI 3, (-42), (-3), 0, 0, 0, 0, 0]), (24, [0, nI 3, 0]), (25, [(-2), nI 3, (-42), 0, 0, 0, 0, 0, 0]), (24, [0, nI 2, 0]), (25, [(-2), nI 3, 0, 0, 0, 0, 0, 0, 0]), (24, [0, nI 1, 0]), (25, [(-2), 0, 0, 0, 0, 0, 0, 0, 0]), (24, [0, nI 0, 0]), (25, [0, 0, 0, 0, 0, 0, 0, 0, 0]), (24, [0, 0, 0])]) (T' := [(24, [0, nI 8, 0]), (25, [(-2), nI 3, (-42), (-3), nI 50, (-62), nI 3, (-42), 0]), (24, [0, nI 7, 0]), (25, [(-2), nI 3, (-42), (-3), nI 50, (-62), nI 3, 0, 0]), (24, [0, nI 6, 0]), (25, [(-2), nI 3, (-42), (-3), nI 50, (-62), 0, 0, 0]), (24, [0, nI 5, 0]), (25, [(-2), nI 3, (-42), (-3), nI 50, 0, 0, 0, 0]), (24, [0, nI 4, 0]), (25, [(-2), nI 3, (-42), (-3), 0, 0, 0, 0, 0]), (24, [0, nI 3, 0]), (25, [(-2), nI 3, (-42), 0, 0, 0, 0, 0, 0]), (24, [0, nI 2, 0]), (25, [(-2), nI 3, 0, 0, 0, 0, 0, 0, 0]), (24, [0, nI 1, 0]), (25, [(-2), 0, 0, 0, 0, 0, 0, 0, 0]), (24, [0, nI 0, 0]), (25, [0, 0, 0, 0, 0, 0, 0, 0, 0]), (24, [0, 0, 0])]) (L := [0, nI 7, 0]) rfl (by decide) rfl (fun _ hx => tl_ne hx)) ?_
  refine v_iincN (lv2 := [(2, .int (nI 8)), (0, .ref 24), (1, .ref (1000 + 5))]) K 1 dX5_init_40 rfl rfl (by decide) rfl ?_
  refine v_goto (tgt := 27) K dX5_init_43 rfl ?_
  refine v_iload_n K dX5_init_27 rfl ?_
  refine v_aload_n K dX5_init_28 rfl ?_
  refine v_slen (j := 5) K (by decide) dX5_init_29 ?_
  refine v_top (y := nI 9) rfl ?_
  refine v_icmpN_ge (tgt := 46) K (by decide) (by decide) dX5_init_30 rfl (fun c => absurd c (by decide)) (fun _ => ?_)
  refine v_aload_n K dX5_init_33 rfl ?_
  refine v_aload_n K dX5_init_34 rfl ?_
  refine v_iload_n K dX5_init_35 rfl ?_
  refine v_sald (j := 5) (x := (-43)) K (by decide) (by decide) (by decide) dX5_init_36 ?_
  refine v_callVc (As := [.int ((-43))]) K (c_addM (n := 27) (g := (CT 0 GL 24 27 [(24, [26, 0, 27])] g0)) (CT 0 FH 24 27 [(24, [0, nI 8, 0]), (25, [(-2), nI 3, (-42), (-3), nI 50, (-62), nI 3, (-42), 0]), (24, [0, nI 7, 0]), (25, [(-2), nI 3, (-42), (-3), nI 50, (-62), nI 3, 0, 0]), (24, [0, nI 6, 0]), (25, [(-2), nI 3, (-42), (-3), nI 50, (-62), 0, 0, 0]), (24, [0, nI 5, 0]), (25, [(-2), nI 3, (-42), (-3), nI 50, 0, 0, 0, 0]), (24, [0, nI 4, 0]), (25, [(-2), nI 3, (-42), (-3), 0, 0, 0, 0, 0]), (24, [0, nI 3, 0]), (25, [(-2), nI 3, (-42), 0, 0, 0, 0, 0, 0]), (24, [0, nI 2, 0]), (25, [(-2), nI 3, 0, 0, 0, 0, 0, 0, 0]), (24, [0, nI 1, 0]), (25, [(-2), 0, 0, 0, 0, 0, 0, 0, 0]), (24, [0, nI 0, 0]), (25, [0, 0, 0, 0, 0, 0, 0, 0, 0]), (24, [0, 0, 0])] h0) 24 25 8 ((-43)) sh_24 (by decide) sh_25 (by decide) ((congrFun (CT_at (z := 0) (F := GL) (b := 24) (hi := 27) (f := g0) (T := [(24, [26, 0, 27])]) (L := [26, 0, 27]) rfl) 0).trans rfl) ((congrFun (CT_at (z := 0) (F := FH) (b := 24) (hi := 27) (f := h0) (T := [(24, [0, nI 8, 0]), (25, [(-2), nI 3, (-42), (-3), nI 50, (-62), nI 3, (-42), 0]), (24, [0, nI 7, 0]), (25, [(-2), nI 3, (-42), (-3), nI 50, (-62), nI 3, 0, 0]), (24, [0, nI 6, 0]), (25, [(-2), nI 3, (-42), (-3), nI 50, (-62), 0, 0, 0]), (24, [0, nI 5, 0]), (25, [(-2), nI 3, (-42), (-3), nI 50, 0, 0, 0, 0]), (24, [0, nI 4, 0]), (25, [(-2), nI 3, (-42), (-3), 0, 0, 0, 0, 0]), (24, [0, nI 3, 0]), (25, [(-2), nI 3, (-42), 0, 0, 0, 0, 0, 0]), (24, [0, nI 2, 0]), (25, [(-2), nI 3, 0, 0, 0, 0, 0, 0, 0]), (24, [0, nI 1, 0]), (25, [(-2), 0, 0, 0, 0, 0, 0, 0, 0]), (24, [0, nI 0, 0]), (25, [0, 0, 0, 0, 0, 0, 0, 0, 0]), (24, [0, 0, 0])]) (L := [0, nI 8, 0]) rfl) 1).trans rfl) (by decide)) lX5_22 ck_X5 rfl sh_24 (by decide) rfl ⟨by decide, by decide⟩ ⟨by decide, by decide⟩ (by decide) dX5_init_37 (fun r hh hp => ?_) rfl
  obtain ⟨rfl, rfl⟩ := hp
  refine v_none ?_
  refine v_hq (congrArg (fun h => u2 h 24 1 (nI (8 + 1))) (CT_u2 (F := FH) (T := [(24, [0, nI 8, 0]), (25, [(-2), nI 3, (-42), (-3), nI 50, (-62), nI 3, (-42), 0]), (24, [0, nI 7, 0]), (25, [(-2), nI 3, (-42), (-3), nI 50, (-62), nI 3, 0, 0]), (24, [0, nI 6, 0]), (25, [(-2), nI 3, (-42), (-3), nI 50, (-62), 0, 0, 0]), (24, [0, nI 5, 0]), (25, [(-2), nI 3, (-42), (-3), nI 50, 0, 0, 0, 0]), (24, [0, nI 4, 0]), (25, [(-2), nI 3, (-42), (-3), 0, 0, 0, 0, 0]), (24, [0, nI 3, 0]), (25, [(-2), nI 3, (-42), 0, 0, 0, 0, 0, 0]), (24, [0, nI 2, 0]), (25, [(-2), nI 3, 0, 0, 0, 0, 0, 0, 0]), (24, [0, nI 1, 0]), (25, [(-2), 0, 0, 0, 0, 0, 0, 0, 0]), (24, [0, nI 0, 0]), (25, [0, 0, 0, 0, 0, 0, 0, 0, 0]), (24, [0, 0, 0])]) (T' := [(25, [(-2), nI 3, (-42), (-3), nI 50, (-62), nI 3, (-42), (-43)]), (24, [0, nI 8, 0]), (25, [(-2), nI 3, (-42), (-3), nI 50, (-62), nI 3, (-42), 0]), (24, [0, nI 7, 0]), (25, [(-2), nI 3, (-42), (-3), nI 50, (-62), nI 3, 0, 0]), (24, [0, nI 6, 0]), (25, [(-2), nI 3, (-42), (-3), nI 50, (-62), 0, 0, 0]), (24, [0, nI 5, 0]), (25, [(-2), nI 3, (-42), (-3), nI 50, 0, 0, 0, 0]), (24, [0, nI 4, 0]), (25, [(-2), nI 3, (-42), (-3), 0, 0, 0, 0, 0]), (24, [0, nI 3, 0]), (25, [(-2), nI 3, (-42), 0, 0, 0, 0, 0, 0]), (24, [0, nI 2, 0]), (25, [(-2), nI 3, 0, 0, 0, 0, 0, 0, 0]), (24, [0, nI 1, 0]), (25, [(-2), 0, 0, 0, 0, 0, 0, 0, 0]), (24, [0, nI 0, 0]), (25, [0, 0, 0, 0, 0, 0, 0, 0, 0]), (24, [0, 0, 0])]) (L := [(-2), nI 3, (-42), (-3), nI 50, (-62), nI 3, (-42), 0]) rfl (by decide) rfl (fun _ hx => tl_ne hx))) ?_
  refine v_hq (CT_u2 (F := FH) (T := [(25, [(-2), nI 3, (-42), (-3), nI 50, (-62), nI 3, (-42), (-43)]), (24, [0, nI 8, 0]), (25, [(-2), nI 3, (-42), (-3), nI 50, (-62), nI 3, (-42), 0]), (24, [0, nI 7, 0]), (25, [(-2), nI 3, (-42), (-3), nI 50, (-62), nI 3, 0, 0]), (24, [0, nI 6, 0]), (25, [(-2), nI 3, (-42), (-3), nI 50, (-62), 0, 0, 0]), (24, [0, nI 5, 0]), (25, [(-2), nI 3, (-42), (-3), nI 50, 0, 0, 0, 0]), (24, [0, nI 4, 0]), (25, [(-2), nI 3, (-42), (-3), 0, 0, 0, 0, 0]), (24, [0, nI 3, 0]), (25, [(-2), nI 3, (-42), 0, 0, 0, 0, 0, 0]), (24, [0, nI 2, 0]), (25, [(-2), nI 3, 0, 0, 0, 0, 0, 0, 0]), (24, [0, nI 1, 0]), (25, [(-2), 0, 0, 0, 0, 0, 0, 0, 0]), (24, [0, nI 0, 0]), (25, [0, 0, 0, 0, 0, 0, 0, 0, 0]), (24, [0, 0, 0])]) (T' := [(24, [0, nI 9, 0]), (25, [(-2), nI 3, (-42), (-3), nI 50, (-62), nI 3, (-42), (-43)]), (24, [0, nI 8, 0]), (25, [(-2), nI 3, (-42), (-3), nI 50, (-62), nI 3, (-42), 0]), (24, [0, nI 7, 0]), (25, [(-2), nI 3, (-42), (-3), nI 50, (-62), nI 3, 0, 0]), (24, [0, nI 6, 0]), (25, [(-2), nI 3, (-42), (-3), nI 50, (-62), 0, 0, 0]), (24, [0, nI 5, 0]), (25, [(-2), nI 3, (-42), (-3), nI 50, 0, 0, 0, 0]), (24, [0, nI 4, 0]), (25, [(-2), nI 3, (-42), (-3), 0, 0, 0, 0, 0]), (24, [0, nI 3, 0]), (25, [(-2), nI 3, (-42), 0, 0, 0, 0, 0, 0]), (24, [0, nI 2, 0]), (25, [(-2), nI 3, 0, 0, 0, 0, 0, 0, 0]), (24, [0, nI 1, 0]), (25, [(-2), 0, 0, 0, 0, 0, 0, 0, 0]), (24, [0, nI 0, 0]), (25, [0, 0, 0, 0, 0, 0, 0, 0, 0]), (24, [0, 0, 0])]) (L := [0, nI 8, 0]) rfl (by decide) rfl (fun _ hx => tl_ne hx)) ?_
  refine v_iincN (lv2 := [(2, .int (nI 9)), (0, .ref 24), (1, .ref (1000 + 5))]) K 1 dX5_init_40 rfl rfl (by decide) rfl ?_
  refine v_goto (tgt := 27) K dX5_init_43 rfl ?_
  refine v_iload_n K dX5_init_27 rfl ?_
  refine v_aload_n K dX5_init_28 rfl ?_
  refine v_slen (j := 5) K (by decide) dX5_init_29 ?_
  refine v_top (y := nI 9) rfl ?_
  refine v_icmpN_ge (tgt := 46) K (by decide) (by decide) dX5_init_30 rfl (fun _ => ?_) (fun c => absurd c (by decide))
  exact v_vretA K dX5_init_46 B3 (CT_off (by decide) (by decide)) (CT_fin tN_eq (fun _ => rfl) (by decide +kernel) rfl) (W0.ct (by decide) (by decide) (by decide) (by decide +kernel) (by decide +kernel)) (FF_fin (by decide) (by decide) (by decide +kernel) rfl)

theorem cA_X5_init_27 {l : Launch} {g0 : Gm} {h0 : Mm} (A0 : MK 27 28 g0 h0) : ConA l yX5_init cX5_init 3 1 21 2 100 28 27 30 g0 h0 [.ref 27, .ref (1000 + 6)] (fun h2 => h2 = FF 27 30 h0) := by
  have W0 := A0.1
  have hz := A0.2.2.2.2
  refine ConA.ofV (own := "FoxRounds$Text") (nm := "<init>") rfl rfl (by decide) (by decide) ?_
  intro κ ρ hkl K
  subst hkl
  show V κ (QMA κ 28 27 30 ρ g0 (fun h2 => h2 = FF 27 30 h0) 2 100) 3 (28, ρ, g0, 0, 0) h0 0 [(0, .ref 27), (1, .ref (1000 + 6))] []
  refine v_sw (n := 28) (c := 0) (z := 0) (g' := (CT 0 GL 27 28 [(27, [0, 0, 0])] g0)) (h' := (CT 0 FH 27 28 [(27, [0, 0, 0])] h0)) (A0.s1 (by decide)) (A0.s2 (by decide)) ?_
  refine v_aload_n K dX5_init_0 rfl ?_
  refine v_objInit K oi_X5 oi_m oi_c ⟨by decide, by decide⟩ (by decide) dX5_init_1 ?_
  refine v_aload_n K dX5_init_4 rfl ?_
  refine v_bipushN K 50 rfl dX5_init_5 ?_
  refine v_newa K pl_28 sh_28 (CT_new (by decide) (hz 28 (by decide)).2) (Or.inl ⟨rfl, rfl⟩) (fun k => congrFun (CT_new (by decide) (hz 28 (by decide)).1) k) (W0.ct (by decide) (by decide) (by decide) (by decide +kernel) (by decide +kernel)) (by decide) rfl rfl wa_int ⟨by decide, by decide⟩ dX5_init_7 (fun ρ1 A1 => ?_)
  have B1 := AGR.t (AGR.r (n := 28) (ρ := ρ)) A1 (by decide)
  refine v_sw (n := 29) (c := 1) (z := 50) (g' := (CT 0 GL 27 29 [(27, [0, 0, 0])] g0)) (h' := (CT 0 FH 27 29 [(28, [0, 0, 0, 0, 0]), (27, [0, 0, 0])] h0)) (CT_grow (by decide) (by decide) (by decide) (fun a h => (hz a (Nat.le_trans (by decide) h)).1) (GLz (by decide +kernel))) (CT_push (by decide) (hz 28 (by decide)).2 (zrI (by decide))) ?_
  have cs2 := CT_set (z := 0) (F := GL) (b := 27) (hi := 29) (f := g0) (T := [(27, [0, 0, 0])]) (T' := [(27, [29, 0, 0])]) (L := [0, 0, 0]) (k := 0) (v := 28 + 1) rfl (by decide) rfl (fun _ hx => (tl_ne hx).trans (tl_ne hx).symm)
  refine v_putg (g' := (CT 0 GL 27 29 [(27, [29, 0, 0])] g0)) K pX5_9 (fun _ => rfl) (Or.inr ⟨_, rfl⟩) sh_27 (show 27 < 29 by decide) cs2.1 (fun j _ hj => cs2.2.1 j hj) (fun x _ hx => cs2.2.2 x hx) dX5_init_9 ?_
  refine v_aload_n K dX5_init_12 rfl ?_
  refine v_iconstN K 0 rfl dX5_init_13 ?_
  refine v_puti K pX5_15 sh_27 (show 27 < 29 by decide) dX5_init_14 ?_
  refine v_hq (CT_u2 (F := FH) (T := [(28, [0, 0, 0, 0, 0]), (27, [0, 0, 0])]) (T' := [(27, [0, nI 0, 0]), (28, [0, 0, 0, 0, 0]), (27, [0, 0, 0])]) (L := [0, 0, 0]) rfl (by decide) rfl (fun _ hx => tl_ne hx)) ?_
  refine v_aload_n K dX5_init_17 rfl ?_
  refine v_bipushN K 50 rfl dX5_init_18 ?_
  refine v_newa K pl_29 sh_29 (CT_new (by decide) (hz 29 (by decide)).2) (Or.inl ⟨rfl, rfl⟩) (fun k => congrFun (CT_new (by decide) (hz 29 (by decide)).1) k) (W0.ct (by decide) (by decide) (by decide) (by decide +kernel) (by decide +kernel)) (by decide) rfl rfl wa_int ⟨by decide, by decide⟩ dX5_init_20 (fun ρ3 A3 => ?_)
  have B3 := AGR.t B1 A3 (by decide)
  refine v_sw (n := 30) (c := 2) (z := 100) (g' := (CT 0 GL 27 30 [(27, [29, 0, 0])] g0)) (h' := (CT 0 FH 27 30 [(27, [0, nI 0, 0]), (28, [0, 0, 0, 0, 0]), (27, [0, 0, 0])] h0)) (CT_grow (by decide) (by decide) (by decide) (fun a h => (hz a (Nat.le_trans (by decide) h)).1) (GLz (by decide +kernel))) (CT_grow (by decide) (by decide) (by decide) (fun a h => (hz a (Nat.le_trans (by decide) h)).2) (FHz (by decide +kernel))) ?_
  have cs4 := CT_set (z := 0) (F := GL) (b := 27) (hi := 30) (f := g0) (T := [(27, [29, 0, 0])]) (T' := [(27, [29, 0, 30])]) (L := [29, 0, 0]) (k := 2) (v := 29 + 1) rfl (by decide) rfl (fun _ hx => (tl_ne hx).trans (tl_ne hx).symm)
  refine v_putg (g' := (CT 0 GL 27 30 [(27, [29, 0, 30])] g0)) K pX5_19 (fun _ => rfl) (Or.inr ⟨_, rfl⟩) sh_27 (show 27 < 30 by decide) cs4.1 (fun j _ hj => cs4.2.1 j hj) (fun x _ hx => cs4.2.2 x hx) dX5_init_22 ?_
  refine v_iconstN K 0 rfl dX5_init_25 ?_
  refine v_istore_n (lv2 := [(2, .int (nI 0)), (0, .ref 27), (1, .ref (1000 + 6))]) K dX5_init_26 (by decide) rfl ?_
  refine v_iload_n K dX5_init_27 rfl ?_
  refine v_aload_n K dX5_init_28 rfl ?_
  refine v_slen (j := 6) K (by decide) dX5_init_29 ?_
  refine v_top (y := nI 5) rfl ?_
  refine v_icmpN_ge (tgt := 46) K (by decide) (by decide) dX5_init_30 rfl (fun c => absurd c (by decide)) (fun _ => ?_)
  refine v_aload_n K dX5_init_33 rfl ?_
  refine v_aload_n K dX5_init_34 rfl ?_
  refine v_iload_n K dX5_init_35 rfl ?_
  refine v_sald (j := 6) (x := (-1)) K (by decide) (by decide) (by decide) dX5_init_36 ?_
  refine v_callVc (As := [.int ((-1))]) K (c_addM (n := 30) (g := (CT 0 GL 27 30 [(27, [29, 0, 30])] g0)) (CT 0 FH 27 30 [(27, [0, nI 0, 0]), (28, [0, 0, 0, 0, 0]), (27, [0, 0, 0])] h0) 27 28 0 ((-1)) sh_27 (by decide) sh_28 (by decide) ((congrFun (CT_at (z := 0) (F := GL) (b := 27) (hi := 30) (f := g0) (T := [(27, [29, 0, 30])]) (L := [29, 0, 30]) rfl) 0).trans rfl) ((congrFun (CT_at (z := 0) (F := FH) (b := 27) (hi := 30) (f := h0) (T := [(27, [0, nI 0, 0]), (28, [0, 0, 0, 0, 0]), (27, [0, 0, 0])]) (L := [0, nI 0, 0]) rfl) 1).trans rfl) (by decide)) lX5_22 ck_X5 rfl sh_27 (by decide) rfl ⟨by decide, by decide⟩ ⟨by decide, by decide⟩ (by decide) dX5_init_37 (fun r hh hp => ?_) rfl
  obtain ⟨rfl, rfl⟩ := hp
  refine v_none ?_
  refine v_hq (congrArg (fun h => u2 h 27 1 (nI (0 + 1))) (CT_u2 (F := FH) (T := [(27, [0, nI 0, 0]), (28, [0, 0, 0, 0, 0]), (27, [0, 0, 0])]) (T' := [(28, [(-1), 0, 0, 0, 0]), (27, [0, nI 0, 0]), (28, [0, 0, 0, 0, 0]), (27, [0, 0, 0])]) (L := [0, 0, 0, 0, 0]) rfl (by decide) rfl (fun _ hx => tl_ne hx))) ?_
  refine v_hq (CT_u2 (F := FH) (T := [(28, [(-1), 0, 0, 0, 0]), (27, [0, nI 0, 0]), (28, [0, 0, 0, 0, 0]), (27, [0, 0, 0])]) (T' := [(27, [0, nI 1, 0]), (28, [(-1), 0, 0, 0, 0]), (27, [0, nI 0, 0]), (28, [0, 0, 0, 0, 0]), (27, [0, 0, 0])]) (L := [0, nI 0, 0]) rfl (by decide) rfl (fun _ hx => tl_ne hx)) ?_
  refine v_iincN (lv2 := [(2, .int (nI 1)), (0, .ref 27), (1, .ref (1000 + 6))]) K 1 dX5_init_40 rfl rfl (by decide) rfl ?_
  refine v_goto (tgt := 27) K dX5_init_43 rfl ?_
  refine v_iload_n K dX5_init_27 rfl ?_
  refine v_aload_n K dX5_init_28 rfl ?_
  refine v_slen (j := 6) K (by decide) dX5_init_29 ?_
  refine v_top (y := nI 5) rfl ?_
  refine v_icmpN_ge (tgt := 46) K (by decide) (by decide) dX5_init_30 rfl (fun c => absurd c (by decide)) (fun _ => ?_)
  refine v_aload_n K dX5_init_33 rfl ?_
  refine v_aload_n K dX5_init_34 rfl ?_
  refine v_iload_n K dX5_init_35 rfl ?_
  refine v_sald (j := 6) (x := (-1)) K (by decide) (by decide) (by decide) dX5_init_36 ?_
  refine v_callVc (As := [.int ((-1))]) K (c_addM (n := 30) (g := (CT 0 GL 27 30 [(27, [29, 0, 30])] g0)) (CT 0 FH 27 30 [(27, [0, nI 1, 0]), (28, [(-1), 0, 0, 0, 0]), (27, [0, nI 0, 0]), (28, [0, 0, 0, 0, 0]), (27, [0, 0, 0])] h0) 27 28 1 ((-1)) sh_27 (by decide) sh_28 (by decide) ((congrFun (CT_at (z := 0) (F := GL) (b := 27) (hi := 30) (f := g0) (T := [(27, [29, 0, 30])]) (L := [29, 0, 30]) rfl) 0).trans rfl) ((congrFun (CT_at (z := 0) (F := FH) (b := 27) (hi := 30) (f := h0) (T := [(27, [0, nI 1, 0]), (28, [(-1), 0, 0, 0, 0]), (27, [0, nI 0, 0]), (28, [0, 0, 0, 0, 0]), (27, [0, 0, 0])]) (L := [0, nI 1, 0]) rfl) 1).trans rfl) (by decide)) lX5_22 ck_X5 rfl sh_27 (by decide) rfl ⟨by decide, by decide⟩ ⟨by decide, by decide⟩ (by decide) dX5_init_37 (fun r hh hp => ?_) rfl
  obtain ⟨rfl, rfl⟩ := hp
  refine v_none ?_
  refine v_hq (congrArg (fun h => u2 h 27 1 (nI (1 + 1))) (CT_u2 (F := FH) (T := [(27, [0, nI 1, 0]), (28, [(-1), 0, 0, 0, 0]), (27, [0, nI 0, 0]), (28, [0, 0, 0, 0, 0]), (27, [0, 0, 0])]) (T' := [(28, [(-1), (-1), 0, 0, 0]), (27, [0, nI 1, 0]), (28, [(-1), 0, 0, 0, 0]), (27, [0, nI 0, 0]), (28, [0, 0, 0, 0, 0]), (27, [0, 0, 0])]) (L := [(-1), 0, 0, 0, 0]) rfl (by decide) rfl (fun _ hx => tl_ne hx))) ?_
  refine v_hq (CT_u2 (F := FH) (T := [(28, [(-1), (-1), 0, 0, 0]), (27, [0, nI 1, 0]), (28, [(-1), 0, 0, 0, 0]), (27, [0, nI 0, 0]), (28, [0, 0, 0, 0, 0]), (27, [0, 0, 0])]) (T' := [(27, [0, nI 2, 0]), (28, [(-1), (-1), 0, 0, 0]), (27, [0, nI 1, 0]), (28, [(-1), 0, 0, 0, 0]), (27, [0, nI 0, 0]), (28, [0, 0, 0, 0, 0]), (27, [0, 0, 0])]) (L := [0, nI 1, 0]) rfl (by decide) rfl (fun _ hx => tl_ne hx)) ?_
  refine v_iincN (lv2 := [(2, .int (nI 2)), (0, .ref 27), (1, .ref (1000 + 6))]) K 1 dX5_init_40 rfl rfl (by decide) rfl ?_
  refine v_goto (tgt := 27) K dX5_init_43 rfl ?_
  refine v_iload_n K dX5_init_27 rfl ?_
  refine v_aload_n K dX5_init_28 rfl ?_
  refine v_slen (j := 6) K (by decide) dX5_init_29 ?_
  refine v_top (y := nI 5) rfl ?_
  refine v_icmpN_ge (tgt := 46) K (by decide) (by decide) dX5_init_30 rfl (fun c => absurd c (by decide)) (fun _ => ?_)
  refine v_aload_n K dX5_init_33 rfl ?_
  refine v_aload_n K dX5_init_34 rfl ?_
  refine v_iload_n K dX5_init_35 rfl ?_
  refine v_sald (j := 6) (x := nI 30) K (by decide) (by decide) (by decide) dX5_init_36 ?_
  refine v_callVc (As := [.int (nI 30)]) K (c_addM (n := 30) (g := (CT 0 GL 27 30 [(27, [29, 0, 30])] g0)) (CT 0 FH 27 30 [(27, [0, nI 2, 0]), (28, [(-1), (-1), 0, 0, 0]), (27, [0, nI 1, 0]), (28, [(-1), 0, 0, 0, 0]), (27, [0, nI 0, 0]), (28, [0, 0, 0, 0, 0]), (27, [0, 0, 0])] h0) 27 28 2 (nI 30) sh_27 (by decide) sh_28 (by decide) ((congrFun (CT_at (z := 0) (F := GL) (b := 27) (hi := 30) (f := g0) (T := [(27, [29, 0, 30])]) (L := [29, 0, 30]) rfl) 0).trans rfl) ((congrFun (CT_at (z := 0) (F := FH) (b := 27) (hi := 30) (f := h0) (T := [(27, [0, nI 2, 0]), (28, [(-1), (-1), 0, 0, 0]), (27, [0, nI 1, 0]), (28, [(-1), 0, 0, 0, 0]), (27, [0, nI 0, 0]), (28, [0, 0, 0, 0, 0]), (27, [0, 0, 0])]) (L := [0, nI 2, 0]) rfl) 1).trans rfl) (by decide)) lX5_22 ck_X5 rfl sh_27 (by decide) rfl ⟨by decide, by decide⟩ ⟨by decide, by decide⟩ (by decide) dX5_init_37 (fun r hh hp => ?_) rfl
  obtain ⟨rfl, rfl⟩ := hp
  refine v_none ?_
  refine v_hq (congrArg (fun h => u2 h 27 1 (nI (2 + 1))) (CT_u2 (F := FH) (T := [(27, [0, nI 2, 0]), (28, [(-1), (-1), 0, 0, 0]), (27, [0, nI 1, 0]), (28, [(-1), 0, 0, 0, 0]), (27, [0, nI 0, 0]), (28, [0, 0, 0, 0, 0]), (27, [0, 0, 0])]) (T' := [(28, [(-1), (-1), nI 30, 0, 0]), (27, [0, nI 2, 0]), (28, [(-1), (-1), 0, 0, 0]), (27, [0, nI 1, 0]), (28, [(-1), 0, 0, 0, 0]), (27, [0, nI 0, 0]), (28, [0, 0, 0, 0, 0]), (27, [0, 0, 0])]) (L := [(-1), (-1), 0, 0, 0]) rfl (by decide) rfl (fun _ hx => tl_ne hx))) ?_
  refine v_hq (CT_u2 (F := FH) (T := [(28, [(-1), (-1), nI 30, 0, 0]), (27, [0, nI 2, 0]), (28, [(-1), (-1), 0, 0, 0]), (27, [0, nI 1, 0]), (28, [(-1), 0, 0, 0, 0]), (27, [0, nI 0, 0]), (28, [0, 0, 0, 0, 0]), (27, [0, 0, 0])]) (T' := [(27, [0, nI 3, 0]), (28, [(-1), (-1), nI 30, 0, 0]), (27, [0, nI 2, 0]), (28, [(-1), (-1), 0, 0, 0]), (27, [0, nI 1, 0]), (28, [(-1), 0, 0, 0, 0]), (27, [0, nI 0, 0]), (28, [0, 0, 0, 0, 0]), (27, [0, 0, 0])]) (L := [0, nI 2, 0]) rfl (by decide) rfl (fun _ hx => tl_ne hx)) ?_
  refine v_iincN (lv2 := [(2, .int (nI 3)), (0, .ref 27), (1, .ref (1000 + 6))]) K 1 dX5_init_40 rfl rfl (by decide) rfl ?_
  refine v_goto (tgt := 27) K dX5_init_43 rfl ?_
  refine v_iload_n K dX5_init_27 rfl ?_
  refine v_aload_n K dX5_init_28 rfl ?_
  refine v_slen (j := 6) K (by decide) dX5_init_29 ?_
  refine v_top (y := nI 5) rfl ?_
  refine v_icmpN_ge (tgt := 46) K (by decide) (by decide) dX5_init_30 rfl (fun c => absurd c (by decide)) (fun _ => ?_)
  refine v_aload_n K dX5_init_33 rfl ?_
  refine v_aload_n K dX5_init_34 rfl ?_
  refine v_iload_n K dX5_init_35 rfl ?_
  refine v_sald (j := 6) (x := (-47)) K (by decide) (by decide) (by decide) dX5_init_36 ?_
  refine v_callVc (As := [.int ((-47))]) K (c_addM (n := 30) (g := (CT 0 GL 27 30 [(27, [29, 0, 30])] g0)) (CT 0 FH 27 30 [(27, [0, nI 3, 0]), (28, [(-1), (-1), nI 30, 0, 0]), (27, [0, nI 2, 0]), (28, [(-1), (-1), 0, 0, 0]), (27, [0, nI 1, 0]), (28, [(-1), 0, 0, 0, 0]), (27, [0, nI 0, 0]), (28, [0, 0, 0, 0, 0]), (27, [0, 0, 0])] h0) 27 28 3 ((-47)) sh_27 (by decide) sh_28 (by decide) ((congrFun (CT_at (z := 0) (F := GL) (b := 27) (hi := 30) (f := g0) (T := [(27, [29, 0, 30])]) (L := [29, 0, 30]) rfl) 0).trans rfl) ((congrFun (CT_at (z := 0) (F := FH) (b := 27) (hi := 30) (f := h0) (T := [(27, [0, nI 3, 0]), (28, [(-1), (-1), nI 30, 0, 0]), (27, [0, nI 2, 0]), (28, [(-1), (-1), 0, 0, 0]), (27, [0, nI 1, 0]), (28, [(-1), 0, 0, 0, 0]), (27, [0, nI 0, 0]), (28, [0, 0, 0, 0, 0]), (27, [0, 0, 0])]) (L := [0, nI 3, 0]) rfl) 1).trans rfl) (by decide)) lX5_22 ck_X5 rfl sh_27 (by decide) rfl ⟨by decide, by decide⟩ ⟨by decide, by decide⟩ (by decide) dX5_init_37 (fun r hh hp => ?_) rfl
  obtain ⟨rfl, rfl⟩ := hp
  refine v_none ?_
  refine v_hq (congrArg (fun h => u2 h 27 1 (nI (3 + 1))) (CT_u2 (F := FH) (T := [(27, [0, nI 3, 0]), (28, [(-1), (-1), nI 30, 0, 0]), (27, [0, nI 2, 0]), (28, [(-1), (-1), 0, 0, 0]), (27, [0, nI 1, 0]), (28, [(-1), 0, 0, 0, 0]), (27, [0, nI 0, 0]), (28, [0, 0, 0, 0, 0]), (27, [0, 0, 0])]) (T' := [(28, [(-1), (-1), nI 30, (-47), 0]), (27, [0, nI 3, 0]), (28, [(-1), (-1), nI 30, 0, 0]), (27, [0, nI 2, 0]), (28, [(-1), (-1), 0, 0, 0]), (27, [0, nI 1, 0]), (28, [(-1), 0, 0, 0, 0]), (27, [0, nI 0, 0]), (28, [0, 0, 0, 0, 0]), (27, [0, 0, 0])]) (L := [(-1), (-1), nI 30, 0, 0]) rfl (by decide) rfl (fun _ hx => tl_ne hx))) ?_
  refine v_hq (CT_u2 (F := FH) (T := [(28, [(-1), (-1), nI 30, (-47), 0]), (27, [0, nI 3, 0]), (28, [(-1), (-1), nI 30, 0, 0]), (27, [0, nI 2, 0]), (28, [(-1), (-1), 0, 0, 0]), (27, [0, nI 1, 0]), (28, [(-1), 0, 0, 0, 0]), (27, [0, nI 0, 0]), (28, [0, 0, 0, 0, 0]), (27, [0, 0, 0])]) (T' := [(27, [0, nI 4, 0]), (28, [(-1), (-1), nI 30, (-47), 0]), (27, [0, nI 3, 0]), (28, [(-1), (-1), nI 30, 0, 0]), (27, [0, nI 2, 0]), (28, [(-1), (-1), 0, 0, 0]), (27, [0, nI 1, 0]), (28, [(-1), 0, 0, 0, 0]), (27, [0, nI 0, 0]), (28, [0, 0, 0, 0, 0]), (27, [0, 0, 0])]) (L := [0, nI 3, 0]) rfl (by decide) rfl (fun _ hx => tl_ne hx)) ?_
  refine v_iincN (lv2 := [(2, .int (nI 4)), (0, .ref 27), (1, .ref (1000 + 6))]) K 1 dX5_init_40 rfl rfl (by decide) rfl ?_
  refine v_goto (tgt := 27) K dX5_init_43 rfl ?_
  refine v_iload_n K dX5_init_27 rfl ?_
  refine v_aload_n K dX5_init_28 rfl ?_
  refine v_slen (j := 6) K (by decide) dX5_init_29 ?_
  refine v_top (y := nI 5) rfl ?_
  refine v_icmpN_ge (tgt := 46) K (by decide) (by decide) dX5_init_30 rfl (fun c => absurd c (by decide)) (fun _ => ?_)
  refine v_aload_n K dX5_init_33 rfl ?_
  refine v_aload_n K dX5_init_34 rfl ?_
  refine v_iload_n K dX5_init_35 rfl ?_
  refine v_sald (j := 6) (x := (-45)) K (by decide) (by decide) (by decide) dX5_init_36 ?_
  refine v_callVc (As := [.int ((-45))]) K (c_addM (n := 30) (g := (CT 0 GL 27 30 [(27, [29, 0, 30])] g0)) (CT 0 FH 27 30 [(27, [0, nI 4, 0]), (28, [(-1), (-1), nI 30, (-47), 0]), (27, [0, nI 3, 0]), (28, [(-1), (-1), nI 30, 0, 0]), (27, [0, nI 2, 0]), (28, [(-1), (-1), 0, 0, 0]), (27, [0, nI 1, 0]), (28, [(-1), 0, 0, 0, 0]), (27, [0, nI 0, 0]), (28, [0, 0, 0, 0, 0]), (27, [0, 0, 0])] h0) 27 28 4 ((-45)) sh_27 (by decide) sh_28 (by decide) ((congrFun (CT_at (z := 0) (F := GL) (b := 27) (hi := 30) (f := g0) (T := [(27, [29, 0, 30])]) (L := [29, 0, 30]) rfl) 0).trans rfl) ((congrFun (CT_at (z := 0) (F := FH) (b := 27) (hi := 30) (f := h0) (T := [(27, [0, nI 4, 0]), (28, [(-1), (-1), nI 30, (-47), 0]), (27, [0, nI 3, 0]), (28, [(-1), (-1), nI 30, 0, 0]), (27, [0, nI 2, 0]), (28, [(-1), (-1), 0, 0, 0]), (27, [0, nI 1, 0]), (28, [(-1), 0, 0, 0, 0]), (27, [0, nI 0, 0]), (28, [0, 0, 0, 0, 0]), (27, [0, 0, 0])]) (L := [0, nI 4, 0]) rfl) 1).trans rfl) (by decide)) lX5_22 ck_X5 rfl sh_27 (by decide) rfl ⟨by decide, by decide⟩ ⟨by decide, by decide⟩ (by decide) dX5_init_37 (fun r hh hp => ?_) rfl
  obtain ⟨rfl, rfl⟩ := hp
  refine v_none ?_
  refine v_hq (congrArg (fun h => u2 h 27 1 (nI (4 + 1))) (CT_u2 (F := FH) (T := [(27, [0, nI 4, 0]), (28, [(-1), (-1), nI 30, (-47), 0]), (27, [0, nI 3, 0]), (28, [(-1), (-1), nI 30, 0, 0]), (27, [0, nI 2, 0]), (28, [(-1), (-1), 0, 0, 0]), (27, [0, nI 1, 0]), (28, [(-1), 0, 0, 0, 0]), (27, [0, nI 0, 0]), (28, [0, 0, 0, 0, 0]), (27, [0, 0, 0])]) (T' := [(28, [(-1), (-1), nI 30, (-47), (-45)]), (27, [0, nI 4, 0]), (28, [(-1), (-1), nI 30, (-47), 0]), (27, [0, nI 3, 0]), (28, [(-1), (-1), nI 30, 0, 0]), (27, [0, nI 2, 0]), (28, [(-1), (-1), 0, 0, 0]), (27, [0, nI 1, 0]), (28, [(-1), 0, 0, 0, 0]), (27, [0, nI 0, 0]), (28, [0, 0, 0, 0, 0]), (27, [0, 0, 0])]) (L := [(-1), (-1), nI 30, (-47), 0]) rfl (by decide) rfl (fun _ hx => tl_ne hx))) ?_
  refine v_hq (CT_u2 (F := FH) (T := [(28, [(-1), (-1), nI 30, (-47), (-45)]), (27, [0, nI 4, 0]), (28, [(-1), (-1), nI 30, (-47), 0]), (27, [0, nI 3, 0]), (28, [(-1), (-1), nI 30, 0, 0]), (27, [0, nI 2, 0]), (28, [(-1), (-1), 0, 0, 0]), (27, [0, nI 1, 0]), (28, [(-1), 0, 0, 0, 0]), (27, [0, nI 0, 0]), (28, [0, 0, 0, 0, 0]), (27, [0, 0, 0])]) (T' := [(27, [0, nI 5, 0]), (28, [(-1), (-1), nI 30, (-47), (-45)]), (27, [0, nI 4, 0]), (28, [(-1), (-1), nI 30, (-47), 0]), (27, [0, nI 3, 0]), (28, [(-1), (-1), nI 30, 0, 0]), (27, [0, nI 2, 0]), (28, [(-1), (-1), 0, 0, 0]), (27, [0, nI 1, 0]), (28, [(-1), 0, 0, 0, 0]), (27, [0, nI 0, 0]), (28, [0, 0, 0, 0, 0]), (27, [0, 0, 0])]) (L := [0, nI 4, 0]) rfl (by decide) rfl (fun _ hx => tl_ne hx)) ?_
  refine v_iincN (lv2 := [(2, .int (nI 5)), (0, .ref 27), (1, .ref (1000 + 6))]) K 1 dX5_init_40 rfl rfl (by decide) rfl ?_
  refine v_goto (tgt := 27) K dX5_init_43 rfl ?_
  refine v_iload_n K dX5_init_27 rfl ?_
  refine v_aload_n K dX5_init_28 rfl ?_
  refine v_slen (j := 6) K (by decide) dX5_init_29 ?_
  refine v_top (y := nI 5) rfl ?_
  refine v_icmpN_ge (tgt := 46) K (by decide) (by decide) dX5_init_30 rfl (fun _ => ?_) (fun c => absurd c (by decide))
  exact v_vretA K dX5_init_46 B3 (CT_off (by decide) (by decide)) (CT_fin tN_eq (fun _ => rfl) (by decide +kernel) rfl) (W0.ct (by decide) (by decide) (by decide) (by decide +kernel) (by decide +kernel)) (FF_fin (by decide) (by decide) (by decide +kernel) rfl)

theorem cA_X2_init_20 {l : Launch} {g0 : Gm} {h0 : Mm} (A0 : MK 20 21 g0 h0) : ConA l yX2_init cX2_init 1 2 43 10 314 21 20 31 g0 h0 [.ref 20] (fun h2 => h2 = FF 20 31 h0) := by
  have W0 := A0.1
  have hz := A0.2.2.2.2
  refine ConA.ofV (own := "FoxRounds$Laws") (nm := "<init>") rfl rfl (by decide) (by decide) ?_
  intro κ ρ hkl K
  subst hkl
  show V κ (QMA κ 21 20 31 ρ g0 (fun h2 => h2 = FF 20 31 h0) 10 314) 1 (21, ρ, g0, 0, 0) h0 0 [(0, .ref 20)] []
  refine v_sw (n := 21) (c := 0) (z := 0) (g' := (CT 0 GL 20 21 [(20, [0, 0, 0, 0])] g0)) (h' := (CT 0 FH 20 21 [(20, [0, 0, 0, 0])] h0)) (A0.s1 (by decide)) (A0.s2 (by decide)) ?_
  refine v_aload_n K dX2_init_0 rfl ?_
  refine v_objInit K oi_X2 oi_m oi_c ⟨by decide, by decide⟩ (by decide) dX2_init_1 ?_
  refine v_aload_n K dX2_init_4 rfl ?_
  refine v_new K nwX2_9 pl_21 sh_21 (fun k => congrFun (CT_new (by decide) (hz 21 (by decide)).1) k) (fun k _ => congrFun (CT_new (by decide) (hz 21 (by decide)).2) k) (W0.ct (by decide) (by decide) (by decide) (by decide +kernel) (by decide +kernel)) rfl rfl ⟨by decide, by decide⟩ dX2_init_5 (fun ρ1 A1 => ?_)
  have B1 := AGR.t (AGR.r (n := 21) (ρ := ρ)) A1 (by decide)
  refine v_sw (n := 22) (c := 1) (z := 3) (g' := (CT 0 GL 20 22 [(21, [0, 0, 0]), (20, [0, 0, 0, 0])] g0)) (h' := (CT 0 FH 20 22 [(21, [0, 0, 0]), (20, [0, 0, 0, 0])] h0)) (CT_push (by decide) (hz 21 (by decide)).1 (zrN (by decide))) (CT_push (by decide) (hz 21 (by decide)).2 (zrI (by decide))) ?_
  refine v_dup K dX2_init_8 rfl ?_
  refine v_getsN (j := 4) K (by decide) sX2_11 dX2_init_9 ?_
  refine v_callI (As := [.ref (1000 + 4)]) K (cA_X5_init_21 (A0.sub (T := [(20, [0, 0, 0, 0])]) (S := [(20, [0, 0, 0, 0])]) (L := [0, 0, 0]) (M := [0, 0, 0]) (W0.ct (by decide) (by decide) (by decide) (by decide +kernel) (by decide +kernel)) (by decide) (by decide) (by decide) (by decide) (by decide) (by decide) (by decide))) lX2_15 rfl rfl ⟨by decide, by decide⟩ ⟨by decide, by decide⟩ (by decide) rfl rfl dX2_init_12 (fun ρ2 g2 h2 A2 x2 y2 w2 p2 => ?_) rfl
  have B2 := AGR.t B1 A2 (by decide)
  subst p2
  refine v_sw (n := 24) (c := 3) (z := 103) (g' := (CT 0 GL 20 24 [(20, [0, 0, 0, 0])] g0)) (h' := (CT 0 FH 20 24 [(20, [0, 0, 0, 0])] h0)) (CT_back x2 y2 (by decide) (by decide) (by decide)) (CT_back (fun a ha => FF_off ha) (fun a h1 h2 => FF_in h1 h2) (by decide) (by decide) (by decide)) ?_
  have cs3 := CT_set (z := 0) (F := GL) (b := 20) (hi := 24) (f := g0) (T := [(20, [0, 0, 0, 0])]) (T' := [(20, [22, 0, 0, 0])]) (L := [0, 0, 0, 0]) (k := 0) (v := 21 + 1) rfl (by decide) rfl (fun _ hx => (tl_ne hx).trans (tl_ne hx).symm)
  refine v_putg (g' := (CT 0 GL 20 24 [(20, [22, 0, 0, 0])] g0)) K pX2_18 (fun _ => rfl) (Or.inl ⟨_, rfl⟩) sh_20 (show 20 < 24 by decide) cs3.1 (fun j _ hj => cs3.2.1 j hj) (fun x _ hx => cs3.2.2 x hx) dX2_init_15 ?_
  refine v_aload_n K dX2_init_18 rfl ?_
  refine v_new K nwX2_9 pl_24 sh_24 (fun k => congrFun (CT_new (by decide) (hz 24 (by decide)).1) k) (fun k _ => congrFun (CT_new (by decide) (hz 24 (by decide)).2) k) (W0.ct (by decide) (by decide) (by decide) (by decide +kernel) (by decide +kernel)) rfl rfl ⟨by decide, by decide⟩ dX2_init_19 (fun ρ4 A4 => ?_)
  have B4 := AGR.t B2 A4 (by decide)
  refine v_sw (n := 25) (c := 4) (z := 106) (g' := (CT 0 GL 20 25 [(24, [0, 0, 0]), (20, [22, 0, 0, 0])] g0)) (h' := (CT 0 FH 20 25 [(24, [0, 0, 0]), (20, [0, 0, 0, 0])] h0)) (CT_push (by decide) (hz 24 (by decide)).1 (zrN (by decide))) (CT_push (by decide) (hz 24 (by decide)).2 (zrI (by decide))) ?_
  refine v_dup K dX2_init_22 rfl ?_
  refine v_getsN (j := 5) K (by decide) sX2_24 dX2_init_23 ?_
  refine v_callI (As := [.ref (1000 + 5)]) K (cA_X5_init_24 (A0.sub (T := [(20, [22, 0, 0, 0])]) (S := [(20, [0, 0, 0, 0])]) (L := [0, 0, 0]) (M := [0, 0, 0]) (W0.ct (by decide) (by decide) (by decide) (by decide +kernel) (by decide +kernel)) (by decide) (by decide) (by decide) (by decide) (by decide) (by decide) (by decide))) lX2_15 rfl rfl ⟨by decide, by decide⟩ ⟨by decide, by decide⟩ (by decide) rfl rfl dX2_init_26 (fun ρ5 g5 h5 A5 x5 y5 w5 p5 => ?_) rfl
  have B5 := AGR.t B4 A5 (by decide)
  subst p5
  refine v_sw (n := 27) (c := 6) (z := 206) (g' := (CT 0 GL 20 27 [(20, [22, 0, 0, 0])] g0)) (h' := (CT 0 FH 20 27 [(20, [0, 0, 0, 0])] h0)) (CT_back x5 y5 (by decide) (by decide) (by decide)) (CT_back (fun a ha => FF_off ha) (fun a h1 h2 => FF_in h1 h2) (by decide) (by decide) (by decide)) ?_
  have cs6 := CT_set (z := 0) (F := GL) (b := 20) (hi := 27) (f := g0) (T := [(20, [22, 0, 0, 0])]) (T' := [(20, [22, 25, 0, 0])]) (L := [22, 0, 0, 0]) (k := 1) (v := 24 + 1) rfl (by decide) rfl (fun _ hx => (tl_ne hx).trans (tl_ne hx).symm)
  refine v_putg (g' := (CT 0 GL 20 27 [(20, [22, 25, 0, 0])] g0)) K pX2_27 (fun _ => rfl) (Or.inl ⟨_, rfl⟩) sh_20 (show 20 < 27 by decide) cs6.1 (fun j _ hj => cs6.2.1 j hj) (fun x _ hx => cs6.2.2 x hx) dX2_init_29 ?_
  refine v_aload_n K dX2_init_32 rfl ?_
  refine v_new K nwX2_9 pl_27 sh_27 (fun k => congrFun (CT_new (by decide) (hz 27 (by decide)).1) k) (fun k _ => congrFun (CT_new (by decide) (hz 27 (by decide)).2) k) (W0.ct (by decide) (by decide) (by decide) (by decide +kernel) (by decide +kernel)) rfl rfl ⟨by decide, by decide⟩ dX2_init_33 (fun ρ7 A7 => ?_)
  have B7 := AGR.t B5 A7 (by decide)
  refine v_sw (n := 28) (c := 7) (z := 209) (g' := (CT 0 GL 20 28 [(27, [0, 0, 0]), (20, [22, 25, 0, 0])] g0)) (h' := (CT 0 FH 20 28 [(27, [0, 0, 0]), (20, [0, 0, 0, 0])] h0)) (CT_push (by decide) (hz 27 (by decide)).1 (zrN (by decide))) (CT_push (by decide) (hz 27 (by decide)).2 (zrI (by decide))) ?_
  refine v_dup K dX2_init_36 rfl ?_
  refine v_getsN (j := 6) K (by decide) sX2_30 dX2_init_37 ?_
  refine v_callI (As := [.ref (1000 + 6)]) K (cA_X5_init_27 (A0.sub (T := [(20, [22, 25, 0, 0])]) (S := [(20, [0, 0, 0, 0])]) (L := [0, 0, 0]) (M := [0, 0, 0]) (W0.ct (by decide) (by decide) (by decide) (by decide +kernel) (by decide +kernel)) (by decide) (by decide) (by decide) (by decide) (by decide) (by decide) (by decide))) lX2_15 rfl rfl ⟨by decide, by decide⟩ ⟨by decide, by decide⟩ (by decide) rfl rfl dX2_init_40 (fun ρ8 g8 h8 A8 x8 y8 w8 p8 => ?_) rfl
  have B8 := AGR.t B7 A8 (by decide)
  subst p8
  refine v_sw (n := 30) (c := 9) (z := 309) (g' := (CT 0 GL 20 30 [(20, [22, 25, 0, 0])] g0)) (h' := (CT 0 FH 20 30 [(20, [0, 0, 0, 0])] h0)) (CT_back x8 y8 (by decide) (by decide) (by decide)) (CT_back (fun a ha => FF_off ha) (fun a h1 h2 => FF_in h1 h2) (by decide) (by decide) (by decide)) ?_
  have cs9 := CT_set (z := 0) (F := GL) (b := 20) (hi := 30) (f := g0) (T := [(20, [22, 25, 0, 0])]) (T' := [(20, [22, 25, 28, 0])]) (L := [22, 25, 0, 0]) (k := 2) (v := 27 + 1) rfl (by decide) rfl (fun _ hx => (tl_ne hx).trans (tl_ne hx).symm)
  refine v_putg (g' := (CT 0 GL 20 30 [(20, [22, 25, 28, 0])] g0)) K pX2_33 (fun _ => rfl) (Or.inl ⟨_, rfl⟩) sh_20 (show 20 < 30 by decide) cs9.1 (fun j _ hj => cs9.2.1 j hj) (fun x _ hx => cs9.2.2 x hx) dX2_init_43 ?_
  refine v_aload_n K dX2_init_46 rfl ?_
  refine v_iconstN K 5 rfl dX2_init_47 ?_
  refine v_newa K pl_30 sh_30 (CT_new (by decide) (hz 30 (by decide)).2) (Or.inl ⟨rfl, rfl⟩) (fun k => congrFun (CT_new (by decide) (hz 30 (by decide)).1) k) (W0.ct (by decide) (by decide) (by decide) (by decide +kernel) (by decide +kernel)) (by decide) rfl rfl wa_int ⟨by decide, by decide⟩ dX2_init_48 (fun ρ10 A10 => ?_)
  have B10 := AGR.t B8 A10 (by decide)
  refine v_sw (n := 31) (c := 10) (z := 314) (g' := (CT 0 GL 20 31 [(20, [22, 25, 28, 0])] g0)) (h' := (CT 0 FH 20 31 [(20, [0, 0, 0, 0])] h0)) (CT_grow (by decide) (by decide) (by decide) (fun a h => (hz a (Nat.le_trans (by decide) h)).1) (GLz (by decide +kernel))) (CT_grow (by decide) (by decide) (by decide) (fun a h => (hz a (Nat.le_trans (by decide) h)).2) (FHz (by decide +kernel))) ?_
  have cs11 := CT_set (z := 0) (F := GL) (b := 20) (hi := 31) (f := g0) (T := [(20, [22, 25, 28, 0])]) (T' := [(20, [22, 25, 28, 31])]) (L := [22, 25, 28, 0]) (k := 3) (v := 30 + 1) rfl (by decide) rfl (fun _ hx => (tl_ne hx).trans (tl_ne hx).symm)
  refine v_putg (g' := (CT 0 GL 20 31 [(20, [22, 25, 28, 31])] g0)) K pX2_36 (fun _ => rfl) (Or.inr ⟨_, rfl⟩) sh_20 (show 20 < 31 by decide) cs11.1 (fun j _ hj => cs11.2.1 j hj) (fun x _ hx => cs11.2.2 x hx) dX2_init_50 ?_
  exact v_vretA K dX2_init_53 B10 (CT_off (by decide) (by decide)) (CT_fin tN_eq (fun _ => rfl) (by decide +kernel) rfl) (W0.ct (by decide) (by decide) (by decide) (by decide +kernel) (by decide +kernel)) (FF_fin (by decide) (by decide) (by decide +kernel) rfl)

theorem cA_X6_init_31 {l : Launch} {g0 : Gm} {h0 : Mm} (A0 : MK 31 32 g0 h0) : ConA l yX6_init cX6_init 1 1 20 4 24 32 31 36 g0 h0 [.ref 31] (fun h2 => h2 = FF 31 36 h0) := by
  have W0 := A0.1
  have hz := A0.2.2.2.2
  refine ConA.ofV (own := "FoxRounds$Village") (nm := "<init>") rfl rfl (by decide) (by decide) ?_
  intro κ ρ hkl K
  subst hkl
  show V κ (QMA κ 32 31 36 ρ g0 (fun h2 => h2 = FF 31 36 h0) 4 24) 1 (32, ρ, g0, 0, 0) h0 0 [(0, .ref 31)] []
  refine v_sw (n := 32) (c := 0) (z := 0) (g' := (CT 0 GL 31 32 [(31, [0, 0, 0, 0, 0])] g0)) (h' := (CT 0 FH 31 32 [(31, [0, 0, 0, 0, 0])] h0)) (A0.s1 (by decide)) (A0.s2 (by decide)) ?_
  refine v_aload_n K dX6_init_0 rfl ?_
  refine v_objInit K oi_X6 oi_m oi_c ⟨by decide, by decide⟩ (by decide) dX6_init_1 ?_
  refine v_aload_n K dX6_init_4 rfl ?_
  refine v_bipushN K 6 rfl dX6_init_5 ?_
  refine v_newa K pl_32 sh_32 (CT_new (by decide) (hz 32 (by decide)).2) (Or.inl ⟨rfl, rfl⟩) (fun k => congrFun (CT_new (by decide) (hz 32 (by decide)).1) k) (W0.ct (by decide) (by decide) (by decide) (by decide +kernel) (by decide +kernel)) (by decide) rfl rfl wa_int ⟨by decide, by decide⟩ dX6_init_7 (fun ρ1 A1 => ?_)
  have B1 := AGR.t (AGR.r (n := 32) (ρ := ρ)) A1 (by decide)
  refine v_sw (n := 33) (c := 1) (z := 6) (g' := (CT 0 GL 31 33 [(31, [0, 0, 0, 0, 0])] g0)) (h' := (CT 0 FH 31 33 [(31, [0, 0, 0, 0, 0])] h0)) (CT_grow (by decide) (by decide) (by decide) (fun a h => (hz a (Nat.le_trans (by decide) h)).1) (GLz (by decide +kernel))) (CT_grow (by decide) (by decide) (by decide) (fun a h => (hz a (Nat.le_trans (by decide) h)).2) (FHz (by decide +kernel))) ?_
  have cs2 := CT_set (z := 0) (F := GL) (b := 31) (hi := 33) (f := g0) (T := [(31, [0, 0, 0, 0, 0])]) (T' := [(31, [33, 0, 0, 0, 0])]) (L := [0, 0, 0, 0, 0]) (k := 0) (v := 32 + 1) rfl (by decide) rfl (fun _ hx => (tl_ne hx).trans (tl_ne hx).symm)
  refine v_putg (g' := (CT 0 GL 31 33 [(31, [33, 0, 0, 0, 0])] g0)) K pX6_9 (fun _ => rfl) (Or.inr ⟨_, rfl⟩) sh_31 (show 31 < 33 by decide) cs2.1 (fun j _ hj => cs2.2.1 j hj) (fun x _ hx => cs2.2.2 x hx) dX6_init_9 ?_
  refine v_aload_n K dX6_init_12 rfl ?_
  refine v_bipushN K 6 rfl dX6_init_13 ?_
  refine v_newa K pl_33 sh_33 (CT_new (by decide) (hz 33 (by decide)).2) (Or.inl ⟨rfl, rfl⟩) (fun k => congrFun (CT_new (by decide) (hz 33 (by decide)).1) k) (W0.ct (by decide) (by decide) (by decide) (by decide +kernel) (by decide +kernel)) (by decide) rfl rfl wa_int ⟨by decide, by decide⟩ dX6_init_15 (fun ρ3 A3 => ?_)
  have B3 := AGR.t B1 A3 (by decide)
  refine v_sw (n := 34) (c := 2) (z := 12) (g' := (CT 0 GL 31 34 [(31, [33, 0, 0, 0, 0])] g0)) (h' := (CT 0 FH 31 34 [(31, [0, 0, 0, 0, 0])] h0)) (CT_grow (by decide) (by decide) (by decide) (fun a h => (hz a (Nat.le_trans (by decide) h)).1) (GLz (by decide +kernel))) (CT_grow (by decide) (by decide) (by decide) (fun a h => (hz a (Nat.le_trans (by decide) h)).2) (FHz (by decide +kernel))) ?_
  have cs4 := CT_set (z := 0) (F := GL) (b := 31) (hi := 34) (f := g0) (T := [(31, [33, 0, 0, 0, 0])]) (T' := [(31, [33, 34, 0, 0, 0])]) (L := [33, 0, 0, 0, 0]) (k := 1) (v := 33 + 1) rfl (by decide) rfl (fun _ hx => (tl_ne hx).trans (tl_ne hx).symm)
  refine v_putg (g' := (CT 0 GL 31 34 [(31, [33, 34, 0, 0, 0])] g0)) K pX6_15 (fun _ => rfl) (Or.inr ⟨_, rfl⟩) sh_31 (show 31 < 34 by decide) cs4.1 (fun j _ hj => cs4.2.1 j hj) (fun x _ hx => cs4.2.2 x hx) dX6_init_17 ?_
  refine v_aload_n K dX6_init_20 rfl ?_
  refine v_bipushN K 6 rfl dX6_init_21 ?_
  refine v_newa K pl_34 sh_34 (CT_new (by decide) (hz 34 (by decide)).2) (Or.inl ⟨rfl, rfl⟩) (fun k => congrFun (CT_new (by decide) (hz 34 (by decide)).1) k) (W0.ct (by decide) (by decide) (by decide) (by decide +kernel) (by decide +kernel)) (by decide) rfl rfl wa_int ⟨by decide, by decide⟩ dX6_init_23 (fun ρ5 A5 => ?_)
  have B5 := AGR.t B3 A5 (by decide)
  refine v_sw (n := 35) (c := 3) (z := 18) (g' := (CT 0 GL 31 35 [(31, [33, 34, 0, 0, 0])] g0)) (h' := (CT 0 FH 31 35 [(31, [0, 0, 0, 0, 0])] h0)) (CT_grow (by decide) (by decide) (by decide) (fun a h => (hz a (Nat.le_trans (by decide) h)).1) (GLz (by decide +kernel))) (CT_grow (by decide) (by decide) (by decide) (fun a h => (hz a (Nat.le_trans (by decide) h)).2) (FHz (by decide +kernel))) ?_
  have cs6 := CT_set (z := 0) (F := GL) (b := 31) (hi := 35) (f := g0) (T := [(31, [33, 34, 0, 0, 0])]) (T' := [(31, [33, 34, 35, 0, 0])]) (L := [33, 34, 0, 0, 0]) (k := 2) (v := 34 + 1) rfl (by decide) rfl (fun _ hx => (tl_ne hx).trans (tl_ne hx).symm)
  refine v_putg (g' := (CT 0 GL 31 35 [(31, [33, 34, 35, 0, 0])] g0)) K pX6_18 (fun _ => rfl) (Or.inr ⟨_, rfl⟩) sh_31 (show 31 < 35 by decide) cs6.1 (fun j _ hj => cs6.2.1 j hj) (fun x _ hx => cs6.2.2 x hx) dX6_init_25 ?_
  refine v_aload_n K dX6_init_28 rfl ?_
  refine v_iconstN K 0 rfl dX6_init_29 ?_
  refine v_puti K pX6_21 sh_31 (show 31 < 35 by decide) dX6_init_30 ?_
  refine v_hq (CT_u2 (F := FH) (T := [(31, [0, 0, 0, 0, 0])]) (T' := [(31, [0, 0, 0, nI 0, 0])]) (L := [0, 0, 0, 0, 0]) rfl (by decide) rfl (fun _ hx => (tl_ne hx).trans (tl_ne hx).symm)) ?_
  refine v_aload_n K dX6_init_33 rfl ?_
  refine v_bipushN K 6 rfl dX6_init_34 ?_
  refine v_newa K pl_35 sh_35 (CT_new (by decide) (hz 35 (by decide)).2) (Or.inl ⟨rfl, rfl⟩) (fun k => congrFun (CT_new (by decide) (hz 35 (by decide)).1) k) (W0.ct (by decide) (by decide) (by decide) (by decide +kernel) (by decide +kernel)) (by decide) rfl rfl wa_int ⟨by decide, by decide⟩ dX6_init_36 (fun ρ7 A7 => ?_)
  have B7 := AGR.t B5 A7 (by decide)
  refine v_sw (n := 36) (c := 4) (z := 24) (g' := (CT 0 GL 31 36 [(31, [33, 34, 35, 0, 0])] g0)) (h' := (CT 0 FH 31 36 [(31, [0, 0, 0, nI 0, 0])] h0)) (CT_grow (by decide) (by decide) (by decide) (fun a h => (hz a (Nat.le_trans (by decide) h)).1) (GLz (by decide +kernel))) (CT_grow (by decide) (by decide) (by decide) (fun a h => (hz a (Nat.le_trans (by decide) h)).2) (FHz (by decide +kernel))) ?_
  have cs8 := CT_set (z := 0) (F := GL) (b := 31) (hi := 36) (f := g0) (T := [(31, [33, 34, 35, 0, 0])]) (T' := [(31, [33, 34, 35, 0, 36])]) (L := [33, 34, 35, 0, 0]) (k := 4) (v := 35 + 1) rfl (by decide) rfl (fun _ hx => (tl_ne hx).trans (tl_ne hx).symm)
  refine v_putg (g' := (CT 0 GL 31 36 [(31, [33, 34, 35, 0, 36])] g0)) K pX6_25 (fun _ => rfl) (Or.inr ⟨_, rfl⟩) sh_31 (show 31 < 36 by decide) cs8.1 (fun j _ hj => cs8.2.1 j hj) (fun x _ hx => cs8.2.2 x hx) dX6_init_38 ?_
  exact v_vretA K dX6_init_41 B7 (CT_off (by decide) (by decide)) (CT_fin tN_eq (fun _ => rfl) (by decide +kernel) rfl) (W0.ct (by decide) (by decide) (by decide) (by decide +kernel) (by decide +kernel)) (FF_fin (by decide) (by decide) (by decide +kernel) rfl)

theorem cA_X8_init_1 {l : Launch} {g0 : Gm} {h0 : Mm} (A0 : MK 1 2 g0 h0) : ConA l yX8_init cX8_init 2 3 80 37 530 2 1 39 g0 h0 [.ref 1] (fun h2 => h2 = FF 1 39 h0) := by
  have W0 := A0.1
  have hz := A0.2.2.2.2
  refine ConA.ofV (own := "FoxRounds$World") (nm := "<init>") rfl rfl (by decide) (by decide) ?_
  intro κ ρ hkl K
  subst hkl
  show V κ (QMA κ 2 1 39 ρ g0 (fun h2 => h2 = FF 1 39 h0) 37 530) 2 (2, ρ, g0, 0, 0) h0 0 [(0, .ref 1)] []
  refine v_sw (n := 2) (c := 0) (z := 0) (g' := (CT 0 GL 1 2 [(1, [0, 0, 0, 0, 0, 0, 0, 0, 0])] g0)) (h' := (CT 0 FH 1 2 [(1, [0, 0, 0, 0, 0, 0, 0, 0, 0])] h0)) (A0.s1 (by decide)) (A0.s2 (by decide)) ?_
  refine v_aload_n K dX8_init_0 rfl ?_
  refine v_objInit K oi_X8 oi_m oi_c ⟨by decide, by decide⟩ (by decide) dX8_init_1 ?_
  refine v_aload_n K dX8_init_4 rfl ?_
  refine v_new K nwX8_9 pl_2 sh_2 (fun k => congrFun (CT_new (by decide) (hz 2 (by decide)).1) k) (fun k _ => congrFun (CT_new (by decide) (hz 2 (by decide)).2) k) (W0.ct (by decide) (by decide) (by decide) (by decide +kernel) (by decide +kernel)) rfl rfl ⟨by decide, by decide⟩ dX8_init_5 (fun ρ1 A1 => ?_)
  have B1 := AGR.t (AGR.r (n := 2) (ρ := ρ)) A1 (by decide)
  refine v_sw (n := 3) (c := 1) (z := 9) (g' := (CT 0 GL 1 3 [(2, [0, 0, 0, 0, 0, 0, 0, 0, 0]), (1, [0, 0, 0, 0, 0, 0, 0, 0, 0])] g0)) (h' := (CT 0 FH 1 3 [(2, [0, 0, 0, 0, 0, 0, 0, 0, 0]), (1, [0, 0, 0, 0, 0, 0, 0, 0, 0])] h0)) (CT_push (by decide) (hz 2 (by decide)).1 (zrN (by decide))) (CT_push (by decide) (hz 2 (by decide)).2 (zrI (by decide))) ?_
  refine v_dup K dX8_init_8 rfl ?_
  refine v_callI (As := []) K (cA_X1_init_2 (A0.sub (T := [(1, [0, 0, 0, 0, 0, 0, 0, 0, 0])]) (S := [(1, [0, 0, 0, 0, 0, 0, 0, 0, 0])]) (L := [0, 0, 0, 0, 0, 0, 0, 0, 0]) (M := [0, 0, 0, 0, 0, 0, 0, 0, 0]) (W0.ct (by decide) (by decide) (by decide) (by decide +kernel) (by decide +kernel)) (by decide) (by decide) (by decide) (by decide) (by decide) (by decide) (by decide))) lX8_11 rfl rfl ⟨by decide, by decide⟩ ⟨by decide, by decide⟩ (by decide) rfl rfl dX8_init_9 (fun ρ2 g2 h2 A2 x2 y2 w2 p2 => ?_) rfl
  have B2 := AGR.t B1 A2 (by decide)
  subst p2
  refine v_sw (n := 20) (c := 18) (z := 101) (g' := (CT 0 GL 1 20 [(1, [0, 0, 0, 0, 0, 0, 0, 0, 0])] g0)) (h' := (CT 0 FH 1 20 [(1, [0, 0, 0, 0, 0, 0, 0, 0, 0])] h0)) (CT_back x2 y2 (by decide) (by decide) (by decide)) (CT_back (fun a ha => FF_off ha) (fun a h1 h2 => FF_in h1 h2) (by decide) (by decide) (by decide)) ?_
  have cs3 := CT_set (z := 0) (F := GL) (b := 1) (hi := 20) (f := g0) (T := [(1, [0, 0, 0, 0, 0, 0, 0, 0, 0])]) (T' := [(1, [3, 0, 0, 0, 0, 0, 0, 0, 0])]) (L := [0, 0, 0, 0, 0, 0, 0, 0, 0]) (k := 0) (v := 2 + 1) rfl (by decide) rfl (fun _ hx => (tl_ne hx).trans (tl_ne hx).symm)
  refine v_putg (g' := (CT 0 GL 1 20 [(1, [3, 0, 0, 0, 0, 0, 0, 0, 0])] g0)) K pX8_12 (fun _ => rfl) (Or.inl ⟨_, rfl⟩) sh_1 (show 1 < 20 by decide) cs3.1 (fun j _ hj => cs3.2.1 j hj) (fun x _ hx => cs3.2.2 x hx) dX8_init_12 ?_
  refine v_aload_n K dX8_init_15 rfl ?_
  refine v_new K nwX8_18 pl_20 sh_20 (fun k => congrFun (CT_new (by decide) (hz 20 (by decide)).1) k) (fun k _ => congrFun (CT_new (by decide) (hz 20 (by decide)).2) k) (W0.ct (by decide) (by decide) (by decide) (by decide +kernel) (by decide +kernel)) rfl rfl ⟨by decide, by decide⟩ dX8_init_16 (fun ρ4 A4 => ?_)
  have B4 := AGR.t B2 A4 (by decide)
  refine v_sw (n := 21) (c := 19) (z := 105) (g' := (CT 0 GL 1 21 [(20, [0, 0, 0, 0]), (1, [3, 0, 0, 0, 0, 0, 0, 0, 0])] g0)) (h' := (CT 0 FH 1 21 [(20, [0, 0, 0, 0]), (1, [0, 0, 0, 0, 0, 0, 0, 0, 0])] h0)) (CT_push (by decide) (hz 20 (by decide)).1 (zrN (by decide))) (CT_push (by decide) (hz 20 (by decide)).2 (zrI (by decide))) ?_
  refine v_dup K dX8_init_19 rfl ?_
  refine v_callIN (As := []) K (cA_X2_init_20 (A0.sub (T := [(1, [3, 0, 0, 0, 0, 0, 0, 0, 0])]) (S := [(1, [0, 0, 0, 0, 0, 0, 0, 0, 0])]) (L := [0, 0, 0, 0]) (M := [0, 0, 0, 0]) (W0.ct (by decide) (by decide) (by decide) (by decide +kernel) (by decide +kernel)) (by decide) (by decide) (by decide) (by decide) (by decide) (by decide) (by decide))) lX8_20 ⟨by decide +kernel, by decide +kernel, by decide +kernel⟩ rfl rfl ⟨by decide, by decide⟩ ⟨by decide, by decide⟩ (by decide) rfl rfl dX8_init_20 (fun ρ5 g5 h5 A5 x5 y5 w5 p5 => ?_) rfl
  have B5 := AGR.t B4 A5 (by decide)
  subst p5
  refine v_sw (n := 31) (c := 29) (z := 419) (g' := (CT 0 GL 1 31 [(1, [3, 0, 0, 0, 0, 0, 0, 0, 0])] g0)) (h' := (CT 0 FH 1 31 [(1, [0, 0, 0, 0, 0, 0, 0, 0, 0])] h0)) (CT_back x5 y5 (by decide) (by decide) (by decide)) (CT_back (fun a ha => FF_off ha) (fun a h1 h2 => FF_in h1 h2) (by decide) (by decide) (by decide)) ?_
  have cs6 := CT_set (z := 0) (F := GL) (b := 1) (hi := 31) (f := g0) (T := [(1, [3, 0, 0, 0, 0, 0, 0, 0, 0])]) (T' := [(1, [3, 21, 0, 0, 0, 0, 0, 0, 0])]) (L := [3, 0, 0, 0, 0, 0, 0, 0, 0]) (k := 1) (v := 20 + 1) rfl (by decide) rfl (fun _ hx => (tl_ne hx).trans (tl_ne hx).symm)
  refine v_putg (g' := (CT 0 GL 1 31 [(1, [3, 21, 0, 0, 0, 0, 0, 0, 0])] g0)) K pX8_21 (fun _ => rfl) (Or.inl ⟨_, rfl⟩) sh_1 (show 1 < 31 by decide) cs6.1 (fun j _ hj => cs6.2.1 j hj) (fun x _ hx => cs6.2.2 x hx) dX8_init_23 ?_
  refine v_aload_n K dX8_init_26 rfl ?_
  refine v_new K nwX8_25 pl_31 sh_31 (fun k => congrFun (CT_new (by decide) (hz 31 (by decide)).1) k) (fun k _ => congrFun (CT_new (by decide) (hz 31 (by decide)).2) k) (W0.ct (by decide) (by decide) (by decide) (by decide +kernel) (by decide +kernel)) rfl rfl ⟨by decide, by decide⟩ dX8_init_27 (fun ρ7 A7 => ?_)
  have B7 := AGR.t B5 A7 (by decide)
  refine v_sw (n := 32) (c := 30) (z := 424) (g' := (CT 0 GL 1 32 [(31, [0, 0, 0, 0, 0]), (1, [3, 21, 0, 0, 0, 0, 0, 0, 0])] g0)) (h' := (CT 0 FH 1 32 [(31, [0, 0, 0, 0, 0]), (1, [0, 0, 0, 0, 0, 0, 0, 0, 0])] h0)) (CT_push (by decide) (hz 31 (by decide)).1 (zrN (by decide))) (CT_push (by decide) (hz 31 (by decide)).2 (zrI (by decide))) ?_
  refine v_dup K dX8_init_30 rfl ?_
  refine v_callIN (As := []) K (cA_X6_init_31 (A0.sub (T := [(1, [3, 21, 0, 0, 0, 0, 0, 0, 0])]) (S := [(1, [0, 0, 0, 0, 0, 0, 0, 0, 0])]) (L := [0, 0, 0, 0, 0]) (M := [0, 0, 0, 0, 0]) (W0.ct (by decide) (by decide) (by decide) (by decide +kernel) (by decide +kernel)) (by decide) (by decide) (by decide) (by decide) (by decide) (by decide) (by decide))) lX8_27 ⟨by decide +kernel, by decide +kernel, by decide +kernel⟩ rfl rfl ⟨by decide, by decide⟩ ⟨by decide, by decide⟩ (by decide) rfl rfl dX8_init_31 (fun ρ8 g8 h8 A8 x8 y8 w8 p8 => ?_) rfl
  have B8 := AGR.t B7 A8 (by decide)
  subst p8
  refine v_sw (n := 36) (c := 34) (z := 448) (g' := (CT 0 GL 1 36 [(1, [3, 21, 0, 0, 0, 0, 0, 0, 0])] g0)) (h' := (CT 0 FH 1 36 [(1, [0, 0, 0, 0, 0, 0, 0, 0, 0])] h0)) (CT_back x8 y8 (by decide) (by decide) (by decide)) (CT_back (fun a ha => FF_off ha) (fun a h1 h2 => FF_in h1 h2) (by decide) (by decide) (by decide)) ?_
  have cs9 := CT_set (z := 0) (F := GL) (b := 1) (hi := 36) (f := g0) (T := [(1, [3, 21, 0, 0, 0, 0, 0, 0, 0])]) (T' := [(1, [3, 21, 32, 0, 0, 0, 0, 0, 0])]) (L := [3, 21, 0, 0, 0, 0, 0, 0, 0]) (k := 2) (v := 31 + 1) rfl (by decide) rfl (fun _ hx => (tl_ne hx).trans (tl_ne hx).symm)
  refine v_putg (g' := (CT 0 GL 1 36 [(1, [3, 21, 32, 0, 0, 0, 0, 0, 0])] g0)) K pX8_28 (fun _ => rfl) (Or.inl ⟨_, rfl⟩) sh_1 (show 1 < 36 by decide) cs9.1 (fun j _ hj => cs9.2.1 j hj) (fun x _ hx => cs9.2.2 x hx) dX8_init_34 ?_
  refine v_aload_n K dX8_init_37 rfl ?_
  refine v_bipushN K 50 rfl dX8_init_38 ?_
  refine v_newa K pl_36 sh_36 (CT_new (by decide) (hz 36 (by decide)).2) (Or.inr (Or.inl ⟨rfl, rfl⟩)) (fun k => congrFun (CT_new (by decide) (hz 36 (by decide)).1) k) (W0.ct (by decide) (by decide) (by decide) (by decide +kernel) (by decide +kernel)) (by decide) rfl rfl wa_byte ⟨by decide, by decide⟩ dX8_init_40 (fun ρ10 A10 => ?_)
  have B10 := AGR.t B8 A10 (by decide)
  refine v_sw (n := 37) (c := 35) (z := 498) (g' := (CT 0 GL 1 37 [(1, [3, 21, 32, 0, 0, 0, 0, 0, 0])] g0)) (h' := (CT 0 FH 1 37 [(1, [0, 0, 0, 0, 0, 0, 0, 0, 0])] h0)) (CT_grow (by decide) (by decide) (by decide) (fun a h => (hz a (Nat.le_trans (by decide) h)).1) (GLz (by decide +kernel))) (CT_grow (by decide) (by decide) (by decide) (fun a h => (hz a (Nat.le_trans (by decide) h)).2) (FHz (by decide +kernel))) ?_
  have cs11 := CT_set (z := 0) (F := GL) (b := 1) (hi := 37) (f := g0) (T := [(1, [3, 21, 32, 0, 0, 0, 0, 0, 0])]) (T' := [(1, [3, 21, 32, 37, 0, 0, 0, 0, 0])]) (L := [3, 21, 32, 0, 0, 0, 0, 0, 0]) (k := 3) (v := 36 + 1) rfl (by decide) rfl (fun _ hx => (tl_ne hx).trans (tl_ne hx).symm)
  refine v_putg (g' := (CT 0 GL 1 37 [(1, [3, 21, 32, 37, 0, 0, 0, 0, 0])] g0)) K pX8_32 (fun _ => rfl) (Or.inr ⟨_, rfl⟩) sh_1 (show 1 < 37 by decide) cs11.1 (fun j _ hj => cs11.2.1 j hj) (fun x _ hx => cs11.2.2 x hx) dX8_init_42 ?_
  refine v_aload_n K dX8_init_45 rfl ?_
  refine v_iconstN K 0 rfl dX8_init_46 ?_
  refine v_puti K pX8_36 sh_1 (show 1 < 37 by decide) dX8_init_47 ?_
  refine v_hq (CT_u2 (F := FH) (T := [(1, [0, 0, 0, 0, 0, 0, 0, 0, 0])]) (T' := [(1, [0, 0, 0, 0, nI 0, 0, 0, 0, 0])]) (L := [0, 0, 0, 0, 0, 0, 0, 0, 0]) rfl (by decide) rfl (fun _ hx => (tl_ne hx).trans (tl_ne hx).symm)) ?_
  refine v_aload_n K dX8_init_50 rfl ?_
  refine v_bipushN K 20 rfl dX8_init_51 ?_
  refine v_newa K pl_37 sh_37 (CT_new (by decide) (hz 37 (by decide)).2) (Or.inl ⟨rfl, rfl⟩) (fun k => congrFun (CT_new (by decide) (hz 37 (by decide)).1) k) (W0.ct (by decide) (by decide) (by decide) (by decide +kernel) (by decide +kernel)) (by decide) rfl rfl wa_int ⟨by decide, by decide⟩ dX8_init_53 (fun ρ12 A12 => ?_)
  have B12 := AGR.t B10 A12 (by decide)
  refine v_sw (n := 38) (c := 36) (z := 518) (g' := (CT 0 GL 1 38 [(1, [3, 21, 32, 37, 0, 0, 0, 0, 0])] g0)) (h' := (CT 0 FH 1 38 [(1, [0, 0, 0, 0, nI 0, 0, 0, 0, 0])] h0)) (CT_grow (by decide) (by decide) (by decide) (fun a h => (hz a (Nat.le_trans (by decide) h)).1) (GLz (by decide +kernel))) (CT_grow (by decide) (by decide) (by decide) (fun a h => (hz a (Nat.le_trans (by decide) h)).2) (FHz (by decide +kernel))) ?_
  have cs13 := CT_set (z := 0) (F := GL) (b := 1) (hi := 38) (f := g0) (T := [(1, [3, 21, 32, 37, 0, 0, 0, 0, 0])]) (T' := [(1, [3, 21, 32, 37, 0, 38, 0, 0, 0])]) (L := [3, 21, 32, 37, 0, 0, 0, 0, 0]) (k := 5) (v := 37 + 1) rfl (by decide) rfl (fun _ hx => (tl_ne hx).trans (tl_ne hx).symm)
  refine v_putg (g' := (CT 0 GL 1 38 [(1, [3, 21, 32, 37, 0, 38, 0, 0, 0])] g0)) K pX8_40 (fun _ => rfl) (Or.inr ⟨_, rfl⟩) sh_1 (show 1 < 38 by decide) cs13.1 (fun j _ hj => cs13.2.1 j hj) (fun x _ hx => cs13.2.2 x hx) dX8_init_55 ?_
  refine v_aload_n K dX8_init_58 rfl ?_
  refine v_iconstN K 0 rfl dX8_init_59 ?_
  refine v_puti K pX8_44 sh_1 (show 1 < 38 by decide) dX8_init_60 ?_
  refine v_hq (CT_u2 (F := FH) (T := [(1, [0, 0, 0, 0, nI 0, 0, 0, 0, 0])]) (T' := [(1, [0, 0, 0, 0, nI 0, 0, nI 0, 0, 0])]) (L := [0, 0, 0, 0, nI 0, 0, 0, 0, 0]) rfl (by decide) rfl (fun _ hx => (tl_ne hx).trans (tl_ne hx).symm)) ?_
  refine v_aload_n K dX8_init_63 rfl ?_
  refine v_bipushN K 12 rfl dX8_init_64 ?_
  refine v_newa K pl_38 sh_38 (CT_new (by decide) (hz 38 (by decide)).2) (Or.inl ⟨rfl, rfl⟩) (fun k => congrFun (CT_new (by decide) (hz 38 (by decide)).1) k) (W0.ct (by decide) (by decide) (by decide) (by decide +kernel) (by decide +kernel)) (by decide) rfl rfl wa_int ⟨by decide, by decide⟩ dX8_init_66 (fun ρ14 A14 => ?_)
  have B14 := AGR.t B12 A14 (by decide)
  refine v_sw (n := 39) (c := 37) (z := 530) (g' := (CT 0 GL 1 39 [(1, [3, 21, 32, 37, 0, 38, 0, 0, 0])] g0)) (h' := (CT 0 FH 1 39 [(38, [0, 0, 0, 0, 0, 0, 0, 0, 0, 0, 0, 0]), (1, [0, 0, 0, 0, nI 0, 0, nI 0, 0, 0])] h0)) (CT_grow (by decide) (by decide) (by decide) (fun a h => (hz a (Nat.le_trans (by decide) h)).1) (GLz (by decide +kernel))) (CT_push (by decide) (hz 38 (by decide)).2 (zrI (by decide))) ?_
  have cs15 := CT_set (z := 0) (F := GL) (b := 1) (hi := 39) (f := g0) (T := [(1, [3, 21, 32, 37, 0, 38, 0, 0, 0])]) (T' := [(1, [3, 21, 32, 37, 0, 38, 0, 39, 0])]) (L := [3, 21, 32, 37, 0, 38, 0, 0, 0]) (k := 7) (v := 38 + 1) rfl (by decide) rfl (fun _ hx => (tl_ne hx).trans (tl_ne hx).symm)
  refine v_putg (g' := (CT 0 GL 1 39 [(1, [3, 21, 32, 37, 0, 38, 0, 39, 0])] g0)) K pX8_47 (fun _ => rfl) (Or.inr ⟨_, rfl⟩) sh_1 (show 1 < 39 by decide) cs15.1 (fun j _ hj => cs15.2.1 j hj) (fun x _ hx => cs15.2.2 x hx) dX8_init_68 ?_
  refine v_aload_n K dX8_init_71 rfl ?_
  refine v_iconstN K 1 rfl dX8_init_72 ?_
  refine v_puti K pX8_50 sh_1 (show 1 < 39 by decide) dX8_init_73 ?_
  refine v_hq (CT_u2 (F := FH) (T := [(38, [0, 0, 0, 0, 0, 0, 0, 0, 0, 0, 0, 0]), (1, [0, 0, 0, 0, nI 0, 0, nI 0, 0, 0])]) (T' := [(1, [0, 0, 0, 0, nI 0, 0, nI 0, 0, nI 1]), (38, [0, 0, 0, 0, 0, 0, 0, 0, 0, 0, 0, 0]), (1, [0, 0, 0, 0, nI 0, 0, nI 0, 0, 0])]) (L := [0, 0, 0, 0, nI 0, 0, nI 0, 0, 0]) rfl (by decide) rfl (fun _ hx => tl_ne hx)) ?_
  refine v_iconstN K 0 rfl dX8_init_76 ?_
  refine v_istore_n (lv2 := [(1, .int (nI 0)), (0, .ref 1)]) K dX8_init_77 (by decide) rfl ?_
  refine v_iload_n K dX8_init_78 rfl ?_
  refine v_bipushN K 12 rfl dX8_init_79 ?_
  refine v_icmpN_ge (tgt := 99) K (by decide) (by decide) dX8_init_81 rfl (fun c => absurd c (by decide)) (fun _ => ?_)
  refine v_aload_n K dX8_init_84 rfl ?_
  refine v_getr (q := 38) K fX8_47 sh_1 (show 1 < 39 by decide) ((congrFun (CT_at (z := 0) (F := GL) (b := 1) (hi := 39) (f := g0) (a := 1) (T := [(1, [3, 21, 32, 37, 0, 38, 0, 39, 0])]) (L := [3, 21, 32, 37, 0, 38, 0, 39, 0]) rfl) 7).trans rfl) dX8_init_85 ?_
  refine v_iload_n K dX8_init_88 rfl ?_
  refine v_sipushN K 1080 rfl dX8_init_89 ?_
  refine v_iast K sh_38 (show 38 < 39 by decide) (by decide) dX8_init_92 ?_
  refine v_hq (CT_u2 (F := FH) (T := [(1, [0, 0, 0, 0, nI 0, 0, nI 0, 0, nI 1]), (38, [0, 0, 0, 0, 0, 0, 0, 0, 0, 0, 0, 0]), (1, [0, 0, 0, 0, nI 0, 0, nI 0, 0, 0])]) (T' := [(38, [nI 1080, 0, 0, 0, 0, 0, 0, 0, 0, 0, 0, 0]), (1, [0, 0, 0, 0, nI 0, 0, nI 0, 0, nI 1]), (38, [0, 0, 0, 0, 0, 0, 0, 0, 0, 0, 0, 0]), (1, [0, 0, 0, 0, nI 0, 0, nI 0, 0, 0])]) (L := [0, 0, 0, 0, 0, 0, 0, 0, 0, 0, 0, 0]) rfl (by decide) rfl (fun _ hx => tl_ne hx)) ?_
  refine v_iincN (lv2 := [(1, .int (nI 1)), (0, .ref 1)]) K 1 dX8_init_93 rfl rfl (by decide) rfl ?_
  refine v_goto (tgt := 78) K dX8_init_96 rfl ?_
  refine v_iload_n K dX8_init_78 rfl ?_
  refine v_bipushN K 12 rfl dX8_init_79 ?_
  refine v_icmpN_ge (tgt := 99) K (by decide) (by decide) dX8_init_81 rfl (fun c => absurd c (by decide)) (fun _ => ?_)
  refine v_aload_n K dX8_init_84 rfl ?_
  refine v_getr (q := 38) K fX8_47 sh_1 (show 1 < 39 by decide) ((congrFun (CT_at (z := 0) (F := GL) (b := 1) (hi := 39) (f := g0) (a := 1) (T := [(1, [3, 21, 32, 37, 0, 38, 0, 39, 0])]) (L := [3, 21, 32, 37, 0, 38, 0, 39, 0]) rfl) 7).trans rfl) dX8_init_85 ?_
  refine v_iload_n K dX8_init_88 rfl ?_
  refine v_sipushN K 1080 rfl dX8_init_89 ?_
  refine v_iast K sh_38 (show 38 < 39 by decide) (by decide) dX8_init_92 ?_
  refine v_hq (CT_u2 (F := FH) (T := [(38, [nI 1080, 0, 0, 0, 0, 0, 0, 0, 0, 0, 0, 0]), (1, [0, 0, 0, 0, nI 0, 0, nI 0, 0, nI 1]), (38, [0, 0, 0, 0, 0, 0, 0, 0, 0, 0, 0, 0]), (1, [0, 0, 0, 0, nI 0, 0, nI 0, 0, 0])]) (T' := [(38, [nI 1080, nI 1080, 0, 0, 0, 0, 0, 0, 0, 0, 0, 0]), (1, [0, 0, 0, 0, nI 0, 0, nI 0, 0, nI 1]), (38, [0, 0, 0, 0, 0, 0, 0, 0, 0, 0, 0, 0]), (1, [0, 0, 0, 0, nI 0, 0, nI 0, 0, 0])]) (L := [nI 1080, 0, 0, 0, 0, 0, 0, 0, 0, 0, 0, 0]) rfl (by decide) rfl (fun _ hx => (tl_ne hx).trans (tl_ne hx).symm)) ?_
  refine v_iincN (lv2 := [(1, .int (nI 2)), (0, .ref 1)]) K 1 dX8_init_93 rfl rfl (by decide) rfl ?_
  refine v_goto (tgt := 78) K dX8_init_96 rfl ?_
  refine v_iload_n K dX8_init_78 rfl ?_
  refine v_bipushN K 12 rfl dX8_init_79 ?_
  refine v_icmpN_ge (tgt := 99) K (by decide) (by decide) dX8_init_81 rfl (fun c => absurd c (by decide)) (fun _ => ?_)
  refine v_aload_n K dX8_init_84 rfl ?_
  refine v_getr (q := 38) K fX8_47 sh_1 (show 1 < 39 by decide) ((congrFun (CT_at (z := 0) (F := GL) (b := 1) (hi := 39) (f := g0) (a := 1) (T := [(1, [3, 21, 32, 37, 0, 38, 0, 39, 0])]) (L := [3, 21, 32, 37, 0, 38, 0, 39, 0]) rfl) 7).trans rfl) dX8_init_85 ?_
  refine v_iload_n K dX8_init_88 rfl ?_
  refine v_sipushN K 1080 rfl dX8_init_89 ?_
  refine v_iast K sh_38 (show 38 < 39 by decide) (by decide) dX8_init_92 ?_
  refine v_hq (CT_u2 (F := FH) (T := [(38, [nI 1080, nI 1080, 0, 0, 0, 0, 0, 0, 0, 0, 0, 0]), (1, [0, 0, 0, 0, nI 0, 0, nI 0, 0, nI 1]), (38, [0, 0, 0, 0, 0, 0, 0, 0, 0, 0, 0, 0]), (1, [0, 0, 0, 0, nI 0, 0, nI 0, 0, 0])]) (T' := [(38, [nI 1080, nI 1080, nI 1080, 0, 0, 0, 0, 0, 0, 0, 0, 0]), (1, [0, 0, 0, 0, nI 0, 0, nI 0, 0, nI 1]), (38, [0, 0, 0, 0, 0, 0, 0, 0, 0, 0, 0, 0]), (1, [0, 0, 0, 0, nI 0, 0, nI 0, 0, 0])]) (L := [nI 1080, nI 1080, 0, 0, 0, 0, 0, 0, 0, 0, 0, 0]) rfl (by decide) rfl (fun _ hx => (tl_ne hx).trans (tl_ne hx).symm)) ?_
  refine v_iincN (lv2 := [(1, .int (nI 3)), (0, .ref 1)]) K 1 dX8_init_93 rfl rfl (by decide) rfl ?_
  refine v_goto (tgt := 78) K dX8_init_96 rfl ?_
  refine v_iload_n K dX8_init_78 rfl ?_
  refine v_bipushN K 12 rfl dX8_init_79 ?_
  refine v_icmpN_ge (tgt := 99) K (by decide) (by decide) dX8_init_81 rfl (fun c => absurd c (by decide)) (fun _ => ?_)
  refine v_aload_n K dX8_init_84 rfl ?_
  refine v_getr (q := 38) K fX8_47 sh_1 (show 1 < 39 by decide) ((congrFun (CT_at (z := 0) (F := GL) (b := 1) (hi := 39) (f := g0) (a := 1) (T := [(1, [3, 21, 32, 37, 0, 38, 0, 39, 0])]) (L := [3, 21, 32, 37, 0, 38, 0, 39, 0]) rfl) 7).trans rfl) dX8_init_85 ?_
  refine v_iload_n K dX8_init_88 rfl ?_
  refine v_sipushN K 1080 rfl dX8_init_89 ?_
  refine v_iast K sh_38 (show 38 < 39 by decide) (by decide) dX8_init_92 ?_
  refine v_hq (CT_u2 (F := FH) (T := [(38, [nI 1080, nI 1080, nI 1080, 0, 0, 0, 0, 0, 0, 0, 0, 0]), (1, [0, 0, 0, 0, nI 0, 0, nI 0, 0, nI 1]), (38, [0, 0, 0, 0, 0, 0, 0, 0, 0, 0, 0, 0]), (1, [0, 0, 0, 0, nI 0, 0, nI 0, 0, 0])]) (T' := [(38, [nI 1080, nI 1080, nI 1080, nI 1080, 0, 0, 0, 0, 0, 0, 0, 0]), (1, [0, 0, 0, 0, nI 0, 0, nI 0, 0, nI 1]), (38, [0, 0, 0, 0, 0, 0, 0, 0, 0, 0, 0, 0]), (1, [0, 0, 0, 0, nI 0, 0, nI 0, 0, 0])]) (L := [nI 1080, nI 1080, nI 1080, 0, 0, 0, 0, 0, 0, 0, 0, 0]) rfl (by decide) rfl (fun _ hx => (tl_ne hx).trans (tl_ne hx).symm)) ?_
  refine v_iincN (lv2 := [(1, .int (nI 4)), (0, .ref 1)]) K 1 dX8_init_93 rfl rfl (by decide) rfl ?_
  refine v_goto (tgt := 78) K dX8_init_96 rfl ?_
  refine v_iload_n K dX8_init_78 rfl ?_
  refine v_bipushN K 12 rfl dX8_init_79 ?_
  refine v_icmpN_ge (tgt := 99) K (by decide) (by decide) dX8_init_81 rfl (fun c => absurd c (by decide)) (fun _ => ?_)
  refine v_aload_n K dX8_init_84 rfl ?_
  refine v_getr (q := 38) K fX8_47 sh_1 (show 1 < 39 by decide) ((congrFun (CT_at (z := 0) (F := GL) (b := 1) (hi := 39) (f := g0) (a := 1) (T := [(1, [3, 21, 32, 37, 0, 38, 0, 39, 0])]) (L := [3, 21, 32, 37, 0, 38, 0, 39, 0]) rfl) 7).trans rfl) dX8_init_85 ?_
  refine v_iload_n K dX8_init_88 rfl ?_
  refine v_sipushN K 1080 rfl dX8_init_89 ?_
  refine v_iast K sh_38 (show 38 < 39 by decide) (by decide) dX8_init_92 ?_
  refine v_hq (CT_u2 (F := FH) (T := [(38, [nI 1080, nI 1080, nI 1080, nI 1080, 0, 0, 0, 0, 0, 0, 0, 0]), (1, [0, 0, 0, 0, nI 0, 0, nI 0, 0, nI 1]), (38, [0, 0, 0, 0, 0, 0, 0, 0, 0, 0, 0, 0]), (1, [0, 0, 0, 0, nI 0, 0, nI 0, 0, 0])]) (T' := [(38, [nI 1080, nI 1080, nI 1080, nI 1080, nI 1080, 0, 0, 0, 0, 0, 0, 0]), (1, [0, 0, 0, 0, nI 0, 0, nI 0, 0, nI 1]), (38, [0, 0, 0, 0, 0, 0, 0, 0, 0, 0, 0, 0]), (1, [0, 0, 0, 0, nI 0, 0, nI 0, 0, 0])]) (L := [nI 1080, nI 1080, nI 1080, nI 1080, 0, 0, 0, 0, 0, 0, 0, 0]) rfl (by decide) rfl (fun _ hx => (tl_ne hx).trans (tl_ne hx).symm)) ?_
  refine v_iincN (lv2 := [(1, .int (nI 5)), (0, .ref 1)]) K 1 dX8_init_93 rfl rfl (by decide) rfl ?_
  refine v_goto (tgt := 78) K dX8_init_96 rfl ?_
  refine v_iload_n K dX8_init_78 rfl ?_
  refine v_bipushN K 12 rfl dX8_init_79 ?_
  refine v_icmpN_ge (tgt := 99) K (by decide) (by decide) dX8_init_81 rfl (fun c => absurd c (by decide)) (fun _ => ?_)
  refine v_aload_n K dX8_init_84 rfl ?_
  refine v_getr (q := 38) K fX8_47 sh_1 (show 1 < 39 by decide) ((congrFun (CT_at (z := 0) (F := GL) (b := 1) (hi := 39) (f := g0) (a := 1) (T := [(1, [3, 21, 32, 37, 0, 38, 0, 39, 0])]) (L := [3, 21, 32, 37, 0, 38, 0, 39, 0]) rfl) 7).trans rfl) dX8_init_85 ?_
  refine v_iload_n K dX8_init_88 rfl ?_
  refine v_sipushN K 1080 rfl dX8_init_89 ?_
  refine v_iast K sh_38 (show 38 < 39 by decide) (by decide) dX8_init_92 ?_
  refine v_hq (CT_u2 (F := FH) (T := [(38, [nI 1080, nI 1080, nI 1080, nI 1080, nI 1080, 0, 0, 0, 0, 0, 0, 0]), (1, [0, 0, 0, 0, nI 0, 0, nI 0, 0, nI 1]), (38, [0, 0, 0, 0, 0, 0, 0, 0, 0, 0, 0, 0]), (1, [0, 0, 0, 0, nI 0, 0, nI 0, 0, 0])]) (T' := [(38, [nI 1080, nI 1080, nI 1080, nI 1080, nI 1080, nI 1080, 0, 0, 0, 0, 0, 0]), (1, [0, 0, 0, 0, nI 0, 0, nI 0, 0, nI 1]), (38, [0, 0, 0, 0, 0, 0, 0, 0, 0, 0, 0, 0]), (1, [0, 0, 0, 0, nI 0, 0, nI 0, 0, 0])]) (L := [nI 1080, nI 1080, nI 1080, nI 1080, nI 1080, 0, 0, 0, 0, 0, 0, 0]) rfl (by decide) rfl (fun _ hx => (tl_ne hx).trans (tl_ne hx).symm)) ?_
  refine v_iincN (lv2 := [(1, .int (nI 6)), (0, .ref 1)]) K 1 dX8_init_93 rfl rfl (by decide) rfl ?_
  refine v_goto (tgt := 78) K dX8_init_96 rfl ?_
  refine v_iload_n K dX8_init_78 rfl ?_
  refine v_bipushN K 12 rfl dX8_init_79 ?_
  refine v_icmpN_ge (tgt := 99) K (by decide) (by decide) dX8_init_81 rfl (fun c => absurd c (by decide)) (fun _ => ?_)
  refine v_aload_n K dX8_init_84 rfl ?_
  refine v_getr (q := 38) K fX8_47 sh_1 (show 1 < 39 by decide) ((congrFun (CT_at (z := 0) (F := GL) (b := 1) (hi := 39) (f := g0) (a := 1) (T := [(1, [3, 21, 32, 37, 0, 38, 0, 39, 0])]) (L := [3, 21, 32, 37, 0, 38, 0, 39, 0]) rfl) 7).trans rfl) dX8_init_85 ?_
  refine v_iload_n K dX8_init_88 rfl ?_
  refine v_sipushN K 1080 rfl dX8_init_89 ?_
  refine v_iast K sh_38 (show 38 < 39 by decide) (by decide) dX8_init_92 ?_
  refine v_hq (CT_u2 (F := FH) (T := [(38, [nI 1080, nI 1080, nI 1080, nI 1080, nI 1080, nI 1080, 0, 0, 0, 0, 0, 0]), (1, [0, 0, 0, 0, nI 0, 0, nI 0, 0, nI 1]), (38, [0, 0, 0, 0, 0, 0, 0, 0, 0, 0, 0, 0]), (1, [0, 0, 0, 0, nI 0, 0, nI 0, 0, 0])]) (T' := [(38, [nI 1080, nI 1080, nI 1080, nI 1080, nI 1080, nI 1080, nI 1080, 0, 0, 0, 0, 0]), (1, [0, 0, 0, 0, nI 0, 0, nI 0, 0, nI 1]), (38, [0, 0, 0, 0, 0, 0, 0, 0, 0, 0, 0, 0]), (1, [0, 0, 0, 0, nI 0, 0, nI 0, 0, 0])]) (L := [nI 1080, nI 1080, nI 1080, nI 1080, nI 1080, nI 1080, 0, 0, 0, 0, 0, 0]) rfl (by decide) rfl (fun _ hx => (tl_ne hx).trans (tl_ne hx).symm)) ?_
  refine v_iincN (lv2 := [(1, .int (nI 7)), (0, .ref 1)]) K 1 dX8_init_93 rfl rfl (by decide) rfl ?_
  refine v_goto (tgt := 78) K dX8_init_96 rfl ?_
  refine v_iload_n K dX8_init_78 rfl ?_
  refine v_bipushN K 12 rfl dX8_init_79 ?_
  refine v_icmpN_ge (tgt := 99) K (by decide) (by decide) dX8_init_81 rfl (fun c => absurd c (by decide)) (fun _ => ?_)
  refine v_aload_n K dX8_init_84 rfl ?_
  refine v_getr (q := 38) K fX8_47 sh_1 (show 1 < 39 by decide) ((congrFun (CT_at (z := 0) (F := GL) (b := 1) (hi := 39) (f := g0) (a := 1) (T := [(1, [3, 21, 32, 37, 0, 38, 0, 39, 0])]) (L := [3, 21, 32, 37, 0, 38, 0, 39, 0]) rfl) 7).trans rfl) dX8_init_85 ?_
  refine v_iload_n K dX8_init_88 rfl ?_
  refine v_sipushN K 1080 rfl dX8_init_89 ?_
  refine v_iast K sh_38 (show 38 < 39 by decide) (by decide) dX8_init_92 ?_
  refine v_hq (CT_u2 (F := FH) (T := [(38, [nI 1080, nI 1080, nI 1080, nI 1080, nI 1080, nI 1080, nI 1080, 0, 0, 0, 0, 0]), (1, [0, 0, 0, 0, nI 0, 0, nI 0, 0, nI 1]), (38, [0, 0, 0, 0, 0, 0, 0, 0, 0, 0, 0, 0]), (1, [0, 0, 0, 0, nI 0, 0, nI 0, 0, 0])]) (T' := [(38, [nI 1080, nI 1080, nI 1080, nI 1080, nI 1080, nI 1080, nI 1080, nI 1080, 0, 0, 0, 0]), (1, [0, 0, 0, 0, nI 0, 0, nI 0, 0, nI 1]), (38, [0, 0, 0, 0, 0, 0, 0, 0, 0, 0, 0, 0]), (1, [0, 0, 0, 0, nI 0, 0, nI 0, 0, 0])]) (L := [nI 1080, nI 1080, nI 1080, nI 1080, nI 1080, nI 1080, nI 1080, 0, 0, 0, 0, 0]) rfl (by decide) rfl (fun _ hx => (tl_ne hx).trans (tl_ne hx).symm)) ?_
  refine v_iincN (lv2 := [(1, .int (nI 8)), (0, .ref 1)]) K 1 dX8_init_93 rfl rfl (by decide) rfl ?_
  refine v_goto (tgt := 78) K dX8_init_96 rfl ?_
  refine v_iload_n K dX8_init_78 rfl ?_
  refine v_bipushN K 12 rfl dX8_init_79 ?_
  refine v_icmpN_ge (tgt := 99) K (by decide) (by decide) dX8_init_81 rfl (fun c => absurd c (by decide)) (fun _ => ?_)
  refine v_aload_n K dX8_init_84 rfl ?_
  refine v_getr (q := 38) K fX8_47 sh_1 (show 1 < 39 by decide) ((congrFun (CT_at (z := 0) (F := GL) (b := 1) (hi := 39) (f := g0) (a := 1) (T := [(1, [3, 21, 32, 37, 0, 38, 0, 39, 0])]) (L := [3, 21, 32, 37, 0, 38, 0, 39, 0]) rfl) 7).trans rfl) dX8_init_85 ?_
  refine v_iload_n K dX8_init_88 rfl ?_
  refine v_sipushN K 1080 rfl dX8_init_89 ?_
  refine v_iast K sh_38 (show 38 < 39 by decide) (by decide) dX8_init_92 ?_
  refine v_hq (CT_u2 (F := FH) (T := [(38, [nI 1080, nI 1080, nI 1080, nI 1080, nI 1080, nI 1080, nI 1080, nI 1080, 0, 0, 0, 0]), (1, [0, 0, 0, 0, nI 0, 0, nI 0, 0, nI 1]), (38, [0, 0, 0, 0, 0, 0, 0, 0, 0, 0, 0, 0]), (1, [0, 0, 0, 0, nI 0, 0, nI 0, 0, 0])]) (T' := [(38, [nI 1080, nI 1080, nI 1080, nI 1080, nI 1080, nI 1080, nI 1080, nI 1080, nI 1080, 0, 0, 0]), (1, [0, 0, 0, 0, nI 0, 0, nI 0, 0, nI 1]), (38, [0, 0, 0, 0, 0, 0, 0, 0, 0, 0, 0, 0]), (1, [0, 0, 0, 0, nI 0, 0, nI 0, 0, 0])]) (L := [nI 1080, nI 1080, nI 1080, nI 1080, nI 1080, nI 1080, nI 1080, nI 1080, 0, 0, 0, 0]) rfl (by decide) rfl (fun _ hx => (tl_ne hx).trans (tl_ne hx).symm)) ?_
  refine v_iincN (lv2 := [(1, .int (nI 9)), (0, .ref 1)]) K 1 dX8_init_93 rfl rfl (by decide) rfl ?_
  refine v_goto (tgt := 78) K dX8_init_96 rfl ?_
  refine v_iload_n K dX8_init_78 rfl ?_
  refine v_bipushN K 12 rfl dX8_init_79 ?_
  refine v_icmpN_ge (tgt := 99) K (by decide) (by decide) dX8_init_81 rfl (fun c => absurd c (by decide)) (fun _ => ?_)
  refine v_aload_n K dX8_init_84 rfl ?_
  refine v_getr (q := 38) K fX8_47 sh_1 (show 1 < 39 by decide) ((congrFun (CT_at (z := 0) (F := GL) (b := 1) (hi := 39) (f := g0) (a := 1) (T := [(1, [3, 21, 32, 37, 0, 38, 0, 39, 0])]) (L := [3, 21, 32, 37, 0, 38, 0, 39, 0]) rfl) 7).trans rfl) dX8_init_85 ?_
  refine v_iload_n K dX8_init_88 rfl ?_
  refine v_sipushN K 1080 rfl dX8_init_89 ?_
  refine v_iast K sh_38 (show 38 < 39 by decide) (by decide) dX8_init_92 ?_
  refine v_hq (CT_u2 (F := FH) (T := [(38, [nI 1080, nI 1080, nI 1080, nI 1080, nI 1080, nI 1080, nI 1080, nI 1080, nI 1080, 0, 0, 0]), (1, [0, 0, 0, 0, nI 0, 0, nI 0, 0, nI 1]), (38, [0, 0, 0, 0, 0, 0, 0, 0, 0, 0, 0, 0]), (1, [0, 0, 0, 0, nI 0, 0, nI 0, 0, 0])]) (T' := [(38, [nI 1080, nI 1080, nI 1080, nI 1080, nI 1080, nI 1080, nI 1080, nI 1080, nI 1080, nI 1080, 0, 0]), (1, [0, 0, 0, 0, nI 0, 0, nI 0, 0, nI 1]), (38, [0, 0, 0, 0, 0, 0, 0, 0, 0, 0, 0, 0]), (1, [0, 0, 0, 0, nI 0, 0, nI 0, 0, 0])]) (L := [nI 1080, nI 1080, nI 1080, nI 1080, nI 1080, nI 1080, nI 1080, nI 1080, nI 1080, 0, 0, 0]) rfl (by decide) rfl (fun _ hx => (tl_ne hx).trans (tl_ne hx).symm)) ?_
  refine v_iincN (lv2 := [(1, .int (nI 10)), (0, .ref 1)]) K 1 dX8_init_93 rfl rfl (by decide) rfl ?_
  refine v_goto (tgt := 78) K dX8_init_96 rfl ?_
  refine v_iload_n K dX8_init_78 rfl ?_
  refine v_bipushN K 12 rfl dX8_init_79 ?_
  refine v_icmpN_ge (tgt := 99) K (by decide) (by decide) dX8_init_81 rfl (fun c => absurd c (by decide)) (fun _ => ?_)
  refine v_aload_n K dX8_init_84 rfl ?_
  refine v_getr (q := 38) K fX8_47 sh_1 (show 1 < 39 by decide) ((congrFun (CT_at (z := 0) (F := GL) (b := 1) (hi := 39) (f := g0) (a := 1) (T := [(1, [3, 21, 32, 37, 0, 38, 0, 39, 0])]) (L := [3, 21, 32, 37, 0, 38, 0, 39, 0]) rfl) 7).trans rfl) dX8_init_85 ?_
  refine v_iload_n K dX8_init_88 rfl ?_
  refine v_sipushN K 1080 rfl dX8_init_89 ?_
  refine v_iast K sh_38 (show 38 < 39 by decide) (by decide) dX8_init_92 ?_
  refine v_hq (CT_u2 (F := FH) (T := [(38, [nI 1080, nI 1080, nI 1080, nI 1080, nI 1080, nI 1080, nI 1080, nI 1080, nI 1080, nI 1080, 0, 0]), (1, [0, 0, 0, 0, nI 0, 0, nI 0, 0, nI 1]), (38, [0, 0, 0, 0, 0, 0, 0, 0, 0, 0, 0, 0]), (1, [0, 0, 0, 0, nI 0, 0, nI 0, 0, 0])]) (T' := [(38, [nI 1080, nI 1080, nI 1080, nI 1080, nI 1080, nI 1080, nI 1080, nI 1080, nI 1080, nI 1080, nI 1080, 0]), (1, [0, 0, 0, 0, nI 0, 0, nI 0, 0, nI 1]), (38, [0, 0, 0, 0, 0, 0, 0, 0, 0, 0, 0, 0]), (1, [0, 0, 0, 0, nI 0, 0, nI 0, 0, 0])]) (L := [nI 1080, nI 1080, nI 1080, nI 1080, nI 1080, nI 1080, nI 1080, nI 1080, nI 1080, nI 1080, 0, 0]) rfl (by decide) rfl (fun _ hx => (tl_ne hx).trans (tl_ne hx).symm)) ?_
  refine v_iincN (lv2 := [(1, .int (nI 11)), (0, .ref 1)]) K 1 dX8_init_93 rfl rfl (by decide) rfl ?_
  refine v_goto (tgt := 78) K dX8_init_96 rfl ?_
  refine v_iload_n K dX8_init_78 rfl ?_
  refine v_bipushN K 12 rfl dX8_init_79 ?_
  refine v_icmpN_ge (tgt := 99) K (by decide) (by decide) dX8_init_81 rfl (fun c => absurd c (by decide)) (fun _ => ?_)
  refine v_aload_n K dX8_init_84 rfl ?_
  refine v_getr (q := 38) K fX8_47 sh_1 (show 1 < 39 by decide) ((congrFun (CT_at (z := 0) (F := GL) (b := 1) (hi := 39) (f := g0) (a := 1) (T := [(1, [3, 21, 32, 37, 0, 38, 0, 39, 0])]) (L := [3, 21, 32, 37, 0, 38, 0, 39, 0]) rfl) 7).trans rfl) dX8_init_85 ?_
  refine v_iload_n K dX8_init_88 rfl ?_
  refine v_sipushN K 1080 rfl dX8_init_89 ?_
  refine v_iast K sh_38 (show 38 < 39 by decide) (by decide) dX8_init_92 ?_
  refine v_hq (CT_u2 (F := FH) (T := [(38, [nI 1080, nI 1080, nI 1080, nI 1080, nI 1080, nI 1080, nI 1080, nI 1080, nI 1080, nI 1080, nI 1080, 0]), (1, [0, 0, 0, 0, nI 0, 0, nI 0, 0, nI 1]), (38, [0, 0, 0, 0, 0, 0, 0, 0, 0, 0, 0, 0]), (1, [0, 0, 0, 0, nI 0, 0, nI 0, 0, 0])]) (T' := [(38, [nI 1080, nI 1080, nI 1080, nI 1080, nI 1080, nI 1080, nI 1080, nI 1080, nI 1080, nI 1080, nI 1080, nI 1080]), (1, [0, 0, 0, 0, nI 0, 0, nI 0, 0, nI 1]), (38, [0, 0, 0, 0, 0, 0, 0, 0, 0, 0, 0, 0]), (1, [0, 0, 0, 0, nI 0, 0, nI 0, 0, 0])]) (L := [nI 1080, nI 1080, nI 1080, nI 1080, nI 1080, nI 1080, nI 1080, nI 1080, nI 1080, nI 1080, nI 1080, 0]) rfl (by decide) rfl (fun _ hx => (tl_ne hx).trans (tl_ne hx).symm)) ?_
  refine v_iincN (lv2 := [(1, .int (nI 12)), (0, .ref 1)]) K 1 dX8_init_93 rfl rfl (by decide) rfl ?_
  refine v_goto (tgt := 78) K dX8_init_96 rfl ?_
  refine v_iload_n K dX8_init_78 rfl ?_
  refine v_bipushN K 12 rfl dX8_init_79 ?_
  refine v_icmpN_ge (tgt := 99) K (by decide) (by decide) dX8_init_81 rfl (fun _ => ?_) (fun c => absurd c (by decide))
  exact v_vretA K dX8_init_99 B14 (CT_off (by decide) (by decide)) (CT_fin tN_eq (fun _ => rfl) (by decide +kernel) rfl) (W0.ct (by decide) (by decide) (by decide) (by decide +kernel) (by decide +kernel)) (FF_fin (by decide) (by decide) (by decide +kernel) rfl)

theorem cA_X1_init_40 {l : Launch} {g0 : Gm} {h0 : Mm} (A0 : MK 40 41 g0 h0) : ConA l yX1_init cX1_init 1 1 60 17 92 41 40 58 g0 h0 [.ref 40] (fun h2 => h2 = FF 40 58 h0) := by
  have W0 := A0.1
  have hz := A0.2.2.2.2
  refine ConA.ofV (own := "FoxRounds$House") (nm := "<init>") rfl rfl (by decide) (by decide) ?_
  intro κ ρ hkl K
  subst hkl
  show V κ (QMA κ 41 40 58 ρ g0 (fun h2 => h2 = FF 40 58 h0) 17 92) 1 (41, ρ, g0, 0, 0) h0 0 [(0, .ref 40)] []
  refine v_sw (n := 41) (c := 0) (z := 0) (g' := (CT 0 GL 40 41 [(40, [0, 0, 0, 0, 0, 0, 0, 0, 0])] g0)) (h' := (CT 0 FH 40 41 [(40, [0, 0, 0, 0, 0, 0, 0, 0, 0])] h0)) (A0.s1 (by decide)) (A0.s2 (by decide)) ?_
  refine v_aload_n K dX1_init_0 rfl ?_
  refine v_objInit K oi_X1 oi_m oi_c ⟨by decide, by decide⟩ (by decide) dX1_init_1 ?_
  refine v_aload_n K dX1_init_4 rfl ?_
  refine v_bipushN K 8 rfl dX1_init_5 ?_
  refine v_newa K pl_41 sh_41 (CT_new (by decide) (hz 41 (by decide)).2) (Or.inl ⟨rfl, rfl⟩) (fun k => congrFun (CT_new (by decide) (hz 41 (by decide)).1) k) (W0.ct (by decide) (by decide) (by decide) (by decide +kernel) (by decide +kernel)) (by decide) rfl rfl wa_int ⟨by decide, by decide⟩ dX1_init_7 (fun ρ1 A1 => ?_)
  have B1 := AGR.t (AGR.r (n := 41) (ρ := ρ)) A1 (by decide)
  refine v_sw (n := 42) (c := 1) (z := 8) (g' := (CT 0 GL 40 42 [(40, [0, 0, 0, 0, 0, 0, 0, 0, 0])] g0)) (h' := (CT 0 FH 40 42 [(41, [0, 0, 0, 0, 0, 0, 0, 0]), (40, [0, 0, 0, 0, 0, 0, 0, 0, 0])] h0)) (CT_grow (by decide) (by decide) (by decide) (fun a h => (hz a (Nat.le_trans (by decide) h)).1) (GLz (by decide +kernel))) (CT_push (by decide) (hz 41 (by decide)).2 (zrI (by decide))) ?_
  have cs2 := CT_set (z := 0) (F := GL) (b := 40) (hi := 42) (f := g0) (T := [(40, [0, 0, 0, 0, 0, 0, 0, 0, 0])]) (T' := [(40, [42, 0, 0, 0, 0, 0, 0, 0, 0])]) (L := [0, 0, 0, 0, 0, 0, 0, 0, 0]) (k := 0) (v := 41 + 1) rfl (by decide) rfl (fun _ hx => (tl_ne hx).trans (tl_ne hx).symm)
  refine v_putg (g' := (CT 0 GL 40 42 [(40, [42, 0, 0, 0, 0, 0, 0, 0, 0])] g0)) K pX1_9 (fun _ => rfl) (Or.inr ⟨_, rfl⟩) sh_40 (show 40 < 42 by decide) cs2.1 (fun j _ hj => cs2.2.1 j hj) (fun x _ hx => cs2.2.2 x hx) dX1_init_9 ?_
  refine v_aload_n K dX1_init_12 rfl ?_
  refine v_iconstN K 0 rfl dX1_init_13 ?_
  refine v_puti K pX1_15 sh_40 (show 40 < 42 by decide) dX1_init_14 ?_
  refine v_hq (CT_u2 (F := FH) (T := [(41, [0, 0, 0, 0, 0, 0, 0, 0]), (40, [0, 0, 0, 0, 0, 0, 0, 0, 0])]) (T' := [(40, [0, nI 0, 0, 0, 0, 0, 0, 0, 0]), (41, [0, 0, 0, 0, 0, 0, 0, 0]), (40, [0, 0, 0, 0, 0, 0, 0, 0, 0])]) (L := [0, 0, 0, 0, 0, 0, 0, 0, 0]) rfl (by decide) rfl (fun _ hx => tl_ne hx)) ?_
  refine v_aload_n K dX1_init_17 rfl ?_
  refine v_iconstN K 0 rfl dX1_init_18 ?_
  refine v_puti K pX1_19 sh_40 (show 40 < 42 by decide) dX1_init_19 ?_
  refine v_hq (CT_u2 (F := FH) (T := [(40, [0, nI 0, 0, 0, 0, 0, 0, 0, 0]), (41, [0, 0, 0, 0, 0, 0, 0, 0]), (40, [0, 0, 0, 0, 0, 0, 0, 0, 0])]) (T' := [(40, [0, nI 0, nI 0, 0, 0, 0, 0, 0, 0]), (41, [0, 0, 0, 0, 0, 0, 0, 0]), (40, [0, 0, 0, 0, 0, 0, 0, 0, 0])]) (L := [0, nI 0, 0, 0, 0, 0, 0, 0, 0]) rfl (by decide) rfl (fun _ hx => (tl_ne hx).trans (tl_ne hx).symm)) ?_
  refine v_aload_n K dX1_init_22 rfl ?_
  refine v_bipushN K 8 rfl dX1_init_23 ?_
  refine v_bipushN K 6 rfl dX1_init_25 ?_
  refine v_multi (g' := (CT 0 GL 40 51 [(40, [42, 0, 0, 0, 0, 0, 0, 0, 0])] g0)) K (by decide) sh_42 (show ∀ i, i < 8 → SH (42 + 1 + i) = (2, 0, 6) by decide +kernel) (fun i hi => (congrFun (CT_in (tl_hi (n := 42) (by decide) (Nat.le_refl _)) ⟨by decide, by decide⟩) i).trans ((show ∀ i, i < 8 → GL 42 i = 42 + 1 + i + 1 by decide +kernel) i hi)) (CT_lt (by decide)) (fun i hi => (CT_far (by decide) (by omega)).trans (hz _ (by omega)).2) (W0.ct (by decide) (by decide) (by decide) (by decide +kernel) (by decide +kernel)) rfl rfl clX1_22 wa_int (by decide) (by decide) ⟨by decide, by decide⟩ dX1_init_27 (fun ρ3 A3 => ?_)
  have B3 := AGR.t B1 A3 (by decide)
  refine v_sw (n := 51) (c := 10) (z := 64) (g' := (CT 0 GL 40 51 [(40, [42, 0, 0, 0, 0, 0, 0, 0, 0])] g0)) (h' := (CT 0 FH 40 51 [(40, [0, nI 0, nI 0, 0, 0, 0, 0, 0, 0]), (41, [0, 0, 0, 0, 0, 0, 0, 0]), (40, [0, 0, 0, 0, 0, 0, 0, 0, 0])] h0)) (fun _ _ => rfl) (CT_grow (by decide) (by decide) (by decide) (fun a h => (hz a (Nat.le_trans (by decide) h)).2) (FHz (by decide +kernel))) ?_
  have cs4 := CT_set (z := 0) (F := GL) (b := 40) (hi := 51) (f := g0) (T := [(40, [42, 0, 0, 0, 0, 0, 0, 0, 0])]) (T' := [(40, [42, 0, 0, 43, 0, 0, 0, 0, 0])]) (L := [42, 0, 0, 0, 0, 0, 0, 0, 0]) (k := 3) (v := 42 + 1) rfl (by decide) rfl (fun _ hx => (tl_ne hx).trans (tl_ne hx).symm)
  refine v_putg (g' := (CT 0 GL 40 51 [(40, [42, 0, 0, 43, 0, 0, 0, 0, 0])] g0)) K pX1_24 (fun _ => rfl) (Or.inr ⟨_, rfl⟩) sh_40 (show 40 < 51 by decide) cs4.1 (fun j _ hj => cs4.2.1 j hj) (fun x _ hx => cs4.2.2 x hx) dX1_init_31 ?_
  refine v_aload_n K dX1_init_34 rfl ?_
  refine v_iconstN K 0 rfl dX1_init_35 ?_
  refine v_puti K pX1_27 sh_40 (show 40 < 51 by decide) dX1_init_36 ?_
  refine v_hq (CT_u2 (F := FH) (T := [(40, [0, nI 0, nI 0, 0, 0, 0, 0, 0, 0]), (41, [0, 0, 0, 0, 0, 0, 0, 0]), (40, [0, 0, 0, 0, 0, 0, 0, 0, 0])]) (T' := [(40, [0, nI 0, nI 0, 0, nI 0, 0, 0, 0, 0]), (41, [0, 0, 0, 0, 0, 0, 0, 0]), (40, [0, 0, 0, 0, 0, 0, 0, 0, 0])]) (L := [0, nI 0, nI 0, 0, 0, 0, 0, 0, 0]) rfl (by decide) rfl (fun _ hx => (tl_ne hx).trans (tl_ne hx).symm)) ?_
  refine v_aload_n K dX1_init_39 rfl ?_
  refine v_iconstN K 5 rfl dX1_init_40 ?_
  refine v_iconstN K 3 rfl dX1_init_41 ?_
  refine v_multi (g' := (CT 0 GL 40 57 [(40, [42, 0, 0, 43, 0, 0, 0, 0, 0])] g0)) K (by decide) sh_51 (show ∀ i, i < 5 → SH (51 + 1 + i) = (2, 0, 3) by decide +kernel) (fun i hi => (congrFun (CT_in (tl_hi (n := 51) (by decide) (Nat.le_refl _)) ⟨by decide, by decide⟩) i).trans ((show ∀ i, i < 5 → GL 51 i = 51 + 1 + i + 1 by decide +kernel) i hi)) (CT_lt (by decide)) (fun i hi => (CT_far (by decide) (by omega)).trans (hz _ (by omega)).2) (W0.ct (by decide) (by decide) (by decide) (by decide +kernel) (by decide +kernel)) rfl rfl clX1_22 wa_int (by decide) (by decide) ⟨by decide, by decide⟩ dX1_init_42 (fun ρ5 A5 => ?_)
  have B5 := AGR.t B3 A5 (by decide)
  refine v_sw (n := 57) (c := 16) (z := 84) (g' := (CT 0 GL 40 57 [(40, [42, 0, 0, 43, 0, 0, 0, 0, 0])] g0)) (h' := (CT 0 FH 40 57 [(40, [0, nI 0, nI 0, 0, nI 0, 0, 0, 0, 0]), (41, [0, 0, 0, 0, 0, 0, 0, 0]), (40, [0, 0, 0, 0, 0, 0, 0, 0, 0])] h0)) (fun _ _ => rfl) (CT_grow (by decide) (by decide) (by decide) (fun a h => (hz a (Nat.le_trans (by decide) h)).2) (FHz (by decide +kernel))) ?_
  have cs6 := CT_set (z := 0) (F := GL) (b := 40) (hi := 57) (f := g0) (T := [(40, [42, 0, 0, 43, 0, 0, 0, 0, 0])]) (T' := [(40, [42, 0, 0, 43, 0, 52, 0, 0, 0])]) (L := [42, 0, 0, 43, 0, 0, 0, 0, 0]) (k := 5) (v := 51 + 1) rfl (by decide) rfl (fun _ hx => (tl_ne hx).trans (tl_ne hx).symm)
  refine v_putg (g' := (CT 0 GL 40 57 [(40, [42, 0, 0, 43, 0, 52, 0, 0, 0])] g0)) K pX1_30 (fun _ => rfl) (Or.inr ⟨_, rfl⟩) sh_40 (show 40 < 57 by decide) cs6.1 (fun j _ hj => cs6.2.1 j hj) (fun x _ hx => cs6.2.2 x hx) dX1_init_46 ?_
  refine v_aload_n K dX1_init_49 rfl ?_
  refine v_iconstN K 0 rfl dX1_init_50 ?_
  refine v_puti K pX1_33 sh_40 (show 40 < 57 by decide) dX1_init_51 ?_
  refine v_hq (CT_u2 (F := FH) (T := [(40, [0, nI 0, nI 0, 0, nI 0, 0, 0, 0, 0]), (41, [0, 0, 0, 0, 0, 0, 0, 0]), (40, [0, 0, 0, 0, 0, 0, 0, 0, 0])]) (T' := [(40, [0, nI 0, nI 0, 0, nI 0, 0, nI 0, 0, 0]), (41, [0, 0, 0, 0, 0, 0, 0, 0]), (40, [0, 0, 0, 0, 0, 0, 0, 0, 0])]) (L := [0, nI 0, nI 0, 0, nI 0, 0, 0, 0, 0]) rfl (by decide) rfl (fun _ hx => (tl_ne hx).trans (tl_ne hx).symm)) ?_
  refine v_aload_n K dX1_init_54 rfl ?_
  refine v_iconst (v := (-1)) K dX1_init_55 (by decide) ?_
  refine v_puti K pX1_36 sh_40 (show 40 < 57 by decide) dX1_init_56 ?_
  refine v_hq (CT_u2 (F := FH) (T := [(40, [0, nI 0, nI 0, 0, nI 0, 0, nI 0, 0, 0]), (41, [0, 0, 0, 0, 0, 0, 0, 0]), (40, [0, 0, 0, 0, 0, 0, 0, 0, 0])]) (T' := [(40, [0, nI 0, nI 0, 0, nI 0, 0, nI 0, (-1), 0]), (41, [0, 0, 0, 0, 0, 0, 0, 0]), (40, [0, 0, 0, 0, 0, 0, 0, 0, 0])]) (L := [0, nI 0, nI 0, 0, nI 0, 0, nI 0, 0, 0]) rfl (by decide) rfl (fun _ hx => (tl_ne hx).trans (tl_ne hx).symm)) ?_
  refine v_aload_n K dX1_init_59 rfl ?_
  refine v_bipushN K 8 rfl dX1_init_60 ?_
  refine v_newa K pl_57 sh_57 (CT_new (by decide) (hz 57 (by decide)).2) (Or.inl ⟨rfl, rfl⟩) (fun k => congrFun (CT_new (by decide) (hz 57 (by decide)).1) k) (W0.ct (by decide) (by decide) (by decide) (by decide +kernel) (by decide +kernel)) (by decide) rfl rfl wa_int ⟨by decide, by decide⟩ dX1_init_62 (fun ρ7 A7 => ?_)
  have B7 := AGR.t B5 A7 (by decide)
  refine v_sw (n := 58) (c := 17) (z := 92) (g' := (CT 0 GL 40 58 [(40, [42, 0, 0, 43, 0, 52, 0, 0, 0])] g0)) (h' := (CT 0 FH 40 58 [(40, [0, nI 0, nI 0, 0, nI 0, 0, nI 0, (-1), 0]), (41, [0, 0, 0, 0, 0, 0, 0, 0]), (40, [0, 0, 0, 0, 0, 0, 0, 0, 0])] h0)) (CT_grow (by decide) (by decide) (by decide) (fun a h => (hz a (Nat.le_trans (by decide) h)).1) (GLz (by decide +kernel))) (CT_grow (by decide) (by decide) (by decide) (fun a h => (hz a (Nat.le_trans (by decide) h)).2) (FHz (by decide +kernel))) ?_
  have cs8 := CT_set (z := 0) (F := GL) (b := 40) (hi := 58) (f := g0) (T := [(40, [42, 0, 0, 43, 0, 52, 0, 0, 0])]) (T' := [(40, [42, 0, 0, 43, 0, 52, 0, 0, 58])]) (L := [42, 0, 0, 43, 0, 52, 0, 0, 0]) (k := 8) (v := 57 + 1) rfl (by decide) rfl (fun _ hx => (tl_ne hx).trans (tl_ne hx).symm)
  refine v_putg (g' := (CT 0 GL 40 58 [(40, [42, 0, 0, 43, 0, 52, 0, 0, 58])] g0)) K pX1_39 (fun _ => rfl) (Or.inr ⟨_, rfl⟩) sh_40 (show 40 < 58 by decide) cs8.1 (fun j _ hj => cs8.2.1 j hj) (fun x _ hx => cs8.2.2 x hx) dX1_init_64 ?_
  refine v_getsN (j := 3) K (by decide) sX1_42 dX1_init_67 ?_
  refine v_iconstN K 0 rfl dX1_init_70 ?_
  refine v_aload_n K dX1_init_71 rfl ?_
  refine v_getr (q := 41) K fX1_9 sh_40 (show 40 < 58 by decide) ((congrFun (CT_at (z := 0) (F := GL) (b := 40) (hi := 58) (f := g0) (a := 40) (T := [(40, [42, 0, 0, 43, 0, 52, 0, 0, 58])]) (L := [42, 0, 0, 43, 0, 52, 0, 0, 58]) rfl) 0).trans rfl) dX1_init_72 ?_
  refine v_iconstN K 0 rfl dX1_init_75 ?_
  refine v_aload_n K dX1_init_76 rfl ?_
  refine v_getr (q := 41) K fX1_9 sh_40 (show 40 < 58 by decide) ((congrFun (CT_at (z := 0) (F := GL) (b := 40) (hi := 58) (f := g0) (a := 40) (T := [(40, [42, 0, 0, 43, 0, 52, 0, 0, 58])]) (L := [42, 0, 0, 43, 0, 52, 0, 0, 58]) rfl) 0).trans rfl) dX1_init_77 ?_
  refine v_alen (N := 8) K sh_41 (by decide) (show 41 < 58 by decide) dX1_init_80 ?_
  refine v_copyS (j := 3) K jX1_45 jna_copy jst_copy jin_sys (by decide) sh_41 (show 41 < 58 by decide) (by decide) (by decide) ⟨by decide, by decide +kernel⟩ (by decide) dX1_init_81 ?_
  refine v_hq (CT_cpy (F := FH) (T := [(40, [0, nI 0, nI 0, 0, nI 0, 0, nI 0, (-1), 0]), (41, [0, 0, 0, 0, 0, 0, 0, 0]), (40, [0, 0, 0, 0, 0, 0, 0, 0, 0])]) (T' := [(41, [nI 11, nI 1, nI 20, nI 0, nI 0, nI 480, nI 20, nI 30]), (40, [0, nI 0, nI 0, 0, nI 0, 0, nI 0, (-1), 0]), (41, [0, 0, 0, 0, 0, 0, 0, 0]), (40, [0, 0, 0, 0, 0, 0, 0, 0, 0])]) (L := [0, 0, 0, 0, 0, 0, 0, 0]) rfl (by decide) rfl (fun _ hx => tl_ne hx) rfl (by decide +kernel)) ?_
  exact v_vretA K dX1_init_84 B7 (CT_off (by decide) (by decide)) (CT_fin tN_eq (fun _ => rfl) (by decide +kernel) rfl) (W0.ct (by decide) (by decide) (by decide) (by decide +kernel) (by decide +kernel)) (FF_fin (by decide) (by decide) (by decide +kernel) rfl)

theorem cA_X5_init_59 {l : Launch} {g0 : Gm} {h0 : Mm} (A0 : MK 59 60 g0 h0) : ConA l yX5_init cX5_init 3 1 21 2 100 60 59 62 g0 h0 [.ref 59, .ref (1000 + 4)] (fun h2 => h2 = FF 59 62 h0) := by
  have W0 := A0.1
  have hz := A0.2.2.2.2
  refine ConA.ofV (own := "FoxRounds$Text") (nm := "<init>") rfl rfl (by decide) (by decide) ?_
  intro κ ρ hkl K
  subst hkl
  show V κ (QMA κ 60 59 62 ρ g0 (fun h2 => h2 = FF 59 62 h0) 2 100) 3 (60, ρ, g0, 0, 0) h0 0 [(0, .ref 59), (1, .ref (1000 + 4))] []
  refine v_sw (n := 60) (c := 0) (z := 0) (g' := (CT 0 GL 59 60 [(59, [0, 0, 0])] g0)) (h' := (CT 0 FH 59 60 [(59, [0, 0, 0])] h0)) (A0.s1 (by decide)) (A0.s2 (by decide)) ?_
  refine v_aload_n K dX5_init_0 rfl ?_
  refine v_objInit K oi_X5 oi_m oi_c ⟨by decide, by decide⟩ (by decide) dX5_init_1 ?_
  refine v_aload_n K dX5_init_4 rfl ?_
  refine v_bipushN K 50 rfl dX5_init_5 ?_
  refine v_newa K pl_60 sh_60 (CT_new (by decide) (hz 60 (by decide)).2) (Or.inl ⟨rfl, rfl⟩) (fun k => congrFun (CT_new (by decide) (hz 60 (by decide)).1) k) (W0.ct (by decide) (by decide) (by decide) (by decide +kernel) (by decide +kernel)) (by decide) rfl rfl wa_int ⟨by decide, by decide⟩ dX5_init_7 (fun ρ1 A1 => ?_)
  have B1 := AGR.t (AGR.r (n := 60) (ρ := ρ)) A1 (by decide)
  refine v_sw (n := 61) (c := 1) (z := 50) (g' := (CT 0 GL 59 61 [(59, [0, 0, 0])] g0)) (h' := (CT 0 FH 59 61 [(60, [0, 0, 0, 0, 0]), (59, [0, 0, 0])] h0)) (CT_grow (by decide) (by decide) (by decide) (fun a h => (hz a (Nat.le_trans (by decide) h)).1) (GLz (by decide +kernel))) (CT_push (by decide) (hz 60 (by decide)).2 (zrI (by decide))) ?_
  have cs2 := CT_set (z := 0) (F := GL) (b := 59) (hi := 61) (f := g0) (T := [(59, [0, 0, 0])]) (T' := [(59, [61, 0, 0])]) (L := [0, 0, 0]) (k := 0) (v := 60 + 1) rfl (by decide) rfl (fun _ hx => (tl_ne hx).trans (tl_ne hx).symm)
  refine v_putg (g' := (CT 0 GL 59 61 [(59, [61, 0, 0])] g0)) K pX5_9 (fun _ => rfl) (Or.inr ⟨_, rfl⟩) sh_59 (show 59 < 61 by decide) cs2.1 (fun j _ hj => cs2.2.1 j hj) (fun x _ hx => cs2.2.2 x hx) dX5_init_9 ?_
  refine v_aload_n K dX5_init_12 rfl ?_
  refine v_iconstN K 0 rfl dX5_init_13 ?_
  refine v_puti K pX5_15 sh_59 (show 59 < 61 by decide) dX5_init_14 ?_
  refine v_hq (CT_u2 (F := FH) (T := [(60, [0, 0, 0, 0, 0]), (59, [0, 0, 0])]) (T' := [(59, [0, nI 0, 0]), (60, [0, 0, 0, 0, 0]), (59, [0, 0, 0])]) (L := [0, 0, 0]) rfl (by decide) rfl (fun _ hx => tl_ne hx)) ?_
  refine v_aload_n K dX5_init_17 rfl ?_
  refine v_bipushN K 50 rfl dX5_init_18 ?_
  refine v_newa K pl_61 sh_61 (CT_new (by decide) (hz 61 (by decide)).2) (Or.inl ⟨rfl, rfl⟩) (fun k => congrFun (CT_new (by decide) (hz 61 (by decide)).1) k) (W0.ct (by decide) (by decide) (by decide) (by decide +kernel) (by decide +kernel)) (by decide) rfl rfl wa_int ⟨by decide, by decide⟩ dX5_init_20 (fun ρ3 A3 => ?_)
  have B3 := AGR.t B1 A3 (by decide)
  refine v_sw (n := 62) (c := 2) (z := 100) (g' := (CT 0 GL 59 62 [(59, [61, 0, 0])] g0)) (h' := (CT 0 FH 59 62 [(59, [0, nI 0, 0]), (60, [0, 0, 0, 0, 0]), (59, [0, 0, 0])] h0)) (CT_grow (by decide) (by decide) (by decide) (fun a h => (hz a (Nat.le_trans (by decide) h)).1) (GLz (by decide +kernel))) (CT_grow (by decide) (by decide) (by decide) (fun a h => (hz a (Nat.le_trans (by decide) h)).2) (FHz (by decide +kernel))) ?_
  have cs4 := CT_set (z := 0) (F := GL) (b := 59) (hi := 62) (f := g0) (T := [(59, [61, 0, 0])]) (T' := [(59, [61, 0, 62])]) (L := [61, 0, 0]) (k := 2) (v := 61 + 1) rfl (by decide) rfl (fun _ hx => (tl_ne hx).trans (tl_ne hx).symm)
  refine v_putg (g' := (CT 0 GL 59 62 [(59, [61, 0, 62])] g0)) K pX5_19 (fun _ => rfl) (Or.inr ⟨_, rfl⟩) sh_59 (show 59 < 62 by decide) cs4.1 (fun j _ hj => cs4.2.1 j hj) (fun x _ hx => cs4.2.2 x hx) dX5_init_22 ?_
  refine v_iconstN K 0 rfl dX5_init_25 ?_
  refine v_istore_n (lv2 := [(2, .int (nI 0)), (0, .ref 59), (1, .ref (1000 + 4))]) K dX5_init_26 (by decide) rfl ?_
  refine v_iload_n K dX5_init_27 rfl ?_
  refine v_aload_n K dX5_init_28 rfl ?_
  refine v_slen (j := 4) K (by decide) dX5_init_29 ?_
  refine v_top (y := nI 5) rfl ?_
  refine v_icmpN_ge (tgt := 46) K (by decide) (by decide) dX5_init_30 rfl (fun c => absurd c (by decide)) (fun _ => ?_)
  refine v_aload_n K dX5_init_33 rfl ?_
  refine v_aload_n K dX5_init_34 rfl ?_
  refine v_iload_n K dX5_init_35 rfl ?_
  refine v_sald (j := 4) (x := (-1)) K (by decide) (by decide) (by decide) dX5_init_36 ?_
  refine v_callVc (As := [.int ((-1))]) K (c_addM (n := 62) (g := (CT 0 GL 59 62 [(59, [61, 0, 62])] g0)) (CT 0 FH 59 62 [(59, [0, nI 0, 0]), (60, [0, 0, 0, 0, 0]), (59, [0, 0, 0])] h0) 59 60 0 ((-1)) sh_59 (by decide) sh_60 (by decide) ((congrFun (CT_at (z := 0) (F := GL) (b := 59) (hi := 62) (f := g0) (T := [(59, [61, 0, 62])]) (L := [61, 0, 62]) rfl) 0).trans rfl) ((congrFun (CT_at (z := 0) (F := FH) (b := 59) (hi := 62) (f := h0) (T := [(59, [0, nI 0, 0]), (60, [0, 0, 0, 0, 0]), (59, [0, 0, 0])]) (L := [0, nI 0, 0]) rfl) 1).trans rfl) (by decide)) lX5_22 ck_X5 rfl sh_59 (by decide) rfl ⟨by decide, by decide⟩ ⟨by decide, by decide⟩ (by decide) dX5_init_37 (fun r hh hp => ?_) rfl
  obtain ⟨rfl, rfl⟩ := hp
  refine v_none ?_
  refine v_hq (congrArg (fun h => u2 h 59 1 (nI (0 + 1))) (CT_u2 (F := FH) (T := [(59, [0, nI 0, 0]), (60, [0, 0, 0, 0, 0]), (59, [0, 0, 0])]) (T' := [(60, [(-1), 0, 0, 0, 0]), (59, [0, nI 0, 0]), (60, [0, 0, 0, 0, 0]), (59, [0, 0, 0])]) (L := [0, 0, 0, 0, 0]) rfl (by decide) rfl (fun _ hx => tl_ne hx))) ?_
  refine v_hq (CT_u2 (F := FH) (T := [(60, [(-1), 0, 0, 0, 0]), (59, [0, nI 0, 0]), (60, [0, 0, 0, 0, 0]), (59, [0, 0, 0])]) (T' := [(59, [0, nI 1, 0]), (60, [(-1), 0, 0, 0, 0]), (59, [0, nI 0, 0]), (60, [0, 0, 0, 0, 0]), (59, [0, 0, 0])]) (L := [0, nI 0, 0]) rfl (by decide) rfl (fun _ hx => tl_ne hx)) ?_
  refine v_iincN (lv2 := [(2, .int (nI 1)), (0, .ref 59), (1, .ref (1000 + 4))]) K 1 dX5_init_40 rfl rfl (by decide) rfl ?_
  refine v_goto (tgt := 27) K dX5_init_43 rfl ?_
  refine v_iload_n K dX5_init_27 rfl ?_
  refine v_aload_n K dX5_init_28 rfl ?_
  refine v_slen (j := 4) K (by decide) dX5_init_29 ?_
  refine v_top (y := nI 5) rfl ?_
  refine v_icmpN_ge (tgt := 46) K (by decide) (by decide) dX5_init_30 rfl (fun c => absurd c (by decide)) (fun _ => ?_)
  refine v_aload_n K dX5_init_33 rfl ?_
  refine v_aload_n K dX5_init_34 rfl ?_
  refine v_iload_n K dX5_init_35 rfl ?_
  refine v_sald (j := 4) (x := (-2)) K (by decide) (by decide) (by decide) dX5_init_36 ?_
  refine v_callVc (As := [.int ((-2))]) K (c_addM (n := 62) (g := (CT 0 GL 59 62 [(59, [61, 0, 62])] g0)) (CT 0 FH 59 62 [(59, [0, nI 1, 0]), (60, [(-1), 0, 0, 0, 0]), (59, [0, nI 0, 0]), (60, [0, 0, 0, 0, 0]), (59, [0, 0, 0])] h0) 59 60 1 ((-2)) sh_59 (by decide) sh_60 (by decide) ((congrFun (CT_at (z := 0) (F := GL) (b := 59) (hi := 62) (f := g0) (T := [(59, [61, 0, 62])]) (L := [61, 0, 62]) rfl) 0).trans rfl) ((congrFun (CT_at (z := 0) (F := FH) (b := 59) (hi := 62) (f := h0) (T := [(59, [0, nI 1, 0]), (60, [(-1), 0, 0, 0, 0]), (59, [0, nI 0, 0]), (60, [0, 0, 0, 0, 0]), (59, [0, 0, 0])]) (L := [0, nI 1, 0]) rfl) 1).trans rfl) (by decide)) lX5_22 ck_X5 rfl sh_59 (by decide) rfl ⟨by decide, by decide⟩ ⟨by decide, by decide⟩ (by decide) dX5_init_37 (fun r hh hp => ?_) rfl
  obtain ⟨rfl, rfl⟩ := hp
  refine v_none ?_
  refine v_hq (congrArg (fun h => u2 h 59 1 (nI (1 + 1))) (CT_u2 (F := FH) (T := [(59, [0, nI 1, 0]), (60, [(-1), 0, 0, 0, 0]), (59, [0, nI 0, 0]), (60, [0, 0, 0, 0, 0]), (59, [0, 0, 0])]) (T' := [(60, [(-1), (-2), 0, 0, 0]), (59, [0, nI 1, 0]), (60, [(-1), 0, 0, 0, 0]), (59, [0, nI 0, 0]), (60, [0, 0, 0, 0, 0]), (59, [0, 0, 0])]) (L := [(-1), 0, 0, 0, 0]) rfl (by decide) rfl (fun _ hx => tl_ne hx))) ?_
  refine v_hq (CT_u2 (F := FH) (T := [(60, [(-1), (-2), 0, 0, 0]), (59, [0, nI 1, 0]), (60, [(-1), 0, 0, 0, 0]), (59, [0, nI 0, 0]), (60, [0, 0, 0, 0, 0]), (59, [0, 0, 0])]) (T' := [(59, [0, nI 2, 0]), (60, [(-1), (-2), 0, 0, 0]), (59, [0, nI 1, 0]), (60, [(-1), 0, 0, 0, 0]), (59, [0, nI 0, 0]), (60, [0, 0, 0, 0, 0]), (59, [0, 0, 0])]) (L := [0, nI 1, 0]) rfl (by decide) rfl (fun _ hx => tl_ne hx)) ?_
  refine v_iincN (lv2 := [(2, .int (nI 2)), (0, .ref 59), (1, .ref (1000 + 4))]) K 1 dX5_init_40 rfl rfl (by decide) rfl ?_
  refine v_goto (tgt := 27) K dX5_init_43 rfl ?_
  refine v_iload_n K dX5_init_27 rfl ?_
  refine v_aload_n K dX5_init_28 rfl ?_
  refine v_slen (j := 4) K (by decide) dX5_init_29 ?_
  refine v_top (y := nI 5) rfl ?_
  refine v_icmpN_ge (tgt := 46) K (by decide) (by decide) dX5_init_30 rfl (fun c => absurd c (by decide)) (fun _ => ?_)
  refine v_aload_n K dX5_init_33 rfl ?_
  refine v_aload_n K dX5_init_34 rfl ?_
  refine v_iload_n K dX5_init_35 rfl ?_
  refine v_sald (j := 4) (x := (-43)) K (by decide) (by decide) (by decide) dX5_init_36 ?_
  refine v_callVc (As := [.int ((-43))]) K (c_addM (n := 62) (g := (CT 0 GL 59 62 [(59, [61, 0, 62])] g0)) (CT 0 FH 59 62 [(59, [0, nI 2, 0]), (60, [(-1), (-2), 0, 0, 0]), (59, [0, nI 1, 0]), (60, [(-1), 0, 0, 0, 0]), (59, [0, nI 0, 0]), (60, [0, 0, 0, 0, 0]), (59, [0, 0, 0])] h0) 59 60 2 ((-43)) sh_59 (by decide) sh_60 (by decide) ((congrFun (CT_at (z := 0) (F := GL) (b := 59) (hi := 62) (f := g0) (T := [(59, [61, 0, 62])]) (L := [61, 0, 62]) rfl) 0).trans rfl) ((congrFun (CT_at (z := 0) (F := FH) (b := 59) (hi := 62) (f := h0) (T := [(59, [0, nI 2, 0]), (60, [(-1), (-2), 0, 0, 0]), (59, [0, nI 1, 0]), (60, [(-1), 0, 0, 0, 0]), (59, [0, nI 0, 0]), (60, [0, 0, 0, 0, 0]), (59, [0, 0, 0])]) (L := [0, nI 2, 0]) rfl) 1).trans rfl) (by decide)) lX5_22 ck_X5 rfl sh_59 (by decide) rfl ⟨by decide, by decide⟩ ⟨by decide, by decide⟩ (by decide) dX5_init_37 (fun r hh hp => ?_) rfl
  obtain ⟨rfl, rfl⟩ := hp
  refine v_none ?_
  refine v_hq (congrArg (fun h => u2 h 59 1 (nI (2 + 1))) (CT_u2 (F := FH) (T := [(59, [0, nI 2, 0]), (60, [(-1), (-2), 0, 0, 0]), (59, [0, nI 1, 0]), (60, [(-1), 0, 0, 0, 0]), (59, [0, nI 0, 0]), (60, [0, 0, 0, 0, 0]), (59, [0, 0, 0])]) (T' := [(60, [(-1), (-2), (-43), 0, 0]), (59, [0, nI 2, 0]), (60, [(-1), (-2), 0, 0, 0]), (59, [0, nI 1, 0]), (60, [(-1), 0, 0, 0, 0]), (59, [0, nI 0, 0]), (60, [0, 0, 0, 0, 0]), (59, [0, 0, 0])]) (L := [(-1), (-2), 0, 0, 0]) rfl (by decide) rfl (fun _ hx => tl_ne hx))) ?_
  refine v_hq (CT_u2 (F := FH) (T := [(60, [(-1), (-2), (-43), 0, 0]), (59, [0, nI 2, 0]), (60, [(-1), (-2), 0, 0, 0]), (59, [0, nI 1, 0]), (60, [(-1), 0, 0, 0, 0]), (59, [0, nI 0, 0]), (60, [0, 0, 0, 0, 0]), (59, [0, 0, 0])]) (T' := [(59, [0, nI 3, 0]), (60, [(-1), (-2), (-43), 0, 0]), (59, [0, nI 2, 0]), (60, [(-1), (-2), 0, 0, 0]), (59, [0, nI 1, 0]), (60, [(-1), 0, 0, 0, 0]), (59, [0, nI 0, 0]), (60, [0, 0, 0, 0, 0]), (59, [0, 0, 0])]) (L := [0, nI 2, 0]) rfl (by decide) rfl (fun _ hx => tl_ne hx)) ?_
  refine v_iincN (lv2 := [(2, .int (nI 3)), (0, .ref 59), (1, .ref (1000 + 4))]) K 1 dX5_init_40 rfl rfl (by decide) rfl ?_
  refine v_goto (tgt := 27) K dX5_init_43 rfl ?_
  refine v_iload_n K dX5_init_27 rfl ?_
  refine v_aload_n K dX5_init_28 rfl ?_
  refine v_slen (j := 4) K (by decide) dX5_init_29 ?_
  refine v_top (y := nI 5) rfl ?_
  refine v_icmpN_ge (tgt := 46) K (by decide) (by decide) dX5_init_30 rfl (fun c => absurd c (by decide)) (fun _ => ?_)
  refine v_aload_n K dX5_init_33 rfl ?_
  refine v_aload_n K dX5_init_34 rfl ?_
  refine v_iload_n K dX5_init_35 rfl ?_
  refine v_sald (j := 4) (x := nI 99) K (by decide) (by decide) (by decide) dX5_init_36 ?_
  refine v_callVc (As := [.int (nI 99)]) K (c_addM (n := 62) (g := (CT 0 GL 59 62 [(59, [61, 0, 62])] g0)) (CT 0 FH 59 62 [(59, [0, nI 3, 0]), (60, [(-1), (-2), (-43), 0, 0]), (59, [0, nI 2, 0]), (60, [(-1), (-2), 0, 0, 0]), (59, [0, nI 1, 0]), (60, [(-1), 0, 0, 0, 0]), (59, [0, nI 0, 0]), (60, [0, 0, 0, 0, 0]), (59, [0, 0, 0])] h0) 59 60 3 (nI 99) sh_59 (by decide) sh_60 (by decide) ((congrFun (CT_at (z := 0) (F := GL) (b := 59) (hi := 62) (f := g0) (T := [(59, [61, 0, 62])]) (L := [61, 0, 62]) rfl) 0).trans rfl) ((congrFun (CT_at (z := 0) (F := FH) (b := 59) (hi := 62) (f := h0) (T := [(59, [0, nI 3, 0]), (60, [(-1), (-2), (-43), 0, 0]), (59, [0, nI 2, 0]), (60, [(-1), (-2), 0, 0, 0]), (59, [0, nI 1, 0]), (60, [(-1), 0, 0, 0, 0]), (59, [0, nI 0, 0]), (60, [0, 0, 0, 0, 0]), (59, [0, 0, 0])]) (L := [0, nI 3, 0]) rfl) 1).trans rfl) (by decide)) lX5_22 ck_X5 rfl sh_59 (by decide) rfl ⟨by decide, by decide⟩ ⟨by decide, by decide⟩ (by decide) dX5_init_37 (fun r hh hp => ?_) rfl
  obtain ⟨rfl, rfl⟩ := hp
  refine v_none ?_
  refine v_hq (congrArg (fun h => u2 h 59 1 (nI (3 + 1))) (CT_u2 (F := FH) (T := [(59, [0, nI 3, 0]), (60, [(-1), (-2), (-43), 0, 0]), (59, [0, nI 2, 0]), (60, [(-1), (-2), 0, 0, 0]), (59, [0, nI 1, 0]), (60, [(-1), 0, 0, 0, 0]), (59, [0, nI 0, 0]), (60, [0, 0, 0, 0, 0]), (59, [0, 0, 0])]) (T' := [(60, [(-1), (-2), (-43), nI 99, 0]), (59, [0, nI 3, 0]), (60, [(-1), (-2), (-43), 0, 0]), (59, [0, nI 2, 0]), (60, [(-1), (-2), 0, 0, 0]), (59, [0, nI 1, 0]), (60, [(-1), 0, 0, 0, 0]), (59, [0, nI 0, 0]), (60, [0, 0, 0, 0, 0]), (59, [0, 0, 0])]) (L := [(-1), (-2), (-43), 0, 0]) rfl (by decide) rfl (fun _ hx => tl_ne hx))) ?_
  refine v_hq (CT_u2 (F := FH) (T := [(60, [(-1), (-2), (-43), nI 99, 0]), (59, [0, nI 3, 0]), (60, [(-1), (-2), (-43), 0, 0]), (59, [0, nI 2, 0]), (60, [(-1), (-2), 0, 0, 0]), (59, [0, nI 1, 0]), (60, [(-1), 0, 0, 0, 0]), (59, [0, nI 0, 0]), (60, [0, 0, 0, 0, 0]), (59, [0, 0, 0])]) (T' := [(59, [0, nI 4, 0]), (60, [(-1), (-2), (-43), nI 99, 0]), (59, [0, nI 3, 0]), (60, [(-1), (-2), (-43), 0, 0]), (59, [0, nI 2, 0]), (60, [(-1), (-2), 0, 0, 0]), (59, [0, nI 1, 0]), (60, [(-1), 0, 0, 0, 0]), (59, [0, nI 0, 0]), (60, [0, 0, 0, 0, 0]), (59, [0, 0, 0])]) (L := [0, nI 3, 0]) rfl (by decide) rfl (fun _ hx => tl_ne hx)) ?_
  refine v_iincN (lv2 := [(2, .int (nI 4)), (0, .ref 59), (1, .ref (1000 + 4))]) K 1 dX5_init_40 rfl rfl (by decide) rfl ?_
  refine v_goto (tgt := 27) K dX5_init_43 rfl ?_
  refine v_iload_n K dX5_init_27 rfl ?_
  refine v_aload_n K dX5_init_28 rfl ?_
  refine v_slen (j := 4) K (by decide) dX5_init_29 ?_
  refine v_top (y := nI 5) rfl ?_
  refine v_icmpN_ge (tgt := 46) K (by decide) (by decide) dX5_init_30 rfl (fun c => absurd c (by decide)) (fun _ => ?_)
  refine v_aload_n K dX5_init_33 rfl ?_
  refine v_aload_n K dX5_init_34 rfl ?_
  refine v_iload_n K dX5_init_35 rfl ?_
  refine v_sald (j := 4) (x := (-62)) K (by decide) (by decide) (by decide) dX5_init_36 ?_
  refine v_callVc (As := [.int ((-62))]) K (c_addM (n := 62) (g := (CT 0 GL 59 62 [(59, [61, 0, 62])] g0)) (CT 0 FH 59 62 [(59, [0, nI 4, 0]), (60, [(-1), (-2), (-43), nI 99, 0]), (59, [0, nI 3, 0]), (60, [(-1), (-2), (-43), 0, 0]), (59, [0, nI 2, 0]), (60, [(-1), (-2), 0, 0, 0]), (59, [0, nI 1, 0]), (60, [(-1), 0, 0, 0, 0]), (59, [0, nI 0, 0]), (60, [0, 0, 0, 0, 0]), (59, [0, 0, 0])] h0) 59 60 4 ((-62)) sh_59 (by decide) sh_60 (by decide) ((congrFun (CT_at (z := 0) (F := GL) (b := 59) (hi := 62) (f := g0) (T := [(59, [61, 0, 62])]) (L := [61, 0, 62]) rfl) 0).trans rfl) ((congrFun (CT_at (z := 0) (F := FH) (b := 59) (hi := 62) (f := h0) (T := [(59, [0, nI 4, 0]), (60, [(-1), (-2), (-43), nI 99, 0]), (59, [0, nI 3, 0]), (60, [(-1), (-2), (-43), 0, 0]), (59, [0, nI 2, 0]), (60, [(-1), (-2), 0, 0, 0]), (59, [0, nI 1, 0]), (60, [(-1), 0, 0, 0, 0]), (59, [0, nI 0, 0]), (60, [0, 0, 0, 0, 0]), (59, [0, 0, 0])]) (L := [0, nI 4, 0]) rfl) 1).trans rfl) (by decide)) lX5_22 ck_X5 rfl sh_59 (by decide) rfl ⟨by decide, by decide⟩ ⟨by decide, by decide⟩ (by decide) dX5_init_37 (fun r hh hp => ?_) rfl
  obtain ⟨rfl, rfl⟩ := hp
  refine v_none ?_
  refine v_hq (congrArg (fun h => u2 h 59 1 (nI (4 + 1))) (CT_u2 (F := FH) (T := [(59, [0, nI 4, 0]), (60, [(-1), (-2), (-43), nI 99, 0]), (59, [0, nI 3, 0]), (60, [(-1), (-2), (-43), 0, 0]), (59, [0, nI 2, 0]), (60, [(-1), (-2), 0, 0, 0]), (59, [0, nI 1, 0]), (60, [(-1), 0, 0, 0, 0]), (59, [0, nI 0, 0]), (60, [0, 0, 0, 0, 0]), (59, [0, 0, 0])]) (T' := [(60, [(-1), (-2), (-43), nI 99, (-62)]), (59, [0, nI 4, 0]), (60, [(-1), (-2), (-43), nI 99, 0]), (59, [0, nI 3, 0]), (60, [(-1), (-2), (-43), 0, 0]), (59, [0, nI 2, 0]), (60, [(-1), (-2), 0, 0, 0]), (59, [0, nI 1, 0]), (60, [(-1), 0, 0, 0, 0]), (59, [0, nI 0, 0]), (60, [0, 0, 0, 0, 0]), (59, [0, 0, 0])]) (L := [(-1), (-2), (-43), nI 99, 0]) rfl (by decide) rfl (fun _ hx => tl_ne hx))) ?_
  refine v_hq (CT_u2 (F := FH) (T := [(60, [(-1), (-2), (-43), nI 99, (-62)]), (59, [0, nI 4, 0]), (60, [(-1), (-2), (-43), nI 99, 0]), (59, [0, nI 3, 0]), (60, [(-1), (-2), (-43), 0, 0]), (59, [0, nI 2, 0]), (60, [(-1), (-2), 0, 0, 0]), (59, [0, nI 1, 0]), (60, [(-1), 0, 0, 0, 0]), (59, [0, nI 0, 0]), (60, [0, 0, 0, 0, 0]), (59, [0, 0, 0])]) (T' := [(59, [0, nI 5, 0]), (60, [(-1), (-2), (-43), nI 99, (-62)]), (59, [0, nI 4, 0]), (60, [(-1), (-2), (-43), nI 99, 0]), (59, [0, nI 3, 0]), (60, [(-1), (-2), (-43), 0, 0]), (59, [0, nI 2, 0]), (60, [(-1), (-2), 0, 0, 0]), (59, [0, nI 1, 0]), (60, [(-1), 0, 0, 0, 0]), (59, [0, nI 0, 0]), (60, [0, 0, 0, 0, 0]), (59, [0, 0, 0])]) (L := [0, nI 4, 0]) rfl (by decide) rfl (fun _ hx => tl_ne hx)) ?_
  refine v_iincN (lv2 := [(2, .int (nI 5)), (0, .ref 59), (1, .ref (1000 + 4))]) K 1 dX5_init_40 rfl rfl (by decide) rfl ?_
  refine v_goto (tgt := 27) K dX5_init_43 rfl ?_
  refine v_iload_n K dX5_init_27 rfl ?_
  refine v_aload_n K dX5_init_28 rfl ?_
  refine v_slen (j := 4) K (by decide) dX5_init_29 ?_
  refine v_top (y := nI 5) rfl ?_
  refine v_icmpN_ge (tgt := 46) K (by decide) (by decide) dX5_init_30 rfl (fun _ => ?_) (fun c => absurd c (by decide))
  exact v_vretA K dX5_init_46 B3 (CT_off (by decide) (by decide)) (CT_fin tN_eq (fun _ => rfl) (by decide +kernel) rfl) (W0.ct (by decide) (by decide) (by decide) (by decide +kernel) (by decide +kernel)) (FF_fin (by decide) (by decide) (by decide +kernel) rfl)

theorem cA_X5_init_62 {l : Launch} {g0 : Gm} {h0 : Mm} (A0 : MK 62 63 g0 h0) : ConA l yX5_init cX5_init 3 1 21 2 100 63 62 65 g0 h0 [.ref 62, .ref (1000 + 5)] (fun h2 => h2 = FF 62 65 h0) := by
  have W0 := A0.1
  have hz := A0.2.2.2.2
  refine ConA.ofV (own := "FoxRounds$Text") (nm := "<init>") rfl rfl (by decide) (by decide) ?_
  intro κ ρ hkl K
  subst hkl
  show V κ (QMA κ 63 62 65 ρ g0 (fun h2 => h2 = FF 62 65 h0) 2 100) 3 (63, ρ, g0, 0, 0) h0 0 [(0, .ref 62), (1, .ref (1000 + 5))] []
  refine v_sw (n := 63) (c := 0) (z := 0) (g' := (CT 0 GL 62 63 [(62, [0, 0, 0])] g0)) (h' := (CT 0 FH 62 63 [(62, [0, 0, 0])] h0)) (A0.s1 (by decide)) (A0.s2 (by decide)) ?_
  refine v_aload_n K dX5_init_0 rfl ?_
  refine v_objInit K oi_X5 oi_m oi_c ⟨by decide, by decide⟩ (by decide) dX5_init_1 ?_
  refine v_aload_n K dX5_init_4 rfl ?_
  refine v_bipushN K 50 rfl dX5_init_5 ?_
  refine v_newa K pl_63 sh_63 (CT_new (by decide) (hz 63 (by decide)).2) (Or.inl ⟨rfl, rfl⟩) (fun k => congrFun (CT_new (by decide) (hz 63 (by decide)).1) k) (W0.ct (by decide) (by decide) (by decide) (by decide +kernel) (by decide +kernel)) (by decide) rfl rfl wa_int ⟨by decide, by decide⟩ dX5_init_7 (fun ρ1 A1 => ?_)
  have B1 := AGR.t (AGR.r (n := 63) (ρ := ρ)) A1 (by decide)
  refine v_sw (n := 64) (c := 1) (z := 50) (g' := (CT 0 GL 62 64 [(62, [0, 0, 0])] g0)) (h' := (CT 0 FH 62 64 [(63, [0, 0, 0, 0, 0, 0, 0, 0, 0]), (62, [0, 0, 0])] h0)) (CT_grow (by decide) (by decide) (by decide) (fun a h => (hz a (Nat.le_trans (by decide) h)).1) (GLz (by decide +kernel))) (CT_push (by decide) (hz 63 (by decide)).2 (zrI (by decide))) ?_
  have cs2 := CT_set (z := 0) (F := GL) (b := 62) (hi := 64) (f := g0) (T := [(62, [0, 0, 0])]) (T' := [(62, [64, 0, 0])]) (L := [0, 0, 0]) (k := 0) (v := 63 + 1) rfl (by decide) rfl (fun _ hx => (tl_ne hx).trans (tl_ne hx).symm)
  refine v_putg (g' := (CT 0 GL 62 64 [(62, [64, 0, 0])] g0)) K pX5_9 (fun _ => rfl) (Or.inr ⟨_, rfl⟩) sh_62 (show 62 < 64 by decide) cs2.1 (fun j _ hj => cs2.2.1 j hj) (fun x _ hx => cs2.2.2 x hx) dX5_init_9 ?_
  refine v_aload_n K dX5_init_12 rfl ?_
  refine v_iconstN K 0 rfl dX5_init_13 ?_
  refine v_puti K pX5_15 sh_62 (show 62 < 64 by decide) dX5_init_14 ?_
  refine v_hq (CT_u2 (F := FH) (T := [(63, [0, 0, 0, 0, 0, 0, 0, 0, 0]), (62, [0, 0, 0])]) (T' := [(62, [0, nI 0, 0]), (63, [0, 0, 0, 0, 0, 0, 0, 0, 0]), (62, [0, 0, 0])]) (L := [0, 0, 0]) rfl (by decide) rfl (fun _ hx => tl_ne hx)) ?_
  refine v_aload_n K dX5_init_17 rfl ?_
  refine v_bipushN K 50 rfl dX5_init_18 ?_
  refine v_newa K pl_64 sh_64 (CT_new (by decide) (hz 64 (by decide)).2) (Or.inl ⟨rfl, rfl⟩) (fun k => congrFun (CT_new (by decide) (hz 64 (by decide)).1) k) (W0.ct (by decide) (by decide) (by decide) (by decide +kernel) (by decide +kernel)) (by decide) rfl rfl wa_int ⟨by decide, by decide⟩ dX5_init_20 (fun ρ3 A3 => ?_)
  have B3 := AGR.t B1 A3 (by decide)
  refine v_sw (n := 65) (c := 2) (z := 100) (g' := (CT 0 GL 62 65 [(62, [64, 0, 0])] g0)) (h' := (CT 0 FH 62 65 [(62, [0, nI 0, 0]), (63, [0, 0, 0, 0, 0, 0, 0, 0, 0]), (62, [0, 0, 0])] h0)) (CT_grow (by decide) (by decide) (by decide) (fun a h => (hz a (Nat.le_trans (by decide) h)).1) (GLz (by decide +kernel))) (CT_grow (by decide) (by decide) (by decide) (fun a h => (hz a (Nat.le_trans (by decide) h)).2) (FHz (by decide +kernel))) ?_
  have cs4 := CT_set (z := 0) (F := GL) (b := 62) (hi := 65) (f := g0) (T := [(62, [64, 0, 0])]) (T' := [(62, [64, 0, 65])]) (L := [64, 0, 0]) (k := 2) (v := 64 + 1) rfl (by decide) rfl (fun _ hx => (tl_ne hx).trans (tl_ne hx).symm)
  refine v_putg (g' := (CT 0 GL 62 65 [(62, [64, 0, 65])] g0)) K pX5_19 (fun _ => rfl) (Or.inr ⟨_, rfl⟩) sh_62 (show 62 < 65 by decide) cs4.1 (fun j _ hj => cs4.2.1 j hj) (fun x _ hx => cs4.2.2 x hx) dX5_init_22 ?_
  refine v_iconstN K 0 rfl dX5_init_25 ?_
  refine v_istore_n (lv2 := [(2, .int (nI 0)), (0, .ref 62), (1, .ref (1000 + 5))]) K dX5_init_26 (by decide) rfl ?_
  refine v_iload_n K dX5_init_27 rfl ?_
  refine v_aload_n K dX5_init_28 rfl ?_
  refine v_slen (j := 5) K (by decide) dX5_init_29 ?_
  refine v_top (y := nI 9) rfl ?_
  refine v_icmpN_ge (tgt := 46) K (by decide) (by decide) dX5_init_30 rfl (fun c => absurd c (by decide)) (fun _ => ?_)
  refine v_aload_n K dX5_init_33 rfl ?_
  refine v_aload_n K dX5_init_34 rfl ?_
  refine v_iload_n K dX5_init_35 rfl ?_
  refine v_sald (j := 5) (x := (-2)) K (by decide) (by decide) (by decide) dX5_init_36 ?_
  refine v_callVc (As := [.int ((-2))]) K (c_addM (n := 65) (g := (CT 0 GL 62 65 [(62, [64, 0, 65])] g0)) (CT 0 FH 62 65 [(62, [0, nI 0, 0]), (63, [0, 0, 0, 0, 0, 0, 0, 0, 0]), (62, [0, 0, 0])] h0) 62 63 0 ((-2)) sh_62 (by decide) sh_63 (by decide) ((congrFun (CT_at (z := 0) (F := GL) (b := 62) (hi := 65) (f := g0) (T := [(62, [64, 0, 65])]) (L := [64, 0, 65]) rfl) 0).trans rfl) ((congrFun (CT_at (z := 0) (F := FH) (b := 62) (hi := 65) (f := h0) (T := [(62, [0, nI 0, 0]), (63, [0, 0, 0, 0, 0, 0, 0, 0, 0]), (62, [0, 0, 0])]) (L := [0, nI 0, 0]) rfl) 1).trans rfl) (by decide)) lX5_22 ck_X5 rfl sh_62 (by decide) rfl ⟨by decide, by decide⟩ ⟨by decide, by decide⟩ (by decide) dX5_init_37 (fun r hh hp => ?_) rfl
  obtain ⟨rfl, rfl⟩ := hp
  refine v_none ?_
  refine v_hq (congrArg (fun h => u2 h 62 1 (nI (0 + 1))) (CT_u2 (F := FH) (T := [(62, [0, nI 0, 0]), (63, [0, 0, 0, 0, 0, 0, 0, 0, 0]), (62, [0, 0, 0])]) (T' := [(63, [(-2), 0, 0, 0, 0, 0, 0, 0, 0]), (62, [0, nI 0, 0]), (63, [0, 0, 0, 0, 0, 0, 0, 0, 0]), (62, [0, 0, 0])]) (L := [0, 0, 0, 0, 0, 0, 0, 0, 0]) rfl (by decide) rfl (fun _ hx => tl_ne hx))) ?_
  refine v_hq (CT_u2 (F := FH) (T := [(63, [(-2), 0, 0, 0, 0, 0, 0, 0, 0]), (62, [0, nI 0, 0]), (63, [0, 0, 0, 0, 0, 0, 0, 0, 0]), (62, [0, 0, 0])]) (T' := [(62, [0, nI 1, 0]), (63, [(-2), 0, 0, 0, 0, 0, 0, 0, 0]), (62, [0, nI 0, 0]), (63, [0, 0, 0, 0, 0, 0, 0, 0, 0]), (62, [0, 0, 0])]) (L := [0, nI 0, 0]) rfl (by decide) rfl (fun _ hx => tl_ne hx)) ?_
  refine v_iincN (lv2 := [(2, .int (nI 1)), (0, .ref 62), (1, .ref (1000 + 5))]) K 1 dX5_init_40 rfl rfl (by decide) rfl ?_
  refine v_goto (tgt := 27) K dX5_init_43 rfl ?_
  refine v_iload_n K dX5_init_27 rfl ?_
  refine v_aload_n K dX5_init_28 rfl ?_
  refine v_slen (j := 5) K (by decide) dX5_init_29 ?_
  refine v_top (y := nI 9) rfl ?_
  refine v_icmpN_ge (tgt := 46) K (by decide) (by decide) dX5_init_30 rfl (fun c => absurd c (by decide)) (fun _ => ?_)
  refine v_aload_n K dX5_init_33 rfl ?_
  refine v_aload_n K dX5_init_34 rfl ?_
  refine v_iload_n K dX5_init_35 rfl ?_
  refine v_sald (j := 5) (x := nI 3) K (by decide) (by decide) (by decide) dX5_init_36 ?_
  refine v_callVc (As := [.int (nI 3)]) K (c_addM (n := 65) (g := (CT 0 GL 62 65 [(62, [64, 0, 65])] g0)) (CT 0 FH 62 65 [(62, [0, nI 1, 0]), (63, [(-2), 0, 0, 0, 0, 0, 0, 0, 0]), (62, [0, nI 0, 0]), (63, [0, 0, 0, 0, 0, 0, 0, 0, 0]), (62, [0, 0, 0])] h0) 62 63 1 (nI 3) sh_62 (by decide) sh_63 (by decide) ((congrFun (CT_at (z := 0) (F := GL) (b := 62) (hi := 65) (f := g0) (T := [(62, [64, 0, 65])]) (L := [64, 0, 65]) rfl) 0).trans rfl) ((congrFun (CT_at (z := 0) (F := FH) (b := 62) (hi := 65) (f := h0) (T := [(62, [0, nI 1, 0]), (63, [(-2), 0, 0, 0, 0, 0, 0, 0, 0]), (62, [0, nI 0, 0]), (63, [0, 0, 0, 0, 0, 0, 0, 0, 0]), (62, [0, 0, 0])]) (L := [0, nI 1, 0]) rfl) 1).trans rfl) (by decide)) lX5_22 ck_X5 rfl sh_62 (by decide) rfl ⟨by decide, by decide⟩ ⟨by decide, by decide⟩ (by decide) dX5_init_37 (fun r hh hp => ?_) rfl
  obtain ⟨rfl, rfl⟩ := hp
  refine v_none ?_
  refine v_hq (congrArg (fun h => u2 h 62 1 (nI (1 + 1))) (CT_u2 (F := FH) (T := [(62, [0, nI 1, 0]), (63, [(-2), 0, 0, 0, 0, 0, 0, 0, 0]), (62, [0, nI 0, 0]), (63, [0, 0, 0, 0, 0, 0, 0, 0, 0]), (62, [0, 0, 0])]) (T' := [(63, [(-2), nI 3, 0, 0, 0, 0, 0, 0, 0]), (62, [0, nI 1, 0]), (63, [(-2), 0, 0, 0, 0, 0, 0, 0, 0]), (62, [0, nI 0, 0]), (63, [0, 0, 0, 0, 0, 0, 0, 0, 0]), (62, [0, 0, 0])]) (L := [(-2), 0, 0, 0, 0, 0, 0, 0, 0]) rfl (by decide) rfl (fun _ hx => tl_ne hx))) ?_
  refine v_hq (CT_u2 (F := FH) (T := [(63, [(-2), nI 3, 0, 0, 0, 0, 0, 0, 0]), (62, [0, nI 1, 0]), (63, [(-2), 0, 0, 0, 0, 0, 0, 0, 0]), (62, [0, nI 0, 0]), (63, [0, 0, 0, 0, 0, 0, 0, 0, 0]), (62, [0, 0, 0])]) (T' := [(62, [0, nI 2, 0]), (63, [(-2), nI 3, 0, 0, 0, 0, 0, 0, 0]), (62, [0, nI 1, 0]), (63, [(-2), 0, 0, 0, 0, 0, 0, 0, 0]), (62, [0, nI 0, 0]), (63, [0, 0, 0, 0, 0, 0, 0, 0, 0]), (62, [0, 0, 0])]) (L := [0, nI 1, 0]) rfl (by decide) rfl (fun _ hx => tl_ne hx)) ?_
  refine v_iincN (lv2 := [(2, .int (nI 2)), (0, .ref 62), (1, .ref (1000 + 5))]) K 1 dX5_init_40 rfl rfl (by decide) rfl ?_
  refine v_goto (tgt := 27) K dX5_init_43 rfl ?_
  refine v_iload_n K dX5_init_27 rfl ?_
  refine v_aload_n K dX5_init_28 rfl ?_
  refine v_slen (j := 5) K (by decide) dX5_init_29 ?_
  refine v_top (y := nI 9) rfl ?_
  refine v_icmpN_ge (tgt := 46) K (by decide) (by decide) dX5_init_30 rfl (fun c => absurd c (by decide)) (fun _ => ?_)
  refine v_aload_n K dX5_init_33 rfl ?_
  refine v_aload_n K dX5_init_34 rfl ?_
  refine v_iload_n K dX5_init_35 rfl ?_
  refine v_sald (j := 5) (x := (-42)) K (by decide) (by decide) (by decide) dX5_init_36 ?_
  refine v_callVc (As := [.int ((-42))]) K (c_addM (n := 65) (g := (CT 0 GL 62 65 [(62, [64, 0, 65])] g0)) (CT 0 FH 62 65 [(62, [0, nI 2, 0]), (63, [(-2), nI 3, 0, 0, 0, 0, 0, 0, 0]), (62, [0, nI 1, 0]), (63, [(-2), 0, 0, 0, 0, 0, 0, 0, 0]), (62, [0, nI 0, 0]), (63, [0, 0, 0, 0, 0, 0, 0, 0, 0]), (62, [0, 0, 0])] h0) 62 63 2 ((-42)) sh_62 (by decide) sh_63 (by decide) ((congrFun (CT_at (z := 0) (F := GL) (b := 62) (hi := 65) (f := g0) (T := [(62, [64, 0, 65])]) (L := [64, 0, 65]) rfl) 0).trans rfl) ((congrFun (CT_at (z := 0) (F := FH) (b := 62) (hi := 65) (f := h0) (T := [(62, [0, nI 2, 0]), (63, [(-2), nI 3, 0, 0, 0, 0, 0, 0, 0]), (62, [0, nI 1, 0]), (63, [(-2), 0, 0, 0, 0, 0, 0, 0, 0]), (62, [0, nI 0, 0]), (63, [0, 0, 0, 0, 0, 0, 0, 0, 0]), (62, [0, 0, 0])]) (L := [0, nI 2, 0]) rfl) 1).trans rfl) (by decide)) lX5_22 ck_X5 rfl sh_62 (by decide) rfl ⟨by decide, by decide⟩ ⟨by decide, by decide⟩ (by decide) dX5_init_37 (fun r hh hp => ?_) rfl
  obtain ⟨rfl, rfl⟩ := hp
  refine v_none ?_
  refine v_hq (congrArg (fun h => u2 h 62 1 (nI (2 + 1))) (CT_u2 (F := FH) (T := [(62, [0, nI 2, 0]), (63, [(-2), nI 3, 0, 0, 0, 0, 0, 0, 0]), (62, [0, nI 1, 0]), (63, [(-2), 0, 0, 0, 0, 0, 0, 0, 0]), (62, [0, nI 0, 0]), (63, [0, 0, 0, 0, 0, 0, 0, 0, 0]), (62, [0, 0, 0])]) (T' := [(63, [(-2), nI 3, (-42), 0, 0, 0, 0, 0, 0]), (62, [0, nI 2, 0]), (63, [(-2), nI 3, 0, 0, 0, 0, 0, 0, 0]), (62, [0, nI 1, 0]), (63, [(-2), 0, 0, 0, 0, 0, 0, 0, 0]), (62, [0, nI 0, 0]), (63, [0, 0, 0, 0, 0, 0, 0, 0, 0]), (62, [0, 0, 0])]) (L := [(-2), nI 3, 0, 0, 0, 0, 0, 0, 0]) rfl (by decide) rfl (fun _ hx => tl_ne hx))) ?_
  refine v_hq (CT_u2 (F := FH) (T := [(63, [(-2), nI 3, (-42), 0, 0, 0, 0, 0, 0]), (62, [0, nI 2, 0]), (63, [(-2), nI 3, 0, 0, 0, 0, 0, 0, 0]), (62, [0, nI 1, 0]), (63, [(-2), 0, 0, 0, 0, 0, 0, 0, 0]), (62, [0, nI 0, 0]), (63, [0, 0, 0, 0, 0, 0, 0, 0, 0]), (62, [0, 0, 0])]) (T' := [(62, [0, nI 3, 0]), (63, [(-2), nI 3, (-42), 0, 0, 0, 0, 0, 0]), (62, [0, nI 2, 0]), (63, [(-2), nI 3, 0, 0, 0, 0, 0, 0, 0]), (62, [0, nI 1, 0]), (63, [(-2), 0, 0, 0, 0, 0, 0, 0, 0]), (62, [0, nI 0, 0]), (63, [0, 0, 0, 0, 0, 0, 0, 0, 0]), (62, [0, 0, 0])]) (L := [0, nI 2, 0]) rfl (by decide) rfl (fun _ hx => tl_ne hx)) ?_
  refine v_iincN (lv2 := [(2, .int (nI 3)), (0, .ref 62), (1, .ref (1000 + 5))]) K 1 dX5_init_40 rfl rfl (by decide) rfl ?_
  refine v_goto (tgt := 27) K dX5_init_43 rfl ?_
  refine v_iload_n K dX5_init_27 rfl ?_
  refine v_aload_n K dX5_init_28 rfl ?_
  refine v_slen (j := 5) K (by decide) dX5_init_29 ?_
  refine v_top (y := nI 9) rfl ?_
  refine v_icmpN_ge (tgt := 46) K (by decide) (by decide) dX5_init_30 rfl (fun c => absurd c (by decide)) (fun _ => ?_)
  refine v_aload_n K dX5_init_33 rfl ?_
  refine v_aload_n K dX5_init_34 rfl ?_
  refine v_iload_n K dX5_init_35 rfl ?_
  refine v_sald (j := 5) (x := (-3)) K (by decide) (by decide) (by decide) dX5_init_36 ?_
  refine v_callVc (As := [.int ((-3))]) K (c_addM (n := 65) (g := (CT 0 GL 62 65 [(62, [64, 0, 65])] g0)) (CT 0 FH 62 65 [(62, [0, nI 3, 0]), (63, [(-2), nI 3, (-42), 0, 0, 0, 0, 0, 0]), (62, [0, nI 2, 0]), (63, [(-2), nI 3, 0, 0, 0, 0, 0, 0, 0]), (62, [0, nI 1, 0]), (63, [(-2), 0, 0, 0, 0, 0, 0, 0, 0]), (62, [0, nI 0, 0]), (63, [0, 0, 0, 0, 0, 0, 0, 0, 0]), (62, [0, 0, 0])] h0) 62 63 3 ((-3)) sh_62 (by decide) sh_63 (by decide) ((congrFun (CT_at (z := 0) (F := GL) (b := 62) (hi := 65) (f := g0) (T := [(62, [64, 0, 65])]) (L := [64, 0, 65]) rfl) 0).trans rfl) ((congrFun (CT_at (z := 0) (F := FH) (b := 62) (hi := 65) (f := h0) (T := [(62, [0, nI 3, 0]), (63, [(-2), nI 3, (-42), 0, 0, 0, 0, 0, 0]), (62, [0, nI 2, 0]), (63, [(-2), nI 3, 0, 0, 0, 0, 0, 0, 0]), (62, [0, nI 1, 0]), (63, [(-2), 0, 0, 0, 0, 0, 0, 0, 0]), (62, [0, nI 0, 0]), (63, [0, 0, 0, 0, 0, 0, 0, 0, 0]), (62, [0, 0, 0])]) (L := [0, nI 3, 0]) rfl) 1).trans rfl) (by decide)) lX5_22 ck_X5 rfl sh_62 (by decide) rfl ⟨by decide, by decide⟩ ⟨by decide, by decide⟩ (by decide) dX5_init_37 (fun r hh hp => ?_) rfl
  obtain ⟨rfl, rfl⟩ := hp
  refine v_none ?_
  refine v_hq (congrArg (fun h => u2 h 62 1 (nI (3 + 1))) (CT_u2 (F := FH) (T := [(62, [0, nI 3, 0]), (63, [(-2), nI 3, (-42), 0, 0, 0, 0, 0, 0]), (62, [0, nI 2, 0]), (63, [(-2), nI 3, 0, 0, 0, 0, 0, 0, 0]), (62, [0, nI 1, 0]), (63, [(-2), 0, 0, 0, 0, 0, 0, 0, 0]), (62, [0, nI 0, 0]), (63, [0, 0, 0, 0, 0, 0, 0, 0, 0]), (62, [0, 0, 0])]) (T' := [(63, [(-2), nI 3, (-42), (-3), 0, 0, 0, 0, 0]), (62, [0, nI 3, 0]), (63, [(-2), nI 3, (-42), 0, 0, 0, 0, 0, 0]), (62, [0, nI 2, 0]), (63, [(-2), nI 3, 0, 0, 0, 0, 0, 0, 0]), (62, [0, nI 1, 0]), (63, [(-2), 0, 0, 0, 0, 0, 0, 0, 0]), (62, [0, nI 0, 0]), (63, [0, 0, 0, 0, 0, 0, 0, 0, 0]), (62, [0, 0, 0])]) (L := [(-2), nI 3, (-42), 0, 0, 0, 0, 0, 0]) rfl (by decide) rfl (fun _ hx => tl_ne hx))) ?_
  refine v_hq (CT_u2 (F := FH) (T := [(63, [(-2), nI 3, (-42), (-3), 0, 0, 0, 0, 0]), (62, [0, nI 3, 0]), (63, [(-2), nI 3, (-42), 0, 0, 0, 0, 0, 0]), (62, [0, nI 2, 0]), (63, [(-2), nI 3, 0, 0, 0, 0, 0, 0, 0]), (62, [0, nI 1, 0]), (63, [(-2), 0, 0, 0, 0, 0, 0, 0, 0]), (62, [0, nI 0, 0]), (63, [0, 0, 0, 0, 0, 0, 0, 0, 0]), (62, [0, 0, 0])]) (T' := [(62, [0, nI 4, 0]), (63, [(-2), nI 3, (-42), (-3), 0, 0, 0, 0, 0]), (62, [0, nI 3, 0]), (63, [(-2), nI 3, (-42), 0, 0, 0, 0, 0, 0]), (62, [0, nI 2, 0]), (63, [(-2), nI 3, 0, 0, 0, 0, 0, 0, 0]), (62, [0, nI 1, 0]), (63, [(-2), 0, 0, 0, 0, 0, 0, 0, 0]), (62, [0, nI 0, 0]), (63, [0, 0, 0, 0, 0, 0, 0, 0, 0]), (62, [0, 0, 0])]) (L := [0, nI 3, 0]) rfl (by decide) rfl (fun _ hx => tl_ne hx)) ?_
  refine v_iincN (lv2 := [(2, .int (nI 4)), (0, .ref 62), (1, .ref (1000 + 5))]) K 1 dX5_init_40 rfl rfl (by decide) rfl ?_
  refine v_goto (tgt := 27) K dX5_init_43 rfl ?_
  refine v_iload_n K dX5_init_27 rfl ?_
  refine v_aload_n K dX5_init_28 rfl ?_
  refine v_slen (j := 5) K (by decide) dX5_init_29 ?_
  refine v_top (y := nI 9) rfl ?_
  refine v_icmpN_ge (tgt := 46) K (by decide) (by decide) dX5_init_30 rfl (fun c => absurd c (by decide)) (fun _ => ?_)
  refine v_aload_n K dX5_init_33 rfl ?_
  refine v_aload_n K dX5_init_34 rfl ?_
  refine v_iload_n K dX5_init_35 rfl ?_
  refine v_sald (j := 5) (x := nI 50) K (by decide) (by decide) (by decide) dX5_init_36 ?_
  refine v_callVc (As := [.int (nI 50)]) K (c_addM (n := 65) (g := (CT 0 GL 62 65 [(62, [64, 0, 65])] g0)) (CT 0 FH 62 65 [(62, [0, nI 4, 0]), (63, [(-2), nI 3, (-42), (-3), 0, 0, 0, 0, 0]), (62, [0, nI 3, 0]), (63, [(-2), nI 3, (-42), 0, 0, 0, 0, 0, 0]), (62, [0, nI 2, 0]), (63, [(-2), nI 3, 0, 0, 0, 0, 0, 0, 0]), (62, [0, nI 1, 0]), (63, [(-2), 0, 0, 0, 0, 0, 0, 0, 0]), (62, [0, nI 0, 0]), (63, [0, 0, 0, 0, 0, 0, 0, 0, 0]), (62, [0, 0, 0])] h0) 62 63 4 (nI 50) sh_62 (by decide) sh_63 (by decide) ((congrFun (CT_at (z := 0) (F := GL) (b := 62) (hi := 65) (f := g0) (T := [(62, [64, 0, 65])]) (L := [64, 0, 65]) rfl) 0).trans rfl) ((congrFun (CT_at (z := 0) (F := FH) (b := 62) (hi := 65) (f := h0) (T := [(62, [0, nI 4, 0]), (63, [(-2), nI 3, (-42), (-3), 0, 0, 0, 0, 0]), (62, [0, nI 3, 0]), (63, [(-2), nI 3, (-42), 0, 0, 0, 0, 0, 0]), (62, [0, nI 2, 0]), (63, [(-2), nI 3, 0, 0, 0, 0, 0, 0, 0]), (62, [0, nI 1, 0]), (63, [(-2), 0, 0, 0, 0, 0, 0, 0, 0]), (62, [0, nI 0, 0]), (63, [0, 0, 0, 0, 0, 0, 0, 0, 0]), (62, [0, 0, 0])]) (L := [0, nI 4, 0]) rfl) 1).trans rfl) (by decide)) lX5_22 ck_X5 rfl sh_62 (by decide) rfl ⟨by decide, by decide⟩ ⟨by decide, by decide⟩ (by decide) dX5_init_37 (fun r hh hp => ?_) rfl
  obtain ⟨rfl, rfl⟩ := hp
  refine v_none ?_
  refine v_hq (congrArg (fun h => u2 h 62 1 (nI (4 + 1))) (CT_u2 (F := FH) (T := [(62, [0, nI 4, 0]), (63, [(-2), nI 3, (-42), (-3), 0, 0, 0, 0, 0]), (62, [0, nI 3, 0]), (63, [(-2), nI 3, (-42), 0, 0, 0, 0, 0, 0]), (62, [0, nI 2, 0]), (63, [(-2), nI 3, 0, 0, 0, 0, 0, 0, 0]), (62, [0, nI 1, 0]), (63, [(-2), 0, 0, 0, 0, 0, 0, 0, 0]), (62, [0, nI 0, 0]), (63, [0, 0, 0, 0, 0, 0, 0, 0, 0]), (62, [0, 0, 0])]) (T' := [(63, [(-2), nI 3, (-42), (-3), nI 50, 0, 0, 0, 0]), (62, [0, nI 4, 0]), (63, [(-2), nI 3, (-42), (-3), 0, 0, 0, 0, 0]), (62, [0, nI 3, 0]), (63, [(-2), nI 3, (-42), 0, 0, 0, 0, 0, 0]), (62, [0, nI 2, 0]), (63, [(-2), nI 3, 0, 0, 0, 0, 0, 0, 0]), (62, [0, nI 1, 0]), (63, [(-2), 0, 0, 0, 0, 0, 0, 0, 0]), (62, [0, nI 0, 0]), (63, [0, 0, 0, 0, 0, 0, 0, 0, 0]), (62, [0, 0, 0])]) (L := [(-2), nI 3, (-42), (-3), 0, 0, 0, 0, 0]) rfl (by decide) rfl (fun _ hx => tl_ne hx))) ?_
  refine v_hq (CT_u2 (F := FH) (T := [(63, [(-2), nI 3, (-42), (-3), nI 50, 0, 0, 0, 0]), (62, [0, nI 4, 0]), (63, [(-2), nI 3, (-42), (-3), 0, 0, 0, 0, 0]), (62, [0, nI 3, 0]), (63, [(-2), nI 3, (-42), 0, 0, 0, 0, 0, 0]), (62, [0, nI 2, 0]), (63, [(-2), nI 3, 0, 0, 0, 0, 0, 0, 0]), (62, [0, nI 1, 0]), (63, [(-2), 0, 0, 0, 0, 0, 0, 0, 0]), (62, [0, nI 0, 0]), (63, [0, 0, 0, 0, 0, 0, 0, 0, 0]), (62, [0, 0, 0])]) (T' := [(62, [0, nI 5, 0]), (63, [(-2), nI 3, (-42), (-3), nI 50, 0, 0, 0, 0]), (62, [0, nI 4, 0]), (63, [(-2), nI 3, (-42), (-3), 0, 0, 0, 0, 0]), (62, [0, nI 3, 0]), (63, [(-2), nI 3, (-42), 0, 0, 0, 0, 0, 0]), (62, [0, nI 2, 0]), (63, [(-2), nI 3, 0, 0, 0, 0, 0, 0, 0]), (62, [0, nI 1, 0]), (63, [(-2), 0, 0, 0, 0, 0, 0, 0, 0]), (62, [0, nI 0, 0]), (63, [0, 0, 0, 0, 0, 0, 0, 0, 0]), (62, [0, 0, 0])]) (L := [0, nI 4, 0]) rfl (by decide) rfl (fun _ hx => tl_ne hx)) ?_
  refine v_iincN (lv2 := [(2, .int (nI 5)), (0, .ref 62), (1, .ref (1000 + 5))]) K 1 dX5_init_40 rfl rfl (by decide) rfl ?_
  refine v_goto (tgt := 27) K dX5_init_43 rfl ?_
  refine v_iload_n K dX5_init_27 rfl ?_
  refine v_aload_n K dX5_init_28 rfl ?_
  refine v_slen (j := 5) K (by decide) dX5_init_29 ?_
  refine v_top (y := nI 9) rfl ?_
  refine v_icmpN_ge (tgt := 46) K (by decide) (by decide) dX5_init_30 rfl (fun c => absurd c (by decide)) (fun _ => ?_)
  refine v_aload_n K dX5_init_33 rfl ?_
  refine v_aload_n K dX5_init_34 rfl ?_
  refine v_iload_n K dX5_init_35 rfl ?_
  refine v_sald (j := 5) (x := (-62)) K (by decide) (by decide) (by decide) dX5_init_36 ?_
  refine v_callVc (As := [.int ((-62))]) K (c_addM (n := 65) (g := (CT 0 GL 62 65 [(62, [64, 0, 65])] g0)) (CT 0 FH 62 65 [(62, [0, nI 5, 0]), (63, [(-2), nI 3, (-42), (-3), nI 50, 0, 0, 0, 0]), (62, [0, nI 4, 0]), (63, [(-2), nI 3, (-42), (-3), 0, 0, 0, 0, 0]), (62, [0, nI 3, 0]), (63, [(-2), nI 3, (-42), 0, 0, 0, 0, 0, 0]), (62, [0, nI 2, 0]), (63, [(-2), nI 3, 0, 0, 0, 0, 0, 0, 0]), (62, [0, nI 1, 0]), (63, [(-2), 0, 0, 0, 0, 0, 0, 0, 0]), (62, [0, nI 0, 0]), (63, [0, 0, 0, 0, 0, 0, 0, 0, 0]), (62, [0, 0, 0])] h0) 62 63 5 ((-62)) sh_62 (by decide) sh_63 (by decide) ((congrFun (CT_at (z := 0) (F := GL) (b := 62) (hi := 65) (f := g0) (T := [(62, [64, 0, 65])]) (L := [64, 0, 65]) rfl) 0).trans rfl) ((congrFun (CT_at (z := 0) (F := FH) (b := 62) (hi := 65) (f := h0) (T := [(62, [0, nI 5, 0]), (63, [(-2), nI 3, (-42), (-3), nI 50, 0, 0, 0, 0]), (62, [0, nI 4, 0]), (63, [(-2), nI 3, (-42), (-3), 0, 0, 0, 0, 0]), (62, [0, nI 3, 0]), (63, [(-2), nI 3, (-42), 0, 0, 0, 0, 0, 0]), (62, [0, nI 2, 0]), (63, [(-2), nI 3, 0, 0, 0, 0, 0, 0, 0]), (62, [0, nI 1, 0]), (63, [(-2), 0, 0, 0, 0, 0, 0, 0, 0]), (62, [0, nI 0, 0]), (63, [0, 0, 0, 0, 0, 0, 0, 0, 0]), (62, [0, 0, 0])]) (L := [0, nI 5, 0]) rfl) 1).trans rfl) (by decide)) lX5_22 ck_X5 rfl sh_62 (by decide) rfl ⟨by decide, by decide⟩ ⟨by decide, by decide⟩ (by decide) dX5_init_37 (fun r hh hp => ?_) rfl
  obtain ⟨rfl, rfl⟩ := hp
  refine v_none ?_
  refine v_hq (congrArg (fun h => u2 h 62 1 (nI (5 + 1))) (CT_u2 (F := FH) (T := [(62, [0, nI 5, 0]), (63, [(-2), nI 3, (-42), (-3), nI 50, 0, 0, 0, 0]), (62, [0, nI 4, 0]), (63, [(-2), nI 3, (-42), (-3), 0, 0, 0, 0, 0]), (62, [0, nI 3, 0]), (63, [(-2), nI 3, (-42), 0, 0, 0, 0, 0, 0]), (62, [0, nI 2, 0]), (63, [(-2), nI 3, 0, 0, 0, 0, 0, 0, 0]), (62, [0, nI 1, 0]), (63, [(-2), 0, 0, 0, 0, 0, 0, 0, 0]), (62, [0, nI 0, 0]), (63, [0, 0, 0, 0, 0, 0, 0, 0, 0]), (62, [0, 0, 0])]) (T' := [(63, [(-2), nI 3, (-42), (-3), nI 50, (-62), 0, 0, 0]), (62, [0, nI 5, 0]), (63, [(-2), nI 3, (-42), (-3), nI 50, 0, 0, 0, 0]), (62, [0, nI 4, 0]), (63, [(-2), nI 3, (-42), (-3), 0, 0, 0, 0, 0]), (62, [0, nI 3, 0]), (63, [(-2), nI 3, (-42), 0, 0, 0, 0, 0, 0]), (62, [0, nI 2, 0]), (63, [(-2), nI 3, 0, 0, 0, 0, 0, 0, 0]), (62, [0, nI 1, 0]), (63, [(-2), 0, 0, 0, 0, 0, 0, 0, 0]), (62, [0, nI 0, 0]), (63, [0, 0, 0, 0, 0, 0, 0, 0, 0]), (62, [0, 0, 0])]) (L := [(-2), nI 3, (-42), (-3), nI 50, 0, 0, 0, 0]) rfl (by decide) rfl (fun _ hx => tl_ne hx))) ?_
  refine v_hq (CT_u2 (F := FH) (T := [(63, [(-2), nI 3, (-42), (-3), nI 50, (-62), 0, 0, 0]), (62, [0, nI 5, 0]), (63, [(-2), nI 3, (-42), (-3), nI 50, 0, 0, 0, 0]), (62, [0, nI 4, 0]), (63, [(-2), nI 3, (-42), (-3), 0, 0, 0, 0, 0]), (62, [0, nI 3, 0]), (63, [(-2), nI 3, (-42), 0, 0, 0, 0, 0, 0]), (62, [0, nI 2, 0]), (63, [(-2), nI 3, 0, 0, 0, 0, 0, 0, 0]), (62, [0, nI 1, 0]), (63, [(-2), 0, 0, 0, 0, 0, 0, 0, 0]), (62, [0, nI 0, 0]), (63, [0, 0, 0, 0, 0, 0, 0, 0, 0]), (62, [0, 0, 0])]) (T' := [(62, [0, nI 6, 0]), (63, [(-2), nI 3, (-42), (-3), nI 50, (-62), 0, 0, 0]), (62, [0, nI 5, 0]), (63, [(-2), nI 3, (-42), (-3), nI 50, 0, 0, 0, 0]), (62, [0, nI 4, 0]), (63, [(-2), nI 3, (-42), (-3), 0, 0, 0, 0, 0]), (62, [0, nI 3, 0]), (63, [(-2), nI 3, (-42), 0, 0, 0, 0, 0, 0]), (62, [0, nI 2, 0]), (63, [(-2), nI 3, 0, 0, 0, 0, 0, 0, 0]), (62, [0, nI 1, 0]), (63, [(-2), 0, 0, 0, 0, 0, 0, 0, 0]), (62, [0, nI 0, 0]), (63, [0, 0, 0, 0, 0, 0, 0, 0, 0]), (62, [0, 0, 0])]) (L := [0, nI 5, 0]) rfl (by decide) rfl (fun _ hx => tl_ne hx)) ?_
  refine v_iincN (lv2 := [(2, .int (nI 6)), (0, .ref 62), (1, .ref (1000 + 5))]) K 1 dX5_init_40 rfl rfl (by decide) rfl ?_
  refine v_goto (tgt := 27) K dX5_init_43 rfl ?_
  refine v_iload_n K dX5_init_27 rfl ?_
  refine v_aload_n K dX5_init_28 rfl ?_
  refine v_slen (j := 5) K (by decide) dX5_init_29 ?_
  refine v_top (y := nI 9) rfl ?_
  refine v_icmpN_ge (tgt := 46) K (by decide) (by decide) dX5_init_30 rfl (fun c => absurd c (by decide)) (fun _ => ?_)
  refine v_aload_n K dX5_init_33 rfl ?_
  refine v_aload_n K dX5_init_34 rfl ?_
  refine v_iload_n K dX5_init_35 rfl ?_
  refine v_sald (j := 5) (x := nI 3) K (by decide) (by decide) (by decide) dX5_init_36 ?_
  refine v_callVc (As := [.int (nI 3)]) K (c_addM (n := 65) (g := (CT 0 GL 62 65 [(62, [64, 0, 65])] g0)) (CT 0 FH 62 65 [(62, [0, nI 6, 0]), (63, [(-2), nI 3, (-42), (-3), nI 50, (-62), 0, 0, 0]), (62, [0, nI 5, 0]), (63, [(-2), nI 3, (-42), (-3), nI 50, 0, 0, 0, 0]), (62, [0, nI 4, 0]), (63, [(-2), nI 3, (-42), (-3), 0, 0, 0, 0, 0]), (62, [0, nI 3, 0]), (63, [(-2), nI 3, (-42), 0, 0, 0, 0, 0, 0]), (62, [0, nI 2, 0]), (63, [(-2), nI 3, 0, 0, 0, 0, 0, 0, 0]), (62, [0, nI 1, 0]), (63, [(-2), 0, 0, 0, 0, 0, 0, 0, 0]), (62, [0, nI 0, 0]), (63, [0, 0, 0, 0, 0, 0, 0, 0, 0]), (62, [0, 0, 0])] h0) 62 63 6 (nI 3) sh_62 (by decide) sh_63 (by decide) ((congrFun (CT_at (z := 0) (F := GL) (b := 62) (hi := 65) (f := g0) (T := [(62, [64, 0, 65])]) (L := [64, 0, 65]) rfl) 0).trans rfl) ((congrFun (CT_at (z := 0) (F := FH) (b := 62) (hi := 65) (f := h0) (T := [(62, [0, nI 6, 0]), (63, [(-2), nI 3, (-42), (-3), nI 50, (-62), 0, 0, 0]), (62, [0, nI 5, 0]), (63, [(-2), nI 3, (-42), (-3), nI 50, 0, 0, 0, 0]), (62, [0, nI 4, 0]), (63, [(-2), nI 3, (-42), (-3), 0, 0, 0, 0, 0]), (62, [0, nI 3, 0]), (63, [(-2), nI 3, (-42), 0, 0, 0, 0, 0, 0]), (62, [0, nI 2, 0]), (63, [(-2), nI 3, 0, 0, 0, 0, 0, 0, 0]), (62, [0, nI 1, 0]), (63, [(-2), 0, 0, 0, 0, 0, 0, 0, 0]), (62, [0, nI 0, 0]), (63, [0, 0, 0, 0, 0, 0, 0, 0, 0]), (62, [0, 0, 0])]) (L := [0, nI 6, 0]) rfl) 1).trans rfl) (by decide)) lX5_22 ck_X5 rfl sh_62 (by decide) rfl ⟨by decide, by decide⟩ ⟨by decide, by decide⟩ (by decide) dX5_init_37 (fun r hh hp => ?_) rfl
  obtain ⟨rfl, rfl⟩ := hp
  refine v_none ?_
  refine v_hq (congrArg (fun h => u2 h 62 1 (nI (6 + 1))) (CT_u2 (F := FH) (T := [(62, [0, nI 6, 0]), (63, [(-2), nI 3, (-42), (-3), nI 50, (-62), 0, 0, 0]), (62, [0, nI 5, 0]), (63, [(-2), nI 3, (-42), (-3), nI 50, 0, 0, 0, 0]), (62, [0, nI 4, 0]), (63, [(-2), nI 3, (-42), (-3), 0, 0, 0, 0, 0]), (62, [0, nI 3, 0]), (63, [(-2), nI 3, (-42), 0, 0, 0, 0, 0, 0]), (62, [0, nI 2, 0]), (63, [(-2), nI 3, 0, 0, 0, 0, 0, 0, 0]), (62, [0, nI 1, 0]), (63, [(-2), 0, 0, 0, 0, 0, 0, 0, 0]), (62, [0, nI 0, 0]), (63, [0, 0, 0, 0, 0, 0, 0, 0, 0]), (62, [0, 0, 0])]) (T' := [(63, [(-2), nI 3, (-42), (-3), nI 50, (-62), nI 3, 0, 0]), (62, [0, nI 6, 0]), (63, [(-2), nI 3, (-42), (-3), nI 50, (-62), 0, 0, 0]), (62, [0, nI 5, 0]), (63, [(-2), nI 3, (-42), (-3), nI 50, 0, 0, 0, 0]), (62, [0, nI 4, 0]), (63, [(-2), nI 3, (-42), (-3), 0, 0, 0, 0, 0]), (62, [0, nI 3, 0]), (63, [(-2), nI 3, (-42), 0, 0, 0, 0, 0, 0]), (62, [0, nI 2, 0]), (63, [(-2), nI 3, 0, 0, 0, 0, 0, 0, 0]), (62, [0, nI 1, 0]), (63, [(-2), 0, 0, 0, 0, 0, 0, 0, 0]), (62, [0, nI 0, 0]), (63, [0, 0, 0, 0, 0, 0, 0, 0, 0]), (62, [0, 0, 0])]) (L := [(-2), nI 3, (-42), (-3), nI 50, (-62), 0, 0, 0]) rfl (by decide) rfl (fun _ hx => tl_ne hx))) ?_
  refine v_hq (CT_u2 (F := FH) (T := [(63, [(-2), nI 3, (-42), (-3), nI 50, (-62), nI 3, 0, 0]), (62, [0, nI 6, 0]), (63, [(-2), nI 3, (-42), (-3), nI 50, (-62), 0, 0, 0]), (62, [0, nI 5, 0]), (63, [(-2), nI 3, (-42), (-3), nI 50, 0, 0, 0, 0]), (62, [0, nI 4, 0]), (63, [(-2), nI 3, (-42), (-3), 0, 0, 0, 0, 0]), (62, [0, nI 3, 0]), (63, [(-2), nI 3, (-42), 0, 0, 0, 0, 0, 0]), (62, [0, nI 2, 0]), (63, [(-2), nI 3, 0, 0, 0, 0, 0, 0, 0]), (62, [0, nI 1, 0]), (63, [(-2), 0, 0, 0, 0, 0, 0, 0, 0]), (62, [0, nI 0, 0]), (63, [0, 0, 0, 0, 0, 0, 0, 0, 0]), (62, [0, 0, 0])]) (T' := [(62, [0, nI 7, 0]), (63, [(-2), nI 3, (-42), (-3), nI 50, (-62), nI 3, 0, 0]), (62, [0, nI 6, 0]), (63, [(-2), nI 3, (-42), (-3), nI 50, (-62), 0, 0, 0]), (62, [0, nI 5, 0]), (63, [(-2), nI 3, (-42), (-3), nI 50, 0, 0, 0, 0]), (62, [0, nI 4, 0]), (63, [(-2), nI 3, (-42), (-3), 0, 0, 0, 0, 0]), (62, [0, nI 3, 0]), (63, [(-2), nI 3, (-42), 0, 0, 0, 0, 0, 0]), (62, [0, nI 2, 0]), (63, [(-2), nI 3, 0, 0, 0, 0, 0, 0, 0]), (62, [0, nI 1, 0]), (63, [(-2), 0, 0, 0, 0, 0, 0, 0, 0]), (62, [0, nI 0, 0]), (63, [0, 0, 0, 0, 0, 0, 0, 0, 0]), (62, [0, 0, 0])]) (L := [0, nI 6, 0]) rfl (by decide) rfl (fun _ hx => tl_ne hx)) ?_
  refine v_iincN (lv2 := [(2, .int (nI 7)), (0, .ref 62), (1, .ref (1000 + 5))]) K 1 dX5_init_40 rfl rfl (by decide) rfl ?_
  refine v_goto (tgt := 27) K dX5_init_43 rfl ?_
  refine v_iload_n K dX5_init_27 rfl ?_
  refine v_aload_n K dX5_init_28 rfl ?_
  refine v_slen (j := 5) K (by decide) dX5_init_29 ?_
  refine v_top (y := nI 9) rfl ?_
  refine v_icmpN_ge (tgt := 46) K (by decide) (by decide) dX5_init_30 rfl (fun c => absurd c (by decide)) (fun _ => ?_)
  refine v_aload_n K dX5_init_33 rfl ?_
  refine v_aload_n K dX5_init_34 rfl ?_
  refine v_iload_n K dX5_init_35 rfl ?_
  refine v_sald (j := 5) (x := (-42)) K (by decide) (by decide) (by decide) dX5_init_36 ?_
  refine v_callVc (As := [.int ((-42))]) K (c_addM (n := 65) (g := (CT 0 GL 62 65 [(62, [64, 0, 65])] g0)) (CT 0 FH 62 65 [(62, [0, nI 7, 0]), (63, [(-2), nI 3, (-42), (-3), nI 50, (-62), nI 3, 0, 0]), (62, [0, nI 6, 0]), (63, [(-2), nI 3, (-42), (-3), nI 50, (-62), 0, 0, 0]), (62, [0, nI 5, 0]), (63, [(-2), nI 3, (-42), (-3), nI 50, 0, 0, 0, 0]), (62, [0, nI 4, 0]), (63, [(-2), nI 3, (-42), (-3), 0, 0, 0, 0, 0]), (62, [0, nI 3, 0]), (63, [(-2), nI 3, (-42), 0, 0, 0, 0, 0, 0]), (62, [0, nI 2, 0]), (63, [(-2), nI 3, 0, 0, 0, 0, 0, 0, 0]), (62, [0, nI 1, 0]), (63, [(-2), 0, 0, 0, 0, 0, 0, 0, 0]), (62, [0, nI 0, 0]), (63, [0, 0, 0, 0, 0, 0, 0, 0, 0]), (62, [0, 0, 0])] h0) 62 63 7 ((-42)) sh_62 (by decide) sh_63 (by decide) ((congrFun (CT_at (z := 0) (F := GL) (b := 62) (hi := 65) (f := g0) (T := [(62, [64, 0, 65])]) (L := [64, 0, 65]) rfl) 0).trans rfl) ((congrFun (CT_at (z := 0) (F := FH) (b := 62) (hi := 65) (f := h0) (T := [(62, [0, nI 7, 0]), (63, [(-2), nI 3, (-42), (-3), nI 50, (-62), nI 3, 0, 0]), (62, [0, nI 6, 0]), (63, [(-2), nI 3, (-42), (-3), nI 50, (-62), 0, 0, 0]), (62, [0, nI 5, 0]), (63, [(-2), nI 3, (-42), (-3), nI 50, 0, 0, 0, 0]), (62, [0, nI 4, 0]), (63, [(-2), nI 3, (-42), (-3), 0, 0, 0, 0, 0]), (62, [0, nI 3, 0]), (63, [(-2), nI 3, (-42), 0, 0, 0, 0, 0, 0]), (62, [0, nI 2, 0]), (63, [(-2), nI 3, 0, 0, 0, 0, 0, 0, 0]), (62, [0, nI 1, 0]), (63, [(-2), 0, 0, 0, 0, 0, 0, 0, 0]), (62, [0, nI 0, 0]), (63, [0, 0, 0, 0, 0, 0, 0, 0, 0]), (62, [0, 0, 0])]) (L := [0, nI 7, 0]) rfl) 1).trans rfl) (by decide)) lX5_22 ck_X5 rfl sh_62 (by decide) rfl ⟨by decide, by decide⟩ ⟨by decide, by decide⟩ (by decide) dX5_init_37 (fun r hh hp => ?_) rfl
  obtain ⟨rfl, rfl⟩ := hp
  refine v_none ?_
  refine v_hq (congrArg (fun h => u2 h 62 1 (nI (7 + 1))) (CT_u2 (F := FH) (T := [(62, [0, nI 7, 0]), (63, [(-2), nI 3, (-42), (-3), nI 50, (-62), nI 3, 0, 0]), (62, [0, nI 6, 0]), (63, [(-2), nI 3, (-42), (-3), nI 50, (-62), 0, 0, 0]), (62, [0, nI 5, 0]), (63, [(-2), nI 3, (-42), (-3), nI 50, 0, 0, 0, 0]), (62, [0, nI 4, 0]), (63, [(-2), nI 3, (-42), (-3), 0, 0, 0, 0, 0]), (62, [0, nI 3, 0]), (63, [(-2), nI 3, (-42), 0, 0, 0, 0, 0, 0]), (62, [0, nI 2, 0]), (63, [(-2), nI 3, 0, 0, 0, 0, 0, 0, 0]), (62, [0, nI 1, 0]), (63, [(-2), 0, 0, 0, 0, 0, 0, 0, 0]), (62, [0, nI 0, 0]), (63, [0, 0, 0, 0, 0, 0, 0, 0, 0]), (62, [0, 0, 0])]) (T' := [(63, [(-2), nI 3, (-42), (-3), nI 50, (-62), nI 3, (-42), 0]), (62, [0, nI 7, 0]), (63, [(-2), nI 3, (-42), (-3), nI 50, (-62), nI 3, 0, 0]), (62, [0, nI 6, 0]), (63, [(-2), nI 3, (-42), (-3), nI 50, (-62), 0, 0, 0]), (62, [0, nI 5, 0]), (63, [(-2), nI 3, (-42), (-3), nI 50, 0, 0, 0, 0]), (62, [0, nI 4, 0]), (63, [(-2), nI 3, (-42), (-3), 0, 0, 0, 0, 0]), (62, [0, nI 3, 0]), (63, [(-2), nI 3, (-42), 0, 0, 0, 0, 0, 0]), (62, [0, nI 2, 0]), (63, [(-2), nI 3, 0, 0, 0, 0, 0, 0, 0]), (62, [0, nI 1, 0]), (63, [(-2), 0, 0, 0, 0, 0, 0, 0, 0]), (62, [0, nI 0, 0]), (63, [0, 0, 0, 0, 0, 0, 0, 0, 0]), (62, [0, 0, 0])]) (L := [(-2), nI 3, (-42), (-3), nI 50, (-62), nI 3, 0, 0]) rfl (by decide) rfl (fun _ hx => tl_ne hx))) ?_
  refine v_hq (CT_u2 (F := FH) (T := [(63, [(-2), nI 3, (-42), (-3), nI 50, (-62), nI 3, (-42), 0]), (62, [0, nI 7, 0]), (63, [(-2), nI 3, (-42), (-3), nI 50, (-62), nI 3, 0, 0]), (62, [0, nI 6, 0]), (63, [(-2), nI 3, (-42), (-3), nI 50, (-62), 0, 0, 0]), (62, [0, nI 5, 0]), (63, [(-2), nI 3, (-42), (-3), nI 50, 0, 0, 0, 0]), (62, [0, nI 4, 0]), (63, [(-2), nI 3, (-42), (-3), 0, 0, 0, 0, 0]), (62, [0, nI 3, 0]), (63, [(-2), nI 3, (-42), 0, 0, 0, 0, 0, 0]), (62, [0, nI 2, 0]), (63, [(-2), nI 3, 0, 0, 0, 0, 0, 0, 0]), (62, [0, nI 1, 0]), (63, [(-2), 0, 0, 0, 0, 0, 0, 0, 0]), (62, [0, nI 0, 0]), (63, [0, 0, 0, 0, 0, 0, 0, 0, 0]), (62, [0, 0, 0])]) (T' := [(62, [0, nI 8, 0]), (63, [(-2), nI 3, (-42), (-3), nI 50, (-62), nI 3, (-42), 0]), (62, [0, nI 7, 0]), (63, [(-2), nI 3, (-42), (-3), nI 50, (-62), nI 3, 0, 0]), (62, [0, nI 6, 0]), (63, [(-2), nI 3, (-42), (-3), nI 50, (-62), 0, 0, 0]), (62, [0, nI 5, 0]), (63, [(-2), nI 3, (-42), (-3), nI 50, 0, 0, 0, 0]), (62, [0, nI 4, 0]), (63, [(-2), nI 3, (-42), (-3), 0, 0, 0, 0, 0]), (62, [0, nI 3, 0]), (63, [(-2), nI 3, (-42), 0, 0, 0, 0, 0, 0]), (62, [0, nI 2, 0]), (63, [(-2), nI 3, 0, 0, 0, 0, 0, 0, 0]), (62, [0, nI 1, 0]), (63, [(-2), 0, 0, 0, 0, 0, 0, 0, 0]), (62, [0, nI 0, 0]), (63, [0, 0, 0, 0, 0, 0, 0, 0, 0]), (62, [0, 0, 0])]) (L := [0, nI 7, 0]) rfl (by decide) rfl (fun _ hx => tl_ne hx)) ?_
  refine v_iincN (lv2 := [(2, .int (nI 8)), (0, .ref 62), (1, .ref (1000 + 5))]) K 1 dX5_init_40 rfl rfl (by decide) rfl ?_
  refine v_goto (tgt := 27) K dX5_init_43 rfl ?_
  refine v_iload_n K dX5_init_27 rfl ?_
  refine v_aload_n K dX5_init_28 rfl ?_
  refine v_slen (j := 5) K (by decide) dX5_init_29 ?_
  refine v_top (y := nI 9) rfl ?_
  refine v_icmpN_ge (tgt := 46) K (by decide) (by decide) dX5_init_30 rfl (fun c => absurd c (by decide)) (fun _ => ?_)
  refine v_aload_n K dX5_init_33 rfl ?_
  refine v_aload_n K dX5_init_34 rfl ?_
  refine v_iload_n K dX5_init_35 rfl ?_
  refine v_sald (j := 5) (x := (-43)) K (by decide) (by decide) (by decide) dX5_init_36 ?_
  refine v_callVc (As := [.int ((-43))]) K (c_addM (n := 65) (g := (CT 0 GL 62 65 [(62, [64, 0, 65])] g0)) (CT 0 FH 62 65 [(62, [0, nI 8, 0]), (63, [(-2), nI 3, (-42), (-3), nI 50, (-62), nI 3, (-42), 0]), (62, [0, nI 7, 0]), (63, [(-2), nI 3, (-42), (-3), nI 50, (-62), nI 3, 0, 0]), (62, [0, nI 6, 0]), (63, [(-2), nI 3, (-42), (-3), nI 50, (-62), 0, 0, 0]), (62, [0, nI 5, 0]), (63, [(-2), nI 3, (-42), (-3), nI 50, 0, 0, 0, 0]), (62, [0, nI 4, 0]), (63, [(-2), nI 3, (-42), (-3), 0, 0, 0, 0, 0]), (62, [0, nI 3, 0]), (63, [(-2), nI 3, (-42), 0, 0, 0, 0, 0, 0]), (62, [0, nI 2, 0]), (63, [(-2), nI 3, 0, 0, 0, 0, 0, 0, 0]), (62, [0, nI 1, 0]), (63, [(-2), 0, 0, 0, 0, 0, 0, 0, 0]), (62, [0, nI 0, 0]), (63, [0, 0, 0, 0, 0, 0, 0, 0, 0]), (62, [0, 0, 0])] h0) 62 63 8 ((-43)) sh_62 (by decide) sh_63 (by decide) ((congrFun (CT_at (z := 0) (F := GL) (b := 62) (hi := 65) (f := g0) (T := [(62, [64, 0, 65])]) (L := [64, 0, 65]) rfl) 0).trans rfl) ((congrFun (CT_at (z := 0) (F := FH) (b := 62) (hi := 65) (f := h0) (T := [(62, [0, nI 8, 0]), (63, [(-2), nI 3, (-42), (-3), nI 50, (-62), nI 3, (-42), 0]), (62, [0, nI 7, 0]), (63, [(-2), nI 3, (-42), (-3), nI 50, (-62), nI 3, 0, 0]), (62, [0, nI 6, 0]), (63, [(-2), nI 3, (-42), (-3), nI 50, (-62), 0, 0, 0]), (62, [0, nI 5, 0]), (63, [(-2), nI 3, (-42), (-3), nI 50, 0, 0, 0, 0]), (62, [0, nI 4, 0]), (63, [(-2), nI 3, (-42), (-3), 0, 0, 0, 0, 0]), (62, [0, nI 3, 0]), (63, [(-2), nI 3, (-42), 0, 0, 0, 0, 0, 0]), (62, [0, nI 2, 0]), (63, [(-2), nI 3, 0, 0, 0, 0, 0, 0, 0]), (62, [0, nI 1, 0]), (63, [(-2), 0, 0, 0, 0, 0, 0, 0, 0]), (62, [0, nI 0, 0]), (63, [0, 0, 0, 0, 0, 0, 0, 0, 0]), (62, [0, 0, 0])]) (L := [0, nI 8, 0]) rfl) 1).trans rfl) (by decide)) lX5_22 ck_X5 rfl sh_62 (by decide) rfl ⟨by decide, by decide⟩ ⟨by decide, by decide⟩ (by decide) dX5_init_37 (fun r hh hp => ?_) rfl
  obtain ⟨rfl, rfl⟩ := hp
  refine v_none ?_
  refine v_hq (congrArg (fun h => u2 h 62 1 (nI (8 + 1))) (CT_u2 (F := FH) (T := [(62, [0, nI 8, 0]), (63, [(-2), nI 3, (-42), (-3), nI 50, (-62), nI 3, (-42), 0]), (62, [0, nI 7, 0]), (63, [(-2), nI 3, (-42), (-3), nI 50, (-62), nI 3, 0, 0]), (62, [0, nI 6, 0]), (63, [(-2), nI 3, (-42), (-3), nI 50, (-62), 0, 0, 0]), (62, [0, nI 5, 0]), (63, [(-2), nI 3, (-42), (-3), nI 50, 0, 0, 0, 0]), (62, [0, nI 4, 0]), (63, [(-2), nI 3, (-42), (-3), 0, 0, 0, 0, 0]), (62, [0, nI 3, 0]), (63, [(-2), nI 3, (-42), 0, 0, 0, 0, 0, 0]), (62, [0, nI 2, 0]), (63, [(-2), nI 3, 0, 0, 0, 0, 0, 0, 0]), (62, [0, nI 1, 0]), (63, [(-2), 0, 0, 0, 0, 0, 0, 0, 0]), (62, [0, nI 0, 0]), (63, [0, 0, 0, 0, 0, 0, 0, 0, 0]), (62, [0, 0, 0])]) (T' := [(63, [(-2), nI 3, (-42), (-3), nI 50, (-62), nI 3, (-42), (-43)]), (62, [0, nI 8, 0]), (63, [(-2), nI 3, (-42), (-3), nI 50, (-62), nI 3, (-42), 0]), (62, [0, nI 7, 0]), (63, [(-2), nI 3, (-42), (-3), nI 50, (-62), nI 3, 0, 0]), (62, [0, nI 6, 0]), (63, [(-2), nI 3, (-42), (-3), nI 50, (-62), 0, 0, 0]), (62, [0, nI 5, 0]), (63, [(-2), nI 3, (-42), (-3), nI 50, 0, 0, 0, 0]), (62, [0, nI 4, 0]), (63, [(-2), nI 3, (-42), (-3), 0, 0, 0, 0, 0]), (62, [0, nI 3, 0]), (63, [(-2), nI 3, (-42), 0, 0, 0, 0, 0, 0]), (62, [0, nI 2, 0]), (63, [(-2), nI 3, 0, 0, 0, 0, 0, 0, 0]), (62, [0, nI 1, 0]), (63, [(-2), 0, 0, 0, 0, 0, 0, 0, 0]), (62, [0, nI 0, 0]), (63, [0, 0, 0, 0, 0, 0, 0, 0, 0]), (62, [0, 0, 0])]) (L := [(-2), nI 3, (-42), (-3), nI 50, (-62), nI 3, (-42), 0]) rfl (by decide) rfl (fun _ hx => tl_ne hx))) ?_
  refine v_hq (CT_u2 (F := FH) (T := [(63, [(-2), nI 3, (-42), (-3), nI 50, (-62), nI 3, (-42), (-43)]), (62, [0, nI 8, 0]), (63, [(-2), nI 3, (-42), (-3), nI 50, (-62), nI 3, (-42), 0]), (62, [0, nI 7, 0]), (63, [(-2), nI 3, (-42), (-3), nI 50, (-62), nI 3, 0, 0]), (62, [0, nI 6, 0]), (63, [(-2), nI 3, (-42), (-3), nI 50, (-62), 0, 0, 0]), (62, [0, nI 5, 0]), (63, [(-2), nI 3, (-42), (-3), nI 50, 0, 0, 0, 0]), (62, [0, nI 4, 0]), (63, [(-2), nI 3, (-42), (-3), 0, 0, 0, 0, 0]), (62, [0, nI 3, 0]), (63, [(-2), nI 3, (-42), 0, 0, 0, 0, 0, 0]), (62, [0, nI 2, 0]), (63, [(-2), nI 3, 0, 0, 0, 0, 0, 0, 0]), (62, [0, nI 1, 0]), (63, [(-2), 0, 0, 0, 0, 0, 0, 0, 0]), (62, [0, nI 0, 0]), (63, [0, 0, 0, 0, 0, 0, 0, 0, 0]), (62, [0, 0, 0])]) (T' := [(62, [0, nI 9, 0]), (63, [(-2), nI 3, (-42), (-3), nI 50, (-62), nI 3, (-42), (-43)]), (62, [0, nI 8, 0]), (63, [(-2), nI 3, (-42), (-3), nI 50, (-62), nI 3, (-42), 0]), (62, [0, nI 7, 0]), (63, [(-2), nI 3, (-42), (-3), nI 50, (-62), nI 3, 0, 0]), (62, [0, nI 6, 0]), (63, [(-2), nI 3, (-42), (-3), nI 50, (-62), 0, 0, 0]), (62, [0, nI 5, 0]), (63, [(-2), nI 3, (-42), (-3), nI 50, 0, 0, 0, 0]), (62, [0, nI 4, 0]), (63, [(-2), nI 3, (-42), (-3), 0, 0, 0, 0, 0]), (62, [0, nI 3, 0]), (63, [(-2), nI 3, (-42), 0, 0, 0, 0, 0, 0]), (62, [0, nI 2, 0]), (63, [(-2), nI 3, 0, 0, 0, 0, 0, 0, 0]), (62, [0, nI 1, 0]), (63, [(-2), 0, 0, 0, 0, 0, 0, 0, 0]), (62, [0, nI 0, 0]), (63, [0, 0, 0, 0, 0, 0, 0, 0, 0]), (62, [0, 0, 0])]) (L := [0, nI 8, 0]) rfl (by decide) rfl (fun _ hx => tl_ne hx)) ?_
  refine v_iincN (lv2 := [(2, .int (nI 9)), (0, .ref 62), (1, .ref (1000 + 5))]) K 1 dX5_init_40 rfl rfl (by decide) rfl ?_
  refine v_goto (tgt := 27) K dX5_init_43 rfl ?_
  refine v_iload_n K dX5_init_27 rfl ?_
  refine v_aload_n K dX5_init_28 rfl ?_
  refine v_slen (j := 5) K (by decide) dX5_init_29 ?_
  refine v_top (y := nI 9) rfl ?_
  refine v_icmpN_ge (tgt := 46) K (by decide) (by decide) dX5_init_30 rfl (fun _ => ?_) (fun c => absurd c (by decide))
  exact v_vretA K dX5_init_46 B3 (CT_off (by decide) (by decide)) (CT_fin tN_eq (fun _ => rfl) (by decide +kernel) rfl) (W0.ct (by decide) (by decide) (by decide) (by decide +kernel) (by decide +kernel)) (FF_fin (by decide) (by decide) (by decide +kernel) rfl)

theorem cA_X5_init_65 {l : Launch} {g0 : Gm} {h0 : Mm} (A0 : MK 65 66 g0 h0) : ConA l yX5_init cX5_init 3 1 21 2 100 66 65 68 g0 h0 [.ref 65, .ref (1000 + 6)] (fun h2 => h2 = FF 65 68 h0) := by
  have W0 := A0.1
  have hz := A0.2.2.2.2
  refine ConA.ofV (own := "FoxRounds$Text") (nm := "<init>") rfl rfl (by decide) (by decide) ?_
  intro κ ρ hkl K
  subst hkl
  show V κ (QMA κ 66 65 68 ρ g0 (fun h2 => h2 = FF 65 68 h0) 2 100) 3 (66, ρ, g0, 0, 0) h0 0 [(0, .ref 65), (1, .ref (1000 + 6))] []
  refine v_sw (n := 66) (c := 0) (z := 0) (g' := (CT 0 GL 65 66 [(65, [0, 0, 0])] g0)) (h' := (CT 0 FH 65 66 [(65, [0, 0, 0])] h0)) (A0.s1 (by decide)) (A0.s2 (by decide)) ?_
  refine v_aload_n K dX5_init_0 rfl ?_
  refine v_objInit K oi_X5 oi_m oi_c ⟨by decide, by decide⟩ (by decide) dX5_init_1 ?_
  refine v_aload_n K dX5_init_4 rfl ?_
  refine v_bipushN K 50 rfl dX5_init_5 ?_
  refine v_newa K pl_66 sh_66 (CT_new (by decide) (hz 66 (by decide)).2) (Or.inl ⟨rfl, rfl⟩) (fun k => congrFun (CT_new (by decide) (hz 66 (by decide)).1) k) (W0.ct (by decide) (by decide) (by decide) (by decide +kernel) (by decide +kernel)) (by decide) rfl rfl wa_int ⟨by decide, by decide⟩ dX5_init_7 (fun ρ1 A1 => ?_)
  have B1 := AGR.t (AGR.r (n := 66) (ρ := ρ)) A1 (by decide)
  refine v_sw (n := 67) (c := 1) (z := 50) (g' := (CT 0 GL 65 67 [(65, [0, 0, 0])] g0)) (h' := (CT 0 FH 65 67 [(66, [0, 0, 0, 0, 0]), (65, [0, 0, 0])] h0)) (CT_grow (by decide) (by decide) (by decide) (fun a h => (hz a (Nat.le_trans (by decide) h)).1) (GLz (by decide +kernel))) (CT_push (by decide) (hz 66 (by decide)).2 (zrI (by decide))) ?_
  have cs2 := CT_set (z := 0) (F := GL) (b := 65) (hi := 67) (f := g0) (T := [(65, [0, 0, 0])]) (T' := [(65, [67, 0, 0])]) (L := [0, 0, 0]) (k := 0) (v := 66 + 1) rfl (by decide) rfl (fun _ hx => (tl_ne hx).trans (tl_ne hx).symm)
  refine v_putg (g' := (CT 0 GL 65 67 [(65, [67, 0, 0])] g0)) K pX5_9 (fun _ => rfl) (Or.inr ⟨_, rfl⟩) sh_65 (show 65 < 67 by decide) cs2.1 (fun j _ hj => cs2.2.1 j hj) (fun x _ hx => cs2.2.2 x hx) dX5_init_9 ?_
  refine v_aload_n K dX5_init_12 rfl ?_
  refine v_iconstN K 0 rfl dX5_init_13 ?_
  refine v_puti K pX5_15 sh_65 (show 65 < 67 by decide) dX5_init_14 ?_
  refine v_hq (CT_u2 (F := FH) (T := [(66, [0, 0, 0, 0, 0]), (65, [0, 0, 0])]) (T' := [(65, [0, nI 0, 0]), (66, [0, 0, 0, 0, 0]), (65, [0, 0, 0])]) (L := [0, 0, 0]) rfl (by decide) rfl (fun _ hx => tl_ne hx)) ?_
  refine v_aload_n K dX5_init_17 rfl ?_
  refine v_bipushN K 50 rfl dX5_init_18 ?_
  refine v_newa K pl_67 sh_67 (CT_new (by decide) (hz 67 (by decide)).2) (Or.inl ⟨rfl, rfl⟩) (fun k => congrFun (CT_new (by decide) (hz 67 (by decide)).1) k) (W0.ct (by decide) (by decide) (by decide) (by decide +kernel) (by decide +kernel)) (by decide) rfl rfl wa_int ⟨by decide, by decide⟩ dX5_init_20 (fun ρ3 A3 => ?_)
  have B3 := AGR.t B1 A3 (by decide)
  refine v_sw (n := 68) (c := 2) (z := 100) (g' := (CT 0 GL 65 68 [(65, [67, 0, 0])] g0)) (h' := (CT 0 FH 65 68 [(65, [0, nI 0, 0]), (66, [0, 0, 0, 0, 0]), (65, [0, 0, 0])] h0)) (CT_grow (by decide) (by decide) (by decide) (fun a h => (hz a (Nat.le_trans (by decide) h)).1) (GLz (by decide +kernel))) (CT_grow (by decide) (by decide) (by decide) (fun a h => (hz a (Nat.le_trans (by decide) h)).2) (FHz (by decide +kernel))) ?_
  have cs4 := CT_set (z := 0) (F := GL) (b := 65) (hi := 68) (f := g0) (T := [(65, [67, 0, 0])]) (T' := [(65, [67, 0, 68])]) (L := [67, 0, 0]) (k := 2) (v := 67 + 1) rfl (by decide) rfl (fun _ hx => (tl_ne hx).trans (tl_ne hx).symm)
  refine v_putg (g' := (CT 0 GL 65 68 [(65, [67, 0, 68])] g0)) K pX5_19 (fun _ => rfl) (Or.inr ⟨_, rfl⟩) sh_65 (show 65 < 68 by decide) cs4.1 (fun j _ hj => cs4.2.1 j hj) (fun x _ hx => cs4.2.2 x hx) dX5_init_22 ?_
  refine v_iconstN K 0 rfl dX5_init_25 ?_
  refine v_istore_n (lv2 := [(2, .int (nI 0)), (0, .ref 65), (1, .ref (1000 + 6))]) K dX5_init_26 (by decide) rfl ?_
  refine v_iload_n K dX5_init_27 rfl ?_
  refine v_aload_n K dX5_init_28 rfl ?_
  refine v_slen (j := 6) K (by decide) dX5_init_29 ?_
  refine v_top (y := nI 5) rfl ?_
  refine v_icmpN_ge (tgt := 46) K (by decide) (by decide) dX5_init_30 rfl (fun c => absurd c (by decide)) (fun _ => ?_)
  refine v_aload_n K dX5_init_33 rfl ?_
  refine v_aload_n K dX5_init_34 rfl ?_
  refine v_iload_n K dX5_init_35 rfl ?_
  refine v_sald (j := 6) (x := (-1)) K (by decide) (by decide) (by decide) dX5_init_36 ?_
  refine v_callVc (As := [.int ((-1))]) K (c_addM (n := 68) (g := (CT 0 GL 65 68 [(65, [67, 0, 68])] g0)) (CT 0 FH 65 68 [(65, [0, nI 0, 0]), (66, [0, 0, 0, 0, 0]), (65, [0, 0, 0])] h0) 65 66 0 ((-1)) sh_65 (by decide) sh_66 (by decide) ((congrFun (CT_at (z := 0) (F := GL) (b := 65) (hi := 68) (f := g0) (T := [(65, [67, 0, 68])]) (L := [67, 0, 68]) rfl) 0).trans rfl) ((congrFun (CT_at (z := 0) (F := FH) (b := 65) (hi := 68) (f := h0) (T := [(65, [0, nI 0, 0]), (66, [0, 0, 0, 0, 0]), (65, [0, 0, 0])]) (L := [0, nI 0, 0]) rfl) 1).trans rfl) (by decide)) lX5_22 ck_X5 rfl sh_65 (by decide) rfl ⟨by decide, by decide⟩ ⟨by decide, by decide⟩ (by decide) dX5_init_37 (fun r hh hp => ?_) rfl
  obtain ⟨rfl, rfl⟩ := hp
  refine v_none ?_
  refine v_hq (congrArg (fun h => u2 h 65 1 (nI (0 + 1))) (CT_u2 (F := FH) (T := [(65, [0, nI 0, 0]), (66, [0, 0, 0, 0, 0]), (65, [0, 0, 0])]) (T' := [(66, [(-1), 0, 0, 0, 0]), (65, [0, nI 0, 0]), (66, [0, 0, 0, 0, 0]), (65, [0, 0, 0])]) (L := [0, 0, 0, 0, 0]) rfl (by decide) rfl (fun _ hx => tl_ne hx))) ?_
  refine v_hq (CT_u2 (F := FH) (T := [(66, [(-1), 0, 0, 0, 0]), (65, [0, nI 0, 0]), (66, [0, 0, 0, 0, 0]), (65, [0, 0, 0])]) (T' := [(65, [0, nI 1, 0]), (66, [(-1), 0, 0, 0, 0]), (65, [0, nI 0, 0]), (66, [0, 0, 0, 0, 0]), (65, [0, 0, 0])]) (L := [0, nI 0, 0]) rfl (by decide) rfl (fun _ hx => tl_ne hx)) ?_
  refine v_iincN (lv2 := [(2, .int (nI 1)), (0, .ref 65), (1, .ref (1000 + 6))]) K 1 dX5_init_40 rfl rfl (by decide) rfl ?_
  refine v_goto (tgt := 27) K dX5_init_43 rfl ?_
  refine v_iload_n K dX5_init_27 rfl ?_
  refine v_aload_n K dX5_init_28 rfl ?_
  refine v_slen (j := 6) K (by decide) dX5_init_29 ?_
  refine v_top (y := nI 5) rfl ?_
  refine v_icmpN_ge (tgt := 46) K (by decide) (by decide) dX5_init_30 rfl (fun c => absurd c (by decide)) (fun _ => ?_)
  refine v_aload_n K dX5_init_33 rfl ?_
  refine v_aload_n K dX5_init_34 rfl ?_
  refine v_iload_n K dX5_init_35 rfl ?_
  refine v_sald (j := 6) (x := (-1)) K (by decide) (by decide) (by decide) dX5_init_36 ?_
  refine v_callVc (As := [.int ((-1))]) K (c_addM (n := 68) (g := (CT 0 GL 65 68 [(65, [67, 0, 68])] g0)) (CT 0 FH 65 68 [(65, [0, nI 1, 0]), (66, [(-1), 0, 0, 0, 0]), (65, [0, nI 0, 0]), (66, [0, 0, 0, 0, 0]), (65, [0, 0, 0])] h0) 65 66 1 ((-1)) sh_65 (by decide) sh_66 (by decide) ((congrFun (CT_at (z := 0) (F := GL) (b := 65) (hi := 68) (f := g0) (T := [(65, [67, 0, 68])]) (L := [67, 0, 68]) rfl) 0).trans rfl) ((congrFun (CT_at (z := 0) (F := FH) (b := 65) (hi := 68) (f := h0) (T := [(65, [0, nI 1, 0]), (66, [(-1), 0, 0, 0, 0]), (65, [0, nI 0, 0]), (66, [0, 0, 0, 0, 0]), (65, [0, 0, 0])]) (L := [0, nI 1, 0]) rfl) 1).trans rfl) (by decide)) lX5_22 ck_X5 rfl sh_65 (by decide) rfl ⟨by decide, by decide⟩ ⟨by decide, by decide⟩ (by decide) dX5_init_37 (fun r hh hp => ?_) rfl
  obtain ⟨rfl, rfl⟩ := hp
  refine v_none ?_
  refine v_hq (congrArg (fun h => u2 h 65 1 (nI (1 + 1))) (CT_u2 (F := FH) (T := [(65, [0, nI 1, 0]), (66, [(-1), 0, 0, 0, 0]), (65, [0, nI 0, 0]), (66, [0, 0, 0, 0, 0]), (65, [0, 0, 0])]) (T' := [(66, [(-1), (-1), 0, 0, 0]), (65, [0, nI 1, 0]), (66, [(-1), 0, 0, 0, 0]), (65, [0, nI 0, 0]), (66, [0, 0, 0, 0, 0]), (65, [0, 0, 0])]) (L := [(-1), 0, 0, 0, 0]) rfl (by decide) rfl (fun _ hx => tl_ne hx))) ?_
  refine v_hq (CT_u2 (F := FH) (T := [(66, [(-1), (-1), 0, 0, 0]), (65, [0, nI 1, 0]), (66, [(-1), 0, 0, 0, 0]), (65, [0, nI 0, 0]), (66, [0, 0, 0, 0, 0]), (65, [0, 0, 0])]) (T' := [(65, [0, nI 2, 0]), (66, [(-1), (-1), 0, 0, 0]), (65, [0, nI 1, 0]), (66, [(-1), 0, 0, 0, 0]), (65, [0, nI 0, 0]), (66, [0, 0, 0, 0, 0]), (65, [0, 0, 0])]) (L := [0, nI 1, 0]) rfl (by decide) rfl (fun _ hx => tl_ne hx)) ?_
  refine v_iincN (lv2 := [(2, .int (nI 2)), (0, .ref 65), (1, .ref (1000 + 6))]) K 1 dX5_init_40 rfl rfl (by decide) rfl ?_
  refine v_goto (tgt := 27) K dX5_init_43 rfl ?_
  refine v_iload_n K dX5_init_27 rfl ?_
  refine v_aload_n K dX5_init_28 rfl ?_
  refine v_slen (j := 6) K (by decide) dX5_init_29 ?_
  refine v_top (y := nI 5) rfl ?_
  refine v_icmpN_ge (tgt := 46) K (by decide) (by decide) dX5_init_30 rfl (fun c => absurd c (by decide)) (fun _ => ?_)
  refine v_aload_n K dX5_init_33 rfl ?_
  refine v_aload_n K dX5_init_34 rfl ?_
  refine v_iload_n K dX5_init_35 rfl ?_
  refine v_sald (j := 6) (x := nI 30) K (by decide) (by decide) (by decide) dX5_init_36 ?_
  refine v_callVc (As := [.int (nI 30)]) K (c_addM (n := 68) (g := (CT 0 GL 65 68 [(65, [67, 0, 68])] g0)) (CT 0 FH 65 68 [(65, [0, nI 2, 0]), (66, [(-1), (-1), 0, 0, 0]), (65, [0, nI 1, 0]), (66, [(-1), 0, 0, 0, 0]), (65, [0, nI 0, 0]), (66, [0, 0, 0, 0, 0]), (65, [0, 0, 0])] h0) 65 66 2 (nI 30) sh_65 (by decide) sh_66 (by decide) ((congrFun (CT_at (z := 0) (F := GL) (b := 65) (hi := 68) (f := g0) (T := [(65, [67, 0, 68])]) (L := [67, 0, 68]) rfl) 0).trans rfl) ((congrFun (CT_at (z := 0) (F := FH) (b := 65) (hi := 68) (f := h0) (T := [(65, [0, nI 2, 0]), (66, [(-1), (-1), 0, 0, 0]), (65, [0, nI 1, 0]), (66, [(-1), 0, 0, 0, 0]), (65, [0, nI 0, 0]), (66, [0, 0, 0, 0, 0]), (65, [0, 0, 0])]) (L := [0, nI 2, 0]) rfl) 1).trans rfl) (by decide)) lX5_22 ck_X5 rfl sh_65 (by decide) rfl ⟨by decide, by decide⟩ ⟨by decide, by decide⟩ (by decide) dX5_init_37 (fun r hh hp => ?_) rfl
  obtain ⟨rfl, rfl⟩ := hp
  refine v_none ?_
  refine v_hq (congrArg (fun h => u2 h 65 1 (nI (2 + 1))) (CT_u2 (F := FH) (T := [(65, [0, nI 2, 0]), (66, [(-1), (-1), 0, 0, 0]), (65, [0, nI 1, 0]), (66, [(-1), 0, 0, 0, 0]), (65, [0, nI 0, 0]), (66, [0, 0, 0, 0, 0]), (65, [0, 0, 0])]) (T' := [(66, [(-1), (-1), nI 30, 0, 0]), (65, [0, nI 2, 0]), (66, [(-1), (-1), 0, 0, 0]), (65, [0, nI 1, 0]), (66, [(-1), 0, 0, 0, 0]), (65, [0, nI 0, 0]), (66, [0, 0, 0, 0, 0]), (65, [0, 0, 0])]) (L := [(-1), (-1), 0, 0, 0]) rfl (by decide) rfl (fun _ hx => tl_ne hx))) ?_
  refine v_hq (CT_u2 (F := FH) (T := [(66, [(-1), (-1), nI 30, 0, 0]), (65, [0, nI 2, 0]), (66, [(-1), (-1), 0, 0, 0]), (65, [0, nI 1, 0]), (66, [(-1), 0, 0, 0, 0]), (65, [0, nI 0, 0]), (66, [0, 0, 0, 0, 0]), (65, [0, 0, 0])]) (T' := [(65, [0, nI 3, 0]), (66, [(-1), (-1), nI 30, 0, 0]), (65, [0, nI 2, 0]), (66, [(-1), (-1), 0, 0, 0]), (65, [0, nI 1, 0]), (66, [(-1), 0, 0, 0, 0]), (65, [0, nI 0, 0]), (66, [0, 0, 0, 0, 0]), (65, [0, 0, 0])]) (L := [0, nI 2, 0]) rfl (by decide) rfl (fun _ hx => tl_ne hx)) ?_
  refine v_iincN (lv2 := [(2, .int (nI 3)), (0, .ref 65), (1, .ref (1000 + 6))]) K 1 dX5_init_40 rfl rfl (by decide) rfl ?_
  refine v_goto (tgt := 27) K dX5_init_43 rfl ?_
  refine v_iload_n K dX5_init_27 rfl ?_
  refine v_aload_n K dX5_init_28 rfl ?_
  refine v_slen (j := 6) K (by decide) dX5_init_29 ?_
  refine v_top (y := nI 5) rfl ?_
  refine v_icmpN_ge (tgt := 46) K (by decide) (by decide) dX5_init_30 rfl (fun c => absurd c (by decide)) (fun _ => ?_)
  refine v_aload_n K dX5_init_33 rfl ?_
  refine v_aload_n K dX5_init_34 rfl ?_
  refine v_iload_n K dX5_init_35 rfl ?_
  refine v_sald (j := 6) (x := (-47)) K (by decide) (by decide) (by decide) dX5_init_36 ?_
  refine v_callVc (As := [.int ((-47))]) K (c_addM (n := 68) (g := (CT 0 GL 65 68 [(65, [67, 0, 68])] g0)) (CT 0 FH 65 68 [(65, [0, nI 3, 0]), (66, [(-1), (-1), nI 30, 0, 0]), (65, [0, nI 2, 0]), (66, [(-1), (-1), 0, 0, 0]), (65, [0, nI 1, 0]), (66, [(-1), 0, 0, 0, 0]), (65, [0, nI 0, 0]), (66, [0, 0, 0, 0, 0]), (65, [0, 0, 0])] h0) 65 66 3 ((-47)) sh_65 (by decide) sh_66 (by decide) ((congrFun (CT_at (z := 0) (F := GL) (b := 65) (hi := 68) (f := g0) (T := [(65, [67, 0, 68])]) (L := [67, 0, 68]) rfl) 0).trans rfl) ((congrFun (CT_at (z := 0) (F := FH) (b := 65) (hi := 68) (f := h0) (T := [(65, [0, nI 3, 0]), (66, [(-1), (-1), nI 30, 0, 0]), (65, [0, nI 2, 0]), (66, [(-1), (-1), 0, 0, 0]), (65, [0, nI 1, 0]), (66, [(-1), 0, 0, 0, 0]), (65, [0, nI 0, 0]), (66, [0, 0, 0, 0, 0]), (65, [0, 0, 0])]) (L := [0, nI 3, 0]) rfl) 1).trans rfl) (by decide)) lX5_22 ck_X5 rfl sh_65 (by decide) rfl ⟨by decide, by decide⟩ ⟨by decide, by decide⟩ (by decide) dX5_init_37 (fun r hh hp => ?_) rfl
  obtain ⟨rfl, rfl⟩ := hp
  refine v_none ?_
  refine v_hq (congrArg (fun h => u2 h 65 1 (nI (3 + 1))) (CT_u2 (F := FH) (T := [(65, [0, nI 3, 0]), (66, [(-1), (-1), nI 30, 0, 0]), (65, [0, nI 2, 0]), (66, [(-1), (-1), 0, 0, 0]), (65, [0, nI 1, 0]), (66, [(-1), 0, 0, 0, 0]), (65, [0, nI 0, 0]), (66, [0, 0, 0, 0, 0]), (65, [0, 0, 0])]) (T' := [(66, [(-1), (-1), nI 30, (-47), 0]), (65, [0, nI 3, 0]), (66, [(-1), (-1), nI 30, 0, 0]), (65, [0, nI 2, 0]), (66, [(-1), (-1), 0, 0, 0]), (65, [0, nI 1, 0]), (66, [(-1), 0, 0, 0, 0]), (65, [0, nI 0, 0]), (66, [0, 0, 0, 0, 0]), (65, [0, 0, 0])]) (L := [(-1), (-1), nI 30, 0, 0]) rfl (by decide) rfl (fun _ hx => tl_ne hx))) ?_
  refine v_hq (CT_u2 (F := FH) (T := [(66, [(-1), (-1), nI 30, (-47), 0]), (65, [0, nI 3, 0]), (66, [(-1), (-1), nI 30, 0, 0]), (65, [0, nI 2, 0]), (66, [(-1), (-1), 0, 0, 0]), (65, [0, nI 1, 0]), (66, [(-1), 0, 0, 0, 0]), (65, [0, nI 0, 0]), (66, [0, 0, 0, 0, 0]), (65, [0, 0, 0])]) (T' := [(65, [0, nI 4, 0]), (66, [(-1), (-1), nI 30, (-47), 0]), (65, [0, nI 3, 0]), (66, [(-1), (-1), nI 30, 0, 0]), (65, [0, nI 2, 0]), (66, [(-1), (-1), 0, 0, 0]), (65, [0, nI 1, 0]), (66, [(-1), 0, 0, 0, 0]), (65, [0, nI 0, 0]), (66, [0, 0, 0, 0, 0]), (65, [0, 0, 0])]) (L := [0, nI 3, 0]) rfl (by decide) rfl (fun _ hx => tl_ne hx)) ?_
  refine v_iincN (lv2 := [(2, .int (nI 4)), (0, .ref 65), (1, .ref (1000 + 6))]) K 1 dX5_init_40 rfl rfl (by decide) rfl ?_
  refine v_goto (tgt := 27) K dX5_init_43 rfl ?_
  refine v_iload_n K dX5_init_27 rfl ?_
  refine v_aload_n K dX5_init_28 rfl ?_
  refine v_slen (j := 6) K (by decide) dX5_init_29 ?_
  refine v_top (y := nI 5) rfl ?_
  refine v_icmpN_ge (tgt := 46) K (by decide) (by decide) dX5_init_30 rfl (fun c => absurd c (by decide)) (fun _ => ?_)
  refine v_aload_n K dX5_init_33 rfl ?_
  refine v_aload_n K dX5_init_34 rfl ?_
  refine v_iload_n K dX5_init_35 rfl ?_
  refine v_sald (j := 6) (x := (-45)) K (by decide) (by decide) (by decide) dX5_init_36 ?_
  refine v_callVc (As := [.int ((-45))]) K (c_addM (n := 68) (g := (CT 0 GL 65 68 [(65, [67, 0, 68])] g0)) (CT 0 FH 65 68 [(65, [0, nI 4, 0]), (66, [(-1), (-1), nI 30, (-47), 0]), (65, [0, nI 3, 0]), (66, [(-1), (-1), nI 30, 0, 0]), (65, [0, nI 2, 0]), (66, [(-1), (-1), 0, 0, 0]), (65, [0, nI 1, 0]), (66, [(-1), 0, 0, 0, 0]), (65, [0, nI 0, 0]), (66, [0, 0, 0, 0, 0]), (65, [0, 0, 0])] h0) 65 66 4 ((-45)) sh_65 (by decide) sh_66 (by decide) ((congrFun (CT_at (z := 0) (F := GL) (b := 65) (hi := 68) (f := g0) (T := [(65, [67, 0, 68])]) (L := [67, 0, 68]) rfl) 0).trans rfl) ((congrFun (CT_at (z := 0) (F := FH) (b := 65) (hi := 68) (f := h0) (T := [(65, [0, nI 4, 0]), (66, [(-1), (-1), nI 30, (-47), 0]), (65, [0, nI 3, 0]), (66, [(-1), (-1), nI 30, 0, 0]), (65, [0, nI 2, 0]), (66, [(-1), (-1), 0, 0, 0]), (65, [0, nI 1, 0]), (66, [(-1), 0, 0, 0, 0]), (65, [0, nI 0, 0]), (66, [0, 0, 0, 0, 0]), (65, [0, 0, 0])]) (L := [0, nI 4, 0]) rfl) 1).trans rfl) (by decide)) lX5_22 ck_X5 rfl sh_65 (by decide) rfl ⟨by decide, by decide⟩ ⟨by decide, by decide⟩ (by decide) dX5_init_37 (fun r hh hp => ?_) rfl
  obtain ⟨rfl, rfl⟩ := hp
  refine v_none ?_
  refine v_hq (congrArg (fun h => u2 h 65 1 (nI (4 + 1))) (CT_u2 (F := FH) (T := [(65, [0, nI 4, 0]), (66, [(-1), (-1), nI 30, (-47), 0]), (65, [0, nI 3, 0]), (66, [(-1), (-1), nI 30, 0, 0]), (65, [0, nI 2, 0]), (66, [(-1), (-1), 0, 0, 0]), (65, [0, nI 1, 0]), (66, [(-1), 0, 0, 0, 0]), (65, [0, nI 0, 0]), (66, [0, 0, 0, 0, 0]), (65, [0, 0, 0])]) (T' := [(66, [(-1), (-1), nI 30, (-47), (-45)]), (65, [0, nI 4, 0]), (66, [(-1), (-1), nI 30, (-47), 0]), (65, [0, nI 3, 0]), (66, [(-1), (-1), nI 30, 0, 0]), (65, [0, nI 2, 0]), (66, [(-1), (-1), 0, 0, 0]), (65, [0, nI 1, 0]), (66, [(-1), 0, 0, 0, 0]), (65, [0, nI 0, 0]), (66, [0, 0, 0, 0, 0]), (65, [0, 0, 0])]) (L := [(-1), (-1), nI 30, (-47), 0]) rfl (by decide) rfl (fun _ hx => tl_ne hx))) ?_
  refine v_hq (CT_u2 (F := FH) (T := [(66, [(-1), (-1), nI 30, (-47), (-45)]), (65, [0, nI 4, 0]), (66, [(-1), (-1), nI 30, (-47), 0]), (65, [0, nI 3, 0]), (66, [(-1), (-1), nI 30, 0, 0]), (65, [0, nI 2, 0]), (66, [(-1), (-1), 0, 0, 0]), (65, [0, nI 1, 0]), (66, [(-1), 0, 0, 0, 0]), (65, [0, nI 0, 0]), (66, [0, 0, 0, 0, 0]), (65, [0, 0, 0])]) (T' := [(65, [0, nI 5, 0]), (66, [(-1), (-1), nI 30, (-47), (-45)]), (65, [0, nI 4, 0]), (66, [(-1), (-1), nI 30, (-47), 0]), (65, [0, nI 3, 0]), (66, [(-1), (-1), nI 30, 0, 0]), (65, [0, nI 2, 0]), (66, [(-1), (-1), 0, 0, 0]), (65, [0, nI 1, 0]), (66, [(-1), 0, 0, 0, 0]), (65, [0, nI 0, 0]), (66, [0, 0, 0, 0, 0]), (65, [0, 0, 0])]) (L := [0, nI 4, 0]) rfl (by decide) rfl (fun _ hx => tl_ne hx)) ?_
  refine v_iincN (lv2 := [(2, .int (nI 5)), (0, .ref 65), (1, .ref (1000 + 6))]) K 1 dX5_init_40 rfl rfl (by decide) rfl ?_
  refine v_goto (tgt := 27) K dX5_init_43 rfl ?_
  refine v_iload_n K dX5_init_27 rfl ?_
  refine v_aload_n K dX5_init_28 rfl ?_
  refine v_slen (j := 6) K (by decide) dX5_init_29 ?_
  refine v_top (y := nI 5) rfl ?_
  refine v_icmpN_ge (tgt := 46) K (by decide) (by decide) dX5_init_30 rfl (fun _ => ?_) (fun c => absurd c (by decide))
  exact v_vretA K dX5_init_46 B3 (CT_off (by decide) (by decide)) (CT_fin tN_eq (fun _ => rfl) (by decide +kernel) rfl) (W0.ct (by decide) (by decide) (by decide) (by decide +kernel) (by decide +kernel)) (FF_fin (by decide) (by decide) (by decide +kernel) rfl)

theorem cA_X2_init_58 {l : Launch} {g0 : Gm} {h0 : Mm} (A0 : MK 58 59 g0 h0) : ConA l yX2_init cX2_init 1 2 43 10 314 59 58 69 g0 h0 [.ref 58] (fun h2 => h2 = FF 58 69 h0) := by
  have W0 := A0.1
  have hz := A0.2.2.2.2
  refine ConA.ofV (own := "FoxRounds$Laws") (nm := "<init>") rfl rfl (by decide) (by decide) ?_
  intro κ ρ hkl K
  subst hkl
  show V κ (QMA κ 59 58 69 ρ g0 (fun h2 => h2 = FF 58 69 h0) 10 314) 1 (59, ρ, g0, 0, 0) h0 0 [(0, .ref 58)] []
  refine v_sw (n := 59) (c := 0) (z := 0) (g' := (CT 0 GL 58 59 [(58, [0, 0, 0, 0])] g0)) (h' := (CT 0 FH 58 59 [(58, [0, 0, 0, 0])] h0)) (A0.s1 (by decide)) (A0.s2 (by decide)) ?_
  refine v_aload_n K dX2_init_0 rfl ?_
  refine v_objInit K oi_X2 oi_m oi_c ⟨by decide, by decide⟩ (by decide) dX2_init_1 ?_
  refine v_aload_n K dX2_init_4 rfl ?_
  refine v_new K nwX2_9 pl_59 sh_59 (fun k => congrFun (CT_new (by decide) (hz 59 (by decide)).1) k) (fun k _ => congrFun (CT_new (by decide) (hz 59 (by decide)).2) k) (W0.ct (by decide) (by decide) (by decide) (by decide +kernel) (by decide +kernel)) rfl rfl ⟨by decide, by decide⟩ dX2_init_5 (fun ρ1 A1 => ?_)
  have B1 := AGR.t (AGR.r (n := 59) (ρ := ρ)) A1 (by decide)
  refine v_sw (n := 60) (c := 1) (z := 3) (g' := (CT 0 GL 58 60 [(59, [0, 0, 0]), (58, [0, 0, 0, 0])] g0)) (h' := (CT 0 FH 58 60 [(59, [0, 0, 0]), (58, [0, 0, 0, 0])] h0)) (CT_push (by decide) (hz 59 (by decide)).1 (zrN (by decide))) (CT_push (by decide) (hz 59 (by decide)).2 (zrI (by decide))) ?_
  refine v_dup K dX2_init_8 rfl ?_
  refine v_getsN (j := 4) K (by decide) sX2_11 dX2_init_9 ?_
  refine v_callI (As := [.ref (1000 + 4)]) K (cA_X5_init_59 (A0.sub (T := [(58, [0, 0, 0, 0])]) (S := [(58, [0, 0, 0, 0])]) (L := [0, 0, 0]) (M := [0, 0, 0]) (W0.ct (by decide) (by decide) (by decide) (by decide +kernel) (by decide +kernel)) (by decide) (by decide) (by decide) (by decide) (by decide) (by decide) (by decide))) lX2_15 rfl rfl ⟨by decide, by decide⟩ ⟨by decide, by decide⟩ (by decide) rfl rfl dX2_init_12 (fun ρ2 g2 h2 A2 x2 y2 w2 p2 => ?_) rfl
  have B2 := AGR.t B1 A2 (by decide)
  subst p2
  refine v_sw (n := 62) (c := 3) (z := 103) (g' := (CT 0 GL 58 62 [(58, [0, 0, 0, 0])] g0)) (h' := (CT 0 FH 58 62 [(58, [0, 0, 0, 0])] h0)) (CT_back x2 y2 (by decide) (by decide) (by decide)) (CT_back (fun a ha => FF_off ha) (fun a h1 h2 => FF_in h1 h2) (by decide) (by decide) (by decide)) ?_
  have cs3 := CT_set (z := 0) (F := GL) (b := 58) (hi := 62) (f := g0) (T := [(58, [0, 0, 0, 0])]) (T' := [(58, [60, 0, 0, 0])]) (L := [0, 0, 0, 0]) (k := 0) (v := 59 + 1) rfl (by decide) rfl (fun _ hx => (tl_ne hx).trans (tl_ne hx).symm)
  refine v_putg (g' := (CT 0 GL 58 62 [(58, [60, 0, 0, 0])] g0)) K pX2_18 (fun _ => rfl) (Or.inl ⟨_, rfl⟩) sh_58 (show 58 < 62 by decide) cs3.1 (fun j _ hj => cs3.2.1 j hj) (fun x _ hx => cs3.2.2 x hx) dX2_init_15 ?_
  refine v_aload_n K dX2_init_18 rfl ?_
  refine v_new K nwX2_9 pl_62 sh_62 (fun k => congrFun (CT_new (by decide) (hz 62 (by decide)).1) k) (fun k _ => congrFun (CT_new (by decide) (hz 62 (by decide)).2) k) (W0.ct (by decide) (by decide) (by decide) (by decide +kernel) (by decide +kernel)) rfl rfl ⟨by decide, by decide⟩ dX2_init_19 (fun ρ4 A4 => ?_)
  have B4 := AGR.t B2 A4 (by decide)
  refine v_sw (n := 63) (c := 4) (z := 106) (g' := (CT 0 GL 58 63 [(62, [0, 0, 0]), (58, [60, 0, 0, 0])] g0)) (h' := (CT 0 FH 58 63 [(62, [0, 0, 0]), (58, [0, 0, 0, 0])] h0)) (CT_push (by decide) (hz 62 (by decide)).1 (zrN (by decide))) (CT_push (by decide) (hz 62 (by decide)).2 (zrI (by decide))) ?_
  refine v_dup K dX2_init_22 rfl ?_
  refine v_getsN (j := 5) K (by decide) sX2_24 dX2_init_23 ?_
  refine v_callI (As := [.ref (1000 + 5)]) K (cA_X5_init_62 (A0.sub (T := [(58, [60, 0, 0, 0])]) (S := [(58, [0, 0, 0, 0])]) (L := [0, 0, 0]) (M := [0, 0, 0]) (W0.ct (by decide) (by decide) (by decide) (by decide +kernel) (by decide +kernel)) (by decide) (by decide) (by decide) (by decide) (by decide) (by decide) (by decide))) lX2_15 rfl rfl ⟨by decide, by decide⟩ ⟨by decide, by decide⟩ (by decide) rfl rfl dX2_init_26 (fun ρ5 g5 h5 A5 x5 y5 w5 p5 => ?_) rfl
  have B5 := AGR.t B4 A5 (by decide)
  subst p5
  refine v_sw (n := 65) (c := 6) (z := 206) (g' := (CT 0 GL 58 65 [(58, [60, 0, 0, 0])] g0)) (h' := (CT 0 FH 58 65 [(58, [0, 0, 0, 0])] h0)) (CT_back x5 y5 (by decide) (by decide) (by decide)) (CT_back (fun a ha => FF_off ha) (fun a h1 h2 => FF_in h1 h2) (by decide) (by decide) (by decide)) ?_
  have cs6 := CT_set (z := 0) (F := GL) (b := 58) (hi := 65) (f := g0) (T := [(58, [60, 0, 0, 0])]) (T' := [(58, [60, 63, 0, 0])]) (L := [60, 0, 0, 0]) (k := 1) (v := 62 + 1) rfl (by decide) rfl (fun _ hx => (tl_ne hx).trans (tl_ne hx).symm)
  refine v_putg (g' := (CT 0 GL 58 65 [(58, [60, 63, 0, 0])] g0)) K pX2_27 (fun _ => rfl) (Or.inl ⟨_, rfl⟩) sh_58 (show 58 < 65 by decide) cs6.1 (fun j _ hj => cs6.2.1 j hj) (fun x _ hx => cs6.2.2 x hx) dX2_init_29 ?_
  refine v_aload_n K dX2_init_32 rfl ?_
  refine v_new K nwX2_9 pl_65 sh_65 (fun k => congrFun (CT_new (by decide) (hz 65 (by decide)).1) k) (fun k _ => congrFun (CT_new (by decide) (hz 65 (by decide)).2) k) (W0.ct (by decide) (by decide) (by decide) (by decide +kernel) (by decide +kernel)) rfl rfl ⟨by decide, by decide⟩ dX2_init_33 (fun ρ7 A7 => ?_)
  have B7 := AGR.t B5 A7 (by decide)
  refine v_sw (n := 66) (c := 7) (z := 209) (g' := (CT 0 GL 58 66 [(65, [0, 0, 0]), (58, [60, 63, 0, 0])] g0)) (h' := (CT 0 FH 58 66 [(65, [0, 0, 0]), (58, [0, 0, 0, 0])] h0)) (CT_push (by decide) (hz 65 (by decide)).1 (zrN (by decide))) (CT_push (by decide) (hz 65 (by decide)).2 (zrI (by decide))) ?_
  refine v_dup K dX2_init_36 rfl ?_
  refine v_getsN (j := 6) K (by decide) sX2_30 dX2_init_37 ?_
  refine v_callI (As := [.ref (1000 + 6)]) K (cA_X5_init_65 (A0.sub (T := [(58, [60, 63, 0, 0])]) (S := [(58, [0, 0, 0, 0])]) (L := [0, 0, 0]) (M := [0, 0, 0]) (W0.ct (by decide) (by decide) (by decide) (by decide +kernel) (by decide +kernel)) (by decide) (by decide) (by decide) (by decide) (by decide) (by decide) (by decide))) lX2_15 rfl rfl ⟨by decide, by decide⟩ ⟨by decide, by decide⟩ (by decide) rfl rfl dX2_init_40 (fun ρ8 g8 h8 A8 x8 y8 w8 p8 => ?_) rfl
  have B8 := AGR.t B7 A8 (by decide)
  subst p8
  refine v_sw (n := 68) (c := 9) (z := 309) (g' := (CT 0 GL 58 68 [(58, [60, 63, 0, 0])] g0)) (h' := (CT 0 FH 58 68 [(58, [0, 0, 0, 0])] h0)) (CT_back x8 y8 (by decide) (by decide) (by decide)) (CT_back (fun a ha => FF_off ha) (fun a h1 h2 => FF_in h1 h2) (by decide) (by decide) (by decide)) ?_
  have cs9 := CT_set (z := 0) (F := GL) (b := 58) (hi := 68) (f := g0) (T := [(58, [60, 63, 0, 0])]) (T' := [(58, [60, 63, 66, 0])]) (L := [60, 63, 0, 0]) (k := 2) (v := 65 + 1) rfl (by decide) rfl (fun _ hx => (tl_ne hx).trans (tl_ne hx).symm)
  refine v_putg (g' := (CT 0 GL 58 68 [(58, [60, 63, 66, 0])] g0)) K pX2_33 (fun _ => rfl) (Or.inl ⟨_, rfl⟩) sh_58 (show 58 < 68 by decide) cs9.1 (fun j _ hj => cs9.2.1 j hj) (fun x _ hx => cs9.2.2 x hx) dX2_init_43 ?_
  refine v_aload_n K dX2_init_46 rfl ?_
  refine v_iconstN K 5 rfl dX2_init_47 ?_
  refine v_newa K pl_68 sh_68 (CT_new (by decide) (hz 68 (by decide)).2) (Or.inl ⟨rfl, rfl⟩) (fun k => congrFun (CT_new (by decide) (hz 68 (by decide)).1) k) (W0.ct (by decide) (by decide) (by decide) (by decide +kernel) (by decide +kernel)) (by decide) rfl rfl wa_int ⟨by decide, by decide⟩ dX2_init_48 (fun ρ10 A10 => ?_)
  have B10 := AGR.t B8 A10 (by decide)
  refine v_sw (n := 69) (c := 10) (z := 314) (g' := (CT 0 GL 58 69 [(58, [60, 63, 66, 0])] g0)) (h' := (CT 0 FH 58 69 [(58, [0, 0, 0, 0])] h0)) (CT_grow (by decide) (by decide) (by decide) (fun a h => (hz a (Nat.le_trans (by decide) h)).1) (GLz (by decide +kernel))) (CT_grow (by decide) (by decide) (by decide) (fun a h => (hz a (Nat.le_trans (by decide) h)).2) (FHz (by decide +kernel))) ?_
  have cs11 := CT_set (z := 0) (F := GL) (b := 58) (hi := 69) (f := g0) (T := [(58, [60, 63, 66, 0])]) (T' := [(58, [60, 63, 66, 69])]) (L := [60, 63, 66, 0]) (k := 3) (v := 68 + 1) rfl (by decide) rfl (fun _ hx => (tl_ne hx).trans (tl_ne hx).symm)
  refine v_putg (g' := (CT 0 GL 58 69 [(58, [60, 63, 66, 69])] g0)) K pX2_36 (fun _ => rfl) (Or.inr ⟨_, rfl⟩) sh_58 (show 58 < 69 by decide) cs11.1 (fun j _ hj => cs11.2.1 j hj) (fun x _ hx => cs11.2.2 x hx) dX2_init_50 ?_
  exact v_vretA K dX2_init_53 B10 (CT_off (by decide) (by decide)) (CT_fin tN_eq (fun _ => rfl) (by decide +kernel) rfl) (W0.ct (by decide) (by decide) (by decide) (by decide +kernel) (by decide +kernel)) (FF_fin (by decide) (by decide) (by decide +kernel) rfl)

theorem cA_X6_init_69 {l : Launch} {g0 : Gm} {h0 : Mm} (A0 : MK 69 70 g0 h0) : ConA l yX6_init cX6_init 1 1 20 4 24 70 69 74 g0 h0 [.ref 69] (fun h2 => h2 = FF 69 74 h0) := by
  have W0 := A0.1
  have hz := A0.2.2.2.2
  refine ConA.ofV (own := "FoxRounds$Village") (nm := "<init>") rfl rfl (by decide) (by decide) ?_
  intro κ ρ hkl K
  subst hkl
  show V κ (QMA κ 70 69 74 ρ g0 (fun h2 => h2 = FF 69 74 h0) 4 24) 1 (70, ρ, g0, 0, 0) h0 0 [(0, .ref 69)] []
  refine v_sw (n := 70) (c := 0) (z := 0) (g' := (CT 0 GL 69 70 [(69, [0, 0, 0, 0, 0])] g0)) (h' := (CT 0 FH 69 70 [(69, [0, 0, 0, 0, 0])] h0)) (A0.s1 (by decide)) (A0.s2 (by decide)) ?_
  refine v_aload_n K dX6_init_0 rfl ?_
  refine v_objInit K oi_X6 oi_m oi_c ⟨by decide, by decide⟩ (by decide) dX6_init_1 ?_
  refine v_aload_n K dX6_init_4 rfl ?_
  refine v_bipushN K 6 rfl dX6_init_5 ?_
  refine v_newa K pl_70 sh_70 (CT_new (by decide) (hz 70 (by decide)).2) (Or.inl ⟨rfl, rfl⟩) (fun k => congrFun (CT_new (by decide) (hz 70 (by decide)).1) k) (W0.ct (by decide) (by decide) (by decide) (by decide +kernel) (by decide +kernel)) (by decide) rfl rfl wa_int ⟨by decide, by decide⟩ dX6_init_7 (fun ρ1 A1 => ?_)
  have B1 := AGR.t (AGR.r (n := 70) (ρ := ρ)) A1 (by decide)
  refine v_sw (n := 71) (c := 1) (z := 6) (g' := (CT 0 GL 69 71 [(69, [0, 0, 0, 0, 0])] g0)) (h' := (CT 0 FH 69 71 [(69, [0, 0, 0, 0, 0])] h0)) (CT_grow (by decide) (by decide) (by decide) (fun a h => (hz a (Nat.le_trans (by decide) h)).1) (GLz (by decide +kernel))) (CT_grow (by decide) (by decide) (by decide) (fun a h => (hz a (Nat.le_trans (by decide) h)).2) (FHz (by decide +kernel))) ?_
  have cs2 := CT_set (z := 0) (F := GL) (b := 69) (hi := 71) (f := g0) (T := [(69, [0, 0, 0, 0, 0])]) (T' := [(69, [71, 0, 0, 0, 0])]) (L := [0, 0, 0, 0, 0]) (k := 0) (v := 70 + 1) rfl (by decide) rfl (fun _ hx => (tl_ne hx).trans (tl_ne hx).symm)
  refine v_putg (g' := (CT 0 GL 69 71 [(69, [71, 0, 0, 0, 0])] g0)) K pX6_9 (fun _ => rfl) (Or.inr ⟨_, rfl⟩) sh_69 (show 69 < 71 by decide) cs2.1 (fun j _ hj => cs2.2.1 j hj) (fun x _ hx => cs2.2.2 x hx) dX6_init_9 ?_
  refine v_aload_n K dX6_init_12 rfl ?_
  refine v_bipushN K 6 rfl dX6_init_13 ?_
  refine v_newa K pl_71 sh_71 (CT_new (by decide) (hz 71 (by decide)).2) (Or.inl ⟨rfl, rfl⟩) (fun k => congrFun (CT_new (by decide) (hz 71 (by decide)).1) k) (W0.ct (by decide) (by decide) (by decide) (by decide +kernel) (by decide +kernel)) (by decide) rfl rfl wa_int ⟨by decide, by decide⟩ dX6_init_15 (fun ρ3 A3 => ?_)
  have B3 := AGR.t B1 A3 (by decide)
  refine v_sw (n := 72) (c := 2) (z := 12) (g' := (CT 0 GL 69 72 [(69, [71, 0, 0, 0, 0])] g0)) (h' := (CT 0 FH 69 72 [(69, [0, 0, 0, 0, 0])] h0)) (CT_grow (by decide) (by decide) (by decide) (fun a h => (hz a (Nat.le_trans (by decide) h)).1) (GLz (by decide +kernel))) (CT_grow (by decide) (by decide) (by decide) (fun a h => (hz a (Nat.le_trans (by decide) h)).2) (FHz (by decide +kernel))) ?_
  have cs4 := CT_set (z := 0) (F := GL) (b := 69) (hi := 72) (f := g0) (T := [(69, [71, 0, 0, 0, 0])]) (T' := [(69, [71, 72, 0, 0, 0])]) (L := [71, 0, 0, 0, 0]) (k := 1) (v := 71 + 1) rfl (by decide) rfl (fun _ hx => (tl_ne hx).trans (tl_ne hx).symm)
  refine v_putg (g' := (CT 0 GL 69 72 [(69, [71, 72, 0, 0, 0])] g0)) K pX6_15 (fun _ => rfl) (Or.inr ⟨_, rfl⟩) sh_69 (show 69 < 72 by decide) cs4.1 (fun j _ hj => cs4.2.1 j hj) (fun x _ hx => cs4.2.2 x hx) dX6_init_17 ?_
  refine v_aload_n K dX6_init_20 rfl ?_
  refine v_bipushN K 6 rfl dX6_init_21 ?_
  refine v_newa K pl_72 sh_72 (CT_new (by decide) (hz 72 (by decide)).2) (Or.inl ⟨rfl, rfl⟩) (fun k => congrFun (CT_new (by decide) (hz 72 (by decide)).1) k) (W0.ct (by decide) (by decide) (by decide) (by decide +kernel) (by decide +kernel)) (by decide) rfl rfl wa_int ⟨by decide, by decide⟩ dX6_init_23 (fun ρ5 A5 => ?_)
  have B5 := AGR.t B3 A5 (by decide)
  refine v_sw (n := 73) (c := 3) (z := 18) (g' := (CT 0 GL 69 73 [(69, [71, 72, 0, 0, 0])] g0)) (h' := (CT 0 FH 69 73 [(69, [0, 0, 0, 0, 0])] h0)) (CT_grow (by decide) (by decide) (by decide) (fun a h => (hz a (Nat.le_trans (by decide) h)).1) (GLz (by decide +kernel))) (CT_grow (by decide) (by decide) (by decide) (fun a h => (hz a (Nat.le_trans (by decide) h)).2) (FHz (by decide +kernel))) ?_
  have cs6 := CT_set (z := 0) (F := GL) (b := 69) (hi := 73) (f := g0) (T := [(69, [71, 72, 0, 0, 0])]) (T' := [(69, [71, 72, 73, 0, 0])]) (L := [71, 72, 0, 0, 0]) (k := 2) (v := 72 + 1) rfl (by decide) rfl (fun _ hx => (tl_ne hx).trans (tl_ne hx).symm)
  refine v_putg (g' := (CT 0 GL 69 73 [(69, [71, 72, 73, 0, 0])] g0)) K pX6_18 (fun _ => rfl) (Or.inr ⟨_, rfl⟩) sh_69 (show 69 < 73 by decide) cs6.1 (fun j _ hj => cs6.2.1 j hj) (fun x _ hx => cs6.2.2 x hx) dX6_init_25 ?_
  refine v_aload_n K dX6_init_28 rfl ?_
  refine v_iconstN K 0 rfl dX6_init_29 ?_
  refine v_puti K pX6_21 sh_69 (show 69 < 73 by decide) dX6_init_30 ?_
  refine v_hq (CT_u2 (F := FH) (T := [(69, [0, 0, 0, 0, 0])]) (T' := [(69, [0, 0, 0, nI 0, 0])]) (L := [0, 0, 0, 0, 0]) rfl (by decide) rfl (fun _ hx => (tl_ne hx).trans (tl_ne hx).symm)) ?_
  refine v_aload_n K dX6_init_33 rfl ?_
  refine v_bipushN K 6 rfl dX6_init_34 ?_
  refine v_newa K pl_73 sh_73 (CT_new (by decide) (hz 73 (by decide)).2) (Or.inl ⟨rfl, rfl⟩) (fun k => congrFun (CT_new (by decide) (hz 73 (by decide)).1) k) (W0.ct (by decide) (by decide) (by decide) (by decide +kernel) (by decide +kernel)) (by decide) rfl rfl wa_int ⟨by decide, by decide⟩ dX6_init_36 (fun ρ7 A7 => ?_)
  have B7 := AGR.t B5 A7 (by decide)
  refine v_sw (n := 74) (c := 4) (z := 24) (g' := (CT 0 GL 69 74 [(69, [71, 72, 73, 0, 0])] g0)) (h' := (CT 0 FH 69 74 [(69, [0, 0, 0, nI 0, 0])] h0)) (CT_grow (by decide) (by decide) (by decide) (fun a h => (hz a (Nat.le_trans (by decide) h)).1) (GLz (by decide +kernel))) (CT_grow (by decide) (by decide) (by decide) (fun a h => (hz a (Nat.le_trans (by decide) h)).2) (FHz (by decide +kernel))) ?_
  have cs8 := CT_set (z := 0) (F := GL) (b := 69) (hi := 74) (f := g0) (T := [(69, [71, 72, 73, 0, 0])]) (T' := [(69, [71, 72, 73, 0, 74])]) (L := [71, 72, 73, 0, 0]) (k := 4) (v := 73 + 1) rfl (by decide) rfl (fun _ hx => (tl_ne hx).trans (tl_ne hx).symm)
  refine v_putg (g' := (CT 0 GL 69 74 [(69, [71, 72, 73, 0, 74])] g0)) K pX6_25 (fun _ => rfl) (Or.inr ⟨_, rfl⟩) sh_69 (show 69 < 74 by decide) cs8.1 (fun j _ hj => cs8.2.1 j hj) (fun x _ hx => cs8.2.2 x hx) dX6_init_38 ?_
  exact v_vretA K dX6_init_41 B7 (CT_off (by decide) (by decide)) (CT_fin tN_eq (fun _ => rfl) (by decide +kernel) rfl) (W0.ct (by decide) (by decide) (by decide) (by decide +kernel) (by decide +kernel)) (FF_fin (by decide) (by decide) (by decide +kernel) rfl)

theorem cA_X8_init_39 {l : Launch} {g0 : Gm} {h0 : Mm} (A0 : MK 39 40 g0 h0) : ConA l yX8_init cX8_init 2 3 80 37 530 40 39 77 g0 h0 [.ref 39] (fun h2 => h2 = FF 39 77 h0) := by
  have W0 := A0.1
  have hz := A0.2.2.2.2
  refine ConA.ofV (own := "FoxRounds$World") (nm := "<init>") rfl rfl (by decide) (by decide) ?_
  intro κ ρ hkl K
  subst hkl
  show V κ (QMA κ 40 39 77 ρ g0 (fun h2 => h2 = FF 39 77 h0) 37 530) 2 (40, ρ, g0, 0, 0) h0 0 [(0, .ref 39)] []
  refine v_sw (n := 40) (c := 0) (z := 0) (g' := (CT 0 GL 39 40 [(39, [0, 0, 0, 0, 0, 0, 0, 0, 0])] g0)) (h' := (CT 0 FH 39 40 [(39, [0, 0, 0, 0, 0, 0, 0, 0, 0])] h0)) (A0.s1 (by decide)) (A0.s2 (by decide)) ?_
  refine v_aload_n K dX8_init_0 rfl ?_
  refine v_objInit K oi_X8 oi_m oi_c ⟨by decide, by decide⟩ (by decide) dX8_init_1 ?_
  refine v_aload_n K dX8_init_4 rfl ?_
  refine v_new K nwX8_9 pl_40 sh_40 (fun k => congrFun (CT_new (by decide) (hz 40 (by decide)).1) k) (fun k _ => congrFun (CT_new (by decide) (hz 40 (by decide)).2) k) (W0.ct (by decide) (by decide) (by decide) (by decide +kernel) (by decide +kernel)) rfl rfl ⟨by decide, by decide⟩ dX8_init_5 (fun ρ1 A1 => ?_)
  have B1 := AGR.t (AGR.r (n := 40) (ρ := ρ)) A1 (by decide)
  refine v_sw (n := 41) (c := 1) (z := 9) (g' := (CT 0 GL 39 41 [(40, [0, 0, 0, 0, 0, 0, 0, 0, 0]), (39, [0, 0, 0, 0, 0, 0, 0, 0, 0])] g0)) (h' := (CT 0 FH 39 41 [(40, [0, 0, 0, 0, 0, 0, 0, 0, 0]), (39, [0, 0, 0, 0, 0, 0, 0, 0, 0])] h0)) (CT_push (by decide) (hz 40 (by decide)).1 (zrN (by decide))) (CT_push (by decide) (hz 40 (by decide)).2 (zrI (by decide))) ?_
  refine v_dup K dX8_init_8 rfl ?_
  refine v_callI (As := []) K (cA_X1_init_40 (A0.sub (T := [(39, [0, 0, 0, 0, 0, 0, 0, 0, 0])]) (S := [(39, [0, 0, 0, 0, 0, 0, 0, 0, 0])]) (L := [0, 0, 0, 0, 0, 0, 0, 0, 0]) (M := [0, 0, 0, 0, 0, 0, 0, 0, 0]) (W0.ct (by decide) (by decide) (by decide) (by decide +kernel) (by decide +kernel)) (by decide) (by decide) (by decide) (by decide) (by decide) (by decide) (by decide))) lX8_11 rfl rfl ⟨by decide, by decide⟩ ⟨by decide, by decide⟩ (by decide) rfl rfl dX8_init_9 (fun ρ2 g2 h2 A2 x2 y2 w2 p2 => ?_) rfl
  have B2 := AGR.t B1 A2 (by decide)
  subst p2
  refine v_sw (n := 58) (c := 18) (z := 101) (g' := (CT 0 GL 39 58 [(39, [0, 0, 0, 0, 0, 0, 0, 0, 0])] g0)) (h' := (CT 0 FH 39 58 [(39, [0, 0, 0, 0, 0, 0, 0, 0, 0])] h0)) (CT_back x2 y2 (by decide) (by decide) (by decide)) (CT_back (fun a ha => FF_off ha) (fun a h1 h2 => FF_in h1 h2) (by decide) (by decide) (by decide)) ?_
  have cs3 := CT_set (z := 0) (F := GL) (b := 39) (hi := 58) (f := g0) (T := [(39, [0, 0, 0, 0, 0, 0, 0, 0, 0])]) (T' := [(39, [41, 0, 0, 0, 0, 0, 0, 0, 0])]) (L := [0, 0, 0, 0, 0, 0, 0, 0, 0]) (k := 0) (v := 40 + 1) rfl (by decide) rfl (fun _ hx => (tl_ne hx).trans (tl_ne hx).symm)
  refine v_putg (g' := (CT 0 GL 39 58 [(39, [41, 0, 0, 0, 0, 0, 0, 0, 0])] g0)) K pX8_12 (fun _ => rfl) (Or.inl ⟨_, rfl⟩) sh_39 (show 39 < 58 by decide) cs3.1 (fun j _ hj => cs3.2.1 j hj) (fun x _ hx => cs3.2.2 x hx) dX8_init_12 ?_
  refine v_aload_n K dX8_init_15 rfl ?_
  refine v_new K nwX8_18 pl_58 sh_58 (fun k => congrFun (CT_new (by decide) (hz 58 (by decide)).1) k) (fun k _ => congrFun (CT_new (by decide) (hz 58 (by decide)).2) k) (W0.ct (by decide) (by decide) (by decide) (by decide +kernel) (by decide +kernel)) rfl rfl ⟨by decide, by decide⟩ dX8_init_16 (fun ρ4 A4 => ?_)
  have B4 := AGR.t B2 A4 (by decide)
  refine v_sw (n := 59) (c := 19) (z := 105) (g' := (CT 0 GL 39 59 [(58, [0, 0, 0, 0]), (39, [41, 0, 0, 0, 0, 0, 0, 0, 0])] g0)) (h' := (CT 0 FH 39 59 [(58, [0, 0, 0, 0]), (39, [0, 0, 0, 0, 0, 0, 0, 0, 0])] h0)) (CT_push (by decide) (hz 58 (by decide)).1 (zrN (by decide))) (CT_push (by decide) (hz 58 (by decide)).2 (zrI (by decide))) ?_
  refine v_dup K dX8_init_19 rfl ?_
  refine v_callIN (As := []) K (cA_X2_init_58 (A0.sub (T := [(39, [41, 0, 0, 0, 0, 0, 0, 0, 0])]) (S := [(39, [0, 0, 0, 0, 0, 0, 0, 0, 0])]) (L := [0, 0, 0, 0]) (M := [0, 0, 0, 0]) (W0.ct (by decide) (by decide) (by decide) (by decide +kernel) (by decide +kernel)) (by decide) (by decide) (by decide) (by decide) (by decide) (by decide) (by decide))) lX8_20 ⟨by decide +kernel, by decide +kernel, by decide +kernel⟩ rfl rfl ⟨by decide, by decide⟩ ⟨by decide, by decide⟩ (by decide) rfl rfl dX8_init_20 (fun ρ5 g5 h5 A5 x5 y5 w5 p5 => ?_) rfl
  have B5 := AGR.t B4 A5 (by decide)
  subst p5
  refine v_sw (n := 69) (c := 29) (z := 419) (g' := (CT 0 GL 39 69 [(39, [41, 0, 0, 0, 0, 0, 0, 0, 0])] g0)) (h' := (CT 0 FH 39 69 [(39, [0, 0, 0, 0, 0, 0, 0, 0, 0])] h0)) (CT_back x5 y5 (by decide) (by decide) (by decide)) (CT_back (fun a ha => FF_off ha) (fun a h1 h2 => FF_in h1 h2) (by decide) (by decide) (by decide)) ?_
  have cs6 := CT_set (z := 0) (F := GL) (b := 39) (hi := 69) (f := g0) (T := [(39, [41, 0, 0, 0, 0, 0, 0, 0, 0])]) (T' := [(39, [41, 59, 0, 0, 0, 0, 0, 0, 0])]) (L := [41, 0, 0, 0, 0, 0, 0, 0, 0]) (k := 1) (v := 58 + 1) rfl (by decide) rfl (fun _ hx => (tl_ne hx).trans (tl_ne hx).symm)
  refine v_putg (g' := (CT 0 GL 39 69 [(39, [41, 59, 0, 0, 0, 0, 0, 0, 0])] g0)) K pX8_21 (fun _ => rfl) (Or.inl ⟨_, rfl⟩) sh_39 (show 39 < 69 by decide) cs6.1 (fun j _ hj => cs6.2.1 j hj) (fun x _ hx => cs6.2.2 x hx) dX8_init_23 ?_
  refine v_aload_n K dX8_init_26 rfl ?_
  refine v_new K nwX8_25 pl_69 sh_69 (fun k => congrFun (CT_new (by decide) (hz 69 (by decide)).1) k) (fun k _ => congrFun (CT_new (by decide) (hz 69 (by decide)).2) k) (W0.ct (by decide) (by decide) (by decide) (by decide +kernel) (by decide +kernel)) rfl rfl ⟨by decide, by decide⟩ dX8_init_27 (fun ρ7 A7 => ?_)
  have B7 := AGR.t B5 A7 (by decide)
  refine v_sw (n := 70) (c := 30) (z := 424) (g' := (CT 0 GL 39 70 [(69, [0, 0, 0, 0, 0]), (39, [41, 59, 0, 0, 0, 0, 0, 0, 0])] g0)) (h' := (CT 0 FH 39 70 [(69, [0, 0, 0, 0, 0]), (39, [0, 0, 0, 0, 0, 0, 0, 0, 0])] h0)) (CT_push (by decide) (hz 69 (by decide)).1 (zrN (by decide))) (CT_push (by decide) (hz 69 (by decide)).2 (zrI (by decide))) ?_
  refine v_dup K dX8_init_30 rfl ?_
  refine v_callIN (As := []) K (cA_X6_init_69 (A0.sub (T := [(39, [41, 59, 0, 0, 0, 0, 0, 0, 0])]) (S := [(39, [0, 0, 0, 0, 0, 0, 0, 0, 0])]) (L := [0, 0, 0, 0, 0]) (M := [0, 0, 0, 0, 0]) (W0.ct (by decide) (by decide) (by decide) (by decide +kernel) (by decide +kernel)) (by decide) (by decide) (by decide) (by decide) (by decide) (by decide) (by decide))) lX8_27 ⟨by decide +kernel, by decide +kernel, by decide +kernel⟩ rfl rfl ⟨by decide, by decide⟩ ⟨by decide, by decide⟩ (by decide) rfl rfl dX8_init_31 (fun ρ8 g8 h8 A8 x8 y8 w8 p8 => ?_) rfl
  have B8 := AGR.t B7 A8 (by decide)
  subst p8
  refine v_sw (n := 74) (c := 34) (z := 448) (g' := (CT 0 GL 39 74 [(39, [41, 59, 0, 0, 0, 0, 0, 0, 0])] g0)) (h' := (CT 0 FH 39 74 [(39, [0, 0, 0, 0, 0, 0, 0, 0, 0])] h0)) (CT_back x8 y8 (by decide) (by decide) (by decide)) (CT_back (fun a ha => FF_off ha) (fun a h1 h2 => FF_in h1 h2) (by decide) (by decide) (by decide)) ?_
  have cs9 := CT_set (z := 0) (F := GL) (b := 39) (hi := 74) (f := g0) (T := [(39, [41, 59, 0, 0, 0, 0, 0, 0, 0])]) (T' := [(39, [41, 59, 70, 0, 0, 0, 0, 0, 0])]) (L := [41, 59, 0, 0, 0, 0, 0, 0, 0]) (k := 2) (v := 69 + 1) rfl (by decide) rfl (fun _ hx => (tl_ne hx).trans (tl_ne hx).symm)
  refine v_putg (g' := (CT 0 GL 39 74 [(39, [41, 59, 70, 0, 0, 0, 0, 0, 0])] g0)) K pX8_28 (fun _ => rfl) (Or.inl ⟨_, rfl⟩) sh_39 (show 39 < 74 by decide) cs9.1 (fun j _ hj => cs9.2.1 j hj) (fun x _ hx => cs9.2.2 x hx) dX8_init_34 ?_
  refine v_aload_n K dX8_init_37 rfl ?_
  refine v_bipushN K 50 rfl dX8_init_38 ?_
  refine v_newa K pl_74 sh_74 (CT_new (by decide) (hz 74 (by decide)).2) (Or.inr (Or.inl ⟨rfl, rfl⟩)) (fun k => congrFun (CT_new (by decide) (hz 74 (by decide)).1) k) (W0.ct (by decide) (by decide) (by decide) (by decide +kernel) (by decide +kernel)) (by decide) rfl rfl wa_byte ⟨by decide, by decide⟩ dX8_init_40 (fun ρ10 A10 => ?_)
  have B10 := AGR.t B8 A10 (by decide)
  refine v_sw (n := 75) (c := 35) (z := 498) (g' := (CT 0 GL 39 75 [(39, [41, 59, 70, 0, 0, 0, 0, 0, 0])] g0)) (h' := (CT 0 FH 39 75 [(39, [0, 0, 0, 0, 0, 0, 0, 0, 0])] h0)) (CT_grow (by decide) (by decide) (by decide) (fun a h => (hz a (Nat.le_trans (by decide) h)).1) (GLz (by decide +kernel))) (CT_grow (by decide) (by decide) (by decide) (fun a h => (hz a (Nat.le_trans (by decide) h)).2) (FHz (by decide +kernel))) ?_
  have cs11 := CT_set (z := 0) (F := GL) (b := 39) (hi := 75) (f := g0) (T := [(39, [41, 59, 70, 0, 0, 0, 0, 0, 0])]) (T' := [(39, [41, 59, 70, 75, 0, 0, 0, 0, 0])]) (L := [41, 59, 70, 0, 0, 0, 0, 0, 0]) (k := 3) (v := 74 + 1) rfl (by decide) rfl (fun _ hx => (tl_ne hx).trans (tl_ne hx).symm)
  refine v_putg (g' := (CT 0 GL 39 75 [(39, [41, 59, 70, 75, 0, 0, 0, 0, 0])] g0)) K pX8_32 (fun _ => rfl) (Or.inr ⟨_, rfl⟩) sh_39 (show 39 < 75 by decide) cs11.1 (fun j _ hj => cs11.2.1 j hj) (fun x _ hx => cs11.2.2 x hx) dX8_init_42 ?_
  refine v_aload_n K dX8_init_45 rfl ?_
  refine v_iconstN K 0 rfl dX8_init_46 ?_
  refine v_puti K pX8_36 sh_39 (show 39 < 75 by decide) dX8_init_47 ?_
  refine v_hq (CT_u2 (F := FH) (T := [(39, [0, 0, 0, 0, 0, 0, 0, 0, 0])]) (T' := [(39, [0, 0, 0, 0, nI 0, 0, 0, 0, 0])]) (L := [0, 0, 0, 0, 0, 0, 0, 0, 0]) rfl (by decide) rfl (fun _ hx => (tl_ne hx).trans (tl_ne hx).symm)) ?_
  refine v_aload_n K dX8_init_50 rfl ?_
  refine v_bipushN K 20 rfl dX8_init_51 ?_
  refine v_newa K pl_75 sh_75 (CT_new (by decide) (hz 75 (by decide)).2) (Or.inl ⟨rfl, rfl⟩) (fun k => congrFun (CT_new (by decide) (hz 75 (by decide)).1) k) (W0.ct (by decide) (by decide) (by decide) (by decide +kernel) (by decide +kernel)) (by decide) rfl rfl wa_int ⟨by decide, by decide⟩ dX8_init_53 (fun ρ12 A12 => ?_)
  have B12 := AGR.t B10 A12 (by decide)
  refine v_sw (n := 76) (c := 36) (z := 518) (g' := (CT 0 GL 39 76 [(39, [41, 59, 70, 75, 0, 0, 0, 0, 0])] g0)) (h' := (CT 0 FH 39 76 [(39, [0, 0, 0, 0, nI 0, 0, 0, 0, 0])] h0)) (CT_grow (by decide) (by decide) (by decide) (fun a h => (hz a (Nat.le_trans (by decide) h)).1) (GLz (by decide +kernel))) (CT_grow (by decide) (by decide) (by decide) (fun a h => (hz a (Nat.le_trans (by decide) h)).2) (FHz (by decide +kernel))) ?_
  have cs13 := CT_set (z := 0) (F := GL) (b := 39) (hi := 76) (f := g0) (T := [(39, [41, 59, 70, 75, 0, 0, 0, 0, 0])]) (T' := [(39, [41, 59, 70, 75, 0, 76, 0, 0, 0])]) (L := [41, 59, 70, 75, 0, 0, 0, 0, 0]) (k := 5) (v := 75 + 1) rfl (by decide) rfl (fun _ hx => (tl_ne hx).trans (tl_ne hx).symm)
  refine v_putg (g' := (CT 0 GL 39 76 [(39, [41, 59, 70, 75, 0, 76, 0, 0, 0])] g0)) K pX8_40 (fun _ => rfl) (Or.inr ⟨_, rfl⟩) sh_39 (show 39 < 76 by decide) cs13.1 (fun j _ hj => cs13.2.1 j hj) (fun x _ hx => cs13.2.2 x hx) dX8_init_55 ?_
  refine v_aload_n K dX8_init_58 rfl ?_
  refine v_iconstN K 0 rfl dX8_init_59 ?_
  refine v_puti K pX8_44 sh_39 (show 39 < 76 by decide) dX8_init_60 ?_
  refine v_hq (CT_u2 (F := FH) (T := [(39, [0, 0, 0, 0, nI 0, 0, 0, 0, 0])]) (T' := [(39, [0, 0, 0, 0, nI 0, 0, nI 0, 0, 0])]) (L := [0, 0, 0, 0, nI 0, 0, 0, 0, 0]) rfl (by decide) rfl (fun _ hx => (tl_ne hx).trans (tl_ne hx).symm)) ?_
  refine v_aload_n K dX8_init_63 rfl ?_
  refine v_bipushN K 12 rfl dX8_init_64 ?_
  refine v_newa K pl_76 sh_76 (CT_new (by decide) (hz 76 (by decide)).2) (Or.inl ⟨rfl, rfl⟩) (fun k => congrFun (CT_new (by decide) (hz 76 (by decide)).1) k) (W0.ct (by decide) (by decide) (by decide) (by decide +kernel) (by decide +kernel)) (by decide) rfl rfl wa_int ⟨by decide, by decide⟩ dX8_init_66 (fun ρ14 A14 => ?_)
  have B14 := AGR.t B12 A14 (by decide)
  refine v_sw (n := 77) (c := 37) (z := 530) (g' := (CT 0 GL 39 77 [(39, [41, 59, 70, 75, 0, 76, 0, 0, 0])] g0)) (h' := (CT 0 FH 39 77 [(76, [0, 0, 0, 0, 0, 0, 0, 0, 0, 0, 0, 0]), (39, [0, 0, 0, 0, nI 0, 0, nI 0, 0, 0])] h0)) (CT_grow (by decide) (by decide) (by decide) (fun a h => (hz a (Nat.le_trans (by decide) h)).1) (GLz (by decide +kernel))) (CT_push (by decide) (hz 76 (by decide)).2 (zrI (by decide))) ?_
  have cs15 := CT_set (z := 0) (F := GL) (b := 39) (hi := 77) (f := g0) (T := [(39, [41, 59, 70, 75, 0, 76, 0, 0, 0])]) (T' := [(39, [41, 59, 70, 75, 0, 76, 0, 77, 0])]) (L := [41, 59, 70, 75, 0, 76, 0, 0, 0]) (k := 7) (v := 76 + 1) rfl (by decide) rfl (fun _ hx => (tl_ne hx).trans (tl_ne hx).symm)
  refine v_putg (g' := (CT 0 GL 39 77 [(39, [41, 59, 70, 75, 0, 76, 0, 77, 0])] g0)) K pX8_47 (fun _ => rfl) (Or.inr ⟨_, rfl⟩) sh_39 (show 39 < 77 by decide) cs15.1 (fun j _ hj => cs15.2.1 j hj) (fun x _ hx => cs15.2.2 x hx) dX8_init_68 ?_
  refine v_aload_n K dX8_init_71 rfl ?_
  refine v_iconstN K 1 rfl dX8_init_72 ?_
  refine v_puti K pX8_50 sh_39 (show 39 < 77 by decide) dX8_init_73 ?_
  refine v_hq (CT_u2 (F := FH) (T := [(76, [0, 0, 0, 0, 0, 0, 0, 0, 0, 0, 0, 0]), (39, [0, 0, 0, 0, nI 0, 0, nI 0, 0, 0])]) (T' := [(39, [0, 0, 0, 0, nI 0, 0, nI 0, 0, nI 1]), (76, [0, 0, 0, 0, 0, 0, 0, 0, 0, 0, 0, 0]), (39, [0, 0, 0, 0, nI 0, 0, nI 0, 0, 0])]) (L := [0, 0, 0, 0, nI 0, 0, nI 0, 0, 0]) rfl (by decide) rfl (fun _ hx => tl_ne hx)) ?_
  refine v_iconstN K 0 rfl dX8_init_76 ?_
  refine v_istore_n (lv2 := [(1, .int (nI 0)), (0, .ref 39)]) K dX8_init_77 (by decide) rfl ?_
  refine v_iload_n K dX8_init_78 rfl ?_
  refine v_bipushN K 12 rfl dX8_init_79 ?_
  refine v_icmpN_ge (tgt := 99) K (by decide) (by decide) dX8_init_81 rfl (fun c => absurd c (by decide)) (fun _ => ?_)
  refine v_aload_n K dX8_init_84 rfl ?_
  refine v_getr (q := 76) K fX8_47 sh_39 (show 39 < 77 by decide) ((congrFun (CT_at (z := 0) (F := GL) (b := 39) (hi := 77) (f := g0) (a := 39) (T := [(39, [41, 59, 70, 75, 0, 76, 0, 77, 0])]) (L := [41, 59, 70, 75, 0, 76, 0, 77, 0]) rfl) 7).trans rfl) dX8_init_85 ?_
  refine v_iload_n K dX8_init_88 rfl ?_
  refine v_sipushN K 1080 rfl dX8_init_89 ?_
  refine v_iast K sh_76 (show 76 < 77 by decide) (by decide) dX8_init_92 ?_
  refine v_hq (CT_u2 (F := FH) (T := [(39, [0, 0, 0, 0, nI 0, 0, nI 0, 0, nI 1]), (76, [0, 0, 0, 0, 0, 0, 0, 0, 0, 0, 0, 0]), (39, [0, 0, 0, 0, nI 0, 0, nI 0, 0, 0])]) (T' := [(76, [nI 1080, 0, 0, 0, 0, 0, 0, 0, 0, 0, 0, 0]), (39, [0, 0, 0, 0, nI 0, 0, nI 0, 0, nI 1]), (76, [0, 0, 0, 0, 0, 0, 0, 0, 0, 0, 0, 0]), (39, [0, 0, 0, 0, nI 0, 0, nI 0, 0, 0])]) (L := [0, 0, 0, 0, 0, 0, 0, 0, 0, 0, 0, 0]) rfl (by decide) rfl (fun _ hx => tl_ne hx)) ?_
  refine v_iincN (lv2 := [(1, .int (nI 1)), (0, .ref 39)]) K 1 dX8_init_93 rfl rfl (by decide) rfl ?_
  refine v_goto (tgt := 78) K dX8_init_96 rfl ?_
  refine v_iload_n K dX8_init_78 rfl ?_
  refine v_bipushN K 12 rfl dX8_init_79 ?_
  refine v_icmpN_ge (tgt := 99) K (by decide) (by decide) dX8_init_81 rfl (fun c => absurd c (by decide)) (fun _ => ?_)
  refine v_aload_n K dX8_init_84 rfl ?_
  refine v_getr (q := 76) K fX8_47 sh_39 (show 39 < 77 by decide) ((congrFun (CT_at (z := 0) (F := GL) (b := 39) (hi := 77) (f := g0) (a := 39) (T := [(39, [41, 59, 70, 75, 0, 76, 0, 77, 0])]) (L := [41, 59, 70, 75, 0, 76, 0, 77, 0]) rfl) 7).trans rfl) dX8_init_85 ?_
  refine v_iload_n K dX8_init_88 rfl ?_
  refine v_sipushN K 1080 rfl dX8_init_89 ?_
  refine v_iast K sh_76 (show 76 < 77 by decide) (by decide) dX8_init_92 ?_
  refine v_hq (CT_u2 (F := FH) (T := [(76, [nI 1080, 0, 0, 0, 0, 0, 0, 0, 0, 0, 0, 0]), (39, [0, 0, 0, 0, nI 0, 0, nI 0, 0, nI 1]), (76, [0, 0, 0, 0, 0, 0, 0, 0, 0, 0, 0, 0]), (39, [0, 0, 0, 0, nI 0, 0, nI 0, 0, 0])]) (T' := [(76, [nI 1080, nI 1080, 0, 0, 0, 0, 0, 0, 0, 0, 0, 0]), (39, [0, 0, 0, 0, nI 0, 0, nI 0, 0, nI 1]), (76, [0, 0, 0, 0, 0, 0, 0, 0, 0, 0, 0, 0]), (39, [0, 0, 0, 0, nI 0, 0, nI 0, 0, 0])]) (L := [nI 1080, 0, 0, 0, 0, 0, 0, 0, 0, 0, 0, 0]) rfl (by decide) rfl (fun _ hx => (tl_ne hx).trans (tl_ne hx).symm)) ?_
  refine v_iincN (lv2 := [(1, .int (nI 2)), (0, .ref 39)]) K 1 dX8_init_93 rfl rfl (by decide) rfl ?_
  refine v_goto (tgt := 78) K dX8_init_96 rfl ?_
  refine v_iload_n K dX8_init_78 rfl ?_
  refine v_bipushN K 12 rfl dX8_init_79 ?_
  refine v_icmpN_ge (tgt := 99) K (by decide) (by decide) dX8_init_81 rfl (fun c => absurd c (by decide)) (fun _ => ?_)
  refine v_aload_n K dX8_init_84 rfl ?_
  refine v_getr (q := 76) K fX8_47 sh_39 (show 39 < 77 by decide) ((congrFun (CT_at (z := 0) (F := GL) (b := 39) (hi := 77) (f := g0) (a := 39) (T := [(39, [41, 59, 70, 75, 0, 76, 0, 77, 0])]) (L := [41, 59, 70, 75, 0, 76, 0, 77, 0]) rfl) 7).trans rfl) dX8_init_85 ?_
  refine v_iload_n K dX8_init_88 rfl ?_
  refine v_sipushN K 1080 rfl dX8_init_89 ?_
  refine v_iast K sh_76 (show 76 < 77 by decide) (by decide) dX8_init_92 ?_
  refine v_hq (CT_u2 (F := FH) (T := [(76, [nI 1080, nI 1080, 0, 0, 0, 0, 0, 0, 0, 0, 0, 0]), (39, [0, 0, 0, 0, nI 0, 0, nI 0, 0, nI 1]), (76, [0, 0, 0, 0, 0, 0, 0, 0, 0, 0, 0, 0]), (39, [0, 0, 0, 0, nI 0, 0, nI 0, 0, 0])]) (T' := [(76, [nI 1080, nI 1080, nI 1080, 0, 0, 0, 0, 0, 0, 0, 0, 0]), (39, [0, 0, 0, 0, nI 0, 0, nI 0, 0, nI 1]), (76, [0, 0, 0, 0, 0, 0, 0, 0, 0, 0, 0, 0]), (39, [0, 0, 0, 0, nI 0, 0, nI 0, 0, 0])]) (L := [nI 1080, nI 1080, 0, 0, 0, 0, 0, 0, 0, 0, 0, 0]) rfl (by decide) rfl (fun _ hx => (tl_ne hx).trans (tl_ne hx).symm)) ?_
  refine v_iincN (lv2 := [(1, .int (nI 3)), (0, .ref 39)]) K 1 dX8_init_93 rfl rfl (by decide) rfl ?_
  refine v_goto (tgt := 78) K dX8_init_96 rfl ?_
  refine v_iload_n K dX8_init_78 rfl ?_
  refine v_bipushN K 12 rfl dX8_init_79 ?_
  refine v_icmpN_ge (tgt := 99) K (by decide) (by decide) dX8_init_81 rfl (fun c => absurd c (by decide)) (fun _ => ?_)
  refine v_aload_n K dX8_init_84 rfl ?_
  refine v_getr (q := 76) K fX8_47 sh_39 (show 39 < 77 by decide) ((congrFun (CT_at (z := 0) (F := GL) (b := 39) (hi := 77) (f := g0) (a := 39) (T := [(39, [41, 59, 70, 75, 0, 76, 0, 77, 0])]) (L := [41, 59, 70, 75, 0, 76, 0, 77, 0]) rfl) 7).trans rfl) dX8_init_85 ?_
  refine v_iload_n K dX8_init_88 rfl ?_
  refine v_sipushN K 1080 rfl dX8_init_89 ?_
  refine v_iast K sh_76 (show 76 < 77 by decide) (by decide) dX8_init_92 ?_
  refine v_hq (CT_u2 (F := FH) (T := [(76, [nI 1080, nI 1080, nI 1080, 0, 0, 0, 0, 0, 0, 0, 0, 0]), (39, [0, 0, 0, 0, nI 0, 0, nI 0, 0, nI 1]), (76, [0, 0, 0, 0, 0, 0, 0, 0, 0, 0, 0, 0]), (39, [0, 0, 0, 0, nI 0, 0, nI 0, 0, 0])]) (T' := [(76, [nI 1080, nI 1080, nI 1080, nI 1080, 0, 0, 0, 0, 0, 0, 0, 0]), (39, [0, 0, 0, 0, nI 0, 0, nI 0, 0, nI 1]), (76, [0, 0, 0, 0, 0, 0, 0, 0, 0, 0, 0, 0]), (39, [0, 0, 0, 0, nI 0, 0, nI 0, 0, 0])]) (L := [nI 1080, nI 1080, nI 1080, 0, 0, 0, 0, 0, 0, 0, 0, 0]) rfl (by decide) rfl (fun _ hx => (tl_ne hx).trans (tl_ne hx).symm)) ?_
  refine v_iincN (lv2 := [(1, .int (nI 4)), (0, .ref 39)]) K 1 dX8_init_93 rfl rfl (by decide) rfl ?_
  refine v_goto (tgt := 78) K dX8_init_96 rfl ?_
  refine v_iload_n K dX8_init_78 rfl ?_
  refine v_bipushN K 12 rfl dX8_init_79 ?_
  refine v_icmpN_ge (tgt := 99) K (by decide) (by decide) dX8_init_81 rfl (fun c => absurd c (by decide)) (fun _ => ?_)
  refine v_aload_n K dX8_init_84 rfl ?_
  refine v_getr (q := 76) K fX8_47 sh_39 (show 39 < 77 by decide) ((congrFun (CT_at (z := 0) (F := GL) (b := 39) (hi := 77) (f := g0) (a := 39) (T := [(39, [41, 59, 70, 75, 0, 76, 0, 77, 0])]) (L := [41, 59, 70, 75, 0, 76, 0, 77, 0]) rfl) 7).trans rfl) dX8_init_85 ?_
  refine v_iload_n K dX8_init_88 rfl ?_
  refine v_sipushN K 1080 rfl dX8_init_89 ?_
  refine v_iast K sh_76 (show 76 < 77 by decide) (by decide) dX8_init_92 ?_
  refine v_hq (CT_u2 (F := FH) (T := [(76, [nI 1080, nI 1080, nI 1080, nI 1080, 0, 0, 0, 0, 0, 0, 0, 0]), (39, [0, 0, 0, 0, nI 0, 0, nI 0, 0, nI 1]), (76, [0, 0, 0, 0, 0, 0, 0, 0, 0, 0, 0, 0]), (39, [0, 0, 0, 0, nI 0, 0, nI 0, 0, 0])]) (T' := [(76, [nI 1080, nI 1080, nI 1080, nI 1080, nI 1080, 0, 0, 0, 0, 0, 0, 0]), (39, [0, 0, 0, 0, nI 0, 0, nI 0, 0, nI 1]), (76, [0, 0, 0, 0, 0, 0, 0, 0, 0, 0, 0, 0]), (39, [0, 0, 0, 0, nI 0, 0, nI 0, 0, 0])]) (L := [nI 1080, nI 1080, nI 1080, nI 1080, 0, 0, 0, 0, 0, 0, 0, 0]) rfl (by decide) rfl (fun _ hx => (tl_ne hx).trans (tl_ne hx).symm)) ?_
  refine v_iincN (lv2 := [(1, .int (nI 5)), (0, .ref 39)]) K 1 dX8_init_93 rfl rfl (by decide) rfl ?_
  refine v_goto (tgt := 78) K dX8_init_96 rfl ?_
  refine v_iload_n K dX8_init_78 rfl ?_
  refine v_bipushN K 12 rfl dX8_init_79 ?_
  refine v_icmpN_ge (tgt := 99) K (by decide) (by decide) dX8_init_81 rfl (fun c => absurd c (by decide)) (fun _ => ?_)
  refine v_aload_n K dX8_init_84 rfl ?_
  refine v_getr (q := 76) K fX8_47 sh_39 (show 39 < 77 by decide) ((congrFun (CT_at (z := 0) (F := GL) (b := 39) (hi := 77) (f := g0) (a := 39) (T := [(39, [41, 59, 70, 75, 0, 76, 0, 77, 0])]) (L := [41, 59, 70, 75, 0, 76, 0, 77, 0]) rfl) 7).trans rfl) dX8_init_85 ?_
  refine v_iload_n K dX8_init_88 rfl ?_
  refine v_sipushN K 1080 rfl dX8_init_89 ?_
  refine v_iast K sh_76 (show 76 < 77 by decide) (by decide) dX8_init_92 ?_
  refine v_hq (CT_u2 (F := FH) (T := [(76, [nI 1080, nI 1080, nI 1080, nI 1080, nI 1080, 0, 0, 0, 0, 0, 0, 0]), (39, [0, 0, 0, 0, nI 0, 0, nI 0, 0, nI 1]), (76, [0, 0, 0, 0, 0, 0, 0, 0, 0, 0, 0, 0]), (39, [0, 0, 0, 0, nI 0, 0, nI 0, 0, 0])]) (T' := [(76, [nI 1080, nI 1080, nI 1080, nI 1080, nI 1080, nI 1080, 0, 0, 0, 0, 0, 0]), (39, [0, 0, 0, 0, nI 0, 0, nI 0, 0, nI 1]), (76, [0, 0, 0, 0, 0, 0, 0, 0, 0, 0, 0, 0]), (39, [0, 0, 0, 0, nI 0, 0, nI 0, 0, 0])]) (L := [nI 1080, nI 1080, nI 1080, nI 1080, nI 1080, 0, 0, 0, 0, 0, 0, 0]) rfl (by decide) rfl (fun _ hx => (tl_ne hx).trans (tl_ne hx).symm)) ?_
  refine v_iincN (lv2 := [(1, .int (nI 6)), (0, .ref 39)]) K 1 dX8_init_93 rfl rfl (by decide) rfl ?_
  refine v_goto (tgt := 78) K dX8_init_96 rfl ?_
  refine v_iload_n K dX8_init_78 rfl ?_
  refine v_bipushN K 12 rfl dX8_init_79 ?_
  refine v_icmpN_ge (tgt := 99) K (by decide) (by decide) dX8_init_81 rfl (fun c => absurd c (by decide)) (fun _ => ?_)
  refine v_aload_n K dX8_init_84 rfl ?_
  refine v_getr (q := 76) K fX8_47 sh_39 (show 39 < 77 by decide) ((congrFun (CT_at (z := 0) (F := GL) (b := 39) (hi := 77) (f := g0) (a := 39) (T := [(39, [41, 59, 70, 75, 0, 76, 0, 77, 0])]) (L := [41, 59, 70, 75, 0, 76, 0, 77, 0]) rfl) 7).trans rfl) dX8_init_85 ?_
  refine v_iload_n K dX8_init_88 rfl ?_
  refine v_sipushN K 1080 rfl dX8_init_89 ?_
  refine v_iast K sh_76 (show 76 < 77 by decide) (by decide) dX8_init_92 ?_
  refine v_hq (CT_u2 (F := FH) (T := [(76, [nI 1080, nI 1080, nI 1080, nI 1080, nI 1080, nI 1080, 0, 0, 0, 0, 0, 0]), (39, [0, 0, 0, 0, nI 0, 0, nI 0, 0, nI 1]), (76, [0, 0, 0, 0, 0, 0, 0, 0, 0, 0, 0, 0]), (39, [0, 0, 0, 0, nI 0, 0, nI 0, 0, 0])]) (T' := [(76, [nI 1080, nI 1080, nI 1080, nI 1080, nI 1080, nI 1080, nI 1080, 0, 0, 0, 0, 0]), (39, [0, 0, 0, 0, nI 0, 0, nI 0, 0, nI 1]), (76, [0, 0, 0, 0, 0, 0, 0, 0, 0, 0, 0, 0]), (39, [0, 0, 0, 0, nI 0, 0, nI 0, 0, 0])]) (L := [nI 1080, nI 1080, nI 1080, nI 1080, nI 1080, nI 1080, 0, 0, 0, 0, 0, 0]) rfl (by decide) rfl (fun _ hx => (tl_ne hx).trans (tl_ne hx).symm)) ?_
  refine v_iincN (lv2 := [(1, .int (nI 7)), (0, .ref 39)]) K 1 dX8_init_93 rfl rfl (by decide) rfl ?_
  refine v_goto (tgt := 78) K dX8_init_96 rfl ?_
  refine v_iload_n K dX8_init_78 rfl ?_
  refine v_bipushN K 12 rfl dX8_init_79 ?_
  refine v_icmpN_ge (tgt := 99) K (by decide) (by decide) dX8_init_81 rfl (fun c => absurd c (by decide)) (fun _ => ?_)
  refine v_aload_n K dX8_init_84 rfl ?_
  refine v_getr (q := 76) K fX8_47 sh_39 (show 39 < 77 by decide) ((congrFun (CT_at (z := 0) (F := GL) (b := 39) (hi := 77) (f := g0) (a := 39) (T := [(39, [41, 59, 70, 75, 0, 76, 0, 77, 0])]) (L := [41, 59, 70, 75, 0, 76, 0, 77, 0]) rfl) 7).trans rfl) dX8_init_85 ?_
  refine v_iload_n K dX8_init_88 rfl ?_
  refine v_sipushN K 1080 rfl dX8_init_89 ?_
  refine v_iast K sh_76 (show 76 < 77 by decide) (by decide) dX8_init_92 ?_
  refine v_hq (CT_u2 (F := FH) (T := [(76, [nI 1080, nI 1080, nI 1080, nI 1080, nI 1080, nI 1080, nI 1080, 0, 0, 0, 0, 0]), (39, [0, 0, 0, 0, nI 0, 0, nI 0, 0, nI 1]), (76, [0, 0, 0, 0, 0, 0, 0, 0, 0, 0, 0, 0]), (39, [0, 0, 0, 0, nI 0, 0, nI 0, 0, 0])]) (T' := [(76, [nI 1080, nI 1080, nI 1080, nI 1080, nI 1080, nI 1080, nI 1080, nI 1080, 0, 0, 0, 0]), (39, [0, 0, 0, 0, nI 0, 0, nI 0, 0, nI 1]), (76, [0, 0, 0, 0, 0, 0, 0, 0, 0, 0, 0, 0]), (39, [0, 0, 0, 0, nI 0, 0, nI 0, 0, 0])]) (L := [nI 1080, nI 1080, nI 1080, nI 1080, nI 1080, nI 1080, nI 1080, 0, 0, 0, 0, 0]) rfl (by decide) rfl (fun _ hx => (tl_ne hx).trans (tl_ne hx).symm)) ?_
  refine v_iincN (lv2 := [(1, .int (nI 8)), (0, .ref 39)]) K 1 dX8_init_93 rfl rfl (by decide) rfl ?_
  refine v_goto (tgt := 78) K dX8_init_96 rfl ?_
  refine v_iload_n K dX8_init_78 rfl ?_
  refine v_bipushN K 12 rfl dX8_init_79 ?_
  refine v_icmpN_ge (tgt := 99) K (by decide) (by decide) dX8_init_81 rfl (fun c => absurd c (by decide)) (fun _ => ?_)
  refine v_aload_n K dX8_init_84 rfl ?_
  refine v_getr (q := 76) K fX8_47 sh_39 (show 39 < 77 by decide) ((congrFun (CT_at (z := 0) (F := GL) (b := 39) (hi := 77) (f := g0) (a := 39) (T := [(39, [41, 59, 70, 75, 0, 76, 0, 77, 0])]) (L := [41, 59, 70, 75, 0, 76, 0, 77, 0]) rfl) 7).trans rfl) dX8_init_85 ?_
  refine v_iload_n K dX8_init_88 rfl ?_
  refine v_sipushN K 1080 rfl dX8_init_89 ?_
  refine v_iast K sh_76 (show 76 < 77 by decide) (by decide) dX8_init_92 ?_
  refine v_hq (CT_u2 (F := FH) (T := [(76, [nI 1080, nI 1080, nI 1080, nI 1080, nI 1080, nI 1080, nI 1080, nI 1080, 0, 0, 0, 0]), (39, [0, 0, 0, 0, nI 0, 0, nI 0, 0, nI 1]), (76, [0, 0, 0, 0, 0, 0, 0, 0, 0, 0, 0, 0]), (39, [0, 0, 0, 0, nI 0, 0, nI 0, 0, 0])]) (T' := [(76, [nI 1080, nI 1080, nI 1080, nI 1080, nI 1080, nI 1080, nI 1080, nI 1080, nI 1080, 0, 0, 0]), (39, [0, 0, 0, 0, nI 0, 0, nI 0, 0, nI 1]), (76, [0, 0, 0, 0, 0, 0, 0, 0, 0, 0, 0, 0]), (39, [0, 0, 0, 0, nI 0, 0, nI 0, 0, 0])]) (L := [nI 1080, nI 1080, nI 1080, nI 1080, nI 1080, nI 1080, nI 1080, nI 1080, 0, 0, 0, 0]) rfl (by decide) rfl (fun _ hx => (tl_ne hx).trans (tl_ne hx).symm)) ?_
  refine v_iincN (lv2 := [(1, .int (nI 9)), (0, .ref 39)]) K 1 dX8_init_93 rfl rfl (by decide) rfl ?_
  refine v_goto (tgt := 78) K dX8_init_96 rfl ?_
  refine v_iload_n K dX8_init_78 rfl ?_
  refine v_bipushN K 12 rfl dX8_init_79 ?_
  refine v_icmpN_ge (tgt := 99) K (by decide) (by decide) dX8_init_81 rfl (fun c => absurd c (by decide)) (fun _ => ?_)
  refine v_aload_n K dX8_init_84 rfl ?_
  refine v_getr (q := 76) K fX8_47 sh_39 (show 39 < 77 by decide) ((congrFun (CT_at (z := 0) (F := GL) (b := 39) (hi := 77) (f := g0) (a := 39) (T := [(39, [41, 59, 70, 75, 0, 76, 0, 77, 0])]) (L := [41, 59, 70, 75, 0, 76, 0, 77, 0]) rfl) 7).trans rfl) dX8_init_85 ?_
  refine v_iload_n K dX8_init_88 rfl ?_
  refine v_sipushN K 1080 rfl dX8_init_89 ?_
  refine v_iast K sh_76 (show 76 < 77 by decide) (by decide) dX8_init_92 ?_
  refine v_hq (CT_u2 (F := FH) (T := [(76, [nI 1080, nI 1080, nI 1080, nI 1080, nI 1080, nI 1080, nI 1080, nI 1080, nI 1080, 0, 0, 0]), (39, [0, 0, 0, 0, nI 0, 0, nI 0, 0, nI 1]), (76, [0, 0, 0, 0, 0, 0, 0, 0, 0, 0, 0, 0]), (39, [0, 0, 0, 0, nI 0, 0, nI 0, 0, 0])]) (T' := [(76, [nI 1080, nI 1080, nI 1080, nI 1080, nI 1080, nI 1080, nI 1080, nI 1080, nI 1080, nI 1080, 0, 0]), (39, [0, 0, 0, 0, nI 0, 0, nI 0, 0, nI 1]), (76, [0, 0, 0, 0, 0, 0, 0, 0, 0, 0, 0, 0]), (39, [0, 0, 0, 0, nI 0, 0, nI 0, 0, 0])]) (L := [nI 1080, nI 1080, nI 1080, nI 1080, nI 1080, nI 1080, nI 1080, nI 1080, nI 1080, 0, 0, 0]) rfl (by decide) rfl (fun _ hx => (tl_ne hx).trans (tl_ne hx).symm)) ?_
  refine v_iincN (lv2 := [(1, .int (nI 10)), (0, .ref 39)]) K 1 dX8_init_93 rfl rfl (by decide) rfl ?_
  refine v_goto (tgt := 78) K dX8_init_96 rfl ?_
  refine v_iload_n K dX8_init_78 rfl ?_
  refine v_bipushN K 12 rfl dX8_init_79 ?_
  refine v_icmpN_ge (tgt := 99) K (by decide) (by decide) dX8_init_81 rfl (fun c => absurd c (by decide)) (fun _ => ?_)
  refine v_aload_n K dX8_init_84 rfl ?_
  refine v_getr (q := 76) K fX8_47 sh_39 (show 39 < 77 by decide) ((congrFun (CT_at (z := 0) (F := GL) (b := 39) (hi := 77) (f := g0) (a := 39) (T := [(39, [41, 59, 70, 75, 0, 76, 0, 77, 0])]) (L := [41, 59, 70, 75, 0, 76, 0, 77, 0]) rfl) 7).trans rfl) dX8_init_85 ?_
  refine v_iload_n K dX8_init_88 rfl ?_
  refine v_sipushN K 1080 rfl dX8_init_89 ?_
  refine v_iast K sh_76 (show 76 < 77 by decide) (by decide) dX8_init_92 ?_
  refine v_hq (CT_u2 (F := FH) (T := [(76, [nI 1080, nI 1080, nI 1080, nI 1080, nI 1080, nI 1080, nI 1080, nI 1080, nI 1080, nI 1080, 0, 0]), (39, [0, 0, 0, 0, nI 0, 0, nI 0, 0, nI 1]), (76, [0, 0, 0, 0, 0, 0, 0, 0, 0, 0, 0, 0]), (39, [0, 0, 0, 0, nI 0, 0, nI 0, 0, 0])]) (T' := [(76, [nI 1080, nI 1080, nI 1080, nI 1080, nI 1080, nI 1080, nI 1080, nI 1080, nI 1080, nI 1080, nI 1080, 0]), (39, [0, 0, 0, 0, nI 0, 0, nI 0, 0, nI 1]), (76, [0, 0, 0, 0, 0, 0, 0, 0, 0, 0, 0, 0]), (39, [0, 0, 0, 0, nI 0, 0, nI 0, 0, 0])]) (L := [nI 1080, nI 1080, nI 1080, nI 1080, nI 1080, nI 1080, nI 1080, nI 1080, nI 1080, nI 1080, 0, 0]) rfl (by decide) rfl (fun _ hx => (tl_ne hx).trans (tl_ne hx).symm)) ?_
  refine v_iincN (lv2 := [(1, .int (nI 11)), (0, .ref 39)]) K 1 dX8_init_93 rfl rfl (by decide) rfl ?_
  refine v_goto (tgt := 78) K dX8_init_96 rfl ?_
  refine v_iload_n K dX8_init_78 rfl ?_
  refine v_bipushN K 12 rfl dX8_init_79 ?_
  refine v_icmpN_ge (tgt := 99) K (by decide) (by decide) dX8_init_81 rfl (fun c => absurd c (by decide)) (fun _ => ?_)
  refine v_aload_n K dX8_init_84 rfl ?_
  refine v_getr (q := 76) K fX8_47 sh_39 (show 39 < 77 by decide) ((congrFun (CT_at (z := 0) (F := GL) (b := 39) (hi := 77) (f := g0) (a := 39) (T := [(39, [41, 59, 70, 75, 0, 76, 0, 77, 0])]) (L := [41, 59, 70, 75, 0, 76, 0, 77, 0]) rfl) 7).trans rfl) dX8_init_85 ?_
  refine v_iload_n K dX8_init_88 rfl ?_
  refine v_sipushN K 1080 rfl dX8_init_89 ?_
  refine v_iast K sh_76 (show 76 < 77 by decide) (by decide) dX8_init_92 ?_
  refine v_hq (CT_u2 (F := FH) (T := [(76, [nI 1080, nI 1080, nI 1080, nI 1080, nI 1080, nI 1080, nI 1080, nI 1080, nI 1080, nI 1080, nI 1080, 0]), (39, [0, 0, 0, 0, nI 0, 0, nI 0, 0, nI 1]), (76, [0, 0, 0, 0, 0, 0, 0, 0, 0, 0, 0, 0]), (39, [0, 0, 0, 0, nI 0, 0, nI 0, 0, 0])]) (T' := [(76, [nI 1080, nI 1080, nI 1080, nI 1080, nI 1080, nI 1080, nI 1080, nI 1080, nI 1080, nI 1080, nI 1080, nI 1080]), (39, [0, 0, 0, 0, nI 0, 0, nI 0, 0, nI 1]), (76, [0, 0, 0, 0, 0, 0, 0, 0, 0, 0, 0, 0]), (39, [0, 0, 0, 0, nI 0, 0, nI 0, 0, 0])]) (L := [nI 1080, nI 1080, nI 1080, nI 1080, nI 1080, nI 1080, nI 1080, nI 1080, nI 1080, nI 1080, nI 1080, 0]) rfl (by decide) rfl (fun _ hx => (tl_ne hx).trans (tl_ne hx).symm)) ?_
  refine v_iincN (lv2 := [(1, .int (nI 12)), (0, .ref 39)]) K 1 dX8_init_93 rfl rfl (by decide) rfl ?_
  refine v_goto (tgt := 78) K dX8_init_96 rfl ?_
  refine v_iload_n K dX8_init_78 rfl ?_
  refine v_bipushN K 12 rfl dX8_init_79 ?_
  refine v_icmpN_ge (tgt := 99) K (by decide) (by decide) dX8_init_81 rfl (fun _ => ?_) (fun c => absurd c (by decide))
  exact v_vretA K dX8_init_99 B14 (CT_off (by decide) (by decide)) (CT_fin tN_eq (fun _ => rfl) (by decide +kernel) rfl) (W0.ct (by decide) (by decide) (by decide) (by decide +kernel) (by decide +kernel)) (FF_fin (by decide) (by decide) (by decide +kernel) rfl)

theorem cA_X1_init_78 {l : Launch} {g0 : Gm} {h0 : Mm} (A0 : MK 78 79 g0 h0) : ConA l yX1_init cX1_init 1 1 60 17 92 79 78 96 g0 h0 [.ref 78] (fun h2 => h2 = FF 78 96 h0) := by
  have W0 := A0.1
  have hz := A0.2.2.2.2
  refine ConA.ofV (own := "FoxRounds$House") (nm := "<init>") rfl rfl (by decide) (by decide) ?_
  intro κ ρ hkl K
  subst hkl
  show V κ (QMA κ 79 78 96 ρ g0 (fun h2 => h2 = FF 78 96 h0) 17 92) 1 (79, ρ, g0, 0, 0) h0 0 [(0, .ref 78)] []
  refine v_sw (n := 79) (c := 0) (z := 0) (g' := (CT 0 GL 78 79 [(78, [0, 0, 0, 0, 0, 0, 0, 0, 0])] g0)) (h' := (CT 0 FH 78 79 [(78, [0, 0, 0, 0, 0, 0, 0, 0, 0])] h0)) (A0.s1 (by decide)) (A0.s2 (by decide)) ?_
  refine v_aload_n K dX1_init_0 rfl ?_
  refine v_objInit K oi_X1 oi_m oi_c ⟨by decide, by decide⟩ (by decide) dX1_init_1 ?_
  refine v_aload_n K dX1_init_4 rfl ?_
  refine v_bipushN K 8 rfl dX1_init_5 ?_
  refine v_newa K pl_79 sh_79 (CT_new (by decide) (hz 79 (by decide)).2) (Or.inl ⟨rfl, rfl⟩) (fun k => congrFun (CT_new (by decide) (hz 79 (by decide)).1) k) (W0.ct (by decide) (by decide) (by decide) (by decide +kernel) (by decide +kernel)) (by decide) rfl rfl wa_int ⟨by decide, by decide⟩ dX1_init_7 (fun ρ1 A1 => ?_)
  have B1 := AGR.t (AGR.r (n := 79) (ρ := ρ)) A1 (by decide)
  refine v_sw (n := 80) (c := 1) (z := 8) (g' := (CT 0 GL 78 80 [(78, [0, 0, 0, 0, 0, 0, 0, 0, 0])] g0)) (h' := (CT 0 FH 78 80 [(79, [0, 0, 0, 0, 0, 0, 0, 0]), (78, [0, 0, 0, 0, 0, 0, 0, 0, 0])] h0)) (CT_grow (by decide) (by decide) (by decide) (fun a h => (hz a (Nat.le_trans (by decide) h)).1) (GLz (by decide +kernel))) (CT_push (by decide) (hz 79 (by decide)).2 (zrI (by decide))) ?_
  have cs2 := CT_set (z := 0) (F := GL) (b := 78) (hi := 80) (f := g0) (T := [(78, [0, 0, 0, 0, 0, 0, 0, 0, 0])]) (T' := [(78, [80, 0, 0, 0, 0, 0, 0, 0, 0])]) (L := [0, 0, 0, 0, 0, 0, 0, 0, 0]) (k := 0) (v := 79 + 1) rfl (by decide) rfl (fun _ hx => (tl_ne hx).trans (tl_ne hx).symm)
  refine v_putg (g' := (CT 0 GL 78 80 [(78, [80, 0, 0, 0, 0, 0, 0, 0, 0])] g0)) K pX1_9 (fun _ => rfl) (Or.inr ⟨_, rfl⟩) sh_78 (show 78 < 80 by decide) cs2.1 (fun j _ hj => cs2.2.1 j hj) (fun x _ hx => cs2.2.2 x hx) dX1_init_9 ?_
  refine v_aload_n K dX1_init_12 rfl ?_
  refine v_iconstN K 0 rfl dX1_init_13 ?_
  refine v_puti K pX1_15 sh_78 (show 78 < 80 by decide) dX1_init_14 ?_
  refine v_hq (CT_u2 (F := FH) (T := [(79, [0, 0, 0, 0, 0, 0, 0, 0]), (78, [0, 0, 0, 0, 0, 0, 0, 0, 0])]) (T' := [(78, [0, nI 0, 0, 0, 0, 0, 0, 0, 0]), (79, [0, 0, 0, 0, 0, 0, 0, 0]), (78, [0, 0, 0, 0, 0, 0, 0, 0, 0])]) (L := [0, 0, 0, 0, 0, 0, 0, 0, 0]) rfl (by decide) rfl (fun _ hx => tl_ne hx)) ?_
  refine v_aload_n K dX1_init_17 rfl ?_
  refine v_iconstN K 0 rfl dX1_init_18 ?_
  refine v_puti K pX1_19 sh_78 (show 78 < 80 by decide) dX1_init_19 ?_
  refine v_hq (CT_u2 (F := FH) (T := [(78, [0, nI 0, 0, 0, 0, 0, 0, 0, 0]), (79, [0, 0, 0, 0, 0, 0, 0, 0]), (78, [0, 0, 0, 0, 0, 0, 0, 0, 0])]) (T' := [(78, [0, nI 0, nI 0, 0, 0, 0, 0, 0, 0]), (79, [0, 0, 0, 0, 0, 0, 0, 0]), (78, [0, 0, 0, 0, 0, 0, 0, 0, 0])]) (L := [0, nI 0, 0, 0, 0, 0, 0, 0, 0]) rfl (by decide) rfl (fun _ hx => (tl_ne hx).trans (tl_ne hx).symm)) ?_
  refine v_aload_n K dX1_init_22 rfl ?_
  refine v_bipushN K 8 rfl dX1_init_23 ?_
  refine v_bipushN K 6 rfl dX1_init_25 ?_
  refine v_multi (g' := (CT 0 GL 78 89 [(78, [80, 0, 0, 0, 0, 0, 0, 0, 0])] g0)) K (by decide) sh_80 (show ∀ i, i < 8 → SH (80 + 1 + i) = (2, 0, 6) by decide +kernel) (fun i hi => (congrFun (CT_in (tl_hi (n := 80) (by decide) (Nat.le_refl _)) ⟨by decide, by decide⟩) i).trans ((show ∀ i, i < 8 → GL 80 i = 80 + 1 + i + 1 by decide +kernel) i hi)) (CT_lt (by decide)) (fun i hi => (CT_far (by decide) (by omega)).trans (hz _ (by omega)).2) (W0.ct (by decide) (by decide) (by decide) (by decide +kernel) (by decide +kernel)) rfl rfl clX1_22 wa_int (by decide) (by decide) ⟨by decide, by decide⟩ dX1_init_27 (fun ρ3 A3 => ?_)
  have B3 := AGR.t B1 A3 (by decide)
  refine v_sw (n := 89) (c := 10) (z := 64) (g' := (CT 0 GL 78 89 [(78, [80, 0, 0, 0, 0, 0, 0, 0, 0])] g0)) (h' := (CT 0 FH 78 89 [(78, [0, nI 0, nI 0, 0, 0, 0, 0, 0, 0]), (79, [0, 0, 0, 0, 0, 0, 0, 0]), (78, [0, 0, 0, 0, 0, 0, 0, 0, 0])] h0)) (fun _ _ => rfl) (CT_grow (by decide) (by decide) (by decide) (fun a h => (hz a (Nat.le_trans (by decide) h)).2) (FHz (by decide +kernel))) ?_
  have cs4 := CT_set (z := 0) (F := GL) (b := 78) (hi := 89) (f := g0) (T := [(78, [80, 0, 0, 0, 0, 0, 0, 0, 0])]) (T' := [(78, [80, 0, 0, 81, 0, 0, 0, 0, 0])]) (L := [80, 0, 0, 0, 0, 0, 0, 0, 0]) (k := 3) (v := 80 + 1) rfl (by decide) rfl (fun _ hx => (tl_ne hx).trans (tl_ne hx).symm)
  refine v_putg (g' := (CT 0 GL 78 89 [(78, [80, 0, 0, 81, 0, 0, 0, 0, 0])] g0)) K pX1_24 (fun _ => rfl) (Or.inr ⟨_, rfl⟩) sh_78 (show 78 < 89 by decide) cs4.1 (fun j _ hj => cs4.2.1 j hj) (fun x _ hx => cs4.2.2 x hx) dX1_init_31 ?_
  refine v_aload_n K dX1_init_34 rfl ?_
  refine v_iconstN K 0 rfl dX1_init_35 ?_
  refine v_puti K pX1_27 sh_78 (show 78 < 89 by decide) dX1_init_36 ?_
  refine v_hq (CT_u2 (F := FH) (T := [(78, [0, nI 0, nI 0, 0, 0, 0, 0, 0, 0]), (79, [0, 0, 0, 0, 0, 0, 0, 0]), (78, [0, 0, 0, 0, 0, 0, 0, 0, 0])]) (T' := [(78, [0, nI 0, nI 0, 0, nI 0, 0, 0, 0, 0]), (79, [0, 0, 0, 0, 0, 0, 0, 0]), (78, [0, 0, 0, 0, 0, 0, 0, 0, 0])]) (L := [0, nI 0, nI 0, 0, 0, 0, 0, 0, 0]) rfl (by decide) rfl (fun _ hx => (tl_ne hx).trans (tl_ne hx).symm)) ?_
  refine v_aload_n K dX1_init_39 rfl ?_
  refine v_iconstN K 5 rfl dX1_init_40 ?_
  refine v_iconstN K 3 rfl dX1_init_41 ?_
  refine v_multi (g' := (CT 0 GL 78 95 [(78, [80, 0, 0, 81, 0, 0, 0, 0, 0])] g0)) K (by decide) sh_89 (show ∀ i, i < 5 → SH (89 + 1 + i) = (2, 0, 3) by decide +kernel) (fun i hi => (congrFun (CT_in (tl_hi (n := 89) (by decide) (Nat.le_refl _)) ⟨by decide, by decide⟩) i).trans ((show ∀ i, i < 5 → GL 89 i = 89 + 1 + i + 1 by decide +kernel) i hi)) (CT_lt (by decide)) (fun i hi => (CT_far (by decide) (by omega)).trans (hz _ (by omega)).2) (W0.ct (by decide) (by decide) (by decide) (by decide +kernel) (by decide +kernel)) rfl rfl clX1_22 wa_int (by decide) (by decide) ⟨by decide, by decide⟩ dX1_init_42 (fun ρ5 A5 => ?_)
  have B5 := AGR.t B3 A5 (by decide)
  refine v_sw (n := 95) (c := 16) (z := 84) (g' := (CT 0 GL 78 95 [(78, [80, 0, 0, 81, 0, 0, 0, 0, 0])] g0)) (h' := (CT 0 FH 78 95 [(78, [0, nI 0, nI 0, 0, nI 0, 0, 0, 0, 0]), (79, [0, 0, 0, 0, 0, 0, 0, 0]), (78, [0, 0, 0, 0, 0, 0, 0, 0, 0])] h0)) (fun _ _ => rfl) (CT_grow (by decide) (by decide) (by decide) (fun a h => (hz a (Nat.le_trans (by decide) h)).2) (FHz (by decide +kernel))) ?_
  have cs6 := CT_set (z := 0) (F := GL) (b := 78) (hi := 95) (f := g0) (T := [(78, [80, 0, 0, 81, 0, 0, 0, 0, 0])]) (T' := [(78, [80, 0, 0, 81, 0, 90, 0, 0, 0])]) (L := [80, 0, 0, 81, 0, 0, 0, 0, 0]) (k := 5) (v := 89 + 1) rfl (by decide) rfl (fun _ hx => (tl_ne hx).trans (tl_ne hx).symm)
  refine v_putg (g' := (CT 0 GL 78 95 [(78, [80, 0, 0, 81, 0, 90, 0, 0, 0])] g0)) K pX1_30 (fun _ => rfl) (Or.inr ⟨_, rfl⟩) sh_78 (show 78 < 95 by decide) cs6.1 (fun j _ hj => cs6.2.1 j hj) (fun x _ hx => cs6.2.2 x hx) dX1_init_46 ?_
  refine v_aload_n K dX1_init_49 rfl ?_
  refine v_iconstN K 0 rfl dX1_init_50 ?_
  refine v_puti K pX1_33 sh_78 (show 78 < 95 by decide) dX1_init_51 ?_
  refine v_hq (CT_u2 (F := FH) (T := [(78, [0, nI 0, nI 0, 0, nI 0, 0, 0, 0, 0]), (79, [0, 0, 0, 0, 0, 0, 0, 0]), (78, [0, 0, 0, 0, 0, 0, 0, 0, 0])]) (T' := [(78, [0, nI 0, nI 0, 0, nI 0, 0, nI 0, 0, 0]), (79, [0, 0, 0, 0, 0, 0, 0, 0]), (78, [0, 0, 0, 0, 0, 0, 0, 0, 0])]) (L := [0, nI 0, nI 0, 0, nI 0, 0, 0, 0, 0]) rfl (by decide) rfl (fun _ hx => (tl_ne hx).trans (tl_ne hx).symm)) ?_
  refine v_aload_n K dX1_init_54 rfl ?_
  refine v_iconst (v := (-1)) K dX1_init_55 (by decide) ?_
  refine v_puti K pX1_36 sh_78 (show 78 < 95 by decide) dX1_init_56 ?_
  refine v_hq (CT_u2 (F := FH) (T := [(78, [0, nI 0, nI 0, 0, nI 0, 0, nI 0, 0, 0]), (79, [0, 0, 0, 0, 0, 0, 0, 0]), (78, [0, 0, 0, 0, 0, 0, 0, 0, 0])]) (T' := [(78, [0, nI 0, nI 0, 0, nI 0, 0, nI 0, (-1), 0]), (79, [0, 0, 0, 0, 0, 0, 0, 0]), (78, [0, 0, 0, 0, 0, 0, 0, 0, 0])]) (L := [0, nI 0, nI 0, 0, nI 0, 0, nI 0, 0, 0]) rfl (by decide) rfl (fun _ hx => (tl_ne hx).trans (tl_ne hx).symm)) ?_
  refine v_aload_n K dX1_init_59 rfl ?_
  refine v_bipushN K 8 rfl dX1_init_60 ?_
  refine v_newa K pl_95 sh_95 (CT_new (by decide) (hz 95 (by decide)).2) (Or.inl ⟨rfl, rfl⟩) (fun k => congrFun (CT_new (by decide) (hz 95 (by decide)).1) k) (W0.ct (by decide) (by decide) (by decide) (by decide +kernel) (by decide +kernel)) (by decide) rfl rfl wa_int ⟨by decide, by decide⟩ dX1_init_62 (fun ρ7 A7 => ?_)
  have B7 := AGR.t B5 A7 (by decide)
  refine v_sw (n := 96) (c := 17) (z := 92) (g' := (CT 0 GL 78 96 [(78, [80, 0, 0, 81, 0, 90, 0, 0, 0])] g0)) (h' := (CT 0 FH 78 96 [(78, [0, nI 0, nI 0, 0, nI 0, 0, nI 0, (-1), 0]), (79, [0, 0, 0, 0, 0, 0, 0, 0]), (78, [0, 0, 0, 0, 0, 0, 0, 0, 0])] h0)) (CT_grow (by decide) (by decide) (by decide) (fun a h => (hz a (Nat.le_trans (by decide) h)).1) (GLz (by decide +kernel))) (CT_grow (by decide) (by decide) (by decide) (fun a h => (hz a (Nat.le_trans (by decide) h)).2) (FHz (by decide +kernel))) ?_
  have cs8 := CT_set (z := 0) (F := GL) (b := 78) (hi := 96) (f := g0) (T := [(78, [80, 0, 0, 81, 0, 90, 0, 0, 0])]) (T' := [(78, [80, 0, 0, 81, 0, 90, 0, 0, 96])]) (L := [80, 0, 0, 81, 0, 90, 0, 0, 0]) (k := 8) (v := 95 + 1) rfl (by decide) rfl (fun _ hx => (tl_ne hx).trans (tl_ne hx).symm)
  refine v_putg (g' := (CT 0 GL 78 96 [(78, [80, 0, 0, 81, 0, 90, 0, 0, 96])] g0)) K pX1_39 (fun _ => rfl) (Or.inr ⟨_, rfl⟩) sh_78 (show 78 < 96 by decide) cs8.1 (fun j _ hj => cs8.2.1 j hj) (fun x _ hx => cs8.2.2 x hx) dX1_init_64 ?_
  refine v_getsN (j := 3) K (by decide) sX1_42 dX1_init_67 ?_
  refine v_iconstN K 0 rfl dX1_init_70 ?_
  refine v_aload_n K dX1_init_71 rfl ?_
  refine v_getr (q := 79) K fX1_9 sh_78 (show 78 < 96 by decide) ((congrFun (CT_at (z := 0) (F := GL) (b := 78) (hi := 96) (f := g0) (a := 78) (T := [(78, [80, 0, 0, 81, 0, 90, 0, 0, 96])]) (L := [80, 0, 0, 81, 0, 90, 0, 0, 96]) rfl) 0).trans rfl) dX1_init_72 ?_
  refine v_iconstN K 0 rfl dX1_init_75 ?_
  refine v_aload_n K dX1_init_76 rfl ?_
  refine v_getr (q := 79) K fX1_9 sh_78 (show 78 < 96 by decide) ((congrFun (CT_at (z := 0) (F := GL) (b := 78) (hi := 96) (f := g0) (a := 78) (T := [(78, [80, 0, 0, 81, 0, 90, 0, 0, 96])]) (L := [80, 0, 0, 81, 0, 90, 0, 0, 96]) rfl) 0).trans rfl) dX1_init_77 ?_
  refine v_alen (N := 8) K sh_79 (by decide) (show 79 < 96 by decide) dX1_init_80 ?_
  refine v_copyS (j := 3) K jX1_45 jna_copy jst_copy jin_sys (by decide) sh_79 (show 79 < 96 by decide) (by decide) (by decide) ⟨by decide, by decide +kernel⟩ (by decide) dX1_init_81 ?_
  refine v_hq (CT_cpy (F := FH) (T := [(78, [0, nI 0, nI 0, 0, nI 0, 0, nI 0, (-1), 0]), (79, [0, 0, 0, 0, 0, 0, 0, 0]), (78, [0, 0, 0, 0, 0, 0, 0, 0, 0])]) (T' := [(79, [nI 11, nI 1, nI 20, nI 0, nI 0, nI 480, nI 20, nI 30]), (78, [0, nI 0, nI 0, 0, nI 0, 0, nI 0, (-1), 0]), (79, [0, 0, 0, 0, 0, 0, 0, 0]), (78, [0, 0, 0, 0, 0, 0, 0, 0, 0])]) (L := [0, 0, 0, 0, 0, 0, 0, 0]) rfl (by decide) rfl (fun _ hx => tl_ne hx) rfl (by decide +kernel)) ?_
  exact v_vretA K dX1_init_84 B7 (CT_off (by decide) (by decide)) (CT_fin tN_eq (fun _ => rfl) (by decide +kernel) rfl) (W0.ct (by decide) (by decide) (by decide) (by decide +kernel) (by decide +kernel)) (FF_fin (by decide) (by decide) (by decide +kernel) rfl)

theorem cA_X0_init_77 {l : Launch} {g0 : Gm} {h0 : Mm} (A0 : MK 77 78 g0 h0) : ConA l yX0_init cX0_init 3 2 80 21 113 78 77 99 g0 h0 [.ref 77, .ref 2, .ref 20] (fun h2 => h2 = FF 77 99 h0) := by
  have W0 := A0.1
  have hz := A0.2.2.2.2
  refine ConA.ofV (own := "FoxRounds$Ahead") (nm := "<init>") rfl rfl (by decide) (by decide) ?_
  intro κ ρ hkl K
  subst hkl
  show V κ (QMA κ 78 77 99 ρ g0 (fun h2 => h2 = FF 77 99 h0) 21 113) 3 (78, ρ, g0, 0, 0) h0 0 [(0, .ref 77), (1, .ref 2), (2, .ref 20)] []
  refine v_sw (n := 78) (c := 0) (z := 0) (g' := (CT 0 GL 77 78 [(77, [0, 0, 0, 0, 0, 0, 0, 0])] g0)) (h' := (CT 0 FH 77 78 [(77, [0, 0, 0, 0, 0, 0, 0, 0])] h0)) (A0.s1 (by decide)) (A0.s2 (by decide)) ?_
  refine v_aload_n K dX0_init_0 rfl ?_
  refine v_objInit K oi_X0 oi_m oi_c ⟨by decide, by decide⟩ (by decide) dX0_init_1 ?_
  refine v_aload_n K dX0_init_4 rfl ?_
  refine v_new K nwX0_9 pl_78 sh_78 (fun k => congrFun (CT_new (by decide) (hz 78 (by decide)).1) k) (fun k _ => congrFun (CT_new (by decide) (hz 78 (by decide)).2) k) (W0.ct (by decide) (by decide) (by decide) (by decide +kernel) (by decide +kernel)) rfl rfl ⟨by decide, by decide⟩ dX0_init_5 (fun ρ1 A1 => ?_)
  have B1 := AGR.t (AGR.r (n := 78) (ρ := ρ)) A1 (by decide)
  refine v_sw (n := 79) (c := 1) (z := 9) (g' := (CT 0 GL 77 79 [(78, [0, 0, 0, 0, 0, 0, 0, 0, 0]), (77, [0, 0, 0, 0, 0, 0, 0, 0])] g0)) (h' := (CT 0 FH 77 79 [(78, [0, 0, 0, 0, 0, 0, 0, 0, 0]), (77, [0, 0, 0, 0, 0, 0, 0, 0])] h0)) (CT_push (by decide) (hz 78 (by decide)).1 (zrN (by decide))) (CT_push (by decide) (hz 78 (by decide)).2 (zrI (by decide))) ?_
  refine v_dup K dX0_init_8 rfl ?_
  refine v_callI (As := []) K (cA_X1_init_78 (A0.sub (T := [(77, [0, 0, 0, 0, 0, 0, 0, 0])]) (S := [(77, [0, 0, 0, 0, 0, 0, 0, 0])]) (L := [0, 0, 0, 0, 0, 0, 0, 0, 0]) (M := [0, 0, 0, 0, 0, 0, 0, 0, 0]) (W0.ct (by decide) (by decide) (by decide) (by decide +kernel) (by decide +kernel)) (by decide) (by decide) (by decide) (by decide) (by decide) (by decide) (by decide))) lX0_11 rfl rfl ⟨by decide, by decide⟩ ⟨by decide, by decide⟩ (by decide) rfl rfl dX0_init_9 (fun ρ2 g2 h2 A2 x2 y2 w2 p2 => ?_) rfl
  have B2 := AGR.t B1 A2 (by decide)
  subst p2
  refine v_sw (n := 96) (c := 18) (z := 101) (g' := (CT 0 GL 77 96 [(77, [0, 0, 0, 0, 0, 0, 0, 0])] g0)) (h' := (CT 0 FH 77 96 [(77, [0, 0, 0, 0, 0, 0, 0, 0])] h0)) (CT_back x2 y2 (by decide) (by decide) (by decide)) (CT_back (fun a ha => FF_off ha) (fun a h1 h2 => FF_in h1 h2) (by decide) (by decide) (by decide)) ?_
  have cs3 := CT_set (z := 0) (F := GL) (b := 77) (hi := 96) (f := g0) (T := [(77, [0, 0, 0, 0, 0, 0, 0, 0])]) (T' := [(77, [0, 0, 79, 0, 0, 0, 0, 0])]) (L := [0, 0, 0, 0, 0, 0, 0, 0]) (k := 2) (v := 78 + 1) rfl (by decide) rfl (fun _ hx => (tl_ne hx).trans (tl_ne hx).symm)
  refine v_putg (g' := (CT 0 GL 77 96 [(77, [0, 0, 79, 0, 0, 0, 0, 0])] g0)) K pX0_12 (fun _ => rfl) (Or.inl ⟨_, rfl⟩) sh_77 (show 77 < 96 by decide) cs3.1 (fun j _ hj => cs3.2.1 j hj) (fun x _ hx => cs3.2.2 x hx) dX0_init_12 ?_
  refine v_aload_n K dX0_init_15 rfl ?_
  refine v_iconstN K 0 rfl dX0_init_16 ?_
  refine v_puti K pX0_18 sh_77 (show 77 < 96 by decide) dX0_init_17 ?_
  refine v_hq (CT_u2 (F := FH) (T := [(77, [0, 0, 0, 0, 0, 0, 0, 0])]) (T' := [(77, [0, 0, 0, nI 0, 0, 0, 0, 0])]) (L := [0, 0, 0, 0, 0, 0, 0, 0]) rfl (by decide) rfl (fun _ hx => (tl_ne hx).trans (tl_ne hx).symm)) ?_
  refine v_aload_n K dX0_init_20 rfl ?_
  refine v_iconstN K 0 rfl dX0_init_21 ?_
  refine v_puti K pX0_22 sh_77 (show 77 < 96 by decide) dX0_init_22 ?_
  refine v_hq (CT_u2 (F := FH) (T := [(77, [0, 0, 0, nI 0, 0, 0, 0, 0])]) (T' := [(77, [0, 0, 0, nI 0, nI 0, 0, 0, 0])]) (L := [0, 0, 0, nI 0, 0, 0, 0, 0]) rfl (by decide) rfl (fun _ hx => (tl_ne hx).trans (tl_ne hx).symm)) ?_
  refine v_aload_n K dX0_init_25 rfl ?_
  refine v_iconstN K 4 rfl dX0_init_26 ?_
  refine v_newa K pl_96 sh_96 (CT_new (by decide) (hz 96 (by decide)).2) (Or.inl ⟨rfl, rfl⟩) (fun k => congrFun (CT_new (by decide) (hz 96 (by decide)).1) k) (W0.ct (by decide) (by decide) (by decide) (by decide +kernel) (by decide +kernel)) (by decide) rfl rfl wa_int ⟨by decide, by decide⟩ dX0_init_27 (fun ρ4 A4 => ?_)
  have B4 := AGR.t B2 A4 (by decide)
  refine v_sw (n := 97) (c := 19) (z := 105) (g' := (CT 0 GL 77 97 [(77, [0, 0, 79, 0, 0, 0, 0, 0])] g0)) (h' := (CT 0 FH 77 97 [(77, [0, 0, 0, nI 0, nI 0, 0, 0, 0])] h0)) (CT_grow (by decide) (by decide) (by decide) (fun a h => (hz a (Nat.le_trans (by decide) h)).1) (GLz (by decide +kernel))) (CT_grow (by decide) (by decide) (by decide) (fun a h => (hz a (Nat.le_trans (by decide) h)).2) (FHz (by decide +kernel))) ?_
  have cs5 := CT_set (z := 0) (F := GL) (b := 77) (hi := 97) (f := g0) (T := [(77, [0, 0, 79, 0, 0, 0, 0, 0])]) (T' := [(77, [0, 0, 79, 0, 0, 97, 0, 0])]) (L := [0, 0, 79, 0, 0, 0, 0, 0]) (k := 5) (v := 96 + 1) rfl (by decide) rfl (fun _ hx => (tl_ne hx).trans (tl_ne hx).symm)
  refine v_putg (g' := (CT 0 GL 77 97 [(77, [0, 0, 79, 0, 0, 97, 0, 0])] g0)) K pX0_25 (fun _ => rfl) (Or.inr ⟨_, rfl⟩) sh_77 (show 77 < 97 by decide) cs5.1 (fun j _ hj => cs5.2.1 j hj) (fun x _ hx => cs5.2.2 x hx) dX0_init_29 ?_
  refine v_aload_n K dX0_init_32 rfl ?_
  refine v_iconstN K 4 rfl dX0_init_33 ?_
  refine v_newa K pl_97 sh_97 (CT_new (by decide) (hz 97 (by decide)).2) (Or.inl ⟨rfl, rfl⟩) (fun k => congrFun (CT_new (by decide) (hz 97 (by decide)).1) k) (W0.ct (by decide) (by decide) (by decide) (by decide +kernel) (by decide +kernel)) (by decide) rfl rfl wa_int ⟨by decide, by decide⟩ dX0_init_34 (fun ρ6 A6 => ?_)
  have B6 := AGR.t B4 A6 (by decide)
  refine v_sw (n := 98) (c := 20) (z := 109) (g' := (CT 0 GL 77 98 [(77, [0, 0, 79, 0, 0, 97, 0, 0])] g0)) (h' := (CT 0 FH 77 98 [(77, [0, 0, 0, nI 0, nI 0, 0, 0, 0])] h0)) (CT_grow (by decide) (by decide) (by decide) (fun a h => (hz a (Nat.le_trans (by decide) h)).1) (GLz (by decide +kernel))) (CT_grow (by decide) (by decide) (by decide) (fun a h => (hz a (Nat.le_trans (by decide) h)).2) (FHz (by decide +kernel))) ?_
  have cs7 := CT_set (z := 0) (F := GL) (b := 77) (hi := 98) (f := g0) (T := [(77, [0, 0, 79, 0, 0, 97, 0, 0])]) (T' := [(77, [0, 0, 79, 0, 0, 97, 98, 0])]) (L := [0, 0, 79, 0, 0, 97, 0, 0]) (k := 6) (v := 97 + 1) rfl (by decide) rfl (fun _ hx => (tl_ne hx).trans (tl_ne hx).symm)
  refine v_putg (g' := (CT 0 GL 77 98 [(77, [0, 0, 79, 0, 0, 97, 98, 0])] g0)) K pX0_29 (fun _ => rfl) (Or.inr ⟨_, rfl⟩) sh_77 (show 77 < 98 by decide) cs7.1 (fun j _ hj => cs7.2.1 j hj) (fun x _ hx => cs7.2.2 x hx) dX0_init_36 ?_
  refine v_aload_n K dX0_init_39 rfl ?_
  refine v_iconstN K 4 rfl dX0_init_40 ?_
  refine v_newa K pl_98 sh_98 (CT_new (by decide) (hz 98 (by decide)).2) (Or.inl ⟨rfl, rfl⟩) (fun k => congrFun (CT_new (by decide) (hz 98 (by decide)).1) k) (W0.ct (by decide) (by decide) (by decide) (by decide +kernel) (by decide +kernel)) (by decide) rfl rfl wa_int ⟨by decide, by decide⟩ dX0_init_41 (fun ρ8 A8 => ?_)
  have B8 := AGR.t B6 A8 (by decide)
  refine v_sw (n := 99) (c := 21) (z := 113) (g' := (CT 0 GL 77 99 [(77, [0, 0, 79, 0, 0, 97, 98, 0])] g0)) (h' := (CT 0 FH 77 99 [(77, [0, 0, 0, nI 0, nI 0, 0, 0, 0])] h0)) (CT_grow (by decide) (by decide) (by decide) (fun a h => (hz a (Nat.le_trans (by decide) h)).1) (GLz (by decide +kernel))) (CT_grow (by decide) (by decide) (by decide) (fun a h => (hz a (Nat.le_trans (by decide) h)).2) (FHz (by decide +kernel))) ?_
  have cs9 := CT_set (z := 0) (F := GL) (b := 77) (hi := 99) (f := g0) (T := [(77, [0, 0, 79, 0, 0, 97, 98, 0])]) (T' := [(77, [0, 0, 79, 0, 0, 97, 98, 99])]) (L := [0, 0, 79, 0, 0, 97, 98, 0]) (k := 7) (v := 98 + 1) rfl (by decide) rfl (fun _ hx => (tl_ne hx).trans (tl_ne hx).symm)
  refine v_putg (g' := (CT 0 GL 77 99 [(77, [0, 0, 79, 0, 0, 97, 98, 99])] g0)) K pX0_32 (fun _ => rfl) (Or.inr ⟨_, rfl⟩) sh_77 (show 77 < 99 by decide) cs9.1 (fun j _ hj => cs9.2.1 j hj) (fun x _ hx => cs9.2.2 x hx) dX0_init_43 ?_
  refine v_aload_n K dX0_init_46 rfl ?_
  refine v_aload_n K dX0_init_47 rfl ?_
  have cs10 := CT_set (z := 0) (F := GL) (b := 77) (hi := 99) (f := g0) (T := [(77, [0, 0, 79, 0, 0, 97, 98, 99])]) (T' := [(77, [3, 0, 79, 0, 0, 97, 98, 99])]) (L := [0, 0, 79, 0, 0, 97, 98, 99]) (k := 0) (v := 2 + 1) rfl (by decide) rfl (fun _ hx => (tl_ne hx).trans (tl_ne hx).symm)
  refine v_putg (g' := (CT 0 GL 77 99 [(77, [3, 0, 79, 0, 0, 97, 98, 99])] g0)) K pX0_35 (fun _ => rfl) (Or.inl ⟨_, rfl⟩) sh_77 (show 77 < 99 by decide) cs10.1 (fun j _ hj => cs10.2.1 j hj) (fun x _ hx => cs10.2.2 x hx) dX0_init_48 ?_
  refine v_aload_n K dX0_init_51 rfl ?_
  refine v_aload_n K dX0_init_52 rfl ?_
  have cs11 := CT_set (z := 0) (F := GL) (b := 77) (hi := 99) (f := g0) (T := [(77, [3, 0, 79, 0, 0, 97, 98, 99])]) (T' := [(77, [3, 21, 79, 0, 0, 97, 98, 99])]) (L := [3, 0, 79, 0, 0, 97, 98, 99]) (k := 1) (v := 20 + 1) rfl (by decide) rfl (fun _ hx => (tl_ne hx).trans (tl_ne hx).symm)
  refine v_putg (g' := (CT 0 GL 77 99 [(77, [3, 21, 79, 0, 0, 97, 98, 99])] g0)) K pX0_38 (fun _ => rfl) (Or.inl ⟨_, rfl⟩) sh_77 (show 77 < 99 by decide) cs11.1 (fun j _ hj => cs11.2.1 j hj) (fun x _ hx => cs11.2.2 x hx) dX0_init_53 ?_
  exact v_vretA K dX0_init_56 B8 (CT_off (by decide) (by decide)) (CT_fin tN_eq (fun _ => rfl) (by decide +kernel) rfl) (W0.ct (by decide) (by decide) (by decide) (by decide +kernel) (by decide +kernel)) (FF_fin (by decide) (by decide) (by decide +kernel) rfl)

theorem cA_X5_init_100 {l : Launch} {g0 : Gm} {h0 : Mm} (A0 : MK 100 102 g0 h0) : ConA l yX5_init cX5_init 3 1 20 2 100 102 100 104 g0 h0 [.ref 100, .ref 101] (fun h2 => h2 = FF 100 104 h0) := by
  have W0 := A0.1
  have hz := A0.2.2.2.2
  refine ConA.ofV (own := "FoxRounds$Text") (nm := "<init>") rfl rfl (by decide) (by decide) ?_
  intro κ ρ hkl K
  subst hkl
  show V κ (QMA κ 102 100 104 ρ g0 (fun h2 => h2 = FF 100 104 h0) 2 100) 3 (102, ρ, g0, 0, 0) h0 0 [(0, .ref 100), (1, .ref 101)] []
  refine v_sw (n := 102) (c := 0) (z := 0) (g' := (CT 0 GL 100 102 [(100, [0, 0, 0])] g0)) (h' := (CT 0 FH 100 102 [(100, [0, 0, 0])] h0)) (A0.s1 (by decide)) (A0.s2 (by decide)) ?_
  refine v_aload_n K dX5_init_0 rfl ?_
  refine v_objInit K oi_X5 oi_m oi_c ⟨by decide, by decide⟩ (by decide) dX5_init_1 ?_
  refine v_aload_n K dX5_init_4 rfl ?_
  refine v_bipushN K 50 rfl dX5_init_5 ?_
  refine v_newa K pl_102 sh_102 (CT_new (by decide) (hz 102 (by decide)).2) (Or.inl ⟨rfl, rfl⟩) (fun k => congrFun (CT_new (by decide) (hz 102 (by decide)).1) k) (W0.ct (by decide) (by decide) (by decide) (by decide +kernel) (by decide +kernel)) (by decide) rfl rfl wa_int ⟨by decide, by decide⟩ dX5_init_7 (fun ρ1 A1 => ?_)
  have B1 := AGR.t (AGR.r (n := 102) (ρ := ρ)) A1 (by decide)
  refine v_sw (n := 103) (c := 1) (z := 50) (g' := (CT 0 GL 100 103 [(100, [0, 0, 0])] g0)) (h' := (CT 0 FH 100 103 [(100, [0, 0, 0])] h0)) (CT_grow (by decide) (by decide) (by decide) (fun a h => (hz a (Nat.le_trans (by decide) h)).1) (GLz (by decide +kernel))) (CT_grow (by decide) (by decide) (by decide) (fun a h => (hz a (Nat.le_trans (by decide) h)).2) (FHz (by decide +kernel))) ?_
  have cs2 := CT_set (z := 0) (F := GL) (b := 100) (hi := 103) (f := g0) (T := [(100, [0, 0, 0])]) (T' := [(100, [103, 0, 0])]) (L := [0, 0, 0]) (k := 0) (v := 102 + 1) rfl (by decide) rfl (fun _ hx => (tl_ne hx).trans (tl_ne hx).symm)
  refine v_putg (g' := (CT 0 GL 100 103 [(100, [103, 0, 0])] g0)) K pX5_9 (fun _ => rfl) (Or.inr ⟨_, rfl⟩) sh_100 (show 100 < 103 by decide) cs2.1 (fun j _ hj => cs2.2.1 j hj) (fun x _ hx => cs2.2.2 x hx) dX5_init_9 ?_
  refine v_aload_n K dX5_init_12 rfl ?_
  refine v_iconstN K 0 rfl dX5_init_13 ?_
  refine v_puti K pX5_15 sh_100 (show 100 < 103 by decide) dX5_init_14 ?_
  refine v_hq (CT_u2 (F := FH) (T := [(100, [0, 0, 0])]) (T' := [(100, [0, nI 0, 0])]) (L := [0, 0, 0]) rfl (by decide) rfl (fun _ hx => (tl_ne hx).trans (tl_ne hx).symm)) ?_
  refine v_aload_n K dX5_init_17 rfl ?_
  refine v_bipushN K 50 rfl dX5_init_18 ?_
  refine v_newa K pl_103 sh_103 (CT_new (by decide) (hz 103 (by decide)).2) (Or.inl ⟨rfl, rfl⟩) (fun k => congrFun (CT_new (by decide) (hz 103 (by decide)).1) k) (W0.ct (by decide) (by decide) (by decide) (by decide +kernel) (by decide +kernel)) (by decide) rfl rfl wa_int ⟨by decide, by decide⟩ dX5_init_20 (fun ρ3 A3 => ?_)
  have B3 := AGR.t B1 A3 (by decide)
  refine v_sw (n := 104) (c := 2) (z := 100) (g' := (CT 0 GL 100 104 [(100, [103, 0, 0])] g0)) (h' := (CT 0 FH 100 104 [(100, [0, nI 0, 0])] h0)) (CT_grow (by decide) (by decide) (by decide) (fun a h => (hz a (Nat.le_trans (by decide) h)).1) (GLz (by decide +kernel))) (CT_grow (by decide) (by decide) (by decide) (fun a h => (hz a (Nat.le_trans (by decide) h)).2) (FHz (by decide +kernel))) ?_
  have cs4 := CT_set (z := 0) (F := GL) (b := 100) (hi := 104) (f := g0) (T := [(100, [103, 0, 0])]) (T' := [(100, [103, 0, 104])]) (L := [103, 0, 0]) (k := 2) (v := 103 + 1) rfl (by decide) rfl (fun _ hx => (tl_ne hx).trans (tl_ne hx).symm)
  refine v_putg (g' := (CT 0 GL 100 104 [(100, [103, 0, 104])] g0)) K pX5_19 (fun _ => rfl) (Or.inr ⟨_, rfl⟩) sh_100 (show 100 < 104 by decide) cs4.1 (fun j _ hj => cs4.2.1 j hj) (fun x _ hx => cs4.2.2 x hx) dX5_init_22 ?_
  refine v_iconstN K 0 rfl dX5_init_25 ?_
  refine v_istore_n (lv2 := [(2, .int (nI 0)), (0, .ref 100), (1, .ref 101)]) K dX5_init_26 (by decide) rfl ?_
  refine v_iload_n K dX5_init_27 rfl ?_
  refine v_aload_n K dX5_init_28 rfl ?_
  refine v_alen (N := 0) K sh_101 (by decide) (show 101 < 104 by decide) dX5_init_29 ?_
  refine v_icmpN_ge (tgt := 46) K (by decide) (by decide) dX5_init_30 rfl (fun _ => ?_) (fun c => absurd c (by decide))
  exact v_vretA K dX5_init_46 B3 (CT_off (by decide) (by decide)) (CT_fin tN_eq (fun _ => rfl) (by decide +kernel) rfl) (W0.ct (by decide) (by decide) (by decide) (by decide +kernel) (by decide +kernel)) (FF_fin (by decide) (by decide) (by decide +kernel) rfl)

theorem cA_X3_init_99 {l : Launch} {g0 : Gm} {h0 : Mm} (A0 : MK 99 100 g0 h0) : ConA l yX3_init cX3_init 1 2 42 6 153 100 99 106 g0 h0 [.ref 99] (fun h2 => h2 = FF 99 106 h0) := by
  have W0 := A0.1
  have hz := A0.2.2.2.2
  refine ConA.ofV (own := "FoxRounds$Reader") (nm := "<init>") rfl rfl (by decide) (by decide) ?_
  intro κ ρ hkl K
  subst hkl
  show V κ (QMA κ 100 99 106 ρ g0 (fun h2 => h2 = FF 99 106 h0) 6 153) 1 (100, ρ, g0, 0, 0) h0 0 [(0, .ref 99)] []
  refine v_sw (n := 100) (c := 0) (z := 0) (g' := (CT 0 GL 99 100 [(99, [0, 0, 0, 0, 0, 0, 0, 0, 0, 0])] g0)) (h' := (CT 0 FH 99 100 [(99, [0, 0, 0, 0, 0, 0, 0, 0, 0, 0])] h0)) (A0.s1 (by decide)) (A0.s2 (by decide)) ?_
  refine v_aload_n K dX3_init_0 rfl ?_
  refine v_objInit K oi_X3 oi_m oi_c ⟨by decide, by decide⟩ (by decide) dX3_init_1 ?_
  refine v_aload_n K dX3_init_4 rfl ?_
  refine v_new K nwX3_9 pl_100 sh_100 (fun k => congrFun (CT_new (by decide) (hz 100 (by decide)).1) k) (fun k _ => congrFun (CT_new (by decide) (hz 100 (by decide)).2) k) (W0.ct (by decide) (by decide) (by decide) (by decide +kernel) (by decide +kernel)) rfl rfl ⟨by decide, by decide⟩ dX3_init_5 (fun ρ1 A1 => ?_)
  have B1 := AGR.t (AGR.r (n := 100) (ρ := ρ)) A1 (by decide)
  refine v_sw (n := 101) (c := 1) (z := 3) (g' := (CT 0 GL 99 101 [(100, [0, 0, 0]), (99, [0, 0, 0, 0, 0, 0, 0, 0, 0, 0])] g0)) (h' := (CT 0 FH 99 101 [(100, [0, 0, 0]), (99, [0, 0, 0, 0, 0, 0, 0, 0, 0, 0])] h0)) (CT_push (by decide) (hz 100 (by decide)).1 (zrN (by decide))) (CT_push (by decide) (hz 100 (by decide)).2 (zrI (by decide))) ?_
  refine v_dup K dX3_init_8 rfl ?_
  refine v_iconstN K 0 rfl dX3_init_9 ?_
  refine v_newa K pl_101 sh_101 (CT_new (by decide) (hz 101 (by decide)).2) (Or.inl ⟨rfl, rfl⟩) (fun k => congrFun (CT_new (by decide) (hz 101 (by decide)).1) k) (W0.ct (by decide) (by decide) (by decide) (by decide +kernel) (by decide +kernel)) (by decide) rfl rfl wa_int ⟨by decide, by decide⟩ dX3_init_10 (fun ρ2 A2 => ?_)
  have B2 := AGR.t B1 A2 (by decide)
  refine v_sw (n := 102) (c := 2) (z := 3) (g' := (CT 0 GL 99 102 [(100, [0, 0, 0]), (99, [0, 0, 0, 0, 0, 0, 0, 0, 0, 0])] g0)) (h' := (CT 0 FH 99 102 [(100, [0, 0, 0]), (99, [0, 0, 0, 0, 0, 0, 0, 0, 0, 0])] h0)) (CT_grow (by decide) (by decide) (by decide) (fun a h => (hz a (Nat.le_trans (by decide) h)).1) (GLz (by decide +kernel))) (CT_grow (by decide) (by decide) (by decide) (fun a h => (hz a (Nat.le_trans (by decide) h)).2) (FHz (by decide +kernel))) ?_
  refine v_callI (As := [.ref 101]) K (cA_X5_init_100 (A0.sub (T := [(99, [0, 0, 0, 0, 0, 0, 0, 0, 0, 0])]) (S := [(99, [0, 0, 0, 0, 0, 0, 0, 0, 0, 0])]) (L := [0, 0, 0]) (M := [0, 0, 0]) (W0.ct (by decide) (by decide) (by decide) (by decide +kernel) (by decide +kernel)) (by decide) (by decide) (by decide) (by decide) (by decide) (by decide) (by decide))) lX3_11 rfl rfl ⟨by decide, by decide⟩ ⟨by decide, by decide⟩ (by decide) rfl rfl dX3_init_12 (fun ρ3 g3 h3 A3 x3 y3 w3 p3 => ?_) rfl
  have B3 := AGR.t B2 A3 (by decide)
  subst p3
  refine v_sw (n := 104) (c := 4) (z := 103) (g' := (CT 0 GL 99 104 [(99, [0, 0, 0, 0, 0, 0, 0, 0, 0, 0])] g0)) (h' := (CT 0 FH 99 104 [(99, [0, 0, 0, 0, 0, 0, 0, 0, 0, 0])] h0)) (CT_back x3 y3 (by decide) (by decide) (by decide)) (CT_back (fun a ha => FF_off ha) (fun a h1 h2 => FF_in h1 h2) (by decide) (by decide) (by decide)) ?_
  have cs4 := CT_set (z := 0) (F := GL) (b := 99) (hi := 104) (f := g0) (T := [(99, [0, 0, 0, 0, 0, 0, 0, 0, 0, 0])]) (T' := [(99, [101, 0, 0, 0, 0, 0, 0, 0, 0, 0])]) (L := [0, 0, 0, 0, 0, 0, 0, 0, 0, 0]) (k := 0) (v := 100 + 1) rfl (by decide) rfl (fun _ hx => (tl_ne hx).trans (tl_ne hx).symm)
  refine v_putg (g' := (CT 0 GL 99 104 [(99, [101, 0, 0, 0, 0, 0, 0, 0, 0, 0])] g0)) K pX3_14 (fun _ => rfl) (Or.inl ⟨_, rfl⟩) sh_99 (show 99 < 104 by decide) cs4.1 (fun j _ hj => cs4.2.1 j hj) (fun x _ hx => cs4.2.2 x hx) dX3_init_15 ?_
  refine v_aload_n K dX3_init_18 rfl ?_
  refine v_iconstN K 0 rfl dX3_init_19 ?_
  refine v_newa K pl_104 sh_104 (CT_new (by decide) (hz 104 (by decide)).2) (Or.inr (Or.inl ⟨rfl, rfl⟩)) (fun k => congrFun (CT_new (by decide) (hz 104 (by decide)).1) k) (W0.ct (by decide) (by decide) (by decide) (by decide +kernel) (by decide +kernel)) (by decide) rfl rfl wa_byte ⟨by decide, by decide⟩ dX3_init_20 (fun ρ5 A5 => ?_)
  have B5 := AGR.t B3 A5 (by decide)
  refine v_sw (n := 105) (c := 5) (z := 103) (g' := (CT 0 GL 99 105 [(99, [101, 0, 0, 0, 0, 0, 0, 0, 0, 0])] g0)) (h' := (CT 0 FH 99 105 [(99, [0, 0, 0, 0, 0, 0, 0, 0, 0, 0])] h0)) (CT_grow (by decide) (by decide) (by decide) (fun a h => (hz a (Nat.le_trans (by decide) h)).1) (GLz (by decide +kernel))) (CT_grow (by decide) (by decide) (by decide) (fun a h => (hz a (Nat.le_trans (by decide) h)).2) (FHz (by decide +kernel))) ?_
  refine v_putd K pX3_20 (Or.inr ⟨_, rfl⟩) sh_99 (show 99 < 105 by decide) (by decide) dX3_init_22 ?_
  refine v_hq (CT_u2 (F := FH) (T := [(99, [0, 0, 0, 0, 0, 0, 0, 0, 0, 0])]) (T' := [(99, [0, nI (104 + 1), 0, 0, 0, 0, 0, 0, 0, 0])]) (L := [0, 0, 0, 0, 0, 0, 0, 0, 0, 0]) rfl (by decide) rfl (fun _ hx => (tl_ne hx).trans (tl_ne hx).symm)) ?_
  refine v_aload_n K dX3_init_25 rfl ?_
  refine v_iconstN K 0 rfl dX3_init_26 ?_
  refine v_puti K pX3_24 sh_99 (show 99 < 105 by decide) dX3_init_27 ?_
  refine v_hq (CT_u2 (F := FH) (T := [(99, [0, nI (104 + 1), 0, 0, 0, 0, 0, 0, 0, 0])]) (T' := [(99, [0, nI (104 + 1), nI 0, 0, 0, 0, 0, 0, 0, 0])]) (L := [0, nI (104 + 1), 0, 0, 0, 0, 0, 0, 0, 0]) rfl (by decide) rfl (fun _ hx => (tl_ne hx).trans (tl_ne hx).symm)) ?_
  refine v_aload_n K dX3_init_30 rfl ?_
  refine v_ldc1S (i := 0) K (fun _ _ _ _ q => q.2.2.2.2.2.1.1) dX3_init_31 ?_
  refine v_putd K pX3_30 (Or.inl ⟨_, rfl⟩) sh_99 (show 99 < 105 by decide) (by decide) dX3_init_33 ?_
  refine v_hq (CT_u2 (F := FH) (T := [(99, [0, nI (104 + 1), nI 0, 0, 0, 0, 0, 0, 0, 0])]) (T' := [(99, [0, nI (104 + 1), nI 0, nI (1020 + 0 + 1), 0, 0, 0, 0, 0, 0])]) (L := [0, nI (104 + 1), nI 0, 0, 0, 0, 0, 0, 0, 0]) rfl (by decide) rfl (fun _ hx => (tl_ne hx).trans (tl_ne hx).symm)) ?_
  refine v_aload_n K dX3_init_36 rfl ?_
  refine v_iconstN K 0 rfl dX3_init_37 ?_
  refine v_puti K pX3_34 sh_99 (show 99 < 105 by decide) dX3_init_38 ?_
  refine v_hq (CT_u2 (F := FH) (T := [(99, [0, nI (104 + 1), nI 0, nI (1020 + 0 + 1), 0, 0, 0, 0, 0, 0])]) (T' := [(99, [0, nI (104 + 1), nI 0, nI (1020 + 0 + 1), nI 0, 0, 0, 0, 0, 0])]) (L := [0, nI (104 + 1), nI 0, nI (1020 + 0 + 1), 0, 0, 0, 0, 0, 0]) rfl (by decide) rfl (fun _ hx => (tl_ne hx).trans (tl_ne hx).symm)) ?_
  refine v_aload_n K dX3_init_41 rfl ?_
  refine v_bipushN K 50 rfl dX3_init_42 ?_
  refine v_newa K pl_105 sh_105 (CT_new (by decide) (hz 105 (by decide)).2) (Or.inl ⟨rfl, rfl⟩) (fun k => congrFun (CT_new (by decide) (hz 105 (by decide)).1) k) (W0.ct (by decide) (by decide) (by decide) (by decide +kernel) (by decide +kernel)) (by decide) rfl rfl wa_int ⟨by decide, by decide⟩ dX3_init_44 (fun ρ6 A6 => ?_)
  have B6 := AGR.t B5 A6 (by decide)
  refine v_sw (n := 106) (c := 6) (z := 153) (g' := (CT 0 GL 99 106 [(99, [101, 0, 0, 0, 0, 0, 0, 0, 0, 0])] g0)) (h' := (CT 0 FH 99 106 [(99, [0, nI (104 + 1), nI 0, nI (1020 + 0 + 1), nI 0, 0, 0, 0, 0, 0])] h0)) (CT_grow (by decide) (by decide) (by decide) (fun a h => (hz a (Nat.le_trans (by decide) h)).1) (GLz (by decide +kernel))) (CT_grow (by decide) (by decide) (by decide) (fun a h => (hz a (Nat.le_trans (by decide) h)).2) (FHz (by decide +kernel))) ?_
  have cs7 := CT_set (z := 0) (F := GL) (b := 99) (hi := 106) (f := g0) (T := [(99, [101, 0, 0, 0, 0, 0, 0, 0, 0, 0])]) (T' := [(99, [101, 0, 0, 0, 0, 106, 0, 0, 0, 0])]) (L := [101, 0, 0, 0, 0, 0, 0, 0, 0, 0]) (k := 5) (v := 105 + 1) rfl (by decide) rfl (fun _ hx => (tl_ne hx).trans (tl_ne hx).symm)
  refine v_putg (g' := (CT 0 GL 99 106 [(99, [101, 0, 0, 0, 0, 106, 0, 0, 0, 0])] g0)) K pX3_37 (fun _ => rfl) (Or.inr ⟨_, rfl⟩) sh_99 (show 99 < 106 by decide) cs7.1 (fun j _ hj => cs7.2.1 j hj) (fun x _ hx => cs7.2.2 x hx) dX3_init_46 ?_
  refine v_aload_n K dX3_init_49 rfl ?_
  refine v_iconstN K 0 rfl dX3_init_50 ?_
  refine v_puti K pX3_41 sh_99 (show 99 < 106 by decide) dX3_init_51 ?_
  refine v_hq (CT_u2 (F := FH) (T := [(99, [0, nI (104 + 1), nI 0, nI (1020 + 0 + 1), nI 0, 0, 0, 0, 0, 0])]) (T' := [(99, [0, nI (104 + 1), nI 0, nI (1020 + 0 + 1), nI 0, 0, nI 0, 0, 0, 0])]) (L := [0, nI (104 + 1), nI 0, nI (1020 + 0 + 1), nI 0, 0, 0, 0, 0, 0]) rfl (by decide) rfl (fun _ hx => (tl_ne hx).trans (tl_ne hx).symm)) ?_
  refine v_aload_n K dX3_init_54 rfl ?_
  refine v_iconstN K 0 rfl dX3_init_55 ?_
  refine v_puti K pX3_44 sh_99 (show 99 < 106 by decide) dX3_init_56 ?_
  refine v_hq (CT_u2 (F := FH) (T := [(99, [0, nI (104 + 1), nI 0, nI (1020 + 0 + 1), nI 0, 0, nI 0, 0, 0, 0])]) (T' := [(99, [0, nI (104 + 1), nI 0, nI (1020 + 0 + 1), nI 0, 0, nI 0, nI 0, 0, 0])]) (L := [0, nI (104 + 1), nI 0, nI (1020 + 0 + 1), nI 0, 0, nI 0, 0, 0, 0]) rfl (by decide) rfl (fun _ hx => (tl_ne hx).trans (tl_ne hx).symm)) ?_
  refine v_aload_n K dX3_init_59 rfl ?_
  refine v_iconstN K 0 rfl dX3_init_60 ?_
  refine v_puti K pX3_47 sh_99 (show 99 < 106 by decide) dX3_init_61 ?_
  refine v_hq (CT_u2 (F := FH) (T := [(99, [0, nI (104 + 1), nI 0, nI (1020 + 0 + 1), nI 0, 0, nI 0, nI 0, 0, 0])]) (T' := [(99, [0, nI (104 + 1), nI 0, nI (1020 + 0 + 1), nI 0, 0, nI 0, nI 0, nI 0, 0])]) (L := [0, nI (104 + 1), nI 0, nI (1020 + 0 + 1), nI 0, 0, nI 0, nI 0, 0, 0]) rfl (by decide) rfl (fun _ hx => (tl_ne hx).trans (tl_ne hx).symm)) ?_
  refine v_aload_n K dX3_init_64 rfl ?_
  refine v_iconstN K 1 rfl dX3_init_65 ?_
  refine v_putz K pX3_50 sh_99 (show 99 < 106 by decide) (by decide) dX3_init_66 ?_
  refine v_hq (CT_u2 (F := FH) (T := [(99, [0, nI (104 + 1), nI 0, nI (1020 + 0 + 1), nI 0, 0, nI 0, nI 0, nI 0, 0])]) (T' := [(99, [0, nI (104 + 1), nI 0, nI (1020 + 0 + 1), nI 0, 0, nI 0, nI 0, nI 0, nI 1])]) (L := [0, nI (104 + 1), nI 0, nI (1020 + 0 + 1), nI 0, 0, nI 0, nI 0, nI 0, 0]) rfl (by decide) rfl (fun _ hx => (tl_ne hx).trans (tl_ne hx).symm)) ?_
  exact v_vretA K dX3_init_69 B6 (CT_off (by decide) (by decide)) (CT_fin tN_eq (fun _ => rfl) (by decide +kernel) rfl) (W0.ct (by decide) (by decide) (by decide) (by decide +kernel) (by decide +kernel)) (FF_fin (by decide) (by decide) (by decide +kernel) rfl)

theorem cA_X7_init_106 {l : Launch} {g0 : Gm} {h0 : Mm} (A0 : MK 106 107 g0 h0) : ConA l yX7_init cX7_init 1 1 20 1 40 107 106 108 g0 h0 [.ref 106] (fun h2 => h2 = FF 106 108 h0) := by
  have W0 := A0.1
  have hz := A0.2.2.2.2
  refine ConA.ofV (own := "FoxRounds$Voices") (nm := "<init>") rfl rfl (by decide) (by decide) ?_
  intro κ ρ hkl K
  subst hkl
  show V κ (QMA κ 107 106 108 ρ g0 (fun h2 => h2 = FF 106 108 h0) 1 40) 1 (107, ρ, g0, 0, 0) h0 0 [(0, .ref 106)] []
  refine v_sw (n := 107) (c := 0) (z := 0) (g' := (CT 0 GL 106 107 [(106, [0, 0, 0, 0, 0])] g0)) (h' := (CT 0 FH 106 107 [(106, [0, 0, 0, 0, 0])] h0)) (A0.s1 (by decide)) (A0.s2 (by decide)) ?_
  refine v_aload_n K dX7_init_0 rfl ?_
  refine v_objInit K oi_X7 oi_m oi_c ⟨by decide, by decide⟩ (by decide) dX7_init_1 ?_
  refine v_aload_n K dX7_init_4 rfl ?_
  refine v_bipushN K 40 rfl dX7_init_5 ?_
  refine v_newa K pl_107 sh_107 (CT_new (by decide) (hz 107 (by decide)).2) (Or.inl ⟨rfl, rfl⟩) (fun k => congrFun (CT_new (by decide) (hz 107 (by decide)).1) k) (W0.ct (by decide) (by decide) (by decide) (by decide +kernel) (by decide +kernel)) (by decide) rfl rfl wa_int ⟨by decide, by decide⟩ dX7_init_7 (fun ρ1 A1 => ?_)
  have B1 := AGR.t (AGR.r (n := 107) (ρ := ρ)) A1 (by decide)
  refine v_sw (n := 108) (c := 1) (z := 40) (g' := (CT 0 GL 106 108 [(106, [0, 0, 0, 0, 0])] g0)) (h' := (CT 0 FH 106 108 [(106, [0, 0, 0, 0, 0])] h0)) (CT_grow (by decide) (by decide) (by decide) (fun a h => (hz a (Nat.le_trans (by decide) h)).1) (GLz (by decide +kernel))) (CT_grow (by decide) (by decide) (by decide) (fun a h => (hz a (Nat.le_trans (by decide) h)).2) (FHz (by decide +kernel))) ?_
  have cs2 := CT_set (z := 0) (F := GL) (b := 106) (hi := 108) (f := g0) (T := [(106, [0, 0, 0, 0, 0])]) (T' := [(106, [108, 0, 0, 0, 0])]) (L := [0, 0, 0, 0, 0]) (k := 0) (v := 107 + 1) rfl (by decide) rfl (fun _ hx => (tl_ne hx).trans (tl_ne hx).symm)
  refine v_putg (g' := (CT 0 GL 106 108 [(106, [108, 0, 0, 0, 0])] g0)) K pX7_9 (fun _ => rfl) (Or.inr ⟨_, rfl⟩) sh_106 (show 106 < 108 by decide) cs2.1 (fun j _ hj => cs2.2.1 j hj) (fun x _ hx => cs2.2.2 x hx) dX7_init_9 ?_
  refine v_aload_n K dX7_init_12 rfl ?_
  refine v_iconstN K 0 rfl dX7_init_13 ?_
  refine v_puti K pX7_15 sh_106 (show 106 < 108 by decide) dX7_init_14 ?_
  refine v_hq (CT_u2 (F := FH) (T := [(106, [0, 0, 0, 0, 0])]) (T' := [(106, [0, nI 0, 0, 0, 0])]) (L := [0, 0, 0, 0, 0]) rfl (by decide) rfl (fun _ hx => (tl_ne hx).trans (tl_ne hx).symm)) ?_
  refine v_aload_n K dX7_init_17 rfl ?_
  refine v_iconstN K 0 rfl dX7_init_18 ?_
  refine v_puti K pX7_19 sh_106 (show 106 < 108 by decide) dX7_init_19 ?_
  refine v_hq (CT_u2 (F := FH) (T := [(106, [0, nI 0, 0, 0, 0])]) (T' := [(106, [0, nI 0, nI 0, 0, 0])]) (L := [0, nI 0, 0, 0, 0]) rfl (by decide) rfl (fun _ hx => (tl_ne hx).trans (tl_ne hx).symm)) ?_
  refine v_aload_n K dX7_init_22 rfl ?_
  refine v_iconstN K 0 rfl dX7_init_23 ?_
  refine v_puti K pX7_22 sh_106 (show 106 < 108 by decide) dX7_init_24 ?_
  refine v_hq (CT_u2 (F := FH) (T := [(106, [0, nI 0, nI 0, 0, 0])]) (T' := [(106, [0, nI 0, nI 0, nI 0, 0])]) (L := [0, nI 0, nI 0, 0, 0]) rfl (by decide) rfl (fun _ hx => (tl_ne hx).trans (tl_ne hx).symm)) ?_
  refine v_aload_n K dX7_init_27 rfl ?_
  refine v_iconstN K 0 rfl dX7_init_28 ?_
  refine v_puti K pX7_25 sh_106 (show 106 < 108 by decide) dX7_init_29 ?_
  refine v_hq (CT_u2 (F := FH) (T := [(106, [0, nI 0, nI 0, nI 0, 0])]) (T' := [(106, [0, nI 0, nI 0, nI 0, nI 0])]) (L := [0, nI 0, nI 0, nI 0, 0]) rfl (by decide) rfl (fun _ hx => (tl_ne hx).trans (tl_ne hx).symm)) ?_
  exact v_vretA K dX7_init_32 B1 (CT_off (by decide) (by decide)) (CT_fin tN_eq (fun _ => rfl) (by decide +kernel) rfl) (W0.ct (by decide) (by decide) (by decide) (by decide +kernel) (by decide +kernel)) (FF_fin (by decide) (by decide) (by decide +kernel) rfl)

theorem cA_X4_init_110 {l : Launch} {g0 : Gm} {h0 : Mm} (A0 : MK 110 111 g0 h0) : ConA l yX4_init cX4_init 1 1 20 1 40 111 110 112 g0 h0 [.ref 110] (fun h2 => h2 = FF 110 112 h0) := by
  have W0 := A0.1
  have hz := A0.2.2.2.2
  refine ConA.ofV (own := "FoxRounds$Sheet") (nm := "<init>") rfl rfl (by decide) (by decide) ?_
  intro κ ρ hkl K
  subst hkl
  show V κ (QMA κ 111 110 112 ρ g0 (fun h2 => h2 = FF 110 112 h0) 1 40) 1 (111, ρ, g0, 0, 0) h0 0 [(0, .ref 110)] []
  refine v_sw (n := 111) (c := 0) (z := 0) (g' := (CT 0 GL 110 111 [(110, [0, 0, 0])] g0)) (h' := (CT 0 FH 110 111 [(110, [0, 0, 0])] h0)) (A0.s1 (by decide)) (A0.s2 (by decide)) ?_
  refine v_aload_n K dX4_init_0 rfl ?_
  refine v_objInit K oi_X4 oi_m oi_c ⟨by decide, by decide⟩ (by decide) dX4_init_1 ?_
  refine v_aload_n K dX4_init_4 rfl ?_
  refine v_iconstN K 0 rfl dX4_init_5 ?_
  refine v_puti K pX4_9 sh_110 (show 110 < 111 by decide) dX4_init_6 ?_
  refine v_hq (CT_u2 (F := FH) (T := [(110, [0, 0, 0])]) (T' := [(110, [nI 0, 0, 0])]) (L := [0, 0, 0]) rfl (by decide) rfl (fun _ hx => (tl_ne hx).trans (tl_ne hx).symm)) ?_
  refine v_aload_n K dX4_init_9 rfl ?_
  refine v_iconstN K 0 rfl dX4_init_10 ?_
  refine v_puti K pX4_15 sh_110 (show 110 < 111 by decide) dX4_init_11 ?_
  refine v_hq (CT_u2 (F := FH) (T := [(110, [nI 0, 0, 0])]) (T' := [(110, [nI 0, nI 0, 0])]) (L := [nI 0, 0, 0]) rfl (by decide) rfl (fun _ hx => (tl_ne hx).trans (tl_ne hx).symm)) ?_
  refine v_aload_n K dX4_init_14 rfl ?_
  refine v_bipushN K 40 rfl dX4_init_15 ?_
  refine v_newa K pl_111 sh_111 (CT_new (by decide) (hz 111 (by decide)).2) (Or.inl ⟨rfl, rfl⟩) (fun k => congrFun (CT_new (by decide) (hz 111 (by decide)).1) k) (W0.ct (by decide) (by decide) (by decide) (by decide +kernel) (by decide +kernel)) (by decide) rfl rfl wa_int ⟨by decide, by decide⟩ dX4_init_17 (fun ρ1 A1 => ?_)
  have B1 := AGR.t (AGR.r (n := 111) (ρ := ρ)) A1 (by decide)
  refine v_sw (n := 112) (c := 1) (z := 40) (g' := (CT 0 GL 110 112 [(110, [0, 0, 0])] g0)) (h' := (CT 0 FH 110 112 [(110, [nI 0, nI 0, 0])] h0)) (CT_grow (by decide) (by decide) (by decide) (fun a h => (hz a (Nat.le_trans (by decide) h)).1) (GLz (by decide +kernel))) (CT_grow (by decide) (by decide) (by decide) (fun a h => (hz a (Nat.le_trans (by decide) h)).2) (FHz (by decide +kernel))) ?_
  have cs2 := CT_set (z := 0) (F := GL) (b := 110) (hi := 112) (f := g0) (T := [(110, [0, 0, 0])]) (T' := [(110, [0, 0, 112])]) (L := [0, 0, 0]) (k := 2) (v := 111 + 1) rfl (by decide) rfl (fun _ hx => (tl_ne hx).trans (tl_ne hx).symm)
  refine v_putg (g' := (CT 0 GL 110 112 [(110, [0, 0, 112])] g0)) K pX4_18 (fun _ => rfl) (Or.inr ⟨_, rfl⟩) sh_110 (show 110 < 112 by decide) cs2.1 (fun j _ hj => cs2.2.1 j hj) (fun x _ hx => cs2.2.2 x hx) dX4_init_19 ?_
  exact v_vretA K dX4_init_22 B1 (CT_off (by decide) (by decide)) (CT_fin tN_eq (fun _ => rfl) (by decide +kernel) rfl) (W0.ct (by decide) (by decide) (by decide) (by decide +kernel) (by decide +kernel)) (FF_fin (by decide) (by decide) (by decide +kernel) rfl)

theorem cA_X4_init_112 {l : Launch} {g0 : Gm} {h0 : Mm} (A0 : MK 112 113 g0 h0) : ConA l yX4_init cX4_init 1 1 20 1 40 113 112 114 g0 h0 [.ref 112] (fun h2 => h2 = FF 112 114 h0) := by
  have W0 := A0.1
  have hz := A0.2.2.2.2
  refine ConA.ofV (own := "FoxRounds$Sheet") (nm := "<init>") rfl rfl (by decide) (by decide) ?_
  intro κ ρ hkl K
  subst hkl
  show V κ (QMA κ 113 112 114 ρ g0 (fun h2 => h2 = FF 112 114 h0) 1 40) 1 (113, ρ, g0, 0, 0) h0 0 [(0, .ref 112)] []
  refine v_sw (n := 113) (c := 0) (z := 0) (g' := (CT 0 GL 112 113 [(112, [0, 0, 0])] g0)) (h' := (CT 0 FH 112 113 [(112, [0, 0, 0])] h0)) (A0.s1 (by decide)) (A0.s2 (by decide)) ?_
  refine v_aload_n K dX4_init_0 rfl ?_
  refine v_objInit K oi_X4 oi_m oi_c ⟨by decide, by decide⟩ (by decide) dX4_init_1 ?_
  refine v_aload_n K dX4_init_4 rfl ?_
  refine v_iconstN K 0 rfl dX4_init_5 ?_
  refine v_puti K pX4_9 sh_112 (show 112 < 113 by decide) dX4_init_6 ?_
  refine v_hq (CT_u2 (F := FH) (T := [(112, [0, 0, 0])]) (T' := [(112, [nI 0, 0, 0])]) (L := [0, 0, 0]) rfl (by decide) rfl (fun _ hx => (tl_ne hx).trans (tl_ne hx).symm)) ?_
  refine v_aload_n K dX4_init_9 rfl ?_
  refine v_iconstN K 0 rfl dX4_init_10 ?_
  refine v_puti K pX4_15 sh_112 (show 112 < 113 by decide) dX4_init_11 ?_
  refine v_hq (CT_u2 (F := FH) (T := [(112, [nI 0, 0, 0])]) (T' := [(112, [nI 0, nI 0, 0])]) (L := [nI 0, 0, 0]) rfl (by decide) rfl (fun _ hx => (tl_ne hx).trans (tl_ne hx).symm)) ?_
  refine v_aload_n K dX4_init_14 rfl ?_
  refine v_bipushN K 40 rfl dX4_init_15 ?_
  refine v_newa K pl_113 sh_113 (CT_new (by decide) (hz 113 (by decide)).2) (Or.inl ⟨rfl, rfl⟩) (fun k => congrFun (CT_new (by decide) (hz 113 (by decide)).1) k) (W0.ct (by decide) (by decide) (by decide) (by decide +kernel) (by decide +kernel)) (by decide) rfl rfl wa_int ⟨by decide, by decide⟩ dX4_init_17 (fun ρ1 A1 => ?_)
  have B1 := AGR.t (AGR.r (n := 113) (ρ := ρ)) A1 (by decide)
  refine v_sw (n := 114) (c := 1) (z := 40) (g' := (CT 0 GL 112 114 [(112, [0, 0, 0])] g0)) (h' := (CT 0 FH 112 114 [(112, [nI 0, nI 0, 0])] h0)) (CT_grow (by decide) (by decide) (by decide) (fun a h => (hz a (Nat.le_trans (by decide) h)).1) (GLz (by decide +kernel))) (CT_grow (by decide) (by decide) (by decide) (fun a h => (hz a (Nat.le_trans (by decide) h)).2) (FHz (by decide +kernel))) ?_
  have cs2 := CT_set (z := 0) (F := GL) (b := 112) (hi := 114) (f := g0) (T := [(112, [0, 0, 0])]) (T' := [(112, [0, 0, 114])]) (L := [0, 0, 0]) (k := 2) (v := 113 + 1) rfl (by decide) rfl (fun _ hx => (tl_ne hx).trans (tl_ne hx).symm)
  refine v_putg (g' := (CT 0 GL 112 114 [(112, [0, 0, 114])] g0)) K pX4_18 (fun _ => rfl) (Or.inr ⟨_, rfl⟩) sh_112 (show 112 < 114 by decide) cs2.1 (fun j _ hj => cs2.2.1 j hj) (fun x _ hx => cs2.2.2 x hx) dX4_init_19 ?_
  exact v_vretA K dX4_init_22 B1 (CT_off (by decide) (by decide)) (CT_fin tN_eq (fun _ => rfl) (by decide +kernel) rfl) (W0.ct (by decide) (by decide) (by decide) (by decide +kernel) (by decide +kernel)) (FF_fin (by decide) (by decide) (by decide +kernel) rfl)

theorem cA_X4_init_114 {l : Launch} {g0 : Gm} {h0 : Mm} (A0 : MK 114 115 g0 h0) : ConA l yX4_init cX4_init 1 1 20 1 40 115 114 116 g0 h0 [.ref 114] (fun h2 => h2 = FF 114 116 h0) := by
  have W0 := A0.1
  have hz := A0.2.2.2.2
  refine ConA.ofV (own := "FoxRounds$Sheet") (nm := "<init>") rfl rfl (by decide) (by decide) ?_
  intro κ ρ hkl K
  subst hkl
  show V κ (QMA κ 115 114 116 ρ g0 (fun h2 => h2 = FF 114 116 h0) 1 40) 1 (115, ρ, g0, 0, 0) h0 0 [(0, .ref 114)] []
  refine v_sw (n := 115) (c := 0) (z := 0) (g' := (CT 0 GL 114 115 [(114, [0, 0, 0])] g0)) (h' := (CT 0 FH 114 115 [(114, [0, 0, 0])] h0)) (A0.s1 (by decide)) (A0.s2 (by decide)) ?_
  refine v_aload_n K dX4_init_0 rfl ?_
  refine v_objInit K oi_X4 oi_m oi_c ⟨by decide, by decide⟩ (by decide) dX4_init_1 ?_
  refine v_aload_n K dX4_init_4 rfl ?_
  refine v_iconstN K 0 rfl dX4_init_5 ?_
  refine v_puti K pX4_9 sh_114 (show 114 < 115 by decide) dX4_init_6 ?_
  refine v_hq (CT_u2 (F := FH) (T := [(114, [0, 0, 0])]) (T' := [(114, [nI 0, 0, 0])]) (L := [0, 0, 0]) rfl (by decide) rfl (fun _ hx => (tl_ne hx).trans (tl_ne hx).symm)) ?_
  refine v_aload_n K dX4_init_9 rfl ?_
  refine v_iconstN K 0 rfl dX4_init_10 ?_
  refine v_puti K pX4_15 sh_114 (show 114 < 115 by decide) dX4_init_11 ?_
  refine v_hq (CT_u2 (F := FH) (T := [(114, [nI 0, 0, 0])]) (T' := [(114, [nI 0, nI 0, 0])]) (L := [nI 0, 0, 0]) rfl (by decide) rfl (fun _ hx => (tl_ne hx).trans (tl_ne hx).symm)) ?_
  refine v_aload_n K dX4_init_14 rfl ?_
  refine v_bipushN K 40 rfl dX4_init_15 ?_
  refine v_newa K pl_115 sh_115 (CT_new (by decide) (hz 115 (by decide)).2) (Or.inl ⟨rfl, rfl⟩) (fun k => congrFun (CT_new (by decide) (hz 115 (by decide)).1) k) (W0.ct (by decide) (by decide) (by decide) (by decide +kernel) (by decide +kernel)) (by decide) rfl rfl wa_int ⟨by decide, by decide⟩ dX4_init_17 (fun ρ1 A1 => ?_)
  have B1 := AGR.t (AGR.r (n := 115) (ρ := ρ)) A1 (by decide)
  refine v_sw (n := 116) (c := 1) (z := 40) (g' := (CT 0 GL 114 116 [(114, [0, 0, 0])] g0)) (h' := (CT 0 FH 114 116 [(114, [nI 0, nI 0, 0])] h0)) (CT_grow (by decide) (by decide) (by decide) (fun a h => (hz a (Nat.le_trans (by decide) h)).1) (GLz (by decide +kernel))) (CT_grow (by decide) (by decide) (by decide) (fun a h => (hz a (Nat.le_trans (by decide) h)).2) (FHz (by decide +kernel))) ?_
  have cs2 := CT_set (z := 0) (F := GL) (b := 114) (hi := 116) (f := g0) (T := [(114, [0, 0, 0])]) (T' := [(114, [0, 0, 116])]) (L := [0, 0, 0]) (k := 2) (v := 115 + 1) rfl (by decide) rfl (fun _ hx => (tl_ne hx).trans (tl_ne hx).symm)
  refine v_putg (g' := (CT 0 GL 114 116 [(114, [0, 0, 116])] g0)) K pX4_18 (fun _ => rfl) (Or.inr ⟨_, rfl⟩) sh_114 (show 114 < 116 by decide) cs2.1 (fun j _ hj => cs2.2.1 j hj) (fun x _ hx => cs2.2.2 x hx) dX4_init_19 ?_
  exact v_vretA K dX4_init_22 B1 (CT_off (by decide) (by decide)) (CT_fin tN_eq (fun _ => rfl) (by decide +kernel) rfl) (W0.ct (by decide) (by decide) (by decide) (by decide +kernel) (by decide +kernel)) (FF_fin (by decide) (by decide) (by decide +kernel) rfl)

theorem cA_X4_init_116 {l : Launch} {g0 : Gm} {h0 : Mm} (A0 : MK 116 117 g0 h0) : ConA l yX4_init cX4_init 1 1 20 1 40 117 116 118 g0 h0 [.ref 116] (fun h2 => h2 = FF 116 118 h0) := by
  have W0 := A0.1
  have hz := A0.2.2.2.2
  refine ConA.ofV (own := "FoxRounds$Sheet") (nm := "<init>") rfl rfl (by decide) (by decide) ?_
  intro κ ρ hkl K
  subst hkl
  show V κ (QMA κ 117 116 118 ρ g0 (fun h2 => h2 = FF 116 118 h0) 1 40) 1 (117, ρ, g0, 0, 0) h0 0 [(0, .ref 116)] []
  refine v_sw (n := 117) (c := 0) (z := 0) (g' := (CT 0 GL 116 117 [(116, [0, 0, 0])] g0)) (h' := (CT 0 FH 116 117 [(116, [0, 0, 0])] h0)) (A0.s1 (by decide)) (A0.s2 (by decide)) ?_
  refine v_aload_n K dX4_init_0 rfl ?_
  refine v_objInit K oi_X4 oi_m oi_c ⟨by decide, by decide⟩ (by decide) dX4_init_1 ?_
  refine v_aload_n K dX4_init_4 rfl ?_
  refine v_iconstN K 0 rfl dX4_init_5 ?_
  refine v_puti K pX4_9 sh_116 (show 116 < 117 by decide) dX4_init_6 ?_
  refine v_hq (CT_u2 (F := FH) (T := [(116, [0, 0, 0])]) (T' := [(116, [nI 0, 0, 0])]) (L := [0, 0, 0]) rfl (by decide) rfl (fun _ hx => (tl_ne hx).trans (tl_ne hx).symm)) ?_
  refine v_aload_n K dX4_init_9 rfl ?_
  refine v_iconstN K 0 rfl dX4_init_10 ?_
  refine v_puti K pX4_15 sh_116 (show 116 < 117 by decide) dX4_init_11 ?_
  refine v_hq (CT_u2 (F := FH) (T := [(116, [nI 0, 0, 0])]) (T' := [(116, [nI 0, nI 0, 0])]) (L := [nI 0, 0, 0]) rfl (by decide) rfl (fun _ hx => (tl_ne hx).trans (tl_ne hx).symm)) ?_
  refine v_aload_n K dX4_init_14 rfl ?_
  refine v_bipushN K 40 rfl dX4_init_15 ?_
  refine v_newa K pl_117 sh_117 (CT_new (by decide) (hz 117 (by decide)).2) (Or.inl ⟨rfl, rfl⟩) (fun k => congrFun (CT_new (by decide) (hz 117 (by decide)).1) k) (W0.ct (by decide) (by decide) (by decide) (by decide +kernel) (by decide +kernel)) (by decide) rfl rfl wa_int ⟨by decide, by decide⟩ dX4_init_17 (fun ρ1 A1 => ?_)
  have B1 := AGR.t (AGR.r (n := 117) (ρ := ρ)) A1 (by decide)
  refine v_sw (n := 118) (c := 1) (z := 40) (g' := (CT 0 GL 116 118 [(116, [0, 0, 0])] g0)) (h' := (CT 0 FH 116 118 [(116, [nI 0, nI 0, 0])] h0)) (CT_grow (by decide) (by decide) (by decide) (fun a h => (hz a (Nat.le_trans (by decide) h)).1) (GLz (by decide +kernel))) (CT_grow (by decide) (by decide) (by decide) (fun a h => (hz a (Nat.le_trans (by decide) h)).2) (FHz (by decide +kernel))) ?_
  have cs2 := CT_set (z := 0) (F := GL) (b := 116) (hi := 118) (f := g0) (T := [(116, [0, 0, 0])]) (T' := [(116, [0, 0, 118])]) (L := [0, 0, 0]) (k := 2) (v := 117 + 1) rfl (by decide) rfl (fun _ hx => (tl_ne hx).trans (tl_ne hx).symm)
  refine v_putg (g' := (CT 0 GL 116 118 [(116, [0, 0, 118])] g0)) K pX4_18 (fun _ => rfl) (Or.inr ⟨_, rfl⟩) sh_116 (show 116 < 118 by decide) cs2.1 (fun j _ hj => cs2.2.1 j hj) (fun x _ hx => cs2.2.2 x hx) dX4_init_19 ?_
  exact v_vretA K dX4_init_22 B1 (CT_off (by decide) (by decide)) (CT_fin tN_eq (fun _ => rfl) (by decide +kernel) rfl) (W0.ct (by decide) (by decide) (by decide) (by decide +kernel) (by decide +kernel)) (FF_fin (by decide) (by decide) (by decide +kernel) rfl)

theorem cA_X9_init_0 {l : Launch} {g0 : Gm} {h0 : Mm} (A0 : MK 0 1 g0 h0) : ConA l yX9_init cX9_init 2 4 102 117 1589 1 0 118 g0 h0 [.ref 0] (fun h2 => h2 = FF 0 118 h0) := by
  have W0 := A0.1
  have hz := A0.2.2.2.2
  refine ConA.ofV (own := "FoxRounds") (nm := "<init>") rfl rfl (by decide) (by decide) ?_
  intro κ ρ hkl K
  subst hkl
  show V κ (QMA κ 1 0 118 ρ g0 (fun h2 => h2 = FF 0 118 h0) 117 1589) 2 (1, ρ, g0, 0, 0) h0 0 [(0, .ref 0)] []
  refine v_sw (n := 1) (c := 0) (z := 0) (g' := (CT 0 GL 0 1 [(0, [0, 0, 0, 0, 0, 0, 0, 0])] g0)) (h' := (CT 0 FH 0 1 [(0, [0, 0, 0, 0, 0, 0, 0, 0])] h0)) (A0.s1 (by decide)) (A0.s2 (by decide)) ?_
  refine v_aload_n K dX9_init_0 rfl ?_
  refine v_objInit K oi_X9 oi_m oi_c ⟨by decide, by decide⟩ (by decide) dX9_init_1 ?_
  refine v_aload_n K dX9_init_4 rfl ?_
  refine v_new K nwX9_7 pl_1 sh_1 (fun k => congrFun (CT_new (by decide) (hz 1 (by decide)).1) k) (fun k _ => congrFun (CT_new (by decide) (hz 1 (by decide)).2) k) (W0.ct (by decide) (by decide) (by decide) (by decide +kernel) (by decide +kernel)) rfl rfl ⟨by decide, by decide⟩ dX9_init_5 (fun ρ1 A1 => ?_)
  have B1 := AGR.t (AGR.r (n := 1) (ρ := ρ)) A1 (by decide)
  refine v_sw (n := 2) (c := 1) (z := 9) (g' := (CT 0 GL 0 2 [(1, [0, 0, 0, 0, 0, 0, 0, 0, 0]), (0, [0, 0, 0, 0, 0, 0, 0, 0])] g0)) (h' := (CT 0 FH 0 2 [(1, [0, 0, 0, 0, 0, 0, 0, 0, 0]), (0, [0, 0, 0, 0, 0, 0, 0, 0])] h0)) (CT_push (by decide) (hz 1 (by decide)).1 (zrN (by decide))) (CT_push (by decide) (hz 1 (by decide)).2 (zrI (by decide))) ?_
  refine v_dup K dX9_init_8 rfl ?_
  refine v_callI (As := []) K (cA_X8_init_1 (A0.sub (T := [(0, [0, 0, 0, 0, 0, 0, 0, 0])]) (S := [(0, [0, 0, 0, 0, 0, 0, 0, 0])]) (L := [0, 0, 0, 0, 0, 0, 0, 0, 0]) (M := [0, 0, 0, 0, 0, 0, 0, 0, 0]) (W0.ct (by decide) (by decide) (by decide) (by decide +kernel) (by decide +kernel)) (by decide) (by decide) (by decide) (by decide) (by decide) (by decide) (by decide))) lX9_9 rfl rfl ⟨by decide, by decide⟩ ⟨by decide, by decide⟩ (by decide) rfl rfl dX9_init_9 (fun ρ2 g2 h2 A2 x2 y2 w2 p2 => ?_) rfl
  have B2 := AGR.t B1 A2 (by decide)
  subst p2
  refine v_sw (n := 39) (c := 38) (z := 539) (g' := (CT 0 GL 0 39 [(0, [0, 0, 0, 0, 0, 0, 0, 0])] g0)) (h' := (CT 0 FH 0 39 [(0, [0, 0, 0, 0, 0, 0, 0, 0])] h0)) (CT_back x2 y2 (by decide) (by decide) (by decide)) (CT_back (fun a ha => FF_off ha) (fun a h1 h2 => FF_in h1 h2) (by decide) (by decide) (by decide)) ?_
  have cs3 := CT_set (z := 0) (F := GL) (b := 0) (hi := 39) (f := g0) (T := [(0, [0, 0, 0, 0, 0, 0, 0, 0])]) (T' := [(0, [2, 0, 0, 0, 0, 0, 0, 0])]) (L := [0, 0, 0, 0, 0, 0, 0, 0]) (k := 0) (v := 1 + 1) rfl (by decide) rfl (fun _ hx => (tl_ne hx).trans (tl_ne hx).symm)
  refine v_putg (g' := (CT 0 GL 0 39 [(0, [2, 0, 0, 0, 0, 0, 0, 0])] g0)) K pX9_10 (fun _ => rfl) (Or.inl ⟨_, rfl⟩) sh_0 (show 0 < 39 by decide) cs3.1 (fun j _ hj => cs3.2.1 j hj) (fun x _ hx => cs3.2.2 x hx) dX9_init_12 ?_
  refine v_aload_n K dX9_init_15 rfl ?_
  refine v_new K nwX9_7 pl_39 sh_39 (fun k => congrFun (CT_new (by decide) (hz 39 (by decide)).1) k) (fun k _ => congrFun (CT_new (by decide) (hz 39 (by decide)).2) k) (W0.ct (by decide) (by decide) (by decide) (by decide +kernel) (by decide +kernel)) rfl rfl ⟨by decide, by decide⟩ dX9_init_16 (fun ρ4 A4 => ?_)
  have B4 := AGR.t B2 A4 (by decide)
  refine v_sw (n := 40) (c := 39) (z := 548) (g' := (CT 0 GL 0 40 [(39, [0, 0, 0, 0, 0, 0, 0, 0, 0]), (0, [2, 0, 0, 0, 0, 0, 0, 0])] g0)) (h' := (CT 0 FH 0 40 [(39, [0, 0, 0, 0, 0, 0, 0, 0, 0]), (0, [0, 0, 0, 0, 0, 0, 0, 0])] h0)) (CT_push (by decide) (hz 39 (by decide)).1 (zrN (by decide))) (CT_push (by decide) (hz 39 (by decide)).2 (zrI (by decide))) ?_
  refine v_dup K dX9_init_19 rfl ?_
  refine v_callI (As := []) K (cA_X8_init_39 (A0.sub (T := [(0, [2, 0, 0, 0, 0, 0, 0, 0])]) (S := [(0, [0, 0, 0, 0, 0, 0, 0, 0])]) (L := [0, 0, 0, 0, 0, 0, 0, 0, 0]) (M := [0, 0, 0, 0, 0, 0, 0, 0, 0]) (W0.ct (by decide) (by decide) (by decide) (by decide +kernel) (by decide +kernel)) (by decide) (by decide) (by decide) (by decide) (by decide) (by decide) (by decide))) lX9_9 rfl rfl ⟨by decide, by decide⟩ ⟨by decide, by decide⟩ (by decide) rfl rfl dX9_init_20 (fun ρ5 g5 h5 A5 x5 y5 w5 p5 => ?_) rfl
  have B5 := AGR.t B4 A5 (by decide)
  subst p5
  refine v_sw (n := 77) (c := 76) (z := 1078) (g' := (CT 0 GL 0 77 [(0, [2, 0, 0, 0, 0, 0, 0, 0])] g0)) (h' := (CT 0 FH 0 77 [(0, [0, 0, 0, 0, 0, 0, 0, 0])] h0)) (CT_back x5 y5 (by decide) (by decide) (by decide)) (CT_back (fun a ha => FF_off ha) (fun a h1 h2 => FF_in h1 h2) (by decide) (by decide) (by decide)) ?_
  have cs6 := CT_set (z := 0) (F := GL) (b := 0) (hi := 77) (f := g0) (T := [(0, [2, 0, 0, 0, 0, 0, 0, 0])]) (T' := [(0, [2, 40, 0, 0, 0, 0, 0, 0])]) (L := [2, 0, 0, 0, 0, 0, 0, 0]) (k := 1) (v := 39 + 1) rfl (by decide) rfl (fun _ hx => (tl_ne hx).trans (tl_ne hx).symm)
  refine v_putg (g' := (CT 0 GL 0 77 [(0, [2, 40, 0, 0, 0, 0, 0, 0])] g0)) K pX9_16 (fun _ => rfl) (Or.inl ⟨_, rfl⟩) sh_0 (show 0 < 77 by decide) cs6.1 (fun j _ hj => cs6.2.1 j hj) (fun x _ hx => cs6.2.2 x hx) dX9_init_23 ?_
  refine v_aload_n K dX9_init_26 rfl ?_
  refine v_iconstN K 0 rfl dX9_init_27 ?_
  refine v_puti K pX9_19 sh_0 (show 0 < 77 by decide) dX9_init_28 ?_
  refine v_hq (CT_u2 (F := FH) (T := [(0, [0, 0, 0, 0, 0, 0, 0, 0])]) (T' := [(0, [0, 0, nI 0, 0, 0, 0, 0, 0])]) (L := [0, 0, 0, 0, 0, 0, 0, 0]) rfl (by decide) rfl (fun _ hx => (tl_ne hx).trans (tl_ne hx).symm)) ?_
  refine v_aload_n K dX9_init_31 rfl ?_
  refine v_new K nwX9_23 pl_77 sh_77 (fun k => congrFun (CT_new (by decide) (hz 77 (by decide)).1) k) (fun k _ => congrFun (CT_new (by decide) (hz 77 (by decide)).2) k) (W0.ct (by decide) (by decide) (by decide) (by decide +kernel) (by decide +kernel)) rfl rfl ⟨by decide, by decide⟩ dX9_init_32 (fun ρ7 A7 => ?_)
  have B7 := AGR.t B5 A7 (by decide)
  refine v_sw (n := 78) (c := 77) (z := 1086) (g' := (CT 0 GL 0 78 [(77, [0, 0, 0, 0, 0, 0, 0, 0]), (0, [2, 40, 0, 0, 0, 0, 0, 0])] g0)) (h' := (CT 0 FH 0 78 [(77, [0, 0, 0, 0, 0, 0, 0, 0]), (0, [0, 0, nI 0, 0, 0, 0, 0, 0])] h0)) (CT_push (by decide) (hz 77 (by decide)).1 (zrN (by decide))) (CT_push (by decide) (hz 77 (by decide)).2 (zrI (by decide))) ?_
  refine v_dup K dX9_init_35 rfl ?_
  refine v_aload_n K dX9_init_36 rfl ?_
  refine v_getr (q := 1) K fX9_10 sh_0 (show 0 < 78 by decide) ((congrFun (CT_at (z := 0) (F := GL) (b := 0) (hi := 78) (f := g0) (a := 0) (T := [(77, [0, 0, 0, 0, 0, 0, 0, 0]), (0, [2, 40, 0, 0, 0, 0, 0, 0])]) (L := [2, 40, 0, 0, 0, 0, 0, 0]) rfl) 0).trans rfl) dX9_init_37 ?_
  refine v_getr (q := 2) K fX9_25 sh_1 (show 1 < 78 by decide) ((congrFun (CT_in (z := 0) (F := GL) (b := 0) (hi := 78) (f := g0) (T := [(77, [0, 0, 0, 0, 0, 0, 0, 0]), (0, [2, 40, 0, 0, 0, 0, 0, 0])]) (a := 1) rfl ⟨by decide, by decide⟩) 0).trans gl_1_0) dX9_init_40 ?_
  refine v_aload_n K dX9_init_43 rfl ?_
  refine v_getr (q := 1) K fX9_10 sh_0 (show 0 < 78 by decide) ((congrFun (CT_at (z := 0) (F := GL) (b := 0) (hi := 78) (f := g0) (a := 0) (T := [(77, [0, 0, 0, 0, 0, 0, 0, 0]), (0, [2, 40, 0, 0, 0, 0, 0, 0])]) (L := [2, 40, 0, 0, 0, 0, 0, 0]) rfl) 0).trans rfl) dX9_init_44 ?_
  refine v_getr (q := 20) K fX9_29 sh_1 (show 1 < 78 by decide) ((congrFun (CT_in (z := 0) (F := GL) (b := 0) (hi := 78) (f := g0) (T := [(77, [0, 0, 0, 0, 0, 0, 0, 0]), (0, [2, 40, 0, 0, 0, 0, 0, 0])]) (a := 1) rfl ⟨by decide, by decide⟩) 1).trans gl_1_1) dX9_init_47 ?_
  refine v_callI (As := [.ref 2, .ref 20]) K (cA_X0_init_77 (A0.sub (T := [(0, [2, 40, 0, 0, 0, 0, 0, 0])]) (S := [(0, [0, 0, nI 0, 0, 0, 0, 0, 0])]) (L := [0, 0, 0, 0, 0, 0, 0, 0]) (M := [0, 0, 0, 0, 0, 0, 0, 0]) (W0.ct (by decide) (by decide) (by decide) (by decide +kernel) (by decide +kernel)) (by decide) (by decide) (by decide) (by decide) (by decide) (by decide) (by decide))) lX9_33 rfl rfl ⟨by decide, by decide⟩ ⟨by decide, by decide⟩ (by decide) rfl rfl dX9_init_50 (fun ρ8 g8 h8 A8 x8 y8 w8 p8 => ?_) rfl
  have B8 := AGR.t B7 A8 (by decide)
  subst p8
  refine v_sw (n := 99) (c := 98) (z := 1199) (g' := (CT 0 GL 0 99 [(0, [2, 40, 0, 0, 0, 0, 0, 0])] g0)) (h' := (CT 0 FH 0 99 [(0, [0, 0, nI 0, 0, 0, 0, 0, 0])] h0)) (CT_back x8 y8 (by decide) (by decide) (by decide)) (CT_back (fun a ha => FF_off ha) (fun a h1 h2 => FF_in h1 h2) (by decide) (by decide) (by decide)) ?_
  have cs9 := CT_set (z := 0) (F := GL) (b := 0) (hi := 99) (f := g0) (T := [(0, [2, 40, 0, 0, 0, 0, 0, 0])]) (T' := [(0, [2, 40, 0, 78, 0, 0, 0, 0])]) (L := [2, 40, 0, 0, 0, 0, 0, 0]) (k := 3) (v := 77 + 1) rfl (by decide) rfl (fun _ hx => (tl_ne hx).trans (tl_ne hx).symm)
  refine v_putg (g' := (CT 0 GL 0 99 [(0, [2, 40, 0, 78, 0, 0, 0, 0])] g0)) K pX9_36 (fun _ => rfl) (Or.inl ⟨_, rfl⟩) sh_0 (show 0 < 99 by decide) cs9.1 (fun j _ hj => cs9.2.1 j hj) (fun x _ hx => cs9.2.2 x hx) dX9_init_53 ?_
  refine v_aload_n K dX9_init_56 rfl ?_
  refine v_new K nwX9_40 pl_99 sh_99 (fun k => congrFun (CT_new (by decide) (hz 99 (by decide)).1) k) (fun k _ => congrFun (CT_new (by decide) (hz 99 (by decide)).2) k) (W0.ct (by decide) (by decide) (by decide) (by decide +kernel) (by decide +kernel)) rfl rfl ⟨by decide, by decide⟩ dX9_init_57 (fun ρ10 A10 => ?_)
  have B10 := AGR.t B8 A10 (by decide)
  refine v_sw (n := 100) (c := 99) (z := 1209) (g' := (CT 0 GL 0 100 [(99, [0, 0, 0, 0, 0, 0, 0, 0, 0, 0]), (0, [2, 40, 0, 78, 0, 0, 0, 0])] g0)) (h' := (CT 0 FH 0 100 [(99, [0, 0, 0, 0, 0, 0, 0, 0, 0, 0]), (0, [0, 0, nI 0, 0, 0, 0, 0, 0])] h0)) (CT_push (by decide) (hz 99 (by decide)).1 (zrN (by decide))) (CT_push (by decide) (hz 99 (by decide)).2 (zrI (by decide))) ?_
  refine v_dup K dX9_init_60 rfl ?_
  refine v_callIN (As := []) K (cA_X3_init_99 (A0.sub (T := [(0, [2, 40, 0, 78, 0, 0, 0, 0])]) (S := [(0, [0, 0, nI 0, 0, 0, 0, 0, 0])]) (L := [0, 0, 0, 0, 0, 0, 0, 0, 0, 0]) (M := [0, 0, 0, 0, 0, 0, 0, 0, 0, 0]) (W0.ct (by decide) (by decide) (by decide) (by decide +kernel) (by decide +kernel)) (by decide) (by decide) (by decide) (by decide) (by decide) (by decide) (by decide))) lX9_42 ⟨by decide +kernel, by decide +kernel, by decide +kernel⟩ rfl rfl ⟨by decide, by decide⟩ ⟨by decide, by decide⟩ (by decide) rfl rfl dX9_init_61 (fun ρ11 g11 h11 A11 x11 y11 w11 p11 => ?_) rfl
  have B11 := AGR.t B10 A11 (by decide)
  subst p11
  refine v_sw (n := 106) (c := 105) (z := 1362) (g' := (CT 0 GL 0 106 [(0, [2, 40, 0, 78, 0, 0, 0, 0])] g0)) (h' := (CT 0 FH 0 106 [(0, [0, 0, nI 0, 0, 0, 0, 0, 0])] h0)) (CT_back x11 y11 (by decide) (by decide) (by decide)) (CT_back (fun a ha => FF_off ha) (fun a h1 h2 => FF_in h1 h2) (by decide) (by decide) (by decide)) ?_
  have cs12 := CT_set (z := 0) (F := GL) (b := 0) (hi := 106) (f := g0) (T := [(0, [2, 40, 0, 78, 0, 0, 0, 0])]) (T' := [(0, [2, 40, 0, 78, 100, 0, 0, 0])]) (L := [2, 40, 0, 78, 0, 0, 0, 0]) (k := 4) (v := 99 + 1) rfl (by decide) rfl (fun _ hx => (tl_ne hx).trans (tl_ne hx).symm)
  refine v_putg (g' := (CT 0 GL 0 106 [(0, [2, 40, 0, 78, 100, 0, 0, 0])] g0)) K pX9_43 (fun _ => rfl) (Or.inl ⟨_, rfl⟩) sh_0 (show 0 < 106 by decide) cs12.1 (fun j _ hj => cs12.2.1 j hj) (fun x _ hx => cs12.2.2 x hx) dX9_init_64 ?_
  refine v_aload_n K dX9_init_67 rfl ?_
  refine v_new K nwX9_47 pl_106 sh_106 (fun k => congrFun (CT_new (by decide) (hz 106 (by decide)).1) k) (fun k _ => congrFun (CT_new (by decide) (hz 106 (by decide)).2) k) (W0.ct (by decide) (by decide) (by decide) (by decide +kernel) (by decide +kernel)) rfl rfl ⟨by decide, by decide⟩ dX9_init_68 (fun ρ13 A13 => ?_)
  have B13 := AGR.t B11 A13 (by decide)
  refine v_sw (n := 107) (c := 106) (z := 1367) (g' := (CT 0 GL 0 107 [(106, [0, 0, 0, 0, 0]), (0, [2, 40, 0, 78, 100, 0, 0, 0])] g0)) (h' := (CT 0 FH 0 107 [(106, [0, 0, 0, 0, 0]), (0, [0, 0, nI 0, 0, 0, 0, 0, 0])] h0)) (CT_push (by decide) (hz 106 (by decide)).1 (zrN (by decide))) (CT_push (by decide) (hz 106 (by decide)).2 (zrI (by decide))) ?_
  refine v_dup K dX9_init_71 rfl ?_
  refine v_callIN (As := []) K (cA_X7_init_106 (A0.sub (T := [(0, [2, 40, 0, 78, 100, 0, 0, 0])]) (S := [(0, [0, 0, nI 0, 0, 0, 0, 0, 0])]) (L := [0, 0, 0, 0, 0]) (M := [0, 0, 0, 0, 0]) (W0.ct (by decide) (by decide) (by decide) (by decide +kernel) (by decide +kernel)) (by decide) (by decide) (by decide) (by decide) (by decide) (by decide) (by decide))) lX9_49 ⟨by decide +kernel, by decide +kernel, by decide +kernel⟩ rfl rfl ⟨by decide, by decide⟩ ⟨by decide, by decide⟩ (by decide) rfl rfl dX9_init_72 (fun ρ14 g14 h14 A14 x14 y14 w14 p14 => ?_) rfl
  have B14 := AGR.t B13 A14 (by decide)
  subst p14
  refine v_sw (n := 108) (c := 107) (z := 1407) (g' := (CT 0 GL 0 108 [(0, [2, 40, 0, 78, 100, 0, 0, 0])] g0)) (h' := (CT 0 FH 0 108 [(0, [0, 0, nI 0, 0, 0, 0, 0, 0])] h0)) (CT_back x14 y14 (by decide) (by decide) (by decide)) (CT_back (fun a ha => FF_off ha) (fun a h1 h2 => FF_in h1 h2) (by decide) (by decide) (by decide)) ?_
  have cs15 := CT_set (z := 0) (F := GL) (b := 0) (hi := 108) (f := g0) (T := [(0, [2, 40, 0, 78, 100, 0, 0, 0])]) (T' := [(0, [2, 40, 0, 78, 100, 107, 0, 0])]) (L := [2, 40, 0, 78, 100, 0, 0, 0]) (k := 5) (v := 106 + 1) rfl (by decide) rfl (fun _ hx => (tl_ne hx).trans (tl_ne hx).symm)
  refine v_putg (g' := (CT 0 GL 0 108 [(0, [2, 40, 0, 78, 100, 107, 0, 0])] g0)) K pX9_50 (fun _ => rfl) (Or.inl ⟨_, rfl⟩) sh_0 (show 0 < 108 by decide) cs15.1 (fun j _ hj => cs15.2.1 j hj) (fun x _ hx => cs15.2.2 x hx) dX9_init_75 ?_
  refine v_aload_n K dX9_init_78 rfl ?_
  refine v_iconstN K 4 rfl dX9_init_79 ?_
  refine v_newq K pl_108 sh_108 (CT_new (by decide) (hz 108 (by decide)).1) (W0.ct (by decide) (by decide) (by decide) (by decide +kernel) (by decide +kernel)) (by decide) rfl rfl clX9_54 ⟨by decide, by decide⟩ dX9_init_80 (fun ρ16 A16 => ?_)
  have B16 := AGR.t B14 A16 (by decide)
  refine v_sw (n := 109) (c := 108) (z := 1411) (g' := (CT 0 GL 0 109 [(108, [0, 0, 0, 0]), (0, [2, 40, 0, 78, 100, 107, 0, 0])] g0)) (h' := (CT 0 FH 0 109 [(0, [0, 0, nI 0, 0, 0, 0, 0, 0])] h0)) (CT_push (by decide) (hz 108 (by decide)).1 (zrN (by decide))) (CT_grow (by decide) (by decide) (by decide) (fun a h => (hz a (Nat.le_trans (by decide) h)).2) (FHz (by decide +kernel))) ?_
  have cs17 := CT_set (z := 0) (F := GL) (b := 0) (hi := 109) (f := g0) (T := [(108, [0, 0, 0, 0]), (0, [2, 40, 0, 78, 100, 107, 0, 0])]) (T' := [(0, [2, 40, 0, 78, 100, 107, 109, 0]), (108, [0, 0, 0, 0]), (0, [2, 40, 0, 78, 100, 107, 0, 0])]) (L := [2, 40, 0, 78, 100, 107, 0, 0]) (k := 6) (v := 108 + 1) rfl (by decide) rfl (fun _ hx => tl_ne hx)
  refine v_putg (g' := (CT 0 GL 0 109 [(0, [2, 40, 0, 78, 100, 107, 109, 0]), (108, [0, 0, 0, 0]), (0, [2, 40, 0, 78, 100, 107, 0, 0])] g0)) K pX9_56 (fun _ => rfl) (Or.inr ⟨_, rfl⟩) sh_0 (show 0 < 109 by decide) cs17.1 (fun j _ hj => cs17.2.1 j hj) (fun x _ hx => cs17.2.2 x hx) dX9_init_83 ?_
  refine v_aload_n K dX9_init_86 rfl ?_
  refine v_bipushN K 6 rfl dX9_init_87 ?_
  refine v_newa K pl_109 sh_109 (CT_new (by decide) (hz 109 (by decide)).2) (Or.inl ⟨rfl, rfl⟩) (fun k => congrFun (CT_new (by decide) (hz 109 (by decide)).1) k) (W0.ct (by decide) (by decide) (by decide) (by decide +kernel) (by decide +kernel)) (by decide) rfl rfl wa_int ⟨by decide, by decide⟩ dX9_init_89 (fun ρ18 A18 => ?_)
  have B18 := AGR.t B16 A18 (by decide)
  refine v_sw (n := 110) (c := 109) (z := 1417) (g' := (CT 0 GL 0 110 [(0, [2, 40, 0, 78, 100, 107, 109, 0]), (108, [0, 0, 0, 0]), (0, [2, 40, 0, 78, 100, 107, 0, 0])] g0)) (h' := (CT 0 FH 0 110 [(0, [0, 0, nI 0, 0, 0, 0, 0, 0])] h0)) (CT_grow (by decide) (by decide) (by decide) (fun a h => (hz a (Nat.le_trans (by decide) h)).1) (GLz (by decide +kernel))) (CT_grow (by decide) (by decide) (by decide) (fun a h => (hz a (Nat.le_trans (by decide) h)).2) (FHz (by decide +kernel))) ?_
  have cs19 := CT_set (z := 0) (F := GL) (b := 0) (hi := 110) (f := g0) (T := [(0, [2, 40, 0, 78, 100, 107, 109, 0]), (108, [0, 0, 0, 0]), (0, [2, 40, 0, 78, 100, 107, 0, 0])]) (T' := [(0, [2, 40, 0, 78, 100, 107, 109, 110]), (108, [0, 0, 0, 0]), (0, [2, 40, 0, 78, 100, 107, 0, 0])]) (L := [2, 40, 0, 78, 100, 107, 109, 0]) (k := 7) (v := 109 + 1) rfl (by decide) rfl (fun _ hx => (tl_ne hx).trans (tl_ne hx).symm)
  refine v_putg (g' := (CT 0 GL 0 110 [(0, [2, 40, 0, 78, 100, 107, 109, 110]), (108, [0, 0, 0, 0]), (0, [2, 40, 0, 78, 100, 107, 0, 0])] g0)) K pX9_60 (fun _ => rfl) (Or.inr ⟨_, rfl⟩) sh_0 (show 0 < 110 by decide) cs19.1 (fun j _ hj => cs19.2.1 j hj) (fun x _ hx => cs19.2.2 x hx) dX9_init_91 ?_
  refine v_iconstN K 0 rfl dX9_init_94 ?_
  refine v_istore_n (lv2 := [(1, .int (nI 0)), (0, .ref 0)]) K dX9_init_95 (by decide) rfl ?_
  refine v_iload_n K dX9_init_96 rfl ?_
  refine v_iconstN K 4 rfl dX9_init_97 ?_
  refine v_icmpN_ge (tgt := 120) K (by decide) (by decide) dX9_init_98 rfl (fun c => absurd c (by decide)) (fun _ => ?_)
  refine v_aload_n K dX9_init_101 rfl ?_
  refine v_getr (q := 108) K fX9_56 sh_0 (show 0 < 110 by decide) ((congrFun (CT_at (z := 0) (F := GL) (b := 0) (hi := 110) (f := g0) (a := 0) (T := [(0, [2, 40, 0, 78, 100, 107, 109, 110]), (108, [0, 0, 0, 0]), (0, [2, 40, 0, 78, 100, 107, 0, 0])]) (L := [2, 40, 0, 78, 100, 107, 109, 110]) rfl) 6).trans rfl) dX9_init_102 ?_
  refine v_iload_n K dX9_init_105 rfl ?_
  refine v_new K nwX9_54 pl_110 sh_110 (fun k => congrFun (CT_new (by decide) (hz 110 (by decide)).1) k) (fun k _ => congrFun (CT_new (by decide) (hz 110 (by decide)).2) k) (W0.ct (by decide) (by decide) (by decide) (by decide +kernel) (by decide +kernel)) rfl rfl ⟨by decide, by decide⟩ dX9_init_106 (fun ρ20 A20 => ?_)
  have B20 := AGR.t B18 A20 (by decide)
  refine v_sw (n := 111) (c := 110) (z := 1420) (g' := (CT 0 GL 0 111 [(110, [0, 0, 0]), (0, [2, 40, 0, 78, 100, 107, 109, 110]), (108, [0, 0, 0, 0]), (0, [2, 40, 0, 78, 100, 107, 0, 0])] g0)) (h' := (CT 0 FH 0 111 [(110, [0, 0, 0]), (0, [0, 0, nI 0, 0, 0, 0, 0, 0])] h0)) (CT_push (by decide) (hz 110 (by decide)).1 (zrN (by decide))) (CT_push (by decide) (hz 110 (by decide)).2 (zrI (by decide))) ?_
  refine v_dup K dX9_init_109 rfl ?_
  refine v_callIN (As := []) K (cA_X4_init_110 (A0.sub (T := [(0, [2, 40, 0, 78, 100, 107, 109, 110]), (108, [0, 0, 0, 0]), (0, [2, 40, 0, 78, 100, 107, 0, 0])]) (S := [(0, [0, 0, nI 0, 0, 0, 0, 0, 0])]) (L := [0, 0, 0]) (M := [0, 0, 0]) (W0.ct (by decide) (by decide) (by decide) (by decide +kernel) (by decide +kernel)) (by decide) (by decide) (by decide) (by decide) (by decide) (by decide) (by decide))) lX9_64 ⟨by decide +kernel, by decide +kernel, by decide +kernel⟩ rfl rfl ⟨by decide, by decide⟩ ⟨by decide, by decide⟩ (by decide) rfl rfl dX9_init_110 (fun ρ21 g21 h21 A21 x21 y21 w21 p21 => ?_) rfl
  have B21 := AGR.t B20 A21 (by decide)
  subst p21
  refine v_sw (n := 112) (c := 111) (z := 1460) (g' := (CT 0 GL 0 112 [(0, [2, 40, 0, 78, 100, 107, 109, 110]), (108, [0, 0, 0, 0]), (0, [2, 40, 0, 78, 100, 107, 0, 0])] g0)) (h' := (CT 0 FH 0 112 [(0, [0, 0, nI 0, 0, 0, 0, 0, 0])] h0)) (CT_back x21 y21 (by decide) (by decide) (by decide)) (CT_back (fun a ha => FF_off ha) (fun a h1 h2 => FF_in h1 h2) (by decide) (by decide) (by decide)) ?_
  have cs22 := CT_set (z := 0) (F := GL) (b := 0) (hi := 112) (f := g0) (T := [(0, [2, 40, 0, 78, 100, 107, 109, 110]), (108, [0, 0, 0, 0]), (0, [2, 40, 0, 78, 100, 107, 0, 0])]) (T' := [(108, [111, 0, 0, 0]), (0, [2, 40, 0, 78, 100, 107, 109, 110]), (108, [0, 0, 0, 0]), (0, [2, 40, 0, 78, 100, 107, 0, 0])]) (L := [0, 0, 0, 0]) (k := 0) (v := 110 + 1) rfl (by decide) rfl (fun _ hx => tl_ne hx)
  refine v_aastq (g' := (CT 0 GL 0 112 [(108, [111, 0, 0, 0]), (0, [2, 40, 0, 78, 100, 107, 109, 110]), (108, [0, 0, 0, 0]), (0, [2, 40, 0, 78, 100, 107, 0, 0])] g0)) K sh_108 (by decide) sh_110 (by decide) rfl (by decide) (by decide) cs22.1 (fun j hj => cs22.2.1 j hj) (fun x _ hx => cs22.2.2 x hx) dX9_init_113 ?_
  refine v_iincN (lv2 := [(1, .int (nI 1)), (0, .ref 0)]) K 1 dX9_init_114 rfl rfl (by decide) rfl ?_
  refine v_goto (tgt := 96) K dX9_init_117 rfl ?_
  refine v_iload_n K dX9_init_96 rfl ?_
  refine v_iconstN K 4 rfl dX9_init_97 ?_
  refine v_icmpN_ge (tgt := 120) K (by decide) (by decide) dX9_init_98 rfl (fun c => absurd c (by decide)) (fun _ => ?_)
  refine v_aload_n K dX9_init_101 rfl ?_
  refine v_getr (q := 108) K fX9_56 sh_0 (show 0 < 112 by decide) ((congrFun (CT_at (z := 0) (F := GL) (b := 0) (hi := 112) (f := g0) (a := 0) (T := [(108, [111, 0, 0, 0]), (0, [2, 40, 0, 78, 100, 107, 109, 110]), (108, [0, 0, 0, 0]), (0, [2, 40, 0, 78, 100, 107, 0, 0])]) (L := [2, 40, 0, 78, 100, 107, 109, 110]) rfl) 6).trans rfl) dX9_init_102 ?_
  refine v_iload_n K dX9_init_105 rfl ?_
  refine v_new K nwX9_54 pl_112 sh_112 (fun k => congrFun (CT_new (by decide) (hz 112 (by decide)).1) k) (fun k _ => congrFun (CT_new (by decide) (hz 112 (by decide)).2) k) (W0.ct (by decide) (by decide) (by decide) (by decide +kernel) (by decide +kernel)) rfl rfl ⟨by decide, by decide⟩ dX9_init_106 (fun ρ23 A23 => ?_)
  have B23 := AGR.t B21 A23 (by decide)
  refine v_sw (n := 113) (c := 112) (z := 1463) (g' := (CT 0 GL 0 113 [(112, [0, 0, 0]), (108, [111, 0, 0, 0]), (0, [2, 40, 0, 78, 100, 107, 109, 110]), (108, [0, 0, 0, 0]), (0, [2, 40, 0, 78, 100, 107, 0, 0])] g0)) (h' := (CT 0 FH 0 113 [(112, [0, 0, 0]), (0, [0, 0, nI 0, 0, 0, 0, 0, 0])] h0)) (CT_push (by decide) (hz 112 (by decide)).1 (zrN (by decide))) (CT_push (by decide) (hz 112 (by decide)).2 (zrI (by decide))) ?_
  refine v_dup K dX9_init_109 rfl ?_
  refine v_callIN (As := []) K (cA_X4_init_112 (A0.sub (T := [(108, [111, 0, 0, 0]), (0, [2, 40, 0, 78, 100, 107, 109, 110]), (108, [0, 0, 0, 0]), (0, [2, 40, 0, 78, 100, 107, 0, 0])]) (S := [(0, [0, 0, nI 0, 0, 0, 0, 0, 0])]) (L := [0, 0, 0]) (M := [0, 0, 0]) (W0.ct (by decide) (by decide) (by decide) (by decide +kernel) (by decide +kernel)) (by decide) (by decide) (by decide) (by decide) (by decide) (by decide) (by decide))) lX9_64 ⟨by decide +kernel, by decide +kernel, by decide +kernel⟩ rfl rfl ⟨by decide, by decide⟩ ⟨by decide, by decide⟩ (by decide) rfl rfl dX9_init_110 (fun ρ24 g24 h24 A24 x24 y24 w24 p24 => ?_) rfl
  have B24 := AGR.t B23 A24 (by decide)
  subst p24
  refine v_sw (n := 114) (c := 113) (z := 1503) (g' := (CT 0 GL 0 114 [(108, [111, 0, 0, 0]), (0, [2, 40, 0, 78, 100, 107, 109, 110]), (108, [0, 0, 0, 0]), (0, [2, 40, 0, 78, 100, 107, 0, 0])] g0)) (h' := (CT 0 FH 0 114 [(0, [0, 0, nI 0, 0, 0, 0, 0, 0])] h0)) (CT_back x24 y24 (by decide) (by decide) (by decide)) (CT_back (fun a ha => FF_off ha) (fun a h1 h2 => FF_in h1 h2) (by decide) (by decide) (by decide)) ?_
  have cs25 := CT_set (z := 0) (F := GL) (b := 0) (hi := 114) (f := g0) (T := [(108, [111, 0, 0, 0]), (0, [2, 40, 0, 78, 100, 107, 109, 110]), (108, [0, 0, 0, 0]), (0, [2, 40, 0, 78, 100, 107, 0, 0])]) (T' := [(108, [111, 113, 0, 0]), (0, [2, 40, 0, 78, 100, 107, 109, 110]), (108, [0, 0, 0, 0]), (0, [2, 40, 0, 78, 100, 107, 0, 0])]) (L := [111, 0, 0, 0]) (k := 1) (v := 112 + 1) rfl (by decide) rfl (fun _ hx => (tl_ne hx).trans (tl_ne hx).symm)
  refine v_aastq (g' := (CT 0 GL 0 114 [(108, [111, 113, 0, 0]), (0, [2, 40, 0, 78, 100, 107, 109, 110]), (108, [0, 0, 0, 0]), (0, [2, 40, 0, 78, 100, 107, 0, 0])] g0)) K sh_108 (by decide) sh_112 (by decide) rfl (by decide) (by decide) cs25.1 (fun j hj => cs25.2.1 j hj) (fun x _ hx => cs25.2.2 x hx) dX9_init_113 ?_
  refine v_iincN (lv2 := [(1, .int (nI 2)), (0, .ref 0)]) K 1 dX9_init_114 rfl rfl (by decide) rfl ?_
  refine v_goto (tgt := 96) K dX9_init_117 rfl ?_
  refine v_iload_n K dX9_init_96 rfl ?_
  refine v_iconstN K 4 rfl dX9_init_97 ?_
  refine v_icmpN_ge (tgt := 120) K (by decide) (by decide) dX9_init_98 rfl (fun c => absurd c (by decide)) (fun _ => ?_)
  refine v_aload_n K dX9_init_101 rfl ?_
  refine v_getr (q := 108) K fX9_56 sh_0 (show 0 < 114 by decide) ((congrFun (CT_at (z := 0) (F := GL) (b := 0) (hi := 114) (f := g0) (a := 0) (T := [(108, [111, 113, 0, 0]), (0, [2, 40, 0, 78, 100, 107, 109, 110]), (108, [0, 0, 0, 0]), (0, [2, 40, 0, 78, 100, 107, 0, 0])]) (L := [2, 40, 0, 78, 100, 107, 109, 110]) rfl) 6).trans rfl) dX9_init_102 ?_
  refine v_iload_n K dX9_init_105 rfl ?_
  refine v_new K nwX9_54 pl_114 sh_114 (fun k => congrFun (CT_new (by decide) (hz 114 (by decide)).1) k) (fun k _ => congrFun (CT_new (by decide) (hz 114 (by decide)).2) k) (W0.ct (by decide) (by decide) (by decide) (by decide +kernel) (by decide +kernel)) rfl rfl ⟨by decide, by decide⟩ dX9_init_106 (fun ρ26 A26 => ?_)
  have B26 := AGR.t B24 A26 (by decide)
  refine v_sw (n := 115) (c := 114) (z := 1506) (g' := (CT 0 GL 0 115 [(114, [0, 0, 0]), (108, [111, 113, 0, 0]), (0, [2, 40, 0, 78, 100, 107, 109, 110]), (108, [0, 0, 0, 0]), (0, [2, 40, 0, 78, 100, 107, 0, 0])] g0)) (h' := (CT 0 FH 0 115 [(114, [0, 0, 0]), (0, [0, 0, nI 0, 0, 0, 0, 0, 0])] h0)) (CT_push (by decide) (hz 114 (by decide)).1 (zrN (by decide))) (CT_push (by decide) (hz 114 (by decide)).2 (zrI (by decide))) ?_
  refine v_dup K dX9_init_109 rfl ?_
  refine v_callIN (As := []) K (cA_X4_init_114 (A0.sub (T := [(108, [111, 113, 0, 0]), (0, [2, 40, 0, 78, 100, 107, 109, 110]), (108, [0, 0, 0, 0]), (0, [2, 40, 0, 78, 100, 107, 0, 0])]) (S := [(0, [0, 0, nI 0, 0, 0, 0, 0, 0])]) (L := [0, 0, 0]) (M := [0, 0, 0]) (W0.ct (by decide) (by decide) (by decide) (by decide +kernel) (by decide +kernel)) (by decide) (by decide) (by decide) (by decide) (by decide) (by decide) (by decide))) lX9_64 ⟨by decide +kernel, by decide +kernel, by decide +kernel⟩ rfl rfl ⟨by decide, by decide⟩ ⟨by decide, by decide⟩ (by decide) rfl rfl dX9_init_110 (fun ρ27 g27 h27 A27 x27 y27 w27 p27 => ?_) rfl
  have B27 := AGR.t B26 A27 (by decide)
  subst p27
  refine v_sw (n := 116) (c := 115) (z := 1546) (g' := (CT 0 GL 0 116 [(108, [111, 113, 0, 0]), (0, [2, 40, 0, 78, 100, 107, 109, 110]), (108, [0, 0, 0, 0]), (0, [2, 40, 0, 78, 100, 107, 0, 0])] g0)) (h' := (CT 0 FH 0 116 [(0, [0, 0, nI 0, 0, 0, 0, 0, 0])] h0)) (CT_back x27 y27 (by decide) (by decide) (by decide)) (CT_back (fun a ha => FF_off ha) (fun a h1 h2 => FF_in h1 h2) (by decide) (by decide) (by decide)) ?_
  have cs28 := CT_set (z := 0) (F := GL) (b := 0) (hi := 116) (f := g0) (T := [(108, [111, 113, 0, 0]), (0, [2, 40, 0, 78, 100, 107, 109, 110]), (108, [0, 0, 0, 0]), (0, [2, 40, 0, 78, 100, 107, 0, 0])]) (T' := [(108, [111, 113, 115, 0]), (0, [2, 40, 0, 78, 100, 107, 109, 110]), (108, [0, 0, 0, 0]), (0, [2, 40, 0, 78, 100, 107, 0, 0])]) (L := [111, 113, 0, 0]) (k := 2) (v := 114 + 1) rfl (by decide) rfl (fun _ hx => (tl_ne hx).trans (tl_ne hx).symm)
  refine v_aastq (g' := (CT 0 GL 0 116 [(108, [111, 113, 115, 0]), (0, [2, 40, 0, 78, 100, 107, 109, 110]), (108, [0, 0, 0, 0]), (0, [2, 40, 0, 78, 100, 107, 0, 0])] g0)) K sh_108 (by decide) sh_114 (by decide) rfl (by decide) (by decide) cs28.1 (fun j hj => cs28.2.1 j hj) (fun x _ hx => cs28.2.2 x hx) dX9_init_113 ?_
  refine v_iincN (lv2 := [(1, .int (nI 3)), (0, .ref 0)]) K 1 dX9_init_114 rfl rfl (by decide) rfl ?_
  refine v_goto (tgt := 96) K dX9_init_117 rfl ?_
  refine v_iload_n K dX9_init_96 rfl ?_
  refine v_iconstN K 4 rfl dX9_init_97 ?_
  refine v_icmpN_ge (tgt := 120) K (by decide) (by decide) dX9_init_98 rfl (fun c => absurd c (by decide)) (fun _ => ?_)
  refine v_aload_n K dX9_init_101 rfl ?_
  refine v_getr (q := 108) K fX9_56 sh_0 (show 0 < 116 by decide) ((congrFun (CT_at (z := 0) (F := GL) (b := 0) (hi := 116) (f := g0) (a := 0) (T := [(108, [111, 113, 115, 0]), (0, [2, 40, 0, 78, 100, 107, 109, 110]), (108, [0, 0, 0, 0]), (0, [2, 40, 0, 78, 100, 107, 0, 0])]) (L := [2, 40, 0, 78, 100, 107, 109, 110]) rfl) 6).trans rfl) dX9_init_102 ?_
  refine v_iload_n K dX9_init_105 rfl ?_
  refine v_new K nwX9_54 pl_116 sh_116 (fun k => congrFun (CT_new (by decide) (hz 116 (by decide)).1) k) (fun k _ => congrFun (CT_new (by decide) (hz 116 (by decide)).2) k) (W0.ct (by decide) (by decide) (by decide) (by decide +kernel) (by decide +kernel)) rfl rfl ⟨by decide, by decide⟩ dX9_init_106 (fun ρ29 A29 => ?_)
  have B29 := AGR.t B27 A29 (by decide)
  refine v_sw (n := 117) (c := 116) (z := 1549) (g' := (CT 0 GL 0 117 [(116, [0, 0, 0]), (108, [111, 113, 115, 0]), (0, [2, 40, 0, 78, 100, 107, 109, 110]), (108, [0, 0, 0, 0]), (0, [2, 40, 0, 78, 100, 107, 0, 0])] g0)) (h' := (CT 0 FH 0 117 [(116, [0, 0, 0]), (0, [0, 0, nI 0, 0, 0, 0, 0, 0])] h0)) (CT_push (by decide) (hz 116 (by decide)).1 (zrN (by decide))) (CT_push (by decide) (hz 116 (by decide)).2 (zrI (by decide))) ?_
  refine v_dup K dX9_init_109 rfl ?_
  refine v_callIN (As := []) K (cA_X4_init_116 (A0.sub (T := [(108, [111, 113, 115, 0]), (0, [2, 40, 0, 78, 100, 107, 109, 110]), (108, [0, 0, 0, 0]), (0, [2, 40, 0, 78, 100, 107, 0, 0])]) (S := [(0, [0, 0, nI 0, 0, 0, 0, 0, 0])]) (L := [0, 0, 0]) (M := [0, 0, 0]) (W0.ct (by decide) (by decide) (by decide) (by decide +kernel) (by decide +kernel)) (by decide) (by decide) (by decide) (by decide) (by decide) (by decide) (by decide))) lX9_64 ⟨by decide +kernel, by decide +kernel, by decide +kernel⟩ rfl rfl ⟨by decide, by decide⟩ ⟨by decide, by decide⟩ (by decide) rfl rfl dX9_init_110 (fun ρ30 g30 h30 A30 x30 y30 w30 p30 => ?_) rfl
  have B30 := AGR.t B29 A30 (by decide)
  subst p30
  refine v_sw (n := 118) (c := 117) (z := 1589) (g' := (CT 0 GL 0 118 [(108, [111, 113, 115, 0]), (0, [2, 40, 0, 78, 100, 107, 109, 110]), (108, [0, 0, 0, 0]), (0, [2, 40, 0, 78, 100, 107, 0, 0])] g0)) (h' := (CT 0 FH 0 118 [(0, [0, 0, nI 0, 0, 0, 0, 0, 0])] h0)) (CT_back x30 y30 (by decide) (by decide) (by decide)) (CT_back (fun a ha => FF_off ha) (fun a h1 h2 => FF_in h1 h2) (by decide) (by decide) (by decide)) ?_
  have cs31 := CT_set (z := 0) (F := GL) (b := 0) (hi := 118) (f := g0) (T := [(108, [111, 113, 115, 0]), (0, [2, 40, 0, 78, 100, 107, 109, 110]), (108, [0, 0, 0, 0]), (0, [2, 40, 0, 78, 100, 107, 0, 0])]) (T' := [(108, [111, 113, 115, 117]), (0, [2, 40, 0, 78, 100, 107, 109, 110]), (108, [0, 0, 0, 0]), (0, [2, 40, 0, 78, 100, 107, 0, 0])]) (L := [111, 113, 115, 0]) (k := 3) (v := 116 + 1) rfl (by decide) rfl (fun _ hx => (tl_ne hx).trans (tl_ne hx).symm)
  refine v_aastq (g' := (CT 0 GL 0 118 [(108, [111, 113, 115, 117]), (0, [2, 40, 0, 78, 100, 107, 109, 110]), (108, [0, 0, 0, 0]), (0, [2, 40, 0, 78, 100, 107, 0, 0])] g0)) K sh_108 (by decide) sh_116 (by decide) rfl (by decide) (by decide) cs31.1 (fun j hj => cs31.2.1 j hj) (fun x _ hx => cs31.2.2 x hx) dX9_init_113 ?_
  refine v_iincN (lv2 := [(1, .int (nI 4)), (0, .ref 0)]) K 1 dX9_init_114 rfl rfl (by decide) rfl ?_
  refine v_goto (tgt := 96) K dX9_init_117 rfl ?_
  refine v_iload_n K dX9_init_96 rfl ?_
  refine v_iconstN K 4 rfl dX9_init_97 ?_
  refine v_icmpN_ge (tgt := 120) K (by decide) (by decide) dX9_init_98 rfl (fun _ => ?_) (fun c => absurd c (by decide))
  exact v_vretA K dX9_init_120 B30 (CT_off (by decide) (by decide)) (CT_fin tN_eq (fun _ => rfl) (by decide +kernel) rfl) (W0.ct (by decide) (by decide) (by decide) (by decide +kernel) (by decide +kernel)) (FF_fin (by decide) (by decide) (by decide +kernel) rfl)

theorem cA_X10_init_118 {l : Launch} {g0 : Gm} {h0 : Mm} (A0 : MK 118 119 g0 h0) : ConA l yX10_init cX10_init 2 1 20 13 1296 119 118 132 g0 h0 [.ref 118] (fun h2 => h2 = FF 118 132 h0) := by
  have W0 := A0.1
  have hz := A0.2.2.2.2
  refine ConA.ofV (own := "FoxRoundsModel") (nm := "<init>") rfl rfl (by decide) (by decide) ?_
  intro κ ρ hkl K
  subst hkl
  show V κ (QMA κ 119 118 132 ρ g0 (fun h2 => h2 = FF 118 132 h0) 13 1296) 2 (119, ρ, g0, 0, 0) h0 0 [(0, .ref 118)] []
  refine v_sw (n := 119) (c := 0) (z := 0) (g' := (CT 0 GL 118 119 [(118, [0, 0, 0, 0, 0, 0, 0, 0, 0, 0, 0, 0, 0, 0, 0, 0, 0, 0, 0, 0, 0, 0])] g0)) (h' := (CT 0 FH 118 119 [(118, [0, 0, 0, 0, 0, 0, 0, 0, 0, 0, 0, 0, 0, 0, 0, 0, 0, 0, 0, 0, 0, 0])] h0)) (A0.s1 (by decide)) (A0.s2 (by decide)) ?_
  refine v_aload_n K dX10_init_0 rfl ?_
  refine v_objInit K oi_X10 oi_m oi_c ⟨by decide, by decide⟩ (by decide) dX10_init_1 ?_
  refine v_aload_n K dX10_init_4 rfl ?_
  refine v_sipushN K 340 rfl dX10_init_5 ?_
  refine v_newa K pl_119 sh_119 (CT_new (by decide) (hz 119 (by decide)).2) (Or.inl ⟨rfl, rfl⟩) (fun k => congrFun (CT_new (by decide) (hz 119 (by decide)).1) k) (W0.ct (by decide) (by decide) (by decide) (by decide +kernel) (by decide +kernel)) (by decide) rfl rfl wa_int ⟨by decide, by decide⟩ dX10_init_8 (fun ρ1 A1 => ?_)
  have B1 := AGR.t (AGR.r (n := 119) (ρ := ρ)) A1 (by decide)
  refine v_sw (n := 120) (c := 1) (z := 340) (g' := (CT 0 GL 118 120 [(118, [0, 0, 0, 0, 0, 0, 0, 0, 0, 0, 0, 0, 0, 0, 0, 0, 0, 0, 0, 0, 0, 0])] g0)) (h' := (CT 0 FH 118 120 [(119, [0, 0, 0, 0, 0, 0, 0, 0, 0, 0, 0, 0, 0, 0, 0, 0, 0, 0, 0, 0, 0, 0, 0, 0, 0, 0, 0, 0]), (118, [0, 0, 0, 0, 0, 0, 0, 0, 0, 0, 0, 0, 0, 0, 0, 0, 0, 0, 0, 0, 0, 0])] h0)) (CT_grow (by decide) (by decide) (by decide) (fun a h => (hz a (Nat.le_trans (by decide) h)).1) (GLz (by decide +kernel))) (CT_push (by decide) (hz 119 (by decide)).2 (zrI (by decide))) ?_
  have cs2 := CT_set (z := 0) (F := GL) (b := 118) (hi := 120) (f := g0) (T := [(118, [0, 0, 0, 0, 0, 0, 0, 0, 0, 0, 0, 0, 0, 0, 0, 0, 0, 0, 0, 0, 0, 0])]) (T' := [(118, [120, 0, 0, 0, 0, 0, 0, 0, 0, 0, 0, 0, 0, 0, 0, 0, 0, 0, 0, 0, 0, 0])]) (L := [0, 0, 0, 0, 0, 0, 0, 0, 0, 0, 0, 0, 0, 0, 0, 0, 0, 0, 0, 0, 0, 0]) (k := 0) (v := 119 + 1) rfl (by decide) rfl (fun _ hx => (tl_ne hx).trans (tl_ne hx).symm)
  refine v_putg (g' := (CT 0 GL 118 120 [(118, [120, 0, 0, 0, 0, 0, 0, 0, 0, 0, 0, 0, 0, 0, 0, 0, 0, 0, 0, 0, 0, 0])] g0)) K pX10_7 (fun _ => rfl) (Or.inr ⟨_, rfl⟩) sh_118 (show 118 < 120 by decide) cs2.1 (fun j _ hj => cs2.2.1 j hj) (fun x _ hx => cs2.2.2 x hx) dX10_init_10 ?_
  refine v_aload_n K dX10_init_13 rfl ?_
  refine v_sipushN K 340 rfl dX10_init_14 ?_
  refine v_newa K pl_120 sh_120 (CT_new (by decide) (hz 120 (by decide)).2) (Or.inl ⟨rfl, rfl⟩) (fun k => congrFun (CT_new (by decide) (hz 120 (by decide)).1) k) (W0.ct (by decide) (by decide) (by decide) (by decide +kernel) (by decide +kernel)) (by decide) rfl rfl wa_int ⟨by decide, by decide⟩ dX10_init_17 (fun ρ3 A3 => ?_)
  have B3 := AGR.t B1 A3 (by decide)
  refine v_sw (n := 121) (c := 2) (z := 680) (g' := (CT 0 GL 118 121 [(118, [120, 0, 0, 0, 0, 0, 0, 0, 0, 0, 0, 0, 0, 0, 0, 0, 0, 0, 0, 0, 0, 0])] g0)) (h' := (CT 0 FH 118 121 [(119, [0, 0, 0, 0, 0, 0, 0, 0, 0, 0, 0, 0, 0, 0, 0, 0, 0, 0, 0, 0, 0, 0, 0, 0, 0, 0, 0, 0]), (118, [0, 0, 0, 0, 0, 0, 0, 0, 0, 0, 0, 0, 0, 0, 0, 0, 0, 0, 0, 0, 0, 0])] h0)) (CT_grow (by decide) (by decide) (by decide) (fun a h => (hz a (Nat.le_trans (by decide) h)).1) (GLz (by decide +kernel))) (CT_grow (by decide) (by decide) (by decide) (fun a h => (hz a (Nat.le_trans (by decide) h)).2) (FHz (by decide +kernel))) ?_
  have cs4 := CT_set (z := 0) (F := GL) (b := 118) (hi := 121) (f := g0) (T := [(118, [120, 0, 0, 0, 0, 0, 0, 0, 0, 0, 0, 0, 0, 0, 0, 0, 0, 0, 0, 0, 0, 0])]) (T' := [(118, [120, 121, 0, 0, 0, 0, 0, 0, 0, 0, 0, 0, 0, 0, 0, 0, 0, 0, 0, 0, 0, 0])]) (L := [120, 0, 0, 0, 0, 0, 0, 0, 0, 0, 0, 0, 0, 0, 0, 0, 0, 0, 0, 0, 0, 0]) (k := 1) (v := 120 + 1) rfl (by decide) rfl (fun _ hx => (tl_ne hx).trans (tl_ne hx).symm)
  refine v_putg (g' := (CT 0 GL 118 121 [(118, [120, 121, 0, 0, 0, 0, 0, 0, 0, 0, 0, 0, 0, 0, 0, 0, 0, 0, 0, 0, 0, 0])] g0)) K pX10_13 (fun _ => rfl) (Or.inr ⟨_, rfl⟩) sh_118 (show 118 < 121 by decide) cs4.1 (fun j _ hj => cs4.2.1 j hj) (fun x _ hx => cs4.2.2 x hx) dX10_init_19 ?_
  refine v_aload_n K dX10_init_22 rfl ?_
  refine v_sipushN K 340 rfl dX10_init_23 ?_
  refine v_newa K pl_121 sh_121 (CT_new (by decide) (hz 121 (by decide)).2) (Or.inl ⟨rfl, rfl⟩) (fun k => congrFun (CT_new (by decide) (hz 121 (by decide)).1) k) (W0.ct (by decide) (by decide) (by decide) (by decide +kernel) (by decide +kernel)) (by decide) rfl rfl wa_int ⟨by decide, by decide⟩ dX10_init_26 (fun ρ5 A5 => ?_)
  have B5 := AGR.t B3 A5 (by decide)
  refine v_sw (n := 122) (c := 3) (z := 1020) (g' := (CT 0 GL 118 122 [(118, [120, 121, 0, 0, 0, 0, 0, 0, 0, 0, 0, 0, 0, 0, 0, 0, 0, 0, 0, 0, 0, 0])] g0)) (h' := (CT 0 FH 118 122 [(119, [0, 0, 0, 0, 0, 0, 0, 0, 0, 0, 0, 0, 0, 0, 0, 0, 0, 0, 0, 0, 0, 0, 0, 0, 0, 0, 0, 0]), (118, [0, 0, 0, 0, 0, 0, 0, 0, 0, 0, 0, 0, 0, 0, 0, 0, 0, 0, 0, 0, 0, 0])] h0)) (CT_grow (by decide) (by decide) (by decide) (fun a h => (hz a (Nat.le_trans (by decide) h)).1) (GLz (by decide +kernel))) (CT_grow (by decide) (by decide) (by decide) (fun a h => (hz a (Nat.le_trans (by decide) h)).2) (FHz (by decide +kernel))) ?_
  have cs6 := CT_set (z := 0) (F := GL) (b := 118) (hi := 122) (f := g0) (T := [(118, [120, 121, 0, 0, 0, 0, 0, 0, 0, 0, 0, 0, 0, 0, 0, 0, 0, 0, 0, 0, 0, 0])]) (T' := [(118, [120, 121, 122, 0, 0, 0, 0, 0, 0, 0, 0, 0, 0, 0, 0, 0, 0, 0, 0, 0, 0, 0])]) (L := [120, 121, 0, 0, 0, 0, 0, 0, 0, 0, 0, 0, 0, 0, 0, 0, 0, 0, 0, 0, 0, 0]) (k := 2) (v := 121 + 1) rfl (by decide) rfl (fun _ hx => (tl_ne hx).trans (tl_ne hx).symm)
  refine v_putg (g' := (CT 0 GL 118 122 [(118, [120, 121, 122, 0, 0, 0, 0, 0, 0, 0, 0, 0, 0, 0, 0, 0, 0, 0, 0, 0, 0, 0])] g0)) K pX10_16 (fun _ => rfl) (Or.inr ⟨_, rfl⟩) sh_118 (show 118 < 122 by decide) cs6.1 (fun j _ hj => cs6.2.1 j hj) (fun x _ hx => cs6.2.2 x hx) dX10_init_28 ?_
  refine v_aload_n K dX10_init_31 rfl ?_
  refine v_bipushN K 6 rfl dX10_init_32 ?_
  refine v_newa K pl_122 sh_122 (CT_new (by decide) (hz 122 (by decide)).2) (Or.inl ⟨rfl, rfl⟩) (fun k => congrFun (CT_new (by decide) (hz 122 (by decide)).1) k) (W0.ct (by decide) (by decide) (by decide) (by decide +kernel) (by decide +kernel)) (by decide) rfl rfl wa_int ⟨by decide, by decide⟩ dX10_init_34 (fun ρ7 A7 => ?_)
  have B7 := AGR.t B5 A7 (by decide)
  refine v_sw (n := 123) (c := 4) (z := 1026) (g' := (CT 0 GL 118 123 [(118, [120, 121, 122, 0, 0, 0, 0, 0, 0, 0, 0, 0, 0, 0, 0, 0, 0, 0, 0, 0, 0, 0])] g0)) (h' := (CT 0 FH 118 123 [(119, [0, 0, 0, 0, 0, 0, 0, 0, 0, 0, 0, 0, 0, 0, 0, 0, 0, 0, 0, 0, 0, 0, 0, 0, 0, 0, 0, 0]), (118, [0, 0, 0, 0, 0, 0, 0, 0, 0, 0, 0, 0, 0, 0, 0, 0, 0, 0, 0, 0, 0, 0])] h0)) (CT_grow (by decide) (by decide) (by decide) (fun a h => (hz a (Nat.le_trans (by decide) h)).1) (GLz (by decide +kernel))) (CT_grow (by decide) (by decide) (by decide) (fun a h => (hz a (Nat.le_trans (by decide) h)).2) (FHz (by decide +kernel))) ?_
  have cs8 := CT_set (z := 0) (F := GL) (b := 118) (hi := 123) (f := g0) (T := [(118, [120, 121, 122, 0, 0, 0, 0, 0, 0, 0, 0, 0, 0, 0, 0, 0, 0, 0, 0, 0, 0, 0])]) (T' := [(118, [120, 121, 122, 0, 123, 0, 0, 0, 0, 0, 0, 0, 0, 0, 0, 0, 0, 0, 0, 0, 0, 0])]) (L := [120, 121, 122, 0, 0, 0, 0, 0, 0, 0, 0, 0, 0, 0, 0, 0, 0, 0, 0, 0, 0, 0]) (k := 4) (v := 122 + 1) rfl (by decide) rfl (fun _ hx => (tl_ne hx).trans (tl_ne hx).symm)
  refine v_putg (g' := (CT 0 GL 118 123 [(118, [120, 121, 122, 0, 123, 0, 0, 0, 0, 0, 0, 0, 0, 0, 0, 0, 0, 0, 0, 0, 0, 0])] g0)) K pX10_19 (fun _ => rfl) (Or.inr ⟨_, rfl⟩) sh_118 (show 118 < 123 by decide) cs8.1 (fun j _ hj => cs8.2.1 j hj) (fun x _ hx => cs8.2.2 x hx) dX10_init_36 ?_
  refine v_aload_n K dX10_init_39 rfl ?_
  refine v_iconstN K 5 rfl dX10_init_40 ?_
  refine v_newa K pl_123 sh_123 (CT_new (by decide) (hz 123 (by decide)).2) (Or.inl ⟨rfl, rfl⟩) (fun k => congrFun (CT_new (by decide) (hz 123 (by decide)).1) k) (W0.ct (by decide) (by decide) (by decide) (by decide +kernel) (by decide +kernel)) (by decide) rfl rfl wa_int ⟨by decide, by decide⟩ dX10_init_41 (fun ρ9 A9 => ?_)
  have B9 := AGR.t B7 A9 (by decide)
  refine v_sw (n := 124) (c := 5) (z := 1031) (g' := (CT 0 GL 118 124 [(118, [120, 121, 122, 0, 123, 0, 0, 0, 0, 0, 0, 0, 0, 0, 0, 0, 0, 0, 0, 0, 0, 0])] g0)) (h' := (CT 0 FH 118 124 [(119, [0, 0, 0, 0, 0, 0, 0, 0, 0, 0, 0, 0, 0, 0, 0, 0, 0, 0, 0, 0, 0, 0, 0, 0, 0, 0, 0, 0]), (118, [0, 0, 0, 0, 0, 0, 0, 0, 0, 0, 0, 0, 0, 0, 0, 0, 0, 0, 0, 0, 0, 0])] h0)) (CT_grow (by decide) (by decide) (by decide) (fun a h => (hz a (Nat.le_trans (by decide) h)).1) (GLz (by decide +kernel))) (CT_grow (by decide) (by decide) (by decide) (fun a h => (hz a (Nat.le_trans (by decide) h)).2) (FHz (by decide +kernel))) ?_
  have cs10 := CT_set (z := 0) (F := GL) (b := 118) (hi := 124) (f := g0) (T := [(118, [120, 121, 122, 0, 123, 0, 0, 0, 0, 0, 0, 0, 0, 0, 0, 0, 0, 0, 0, 0, 0, 0])]) (T' := [(118, [120, 121, 122, 0, 123, 0, 0, 0, 0, 0, 0, 124, 0, 0, 0, 0, 0, 0, 0, 0, 0, 0])]) (L := [120, 121, 122, 0, 123, 0, 0, 0, 0, 0, 0, 0, 0, 0, 0, 0, 0, 0, 0, 0, 0, 0]) (k := 11) (v := 123 + 1) rfl (by decide) rfl (fun _ hx => (tl_ne hx).trans (tl_ne hx).symm)
  refine v_putg (g' := (CT 0 GL 118 124 [(118, [120, 121, 122, 0, 123, 0, 0, 0, 0, 0, 0, 124, 0, 0, 0, 0, 0, 0, 0, 0, 0, 0])] g0)) K pX10_22 (fun _ => rfl) (Or.inr ⟨_, rfl⟩) sh_118 (show 118 < 124 by decide) cs10.1 (fun j _ hj => cs10.2.1 j hj) (fun x _ hx => cs10.2.2 x hx) dX10_init_43 ?_
  refine v_aload_n K dX10_init_46 rfl ?_
  refine v_bipushN K 8 rfl dX10_init_47 ?_
  refine v_newa K pl_124 sh_124 (CT_new (by decide) (hz 124 (by decide)).2) (Or.inr (Or.inr ⟨rfl, rfl⟩)) (fun k => congrFun (CT_new (by decide) (hz 124 (by decide)).1) k) (W0.ct (by decide) (by decide) (by decide) (by decide +kernel) (by decide +kernel)) (by decide) rfl rfl wa_boolean ⟨by decide, by decide⟩ dX10_init_49 (fun ρ11 A11 => ?_)
  have B11 := AGR.t B9 A11 (by decide)
  refine v_sw (n := 125) (c := 6) (z := 1039) (g' := (CT 0 GL 118 125 [(118, [120, 121, 122, 0, 123, 0, 0, 0, 0, 0, 0, 124, 0, 0, 0, 0, 0, 0, 0, 0, 0, 0])] g0)) (h' := (CT 0 FH 118 125 [(119, [0, 0, 0, 0, 0, 0, 0, 0, 0, 0, 0, 0, 0, 0, 0, 0, 0, 0, 0, 0, 0, 0, 0, 0, 0, 0, 0, 0]), (118, [0, 0, 0, 0, 0, 0, 0, 0, 0, 0, 0, 0, 0, 0, 0, 0, 0, 0, 0, 0, 0, 0])] h0)) (CT_grow (by decide) (by decide) (by decide) (fun a h => (hz a (Nat.le_trans (by decide) h)).1) (GLz (by decide +kernel))) (CT_grow (by decide) (by decide) (by decide) (fun a h => (hz a (Nat.le_trans (by decide) h)).2) (FHz (by decide +kernel))) ?_
  have cs12 := CT_set (z := 0) (F := GL) (b := 118) (hi := 125) (f := g0) (T := [(118, [120, 121, 122, 0, 123, 0, 0, 0, 0, 0, 0, 124, 0, 0, 0, 0, 0, 0, 0, 0, 0, 0])]) (T' := [(118, [120, 121, 122, 0, 123, 0, 0, 0, 0, 0, 0, 124, 125, 0, 0, 0, 0, 0, 0, 0, 0, 0])]) (L := [120, 121, 122, 0, 123, 0, 0, 0, 0, 0, 0, 124, 0, 0, 0, 0, 0, 0, 0, 0, 0, 0]) (k := 12) (v := 124 + 1) rfl (by decide) rfl (fun _ hx => (tl_ne hx).trans (tl_ne hx).symm)
  refine v_putg (g' := (CT 0 GL 118 125 [(118, [120, 121, 122, 0, 123, 0, 0, 0, 0, 0, 0, 124, 125, 0, 0, 0, 0, 0, 0, 0, 0, 0])] g0)) K pX10_25 (fun _ => rfl) (Or.inr ⟨_, rfl⟩) sh_118 (show 118 < 125 by decide) cs12.1 (fun j _ hj => cs12.2.1 j hj) (fun x _ hx => cs12.2.2 x hx) dX10_init_51 ?_
  refine v_aload_n K dX10_init_54 rfl ?_
  refine v_iconstN K 5 rfl dX10_init_55 ?_
  refine v_newa K pl_125 sh_125 (CT_new (by decide) (hz 125 (by decide)).2) (Or.inl ⟨rfl, rfl⟩) (fun k => congrFun (CT_new (by decide) (hz 125 (by decide)).1) k) (W0.ct (by decide) (by decide) (by decide) (by decide +kernel) (by decide +kernel)) (by decide) rfl rfl wa_int ⟨by decide, by decide⟩ dX10_init_56 (fun ρ13 A13 => ?_)
  have B13 := AGR.t B11 A13 (by decide)
  refine v_sw (n := 126) (c := 7) (z := 1044) (g' := (CT 0 GL 118 126 [(118, [120, 121, 122, 0, 123, 0, 0, 0, 0, 0, 0, 124, 125, 0, 0, 0, 0, 0, 0, 0, 0, 0])] g0)) (h' := (CT 0 FH 118 126 [(119, [0, 0, 0, 0, 0, 0, 0, 0, 0, 0, 0, 0, 0, 0, 0, 0, 0, 0, 0, 0, 0, 0, 0, 0, 0, 0, 0, 0]), (118, [0, 0, 0, 0, 0, 0, 0, 0, 0, 0, 0, 0, 0, 0, 0, 0, 0, 0, 0, 0, 0, 0])] h0)) (CT_grow (by decide) (by decide) (by decide) (fun a h => (hz a (Nat.le_trans (by decide) h)).1) (GLz (by decide +kernel))) (CT_grow (by decide) (by decide) (by decide) (fun a h => (hz a (Nat.le_trans (by decide) h)).2) (FHz (by decide +kernel))) ?_
  have cs14 := CT_set (z := 0) (F := GL) (b := 118) (hi := 126) (f := g0) (T := [(118, [120, 121, 122, 0, 123, 0, 0, 0, 0, 0, 0, 124, 125, 0, 0, 0, 0, 0, 0, 0, 0, 0])]) (T' := [(118, [120, 121, 122, 0, 123, 0, 0, 0, 0, 0, 0, 124, 125, 126, 0, 0, 0, 0, 0, 0, 0, 0])]) (L := [120, 121, 122, 0, 123, 0, 0, 0, 0, 0, 0, 124, 125, 0, 0, 0, 0, 0, 0, 0, 0, 0]) (k := 13) (v := 125 + 1) rfl (by decide) rfl (fun _ hx => (tl_ne hx).trans (tl_ne hx).symm)
  refine v_putg (g' := (CT 0 GL 118 126 [(118, [120, 121, 122, 0, 123, 0, 0, 0, 0, 0, 0, 124, 125, 126, 0, 0, 0, 0, 0, 0, 0, 0])] g0)) K pX10_29 (fun _ => rfl) (Or.inr ⟨_, rfl⟩) sh_118 (show 118 < 126 by decide) cs14.1 (fun j _ hj => cs14.2.1 j hj) (fun x _ hx => cs14.2.2 x hx) dX10_init_58 ?_
  refine v_aload_n K dX10_init_61 rfl ?_
  refine v_iconstN K 4 rfl dX10_init_62 ?_
  refine v_newa K pl_126 sh_126 (CT_new (by decide) (hz 126 (by decide)).2) (Or.inl ⟨rfl, rfl⟩) (fun k => congrFun (CT_new (by decide) (hz 126 (by decide)).1) k) (W0.ct (by decide) (by decide) (by decide) (by decide +kernel) (by decide +kernel)) (by decide) rfl rfl wa_int ⟨by decide, by decide⟩ dX10_init_63 (fun ρ15 A15 => ?_)
  have B15 := AGR.t B13 A15 (by decide)
  refine v_sw (n := 127) (c := 8) (z := 1048) (g' := (CT 0 GL 118 127 [(118, [120, 121, 122, 0, 123, 0, 0, 0, 0, 0, 0, 124, 125, 126, 0, 0, 0, 0, 0, 0, 0, 0])] g0)) (h' := (CT 0 FH 118 127 [(119, [0, 0, 0, 0, 0, 0, 0, 0, 0, 0, 0, 0, 0, 0, 0, 0, 0, 0, 0, 0, 0, 0, 0, 0, 0, 0, 0, 0]), (118, [0, 0, 0, 0, 0, 0, 0, 0, 0, 0, 0, 0, 0, 0, 0, 0, 0, 0, 0, 0, 0, 0])] h0)) (CT_grow (by decide) (by decide) (by decide) (fun a h => (hz a (Nat.le_trans (by decide) h)).1) (GLz (by decide +kernel))) (CT_grow (by decide) (by decide) (by decide) (fun a h => (hz a (Nat.le_trans (by decide) h)).2) (FHz (by decide +kernel))) ?_
  have cs16 := CT_set (z := 0) (F := GL) (b := 118) (hi := 127) (f := g0) (T := [(118, [120, 121, 122, 0, 123, 0, 0, 0, 0, 0, 0, 124, 125, 126, 0, 0, 0, 0, 0, 0, 0, 0])]) (T' := [(118, [120, 121, 122, 0, 123, 0, 0, 0, 0, 0, 0, 124, 125, 126, 127, 0, 0, 0, 0, 0, 0, 0])]) (L := [120, 121, 122, 0, 123, 0, 0, 0, 0, 0, 0, 124, 125, 126, 0, 0, 0, 0, 0, 0, 0, 0]) (k := 14) (v := 126 + 1) rfl (by decide) rfl (fun _ hx => (tl_ne hx).trans (tl_ne hx).symm)
  refine v_putg (g' := (CT 0 GL 118 127 [(118, [120, 121, 122, 0, 123, 0, 0, 0, 0, 0, 0, 124, 125, 126, 127, 0, 0, 0, 0, 0, 0, 0])] g0)) K pX10_32 (fun _ => rfl) (Or.inr ⟨_, rfl⟩) sh_118 (show 118 < 127 by decide) cs16.1 (fun j _ hj => cs16.2.1 j hj) (fun x _ hx => cs16.2.2 x hx) dX10_init_65 ?_
  refine v_aload_n K dX10_init_68 rfl ?_
  refine v_bipushN K 40 rfl dX10_init_69 ?_
  refine v_newa K pl_127 sh_127 (CT_new (by decide) (hz 127 (by decide)).2) (Or.inl ⟨rfl, rfl⟩) (fun k => congrFun (CT_new (by decide) (hz 127 (by decide)).1) k) (W0.ct (by decide) (by decide) (by decide) (by decide +kernel) (by decide +kernel)) (by decide) rfl rfl wa_int ⟨by decide, by decide⟩ dX10_init_71 (fun ρ17 A17 => ?_)
  have B17 := AGR.t B15 A17 (by decide)
  refine v_sw (n := 128) (c := 9) (z := 1088) (g' := (CT 0 GL 118 128 [(118, [120, 121, 122, 0, 123, 0, 0, 0, 0, 0, 0, 124, 125, 126, 127, 0, 0, 0, 0, 0, 0, 0])] g0)) (h' := (CT 0 FH 118 128 [(119, [0, 0, 0, 0, 0, 0, 0, 0, 0, 0, 0, 0, 0, 0, 0, 0, 0, 0, 0, 0, 0, 0, 0, 0, 0, 0, 0, 0]), (118, [0, 0, 0, 0, 0, 0, 0, 0, 0, 0, 0, 0, 0, 0, 0, 0, 0, 0, 0, 0, 0, 0])] h0)) (CT_grow (by decide) (by decide) (by decide) (fun a h => (hz a (Nat.le_trans (by decide) h)).1) (GLz (by decide +kernel))) (CT_grow (by decide) (by decide) (by decide) (fun a h => (hz a (Nat.le_trans (by decide) h)).2) (FHz (by decide +kernel))) ?_
  have cs18 := CT_set (z := 0) (F := GL) (b := 118) (hi := 128) (f := g0) (T := [(118, [120, 121, 122, 0, 123, 0, 0, 0, 0, 0, 0, 124, 125, 126, 127, 0, 0, 0, 0, 0, 0, 0])]) (T' := [(118, [120, 121, 122, 0, 123, 0, 0, 0, 0, 0, 0, 124, 125, 126, 127, 128, 0, 0, 0, 0, 0, 0])]) (L := [120, 121, 122, 0, 123, 0, 0, 0, 0, 0, 0, 124, 125, 126, 127, 0, 0, 0, 0, 0, 0, 0]) (k := 15) (v := 127 + 1) rfl (by decide) rfl (fun _ hx => (tl_ne hx).trans (tl_ne hx).symm)
  refine v_putg (g' := (CT 0 GL 118 128 [(118, [120, 121, 122, 0, 123, 0, 0, 0, 0, 0, 0, 124, 125, 126, 127, 128, 0, 0, 0, 0, 0, 0])] g0)) K pX10_35 (fun _ => rfl) (Or.inr ⟨_, rfl⟩) sh_118 (show 118 < 128 by decide) cs18.1 (fun j _ hj => cs18.2.1 j hj) (fun x _ hx => cs18.2.2 x hx) dX10_init_73 ?_
  refine v_aload_n K dX10_init_76 rfl ?_
  refine v_iconstN K 4 rfl dX10_init_77 ?_
  refine v_newa K pl_128 sh_128 (CT_new (by decide) (hz 128 (by decide)).2) (Or.inl ⟨rfl, rfl⟩) (fun k => congrFun (CT_new (by decide) (hz 128 (by decide)).1) k) (W0.ct (by decide) (by decide) (by decide) (by decide +kernel) (by decide +kernel)) (by decide) rfl rfl wa_int ⟨by decide, by decide⟩ dX10_init_78 (fun ρ19 A19 => ?_)
  have B19 := AGR.t B17 A19 (by decide)
  refine v_sw (n := 129) (c := 10) (z := 1092) (g' := (CT 0 GL 118 129 [(118, [120, 121, 122, 0, 123, 0, 0, 0, 0, 0, 0, 124, 125, 126, 127, 128, 0, 0, 0, 0, 0, 0])] g0)) (h' := (CT 0 FH 118 129 [(119, [0, 0, 0, 0, 0, 0, 0, 0, 0, 0, 0, 0, 0, 0, 0, 0, 0, 0, 0, 0, 0, 0, 0, 0, 0, 0, 0, 0]), (118, [0, 0, 0, 0, 0, 0, 0, 0, 0, 0, 0, 0, 0, 0, 0, 0, 0, 0, 0, 0, 0, 0])] h0)) (CT_grow (by decide) (by decide) (by decide) (fun a h => (hz a (Nat.le_trans (by decide) h)).1) (GLz (by decide +kernel))) (CT_grow (by decide) (by decide) (by decide) (fun a h => (hz a (Nat.le_trans (by decide) h)).2) (FHz (by decide +kernel))) ?_
  have cs20 := CT_set (z := 0) (F := GL) (b := 118) (hi := 129) (f := g0) (T := [(118, [120, 121, 122, 0, 123, 0, 0, 0, 0, 0, 0, 124, 125, 126, 127, 128, 0, 0, 0, 0, 0, 0])]) (T' := [(118, [120, 121, 122, 0, 123, 0, 0, 0, 0, 0, 0, 124, 125, 126, 127, 128, 0, 0, 129, 0, 0, 0])]) (L := [120, 121, 122, 0, 123, 0, 0, 0, 0, 0, 0, 124, 125, 126, 127, 128, 0, 0, 0, 0, 0, 0]) (k := 18) (v := 128 + 1) rfl (by decide) rfl (fun _ hx => (tl_ne hx).trans (tl_ne hx).symm)
  refine v_putg (g' := (CT 0 GL 118 129 [(118, [120, 121, 122, 0, 123, 0, 0, 0, 0, 0, 0, 124, 125, 126, 127, 128, 0, 0, 129, 0, 0, 0])] g0)) K pX10_38 (fun _ => rfl) (Or.inr ⟨_, rfl⟩) sh_118 (show 118 < 129 by decide) cs20.1 (fun j _ hj => cs20.2.1 j hj) (fun x _ hx => cs20.2.2 x hx) dX10_init_80 ?_
  refine v_aload_n K dX10_init_83 rfl ?_
  refine v_iconstN K 4 rfl dX10_init_84 ?_
  refine v_newa K pl_129 sh_129 (CT_new (by decide) (hz 129 (by decide)).2) (Or.inl ⟨rfl, rfl⟩) (fun k => congrFun (CT_new (by decide) (hz 129 (by decide)).1) k) (W0.ct (by decide) (by decide) (by decide) (by decide +kernel) (by decide +kernel)) (by decide) rfl rfl wa_int ⟨by decide, by decide⟩ dX10_init_85 (fun ρ21 A21 => ?_)
  have B21 := AGR.t B19 A21 (by decide)
  refine v_sw (n := 130) (c := 11) (z := 1096) (g' := (CT 0 GL 118 130 [(118, [120, 121, 122, 0, 123, 0, 0, 0, 0, 0, 0, 124, 125, 126, 127, 128, 0, 0, 129, 0, 0, 0])] g0)) (h' := (CT 0 FH 118 130 [(119, [0, 0, 0, 0, 0, 0, 0, 0, 0, 0, 0, 0, 0, 0, 0, 0, 0, 0, 0, 0, 0, 0, 0, 0, 0, 0, 0, 0]), (118, [0, 0, 0, 0, 0, 0, 0, 0, 0, 0, 0, 0, 0, 0, 0, 0, 0, 0, 0, 0, 0, 0])] h0)) (CT_grow (by decide) (by decide) (by decide) (fun a h => (hz a (Nat.le_trans (by decide) h)).1) (GLz (by decide +kernel))) (CT_grow (by decide) (by decide) (by decide) (fun a h => (hz a (Nat.le_trans (by decide) h)).2) (FHz (by decide +kernel))) ?_
  have cs22 := CT_set (z := 0) (F := GL) (b := 118) (hi := 130) (f := g0) (T := [(118, [120, 121, 122, 0, 123, 0, 0, 0, 0, 0, 0, 124, 125, 126, 127, 128, 0, 0, 129, 0, 0, 0])]) (T' := [(118, [120, 121, 122, 0, 123, 0, 0, 0, 0, 0, 0, 124, 125, 126, 127, 128, 0, 0, 129, 130, 0, 0])]) (L := [120, 121, 122, 0, 123, 0, 0, 0, 0, 0, 0, 124, 125, 126, 127, 128, 0, 0, 129, 0, 0, 0]) (k := 19) (v := 129 + 1) rfl (by decide) rfl (fun _ hx => (tl_ne hx).trans (tl_ne hx).symm)
  refine v_putg (g' := (CT 0 GL 118 130 [(118, [120, 121, 122, 0, 123, 0, 0, 0, 0, 0, 0, 124, 125, 126, 127, 128, 0, 0, 129, 130, 0, 0])] g0)) K pX10_41 (fun _ => rfl) (Or.inr ⟨_, rfl⟩) sh_118 (show 118 < 130 by decide) cs22.1 (fun j _ hj => cs22.2.1 j hj) (fun x _ hx => cs22.2.2 x hx) dX10_init_87 ?_
  refine v_aload_n K dX10_init_90 rfl ?_
  refine v_sipushN K 160 rfl dX10_init_91 ?_
  refine v_newa K pl_130 sh_130 (CT_new (by decide) (hz 130 (by decide)).2) (Or.inl ⟨rfl, rfl⟩) (fun k => congrFun (CT_new (by decide) (hz 130 (by decide)).1) k) (W0.ct (by decide) (by decide) (by decide) (by decide +kernel) (by decide +kernel)) (by decide) rfl rfl wa_int ⟨by decide, by decide⟩ dX10_init_94 (fun ρ23 A23 => ?_)
  have B23 := AGR.t B21 A23 (by decide)
  refine v_sw (n := 131) (c := 12) (z := 1256) (g' := (CT 0 GL 118 131 [(118, [120, 121, 122, 0, 123, 0, 0, 0, 0, 0, 0, 124, 125, 126, 127, 128, 0, 0, 129, 130, 0, 0])] g0)) (h' := (CT 0 FH 118 131 [(119, [0, 0, 0, 0, 0, 0, 0, 0, 0, 0, 0, 0, 0, 0, 0, 0, 0, 0, 0, 0, 0, 0, 0, 0, 0, 0, 0, 0]), (118, [0, 0, 0, 0, 0, 0, 0, 0, 0, 0, 0, 0, 0, 0, 0, 0, 0, 0, 0, 0, 0, 0])] h0)) (CT_grow (by decide) (by decide) (by decide) (fun a h => (hz a (Nat.le_trans (by decide) h)).1) (GLz (by decide +kernel))) (CT_grow (by decide) (by decide) (by decide) (fun a h => (hz a (Nat.le_trans (by decide) h)).2) (FHz (by decide +kernel))) ?_
  have cs24 := CT_set (z := 0) (F := GL) (b := 118) (hi := 131) (f := g0) (T := [(118, [120, 121, 122, 0, 123, 0, 0, 0, 0, 0, 0, 124, 125, 126, 127, 128, 0, 0, 129, 130, 0, 0])]) (T' := [(118, [120, 121, 122, 0, 123, 0, 0, 0, 0, 0, 0, 124, 125, 126, 127, 128, 0, 0, 129, 130, 131, 0])]) (L := [120, 121, 122, 0, 123, 0, 0, 0, 0, 0, 0, 124, 125, 126, 127, 128, 0, 0, 129, 130, 0, 0]) (k := 20) (v := 130 + 1) rfl (by decide) rfl (fun _ hx => (tl_ne hx).trans (tl_ne hx).symm)
  refine v_putg (g' := (CT 0 GL 118 131 [(118, [120, 121, 122, 0, 123, 0, 0, 0, 0, 0, 0, 124, 125, 126, 127, 128, 0, 0, 129, 130, 131, 0])] g0)) K pX10_44 (fun _ => rfl) (Or.inr ⟨_, rfl⟩) sh_118 (show 118 < 131 by decide) cs24.1 (fun j _ hj => cs24.2.1 j hj) (fun x _ hx => cs24.2.2 x hx) dX10_init_96 ?_
  refine v_aload_n K dX10_init_99 rfl ?_
  refine v_bipushN K 40 rfl dX10_init_100 ?_
  refine v_newa K pl_131 sh_131 (CT_new (by decide) (hz 131 (by decide)).2) (Or.inl ⟨rfl, rfl⟩) (fun k => congrFun (CT_new (by decide) (hz 131 (by decide)).1) k) (W0.ct (by decide) (by decide) (by decide) (by decide +kernel) (by decide +kernel)) (by decide) rfl rfl wa_int ⟨by decide, by decide⟩ dX10_init_102 (fun ρ25 A25 => ?_)
  have B25 := AGR.t B23 A25 (by decide)
  refine v_sw (n := 132) (c := 13) (z := 1296) (g' := (CT 0 GL 118 132 [(118, [120, 121, 122, 0, 123, 0, 0, 0, 0, 0, 0, 124, 125, 126, 127, 128, 0, 0, 129, 130, 131, 0])] g0)) (h' := (CT 0 FH 118 132 [(119, [0, 0, 0, 0, 0, 0, 0, 0, 0, 0, 0, 0, 0, 0, 0, 0, 0, 0, 0, 0, 0, 0, 0, 0, 0, 0, 0, 0]), (118, [0, 0, 0, 0, 0, 0, 0, 0, 0, 0, 0, 0, 0, 0, 0, 0, 0, 0, 0, 0, 0, 0])] h0)) (CT_grow (by decide) (by decide) (by decide) (fun a h => (hz a (Nat.le_trans (by decide) h)).1) (GLz (by decide +kernel))) (CT_grow (by decide) (by decide) (by decide) (fun a h => (hz a (Nat.le_trans (by decide) h)).2) (FHz (by decide +kernel))) ?_
  have cs26 := CT_set (z := 0) (F := GL) (b := 118) (hi := 132) (f := g0) (T := [(118, [120, 121, 122, 0, 123, 0, 0, 0, 0, 0, 0, 124, 125, 126, 127, 128, 0, 0, 129, 130, 131, 0])]) (T' := [(118, [120, 121, 122, 0, 123, 0, 0, 0, 0, 0, 0, 124, 125, 126, 127, 128, 0, 0, 129, 130, 131, 132])]) (L := [120, 121, 122, 0, 123, 0, 0, 0, 0, 0, 0, 124, 125, 126, 127, 128, 0, 0, 129, 130, 131, 0]) (k := 21) (v := 131 + 1) rfl (by decide) rfl (fun _ hx => (tl_ne hx).trans (tl_ne hx).symm)
  refine v_putg (g' := (CT 0 GL 118 132 [(118, [120, 121, 122, 0, 123, 0, 0, 0, 0, 0, 0, 124, 125, 126, 127, 128, 0, 0, 129, 130, 131, 132])] g0)) K pX10_47 (fun _ => rfl) (Or.inr ⟨_, rfl⟩) sh_118 (show 118 < 132 by decide) cs26.1 (fun j _ hj => cs26.2.1 j hj) (fun x _ hx => cs26.2.2 x hx) dX10_init_104 ?_
  refine v_aload_n K dX10_init_107 rfl ?_
  refine v_getr (q := 119) K fX10_7 sh_118 (show 118 < 132 by decide) ((congrFun (CT_at (z := 0) (F := GL) (b := 118) (hi := 132) (f := g0) (a := 118) (T := [(118, [120, 121, 122, 0, 123, 0, 0, 0, 0, 0, 0, 124, 125, 126, 127, 128, 0, 0, 129, 130, 131, 132])]) (L := [120, 121, 122, 0, 123, 0, 0, 0, 0, 0, 0, 124, 125, 126, 127, 128, 0, 0, 129, 130, 131, 132]) rfl) 0).trans rfl) dX10_init_108 ?_
  refine v_iconstN K 0 rfl dX10_init_111 ?_
  refine v_bipushN K 11 rfl dX10_init_112 ?_
  refine v_iast K sh_119 (show 119 < 132 by decide) (by decide) dX10_init_114 ?_
  refine v_hq (CT_u2 (F := FH) (T := [(119, [0, 0, 0, 0, 0, 0, 0, 0, 0, 0, 0, 0, 0, 0, 0, 0, 0, 0, 0, 0, 0, 0, 0, 0, 0, 0, 0, 0]), (118, [0, 0, 0, 0, 0, 0, 0, 0, 0, 0, 0, 0, 0, 0, 0, 0, 0, 0, 0, 0, 0, 0])]) (T' := [(119, [nI 11, 0, 0, 0, 0, 0, 0, 0, 0, 0, 0, 0, 0, 0, 0, 0, 0, 0, 0, 0, 0, 0, 0, 0, 0, 0, 0, 0]), (118, [0, 0, 0, 0, 0, 0, 0, 0, 0, 0, 0, 0, 0, 0, 0, 0, 0, 0, 0, 0, 0, 0])]) (L := [0, 0, 0, 0, 0, 0, 0, 0, 0, 0, 0, 0, 0, 0, 0, 0, 0, 0, 0, 0, 0, 0, 0, 0, 0, 0, 0, 0]) rfl (by decide) rfl (fun _ hx => (tl_ne hx).trans (tl_ne hx).symm)) ?_
  refine v_aload_n K dX10_init_115 rfl ?_
  refine v_getr (q := 119) K fX10_7 sh_118 (show 118 < 132 by decide) ((congrFun (CT_at (z := 0) (F := GL) (b := 118) (hi := 132) (f := g0) (a := 118) (T := [(118, [120, 121, 122, 0, 123, 0, 0, 0, 0, 0, 0, 124, 125, 126, 127, 128, 0, 0, 129, 130, 131, 132])]) (L := [120, 121, 122, 0, 123, 0, 0, 0, 0, 0, 0, 124, 125, 126, 127, 128, 0, 0, 129, 130, 131, 132]) rfl) 0).trans rfl) dX10_init_116 ?_
  refine v_iconstN K 1 rfl dX10_init_119 ?_
  refine v_iconstN K 1 rfl dX10_init_120 ?_
  refine v_iast K sh_119 (show 119 < 132 by decide) (by decide) dX10_init_121 ?_
  refine v_hq (CT_u2 (F := FH) (T := [(119, [nI 11, 0, 0, 0, 0, 0, 0, 0, 0, 0, 0, 0, 0, 0, 0, 0, 0, 0, 0, 0, 0, 0, 0, 0, 0, 0, 0, 0]), (118, [0, 0, 0, 0, 0, 0, 0, 0, 0, 0, 0, 0, 0, 0, 0, 0, 0, 0, 0, 0, 0, 0])]) (T' := [(119, [nI 11, nI 1, 0, 0, 0, 0, 0, 0, 0, 0, 0, 0, 0, 0, 0, 0, 0, 0, 0, 0, 0, 0, 0, 0, 0, 0, 0, 0]), (118, [0, 0, 0, 0, 0, 0, 0, 0, 0, 0, 0, 0, 0, 0, 0, 0, 0, 0, 0, 0, 0, 0])]) (L := [nI 11, 0, 0, 0, 0, 0, 0, 0, 0, 0, 0, 0, 0, 0, 0, 0, 0, 0, 0, 0, 0, 0, 0, 0, 0, 0, 0, 0]) rfl (by decide) rfl (fun _ hx => (tl_ne hx).trans (tl_ne hx).symm)) ?_
  refine v_aload_n K dX10_init_122 rfl ?_
  refine v_getr (q := 119) K fX10_7 sh_118 (show 118 < 132 by decide) ((congrFun (CT_at (z := 0) (F := GL) (b := 118) (hi := 132) (f := g0) (a := 118) (T := [(118, [120, 121, 122, 0, 123, 0, 0, 0, 0, 0, 0, 124, 125, 126, 127, 128, 0, 0, 129, 130, 131, 132])]) (L := [120, 121, 122, 0, 123, 0, 0, 0, 0, 0, 0, 124, 125, 126, 127, 128, 0, 0, 129, 130, 131, 132]) rfl) 0).trans rfl) dX10_init_123 ?_
  refine v_iconstN K 2 rfl dX10_init_126 ?_
  refine v_bipushN K 20 rfl dX10_init_127 ?_
  refine v_iast K sh_119 (show 119 < 132 by decide) (by decide) dX10_init_129 ?_
  refine v_hq (CT_u2 (F := FH) (T := [(119, [nI 11, nI 1, 0, 0, 0, 0, 0, 0, 0, 0, 0, 0, 0, 0, 0, 0, 0, 0, 0, 0, 0, 0, 0, 0, 0, 0, 0, 0]), (118, [0, 0, 0, 0, 0, 0, 0, 0, 0, 0, 0, 0, 0, 0, 0, 0, 0, 0, 0, 0, 0, 0])]) (T' := [(119, [nI 11, nI 1, nI 20, 0, 0, 0, 0, 0, 0, 0, 0, 0, 0, 0, 0, 0, 0, 0, 0, 0, 0, 0, 0, 0, 0, 0, 0, 0]), (118, [0, 0, 0, 0, 0, 0, 0, 0, 0, 0, 0, 0, 0, 0, 0, 0, 0, 0, 0, 0, 0, 0])]) (L := [nI 11, nI 1, 0, 0, 0, 0, 0, 0, 0, 0, 0, 0, 0, 0, 0, 0, 0, 0, 0, 0, 0, 0, 0, 0, 0, 0, 0, 0]) rfl (by decide) rfl (fun _ hx => (tl_ne hx).trans (tl_ne hx).symm)) ?_
  refine v_aload_n K dX10_init_130 rfl ?_
  refine v_getr (q := 119) K fX10_7 sh_118 (show 118 < 132 by decide) ((congrFun (CT_at (z := 0) (F := GL) (b := 118) (hi := 132) (f := g0) (a := 118) (T := [(118, [120, 121, 122, 0, 123, 0, 0, 0, 0, 0, 0, 124, 125, 126, 127, 128, 0, 0, 129, 130, 131, 132])]) (L := [120, 121, 122, 0, 123, 0, 0, 0, 0, 0, 0, 124, 125, 126, 127, 128, 0, 0, 129, 130, 131, 132]) rfl) 0).trans rfl) dX10_init_131 ?_
  refine v_iconstN K 5 rfl dX10_init_134 ?_
  refine v_sipushN K 480 rfl dX10_init_135 ?_
  refine v_iast K sh_119 (show 119 < 132 by decide) (by decide) dX10_init_138 ?_
  refine v_hq (CT_u2 (F := FH) (T := [(119, [nI 11, nI 1, nI 20, 0, 0, 0, 0, 0, 0, 0, 0, 0, 0, 0, 0, 0, 0, 0, 0, 0, 0, 0, 0, 0, 0, 0, 0, 0]), (118, [0, 0, 0, 0, 0, 0, 0, 0, 0, 0, 0, 0, 0, 0, 0, 0, 0, 0, 0, 0, 0, 0])]) (T' := [(119, [nI 11, nI 1, nI 20, 0, 0, nI 480, 0, 0, 0, 0, 0, 0, 0, 0, 0, 0, 0, 0, 0, 0, 0, 0, 0, 0, 0, 0, 0, 0]), (118, [0, 0, 0, 0, 0, 0, 0, 0, 0, 0, 0, 0, 0, 0, 0, 0, 0, 0, 0, 0, 0, 0])]) (L := [nI 11, nI 1, nI 20, 0, 0, 0, 0, 0, 0, 0, 0, 0, 0, 0, 0, 0, 0, 0, 0, 0, 0, 0, 0, 0, 0, 0, 0, 0]) rfl (by decide) rfl (fun _ hx => (tl_ne hx).trans (tl_ne hx).symm)) ?_
  refine v_aload_n K dX10_init_139 rfl ?_
  refine v_getr (q := 119) K fX10_7 sh_118 (show 118 < 132 by decide) ((congrFun (CT_at (z := 0) (F := GL) (b := 118) (hi := 132) (f := g0) (a := 118) (T := [(118, [120, 121, 122, 0, 123, 0, 0, 0, 0, 0, 0, 124, 125, 126, 127, 128, 0, 0, 129, 130, 131, 132])]) (L := [120, 121, 122, 0, 123, 0, 0, 0, 0, 0, 0, 124, 125, 126, 127, 128, 0, 0, 129, 130, 131, 132]) rfl) 0).trans rfl) dX10_init_140 ?_
  refine v_bipushN K 6 rfl dX10_init_143 ?_
  refine v_bipushN K 20 rfl dX10_init_145 ?_
  refine v_iast K sh_119 (show 119 < 132 by decide) (by decide) dX10_init_147 ?_
  refine v_hq (CT_u2 (F := FH) (T := [(119, [nI 11, nI 1, nI 20, 0, 0, nI 480, 0, 0, 0, 0, 0, 0, 0, 0, 0, 0, 0, 0, 0, 0, 0, 0, 0, 0, 0, 0, 0, 0]), (118, [0, 0, 0, 0, 0, 0, 0, 0, 0, 0, 0, 0, 0, 0, 0, 0, 0, 0, 0, 0, 0, 0])]) (T' := [(119, [nI 11, nI 1, nI 20, 0, 0, nI 480, nI 20, 0, 0, 0, 0, 0, 0, 0, 0, 0, 0, 0, 0, 0, 0, 0, 0, 0, 0, 0, 0, 0]), (118, [0, 0, 0, 0, 0, 0, 0, 0, 0, 0, 0, 0, 0, 0, 0, 0, 0, 0, 0, 0, 0, 0])]) (L := [nI 11, nI 1, nI 20, 0, 0, nI 480, 0, 0, 0, 0, 0, 0, 0, 0, 0, 0, 0, 0, 0, 0, 0, 0, 0, 0, 0, 0, 0, 0]) rfl (by decide) rfl (fun _ hx => (tl_ne hx).trans (tl_ne hx).symm)) ?_
  refine v_aload_n K dX10_init_148 rfl ?_
  refine v_getr (q := 119) K fX10_7 sh_118 (show 118 < 132 by decide) ((congrFun (CT_at (z := 0) (F := GL) (b := 118) (hi := 132) (f := g0) (a := 118) (T := [(118, [120, 121, 122, 0, 123, 0, 0, 0, 0, 0, 0, 124, 125, 126, 127, 128, 0, 0, 129, 130, 131, 132])]) (L := [120, 121, 122, 0, 123, 0, 0, 0, 0, 0, 0, 124, 125, 126, 127, 128, 0, 0, 129, 130, 131, 132]) rfl) 0).trans rfl) dX10_init_149 ?_
  refine v_bipushN K 7 rfl dX10_init_152 ?_
  refine v_bipushN K 30 rfl dX10_init_154 ?_
  refine v_iast K sh_119 (show 119 < 132 by decide) (by decide) dX10_init_156 ?_
  refine v_hq (CT_u2 (F := FH) (T := [(119, [nI 11, nI 1, nI 20, 0, 0, nI 480, nI 20, 0, 0, 0, 0, 0, 0, 0, 0, 0, 0, 0, 0, 0, 0, 0, 0, 0, 0, 0, 0, 0]), (118, [0, 0, 0, 0, 0, 0, 0, 0, 0, 0, 0, 0, 0, 0, 0, 0, 0, 0, 0, 0, 0, 0])]) (T' := [(119, [nI 11, nI 1, nI 20, 0, 0, nI 480, nI 20, nI 30, 0, 0, 0, 0, 0, 0, 0, 0, 0, 0, 0, 0, 0, 0, 0, 0, 0, 0, 0, 0]), (118, [0, 0, 0, 0, 0, 0, 0, 0, 0, 0, 0, 0, 0, 0, 0, 0, 0, 0, 0, 0, 0, 0])]) (L := [nI 11, nI 1, nI 20, 0, 0, nI 480, nI 20, 0, 0, 0, 0, 0, 0, 0, 0, 0, 0, 0, 0, 0, 0, 0, 0, 0, 0, 0, 0, 0]) rfl (by decide) rfl (fun _ hx => (tl_ne hx).trans (tl_ne hx).symm)) ?_
  refine v_aload_n K dX10_init_157 rfl ?_
  refine v_getr (q := 119) K fX10_7 sh_118 (show 118 < 132 by decide) ((congrFun (CT_at (z := 0) (F := GL) (b := 118) (hi := 132) (f := g0) (a := 118) (T := [(118, [120, 121, 122, 0, 123, 0, 0, 0, 0, 0, 0, 124, 125, 126, 127, 128, 0, 0, 129, 130, 131, 132])]) (L := [120, 121, 122, 0, 123, 0, 0, 0, 0, 0, 0, 124, 125, 126, 127, 128, 0, 0, 129, 130, 131, 132]) rfl) 0).trans rfl) dX10_init_158 ?_
  refine v_bipushN K 12 rfl dX10_init_161 ?_
  refine v_iconstN K 1 rfl dX10_init_163 ?_
  refine v_iast K sh_119 (show 119 < 132 by decide) (by decide) dX10_init_164 ?_
  refine v_hq (CT_u2 (F := FH) (T := [(119, [nI 11, nI 1, nI 20, 0, 0, nI 480, nI 20, nI 30, 0, 0, 0, 0, 0, 0, 0, 0, 0, 0, 0, 0, 0, 0, 0, 0, 0, 0, 0, 0]), (118, [0, 0, 0, 0, 0, 0, 0, 0, 0, 0, 0, 0, 0, 0, 0, 0, 0, 0, 0, 0, 0, 0])]) (T' := [(119, [nI 11, nI 1, nI 20, 0, 0, nI 480, nI 20, nI 30, 0, 0, 0, 0, nI 1, 0, 0, 0, 0, 0, 0, 0, 0, 0, 0, 0, 0, 0, 0, 0]), (118, [0, 0, 0, 0, 0, 0, 0, 0, 0, 0, 0, 0, 0, 0, 0, 0, 0, 0, 0, 0, 0, 0])]) (L := [nI 11, nI 1, nI 20, 0, 0, nI 480, nI 20, nI 30, 0, 0, 0, 0, 0, 0, 0, 0, 0, 0, 0, 0, 0, 0, 0, 0, 0, 0, 0, 0]) rfl (by decide) rfl (fun _ hx => (tl_ne hx).trans (tl_ne hx).symm)) ?_
  refine v_iconstN K 0 rfl dX10_init_165 ?_
  refine v_istore_n (lv2 := [(1, .int (nI 0)), (0, .ref 118)]) K dX10_init_166 (by decide) rfl ?_
  refine v_iload_n K dX10_init_167 rfl ?_
  refine v_bipushN K 12 rfl dX10_init_168 ?_
  refine v_icmpN_ge (tgt := 191) K (by decide) (by decide) dX10_init_170 rfl (fun c => absurd c (by decide)) (fun _ => ?_)
  refine v_aload_n K dX10_init_173 rfl ?_
  refine v_getr (q := 119) K fX10_7 sh_118 (show 118 < 132 by decide) ((congrFun (CT_at (z := 0) (F := GL) (b := 118) (hi := 132) (f := g0) (a := 118) (T := [(118, [120, 121, 122, 0, 123, 0, 0, 0, 0, 0, 0, 124, 125, 126, 127, 128, 0, 0, 129, 130, 131, 132])]) (L := [120, 121, 122, 0, 123, 0, 0, 0, 0, 0, 0, 124, 125, 126, 127, 128, 0, 0, 129, 130, 131, 132]) rfl) 0).trans rfl) dX10_init_174 ?_
  refine v_bipushN K 16 rfl dX10_init_177 ?_
  refine v_iload_n K dX10_init_179 rfl ?_
  refine v_iaddN K dX10_init_180 ?_
  refine v_top (y := nI 16) rfl ?_
  refine v_sipushN K 1080 rfl dX10_init_181 ?_
  refine v_iast K sh_119 (show 119 < 132 by decide) (by decide) dX10_init_184 ?_
  refine v_hq (CT_u2 (F := FH) (T := [(119, [nI 11, nI 1, nI 20, 0, 0, nI 480, nI 20, nI 30, 0, 0, 0, 0, nI 1, 0, 0, 0, 0, 0, 0, 0, 0, 0, 0, 0, 0, 0, 0, 0]), (118, [0, 0, 0, 0, 0, 0, 0, 0, 0, 0, 0, 0, 0, 0, 0, 0, 0, 0, 0, 0, 0, 0])]) (T' := [(119, [nI 11, nI 1, nI 20, 0, 0, nI 480, nI 20, nI 30, 0, 0, 0, 0, nI 1, 0, 0, 0, nI 1080, 0, 0, 0, 0, 0, 0, 0, 0, 0, 0, 0]), (118, [0, 0, 0, 0, 0, 0, 0, 0, 0, 0, 0, 0, 0, 0, 0, 0, 0, 0, 0, 0, 0, 0])]) (L := [nI 11, nI 1, nI 20, 0, 0, nI 480, nI 20, nI 30, 0, 0, 0, 0, nI 1, 0, 0, 0, 0, 0, 0, 0, 0, 0, 0, 0, 0, 0, 0, 0]) rfl (by decide) rfl (fun _ hx => (tl_ne hx).trans (tl_ne hx).symm)) ?_
  refine v_iincN (lv2 := [(1, .int (nI 1)), (0, .ref 118)]) K 1 dX10_init_185 rfl rfl (by decide) rfl ?_
  refine v_goto (tgt := 167) K dX10_init_188 rfl ?_
  refine v_iload_n K dX10_init_167 rfl ?_
  refine v_bipushN K 12 rfl dX10_init_168 ?_
  refine v_icmpN_ge (tgt := 191) K (by decide) (by decide) dX10_init_170 rfl (fun c => absurd c (by decide)) (fun _ => ?_)
  refine v_aload_n K dX10_init_173 rfl ?_
  refine v_getr (q := 119) K fX10_7 sh_118 (show 118 < 132 by decide) ((congrFun (CT_at (z := 0) (F := GL) (b := 118) (hi := 132) (f := g0) (a := 118) (T := [(118, [120, 121, 122, 0, 123, 0, 0, 0, 0, 0, 0, 124, 125, 126, 127, 128, 0, 0, 129, 130, 131, 132])]) (L := [120, 121, 122, 0, 123, 0, 0, 0, 0, 0, 0, 124, 125, 126, 127, 128, 0, 0, 129, 130, 131, 132]) rfl) 0).trans rfl) dX10_init_174 ?_
  refine v_bipushN K 16 rfl dX10_init_177 ?_
  refine v_iload_n K dX10_init_179 rfl ?_
  refine v_iaddN K dX10_init_180 ?_
  refine v_top (y := nI 17) rfl ?_
  refine v_sipushN K 1080 rfl dX10_init_181 ?_
  refine v_iast K sh_119 (show 119 < 132 by decide) (by decide) dX10_init_184 ?_
  refine v_hq (CT_u2 (F := FH) (T := [(119, [nI 11, nI 1, nI 20, 0, 0, nI 480, nI 20, nI 30, 0, 0, 0, 0, nI 1, 0, 0, 0, nI 1080, 0, 0, 0, 0, 0, 0, 0, 0, 0, 0, 0]), (118, [0, 0, 0, 0, 0, 0, 0, 0, 0, 0, 0, 0, 0, 0, 0, 0, 0, 0, 0, 0, 0, 0])]) (T' := [(119, [nI 11, nI 1, nI 20, 0, 0, nI 480, nI 20, nI 30, 0, 0, 0, 0, nI 1, 0, 0, 0, nI 1080, nI 1080, 0, 0, 0, 0, 0, 0, 0, 0, 0, 0]), (118, [0, 0, 0, 0, 0, 0, 0, 0, 0, 0, 0, 0, 0, 0, 0, 0, 0, 0, 0, 0, 0, 0])]) (L := [nI 11, nI 1, nI 20, 0, 0, nI 480, nI 20, nI 30, 0, 0, 0, 0, nI 1, 0, 0, 0, nI 1080, 0, 0, 0, 0, 0, 0, 0, 0, 0, 0, 0]) rfl (by decide) rfl (fun _ hx => (tl_ne hx).trans (tl_ne hx).symm)) ?_
  refine v_iincN (lv2 := [(1, .int (nI 2)), (0, .ref 118)]) K 1 dX10_init_185 rfl rfl (by decide) rfl ?_
  refine v_goto (tgt := 167) K dX10_init_188 rfl ?_
  refine v_iload_n K dX10_init_167 rfl ?_
  refine v_bipushN K 12 rfl dX10_init_168 ?_
  refine v_icmpN_ge (tgt := 191) K (by decide) (by decide) dX10_init_170 rfl (fun c => absurd c (by decide)) (fun _ => ?_)
  refine v_aload_n K dX10_init_173 rfl ?_
  refine v_getr (q := 119) K fX10_7 sh_118 (show 118 < 132 by decide) ((congrFun (CT_at (z := 0) (F := GL) (b := 118) (hi := 132) (f := g0) (a := 118) (T := [(118, [120, 121, 122, 0, 123, 0, 0, 0, 0, 0, 0, 124, 125, 126, 127, 128, 0, 0, 129, 130, 131, 132])]) (L := [120, 121, 122, 0, 123, 0, 0, 0, 0, 0, 0, 124, 125, 126, 127, 128, 0, 0, 129, 130, 131, 132]) rfl) 0).trans rfl) dX10_init_174 ?_
  refine v_bipushN K 16 rfl dX10_init_177 ?_
  refine v_iload_n K dX10_init_179 rfl ?_
  refine v_iaddN K dX10_init_180 ?_
  refine v_top (y := nI 18) rfl ?_
  refine v_sipushN K 1080 rfl dX10_init_181 ?_
  refine v_iast K sh_119 (show 119 < 132 by decide) (by decide) dX10_init_184 ?_
  refine v_hq (CT_u2 (F := FH) (T := [(119, [nI 11, nI 1, nI 20, 0, 0, nI 480, nI 20, nI 30, 0, 0, 0, 0, nI 1, 0, 0, 0, nI 1080, nI 1080, 0, 0, 0, 0, 0, 0, 0, 0, 0, 0]), (118, [0, 0, 0, 0, 0, 0, 0, 0, 0, 0, 0, 0, 0, 0, 0, 0, 0, 0, 0, 0, 0, 0])]) (T' := [(119, [nI 11, nI 1, nI 20, 0, 0, nI 480, nI 20, nI 30, 0, 0, 0, 0, nI 1, 0, 0, 0, nI 1080, nI 1080, nI 1080, 0, 0, 0, 0, 0, 0, 0, 0, 0]), (118, [0, 0, 0, 0, 0, 0, 0, 0, 0, 0, 0, 0, 0, 0, 0, 0, 0, 0, 0, 0, 0, 0])]) (L := [nI 11, nI 1, nI 20, 0, 0, nI 480, nI 20, nI 30, 0, 0, 0, 0, nI 1, 0, 0, 0, nI 1080, nI 1080, 0, 0, 0, 0, 0, 0, 0, 0, 0, 0]) rfl (by decide) rfl (fun _ hx => (tl_ne hx).trans (tl_ne hx).symm)) ?_
  refine v_iincN (lv2 := [(1, .int (nI 3)), (0, .ref 118)]) K 1 dX10_init_185 rfl rfl (by decide) rfl ?_
  refine v_goto (tgt := 167) K dX10_init_188 rfl ?_
  refine v_iload_n K dX10_init_167 rfl ?_
  refine v_bipushN K 12 rfl dX10_init_168 ?_
  refine v_icmpN_ge (tgt := 191) K (by decide) (by decide) dX10_init_170 rfl (fun c => absurd c (by decide)) (fun _ => ?_)
  refine v_aload_n K dX10_init_173 rfl ?_
  refine v_getr (q := 119) K fX10_7 sh_118 (show 118 < 132 by decide) ((congrFun (CT_at (z := 0) (F := GL) (b := 118) (hi := 132) (f := g0) (a := 118) (T := [(118, [120, 121, 122, 0, 123, 0, 0, 0, 0, 0, 0, 124, 125, 126, 127, 128, 0, 0, 129, 130, 131, 132])]) (L := [120, 121, 122, 0, 123, 0, 0, 0, 0, 0, 0, 124, 125, 126, 127, 128, 0, 0, 129, 130, 131, 132]) rfl) 0).trans rfl) dX10_init_174 ?_
  refine v_bipushN K 16 rfl dX10_init_177 ?_
  refine v_iload_n K dX10_init_179 rfl ?_
  refine v_iaddN K dX10_init_180 ?_
  refine v_top (y := nI 19) rfl ?_
  refine v_sipushN K 1080 rfl dX10_init_181 ?_
  refine v_iast K sh_119 (show 119 < 132 by decide) (by decide) dX10_init_184 ?_
  refine v_hq (CT_u2 (F := FH) (T := [(119, [nI 11, nI 1, nI 20, 0, 0, nI 480, nI 20, nI 30, 0, 0, 0, 0, nI 1, 0, 0, 0, nI 1080, nI 1080, nI 1080, 0, 0, 0, 0, 0, 0, 0, 0, 0]), (118, [0, 0, 0, 0, 0, 0, 0, 0, 0, 0, 0, 0, 0, 0, 0, 0, 0, 0, 0, 0, 0, 0])]) (T' := [(119, [nI 11, nI 1, nI 20, 0, 0, nI 480, nI 20, nI 30, 0, 0, 0, 0, nI 1, 0, 0, 0, nI 1080, nI 1080, nI 1080, nI 1080, 0, 0, 0, 0, 0, 0, 0, 0]), (118, [0, 0, 0, 0, 0, 0, 0, 0, 0, 0, 0, 0, 0, 0, 0, 0, 0, 0, 0, 0, 0, 0])]) (L := [nI 11, nI 1, nI 20, 0, 0, nI 480, nI 20, nI 30, 0, 0, 0, 0, nI 1, 0, 0, 0, nI 1080, nI 1080, nI 1080, 0, 0, 0, 0, 0, 0, 0, 0, 0]) rfl (by decide) rfl (fun _ hx => (tl_ne hx).trans (tl_ne hx).symm)) ?_
  refine v_iincN (lv2 := [(1, .int (nI 4)), (0, .ref 118)]) K 1 dX10_init_185 rfl rfl (by decide) rfl ?_
  refine v_goto (tgt := 167) K dX10_init_188 rfl ?_
  refine v_iload_n K dX10_init_167 rfl ?_
  refine v_bipushN K 12 rfl dX10_init_168 ?_
  refine v_icmpN_ge (tgt := 191) K (by decide) (by decide) dX10_init_170 rfl (fun c => absurd c (by decide)) (fun _ => ?_)
  refine v_aload_n K dX10_init_173 rfl ?_
  refine v_getr (q := 119) K fX10_7 sh_118 (show 118 < 132 by decide) ((congrFun (CT_at (z := 0) (F := GL) (b := 118) (hi := 132) (f := g0) (a := 118) (T := [(118, [120, 121, 122, 0, 123, 0, 0, 0, 0, 0, 0, 124, 125, 126, 127, 128, 0, 0, 129, 130, 131, 132])]) (L := [120, 121, 122, 0, 123, 0, 0, 0, 0, 0, 0, 124, 125, 126, 127, 128, 0, 0, 129, 130, 131, 132]) rfl) 0).trans rfl) dX10_init_174 ?_
  refine v_bipushN K 16 rfl dX10_init_177 ?_
  refine v_iload_n K dX10_init_179 rfl ?_
  refine v_iaddN K dX10_init_180 ?_
  refine v_top (y := nI 20) rfl ?_
  refine v_sipushN K 1080 rfl dX10_init_181 ?_
  refine v_iast K sh_119 (show 119 < 132 by decide) (by decide) dX10_init_184 ?_
  refine v_hq (CT_u2 (F := FH) (T := [(119, [nI 11, nI 1, nI 20, 0, 0, nI 480, nI 20, nI 30, 0, 0, 0, 0, nI 1, 0, 0, 0, nI 1080, nI 1080, nI 1080, nI 1080, 0, 0, 0, 0, 0, 0, 0, 0]), (118, [0, 0, 0, 0, 0, 0, 0, 0, 0, 0, 0, 0, 0, 0, 0, 0, 0, 0, 0, 0, 0, 0])]) (T' := [(119, [nI 11, nI 1, nI 20, 0, 0, nI 480, nI 20, nI 30, 0, 0, 0, 0, nI 1, 0, 0, 0, nI 1080, nI 1080, nI 1080, nI 1080, nI 1080, 0, 0, 0, 0, 0, 0, 0]), (118, [0, 0, 0, 0, 0, 0, 0, 0, 0, 0, 0, 0, 0, 0, 0, 0, 0, 0, 0, 0, 0, 0])]) (L := [nI 11, nI 1, nI 20, 0, 0, nI 480, nI 20, nI 30, 0, 0, 0, 0, nI 1, 0, 0, 0, nI 1080, nI 1080, nI 1080, nI 1080, 0, 0, 0, 0, 0, 0, 0, 0]) rfl (by decide) rfl (fun _ hx => (tl_ne hx).trans (tl_ne hx).symm)) ?_
  refine v_iincN (lv2 := [(1, .int (nI 5)), (0, .ref 118)]) K 1 dX10_init_185 rfl rfl (by decide) rfl ?_
  refine v_goto (tgt := 167) K dX10_init_188 rfl ?_
  refine v_iload_n K dX10_init_167 rfl ?_
  refine v_bipushN K 12 rfl dX10_init_168 ?_
  refine v_icmpN_ge (tgt := 191) K (by decide) (by decide) dX10_init_170 rfl (fun c => absurd c (by decide)) (fun _ => ?_)
  refine v_aload_n K dX10_init_173 rfl ?_
  refine v_getr (q := 119) K fX10_7 sh_118 (show 118 < 132 by decide) ((congrFun (CT_at (z := 0) (F := GL) (b := 118) (hi := 132) (f := g0) (a := 118) (T := [(118, [120, 121, 122, 0, 123, 0, 0, 0, 0, 0, 0, 124, 125, 126, 127, 128, 0, 0, 129, 130, 131, 132])]) (L := [120, 121, 122, 0, 123, 0, 0, 0, 0, 0, 0, 124, 125, 126, 127, 128, 0, 0, 129, 130, 131, 132]) rfl) 0).trans rfl) dX10_init_174 ?_
  refine v_bipushN K 16 rfl dX10_init_177 ?_
  refine v_iload_n K dX10_init_179 rfl ?_
  refine v_iaddN K dX10_init_180 ?_
  refine v_top (y := nI 21) rfl ?_
  refine v_sipushN K 1080 rfl dX10_init_181 ?_
  refine v_iast K sh_119 (show 119 < 132 by decide) (by decide) dX10_init_184 ?_
  refine v_hq (CT_u2 (F := FH) (T := [(119, [nI 11, nI 1, nI 20, 0, 0, nI 480, nI 20, nI 30, 0, 0, 0, 0, nI 1, 0, 0, 0, nI 1080, nI 1080, nI 1080, nI 1080, nI 1080, 0, 0, 0, 0, 0, 0, 0]), (118, [0, 0, 0, 0, 0, 0, 0, 0, 0, 0, 0, 0, 0, 0, 0, 0, 0, 0, 0, 0, 0, 0])]) (T' := [(119, [nI 11, nI 1, nI 20, 0, 0, nI 480, nI 20, nI 30, 0, 0, 0, 0, nI 1, 0, 0, 0, nI 1080, nI 1080, nI 1080, nI 1080, nI 1080, nI 1080, 0, 0, 0, 0, 0, 0]), (118, [0, 0, 0, 0, 0, 0, 0, 0, 0, 0, 0, 0, 0, 0, 0, 0, 0, 0, 0, 0, 0, 0])]) (L := [nI 11, nI 1, nI 20, 0, 0, nI 480, nI 20, nI 30, 0, 0, 0, 0, nI 1, 0, 0, 0, nI 1080, nI 1080, nI 1080, nI 1080, nI 1080, 0, 0, 0, 0, 0, 0, 0]) rfl (by decide) rfl (fun _ hx => (tl_ne hx).trans (tl_ne hx).symm)) ?_
  refine v_iincN (lv2 := [(1, .int (nI 6)), (0, .ref 118)]) K 1 dX10_init_185 rfl rfl (by decide) rfl ?_
  refine v_goto (tgt := 167) K dX10_init_188 rfl ?_
  refine v_iload_n K dX10_init_167 rfl ?_
  refine v_bipushN K 12 rfl dX10_init_168 ?_
  refine v_icmpN_ge (tgt := 191) K (by decide) (by decide) dX10_init_170 rfl (fun c => absurd c (by decide)) (fun _ => ?_)
  refine v_aload_n K dX10_init_173 rfl ?_
  refine v_getr (q := 119) K fX10_7 sh_118 (show 118 < 132 by decide) ((congrFun (CT_at (z := 0) (F := GL) (b := 118) (hi := 132) (f := g0) (a := 118) (T := [(118, [120, 121, 122, 0, 123, 0, 0, 0, 0, 0, 0, 124, 125, 126, 127, 128, 0, 0, 129, 130, 131, 132])]) (L := [120, 121, 122, 0, 123, 0, 0, 0, 0, 0, 0, 124, 125, 126, 127, 128, 0, 0, 129, 130, 131, 132]) rfl) 0).trans rfl) dX10_init_174 ?_
  refine v_bipushN K 16 rfl dX10_init_177 ?_
  refine v_iload_n K dX10_init_179 rfl ?_
  refine v_iaddN K dX10_init_180 ?_
  refine v_top (y := nI 22) rfl ?_
  refine v_sipushN K 1080 rfl dX10_init_181 ?_
  refine v_iast K sh_119 (show 119 < 132 by decide) (by decide) dX10_init_184 ?_
  refine v_hq (CT_u2 (F := FH) (T := [(119, [nI 11, nI 1, nI 20, 0, 0, nI 480, nI 20, nI 30, 0, 0, 0, 0, nI 1, 0, 0, 0, nI 1080, nI 1080, nI 1080, nI 1080, nI 1080, nI 1080, 0, 0, 0, 0, 0, 0]), (118, [0, 0, 0, 0, 0, 0, 0, 0, 0, 0, 0, 0, 0, 0, 0, 0, 0, 0, 0, 0, 0, 0])]) (T' := [(119, [nI 11, nI 1, nI 20, 0, 0, nI 480, nI 20, nI 30, 0, 0, 0, 0, nI 1, 0, 0, 0, nI 1080, nI 1080, nI 1080, nI 1080, nI 1080, nI 1080, nI 1080, 0, 0, 0, 0, 0]), (118, [0, 0, 0, 0, 0, 0, 0, 0, 0, 0, 0, 0, 0, 0, 0, 0, 0, 0, 0, 0, 0, 0])]) (L := [nI 11, nI 1, nI 20, 0, 0, nI 480, nI 20, nI 30, 0, 0, 0, 0, nI 1, 0, 0, 0, nI 1080, nI 1080, nI 1080, nI 1080, nI 1080, nI 1080, 0, 0, 0, 0, 0, 0]) rfl (by decide) rfl (fun _ hx => (tl_ne hx).trans (tl_ne hx).symm)) ?_
  refine v_iincN (lv2 := [(1, .int (nI 7)), (0, .ref 118)]) K 1 dX10_init_185 rfl rfl (by decide) rfl ?_
  refine v_goto (tgt := 167) K dX10_init_188 rfl ?_
  refine v_iload_n K dX10_init_167 rfl ?_
  refine v_bipushN K 12 rfl dX10_init_168 ?_
  refine v_icmpN_ge (tgt := 191) K (by decide) (by decide) dX10_init_170 rfl (fun c => absurd c (by decide)) (fun _ => ?_)
  refine v_aload_n K dX10_init_173 rfl ?_
  refine v_getr (q := 119) K fX10_7 sh_118 (show 118 < 132 by decide) ((congrFun (CT_at (z := 0) (F := GL) (b := 118) (hi := 132) (f := g0) (a := 118) (T := [(118, [120, 121, 122, 0, 123, 0, 0, 0, 0, 0, 0, 124, 125, 126, 127, 128, 0, 0, 129, 130, 131, 132])]) (L := [120, 121, 122, 0, 123, 0, 0, 0, 0, 0, 0, 124, 125, 126, 127, 128, 0, 0, 129, 130, 131, 132]) rfl) 0).trans rfl) dX10_init_174 ?_
  refine v_bipushN K 16 rfl dX10_init_177 ?_
  refine v_iload_n K dX10_init_179 rfl ?_
  refine v_iaddN K dX10_init_180 ?_
  refine v_top (y := nI 23) rfl ?_
  refine v_sipushN K 1080 rfl dX10_init_181 ?_
  refine v_iast K sh_119 (show 119 < 132 by decide) (by decide) dX10_init_184 ?_
  refine v_hq (CT_u2 (F := FH) (T := [(119, [nI 11, nI 1, nI 20, 0, 0, nI 480, nI 20, nI 30, 0, 0, 0, 0, nI 1, 0, 0, 0, nI 1080, nI 1080, nI 1080, nI 1080, nI 1080, nI 1080, nI 1080, 0, 0, 0, 0, 0]), (118, [0, 0, 0, 0, 0, 0, 0, 0, 0, 0, 0, 0, 0, 0, 0, 0, 0, 0, 0, 0, 0, 0])]) (T' := [(119, [nI 11, nI 1, nI 20, 0, 0, nI 480, nI 20, nI 30, 0, 0, 0, 0, nI 1, 0, 0, 0, nI 1080, nI 1080, nI 1080, nI 1080, nI 1080, nI 1080, nI 1080, nI 1080, 0, 0, 0, 0]), (118, [0, 0, 0, 0, 0, 0, 0, 0, 0, 0, 0, 0, 0, 0, 0, 0, 0, 0, 0, 0, 0, 0])]) (L := [nI 11, nI 1, nI 20, 0, 0, nI 480, nI 20, nI 30, 0, 0, 0, 0, nI 1, 0, 0, 0, nI 1080, nI 1080, nI 1080, nI 1080, nI 1080, nI 1080, nI 1080, 0, 0, 0, 0, 0]) rfl (by decide) rfl (fun _ hx => (tl_ne hx).trans (tl_ne hx).symm)) ?_
  refine v_iincN (lv2 := [(1, .int (nI 8)), (0, .ref 118)]) K 1 dX10_init_185 rfl rfl (by decide) rfl ?_
  refine v_goto (tgt := 167) K dX10_init_188 rfl ?_
  refine v_iload_n K dX10_init_167 rfl ?_
  refine v_bipushN K 12 rfl dX10_init_168 ?_
  refine v_icmpN_ge (tgt := 191) K (by decide) (by decide) dX10_init_170 rfl (fun c => absurd c (by decide)) (fun _ => ?_)
  refine v_aload_n K dX10_init_173 rfl ?_
  refine v_getr (q := 119) K fX10_7 sh_118 (show 118 < 132 by decide) ((congrFun (CT_at (z := 0) (F := GL) (b := 118) (hi := 132) (f := g0) (a := 118) (T := [(118, [120, 121, 122, 0, 123, 0, 0, 0, 0, 0, 0, 124, 125, 126, 127, 128, 0, 0, 129, 130, 131, 132])]) (L := [120, 121, 122, 0, 123, 0, 0, 0, 0, 0, 0, 124, 125, 126, 127, 128, 0, 0, 129, 130, 131, 132]) rfl) 0).trans rfl) dX10_init_174 ?_
  refine v_bipushN K 16 rfl dX10_init_177 ?_
  refine v_iload_n K dX10_init_179 rfl ?_
  refine v_iaddN K dX10_init_180 ?_
  refine v_top (y := nI 24) rfl ?_
  refine v_sipushN K 1080 rfl dX10_init_181 ?_
  refine v_iast K sh_119 (show 119 < 132 by decide) (by decide) dX10_init_184 ?_
  refine v_hq (CT_u2 (F := FH) (T := [(119, [nI 11, nI 1, nI 20, 0, 0, nI 480, nI 20, nI 30, 0, 0, 0, 0, nI 1, 0, 0, 0, nI 1080, nI 1080, nI 1080, nI 1080, nI 1080, nI 1080, nI 1080, nI 1080, 0, 0, 0, 0]), (118, [0, 0, 0, 0, 0, 0, 0, 0, 0, 0, 0, 0, 0, 0, 0, 0, 0, 0, 0, 0, 0, 0])]) (T' := [(119, [nI 11, nI 1, nI 20, 0, 0, nI 480, nI 20, nI 30, 0, 0, 0, 0, nI 1, 0, 0, 0, nI 1080, nI 1080, nI 1080, nI 1080, nI 1080, nI 1080, nI 1080, nI 1080, nI 1080, 0, 0, 0]), (118, [0, 0, 0, 0, 0, 0, 0, 0, 0, 0, 0, 0, 0, 0, 0, 0, 0, 0, 0, 0, 0, 0])]) (L := [nI 11, nI 1, nI 20, 0, 0, nI 480, nI 20, nI 30, 0, 0, 0, 0, nI 1, 0, 0, 0, nI 1080, nI 1080, nI 1080, nI 1080, nI 1080, nI 1080, nI 1080, nI 1080, 0, 0, 0, 0]) rfl (by decide) rfl (fun _ hx => (tl_ne hx).trans (tl_ne hx).symm)) ?_
  refine v_iincN (lv2 := [(1, .int (nI 9)), (0, .ref 118)]) K 1 dX10_init_185 rfl rfl (by decide) rfl ?_
  refine v_goto (tgt := 167) K dX10_init_188 rfl ?_
  refine v_iload_n K dX10_init_167 rfl ?_
  refine v_bipushN K 12 rfl dX10_init_168 ?_
  refine v_icmpN_ge (tgt := 191) K (by decide) (by decide) dX10_init_170 rfl (fun c => absurd c (by decide)) (fun _ => ?_)
  refine v_aload_n K dX10_init_173 rfl ?_
  refine v_getr (q := 119) K fX10_7 sh_118 (show 118 < 132 by decide) ((congrFun (CT_at (z := 0) (F := GL) (b := 118) (hi := 132) (f := g0) (a := 118) (T := [(118, [120, 121, 122, 0, 123, 0, 0, 0, 0, 0, 0, 124, 125, 126, 127, 128, 0, 0, 129, 130, 131, 132])]) (L := [120, 121, 122, 0, 123, 0, 0, 0, 0, 0, 0, 124, 125, 126, 127, 128, 0, 0, 129, 130, 131, 132]) rfl) 0).trans rfl) dX10_init_174 ?_
  refine v_bipushN K 16 rfl dX10_init_177 ?_
  refine v_iload_n K dX10_init_179 rfl ?_
  refine v_iaddN K dX10_init_180 ?_
  refine v_top (y := nI 25) rfl ?_
  refine v_sipushN K 1080 rfl dX10_init_181 ?_
  refine v_iast K sh_119 (show 119 < 132 by decide) (by decide) dX10_init_184 ?_
  refine v_hq (CT_u2 (F := FH) (T := [(119, [nI 11, nI 1, nI 20, 0, 0, nI 480, nI 20, nI 30, 0, 0, 0, 0, nI 1, 0, 0, 0, nI 1080, nI 1080, nI 1080, nI 1080, nI 1080, nI 1080, nI 1080, nI 1080, nI 1080, 0, 0, 0]), (118, [0, 0, 0, 0, 0, 0, 0, 0, 0, 0, 0, 0, 0, 0, 0, 0, 0, 0, 0, 0, 0, 0])]) (T' := [(119, [nI 11, nI 1, nI 20, 0, 0, nI 480, nI 20, nI 30, 0, 0, 0, 0, nI 1, 0, 0, 0, nI 1080, nI 1080, nI 1080, nI 1080, nI 1080, nI 1080, nI 1080, nI 1080, nI 1080, nI 1080, 0, 0]), (118, [0, 0, 0, 0, 0, 0, 0, 0, 0, 0, 0, 0, 0, 0, 0, 0, 0, 0, 0, 0, 0, 0])]) (L := [nI 11, nI 1, nI 20, 0, 0, nI 480, nI 20, nI 30, 0, 0, 0, 0, nI 1, 0, 0, 0, nI 1080, nI 1080, nI 1080, nI 1080, nI 1080, nI 1080, nI 1080, nI 1080, nI 1080, 0, 0, 0]) rfl (by decide) rfl (fun _ hx => (tl_ne hx).trans (tl_ne hx).symm)) ?_
  refine v_iincN (lv2 := [(1, .int (nI 10)), (0, .ref 118)]) K 1 dX10_init_185 rfl rfl (by decide) rfl ?_
  refine v_goto (tgt := 167) K dX10_init_188 rfl ?_
  refine v_iload_n K dX10_init_167 rfl ?_
  refine v_bipushN K 12 rfl dX10_init_168 ?_
  refine v_icmpN_ge (tgt := 191) K (by decide) (by decide) dX10_init_170 rfl (fun c => absurd c (by decide)) (fun _ => ?_)
  refine v_aload_n K dX10_init_173 rfl ?_
  refine v_getr (q := 119) K fX10_7 sh_118 (show 118 < 132 by decide) ((congrFun (CT_at (z := 0) (F := GL) (b := 118) (hi := 132) (f := g0) (a := 118) (T := [(118, [120, 121, 122, 0, 123, 0, 0, 0, 0, 0, 0, 124, 125, 126, 127, 128, 0, 0, 129, 130, 131, 132])]) (L := [120, 121, 122, 0, 123, 0, 0, 0, 0, 0, 0, 124, 125, 126, 127, 128, 0, 0, 129, 130, 131, 132]) rfl) 0).trans rfl) dX10_init_174 ?_
  refine v_bipushN K 16 rfl dX10_init_177 ?_
  refine v_iload_n K dX10_init_179 rfl ?_
  refine v_iaddN K dX10_init_180 ?_
  refine v_top (y := nI 26) rfl ?_
  refine v_sipushN K 1080 rfl dX10_init_181 ?_
  refine v_iast K sh_119 (show 119 < 132 by decide) (by decide) dX10_init_184 ?_
  refine v_hq (CT_u2 (F := FH) (T := [(119, [nI 11, nI 1, nI 20, 0, 0, nI 480, nI 20, nI 30, 0, 0, 0, 0, nI 1, 0, 0, 0, nI 1080, nI 1080, nI 1080, nI 1080, nI 1080, nI 1080, nI 1080, nI 1080, nI 1080, nI 1080, 0, 0]), (118, [0, 0, 0, 0, 0, 0, 0, 0, 0, 0, 0, 0, 0, 0, 0, 0, 0, 0, 0, 0, 0, 0])]) (T' := [(119, [nI 11, nI 1, nI 20, 0, 0, nI 480, nI 20, nI 30, 0, 0, 0, 0, nI 1, 0, 0, 0, nI 1080, nI 1080, nI 1080, nI 1080, nI 1080, nI 1080, nI 1080, nI 1080, nI 1080, nI 1080, nI 1080, 0]), (118, [0, 0, 0, 0, 0, 0, 0, 0, 0, 0, 0, 0, 0, 0, 0, 0, 0, 0, 0, 0, 0, 0])]) (L := [nI 11, nI 1, nI 20, 0, 0, nI 480, nI 20, nI 30, 0, 0, 0, 0, nI 1, 0, 0, 0, nI 1080, nI 1080, nI 1080, nI 1080, nI 1080, nI 1080, nI 1080, nI 1080, nI 1080, nI 1080, 0, 0]) rfl (by decide) rfl (fun _ hx => (tl_ne hx).trans (tl_ne hx).symm)) ?_
  refine v_iincN (lv2 := [(1, .int (nI 11)), (0, .ref 118)]) K 1 dX10_init_185 rfl rfl (by decide) rfl ?_
  refine v_goto (tgt := 167) K dX10_init_188 rfl ?_
  refine v_iload_n K dX10_init_167 rfl ?_
  refine v_bipushN K 12 rfl dX10_init_168 ?_
  refine v_icmpN_ge (tgt := 191) K (by decide) (by decide) dX10_init_170 rfl (fun c => absurd c (by decide)) (fun _ => ?_)
  refine v_aload_n K dX10_init_173 rfl ?_
  refine v_getr (q := 119) K fX10_7 sh_118 (show 118 < 132 by decide) ((congrFun (CT_at (z := 0) (F := GL) (b := 118) (hi := 132) (f := g0) (a := 118) (T := [(118, [120, 121, 122, 0, 123, 0, 0, 0, 0, 0, 0, 124, 125, 126, 127, 128, 0, 0, 129, 130, 131, 132])]) (L := [120, 121, 122, 0, 123, 0, 0, 0, 0, 0, 0, 124, 125, 126, 127, 128, 0, 0, 129, 130, 131, 132]) rfl) 0).trans rfl) dX10_init_174 ?_
  refine v_bipushN K 16 rfl dX10_init_177 ?_
  refine v_iload_n K dX10_init_179 rfl ?_
  refine v_iaddN K dX10_init_180 ?_
  refine v_top (y := nI 27) rfl ?_
  refine v_sipushN K 1080 rfl dX10_init_181 ?_
  refine v_iast K sh_119 (show 119 < 132 by decide) (by decide) dX10_init_184 ?_
  refine v_hq (CT_u2 (F := FH) (T := [(119, [nI 11, nI 1, nI 20, 0, 0, nI 480, nI 20, nI 30, 0, 0, 0, 0, nI 1, 0, 0, 0, nI 1080, nI 1080, nI 1080, nI 1080, nI 1080, nI 1080, nI 1080, nI 1080, nI 1080, nI 1080, nI 1080, 0]), (118, [0, 0, 0, 0, 0, 0, 0, 0, 0, 0, 0, 0, 0, 0, 0, 0, 0, 0, 0, 0, 0, 0])]) (T' := [(119, [nI 11, nI 1, nI 20, 0, 0, nI 480, nI 20, nI 30, 0, 0, 0, 0, nI 1, 0, 0, 0, nI 1080, nI 1080, nI 1080, nI 1080, nI 1080, nI 1080, nI 1080, nI 1080, nI 1080, nI 1080, nI 1080, nI 1080]), (118, [0, 0, 0, 0, 0, 0, 0, 0, 0, 0, 0, 0, 0, 0, 0, 0, 0, 0, 0, 0, 0, 0])]) (L := [nI 11, nI 1, nI 20, 0, 0, nI 480, nI 20, nI 30, 0, 0, 0, 0, nI 1, 0, 0, 0, nI 1080, nI 1080, nI 1080, nI 1080, nI 1080, nI 1080, nI 1080, nI 1080, nI 1080, nI 1080, nI 1080, 0]) rfl (by decide) rfl (fun _ hx => (tl_ne hx).trans (tl_ne hx).symm)) ?_
  refine v_iincN (lv2 := [(1, .int (nI 12)), (0, .ref 118)]) K 1 dX10_init_185 rfl rfl (by decide) rfl ?_
  refine v_goto (tgt := 167) K dX10_init_188 rfl ?_
  refine v_iload_n K dX10_init_167 rfl ?_
  refine v_bipushN K 12 rfl dX10_init_168 ?_
  refine v_icmpN_ge (tgt := 191) K (by decide) (by decide) dX10_init_170 rfl (fun _ => ?_) (fun c => absurd c (by decide))
  exact v_vretA K dX10_init_191 B25 (CT_off (by decide) (by decide)) (CT_fin tN_eq (fun _ => rfl) (by decide +kernel) rfl) (W0.ct (by decide) (by decide) (by decide) (by decide +kernel) (by decide +kernel)) (FF_fin (by decide) (by decide) (by decide +kernel) rfl)
