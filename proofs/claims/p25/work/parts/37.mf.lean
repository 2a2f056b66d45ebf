set_option maxHeartbeats 400000 in
set_option maxRecDepth 100000 in
theorem mv_mesh (E : En) (ad : Nat → Nat) (g : Nat → Int32) (a : Nat → Nat → Int32) (v : Nat → Int64) (tl : va_W) (r c u : Int32) (hV : MO g a) : Ct E mX5_mesh 1 0 0 [.ref (ad 17), .int r, .int c, .int u] (mw E ad g a v tl) (fun o w => ∃ (ad1 : Nat → Nat) (g1 : Nat → Int32) (a1 : Nat → Nat → Int32) (v1 : Nat → Int64), o = some (.int (anMesh r c u)) ∧ Sh (sMesh g r c u) (aMesh a r c u) g1 a1 ∧ MO g1 a1 ∧ ad1 17 = ad 17 ∧ w = mw E ad1 g1 a1 v1 tl) := by
  refine Ct.of (by decide) (Nat.le_of_ble_eq_true rfl) (fun X C hQ hin => ?_)
  have C : Cx E X cX5_mesh 4 RX5 (some .int) 1 40 0 0 := C
  obtain ⟨R, Cc, T, n, m, D, F, ⟨⟨d0, d0a, d0b⟩, ⟨d1, d1a, d1b⟩, ⟨d2, d2a, d2b⟩, ⟨d4, d4a⟩, d5, ⟨d6, d6a⟩, dcm, dn0, dn1⟩, ⟨dF, dF1, dF2⟩, drow, dout⟩ := id hV.1
  refine mg_iload_n C dX5_mesh_0 rfl ?_
  refine mg_iconst (v := 1) C dX5_mesh_1 (by decide) ?_
  refine mg_bipush (v := 8) C dX5_mesh_2 (by decide) ?_
  refine mg_callS C (ct_X5_in E _ _ _ _) oX5_98 rfl rfl rfl dX5_mesh_4 (fun o4 w4 z4 => ?_)
  obtain ⟨rfl, rfl⟩ := z4
  refine mg_v ?_
  refine mg_if_eq C 30 dX5_mesh_7 (by decide) (fun h7 => ?_) (fun h7 => ?_)
  · refine mg_bipush (v := (-2)) C dX5_mesh_30 (by decide) ?_
    exact mg_iret C hQ dX5_mesh_32 (⟨ad, g, a, v, by rw [anMesh, if_pos h7] <;> first | rfl | decide, by rw [sMesh, aMesh, if_pos h7, if_pos h7]; exact Sh.rf, hV, rfl, rfl⟩)
  · refine mg_iload_n C dX5_mesh_10 rfl ?_
    refine mg_iconst (v := 1) C dX5_mesh_11 (by decide) ?_
    refine mg_bipush (v := 24) C dX5_mesh_12 (by decide) ?_
    refine mg_callS C (ct_X5_in E _ _ _ _) oX5_98 rfl rfl rfl dX5_mesh_14 (fun o14 w14 z14 => ?_)
    obtain ⟨rfl, rfl⟩ := z14
    refine mg_v ?_
    refine mg_if_eq C 30 dX5_mesh_17 (by decide) (fun h17 => ?_) (fun h17 => ?_)
    · refine mg_bipush (v := (-2)) C dX5_mesh_30 (by decide) ?_
      exact mg_iret C hQ dX5_mesh_32 (⟨ad, g, a, v, by rw [anMesh, if_neg h7, if_pos h17] <;> first | rfl | decide, by rw [sMesh, aMesh, if_neg h7, if_pos h17, if_neg h7, if_pos h17]; exact Sh.rf, hV, rfl, rfl⟩)
    · refine mg_iload_n C dX5_mesh_20 rfl ?_
      refine mg_iconst (v := 1) C dX5_mesh_21 (by decide) ?_
      refine mg_bipush (v := 15) C dX5_mesh_22 (by decide) ?_
      refine mg_callS C (ct_X5_in E _ _ _ _) oX5_98 rfl rfl rfl dX5_mesh_24 (fun o24 w24 z24 => ?_)
      obtain ⟨rfl, rfl⟩ := z24
      refine mg_v ?_
      refine mg_if_ne C 33 dX5_mesh_27 (by decide) (fun h27 => ?_) (fun h27 => ?_)
      · refine mg_aload_n C dX5_mesh_33 rfl ?_
        refine mg_iload_n C dX5_mesh_34 rfl ?_
        refine mg_iload_n C dX5_mesh_35 rfl ?_
        refine mg_iload_n C dX5_mesh_36 rfl ?_
        refine mg_callV C (ct_X5_begins E _ _ _ _ _ _ _ _) oX5_78 17 rfl rfl rfl rfl rfl dX5_mesh_37 (fun o37 w37 z37 => ?_)
        obtain ⟨rfl, rfl⟩ := z37
        refine mg_v0 ?_
        refine mg_iconst (v := 1) C dX5_mesh_40 (by decide) ?_
        exact mg_iret C hQ dX5_mesh_41 (by
    refine ⟨ad, bg g r c u, ra a, v, ?_, ?_, ⟨mesh_iv hV.1 h7 h17 h27, hV.2.1, hV.2.2⟩, rfl, rfl⟩
    · rw [anMesh, if_neg h7, if_neg h17, if_neg h27] <;> first | rfl | decide
    · rw [sMesh, aMesh, if_neg h7, if_neg h17, if_neg h27, if_neg h7, if_neg h17, if_neg h27]; exact Sh.rf)
      · refine mg_bipush (v := (-2)) C dX5_mesh_30 (by decide) ?_
        exact mg_iret C hQ dX5_mesh_32 (⟨ad, g, a, v, by rw [anMesh, if_neg h7, if_neg h17, if_pos h27] <;> first | rfl | decide, by rw [sMesh, aMesh, if_neg h7, if_neg h17, if_pos h27, if_neg h7, if_neg h17, if_pos h27]; exact Sh.rf, hV, rfl, rfl⟩)
theorem act_0 : ∀ x, x < 512 → nI x / 64 = nI x >>> ((6 - 3 * 0 : Int32) &&& 31) &&& 7 := by decide +kernel
theorem act_1 : ∀ x, x < 512 → nI x / 8 - nI x / 8 / 8 * 8 = nI x >>> ((6 - 3 * 1 : Int32) &&& 31) &&& 7 := by decide +kernel
theorem act_2 : ∀ x, x < 512 → nI x - nI x / 8 * 8 = nI x >>> ((6 - 3 * 2 : Int32) &&& 31) &&& 7 := by decide +kernel
set_option maxHeartbeats 400000 in
set_option maxRecDepth 100000 in
theorem mv_actAt (E : En) (ad : Nat → Nat) (g : Nat → Int32) (a : Nat → Nat → Int32) (v : Nat → Int64) (tl : va_W) (i u : Int32) (hV : MO g a) : Ct E mX5_actAt 1 0 0 [.ref (ad 17), .int i, .int u] (mw E ad g a v tl) (fun o w => ∃ (ad1 : Nat → Nat) (g1 : Nat → Int32) (a1 : Nat → Nat → Int32) (v1 : Nat → Int64), o = some (.int (gActAt g a i u)) ∧ Sh g a g1 a1 ∧ MO g1 a1 ∧ ad1 17 = ad 17 ∧ w = mw E ad1 g1 a1 v1 tl) := by
  refine Ct.of (by decide) (Nat.le_of_ble_eq_true rfl) (fun X C hQ hin => ?_)
  have C : Cx E X cX5_actAt 3 RX5 (some .int) 1 40 0 0 := C
  obtain ⟨R, Cc, T, n, m, D, F, ⟨⟨d0, d0a, d0b⟩, ⟨d1, d1a, d1b⟩, ⟨d2, d2a, d2b⟩, ⟨d4, d4a⟩, d5, ⟨d6, d6a⟩, dcm, dn0, dn1⟩, ⟨dF, dF1, dF2⟩, drow, dout⟩ := id hV.1
  refine mg_iload_n C dX5_actAt_0 rfl ?_
  refine mg_iconst (v := 0) C dX5_actAt_1 (by decide) ?_
  refine mg_iconst (v := 2) C dX5_actAt_2 (by decide) ?_
  refine mg_callS C (ct_X5_in E _ _ _ _) oX5_98 rfl rfl rfl dX5_actAt_3 (fun o3 w3 z3 => ?_)
  obtain ⟨rfl, rfl⟩ := z3
  refine mg_v ?_
  refine mg_if_ne C 12 dX5_actAt_6 (by decide) (fun h6 => ?_) (fun h6 => ?_)
  · refine mg_iload_n C dX5_actAt_12 rfl ?_
    refine mg_iconst (v := 0) C dX5_actAt_13 (by decide) ?_
    refine mg_aload_n C dX5_actAt_14 rfl ?_
    refine mg_get C inG_X5 fX5_160 (ci := 5) rfl rfl 17 rfl rfl dX5_actAt_15 ?_
    refine mg_iconst (v := 1) C dX5_actAt_18 (by decide) ?_
    refine mg_isub C dX5_actAt_19 ?_
    refine mg_callS C (ct_X5_in E _ _ _ _) oX5_98 rfl rfl rfl dX5_actAt_20 (fun o20 w20 z20 => ?_)
    obtain ⟨rfl, rfl⟩ := z20
    refine mg_v ?_
    refine mg_if_ne C 30 dX5_actAt_23 (by decide) (fun h23 => ?_) (fun h23 => ?_)
    · obtain ⟨q, eq, hq⟩ := wi_in dF (by omega) h23
      have hini : vp_in i 8000 := (by rw [eq]; exact vp_in_nI (by omega) (by decide))
      obtain ⟨x, hx, ex0⟩ := hV.2.2 q (by unfold fN; rw [dF, nI_clamp (by omega)]; exact hq)
      have ex1 : a 13 i.toNatClampNeg = nI x := (by rw [eq, nI_clamp (by omega)]; exact ex0)
      refine mg_iload_n C dX5_actAt_30 rfl ?_
      refine mg_if_ne C 46 dX5_actAt_31 (by decide) (fun h31 => ?_) (fun h31 => ?_)
      · refine mg_iload_n C dX5_actAt_46 rfl ?_
        refine mg_iconst (v := 1) C dX5_actAt_47 (by decide) ?_
        refine mg_icmp_ne C 66 dX5_actAt_48 (by decide) (fun h48 => ?_) (fun h48 => ?_)
        · have hu2 : u = 2 := (by obtain ⟨j, ej, l, u2⟩ := wi_mk (P := 0) (Q := 2) rfl rfl h6; subst ej; have n0 : j ≠ 0 := (fun e => h31 (by rw [e]; rfl)); have n1 : j ≠ 1 := (fun e => h48 (by rw [e]; rfl)); have e2 : j = 2 := (by omega); rw [e2]; rfl)
          refine mg_aload_n C dX5_actAt_66 rfl ?_
          refine mg_get C inG_X5 fX5_72 (ci := 5) rfl rfl 17 rfl rfl dX5_actAt_67 ?_
          refine mg_iload_n C dX5_actAt_70 rfl ?_
          refine mg_iald C 0 rfl (hini) dX5_actAt_71 ?_
          refine mg_tos (w := .int (nI x)) (by rw [ex1]) ?_
          refine mg_bipush (v := 8) C dX5_actAt_72 (by decide) ?_
          refine mg_irem C dX5_actAt_74 (by decide) ?_
          exact mg_iret C hQ dX5_actAt_75 (⟨ad, g, a, v, by rw [gActAt, if_neg h6, if_neg h23, ex1]; rw [hu2]; exact congrArg (fun z => some (Value.int z)) (act_2 x hx), Sh.rf, hV, rfl, rfl⟩)
        · refine mg_aload_n C dX5_actAt_51 rfl ?_
          refine mg_get C inG_X5 fX5_72 (ci := 5) rfl rfl 17 rfl rfl dX5_actAt_52 ?_
          refine mg_iload_n C dX5_actAt_55 rfl ?_
          refine mg_iald C 0 rfl (hini) dX5_actAt_56 ?_
          refine mg_tos (w := .int (nI x)) (by rw [ex1]) ?_
          refine mg_bipush (v := 8) C dX5_actAt_57 (by decide) ?_
          refine mg_idiv C dX5_actAt_59 (by decide) ?_
          refine mg_bipush (v := 8) C dX5_actAt_60 (by decide) ?_
          refine mg_irem C dX5_actAt_62 (by decide) ?_
          refine mg_goto C 75 dX5_actAt_63 (by decide) ?_
          exact mg_iret C hQ dX5_actAt_75 (⟨ad, g, a, v, by rw [gActAt, if_neg h6, if_neg h23, ex1]; rw [h48]; exact congrArg (fun z => some (Value.int z)) (act_1 x hx), Sh.rf, hV, rfl, rfl⟩)
      · refine mg_aload_n C dX5_actAt_34 rfl ?_
        refine mg_get C inG_X5 fX5_72 (ci := 5) rfl rfl 17 rfl rfl dX5_actAt_35 ?_
        refine mg_iload_n C dX5_actAt_38 rfl ?_
        refine mg_iald C 0 rfl (hini) dX5_actAt_39 ?_
        refine mg_tos (w := .int (nI x)) (by rw [ex1]) ?_
        refine mg_bipush (v := 64) C dX5_actAt_40 (by decide) ?_
        refine mg_idiv C dX5_actAt_42 (by decide) ?_
        refine mg_goto C 75 dX5_actAt_43 (by decide) ?_
        exact mg_iret C hQ dX5_actAt_75 (⟨ad, g, a, v, by rw [gActAt, if_neg h6, if_neg h23, ex1]; rw [h31]; exact congrArg (fun z => some (Value.int z)) (act_0 x hx), Sh.rf, hV, rfl, rfl⟩)
    · refine mg_iconst (v := (-1)) C dX5_actAt_26 (by decide) ?_
      refine mg_goto C 75 dX5_actAt_27 (by decide) ?_
      exact mg_iret C hQ dX5_actAt_75 (⟨ad, g, a, v, by rw [gActAt, if_neg h6, if_pos h23] <;> first | rfl | decide, Sh.rf, hV, rfl, rfl⟩)
  · refine mg_bipush (v := (-2)) C dX5_actAt_9 (by decide) ?_
    exact mg_iret C hQ dX5_actAt_11 (⟨ad, g, a, v, by rw [gActAt, if_pos h6] <;> first | rfl | decide, Sh.rf, hV, rfl, rfl⟩)
theorem chA_lt {F A : Nat → Nat} {T : Nat} (hF : ∀ i, i ≤ T → i = 0 ∨ F i < i) (hA : ∀ i, i ≤ T → A i < 512) : ∀ (n t j : Nat), t ≤ T → t ≤ n → j < dpt F t t → chA F A n t j < 512 := by
  intro n
  induction n with
  | zero =>
    intro t j hT hn hj
    have e : t = 0 := by omega
    subst e
    exact absurd hj (Nat.not_lt_zero j)
  | succ n ih =>
    intro t j hT hn hj
    by_cases e : t = 0
    · subst e; exact absurd hj (Nat.not_lt_zero j)
    · have h1 : F t < t := (hF t hT).resolve_left e
      have h2 := dpt_s hF hT e
      simp only [chA]
      by_cases h3 : dpt F t t = j + 1
      · rw [if_pos h3]; exact hA t hT
      · rw [if_neg h3]; exact ih (F t) j (by omega) (by omega) (by omega)
set_option maxHeartbeats 400000 in
set_option maxRecDepth 100000 in
theorem mx_X5_becomesFound (E : En) (ad : Nat → Nat) (g : Nat → Int32) (a : Nat → Nat → Int32) (v : Nat → Int64) (tl : va_W) (kN sN : Nat) (B : Bs) (t0 : Nat) (c0 : Int32) (hI : MI kN sN B g a v) (ht0 : t0 < B.1) : Ct E mX5_becomesFound 0 0 0 [.ref (ad 17), .int (nI t0), .int c0] (mw E ad g a v tl) (fun o w => ∃ (g1 : Nat → Int32) (a1 : Nat → Nat → Int32), o = none ∧ g1 15 = nI (dpt B.2.2.1 t0 t0) ∧ g1 16 = c0 ∧ (∀ i, i ≠ 15 → i ≠ 16 → g1 i = g i) ∧ (∀ j, j ≠ 13 → a1 j = a j) ∧ (∀ j, j < dpt B.2.2.1 t0 t0 → a1 13 j = nI (chA B.2.2.1 B.2.2.2 t0 t0 j)) ∧ w = mw E ad g1 a1 v tl) := by
  refine Ct.of (by decide) (Nat.le_of_ble_eq_true rfl) (fun X C hQ hin => ?_)
  have C : Cx E X cX5_becomesFound 5 RX5 none 0 0 0 0 := C
  obtain ⟨i14, iB, i3, i4, i5, i6⟩ := id hI
  have iB8 := iB.1
  have hF : ∀ i, i ≤ t0 → i = 0 ∨ B.2.2.1 i < i := fun i hi => (iB.2 i (by omega)).2.2.1
  obtain ⟨D, hD⟩ : ∃ D, D = dpt B.2.2.1 t0 t0 := ⟨_, rfl⟩
  have hDle : D ≤ t0 := (by rw [hD]; exact dpt_le hF t0 t0 (Nat.le_refl _) (Nat.le_refl _))
  have loop2 : ∀ (m x : Nat) (a1 : Nat → Nat → Int32), x < m → x ≤ t0 → dpt B.2.2.1 x x ≤ D → (∀ j, j ≠ 13 → a1 j = a j) → (∀ j, dpt B.2.2.1 x x ≤ j → j < D → a1 13 j = nI (chA B.2.2.1 B.2.2.2 t0 t0 j)) → (∀ j, j < dpt B.2.2.1 x x → chA B.2.2.1 B.2.2.2 x x j = chA B.2.2.1 B.2.2.2 t0 t0 j) → GG E X (mw E ad (ug (ug g 16 c0) 15 (nI D)) a1 v tl) 0 0 44 [(0, .ref (ad 17)), (1, .int (nI t0)), (2, .int c0), (3, .int (nI (dpt B.2.2.1 x x))), (4, .int (nI x))] [] := by
    intro m
    induction m with
    | zero => intro x a1 hm; omega
    | succ m ih =>
      intro x a1 hm hx hdD ho hc1 hc2
      refine mg_iload C dX5_becomesFound_44 rfl ?_
      refine mg_if_le C 77 dX5_becomesFound_46 (by decide) (fun h46 => ?_) (fun h46 => ?_)
      · exact mg_vret C hQ dX5_becomesFound_77 (⟨(ug (ug g 16 c0) 15 (nI D)), a1, rfl, by rw [← hD]; rfl, rfl, fun i h1 h2 => (ug_n h1).trans (ug_n h2), ho, fun j hj => hc1 j (by have ex : x = 0 := (by rcases Nat.eq_zero_or_pos x with q | q; exact q; exact absurd h46 (nI_nle q (by omega))); rw [ex]; exact Nat.zero_le j) (by rw [hD]; exact hj), rfl⟩)
      · have hx0 : x ≠ 0 := (by intro e; rw [e] at h46; exact h46 (Int32.le_refl 0))
        have hin4 : vp_in (nI x) 8000 := vp_in_nI (by omega) (by decide)
        have hFx : B.2.2.1 x < x := (hF x hx).resolve_left hx0
        have hdx := dpt_s hF hx hx0
        have er : nI (dpt B.2.2.1 x x) + Int32.ofInt (-1) = nI (dpt B.2.2.1 (B.2.2.1 x) (B.2.2.1 x)) := (by rw [hdx]; exact (sub1 _).trans (nI_pred _))
        refine mg_iinc C dX5_becomesFound_49 rfl rfl ?_
        refine mg_lve (lv' := [(0, _), (1, _), (2, _), (3, _), (4, _)]) rfl ?_
        refine mg_lve (lv' := [(0, .ref (ad 17)), (1, .int (nI t0)), (2, .int c0), (3, .int (nI (dpt B.2.2.1 (B.2.2.1 x) (B.2.2.1 x)))), (4, .int (nI x))]) (by rw [er]) ?_
        have hin3 : vp_in (nI (dpt B.2.2.1 (B.2.2.1 x) (B.2.2.1 x))) 8000 := vp_in_nI (by omega) (by decide)
        refine mg_aload_n C dX5_becomesFound_52 rfl ?_
        refine mg_get C inG_X5 fX5_72 (ci := 5) rfl rfl 17 rfl rfl dX5_becomesFound_53 ?_
        refine mg_iload_n C dX5_becomesFound_56 rfl ?_
        refine mg_aload_n C dX5_becomesFound_57 rfl ?_
        refine mg_get C inG_X5 fX5_66 (ci := 5) rfl rfl 17 rfl rfl dX5_becomesFound_58 ?_
        refine mg_iload C dX5_becomesFound_61 rfl ?_
        refine mg_iald C 2 rfl (hin4) dX5_becomesFound_63 ?_
        refine mg_tos (w := .int (nI (B.2.2.2 x))) (by show Value.int (a1 14 _) = _; rw [ho 14 (by decide), nI_clamp (by omega), i5 x (by omega)]) ?_
        refine mg_iast C 0 rfl (hin3) dX5_becomesFound_64 (ws' := (mw E ad (ug (ug g 16 c0) 15 (nI D)) (ups a1 13 ((nI (dpt B.2.2.1 (B.2.2.1 x) (B.2.2.1 x))) : Int32).toNatClampNeg (nI (B.2.2.2 x))) v tl)) rfl ?_
        refine mg_aload_n C dX5_becomesFound_65 rfl ?_
        refine mg_get C inG_X5 fX5_63 (ci := 5) rfl rfl 17 rfl rfl dX5_becomesFound_66 ?_
        refine mg_iload C dX5_becomesFound_69 rfl ?_
        refine mg_iald C 3 rfl (hin4) dX5_becomesFound_71 ?_
        refine mg_tos (w := .int (nI (B.2.2.1 x))) (by show Value.int (a1 12 _) = _; rw [ho 12 (by decide), nI_clamp (by omega), i4 x (by omega)]) ?_
        refine mg_istore C dX5_becomesFound_72 rfl ?_
        refine mg_lve (lv' := [(0, _), (1, _), (2, _), (3, _), (4, _)]) rfl ?_
        refine mg_goto C 44 dX5_becomesFound_74 (by decide) ?_
        refine ih (B.2.2.1 x) _ (by omega) (by omega) (by omega) (fun j hj => (ups_n hj).trans (ho j hj)) (fun j hj1 hj2 => ?_) (fun j hj => ?_)
        · show upd (a1 13) _ _ j = _
          rw [nI_clamp (by omega)]
          by_cases ej : j = dpt B.2.2.1 (B.2.2.1 x) (B.2.2.1 x)
          · rw [ej, pk_us, ← hc2 _ (by omega), chA_top hF hx hx0]
          · rw [pk_un ej]; exact hc1 j (by omega) hj2
        · rw [← chA_low hF hx hx0 hj]; exact hc2 j (by omega)
  have loop1 : ∀ (m x n : Nat), x < m → x ≤ t0 → n + dpt B.2.2.1 x x = D → GG E X (mw E ad (ug (ug g 16 c0) 15 (nI n)) a v tl) 0 0 12 [(0, .ref (ad 17)), (1, .int (nI t0)), (2, .int c0), (3, .int (nI x))] [] := by
    intro m
    induction m with
    | zero => intro x n hm; omega
    | succ m ih =>
      intro x n hm hx hn
      refine mg_iload_n C dX5_becomesFound_12 rfl ?_
      refine mg_if_le C 36 dX5_becomesFound_13 (by decide) (fun h13 => ?_) (fun h13 => ?_)
      · have ex : x = 0 := (by rcases Nat.eq_zero_or_pos x with q | q; exact q; exact absurd h13 (nI_nle q (by omega)))
        subst ex
        have en : n = D := (by rw [← hn]; rfl)
        subst en
        refine mg_aload_n C dX5_becomesFound_36 rfl ?_
        refine mg_get C inG_X5 fX5_160 (ci := 5) rfl rfl 17 rfl rfl dX5_becomesFound_37 ?_
        refine mg_istore_n C dX5_becomesFound_40 rfl ?_
        refine mg_lve (lv' := [(0, _), (1, _), (2, _), (3, _)]) rfl ?_
        refine mg_iload_n C dX5_becomesFound_41 rfl ?_
        refine mg_istore C dX5_becomesFound_42 rfl ?_
        refine mg_lve (lv' := [(0, _), (1, _), (2, _), (3, _), (4, _)]) rfl ?_
        refine mg_lve (lv' := [(0, .ref (ad 17)), (1, .int (nI t0)), (2, .int c0), (3, .int (nI (dpt B.2.2.1 t0 t0))), (4, .int (nI t0))]) (by rw [← hD]; rfl) ?_
        exact loop2 (t0 + 1) t0 a (by omega) (Nat.le_refl _) (by rw [hD]; exact Nat.le_refl _) (fun _ _ => rfl) (fun j hj1 hj2 => absurd hj2 (by rw [hD]; omega)) (fun _ _ => rfl)
      · have hx0 : x ≠ 0 := (by intro e; rw [e] at h13; exact h13 (Int32.le_refl 0))
        have hin3 : vp_in (nI x) 8000 := vp_in_nI (by omega) (by decide)
        have hFx : B.2.2.1 x < x := (hF x hx).resolve_left hx0
        have hdx := dpt_s hF hx hx0
        refine mg_aload_n C dX5_becomesFound_16 rfl ?_
        refine mg_dup C dX5_becomesFound_17 rfl ?_
        refine mg_get C inG_X5 fX5_160 (ci := 5) rfl rfl 17 rfl rfl dX5_becomesFound_18 ?_
        refine mg_iconst (v := 1) C dX5_becomesFound_21 (by decide) ?_
        refine mg_iadd C dX5_becomesFound_22 ?_
        refine mg_tos (w := .int (nI (n + 1))) (congrArg Value.int (nI_1 n)) ?_
        refine mg_put C inG_X5 fX5_160 (ci := 5) rfl rfl tyX5 tyX5_ok nmX5 rfl 17 rfl rfl rfl rfl dX5_becomesFound_23 (ws' := (mw E ad (ug (ug (ug g 16 c0) 15 (nI n)) 15 (nI (n + 1))) a v tl)) rfl ?_
        refine mg_aload_n C dX5_becomesFound_26 rfl ?_
        refine mg_get C inG_X5 fX5_63 (ci := 5) rfl rfl 17 rfl rfl dX5_becomesFound_27 ?_
        refine mg_iload_n C dX5_becomesFound_30 rfl ?_
        refine mg_iald C 3 rfl (hin3) dX5_becomesFound_31 ?_
        refine mg_tos (w := .int (nI (B.2.2.1 x))) (by rw [nI_clamp (by omega), i4 x (by omega)]) ?_
        refine mg_istore_n C dX5_becomesFound_32 rfl ?_
        refine mg_lve (lv' := [(0, _), (1, _), (2, _), (3, _)]) rfl ?_
        refine mg_goto C 12 dX5_becomesFound_33 (by decide) ?_
        refine mg_ws (ws' := mw E ad (ug (ug g 16 c0) 15 (nI (n + 1))) a v tl) ?_ ?_
        · exact congrArg (fun z => mw E ad z a v tl) (ug2 _ _ _ _)
        · exact ih (B.2.2.1 x) (n + 1) (by omega) (by omega) (by omega)
  refine mg_aload_n C dX5_becomesFound_0 rfl ?_
  refine mg_iload_n C dX5_becomesFound_1 rfl ?_
  refine mg_put C inG_X5 fX5_75 (ci := 5) rfl rfl tyX5 tyX5_ok nmX5 rfl 17 rfl rfl rfl rfl dX5_becomesFound_2 (ws' := (mw E ad (ug g 16 c0) a v tl)) rfl ?_
  refine mg_aload_n C dX5_becomesFound_5 rfl ?_
  refine mg_iconst (v := 0) C dX5_becomesFound_6 (by decide) ?_
  refine mg_put C inG_X5 fX5_160 (ci := 5) rfl rfl tyX5 tyX5_ok nmX5 rfl 17 rfl rfl rfl rfl dX5_becomesFound_7 (ws' := (mw E ad (ug (ug g 16 c0) 15 0) a v tl)) rfl ?_
  refine mg_iload_n C dX5_becomesFound_10 rfl ?_
  refine mg_istore_n C dX5_becomesFound_11 rfl ?_
  refine mg_lve (lv' := [(0, _), (1, _), (2, _), (3, _)]) rfl ?_
  exact loop1 (t0 + 1) t0 0 (by omega) (Nat.le_refl _) (by omega)
/-- what a search leaves in the reference -/
def MkP (g : Nat → Int32) (a : Nat → Nat → Int32) (Rz : Bs × Option (Nat × Nat)) (g1 : Nat → Int32) (a1 : Nat → Nat → Int32) : Prop :=
  g1 14 = nI Rz.1.1 ∧ (∀ i, i ≠ 14 → i ≠ 15 → i ≠ 16 → g1 i = g i) ∧ (∀ j, j ≠ 12 → j ≠ 13 → j ≠ 14 → j ≠ 15 → a1 j = a j) ∧
  match Rz.2 with
  | none => g1 15 = g 15 ∧ g1 16 = g 16 ∧ a1 13 = a 13
  | some q => g1 15 = nI (dpt Rz.1.2.2.1 q.1 q.1) ∧ g1 16 = nI q.2 ∧ dpt Rz.1.2.2.1 q.1 q.1 ≤ 8000 ∧ (∀ j, j < dpt Rz.1.2.2.1 q.1 q.1 → chA Rz.1.2.2.1 Rz.1.2.2.2 q.1 q.1 j < 512) ∧ ∀ j, j < dpt Rz.1.2.2.1 q.1 q.1 → a1 13 j = nI (chA Rz.1.2.2.1 Rz.1.2.2.2 q.1 q.1 j)
set_option maxHeartbeats 400000 in
set_option maxRecDepth 100000 in
theorem fn_main (E : En) (ad : Nat → Nat) (g : Nat → Int32) (a : Nat → Nat → Int32) (v : Nat → Int64) (tl : va_W) (kN sN w0 : Nat) (hk : KS kN sN) (hw0 : w0 < 256) (X : Fx) (C : Cx E X cX5_find 9 RX5 (some .int) 3 120 0 0) (hQ : Rt E X (fun o w => ∃ (g1 : Nat → Int32) (a1 : Nat → Nat → Int32) (v1 : Nat → Int64), o = some (.int (skA kN sN w0 8001 0 Bb)) ∧ MkP g a (skF kN sN w0 8001 0 Bb) g1 a1 ∧ w = mw E ad g1 a1 v1 tl) 0 0) (ee : Int64) : ∀ (m tt : Nat) (B1 : Bs) (g1 : Nat → Int32) (a1 : Nat → Nat → Int32) (v1 : Nat → Int64), 8001 < tt + m → MI kN sN B1 g1 a1 v1 → tt ≤ B1.1 → skA kN sN w0 (8001 - tt) tt B1 = skA kN sN w0 8001 0 Bb → skF kN sN w0 (8001 - tt) tt B1 = skF kN sN w0 8001 0 Bb → ((∀ i, i ≠ 14 → g1 i = g i) ∧ (∀ j, j ≠ 12 → j ≠ 14 → j ≠ 15 → a1 j = a j)) → GG E X (mw E ad g1 a1 v1 tl) 0 0 152 [(0, .ref (ad 17)), (1, .int (nI kN)), (2, .int (nI sN)), (3, .int (nI w0)), (4, .int (nI (Mk kN))), (5, .long ee), (7, .int (nI tt))] [] := by
  have hk2 := hk
  obtain ⟨⟨hk1, hk3⟩, hks, hs5⟩ := hk2
  intro m
  induction m with
  | zero =>
    intro tt B1 g1 a1 v1 hm hI1 hle
    have h8 := hI1.2.1.1
    omega
  | succ m ih =>
    intro tt B1 g1 a1 v1 hm hI1 hle hl1 hl2 hfr
    obtain ⟨j14, jB, j3, j4, j5, j6⟩ := id hI1
    have jB8 := jB.1
    refine mg_iload C dX5_find_152 rfl ?_
    refine mg_aload_n C dX5_find_154 rfl ?_
    refine mg_get C inG_X5 fX5_149 (ci := 5) rfl rfl 17 rfl rfl dX5_find_155 ?_
    refine mg_icmp_ge C 216 dX5_find_158 (by decide) (fun h158 => ?_) (fun h158 => ?_)
    · have hge : B1.1 ≤ tt := (by rcases Nat.lt_or_ge tt B1.1 with h | h; exact absurd (by rw [j14] at h158; exact h158) (nI_ge h (by omega)); exact h)
      refine mg_iconst (v := (-1)) C dX5_find_216 (by decide) ?_
      have er : skF kN sN w0 8001 0 Bb = (B1, none) := (by rw [← hl2, show 8001 - tt = (8001 - (tt + 1)) + 1 by omega, skF, if_neg (by omega)])
      exact mg_iret C hQ dX5_find_217 ⟨g1, a1, v1, by rw [← hl1, show 8001 - tt = (8001 - (tt + 1)) + 1 by omega, skA, if_neg (by omega)], by rw [er]; exact ⟨j14, fun i q1 q2 q3 => hfr.1 i q1, fun j q1 q2 q3 q4 => hfr.2 j q1 q3 q4, hfr.1 15 (by decide), hfr.1 16 (by decide), hfr.2 13 (by decide) (by decide) (by decide)⟩, rfl⟩
    · have hlt : tt < B1.1 := (by rcases Nat.lt_or_ge tt B1.1 with h | h; exact h; exact absurd (by rw [j14]; exact nI_le h (by omega)) h158)
      have hin4 : vp_in (nI tt) 8000 := vp_in_nI (by omega) (by decide)
      have esk : skA kN sN w0 (8001 - tt) tt B1 = (match fwc kN sN (B1.2.1 tt) w0 sN with | some _ => nI (dpt B1.2.2.1 tt tt) | none => match lpA kN sN tt sN B1 with | (false, _) => -5 | (true, B2) => skA kN sN w0 (8001 - (tt + 1)) (tt + 1) B2) := (by rw [show 8001 - tt = (8001 - (tt + 1)) + 1 by omega, skA, if_pos hlt]; rfl)
      have esf : skF kN sN w0 (8001 - tt) tt B1 = (match fwc kN sN (B1.2.1 tt) w0 sN with | some c => (B1, some (tt, c)) | none => match lpA kN sN tt sN B1 with | (false, B2) => (B2, none) | (true, B2) => skF kN sN w0 (8001 - (tt + 1)) (tt + 1) B2) := (by rw [show 8001 - tt = (8001 - (tt + 1)) + 1 by omega, skF, if_pos hlt]; rfl)
      refine mg_aload_n C dX5_find_161 rfl ?_
      refine mg_get C inG_X5 fX5_59 (ci := 5) rfl rfl 17 rfl rfl dX5_find_162 ?_
      refine mg_iload C dX5_find_165 rfl ?_
      refine mg_lald C 4 rfl (hin4) dX5_find_167 ?_
      refine mg_tos (w := .long (lN (emn kN (B1.2.1 tt) sN))) (by rw [nI_clamp (by omega), j3 tt hlt]) ?_
      refine mg_iload_n C dX5_find_168 rfl ?_
      refine mg_iload_n C dX5_find_169 rfl ?_
      refine mg_callS C (ct_X5_whereIs E _ kN sN (B1.2.1 tt) w0 hk hw0) oX5_171 rfl rfl rfl dX5_find_170 (fun o170 w170 z170 => ?_)
      obtain ⟨rfl, rfl⟩ := z170
      refine mg_v ?_
      refine mg_istore C dX5_find_173 rfl ?_
      refine mg_lve (lv' := [(0, _), (1, _), (2, _), (3, _), (4, _), (5, _), (7, _), (8, _)]) rfl ?_
      refine mg_iload C dX5_find_175 rfl ?_
      refine mg_iconst (v := (-1)) C dX5_find_177 (by decide) ?_
      refine mg_icmp_eq C 194 dX5_find_178 (by decide) (fun h178 => ?_) (fun h178 => ?_)
      · refine mg_aload_n C dX5_find_194 rfl ?_
        refine mg_iload C dX5_find_195 rfl ?_
        refine mg_iload_n C dX5_find_197 rfl ?_
        refine mg_iload_n C dX5_find_198 rfl ?_
        refine mg_iload C dX5_find_199 rfl ?_
        refine mg_callV C (ct_X5_goesOn E _ _ _ _ _ kN sN B1 tt hk hI1 hlt) oX5_179 17 rfl rfl rfl rfl rfl dX5_find_201 (fun o201 w201 z201 => ?_)
        obtain ⟨g3, a3, v3, rfl, hI3, hg3, ha3, rfl⟩ := z201
        refine mg_v ?_
        refine mg_if_ne C 210 dX5_find_204 (by decide) (fun h204 => ?_) (fun h204 => ?_)
        · refine mg_iinc C dX5_find_210 rfl rfl ?_
          refine mg_lve (lv' := [(0, _), (1, _), (2, _), (3, _), (4, _), (5, _), (7, _), (8, _)]) rfl ?_
          refine mg_goto C 152 dX5_find_213 (by decide) ?_
          refine mg_lv (lv' := [(0, .ref (ad 17)), (1, .int (nI kN)), (2, .int (nI sN)), (3, .int (nI w0)), (4, .int (nI (Mk kN))), (5, .long ee), (7, .int (nI (tt + 1)))]) (lv_tk 7 (by rw [nI_succ tt]; rfl)) ?_
          refine ih (tt + 1) _ _ _ _ (by omega) hI3 (lpA_t (k := kN) (s := sN) sN B1 hlt) ?_ ?_ ⟨fun i q4 => (hg3 i q4).trans (hfr.1 i q4), fun j q1 q2 q3 => (ha3 j q1 q2 q3).trans (hfr.2 j q1 q2 q3)⟩
          · rw [← hl1, esk, fwn0 hs5 h178]; dsimp only; rw [pair_t (bi1 h204)]
          · rw [← hl2, esf, fwn0 hs5 h178]; dsimp only; rw [pair_t (bi1 h204)]
        · refine mg_bipush (v := (-5)) C dX5_find_207 (by decide) ?_
          have er : skF kN sN w0 8001 0 Bb = ((lpA kN sN tt sN B1).2, none) := (by rw [← hl2, esf, fwn0 hs5 h178]; dsimp only; rw [pair_f (bi0 h204)])
          exact mg_iret C hQ dX5_find_209 ⟨g3, a3, v3, by rw [← hl1, esk, fwn0 hs5 h178]; dsimp only; rw [pair_f (bi0 h204)], by rw [er]; exact ⟨hI3.1, fun i q1 q2 q3 => (hg3 i q1).trans (hfr.1 i q1), fun j q1 q2 q3 q4 => (ha3 j q1 q3 q4).trans (hfr.2 j q1 q3 q4), (hg3 15 (by decide)).trans (hfr.1 15 (by decide)), (hg3 16 (by decide)).trans (hfr.1 16 (by decide)), (ha3 13 (by decide) (by decide) (by decide)).trans (hfr.2 13 (by decide) (by decide) (by decide))⟩, rfl⟩
      · refine mg_aload_n C dX5_find_181 rfl ?_
        refine mg_iload C dX5_find_182 rfl ?_
        refine mg_iload C dX5_find_184 rfl ?_
        refine mg_callV C (mx_X5_becomesFound E _ _ _ _ _ kN sN B1 tt _ hI1 hlt) oX5_175 17 rfl rfl rfl rfl rfl dX5_find_186 (fun o186 w186 z186 => ?_)
        obtain ⟨g3, a3, rfl, hg15, hg16, hgo, hao3, hch, rfl⟩ := z186
        refine mg_v0 ?_
        refine mg_aload_n C dX5_find_189 rfl ?_
        refine mg_get C inG_X5 fX5_160 (ci := 5) rfl rfl 17 rfl rfl dX5_find_190 ?_
        obtain ⟨cc, ecc⟩ := fws0 h178
        have er : skF kN sN w0 8001 0 Bb = (B1, some (tt, cc)) := (by rw [← hl2, esf, ecc])
        have hFB : ∀ i, i ≤ tt → i = 0 ∨ B1.2.2.1 i < i := fun i hi => (jB.2 i (by omega)).2.2.1
        have hdle : dpt B1.2.2.1 tt tt ≤ 8000 := Nat.le_trans (dpt_le hFB tt tt (Nat.le_refl _) (Nat.le_refl _)) (by omega)
        exact mg_iret C hQ dX5_find_193 ⟨g3, a3, v1, by rw [hg15, ← hl1, esk, ecc], by rw [er]; exact ⟨by rw [hgo 14 (by decide) (by decide)]; exact j14, fun i q1 q2 q3 => (hgo i q2 q3).trans (hfr.1 i q1), fun j q1 q2 q3 q4 => (hao3 j q2).trans (hfr.2 j q1 q3 q4), hg15, by rw [hg16, ecc]; rfl, hdle, fun j hj => chA_lt hFB (fun i hi => (jB.2 i (by omega)).2.2.2) tt tt j (Nat.le_refl _) (Nat.le_refl _) hj, hch⟩, rfl⟩
set_option maxHeartbeats 400000 in
set_option maxRecDepth 100000 in
theorem fn_in (E : En) (ad : Nat → Nat) (g : Nat → Int32) (a : Nat → Nat → Int32) (v : Nat → Int64) (tl : va_W) (kN sN w0 : Nat) (hk : KS kN sN) (hw0 : w0 < 256) (X : Fx) (C : Cx E X cX5_find 9 RX5 (some .int) 3 120 0 0) (hQ : Rt E X (fun o w => ∃ (g1 : Nat → Int32) (a1 : Nat → Nat → Int32) (v1 : Nat → Int64), o = some (.int (skA kN sN w0 8001 0 Bb)) ∧ MkP g a (skF kN sN w0 8001 0 Bb) g1 a1 ∧ w = mw E ad g1 a1 v1 tl) 0 0) (a1 : Nat → Nat → Int32) (q : Nat) (hq : q < 8) (out : GG E X (mw E ad (ug g 14 0) a1 v tl) 0 0 134 [(0, .ref (ad 17)), (1, .int (nI kN)), (2, .int (nI sN)), (3, .int (nI w0)), (4, .int (nI (Mk kN))), (5, .long (lN (inI q (inV kN q) kN))), (7, .int (nI q)), (8, .int (nI kN))] []) : ∀ (m i : Nat), kN < i + m → i ≤ kN → GG E X (mw E ad (ug g 14 0) a1 v tl) 0 0 92 [(0, .ref (ad 17)), (1, .int (nI kN)), (2, .int (nI sN)), (3, .int (nI w0)), (4, .int (nI (Mk kN))), (5, .long (lN (inI q (inV kN q) i))), (7, .int (nI q)), (8, .int (nI i))] [] := by
  have hk2 := hk
  obtain ⟨⟨hk1, hk3⟩, hks, hs5⟩ := hk2
  intro m
  induction m with
  | zero => intro i hm hi; omega
  | succ m ih =>
    intro i hm hi
    refine mg_iload C dX5_find_92 rfl ?_
    refine mg_iload_n C dX5_find_94 rfl ?_
    refine mg_icmp_ge C 134 dX5_find_95 (by decide) (fun h95 => ?_) (fun h95 => ?_)
    · have ei : i = kN := (by rcases Nat.lt_or_ge i kN with h | h; exact absurd h95 (nI_ge h (by omega)); omega)
      subst ei
      exact out
    · have hlt : i < kN := (by rcases Nat.lt_or_ge i kN with h | h; exact h; exact absurd (nI_le h (by omega)) h95)
      refine mg_lload C dX5_find_98 rfl ?_
      refine mg_iload C dX5_find_100 rfl ?_
      refine mg_iload C dX5_find_102 rfl ?_
      refine mg_ishr C dX5_find_104 ?_
      refine mg_iconst (v := 1) C dX5_find_105 (by decide) ?_
      refine mg_iand C dX5_find_106 ?_
      refine mg_tos (w := .int (nI ((q >>> i) &&& 1))) (by rw [ni_shr (by omega) (by omega), show (1 : Int32) = nI 1 from rfl, ni_and]) ?_
      refine mg_iconst (v := 1) C dX5_find_107 (by decide) ?_
      refine mg_icmp_ne C 124 dX5_find_108 (by decide) (fun h108 => ?_) (fun h108 => ?_)
      · have hone : ¬ (q >>> i) &&& 1 = 1 := fun e => h108 (by rw [e]; rfl)
        refine mg_lconst (v := 0) C dX5_find_124 (by decide) ?_
        refine mg_lor C dX5_find_125 ?_
        refine mg_tos (w := .long (lN (inI q (inV kN q) (i + 1)))) (by rw [show (0 : Int64) = lN 0 from rfl, ln_or, inI, if_neg hone]) ?_
        refine mg_lstore C dX5_find_126 rfl ?_
        refine mg_lve (lv' := [(0, _), (1, _), (2, _), (3, _), (4, _), (5, _), (7, _), (8, _)]) rfl ?_
        refine mg_iinc C dX5_find_128 rfl rfl ?_
        refine mg_lve (lv' := [(0, _), (1, _), (2, _), (3, _), (4, _), (5, _), (7, _), (8, _)]) rfl ?_
        refine mg_goto C 92 dX5_find_131 (by decide) ?_
        refine mg_lve (lv' := [(0, .ref (ad 17)), (1, .int (nI kN)), (2, .int (nI sN)), (3, .int (nI w0)), (4, .int (nI (Mk kN))), (5, .long (lN (inI q (inV kN q) (i + 1)))), (7, .int (nI q)), (8, .int (nI (i + 1)))]) (by rw [nI_succ i]; rfl) ?_
        exact ih (i + 1) (by omega) (by omega)
      · have hone : (q >>> i) &&& 1 = 1 := (by have h5 : (q >>> i) &&& 1 ≤ 1 := Nat.and_le_right; exact (nI_eq (by omega) (by omega)).mp h108)
        refine mg_lconst (v := 1) C dX5_find_111 (by decide) ?_
        refine mg_bipush (v := 8) C dX5_find_112 (by decide) ?_
        refine mg_iload C dX5_find_114 rfl ?_
        refine mg_imul C dX5_find_116 ?_
        refine mg_iload C dX5_find_117 rfl ?_
        refine mg_iadd C dX5_find_119 ?_
        refine mg_lshl C dX5_find_120 ?_
        refine mg_goto C 125 dX5_find_121 (by decide) ?_
        refine mg_lor C dX5_find_125 ?_
        refine mg_tos (w := .long (lN (inI q (inV kN q) (i + 1)))) (by rw [show (8 : Int32) = nI 8 from rfl, pk_mul, nI_add, show (1 : Int64) = lN 1 from rfl, ln_shl (by omega), ln_or, inI, if_pos hone]) ?_
        refine mg_lstore C dX5_find_126 rfl ?_
        refine mg_lve (lv' := [(0, _), (1, _), (2, _), (3, _), (4, _), (5, _), (7, _), (8, _)]) rfl ?_
        refine mg_iinc C dX5_find_128 rfl rfl ?_
        refine mg_lve (lv' := [(0, _), (1, _), (2, _), (3, _), (4, _), (5, _), (7, _), (8, _)]) rfl ?_
        refine mg_goto C 92 dX5_find_131 (by decide) ?_
        refine mg_lve (lv' := [(0, .ref (ad 17)), (1, .int (nI kN)), (2, .int (nI sN)), (3, .int (nI w0)), (4, .int (nI (Mk kN))), (5, .long (lN (inI q (inV kN q) (i + 1)))), (7, .int (nI q)), (8, .int (nI (i + 1)))]) (by rw [nI_succ i]; rfl) ?_
        exact ih (i + 1) (by omega) (by omega)
set_option maxHeartbeats 400000 in
set_option maxRecDepth 100000 in
theorem fn_first (E : En) (ad : Nat → Nat) (g : Nat → Int32) (a : Nat → Nat → Int32) (v : Nat → Int64) (tl : va_W) (kN sN w0 : Nat) (hk : KS kN sN) (hw0 : w0 < 256) (X : Fx) (C : Cx E X cX5_find 9 RX5 (some .int) 3 120 0 0) (hQ : Rt E X (fun o w => ∃ (g1 : Nat → Int32) (a1 : Nat → Nat → Int32) (v1 : Nat → Int64), o = some (.int (skA kN sN w0 8001 0 Bb)) ∧ MkP g a (skF kN sN w0 8001 0 Bb) g1 a1 ∧ w = mw E ad g1 a1 v1 tl) 0 0) (a1 : Nat → Nat → Int32) (hz : ∀ p, p < 16384 → a1 15 p = 0) (hao : (∀ j, j ≠ 15 → a1 j = a j)) : ∀ (m q : Nat), 2 ^ kN < q + m → q ≤ 2 ^ kN → GG E X (mw E ad (ug g 14 0) a1 v tl) 0 0 81 [(0, .ref (ad 17)), (1, .int (nI kN)), (2, .int (nI sN)), (3, .int (nI w0)), (4, .int (nI (Mk kN))), (5, .long (lN (inV kN q))), (7, .int (nI q))] [] := by
  have hk2 := hk
  obtain ⟨⟨hk1, hk3⟩, hks, hs5⟩ := hk2
  have hp := pow_le3 hk3
  have hpp : 1 ≤ 2 ^ kN := Nat.one_le_two_pow
  intro m
  induction m with
  | zero => intro q hm hq; omega
  | succ m ih =>
    intro q hm hq
    refine mg_iload C dX5_find_81 rfl ?_
    refine mg_iconst (v := 1) C dX5_find_83 (by decide) ?_
    refine mg_iload_n C dX5_find_84 rfl ?_
    refine mg_ishl C dX5_find_85 ?_
    refine mg_tos (w := .int (nI (2 ^ kN))) (congrArg Value.int (tb_eq hk3)) ?_
    refine mg_icmp_ge C 140 dX5_find_86 (by decide) (fun h86 => ?_) (fun h86 => ?_)
    · have eq2 : q = 2 ^ kN := (by rcases Nat.lt_or_ge q (2 ^ kN) with h | h; exact absurd h86 (nI_ge h (by omega)); omega)
      subst eq2
      have hI0 : MI kN sN Bz (ug g 14 0) a1 v := ⟨rfl, ⟨by decide, fun j hj => absurd hj (Nat.not_lt_zero j)⟩, fun j hj => absurd hj (Nat.not_lt_zero j), fun j hj => absurd hj (Nat.not_lt_zero j), fun j hj => absurd hj (Nat.not_lt_zero j), ht_0 hz⟩
      refine mg_aload_n C dX5_find_140 rfl ?_
      refine mg_lload C dX5_find_141 rfl ?_
      refine mg_tos (w := .long (lN (emn kN 0 sN))) (by rw [inV_em hk]) ?_
      refine mg_iconst (v := 0) C dX5_find_143 (by decide) ?_
      refine mg_iconst (v := 0) C dX5_find_144 (by decide) ?_
      refine mg_callV C (ct_X5_meets E _ _ _ _ _ kN sN Bz 0 0 0 hk hI0 (Nat.pow_pos (by omega)) ⟨by omega, Or.inl rfl⟩ (by omega)) oX5_167 17 rfl rfl rfl rfl rfl dX5_find_145 (fun o145 w145 z145 => ?_)
      obtain ⟨g2, a2, v2, rfl, hI2, hg2, ha2, rfl⟩ := z145
      refine mg_v ?_
      refine mg_pop C dX5_find_148 rfl ?_
      refine mg_iconst (v := 0) C dX5_find_149 (by decide) ?_
      refine mg_istore C dX5_find_150 rfl ?_
      refine mg_lve (lv' := [(0, _), (1, _), (2, _), (3, _), (4, _), (5, _), (7, _)]) rfl ?_
      exact fn_main E ad g a v tl kN sN w0 hk hw0 X C hQ _ 8002 0 Bb g2 a2 v2 (by omega) hI2 (Nat.zero_le _) rfl rfl ⟨fun i q4 => (hg2 i q4).trans (ug_n q4), fun j q1 q2 q3 => (ha2 j q1 q2 q3).trans (hao j q3)⟩
    · have hlt : q < 2 ^ kN := (by rcases Nat.lt_or_ge q (2 ^ kN) with h | h; exact h; exact absurd (nI_le h (by omega)) h86)
      refine mg_iconst (v := 0) C dX5_find_89 (by decide) ?_
      refine mg_istore C dX5_find_90 rfl ?_
      refine mg_lve (lv' := [(0, _), (1, _), (2, _), (3, _), (4, _), (5, _), (7, _), (8, _)]) rfl ?_
      refine fn_in E ad g a v tl kN sN w0 hk hw0 X C hQ a1 q (by omega) ?_ (kN + 1) 0 (by omega) (by omega)
      refine mg_iinc C dX5_find_134 rfl rfl ?_
      refine mg_goto C 81 dX5_find_137 (by decide) ?_
      refine mg_lv (lv' := [(0, .ref (ad 17)), (1, .int (nI kN)), (2, .int (nI sN)), (3, .int (nI w0)), (4, .int (nI (Mk kN))), (5, .long (lN (inV kN (q + 1)))), (7, .int (nI (q + 1)))]) (lv_tk 7 (by rw [nI_succ q]; rfl)) ?_
      exact ih (q + 1) (by omega) (by omega)
set_option maxHeartbeats 400000 in
set_option maxRecDepth 100000 in
theorem fn_place (E : En) (ad : Nat → Nat) (g : Nat → Int32) (a : Nat → Nat → Int32) (v : Nat → Int64) (tl : va_W) (kN sN w0 : Nat) (hk : KS kN sN) (hw0 : w0 < 256) (X : Fx) (C : Cx E X cX5_find 9 RX5 (some .int) 3 120 0 0) (hQ : Rt E X (fun o w => ∃ (g1 : Nat → Int32) (a1 : Nat → Nat → Int32) (v1 : Nat → Int64), o = some (.int (skA kN sN w0 8001 0 Bb)) ∧ MkP g a (skF kN sN w0 8001 0 Bb) g1 a1 ∧ w = mw E ad g1 a1 v1 tl) 0 0) : ∀ (m i : Nat) (a1 : Nat → Nat → Int32), 16384 < i + m → i ≤ 16384 → (∀ p, p < i → a1 15 p = 0) → (∀ j, j ≠ 15 → a1 j = a j) → GG E X (mw E ad g a1 v tl) 0 0 48 [(0, .ref (ad 17)), (1, .int (nI kN)), (2, .int (nI sN)), (3, .int (nI w0)), (4, .int (nI (Mk kN))), (5, .int (nI i))] [] := by
  intro m
  induction m with
  | zero => intro i a1 hm hi; omega
  | succ m ih =>
    intro i a1 hm hi hz hao
    refine mg_iload C dX5_find_48 rfl ?_
    refine mg_sipush (v := 16384) C dX5_find_50 (by decide) ?_
    refine mg_icmp_ge C 70 dX5_find_53 (by decide) (fun h53 => ?_) (fun h53 => ?_)
    · have ei : i = 16384 := (by rcases Nat.lt_or_ge i 16384 with h | h; exact absurd h53 (nI_ge (b := 16384) h (by decide)); omega)
      subst ei
      refine mg_aload_n C dX5_find_70 rfl ?_
      refine mg_iconst (v := 0) C dX5_find_71 (by decide) ?_
      refine mg_put C inG_X5 fX5_149 (ci := 5) rfl rfl tyX5 tyX5_ok nmX5 rfl 17 rfl rfl rfl rfl dX5_find_72 (ws' := (mw E ad (ug g 14 0) a1 v tl)) rfl ?_
      refine mg_lconst (v := 0) C dX5_find_75 (by decide) ?_
      refine mg_lstore C dX5_find_76 rfl ?_
      refine mg_lve (lv' := [(0, _), (1, _), (2, _), (3, _), (4, _), (5, _)]) rfl ?_
      refine mg_iconst (v := 0) C dX5_find_78 (by decide) ?_
      refine mg_istore C dX5_find_79 rfl ?_
      refine mg_lve (lv' := [(0, _), (1, _), (2, _), (3, _), (4, _), (5, _), (7, _)]) rfl ?_
      exact fn_first E ad g a v tl kN sN w0 hk hw0 X C hQ a1 hz hao (2 ^ kN + 1) 0 (by have hpp : 1 ≤ 2 ^ kN := Nat.one_le_two_pow; omega) (Nat.zero_le _)
    · have hlt : i < 16384 := (by rcases Nat.lt_or_ge i 16384 with h | h; exact h; exact absurd (show (16384 : Int32) ≤ nI i from nI_le (a := 16384) h (by omega)) h53)
      have hin5 : vp_in (nI i) 16384 := vp_in_nI hlt (by decide)
      refine mg_aload_n C dX5_find_56 rfl ?_
      refine mg_get C inG_X5 fX5_69 (ci := 5) rfl rfl 17 rfl rfl dX5_find_57 ?_
      refine mg_iload C dX5_find_60 rfl ?_
      refine mg_iconst (v := 0) C dX5_find_62 (by decide) ?_
      refine mg_iast C 1 rfl (hin5) dX5_find_63 (ws' := (mw E ad g (ups a1 15 ((nI i) : Int32).toNatClampNeg 0) v tl)) rfl ?_
      refine mg_iinc C dX5_find_64 rfl rfl ?_
      refine mg_lve (lv' := [(0, _), (1, _), (2, _), (3, _), (4, _), (5, _)]) rfl ?_
      refine mg_goto C 48 dX5_find_67 (by decide) ?_
      refine mg_lve (lv' := [(0, .ref (ad 17)), (1, .int (nI kN)), (2, .int (nI sN)), (3, .int (nI w0)), (4, .int (nI (Mk kN))), (5, .int (nI (i + 1)))]) (by rw [nI_succ i]; rfl) ?_
      refine ih (i + 1) _ (by omega) (by omega) (fun p hp => ?_) (fun j hj => (ups_n hj).trans (hao j hj))
      show upd (a1 15) _ _ p = 0
      rw [nI_clamp (by omega)]
      by_cases e : p = i
      · rw [e]; exact pk_us
      · rw [pk_un e]; exact hz p (by omega)
set_option maxHeartbeats 400000 in
set_option maxRecDepth 100000 in
theorem mx_X5_find (E : En) (ad : Nat → Nat) (g : Nat → Int32) (a : Nat → Nat → Int32) (v : Nat → Int64) (tl : va_W) (kN sN w0 : Nat) (hk : KS kN sN) (hw0 : w0 < 256) (h1 : ¬ wi (nI kN) 1 3 = 0) (h2 : ¬ wi (nI sN) (nI kN) 5 = 0) (h3 : ¬ wi (nI w0) 0 ((1 : Int32) <<< ((1 : Int32) <<< (nI kN &&& 31) &&& 31) - 1) = 0) : Ct E mX5_find 3 0 0 [.ref (ad 17), .int (nI kN), .int (nI sN), .int (nI w0)] (mw E ad g a v tl) (fun o w => ∃ (g1 : Nat → Int32) (a1 : Nat → Nat → Int32) (v1 : Nat → Int64), o = some (.int (skA kN sN w0 8001 0 Bb)) ∧ MkP g a (skF kN sN w0 8001 0 Bb) g1 a1 ∧ w = mw E ad g1 a1 v1 tl) := by
  refine Ct.of (by decide) (Nat.le_of_ble_eq_true rfl) (fun X C hQ hin => ?_)
  have C : Cx E X cX5_find 9 RX5 (some .int) 3 120 0 0 := C
  refine mg_iload_n C dX5_find_0 rfl ?_
  refine mg_iconst (v := 1) C dX5_find_1 (by decide) ?_
  refine mg_iconst (v := 3) C dX5_find_2 (by decide) ?_
  refine mg_callS C (ct_X5_in E _ _ _ _) oX5_98 rfl rfl rfl dX5_find_3 (fun o3 w3 z3 => ?_)
  obtain ⟨rfl, rfl⟩ := z3
  refine mg_v ?_
  refine mg_if_eq C 33 dX5_find_6 (by decide) (fun h6 => absurd h6 (h1)) (fun h6 => ?_)
  refine mg_iload_n C dX5_find_9 rfl ?_
  refine mg_iload_n C dX5_find_10 rfl ?_
  refine mg_iconst (v := 5) C dX5_find_11 (by decide) ?_
  refine mg_callS C (ct_X5_in E _ _ _ _) oX5_98 rfl rfl rfl dX5_find_12 (fun o12 w12 z12 => ?_)
  obtain ⟨rfl, rfl⟩ := z12
  refine mg_v ?_
  refine mg_if_eq C 33 dX5_find_15 (by decide) (fun h15 => absurd h15 (h2)) (fun h15 => ?_)
  refine mg_iload_n C dX5_find_18 rfl ?_
  refine mg_iconst (v := 0) C dX5_find_19 (by decide) ?_
  refine mg_iconst (v := 1) C dX5_find_20 (by decide) ?_
  refine mg_iconst (v := 1) C dX5_find_21 (by decide) ?_
  refine mg_iload_n C dX5_find_22 rfl ?_
  refine mg_ishl C dX5_find_23 ?_
  refine mg_ishl C dX5_find_24 ?_
  refine mg_iconst (v := 1) C dX5_find_25 (by decide) ?_
  refine mg_isub C dX5_find_26 ?_
  refine mg_callS C (ct_X5_in E _ _ _ _) oX5_98 rfl rfl rfl dX5_find_27 (fun o27 w27 z27 => ?_)
  obtain ⟨rfl, rfl⟩ := z27
  refine mg_v ?_
  refine mg_if_ne C 36 dX5_find_30 (by decide) (fun h30 => ?_) (fun h30 => absurd h30 (h3))
  refine mg_iconst (v := 1) C dX5_find_36 (by decide) ?_
  refine mg_iconst (v := 1) C dX5_find_37 (by decide) ?_
  refine mg_iload_n C dX5_find_38 rfl ?_
  refine mg_ishl C dX5_find_39 ?_
  refine mg_ishl C dX5_find_40 ?_
  refine mg_iconst (v := 1) C dX5_find_41 (by decide) ?_
  refine mg_isub C dX5_find_42 ?_
  refine mg_tos (w := .int (nI (Mk kN))) (congrArg Value.int (fm_eq hk.1.2)) ?_
  refine mg_istore C dX5_find_43 rfl ?_
  refine mg_lve (lv' := [(0, _), (1, _), (2, _), (3, _), (4, _)]) rfl ?_
  refine mg_iconst (v := 0) C dX5_find_45 (by decide) ?_
  refine mg_istore C dX5_find_46 rfl ?_
  refine mg_lve (lv' := [(0, _), (1, _), (2, _), (3, _), (4, _), (5, _)]) rfl ?_
  exact fn_place E ad g a v tl kN sN w0 hk hw0 X C hQ 16385 0 a (by omega) (by omega) (fun p hp => absurd hp (Nat.not_lt_zero p)) (fun _ _ => rfl)
set_option maxHeartbeats 400000 in
set_option maxRecDepth 100000 in
theorem mv_findB (E : En) (ad : Nat → Nat) (g : Nat → Int32) (a : Nat → Nat → Int32) (v : Nat → Int64) (tl : va_W) (k s t : Int32) (hV : MO g a) (hbad : fbad k s t) : Ct E mX5_find 3 0 0 [.ref (ad 17), .int k, .int s, .int t] (mw E ad g a v tl) (fun o w => ∃ (ad1 : Nat → Nat) (g1 : Nat → Int32) (a1 : Nat → Nat → Int32) (v1 : Nat → Int64), o = some (.int (anFind k s t)) ∧ Sh (sFind k s t g) (aFind k s t a) g1 a1 ∧ MO g1 a1 ∧ ad1 17 = ad 17 ∧ w = mw E ad1 g1 a1 v1 tl) := by
  refine Ct.of (by decide) (Nat.le_of_ble_eq_true rfl) (fun X C hQ hin => ?_)
  have C : Cx E X cX5_find 9 RX5 (some .int) 3 120 0 0 := C
  refine mg_iload_n C dX5_find_0 rfl ?_
  refine mg_iconst (v := 1) C dX5_find_1 (by decide) ?_
  refine mg_iconst (v := 3) C dX5_find_2 (by decide) ?_
  refine mg_callS C (ct_X5_in E _ _ _ _) oX5_98 rfl rfl rfl dX5_find_3 (fun o3 w3 z3 => ?_)
  obtain ⟨rfl, rfl⟩ := z3
  refine mg_v ?_
  refine mg_if_eq C 33 dX5_find_6 (by decide) (fun h6 => ?_) (fun h6 => ?_)
  · refine mg_bipush (v := (-2)) C dX5_find_33 (by decide) ?_
    exact mg_iret C hQ dX5_find_35 (⟨ad, g, a, v, by rw [anFind, if_pos h6] <;> first | rfl | decide, by rw [show sFind k s t g = g by rw [sFind, if_pos h6], show aFind k s t a = a by rw [aFind, if_pos h6]]; exact Sh.rf, hV, rfl, rfl⟩)
  · refine mg_iload_n C dX5_find_9 rfl ?_
    refine mg_iload_n C dX5_find_10 rfl ?_
    refine mg_iconst (v := 5) C dX5_find_11 (by decide) ?_
    refine mg_callS C (ct_X5_in E _ _ _ _) oX5_98 rfl rfl rfl dX5_find_12 (fun o12 w12 z12 => ?_)
    obtain ⟨rfl, rfl⟩ := z12
    refine mg_v ?_
    refine mg_if_eq C 33 dX5_find_15 (by decide) (fun h15 => ?_) (fun h15 => ?_)
    · refine mg_bipush (v := (-2)) C dX5_find_33 (by decide) ?_
      exact mg_iret C hQ dX5_find_35 (⟨ad, g, a, v, by rw [anFind, if_neg h6, if_pos h15] <;> first | rfl | decide, by rw [show sFind k s t g = g by rw [sFind, if_neg h6, if_pos h15], show aFind k s t a = a by rw [aFind, if_neg h6, if_pos h15]]; exact Sh.rf, hV, rfl, rfl⟩)
    · refine mg_iload_n C dX5_find_18 rfl ?_
      refine mg_iconst (v := 0) C dX5_find_19 (by decide) ?_
      refine mg_iconst (v := 1) C dX5_find_20 (by decide) ?_
      refine mg_iconst (v := 1) C dX5_find_21 (by decide) ?_
      refine mg_iload_n C dX5_find_22 rfl ?_
      refine mg_ishl C dX5_find_23 ?_
      refine mg_ishl C dX5_find_24 ?_
      refine mg_iconst (v := 1) C dX5_find_25 (by decide) ?_
      refine mg_isub C dX5_find_26 ?_
      refine mg_callS C (ct_X5_in E _ _ _ _) oX5_98 rfl rfl rfl dX5_find_27 (fun o27 w27 z27 => ?_)
      obtain ⟨rfl, rfl⟩ := z27
      refine mg_v ?_
      refine mg_if_ne C 36 dX5_find_30 (by decide) (fun h30 => ?_) (fun h30 => ?_)
      · exact absurd hbad (anFind_bad h6 h15 h30)
      · refine mg_bipush (v := (-2)) C dX5_find_33 (by decide) ?_
        exact mg_iret C hQ dX5_find_35 (⟨ad, g, a, v, by rw [anFind, if_neg h6, if_neg h15, if_pos h30] <;> first | rfl | decide, by rw [show sFind k s t g = g by rw [sFind, if_neg h6, if_neg h15, if_pos h30], show aFind k s t a = a by rw [aFind, if_neg h6, if_neg h15, if_pos h30]]; exact Sh.rf, hV, rfl, rfl⟩)
theorem MkP.sh {g g1 : Nat → Int32} {a a1 : Nat → Nat → Int32} {z : Bs × Option (Nat × Nat)} (h : MkP g a z g1 a1) : Sh (sfR z g) (afR z a) g1 a1 := by
  obtain ⟨B, q⟩ := z
  obtain ⟨h14, hg, ha, hz⟩ := h
  have k1 := ha 1 (by decide) (by decide) (by decide) (by decide)
  have k3 := ha 3 (by decide) (by decide) (by decide) (by decide)
  have k4 := ha 4 (by decide) (by decide) (by decide) (by decide)
  cases q with
  | none =>
    obtain ⟨h15, h16, h13⟩ := hz
    refine ⟨fun i hi => ?_, fun j _ => by rw [k1]; rfl, fun j _ => by rw [k3]; rfl, fun j _ => by rw [k4]; rfl, fun j _ => by rw [h13]; rfl⟩
    rcases shl_cs hi with rfl | rfl | rfl | ⟨q1, q2, q3, q4, q5, q6, q7⟩
    · exact h14
    · exact h15
    · exact h16
    · rw [hg i q5 q6 q7]; exact (ug_n q5).symm
  | some p =>
    obtain ⟨h15, h16, hd, -, h13⟩ := hz
    refine ⟨fun i hi => ?_, fun j _ => by rw [k1]; rfl, fun j _ => by rw [k3]; rfl, fun j _ => by rw [k4]; rfl, fun j hj => h13 j ?_⟩
    · rcases shl_cs hi with rfl | rfl | rfl | ⟨q1, q2, q3, q4, q5, q6, q7⟩
      · exact h14
      · exact h15
      · exact h16
      · rw [hg i q5 q6 q7]; exact ((ug_n q7).trans ((ug_n q6).trans (ug_n q5))).symm
    · have e : fN (sfR (B, some p) g) = dpt B.2.2.1 p.1 p.1 := (by show (nI (dpt B.2.2.1 p.1 p.1)).toNatClampNeg = _; exact nI_clamp (by dsimp only at hd; omega))
      rw [e] at hj
      exact hj
theorem MkP.mo {g g1 : Nat → Int32} {a a1 : Nat → Nat → Int32} {z : Bs × Option (Nat × Nat)} (h : MkP g a z g1 a1) (hV : MO g a) : MO g1 a1 := by
  obtain ⟨B, q⟩ := z
  obtain ⟨h14, hg, ha, hz⟩ := h
  obtain ⟨⟨R, C, T, n, m, D, F, ⟨⟨d0, d0'⟩, ⟨d1, d1'⟩, ⟨d2, d2'⟩, ⟨d4, d4'⟩, d5, ⟨d6, d6'⟩, dd⟩, ⟨hF, hF1, hF2⟩, hr, ho⟩, hB, hA⟩ := hV
  have hF3 : ∃ F1 : Nat, g1 15 = nI F1 ∧ F1 ≤ 8000 := by
    cases q with
    | none => obtain ⟨h15, -, -⟩ := hz; exact ⟨F, h15.trans hF, by omega⟩
    | some p => obtain ⟨h15, -, hd, -⟩ := hz; exact ⟨_, h15, hd⟩
  obtain ⟨F1, hF4, hF5⟩ := hF3
  refine ⟨⟨R, C, T, n, m, D, F1, ⟨⟨(hg 0 (by decide) (by decide) (by decide)).trans d0, d0'⟩, ⟨(hg 1 (by decide) (by decide) (by decide)).trans d1, d1'⟩, ⟨(hg 2 (by decide) (by decide) (by decide)).trans d2, d2'⟩, ⟨(hg 4 (by decide) (by decide) (by decide)).trans d4, d4'⟩, (hg 5 (by decide) (by decide) (by decide)).trans d5, ⟨(hg 6 (by decide) (by decide) (by decide)).trans d6, d6'⟩, dd⟩, ⟨hF4, hF5, by omega⟩, ?_, ?_⟩, ?_, ?_⟩
  · rw [ha 5 (by decide) (by decide) (by decide) (by decide)]; exact hr
  · rw [ha 1 (by decide) (by decide) (by decide) (by decide)]; exact ho
  · rw [ha 8 (by decide) (by decide) (by decide) (by decide)]; exact hB
  · cases q with
    | none =>
      obtain ⟨h15, -, h13⟩ := hz
      unfold fN
      rw [h15, h13]; exact hA
    | some p =>
      obtain ⟨h15, -, hd, hlt, h13⟩ := hz
      unfold fN
      rw [h15, nI_clamp (by dsimp only at hd ⊢; omega)]
      exact fun j hj => ⟨_, hlt j hj, h13 j hj⟩
theorem mv_find (E : En) (ad : Nat → Nat) (g : Nat → Int32) (a : Nat → Nat → Int32) (v : Nat → Int64) (tl : va_W) (k s t : Int32) (hV : MO g a) : Ct E mX5_find 3 0 0 [.ref (ad 17), .int k, .int s, .int t] (mw E ad g a v tl) (fun o w => ∃ (ad1 : Nat → Nat) (g1 : Nat → Int32) (a1 : Nat → Nat → Int32) (v1 : Nat → Int64), o = some (.int (anFind k s t)) ∧ Sh (sFind k s t g) (aFind k s t a) g1 a1 ∧ MO g1 a1 ∧ ad1 17 = ad 17 ∧ w = mw E ad1 g1 a1 v1 tl) := by
  by_cases h1 : wi k 1 3 = 0
  · exact mv_findB E ad g a v tl k s t hV (Or.inl h1)
  by_cases h2 : wi s k 5 = 0
  · exact mv_findB E ad g a v tl k s t hV (Or.inr (Or.inl h2))
  by_cases h3 : wi t 0 ((1 : Int32) <<< ((1 : Int32) <<< (k &&& 31) &&& 31) - 1) = 0
  · exact mv_findB E ad g a v tl k s t hV (Or.inr (Or.inr h3))
  have ean : anFind k s t = skA k.toNatClampNeg s.toNatClampNeg t.toNatClampNeg 8001 0 Bb := (by rw [anFind, if_neg h1, if_neg h2, if_neg h3])
  have esn : sFind k s t g = sfR (fdZ k s t) g := (by rw [sFind, if_neg h1, if_neg h2, if_neg h3])
  have eaf : aFind k s t a = afR (fdZ k s t) a := (by rw [aFind, if_neg h1, if_neg h2, if_neg h3])
  rw [fdZ] at esn eaf
  obtain ⟨kN, sN, w0, rfl, rfl, rfl, hks, hw0⟩ := find_nat h1 h2 h3
  rw [nI_clamp (by have q := hks.1.2; omega), nI_clamp (by have q := hks.2.2; omega), nI_clamp (by omega)] at ean esn eaf
  exact (mx_X5_find E ad g a v tl kN sN w0 hks hw0 h1 h2 h3).mono (fun o w hz => by
    obtain ⟨g1, a1, v1, e1, hM, e2⟩ := hz
    exact ⟨ad, g1, a1, v1, by rw [e1, ean], by rw [esn, eaf]; exact hM.sh, hM.mo hV, rfl, e2⟩)
