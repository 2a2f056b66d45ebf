/-- the shared state behind a search -/
def sfR (z : Bs × Option (Nat × Nat)) (g : Nat → Int32) : Nat → Int32 := match z.2 with
  | none => ug g 14 (nI z.1.1)
  | some q => ug (ug (ug g 14 (nI z.1.1)) 15 (nI (dpt z.1.2.2.1 q.1 q.1))) 16 (nI q.2)
def afR (z : Bs × Option (Nat × Nat)) (a : Nat → Nat → Int32) : Nat → Nat → Int32 := match z.2 with
  | none => a
  | some q => upa a 13 (fun j => nI (chA z.1.2.2.1 z.1.2.2.2 q.1 q.1 j))
def fdZ (k s t : Int32) : Bs × Option (Nat × Nat) := skF k.toNatClampNeg s.toNatClampNeg t.toNatClampNeg 8001 0 Bb
def sFind (k s t : Int32) (g : Nat → Int32) : Nat → Int32 := if wi k 1 3 = 0 then g else if wi s k 5 = 0 then g else if wi t 0 ((1 : Int32) <<< ((1 : Int32) <<< (k &&& 31) &&& 31) - 1) = 0 then g else sfR (fdZ k s t) g
def aFind (k s t : Int32) (a : Nat → Nat → Int32) : Nat → Nat → Int32 := if wi k 1 3 = 0 then a else if wi s k 5 = 0 then a else if wi t 0 ((1 : Int32) <<< ((1 : Int32) <<< (k &&& 31) &&& 31) - 1) = 0 then a else afR (fdZ k s t) a
theorem shl_cs {i : Nat} (h : i ∈ shl) : i = 14 ∨ i = 15 ∨ i = 16 ∨ (i ≠ 10 ∧ i ≠ 11 ∧ i ≠ 12 ∧ i ≠ 13 ∧ i ≠ 14 ∧ i ≠ 15 ∧ i ≠ 16) := by
  simp only [shl, List.mem_cons, List.not_mem_nil, or_false] at h
  omega
theorem SkP.sh {g g1 : Nat → Int32} {a a1 : Nat → Nat → Int32} {ad ad1 : Nat → Nat} {fl fl1 : Nat} {z : Bs × Option (Nat × Nat)} (h : SkP g a ad fl z g1 a1 ad1 fl1) : Sh (sfR z g) (afR z a) g1 a1 := by
  obtain ⟨B, q⟩ := z
  obtain ⟨h14, -, hfl, hg, ha, hz⟩ := h
  cases q with
  | none =>
    obtain ⟨h15, h16, h13, -⟩ := hz
    refine ⟨fun i hi => ?_, fun j _ => by rw [ha 1 (by decide) (by decide) (by decide)]; rfl, fun j _ => by rw [ha 3 (by decide) (by decide) (by decide)]; rfl, fun j _ => by rw [ha 4 (by decide) (by decide) (by decide)]; rfl, fun j _ => by rw [h13]; rfl⟩
    rcases shl_cs hi with rfl | rfl | rfl | ⟨q1, q2, q3, q4, q5, q6, q7⟩
    · exact h14
    · exact h15
    · exact h16
    · rw [hg i q1 q2 q3 q4 q5 q6 q7]; exact (ug_n q5).symm
  | some p =>
    obtain ⟨h15, h16, hd, h13⟩ := hz
    refine ⟨fun i hi => ?_, fun j _ => by rw [ha 1 (by decide) (by decide) (by decide)]; rfl, fun j _ => by rw [ha 3 (by decide) (by decide) (by decide)]; rfl, fun j _ => by rw [ha 4 (by decide) (by decide) (by decide)]; rfl, fun j hj => h13 j ?_⟩
    · rcases shl_cs hi with rfl | rfl | rfl | ⟨q1, q2, q3, q4, q5, q6, q7⟩
      · exact h14
      · exact h15
      · exact h16
      · rw [hg i q1 q2 q3 q4 q5 q6 q7]; exact ((ug_n q7).trans ((ug_n q6).trans (ug_n q5))).symm
    · have e : fN (sfR (B, some p) g) = dpt B.2.2.1 p.1 p.1 := (by show (nI (dpt B.2.2.1 p.1 p.1)).toNatClampNeg = _; exact nI_clamp (by dsimp only at hd; omega))
      rw [e] at hj
      exact hj
theorem SkP.cv {g g1 : Nat → Int32} {a a1 : Nat → Nat → Int32} {ad ad1 : Nat → Nat} {fl fl1 : Nat} {z : Bs × Option (Nat × Nat)} (h : SkP g a ad fl z g1 a1 ad1 fl1) (hV : CV fl g a) : CV fl1 g1 a1 := by
  obtain ⟨B, q⟩ := z
  obtain ⟨h14, -, hfl, hg, ha, hz⟩ := h
  obtain ⟨⟨R, C, T, n, m, D, F, ⟨⟨d0, d0'⟩, ⟨d1, d1'⟩, ⟨d2, d2'⟩, ⟨d4, d4'⟩, d5, ⟨d6, d6'⟩, dd⟩, ⟨hF, hF1, hF2⟩, hr, ho⟩, hG⟩ := hV
  have e0 : g1 0 = g 0 := hg 0 (by decide) (by decide) (by decide) (by decide) (by decide) (by decide) (by decide)
  have e1 : g1 1 = g 1 := hg 1 (by decide) (by decide) (by decide) (by decide) (by decide) (by decide) (by decide)
  have e2 : g1 2 = g 2 := hg 2 (by decide) (by decide) (by decide) (by decide) (by decide) (by decide) (by decide)
  have e4 : g1 4 = g 4 := hg 4 (by decide) (by decide) (by decide) (by decide) (by decide) (by decide) (by decide)
  have e5 : g1 5 = g 5 := hg 5 (by decide) (by decide) (by decide) (by decide) (by decide) (by decide) (by decide)
  have e6 : g1 6 = g 6 := hg 6 (by decide) (by decide) (by decide) (by decide) (by decide) (by decide) (by decide)
  have e7 : g1 7 = g 7 := hg 7 (by decide) (by decide) (by decide) (by decide) (by decide) (by decide) (by decide)
  have hF3 : ∃ F1 : Nat, g1 15 = nI F1 ∧ F1 ≤ fl1 := by
    cases q with
    | none => obtain ⟨h15, -, -, hl⟩ := hz; exact ⟨F, h15.trans hF, by omega⟩
    | some p => obtain ⟨h15, -, hd, -⟩ := hz; exact ⟨_, h15, hd⟩
  obtain ⟨F1, hF4, hF5⟩ := hF3
  refine ⟨⟨R, C, T, n, m, D, F1, ⟨⟨e0.trans d0, d0'⟩, ⟨e1.trans d1, d1'⟩, ⟨e2.trans d2, d2'⟩, ⟨e4.trans d4, d4'⟩, e5.trans d5, ⟨e6.trans d6, d6'⟩, dd⟩, ⟨hF4, hF5, hfl⟩, ?_, ?_⟩, ?_⟩
  · rw [ha 5 (by decide) (by decide) (by decide)]; exact hr
  · rw [ha 1 (by decide) (by decide) (by decide)]; exact ho
  · unfold GR gre at hG ⊢
    rw [e4, e7, e2, e6]; exact hG
set_option maxHeartbeats 400000 in
set_option maxRecDepth 100000 in
theorem cv_find (E : En) (ad : Nat → Nat) (fl : Nat) (g : Nat → Int32) (a : Nat → Nat → Int32) (v : Nat → Int64) (tl : va_W) (k s t : Int32) (hV : CV fl g a) : Ct E mX4_find 5 1 8000 [.ref (ad 19), .int k, .int s, .int t] (cw E ad fl g a v tl) (fun o w => ∃ (ad1 : Nat → Nat) (fl1 : Nat) (g1 : Nat → Int32) (a1 : Nat → Nat → Int32) (v1 : Nat → Int64), o = some (.int (anFind k s t)) ∧ Sh (sFind k s t g) (aFind k s t a) g1 a1 ∧ CV fl1 g1 a1 ∧ ad1 19 = ad 19 ∧ w = cw E ad1 fl1 g1 a1 v1 tl) := by
  refine Ct.of (by decide) (Nat.le_of_ble_eq_true rfl) (fun X C hQ hin => ?_)
  have C : Cx E X cX4_find 4 RX4 (some .int) 5 200 1 8000 := C
  obtain ⟨R, Cc, T, n, m, D, F, ⟨⟨d0, d0a, d0b⟩, ⟨d1, d1a, d1b⟩, ⟨d2, d2a, d2b⟩, ⟨d4, d4a⟩, d5, ⟨d6, d6a⟩, dcm, dn0, dn1⟩, ⟨dF, dF1, dF2⟩, drow, dout⟩ := id hV.1
  refine mg_iload_n C dX4_find_0 rfl ?_
  refine mg_iconst (v := 1) C dX4_find_1 (by decide) ?_
  refine mg_iconst (v := 3) C dX4_find_2 (by decide) ?_
  refine mg_callS C (ct_X4_within E _ _ _ _) oX4_39 rfl rfl rfl dX4_find_3 (fun o3 w3 z3 => ?_)
  obtain ⟨rfl, rfl⟩ := z3
  refine mg_v ?_
  refine mg_if_eq C 30 dX4_find_6 (by decide) (fun h6 => ?_) (fun h6 => ?_)
  · refine mg_bipush (v := (-2)) C dX4_find_30 (by decide) ?_
    refine mg_widen (k' := 1) (n' := 8000) rfl rfl ?_
    exact mg_iret C hQ dX4_find_32 (⟨ad, fl, g, a, v, by rw [anFind, if_pos h6] <;> first | rfl | decide, by rw [show sFind k s t g = g by rw [sFind, if_pos h6], show aFind k s t a = a by rw [aFind, if_pos h6]]; exact Sh.rf, hV, rfl, rfl⟩)
  · refine mg_iload_n C dX4_find_9 rfl ?_
    refine mg_iload_n C dX4_find_10 rfl ?_
    refine mg_iconst (v := 5) C dX4_find_11 (by decide) ?_
    refine mg_callS C (ct_X4_within E _ _ _ _) oX4_39 rfl rfl rfl dX4_find_12 (fun o12 w12 z12 => ?_)
    obtain ⟨rfl, rfl⟩ := z12
    refine mg_v ?_
    refine mg_if_eq C 30 dX4_find_15 (by decide) (fun h15 => ?_) (fun h15 => ?_)
    · refine mg_bipush (v := (-2)) C dX4_find_30 (by decide) ?_
      refine mg_widen (k' := 1) (n' := 8000) rfl rfl ?_
      exact mg_iret C hQ dX4_find_32 (⟨ad, fl, g, a, v, by rw [anFind, if_neg h6, if_pos h15] <;> first | rfl | decide, by rw [show sFind k s t g = g by rw [sFind, if_neg h6, if_pos h15], show aFind k s t a = a by rw [aFind, if_neg h6, if_pos h15]]; exact Sh.rf, hV, rfl, rfl⟩)
    · refine mg_iload_n C dX4_find_18 rfl ?_
      refine mg_iconst (v := 0) C dX4_find_19 (by decide) ?_
      refine mg_iload_n C dX4_find_20 rfl ?_
      refine mg_callS C (ct_X4_fullTable E _ _) oX4_161 rfl rfl rfl dX4_find_21 (fun o21 w21 z21 => ?_)
      obtain ⟨rfl, rfl⟩ := z21
      refine mg_v ?_
      refine mg_callS C (ct_X4_within E _ _ _ _) oX4_39 rfl rfl rfl dX4_find_24 (fun o24 w24 z24 => ?_)
      obtain ⟨rfl, rfl⟩ := z24
      refine mg_v ?_
      refine mg_if_ne C 33 dX4_find_27 (by decide) (fun h27 => ?_) (fun h27 => ?_)
      · have ean : anFind k s t = skA k.toNatClampNeg s.toNatClampNeg t.toNatClampNeg 8001 0 Bb := (by rw [anFind, if_neg h6, if_neg h15, if_neg h27])
        have esn : sFind k s t g = sfR (fdZ k s t) g := (by rw [sFind, if_neg h6, if_neg h15, if_neg h27])
        have eaf : aFind k s t a = afR (fdZ k s t) a := (by rw [aFind, if_neg h6, if_neg h15, if_neg h27])
        rw [fdZ] at esn eaf
        obtain ⟨kN, sN, w0, rfl, rfl, rfl, hks, hw0⟩ := find_nat h6 h15 h27
        rw [nI_clamp (by have q := hks.1.2; omega), nI_clamp (by have q := hks.2.2; omega), nI_clamp (by omega)] at ean esn eaf
        refine mg_aload_n C dX4_find_33 rfl ?_
        refine mg_get C inG_X4 fX4_35 (ci := 4) rfl rfl 19 rfl rfl dX4_find_34 ?_
        refine mg_iload_n C dX4_find_37 rfl ?_
        refine mg_iload_n C dX4_find_38 rfl ?_
        refine mg_iload_n C dX4_find_39 rfl ?_
        refine mg_callVN C (cx_X2_seek E _ _ _ _ _ _ kN sN w0 hks hw0 dF2) oX4_164 4 rfl rfl rfl rfl rfl dX4_find_40 (fun o40 w40 z40 => ?_)
        obtain ⟨ad1, fl1, g1, a1, v1, rfl, hS, rfl⟩ := z40
        refine mg_v ?_
        exact mg_iret C hQ dX4_find_43 (⟨ad1, fl1, g1, a1, v1, by rw [ean], by rw [esn, eaf]; exact hS.sh, hS.cv hV, hS.2.1 19 (by decide), rfl⟩)
      · refine mg_bipush (v := (-2)) C dX4_find_30 (by decide) ?_
        refine mg_widen (k' := 1) (n' := 8000) rfl rfl ?_
        exact mg_iret C hQ dX4_find_32 (⟨ad, fl, g, a, v, by rw [anFind, if_neg h6, if_neg h15, if_pos h27] <;> first | rfl | decide, by rw [show sFind k s t g = g by rw [sFind, if_neg h6, if_neg h15, if_pos h27], show aFind k s t a = a by rw [aFind, if_neg h6, if_neg h15, if_pos h27]]; exact Sh.rf, hV, rfl, rfl⟩)
