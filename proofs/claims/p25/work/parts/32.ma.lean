/-- the reference's own state: the shared one, and the best order found so far is one of ROWS -/
def MO (g : Nat → Int32) (a : Nat → Nat → Int32) : Prop := IV 8000 g a ∧ (∀ i, i < 8 → ∃ r, r < 8 ∧ a 8 i = nI r) ∧ ∀ j, j < fN g → ∃ x, x < 512 ∧ a 13 j = nI x
theorem MO.ar {g : Nat → Int32} {a a1 : Nat → Nat → Int32} (h : MO g a) (h5 : a1 5 = a 5) (h1 : a1 1 = a 1) (h8 : a1 8 = a 8) (h13 : a1 13 = a 13) : MO g a1 := ⟨h.1.ar h5 h1, by rw [h8]; exact h.2.1, by rw [h13]; exact h.2.2⟩
/-- what most calls keep -/
def KM (a a1 : Nat → Nat → Int32) : Prop := a1 1 = a 1 ∧ a1 3 = a 3 ∧ a1 4 = a 4 ∧ a1 5 = a 5 ∧ a1 13 = a 13 ∧ a1 8 = a 8
theorem KM.rf {a : Nat → Nat → Int32} : KM a a := ⟨rfl, rfl, rfl, rfl, rfl, rfl⟩
theorem KM.tr {a a1 a2 : Nat → Nat → Int32} (h : KM a a1) (k : KM a1 a2) : KM a a2 := ⟨k.1.trans h.1, k.2.1.trans h.2.1, k.2.2.1.trans h.2.2.1, k.2.2.2.1.trans h.2.2.2.1, k.2.2.2.2.1.trans h.2.2.2.2.1, k.2.2.2.2.2.trans h.2.2.2.2.2⟩
theorem KM.sh {g : Nat → Int32} {a a1 : Nat → Nat → Int32} (h : KM a a1) : Sh g a g a1 := Sh.ar h.1 h.2.1 h.2.2.1 h.2.2.2.2.1
theorem KM.mo {g : Nat → Int32} {a a1 : Nat → Nat → Int32} (k : KM a a1) (h : MO g a) : MO g a1 := h.ar k.2.2.2.1 k.1 k.2.2.2.2.2 k.2.2.2.2.1
set_option maxHeartbeats 400000 in
set_option maxRecDepth 100000 in
theorem mv_where (E : En) (ad : Nat → Nat) (g : Nat → Int32) (a : Nat → Nat → Int32) (v : Nat → Int64) (tl : va_W)  (hV : MO g a) : Ct E mX5_where 0 0 0 [.ref (ad 17)] (mw E ad g a v tl) (fun o w => ∃ (ad1 : Nat → Nat) (g1 : Nat → Int32) (a1 : Nat → Nat → Int32) (v1 : Nat → Int64), o = some (.int (g 16)) ∧ Sh g a g1 a1 ∧ MO g1 a1 ∧ ad1 17 = ad 17 ∧ w = mw E ad1 g1 a1 v1 tl) := by
  refine Ct.of (by decide) (Nat.le_of_ble_eq_true rfl) (fun X C hQ hin => ?_)
  have C : Cx E X cX5_where 1 RX5 (some .int) 0 0 0 0 := C
  obtain ⟨R, Cc, T, n, m, D, F, ⟨⟨d0, d0a, d0b⟩, ⟨d1, d1a, d1b⟩, ⟨d2, d2a, d2b⟩, ⟨d4, d4a⟩, d5, ⟨d6, d6a⟩, dcm, dn0, dn1⟩, ⟨dF, dF1, dF2⟩, drow, dout⟩ := id hV.1
  refine mg_aload_n C dX5_where_0 rfl ?_
  refine mg_get C inG_X5 fX5_75 (ci := 5) rfl rfl 17 rfl rfl dX5_where_1 ?_
  exact mg_iret C hQ dX5_where_4 (⟨ad, g, a, v, rfl, Sh.rf, hV, rfl, rfl⟩)
set_option maxHeartbeats 400000 in
set_option maxRecDepth 100000 in
theorem mv_met (E : En) (ad : Nat → Nat) (g : Nat → Int32) (a : Nat → Nat → Int32) (v : Nat → Int64) (tl : va_W)  (hV : MO g a) : Ct E mX5_met 0 0 0 [.ref (ad 17)] (mw E ad g a v tl) (fun o w => ∃ (ad1 : Nat → Nat) (g1 : Nat → Int32) (a1 : Nat → Nat → Int32) (v1 : Nat → Int64), o = some (.int (g 14)) ∧ Sh g a g1 a1 ∧ MO g1 a1 ∧ ad1 17 = ad 17 ∧ w = mw E ad1 g1 a1 v1 tl) := by
  refine Ct.of (by decide) (Nat.le_of_ble_eq_true rfl) (fun X C hQ hin => ?_)
  have C : Cx E X cX5_met 1 RX5 (some .int) 0 0 0 0 := C
  obtain ⟨R, Cc, T, n, m, D, F, ⟨⟨d0, d0a, d0b⟩, ⟨d1, d1a, d1b⟩, ⟨d2, d2a, d2b⟩, ⟨d4, d4a⟩, d5, ⟨d6, d6a⟩, dcm, dn0, dn1⟩, ⟨dF, dF1, dF2⟩, drow, dout⟩ := id hV.1
  refine mg_aload_n C dX5_met_0 rfl ?_
  refine mg_get C inG_X5 fX5_149 (ci := 5) rfl rfl 17 rfl rfl dX5_met_1 ?_
  exact mg_iret C hQ dX5_met_4 (⟨ad, g, a, v, rfl, Sh.rf, hV, rfl, rfl⟩)
set_option maxHeartbeats 400000 in
set_option maxRecDepth 100000 in
theorem mv_bits (E : En) (ad : Nat → Nat) (g : Nat → Int32) (a : Nat → Nat → Int32) (v : Nat → Int64) (tl : va_W) (b : Int32) (hV : MO g a) : Ct E mX5_bits 1 0 0 [.ref (ad 17), .int b] (mw E ad g a v tl) (fun o w => ∃ (ad1 : Nat → Nat) (g1 : Nat → Int32) (a1 : Nat → Nat → Int32) (v1 : Nat → Int64), o = some (.int (gBits g b)) ∧ Sh (sBits g b) a g1 a1 ∧ MO g1 a1 ∧ ad1 17 = ad 17 ∧ w = mw E ad1 g1 a1 v1 tl) := by
  refine Ct.of (by decide) (Nat.le_of_ble_eq_true rfl) (fun X C hQ hin => ?_)
  have C : Cx E X cX5_bits 3 RX5 (some .int) 1 40 0 0 := C
  obtain ⟨R, Cc, T, n, m, D, F, ⟨⟨d0, d0a, d0b⟩, ⟨d1, d1a, d1b⟩, ⟨d2, d2a, d2b⟩, ⟨d4, d4a⟩, d5, ⟨d6, d6a⟩, dcm, dn0, dn1⟩, ⟨dF, dF1, dF2⟩, drow, dout⟩ := id hV.1
  refine mg_iload_n C dX5_bits_0 rfl ?_
  refine mg_iconst (v := 1) C dX5_bits_1 (by decide) ?_
  refine mg_bipush (v := 16) C dX5_bits_2 (by decide) ?_
  refine mg_callS C (ct_X5_in E _ _ _ _) oX5_98 rfl rfl rfl dX5_bits_4 (fun o4 w4 z4 => ?_)
  obtain ⟨rfl, rfl⟩ := z4
  refine mg_v ?_
  refine mg_if_ne C 13 dX5_bits_7 (by decide) (fun h7 => ?_) (fun h7 => ?_)
  · refine mg_aload_n C dX5_bits_13 rfl ?_
    refine mg_get C inG_X5 fX5_32 (ci := 5) rfl rfl 17 rfl rfl dX5_bits_14 ?_
    refine mg_istore_n C dX5_bits_17 rfl ?_
    refine mg_lve (lv' := [(0, _), (1, _), (2, _)]) rfl ?_
    refine mg_aload_n C dX5_bits_18 rfl ?_
    refine mg_iload_n C dX5_bits_19 rfl ?_
    refine mg_put C inG_X5 fX5_32 (ci := 5) rfl rfl tyX5 tyX5_ok nmX5 rfl 17 rfl rfl rfl rfl dX5_bits_20 (ws' := (mw E ad (ug g 3 b) a v tl)) rfl ?_
    refine mg_iload_n C dX5_bits_23 rfl ?_
    exact mg_iret C hQ dX5_bits_24 (⟨ad, ug g 3 b, a, v, by rw [gBits, if_neg h7] <;> first | rfl | decide, by rw [sBits, if_neg h7]; exact Sh.rf, hV, rfl, rfl⟩)
  · refine mg_bipush (v := (-2)) C dX5_bits_10 (by decide) ?_
    exact mg_iret C hQ dX5_bits_12 (⟨ad, g, a, v, by rw [gBits, if_pos h7] <;> first | rfl | decide, by rw [sBits, if_pos h7]; exact Sh.rf, hV, rfl, rfl⟩)
set_option maxHeartbeats 400000 in
set_option maxRecDepth 100000 in
theorem mv_input (E : En) (ad : Nat → Nat) (g : Nat → Int32) (a : Nat → Nat → Int32) (v : Nat → Int64) (tl : va_W) (r x : Int32) (hV : MO g a) : Ct E mX5_input 1 0 0 [.ref (ad 17), .int r, .int x] (mw E ad g a v tl) (fun o w => ∃ (ad1 : Nat → Nat) (g1 : Nat → Int32) (a1 : Nat → Nat → Int32) (v1 : Nat → Int64), o = some (.int (gInput g a r x)) ∧ Sh g (aInput g a r x) g1 a1 ∧ MO g1 a1 ∧ ad1 17 = ad 17 ∧ w = mw E ad1 g1 a1 v1 tl) := by
  refine Ct.of (by decide) (Nat.le_of_ble_eq_true rfl) (fun X C hQ hin => ?_)
  have C : Cx E X cX5_input 4 RX5 (some .int) 1 40 0 0 := C
  obtain ⟨R, Cc, T, n, m, D, F, ⟨⟨d0, d0a, d0b⟩, ⟨d1, d1a, d1b⟩, ⟨d2, d2a, d2b⟩, ⟨d4, d4a⟩, d5, ⟨d6, d6a⟩, dcm, dn0, dn1⟩, ⟨dF, dF1, dF2⟩, drow, dout⟩ := id hV.1
  refine mg_iload_n C dX5_input_0 rfl ?_
  refine mg_iconst (v := 0) C dX5_input_1 (by decide) ?_
  refine mg_aload_n C dX5_input_2 rfl ?_
  refine mg_get C inG_X5 fX5_7 (ci := 5) rfl rfl 17 rfl rfl dX5_input_3 ?_
  refine mg_iconst (v := 1) C dX5_input_6 (by decide) ?_
  refine mg_isub C dX5_input_7 ?_
  refine mg_callS C (ct_X5_in E _ _ _ _) oX5_98 rfl rfl rfl dX5_input_8 (fun o8 w8 z8 => ?_)
  obtain ⟨rfl, rfl⟩ := z8
  refine mg_v ?_
  refine mg_if_eq C 25 dX5_input_11 (by decide) (fun h11 => ?_) (fun h11 => ?_)
  · refine mg_bipush (v := (-2)) C dX5_input_25 (by decide) ?_
    exact mg_iret C hQ dX5_input_27 (⟨ad, g, a, v, by rw [gInput, if_pos h11] <;> first | rfl | decide, by rw [aInput, if_pos h11]; exact Sh.rf, hV, rfl, rfl⟩)
  · have hinr : vp_in r 8 := (by obtain ⟨i, ei, hi⟩ := wi_in d0 (by omega) h11; rw [ei]; exact vp_in_nI (by omega) (by decide))
    refine mg_iload_n C dX5_input_14 rfl ?_
    refine mg_iconst (v := 0) C dX5_input_15 (by decide) ?_
    refine mg_sipush (v := 255) C dX5_input_16 (by decide) ?_
    refine mg_callS C (ct_X5_in E _ _ _ _) oX5_98 rfl rfl rfl dX5_input_19 (fun o19 w19 z19 => ?_)
    obtain ⟨rfl, rfl⟩ := z19
    refine mg_v ?_
    refine mg_if_ne C 28 dX5_input_22 (by decide) (fun h22 => ?_) (fun h22 => ?_)
    · refine mg_aload_n C dX5_input_28 rfl ?_
      refine mg_get C inG_X5 fX5_29 (ci := 5) rfl rfl 17 rfl rfl dX5_input_29 ?_
      refine mg_iload_n C dX5_input_32 rfl ?_
      refine mg_iald C 13 rfl (hinr) dX5_input_33 ?_
      refine mg_istore_n C dX5_input_34 rfl ?_
      refine mg_lve (lv' := [(0, _), (1, _), (2, _), (3, _)]) rfl ?_
      refine mg_aload_n C dX5_input_35 rfl ?_
      refine mg_get C inG_X5 fX5_29 (ci := 5) rfl rfl 17 rfl rfl dX5_input_36 ?_
      refine mg_iload_n C dX5_input_39 rfl ?_
      refine mg_iload_n C dX5_input_40 rfl ?_
      refine mg_iast C 13 rfl (hinr) dX5_input_41 (ws' := (mw E ad g (ups a 3 (r : Int32).toNatClampNeg x) v tl)) rfl ?_
      refine mg_iload_n C dX5_input_42 rfl ?_
      exact mg_iret C hQ dX5_input_43 (⟨ad, g, ups a 3 r.toNatClampNeg x, v, by rw [gInput, if_neg h11, if_neg h22] <;> first | rfl | decide, by rw [aInput, if_neg h11, if_neg h22]; exact Sh.rf, hV.ar rfl rfl rfl rfl, rfl, rfl⟩)
    · refine mg_bipush (v := (-2)) C dX5_input_25 (by decide) ?_
      exact mg_iret C hQ dX5_input_27 (⟨ad, g, a, v, by rw [gInput, if_neg h11, if_pos h22] <;> first | rfl | decide, by rw [aInput, if_neg h11, if_pos h22]; exact Sh.rf, hV, rfl, rfl⟩)
