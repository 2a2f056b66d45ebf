theorem wr_sa {a : Nat → Nat → Int32} {z y : Int32} (h : wr a z y = 0) : ¬ sa a z y = 0 := by
  unfold wr at h
  unfold sa sk
  by_cases h1 : a 1 z.toNatClampNeg = -1
  · rw [if_pos h1] at h; exact absurd h (by decide)
  · rw [if_neg h1] at h
    by_cases h2 : a 1 z.toNatClampNeg = y
    · rw [if_pos h2] at h; exact absurd h (by decide)
    · rw [if_neg h1, if_neg (by decide), if_neg h2]; decide
theorem wr_sa' {a : Nat → Nat → Int32} {z y : Int32} (h : ¬ wr a z y = 0) : sa a z y = 0 := by
  unfold wr at h
  unfold sa sk
  by_cases h1 : a 1 z.toNatClampNeg = -1
  · rw [if_pos h1, if_pos rfl]
  · rw [if_neg h1] at h
    by_cases h2 : a 1 z.toNatClampNeg = y
    · rw [if_neg h1, if_neg (by decide), if_pos h2]
    · rw [if_neg h2] at h; exact absurd rfl h
theorem wa_k {a : Nat → Nat → Int32} {z y : Int32} : KM a (wa a z y) := by
  unfold wa
  by_cases h : wr a z y = 0
  · rw [if_pos h]; exact KM.rf
  · rw [if_neg h]; exact ⟨rfl, rfl, rfl, rfl, rfl, rfl⟩
theorem st_iv {fl : Nat} {g : Nat → Int32} {a a1 : Nat → Nat → Int32} {i j R C : Nat} {y : Int32} (h : IV fl g a) (h0 : g 0 = nI R) (hR : R ≤ 8) (h1c : g 1 = nI C) (hC : C ≤ 24) (hi : i < R) (hj : j < C) (h5 : a1 5 = a 5) (h1 : a1 1 = upd (a 1) (nI i * 24 + nI j).toNatClampNeg y) : IV fl g a1 := by
  obtain ⟨R1, C1, T, n, m, D, F, hd, hF, hr, ho1⟩ := id h
  have hR8 := hd.1.2.2
  have hC24 := hd.2.1.2.2
  have q0 := (nI_eq (by omega) (by omega)).mp (h0.symm.trans hd.1.1)
  have q1 := (nI_eq (by omega) (by omega)).mp (h1c.symm.trans hd.2.1.1)
  refine ⟨R1, C1, T, n, m, D, F, hd, hF, by rw [h5]; exact hr, fun r c hr8 hc24 ho2 => ?_⟩
  rw [h1, pl_eq, nI_clamp (by omega), pk_un (by omega)]
  exact ho1 r c hr8 hc24 ho2
set_option maxHeartbeats 400000 in
set_option maxRecDepth 100000 in
theorem mv_write (E : En) (ad : Nat → Nat) (g : Nat → Int32) (a : Nat → Nat → Int32) (v : Nat → Int64) (tl : va_W) (r c y : Int32) (hV : MO g a) : Ct E mX5_write 2 0 0 [.ref (ad 17), .int r, .int c, .int y] (mw E ad g a v tl) (fun o w => ∃ (ad1 : Nat → Nat) (g1 : Nat → Int32) (a1 : Nat → Nat → Int32) (v1 : Nat → Int64), o = some (.int (gWrite g a r c y)) ∧ Sh g a g1 a1 ∧ MO g1 a1 ∧ ad1 17 = ad 17 ∧ w = mw E ad1 g1 a1 v1 tl) := by
  refine Ct.of (by decide) (Nat.le_of_ble_eq_true rfl) (fun X C hQ hin => ?_)
  have C : Cx E X cX5_write 4 RX5 (some .int) 2 80 0 0 := C
  obtain ⟨R, Cc, T, n, m, D, F, ⟨⟨d0, d0a, d0b⟩, ⟨d1, d1a, d1b⟩, ⟨d2, d2a, d2b⟩, ⟨d4, d4a⟩, d5, ⟨d6, d6a⟩, dcm, dn0, dn1⟩, ⟨dF, dF1, dF2⟩, drow, dout⟩ := id hV.1
  refine mg_aload_n C dX5_write_0 rfl ?_
  refine mg_iload_n C dX5_write_1 rfl ?_
  refine mg_iload_n C dX5_write_2 rfl ?_
  refine mg_callV C (ct_X5_isCell E _ _ _ _ _ _ _) oX5_102 17 rfl rfl rfl rfl rfl dX5_write_3 (fun o3 w3 z3 => ?_)
  obtain ⟨rfl, rfl⟩ := z3
  refine mg_v ?_
  refine mg_if_eq C 21 dX5_write_6 (by decide) (fun h6 => ?_) (fun h6 => ?_)
  · refine mg_bipush (v := (-2)) C dX5_write_21 (by decide) ?_
    exact mg_iret C hQ dX5_write_23 (⟨ad, g, a, v, by rw [gWrite, if_pos h6] <;> first | rfl | decide, Sh.rf, hV, rfl, rfl⟩)
  · refine mg_iload_n C dX5_write_9 rfl ?_
    refine mg_iconst (v := 0) C dX5_write_10 (by decide) ?_
    refine mg_aload_n C dX5_write_11 rfl ?_
    refine mg_get C inG_X5 fX5_16 (ci := 5) rfl rfl 17 rfl rfl dX5_write_12 ?_
    refine mg_callS C (ct_X5_in E _ _ _ _) oX5_98 rfl rfl rfl dX5_write_15 (fun o15 w15 z15 => ?_)
    obtain ⟨rfl, rfl⟩ := z15
    refine mg_v ?_
    refine mg_if_ne C 24 dX5_write_18 (by decide) (fun h18 => ?_) (fun h18 => ?_)
    · obtain ⟨i, j, rfl, hi, rfl, hj⟩ := hc_nat d0 ⟨d0a, d0b⟩ d1 ⟨d1a, d1b⟩ h6
      have hin9 : vp_in (nI i * 24 + nI j) 192 := (by rw [pl_eq]; exact vp_in_nI (by omega) (by decide))
      refine mg_aload_n C dX5_write_24 rfl ?_
      refine mg_bipush (v := 24) C dX5_write_25 (by decide) ?_
      refine mg_iload_n C dX5_write_27 rfl ?_
      refine mg_imul C dX5_write_28 ?_
      refine mg_iload_n C dX5_write_29 rfl ?_
      refine mg_iadd C dX5_write_30 ?_
      refine mg_tos (w := .int (nI i * 24 + nI j)) (by rw [Int32.mul_comm]) ?_
      refine mg_iload_n C dX5_write_31 rfl ?_
      refine mg_callV C (ct_X5_writes E _ _ _ _ _ _ _ hin9) oX5_106 17 rfl rfl rfl rfl rfl dX5_write_32 (fun o32 w32 z32 => ?_)
      obtain ⟨rfl, rfl⟩ := z32
      refine mg_v ?_
      refine mg_if_eq C 42 dX5_write_35 (by decide) (fun h35 => ?_) (fun h35 => ?_)
      · refine mg_bipush (v := (-3)) C dX5_write_42 (by decide) ?_
        exact mg_iret C hQ dX5_write_44 (by
    refine ⟨ad, g, _, v, ?_, KM.sh wa_k, KM.mo wa_k hV, rfl, rfl⟩
    rw [gWrite, if_neg h6, if_neg h18, if_neg (wr_sa h35)])
      · refine mg_iconst (v := 1) C dX5_write_38 (by decide) ?_
        refine mg_goto C 44 dX5_write_39 (by decide) ?_
        exact mg_iret C hQ dX5_write_44 (by
    refine ⟨ad, g, _, v, ?_, KM.sh wa_k, KM.mo wa_k hV, rfl, rfl⟩
    rw [gWrite, if_neg h6, if_neg h18, if_pos (wr_sa' h35)])
    · refine mg_bipush (v := (-2)) C dX5_write_21 (by decide) ?_
      exact mg_iret C hQ dX5_write_23 (⟨ad, g, a, v, by rw [gWrite, if_neg h6, if_pos h18] <;> first | rfl | decide, Sh.rf, hV, rfl, rfl⟩)
set_option maxHeartbeats 400000 in
set_option maxRecDepth 100000 in
theorem mv_stick (E : En) (ad : Nat → Nat) (g : Nat → Int32) (a : Nat → Nat → Int32) (v : Nat → Int64) (tl : va_W) (r c y : Int32) (hV : MO g a) : Ct E mX5_stick 2 0 0 [.ref (ad 17), .int r, .int c, .int y] (mw E ad g a v tl) (fun o w => ∃ (ad1 : Nat → Nat) (g1 : Nat → Int32) (a1 : Nat → Nat → Int32) (v1 : Nat → Int64), o = some (.int (gStick g r c y)) ∧ Sh g (aStick g a r c y) g1 a1 ∧ MO g1 a1 ∧ ad1 17 = ad 17 ∧ w = mw E ad1 g1 a1 v1 tl) := by
  refine Ct.of (by decide) (Nat.le_of_ble_eq_true rfl) (fun X C hQ hin => ?_)
  have C : Cx E X cX5_stick 5 RX5 (some .int) 2 80 0 0 := C
  obtain ⟨R, Cc, T, n, m, D, F, ⟨⟨d0, d0a, d0b⟩, ⟨d1, d1a, d1b⟩, ⟨d2, d2a, d2b⟩, ⟨d4, d4a⟩, d5, ⟨d6, d6a⟩, dcm, dn0, dn1⟩, ⟨dF, dF1, dF2⟩, drow, dout⟩ := id hV.1
  refine mg_aload_n C dX5_stick_0 rfl ?_
  refine mg_iload_n C dX5_stick_1 rfl ?_
  refine mg_iload_n C dX5_stick_2 rfl ?_
  refine mg_callV C (ct_X5_isCell E _ _ _ _ _ _ _) oX5_102 17 rfl rfl rfl rfl rfl dX5_stick_3 (fun o3 w3 z3 => ?_)
  obtain ⟨rfl, rfl⟩ := z3
  refine mg_v ?_
  refine mg_if_eq C 21 dX5_stick_6 (by decide) (fun h6 => ?_) (fun h6 => ?_)
  · refine mg_bipush (v := (-2)) C dX5_stick_21 (by decide) ?_
    exact mg_iret C hQ dX5_stick_23 (⟨ad, g, a, v, by rw [gStick, if_pos h6] <;> first | rfl | decide, by rw [aStick, if_pos h6]; exact Sh.rf, hV, rfl, rfl⟩)
  · refine mg_iload_n C dX5_stick_9 rfl ?_
    refine mg_iconst (v := (-1)) C dX5_stick_10 (by decide) ?_
    refine mg_aload_n C dX5_stick_11 rfl ?_
    refine mg_get C inG_X5 fX5_16 (ci := 5) rfl rfl 17 rfl rfl dX5_stick_12 ?_
    refine mg_callS C (ct_X5_in E _ _ _ _) oX5_98 rfl rfl rfl dX5_stick_15 (fun o15 w15 z15 => ?_)
    obtain ⟨rfl, rfl⟩ := z15
    refine mg_v ?_
    refine mg_if_ne C 24 dX5_stick_18 (by decide) (fun h18 => ?_) (fun h18 => ?_)
    · obtain ⟨i, j, rfl, hi, rfl, hj⟩ := hc_nat d0 ⟨d0a, d0b⟩ d1 ⟨d1a, d1b⟩ h6
      have hin9 : vp_in (nI i * 24 + nI j) 192 := (by rw [pl_eq]; exact vp_in_nI (by omega) (by decide))
      refine mg_bipush (v := 24) C dX5_stick_24 (by decide) ?_
      refine mg_iload_n C dX5_stick_26 rfl ?_
      refine mg_imul C dX5_stick_27 ?_
      refine mg_iload_n C dX5_stick_28 rfl ?_
      refine mg_iadd C dX5_stick_29 ?_
      refine mg_tos (w := .int (nI i * 24 + nI j)) (by rw [Int32.mul_comm]) ?_
      refine mg_istore C dX5_stick_30 rfl ?_
      refine mg_lve (lv' := [(0, _), (1, _), (2, _), (3, _), (4, _)]) rfl ?_
      refine mg_aload_n C dX5_stick_32 rfl ?_
      refine mg_get C inG_X5 fX5_23 (ci := 5) rfl rfl 17 rfl rfl dX5_stick_33 ?_
      refine mg_iload C dX5_stick_36 rfl ?_
      refine mg_iload_n C dX5_stick_38 rfl ?_
      refine mg_iast C 15 rfl (hin9) dX5_stick_39 (ws' := (mw E ad g (ups a 1 ((nI i * 24 + nI j) : Int32).toNatClampNeg y) v tl)) rfl ?_
      refine mg_aload_n C dX5_stick_40 rfl ?_
      refine mg_get C inG_X5 fX5_19 (ci := 5) rfl rfl 17 rfl rfl dX5_stick_41 ?_
      refine mg_iload C dX5_stick_44 rfl ?_
      refine mg_iload_n C dX5_stick_46 rfl ?_
      refine mg_iconst (v := (-1)) C dX5_stick_47 (by decide) ?_
      refine mg_icmp_ne C 61 dX5_stick_48 (by decide) (fun h48 => ?_) (fun h48 => ?_)
      · refine mg_iload_n C dX5_stick_61 rfl ?_
        refine mg_iast C 16 rfl (hin9) dX5_stick_62 (ws' := (mw E ad g (ups (ups a 1 ((nI i * 24 + nI j) : Int32).toNatClampNeg y) 0 ((nI i * 24 + nI j) : Int32).toNatClampNeg y) v tl)) rfl ?_
        refine mg_iconst (v := 1) C dX5_stick_63 (by decide) ?_
        exact mg_iret C hQ dX5_stick_64 (by
    refine ⟨ad, g, (ups (ups a 1 ((nI i * 24 + nI j) : Int32).toNatClampNeg y) 0 ((nI i * 24 + nI j) : Int32).toNatClampNeg y), v, ?_, ?_, ⟨st_iv hV.1 d0 d0b d1 d1b hi hj rfl rfl, hV.2⟩, rfl, rfl⟩
    · rw [gStick, if_neg h6, if_neg h18]
    · rw [aStick, if_neg h6, if_neg h18]; exact Sh.ar rfl rfl rfl rfl)
      · refine mg_aload_n C dX5_stick_51 rfl ?_
        refine mg_get C inG_X5 fX5_19 (ci := 5) rfl rfl 17 rfl rfl dX5_stick_52 ?_
        refine mg_iload C dX5_stick_55 rfl ?_
        refine mg_iald C 16 rfl (hin9) dX5_stick_57 ?_
        refine mg_goto C 62 dX5_stick_58 (by decide) ?_
        refine mg_topi (fun zv62 ezv62 => ?_)
        refine mg_iast C 16 rfl (hin9) dX5_stick_62 (ws' := (mw E ad g (ups (ups a 1 ((nI i * 24 + nI j) : Int32).toNatClampNeg y) 0 ((nI i * 24 + nI j) : Int32).toNatClampNeg zv62) v tl)) rfl ?_
        refine mg_iconst (v := 1) C dX5_stick_63 (by decide) ?_
        exact mg_iret C hQ dX5_stick_64 (by
    refine ⟨ad, g, (ups (ups a 1 ((nI i * 24 + nI j) : Int32).toNatClampNeg y) 0 ((nI i * 24 + nI j) : Int32).toNatClampNeg zv62), v, ?_, ?_, ⟨st_iv hV.1 d0 d0b d1 d1b hi hj rfl rfl, hV.2⟩, rfl, rfl⟩
    · rw [gStick, if_neg h6, if_neg h18]
    · rw [aStick, if_neg h6, if_neg h18]; exact Sh.ar rfl rfl rfl rfl)
    · refine mg_bipush (v := (-2)) C dX5_stick_21 (by decide) ?_
      exact mg_iret C hQ dX5_stick_23 (⟨ad, g, a, v, by rw [gStick, if_neg h6, if_pos h18] <;> first | rfl | decide, by rw [aStick, if_neg h6, if_pos h18]; exact Sh.rf, hV, rfl, rfl⟩)
set_option maxHeartbeats 400000 in
set_option maxRecDepth 100000 in
theorem mv_cell (E : En) (ad : Nat → Nat) (g : Nat → Int32) (a : Nat → Nat → Int32) (v : Nat → Int64) (tl : va_W) (r c u : Int32) (hV : MO g a) : Ct E mX5_cell 2 0 0 [.ref (ad 17), .int r, .int c, .int u] (mw E ad g a v tl) (fun o w => ∃ (r : Int32) (ad1 : Nat → Nat) (g1 : Nat → Int32) (a1 : Nat → Nat → Int32) (v1 : Nat → Int64), o = some (.int r) ∧ Sh g a g1 a1 ∧ MO g1 a1 ∧ ad1 17 = ad 17 ∧ w = mw E ad1 g1 a1 v1 tl) := by
  refine Ct.of (by decide) (Nat.le_of_ble_eq_true rfl) (fun X C hQ hin => ?_)
  have C : Cx E X cX5_cell 4 RX5 (some .int) 2 80 0 0 := C
  obtain ⟨R, Cc, T, n, m, D, F, ⟨⟨d0, d0a, d0b⟩, ⟨d1, d1a, d1b⟩, ⟨d2, d2a, d2b⟩, ⟨d4, d4a⟩, d5, ⟨d6, d6a⟩, dcm, dn0, dn1⟩, ⟨dF, dF1, dF2⟩, drow, dout⟩ := id hV.1
  refine mg_aload_n C dX5_cell_0 rfl ?_
  refine mg_iload_n C dX5_cell_1 rfl ?_
  refine mg_iload_n C dX5_cell_2 rfl ?_
  refine mg_callV C (ct_X5_isCell E _ _ _ _ _ _ _) oX5_102 17 rfl rfl rfl rfl rfl dX5_cell_3 (fun o3 w3 z3 => ?_)
  obtain ⟨rfl, rfl⟩ := z3
  refine mg_v ?_
  refine mg_if_eq C 32 dX5_cell_6 (by decide) (fun h6 => ?_) (fun h6 => ?_)
  · refine mg_bipush (v := (-2)) C dX5_cell_32 (by decide) ?_
    exact mg_iret C hQ dX5_cell_34 (⟨_, ad, g, a, v, rfl, Sh.rf, hV, rfl, rfl⟩)
  · refine mg_iload_n C dX5_cell_9 rfl ?_
    refine mg_iconst (v := 0) C dX5_cell_10 (by decide) ?_
    refine mg_iconst (v := 2) C dX5_cell_11 (by decide) ?_
    refine mg_callS C (ct_X5_in E _ _ _ _) oX5_98 rfl rfl rfl dX5_cell_12 (fun o12 w12 z12 => ?_)
    obtain ⟨rfl, rfl⟩ := z12
    refine mg_v ?_
    refine mg_if_eq C 32 dX5_cell_15 (by decide) (fun h15 => ?_) (fun h15 => ?_)
    · refine mg_bipush (v := (-2)) C dX5_cell_32 (by decide) ?_
      exact mg_iret C hQ dX5_cell_34 (⟨_, ad, g, a, v, rfl, Sh.rf, hV, rfl, rfl⟩)
    · obtain ⟨i, j, rfl, hi, rfl, hj⟩ := hc_nat d0 ⟨d0a, d0b⟩ d1 ⟨d1a, d1b⟩ h6
      have hin9 : vp_in (nI i * 24 + nI j) 192 := (by rw [pl_eq]; exact vp_in_nI (by omega) (by decide))
      refine mg_aload_n C dX5_cell_18 rfl ?_
      refine mg_bipush (v := 24) C dX5_cell_19 (by decide) ?_
      refine mg_iload_n C dX5_cell_21 rfl ?_
      refine mg_imul C dX5_cell_22 ?_
      refine mg_iload_n C dX5_cell_23 rfl ?_
      refine mg_iadd C dX5_cell_24 ?_
      refine mg_tos (w := .int (nI i * 24 + nI j)) (by rw [Int32.mul_comm]) ?_
      refine mg_iload_n C dX5_cell_25 rfl ?_
      refine mg_callV C (ct_X5_cellAt E _ _ _ _ _ _ _ hin9) oX5_109 17 rfl rfl rfl rfl rfl dX5_cell_26 (fun o26 w26 z26 => ?_)
      obtain ⟨rfl, rfl⟩ := z26
      refine mg_v ?_
      refine mg_goto C 34 dX5_cell_29 (by decide) ?_
      exact mg_iret C hQ dX5_cell_34 (⟨_, ad, g, a, v, rfl, Sh.rf, hV, rfl, rfl⟩)
set_option maxHeartbeats 400000 in
set_option maxRecDepth 100000 in
theorem mx_X5_sumOf (E : En) (ad : Nat → Nat) (g : Nat → Int32) (a : Nat → Nat → Int32) (v : Nat → Int64) (tl : va_W) (R cc : Nat) (d0 : g 0 = nI R) (hR : R ≤ 8) (hcc : cc < 24) : Ct E mX5_sumOf 0 0 0 [.ref (ad 17), .int (nI cc)] (mw E ad g a v tl) (fun o w => ∃ r : Int32, o = some (.int r) ∧ w = mw E ad g a v tl) := by
  refine Ct.of (by decide) (Nat.le_of_ble_eq_true rfl) (fun X C hQ hin => ?_)
  have C : Cx E X cX5_sumOf 4 RX5 (some .int) 0 0 0 0 := C
  have loop : ∀ (m1 i : Nat) (y : Int32), R < i + m1 → i ≤ R → GG E X (mw E ad g a v tl) 0 0 4 [(0, .ref (ad 17)), (1, .int (nI cc)), (2, .int y), (3, .int (nI i))] [] := by
    intro m1
    induction m1 with
    | zero => intro i y hm hi; omega
    | succ m1 ih =>
      intro i y hm hi
      refine mg_iload_n C dX5_sumOf_4 rfl ?_
      refine mg_aload_n C dX5_sumOf_5 rfl ?_
      refine mg_get C inG_X5 fX5_7 (ci := 5) rfl rfl 17 rfl rfl dX5_sumOf_6 ?_
      refine mg_icmp_ge C 39 dX5_sumOf_9 (by decide) (fun h9 => ?_) (fun h9 => ?_)
      · refine mg_iload_n C dX5_sumOf_39 rfl ?_
        exact mg_iret C hQ dX5_sumOf_40 (⟨_, rfl, rfl⟩)
      · have hlt : i < R := (by rcases Nat.lt_or_ge i R with h | h; exact h; exact absurd (by rw [d0]; exact nI_le h (by omega)) h9)
        have hin8 : vp_in (nI i) 8 := vp_in_nI (by omega) (by decide)
        have hin9 : vp_in (24 * nI i + nI cc) 192 := (by rw [pl_eq']; exact vp_in_nI (by omega) (by decide))
        refine mg_iload_n C dX5_sumOf_12 rfl ?_
        refine mg_aload_n C dX5_sumOf_13 rfl ?_
        refine mg_get C inG_X5 fX5_29 (ci := 5) rfl rfl 17 rfl rfl dX5_sumOf_14 ?_
        refine mg_iload_n C dX5_sumOf_17 rfl ?_
        refine mg_iald C 13 rfl (hin8) dX5_sumOf_18 ?_
        refine mg_aload_n C dX5_sumOf_19 rfl ?_
        refine mg_get C inG_X5 fX5_19 (ci := 5) rfl rfl 17 rfl rfl dX5_sumOf_20 ?_
        refine mg_bipush (v := 24) C dX5_sumOf_23 (by decide) ?_
        refine mg_iload_n C dX5_sumOf_25 rfl ?_
        refine mg_imul C dX5_sumOf_26 ?_
        refine mg_iload_n C dX5_sumOf_27 rfl ?_
        refine mg_iadd C dX5_sumOf_28 ?_
        refine mg_iald C 16 rfl (hin9) dX5_sumOf_29 ?_
        refine mg_imul C dX5_sumOf_30 ?_
        refine mg_iadd C dX5_sumOf_31 ?_
        refine mg_istore_n C dX5_sumOf_32 rfl ?_
        refine mg_lve (lv' := [(0, _), (1, _), (2, _), (3, _)]) rfl ?_
        refine mg_iinc C dX5_sumOf_33 rfl rfl ?_
        refine mg_lve (lv' := [(0, _), (1, _), (2, _), (3, _)]) rfl ?_
        refine mg_goto C 4 dX5_sumOf_36 (by decide) ?_
        rw [show nI i + Int32.ofInt 1 = nI (i + 1) from (nI_succ i).symm]
        exact ih (i + 1) _ (by omega) (by omega)
  refine mg_iconst (v := 0) C dX5_sumOf_0 (by decide) ?_
  refine mg_istore_n C dX5_sumOf_1 rfl ?_
  refine mg_lve (lv' := [(0, _), (1, _), (2, _)]) rfl ?_
  refine mg_iconst (v := 0) C dX5_sumOf_2 (by decide) ?_
  refine mg_istore_n C dX5_sumOf_3 rfl ?_
  refine mg_lve (lv' := [(0, _), (1, _), (2, _), (3, _)]) rfl ?_
  exact loop (R + 1) 0 _ (by omega) (by omega)
set_option maxHeartbeats 400000 in
set_option maxRecDepth 100000 in
theorem mv_sum (E : En) (ad : Nat → Nat) (g : Nat → Int32) (a : Nat → Nat → Int32) (v : Nat → Int64) (tl : va_W) (c : Int32) (hV : MO g a) : Ct E mX5_sum 1 0 0 [.ref (ad 17), .int c] (mw E ad g a v tl) (fun o w => ∃ (r : Int32) (ad1 : Nat → Nat) (g1 : Nat → Int32) (a1 : Nat → Nat → Int32) (v1 : Nat → Int64), o = some (.int r) ∧ Sh g a g1 a1 ∧ MO g1 a1 ∧ ad1 17 = ad 17 ∧ w = mw E ad1 g1 a1 v1 tl) := by
  refine Ct.of (by decide) (Nat.le_of_ble_eq_true rfl) (fun X C hQ hin => ?_)
  have C : Cx E X cX5_sum 2 RX5 (some .int) 1 40 0 0 := C
  obtain ⟨R, Cc, T, n, m, D, F, ⟨⟨d0, d0a, d0b⟩, ⟨d1, d1a, d1b⟩, ⟨d2, d2a, d2b⟩, ⟨d4, d4a⟩, d5, ⟨d6, d6a⟩, dcm, dn0, dn1⟩, ⟨dF, dF1, dF2⟩, drow, dout⟩ := id hV.1
  refine mg_iload_n C dX5_sum_0 rfl ?_
  refine mg_iconst (v := 0) C dX5_sum_1 (by decide) ?_
  refine mg_aload_n C dX5_sum_2 rfl ?_
  refine mg_get C inG_X5 fX5_13 (ci := 5) rfl rfl 17 rfl rfl dX5_sum_3 ?_
  refine mg_iconst (v := 1) C dX5_sum_6 (by decide) ?_
  refine mg_isub C dX5_sum_7 ?_
  refine mg_callS C (ct_X5_in E _ _ _ _) oX5_98 rfl rfl rfl dX5_sum_8 (fun o8 w8 z8 => ?_)
  obtain ⟨rfl, rfl⟩ := z8
  refine mg_v ?_
  refine mg_if_eq C 26 dX5_sum_11 (by decide) (fun h11 => ?_) (fun h11 => ?_)
  · refine mg_bipush (v := (-2)) C dX5_sum_26 (by decide) ?_
    exact mg_iret C hQ dX5_sum_28 (⟨_, ad, g, a, v, rfl, Sh.rf, hV, rfl, rfl⟩)
  · obtain ⟨cc, ecc, hcc⟩ := wi_in d1 (by omega) h11
    subst ecc
    refine mg_aload_n C dX5_sum_14 rfl ?_
    refine mg_aload_n C dX5_sum_15 rfl ?_
    refine mg_iload_n C dX5_sum_16 rfl ?_
    refine mg_callV C (mx_X5_sumOf E _ _ _ _ _ R cc d0 d0b (by omega)) oX5_113 17 rfl rfl rfl rfl rfl dX5_sum_17 (fun o17 w17 z17 => ?_)
    obtain ⟨r17, rfl, rfl⟩ := z17
    refine mg_v ?_
    refine mg_callV C (ct_X5_converted E _ _ _ _ _ _) oX5_117 17 rfl rfl rfl rfl rfl dX5_sum_20 (fun o20 w20 z20 => ?_)
    obtain ⟨rfl, rfl⟩ := z20
    refine mg_v ?_
    refine mg_goto C 28 dX5_sum_23 (by decide) ?_
    exact mg_iret C hQ dX5_sum_28 (⟨_, ad, g, a, v, rfl, Sh.rf, hV, rfl, rfl⟩)
set_option maxHeartbeats 400000 in
set_option maxRecDepth 100000 in
theorem mv_table (E : En) (ad : Nat → Nat) (g : Nat → Int32) (a : Nat → Nat → Int32) (v : Nat → Int64) (tl : va_W) (p q d : Int32) (hV : MO g a) : Ct E mX5_table 1 0 0 [.ref (ad 17), .int p, .int q, .int d] (mw E ad g a v tl) (fun o w => ∃ (ad1 : Nat → Nat) (g1 : Nat → Int32) (a1 : Nat → Nat → Int32) (v1 : Nat → Int64), o = some (.int (gTable g p q d)) ∧ Sh (sTable g p q d) (aTable g a p q d) g1 a1 ∧ MO g1 a1 ∧ ad1 17 = ad 17 ∧ w = mw E ad1 g1 a1 v1 tl) := by
  refine Ct.of (by decide) (Nat.le_of_ble_eq_true rfl) (fun X C hQ hin => ?_)
  have C : Cx E X cX5_table 5 RX5 (some .int) 1 40 0 0 := C
  have loop2 : ¬ wi p 1 (g 0) = 0 → ¬ wi q 1 12 = 0 → ¬ wi d 1 6 = 0 → 2 * d * q ≤ g 1 → ∀ (a0 : Nat → Nat → Int32), (∀ j, j < 96 → a0 4 j = 0) → (∀ j, j ≠ 4 → a0 j = a j) → ∀ (m1 i : Nat) (a1 : Nat → Nat → Int32), 8 < i + m1 → i ≤ 8 → (∀ j, j < i → a1 5 j = nI j) → (∀ j, j ≠ 5 → a1 j = a0 j) → GG E X (mw E ad (ug (ug (ug (ug g 4 p) 5 q) 6 d) 8 0) a1 v tl) 0 0 97 [(0, .ref (ad 17)), (1, .int p), (2, .int q), (3, .int d), (4, .int (nI i))] [] := by
    intro h1 h2 h3 h4 a0 hz ha0
    intro m1
    induction m1 with
    | zero => intro i a1 hm hi; omega
    | succ m1 ih =>
      intro i a1 hm hi hr ho
      refine mg_iload C dX5_table_97 rfl ?_
      refine mg_bipush (v := 8) C dX5_table_99 (by decide) ?_
      refine mg_icmp_ge C 119 dX5_table_101 (by decide) (fun h101 => ?_) (fun h101 => ?_)
      · have hge : i = 8 := (by rcases Nat.lt_or_ge i 8 with h | h; exact absurd h101 (nI_ge (b := 8) h (by decide)); omega)
        subst hge
        refine mg_iconst (v := 1) C dX5_table_119 (by decide) ?_
        exact mg_iret C hQ dX5_table_120 (by
          refine ⟨ad, (ug (ug (ug (ug g 4 p) 5 q) 6 d) 8 0), a1, v, ?_, ?_, ⟨table_iv hV.1 h1 h2 h3 h4 (fun _ _ => rfl) hr (fun j _ => by rw [ho 1 (by decide), ha0 1 (by decide)]), by rw [ho 8 (by decide), ha0 8 (by decide)]; exact hV.2.1, by rw [ho 13 (by decide), ha0 13 (by decide)]; exact hV.2.2⟩, rfl, rfl⟩
          · rw [gTable, if_neg h1, if_neg h2, if_neg h3, if_pos h4]
          · rw [sTable, aTable, if_neg h1, if_neg h2, if_neg h3, if_pos h4, if_neg h1, if_neg h2, if_neg h3, if_pos h4]
            exact ⟨fun _ _ => rfl, fun j _ => by rw [ho 1 (by decide), ha0 1 (by decide)]; rfl, fun j _ => by rw [ho 3 (by decide), ha0 3 (by decide)]; rfl, fun j hj => by rw [ho 4 (by decide), hz j hj]; rfl, fun j _ => by rw [ho 13 (by decide), ha0 13 (by decide)]; rfl⟩)
      · have hlt : i < 8 := (by rcases Nat.lt_or_ge i 8 with h | h; exact h; exact absurd (show (8 : Int32) ≤ nI i from nI_le (a := 8) h (by omega)) h101)
        have hin4 : vp_in (nI i) 8 := vp_in_nI hlt (by decide)
        refine mg_aload_n C dX5_table_104 rfl ?_
        refine mg_get C inG_X5 fX5_38 (ci := 5) rfl rfl 17 rfl rfl dX5_table_105 ?_
        refine mg_iload C dX5_table_108 rfl ?_
        refine mg_iload C dX5_table_110 rfl ?_
        refine mg_iast C 11 rfl (hin4) dX5_table_112 (ws' := (mw E ad (ug (ug (ug (ug g 4 p) 5 q) 6 d) 8 0) (ups a1 5 ((nI i) : Int32).toNatClampNeg (nI i)) v tl)) rfl ?_
        refine mg_iinc C dX5_table_113 rfl rfl ?_
        refine mg_lve (lv' := [(0, _), (1, _), (2, _), (3, _), (4, _)]) rfl ?_
        refine mg_goto C 97 dX5_table_116 (by decide) ?_
        refine mg_lve (lv' := [(0, .ref (ad 17)), (1, .int p), (2, .int q), (3, .int d), (4, .int (nI (i + 1)))]) (by rw [nI_succ i]; rfl) ?_
        refine ih (i + 1) _ (by omega) (by omega) (fun j hj => ?_) (fun j hj => (ups_n hj).trans (ho j hj))
        show upd (a1 5) _ _ j = _
        rw [nI_clamp (by omega)]
        by_cases e : j = i
        · rw [e]; exact pk_us
        · rw [pk_un e]; exact hr j (by omega)
  have loop1 : ¬ wi p 1 (g 0) = 0 → ¬ wi q 1 12 = 0 → ¬ wi d 1 6 = 0 → 2 * d * q ≤ g 1 → ∀ (m1 i : Nat) (a1 : Nat → Nat → Int32), 96 < i + m1 → i ≤ 96 → (∀ j, j < i → a1 4 j = 0) → (∀ j, j ≠ 4 → a1 j = a j) → GG E X (mw E ad (ug (ug (ug (ug g 4 p) 5 q) 6 d) 8 0) a1 v tl) 0 0 73 [(0, .ref (ad 17)), (1, .int p), (2, .int q), (3, .int d), (4, .int (nI i))] [] := by
    intro h1 h2 h3 h4
    intro m1
    induction m1 with
    | zero => intro i a1 hm hi; omega
    | succ m1 ih =>
      intro i a1 hm hi hr ho
      refine mg_iload C dX5_table_73 rfl ?_
      refine mg_bipush (v := 96) C dX5_table_75 (by decide) ?_
      refine mg_icmp_ge C 94 dX5_table_77 (by decide) (fun h77 => ?_) (fun h77 => ?_)
      · have hge : i = 96 := (by rcases Nat.lt_or_ge i 96 with h | h; exact absurd h77 (nI_ge (b := 96) h (by decide)); omega)
        subst hge
        refine mg_iconst (v := 0) C dX5_table_94 (by decide) ?_
        refine mg_istore C dX5_table_95 rfl ?_
        refine mg_lve (lv' := [(0, _), (1, _), (2, _), (3, _), (4, _)]) rfl ?_
        exact loop2 h1 h2 h3 h4 a1 hr ho 9 0 a1 (by omega) (by omega) (fun j hj => absurd hj (Nat.not_lt_zero j)) (fun _ _ => rfl)
      · have hlt : i < 96 := (by rcases Nat.lt_or_ge i 96 with h | h; exact h; exact absurd (show (96 : Int32) ≤ nI i from nI_le (a := 96) h (by omega)) h77)
        have hin4 : vp_in (nI i) 96 := vp_in_nI hlt (by decide)
        refine mg_aload_n C dX5_table_80 rfl ?_
        refine mg_get C inG_X5 fX5_35 (ci := 5) rfl rfl 17 rfl rfl dX5_table_81 ?_
        refine mg_iload C dX5_table_84 rfl ?_
        refine mg_iconst (v := 0) C dX5_table_86 (by decide) ?_
        refine mg_iast C 12 rfl (hin4) dX5_table_87 (ws' := (mw E ad (ug (ug (ug (ug g 4 p) 5 q) 6 d) 8 0) (ups a1 4 ((nI i) : Int32).toNatClampNeg 0) v tl)) rfl ?_
        refine mg_iinc C dX5_table_88 rfl rfl ?_
        refine mg_lve (lv' := [(0, _), (1, _), (2, _), (3, _), (4, _)]) rfl ?_
        refine mg_goto C 73 dX5_table_91 (by decide) ?_
        refine mg_lve (lv' := [(0, .ref (ad 17)), (1, .int p), (2, .int q), (3, .int d), (4, .int (nI (i + 1)))]) (by rw [nI_succ i]; rfl) ?_
        refine ih (i + 1) _ (by omega) (by omega) (fun j hj => ?_) (fun j hj => (ups_n hj).trans (ho j hj))
        show upd (a1 4) _ _ j = _
        rw [nI_clamp (by omega)]
        by_cases e : j = i
        · rw [e]; exact pk_us
        · rw [pk_un e]; exact hr j (by omega)
  refine mg_iload_n C dX5_table_0 rfl ?_
  refine mg_iconst (v := 1) C dX5_table_1 (by decide) ?_
  refine mg_aload_n C dX5_table_2 rfl ?_
  refine mg_get C inG_X5 fX5_7 (ci := 5) rfl rfl 17 rfl rfl dX5_table_3 ?_
  refine mg_callS C (ct_X5_in E _ _ _ _) oX5_98 rfl rfl rfl dX5_table_6 (fun o6 w6 z6 => ?_)
  obtain ⟨rfl, rfl⟩ := z6
  refine mg_v ?_
  refine mg_if_eq C 32 dX5_table_9 (by decide) (fun h9 => ?_) (fun h9 => ?_)
  · refine mg_bipush (v := (-2)) C dX5_table_32 (by decide) ?_
    exact mg_iret C hQ dX5_table_34 (⟨ad, g, a, v, by rw [gTable, if_pos h9] <;> first | rfl | decide, by rw [sTable, aTable, if_pos h9, if_pos h9]; exact Sh.rf, hV, rfl, rfl⟩)
  · refine mg_iload_n C dX5_table_12 rfl ?_
    refine mg_iconst (v := 1) C dX5_table_13 (by decide) ?_
    refine mg_bipush (v := 12) C dX5_table_14 (by decide) ?_
    refine mg_callS C (ct_X5_in E _ _ _ _) oX5_98 rfl rfl rfl dX5_table_16 (fun o16 w16 z16 => ?_)
    obtain ⟨rfl, rfl⟩ := z16
    refine mg_v ?_
    refine mg_if_eq C 32 dX5_table_19 (by decide) (fun h19 => ?_) (fun h19 => ?_)
    · refine mg_bipush (v := (-2)) C dX5_table_32 (by decide) ?_
      exact mg_iret C hQ dX5_table_34 (⟨ad, g, a, v, by rw [gTable, if_neg h9, if_pos h19] <;> first | rfl | decide, by rw [sTable, aTable, if_neg h9, if_pos h19, if_neg h9, if_pos h19]; exact Sh.rf, hV, rfl, rfl⟩)
    · refine mg_iload_n C dX5_table_22 rfl ?_
      refine mg_iconst (v := 1) C dX5_table_23 (by decide) ?_
      refine mg_bipush (v := 6) C dX5_table_24 (by decide) ?_
      refine mg_callS C (ct_X5_in E _ _ _ _) oX5_98 rfl rfl rfl dX5_table_26 (fun o26 w26 z26 => ?_)
      obtain ⟨rfl, rfl⟩ := z26
      refine mg_v ?_
      refine mg_if_ne C 35 dX5_table_29 (by decide) (fun h29 => ?_) (fun h29 => ?_)
      · refine mg_iconst (v := 2) C dX5_table_35 (by decide) ?_
        refine mg_iload_n C dX5_table_36 rfl ?_
        refine mg_imul C dX5_table_37 ?_
        refine mg_iload_n C dX5_table_38 rfl ?_
        refine mg_imul C dX5_table_39 ?_
        refine mg_aload_n C dX5_table_40 rfl ?_
        refine mg_get C inG_X5 fX5_13 (ci := 5) rfl rfl 17 rfl rfl dX5_table_41 ?_
        refine mg_icmp_le C 50 dX5_table_44 (by decide) (fun h44 => ?_) (fun h44 => ?_)
        · refine mg_aload_n C dX5_table_50 rfl ?_
          refine mg_iload_n C dX5_table_51 rfl ?_
          refine mg_put C inG_X5 fX5_82 (ci := 5) rfl rfl tyX5 tyX5_ok nmX5 rfl 17 rfl rfl rfl rfl dX5_table_52 (ws' := (mw E ad (ug g 4 p) a v tl)) rfl ?_
          refine mg_aload_n C dX5_table_55 rfl ?_
          refine mg_iload_n C dX5_table_56 rfl ?_
          refine mg_put C inG_X5 fX5_85 (ci := 5) rfl rfl tyX5 tyX5_ok nmX5 rfl 17 rfl rfl rfl rfl dX5_table_57 (ws' := (mw E ad (ug (ug g 4 p) 5 q) a v tl)) rfl ?_
          refine mg_aload_n C dX5_table_60 rfl ?_
          refine mg_iload_n C dX5_table_61 rfl ?_
          refine mg_put C inG_X5 fX5_88 (ci := 5) rfl rfl tyX5 tyX5_ok nmX5 rfl 17 rfl rfl rfl rfl dX5_table_62 (ws' := (mw E ad (ug (ug (ug g 4 p) 5 q) 6 d) a v tl)) rfl ?_
          refine mg_aload_n C dX5_table_65 rfl ?_
          refine mg_iconst (v := 0) C dX5_table_66 (by decide) ?_
          refine mg_put C inG_X5 fX5_91 (ci := 5) rfl rfl tyX5 tyX5_ok nmX5 rfl 17 rfl rfl rfl rfl dX5_table_67 (ws' := (mw E ad (ug (ug (ug (ug g 4 p) 5 q) 6 d) 8 0) a v tl)) rfl ?_
          refine mg_iconst (v := 0) C dX5_table_70 (by decide) ?_
          refine mg_istore C dX5_table_71 rfl ?_
          refine mg_lve (lv' := [(0, _), (1, _), (2, _), (3, _), (4, _)]) rfl ?_
          exact loop1 h9 h19 h29 h44 97 0 a (by omega) (by omega) (fun j hj => absurd hj (Nat.not_lt_zero j)) (fun _ _ => rfl)
        · refine mg_bipush (v := (-3)) C dX5_table_47 (by decide) ?_
          exact mg_iret C hQ dX5_table_49 (⟨ad, g, a, v, by rw [gTable, if_neg h9, if_neg h19, if_neg h29, if_neg h44] <;> first | rfl | decide, by rw [sTable, aTable, if_neg h9, if_neg h19, if_neg h29, if_neg h44, if_neg h9, if_neg h19, if_neg h29, if_neg h44]; exact Sh.rf, hV, rfl, rfl⟩)
      · refine mg_bipush (v := (-2)) C dX5_table_32 (by decide) ?_
        exact mg_iret C hQ dX5_table_34 (⟨ad, g, a, v, by rw [gTable, if_neg h9, if_neg h19, if_pos h29] <;> first | rfl | decide, by rw [sTable, aTable, if_neg h9, if_neg h19, if_pos h29, if_neg h9, if_neg h19, if_pos h29]; exact Sh.rf, hV, rfl, rfl⟩)
set_option maxHeartbeats 400000 in
set_option maxRecDepth 100000 in
theorem mx_X5_greatest (E : En) (ad : Nat → Nat) (g : Nat → Int32) (a : Nat → Nat → Int32) (v : Nat → Int64) (tl : va_W) (D : Nat) (d6 : g 6 = nI D) (hD : D ≤ 6) : Ct E mX5_greatest 0 0 0 [.ref (ad 17)] (mw E ad g a v tl) (fun o w => o = some (.int (gre g)) ∧ w = mw E ad g a v tl) := by
  refine Ct.of (by decide) (Nat.le_of_ble_eq_true rfl) (fun X C hQ hin => ?_)
  have C : Cx E X cX5_greatest 3 RX5 (some .int) 0 0 0 0 := C
  have loop : ∀ (m1 i : Nat), D < i + m1 → i ≤ D → GG E X (mw E ad g a v tl) 0 0 4 [(0, .ref (ad 17)), (1, .int (pwI (g 2 + 1) i)), (2, .int (nI i))] [] := by
    intro m1
    induction m1 with
    | zero => intro i hm hi; omega
    | succ m1 ih =>
      intro i hm hi
      refine mg_iload_n C dX5_greatest_4 rfl ?_
      refine mg_aload_n C dX5_greatest_5 rfl ?_
      refine mg_get C inG_X5 fX5_88 (ci := 5) rfl rfl 17 rfl rfl dX5_greatest_6 ?_
      refine mg_icmp_ge C 27 dX5_greatest_9 (by decide) (fun h9 => ?_) (fun h9 => ?_)
      · have hge : i = D := (by rcases Nat.lt_or_ge i D with h | h; exact absurd (by rw [d6] at h9; exact h9) (nI_ge h (by omega)); omega)
        subst hge
        refine mg_iload_n C dX5_greatest_27 rfl ?_
        refine mg_iconst (v := 1) C dX5_greatest_28 (by decide) ?_
        refine mg_isub C dX5_greatest_29 ?_
        exact mg_iret C hQ dX5_greatest_30 (⟨by rw [gre, d6, nI_clamp (by omega)], rfl⟩)
      · have hlt : i < D := (by rcases Nat.lt_or_ge i D with h | h; exact h; exact absurd (by rw [d6]; exact nI_le h (by omega)) h9)
        refine mg_iload_n C dX5_greatest_12 rfl ?_
        refine mg_aload_n C dX5_greatest_13 rfl ?_
        refine mg_get C inG_X5 fX5_16 (ci := 5) rfl rfl 17 rfl rfl dX5_greatest_14 ?_
        refine mg_iconst (v := 1) C dX5_greatest_17 (by decide) ?_
        refine mg_iadd C dX5_greatest_18 ?_
        refine mg_imul C dX5_greatest_19 ?_
        refine mg_istore_n C dX5_greatest_20 rfl ?_
        refine mg_lve (lv' := [(0, _), (1, _), (2, _)]) rfl ?_
        refine mg_iinc C dX5_greatest_21 rfl rfl ?_
        refine mg_lve (lv' := [(0, _), (1, _), (2, _)]) rfl ?_
        refine mg_goto C 4 dX5_greatest_24 (by decide) ?_
        refine mg_lve (lv' := [(0, .ref (ad 17)), (1, .int (pwI (g 2 + 1) (i + 1))), (2, .int (nI (i + 1)))]) (by rw [nI_succ i]; rfl) ?_
        exact ih (i + 1) (by omega) (by omega)
  refine mg_iconst (v := 1) C dX5_greatest_0 (by decide) ?_
  refine mg_istore_n C dX5_greatest_1 rfl ?_
  refine mg_lve (lv' := [(0, _), (1, _)]) rfl ?_
  refine mg_iconst (v := 0) C dX5_greatest_2 (by decide) ?_
  refine mg_istore_n C dX5_greatest_3 rfl ?_
  refine mg_lve (lv' := [(0, _), (1, _), (2, _)]) rfl ?_
  exact loop (D + 1) 0 (by omega) (by omega)
set_option maxHeartbeats 400000 in
set_option maxRecDepth 100000 in
theorem mv_number (E : En) (ad : Nat → Nat) (g : Nat → Int32) (a : Nat → Nat → Int32) (v : Nat → Int64) (tl : va_W) (i k y : Int32) (hV : MO g a) : Ct E mX5_number 1 0 0 [.ref (ad 17), .int i, .int k, .int y] (mw E ad g a v tl) (fun o w => ∃ (ad1 : Nat → Nat) (g1 : Nat → Int32) (a1 : Nat → Nat → Int32) (v1 : Nat → Int64), o = some (.int (gNum g a i k y)) ∧ Sh g (aNum g a i k y) g1 a1 ∧ MO g1 a1 ∧ ad1 17 = ad 17 ∧ w = mw E ad1 g1 a1 v1 tl) := by
  refine Ct.of (by decide) (Nat.le_of_ble_eq_true rfl) (fun X C hQ hin => ?_)
  have C : Cx E X cX5_number 5 RX5 (some .int) 1 40 0 0 := C
  obtain ⟨R, Cc, T, n, m, D, F, ⟨⟨d0, d0a, d0b⟩, ⟨d1, d1a, d1b⟩, ⟨d2, d2a, d2b⟩, ⟨d4, d4a⟩, d5, ⟨d6, d6a⟩, dcm, dn0, dn1⟩, ⟨dF, dF1, dF2⟩, drow, dout⟩ := id hV.1
  refine mg_iload_n C dX5_number_0 rfl ?_
  refine mg_iconst (v := 0) C dX5_number_1 (by decide) ?_
  refine mg_aload_n C dX5_number_2 rfl ?_
  refine mg_get C inG_X5 fX5_82 (ci := 5) rfl rfl 17 rfl rfl dX5_number_3 ?_
  refine mg_iconst (v := 1) C dX5_number_6 (by decide) ?_
  refine mg_isub C dX5_number_7 ?_
  refine mg_callS C (ct_X5_in E _ _ _ _) oX5_98 rfl rfl rfl dX5_number_8 (fun o8 w8 z8 => ?_)
  obtain ⟨rfl, rfl⟩ := z8
  refine mg_v ?_
  refine mg_if_eq C 44 dX5_number_11 (by decide) (fun h11 => ?_) (fun h11 => ?_)
  · refine mg_ldc C dX5_number_44 kX5_124 ?_
    exact mg_iret C hQ dX5_number_46 (⟨ad, g, a, v, by rw [gNum, if_pos h11], by rw [aNum, if_pos h11]; exact Sh.rf, hV, rfl, rfl⟩)
  · refine mg_iload_n C dX5_number_14 rfl ?_
    refine mg_iconst (v := 0) C dX5_number_15 (by decide) ?_
    refine mg_aload_n C dX5_number_16 rfl ?_
    refine mg_get C inG_X5 fX5_85 (ci := 5) rfl rfl 17 rfl rfl dX5_number_17 ?_
    refine mg_iconst (v := 1) C dX5_number_20 (by decide) ?_
    refine mg_isub C dX5_number_21 ?_
    refine mg_callS C (ct_X5_in E _ _ _ _) oX5_98 rfl rfl rfl dX5_number_22 (fun o22 w22 z22 => ?_)
    obtain ⟨rfl, rfl⟩ := z22
    refine mg_v ?_
    refine mg_if_eq C 44 dX5_number_25 (by decide) (fun h25 => ?_) (fun h25 => ?_)
    · refine mg_ldc C dX5_number_44 kX5_124 ?_
      exact mg_iret C hQ dX5_number_46 (⟨ad, g, a, v, by rw [gNum, if_neg h11, if_pos h25], by rw [aNum, if_neg h11, if_pos h25]; exact Sh.rf, hV, rfl, rfl⟩)
    · obtain ⟨ii, eii, hii⟩ := wi_in d4 (by omega) h11
      have hm12 : m ≤ 12 := m12 (n := n) dcm d1b (dn1 (by omega)).1
      obtain ⟨kk, ekk, hkk⟩ := wi_in d5 (by omega) h25
      subst eii; subst ekk
      have hinn : vp_in (nI ii * 12 + nI kk) 96 := (by rw [nu_eq]; exact vp_in_nI (by omega) (by decide))
      refine mg_iload_n C dX5_number_28 rfl ?_
      refine mg_aload_n C dX5_number_29 rfl ?_
      refine mg_callV C (mx_X5_greatest E _ _ _ _ _ D d6 d6a) oX5_120 17 rfl rfl rfl rfl rfl dX5_number_30 (fun o30 w30 z30 => ?_)
      obtain ⟨rfl, rfl⟩ := z30
      refine mg_v ?_
      refine mg_ineg C dX5_number_33 ?_
      refine mg_aload_n C dX5_number_34 rfl ?_
      refine mg_callV C (mx_X5_greatest E _ _ _ _ _ D d6 d6a) oX5_120 17 rfl rfl rfl rfl rfl dX5_number_35 (fun o35 w35 z35 => ?_)
      obtain ⟨rfl, rfl⟩ := z35
      refine mg_v ?_
      refine mg_callS C (ct_X5_in E _ _ _ _) oX5_98 rfl rfl rfl dX5_number_38 (fun o38 w38 z38 => ?_)
      obtain ⟨rfl, rfl⟩ := z38
      refine mg_v ?_
      refine mg_if_ne C 47 dX5_number_41 (by decide) (fun h41 => ?_) (fun h41 => ?_)
      · refine mg_aload_n C dX5_number_47 rfl ?_
        refine mg_get C inG_X5 fX5_35 (ci := 5) rfl rfl 17 rfl rfl dX5_number_48 ?_
        refine mg_bipush (v := 12) C dX5_number_51 (by decide) ?_
        refine mg_iload_n C dX5_number_53 rfl ?_
        refine mg_imul C dX5_number_54 ?_
        refine mg_iload_n C dX5_number_55 rfl ?_
        refine mg_iadd C dX5_number_56 ?_
        refine mg_tos (w := .int (nI ii * 12 + nI kk)) (by rw [Int32.mul_comm]) ?_
        refine mg_iald C 12 rfl (hinn) dX5_number_57 ?_
        refine mg_istore C dX5_number_58 rfl ?_
        refine mg_lve (lv' := [(0, _), (1, _), (2, _), (3, _), (4, _)]) rfl ?_
        refine mg_aload_n C dX5_number_60 rfl ?_
        refine mg_get C inG_X5 fX5_35 (ci := 5) rfl rfl 17 rfl rfl dX5_number_61 ?_
        refine mg_bipush (v := 12) C dX5_number_64 (by decide) ?_
        refine mg_iload_n C dX5_number_66 rfl ?_
        refine mg_imul C dX5_number_67 ?_
        refine mg_iload_n C dX5_number_68 rfl ?_
        refine mg_iadd C dX5_number_69 ?_
        refine mg_tos (w := .int (nI ii * 12 + nI kk)) (by rw [Int32.mul_comm]) ?_
        refine mg_iload_n C dX5_number_70 rfl ?_
        refine mg_iast C 12 rfl (hinn) dX5_number_71 (ws' := (mw E ad g (ups a 4 ((nI ii * 12 + nI kk) : Int32).toNatClampNeg y) v tl)) rfl ?_
        refine mg_iload C dX5_number_72 rfl ?_
        exact mg_iret C hQ dX5_number_74 (by
    have e1 : (nI ii).toNatClampNeg = ii := nI_clamp (by omega)
    have e2 : (nI kk).toNatClampNeg = kk := nI_clamp (by omega)
    refine ⟨ad, g, (ups a 4 ((nI ii * 12 + nI kk) : Int32).toNatClampNeg y), v, ?_, ?_, hV.ar rfl rfl rfl rfl, rfl, rfl⟩
    · rw [gNum, if_neg h11, if_neg h25, if_neg h41, e1, e2, nu_eq, nI_clamp (by omega)]
    · rw [aNum, if_neg h11, if_neg h25, if_neg h41, e1, e2, nu_eq, nI_clamp (by omega)]; exact Sh.rf)
      · refine mg_ldc C dX5_number_44 kX5_124 ?_
        exact mg_iret C hQ dX5_number_46 (⟨ad, g, a, v, by rw [gNum, if_neg h11, if_neg h25, if_pos h41], by rw [aNum, if_neg h11, if_neg h25, if_pos h41]; exact Sh.rf, hV, rfl, rfl⟩)
