set_option maxHeartbeats 400000 in
set_option maxRecDepth 100000 in
theorem cw_X1_columnSum (E : En) (ad : Nat → Nat) (fl : Nat) (g : Nat → Int32) (a : Nat → Nat → Int32) (v : Nat → Int64) (tl : va_W) (R cc : Nat) (d0 : g 0 = nI R) (hR : R ≤ 8) (hcc : cc < 24) : Ct E mX1_columnSum 1 0 0 [.ref (ad 18), .int (nI cc)] (cw E ad fl g a v tl) (fun o w => ∃ r : Int32, o = some (.int r) ∧ w = cw E ad fl g a v tl) := by
  refine Ct.of (by decide) (Nat.le_of_ble_eq_true rfl) (fun X C hQ hin => ?_)
  have C : Cx E X cX1_columnSum 4 RX1 (some .int) 1 40 0 0 := C
  have loop : ∀ (m i : Nat) (y : Int32), R < i + m → i ≤ R → GG E X (cw E ad fl g a v tl) 0 0 4 [(0, .ref (ad 18)), (1, .int (nI cc)), (2, .int y), (3, .int (nI i))] [] := by
    intro m
    induction m with
    | zero => intro i y hm hi; omega
    | succ m ih =>
      intro i y hm hi
      refine mg_iload_n C dX1_columnSum_4 rfl ?_
      refine mg_aload_n C dX1_columnSum_5 rfl ?_
      refine mg_get C inG_X1 fX1_28 (ci := 1) rfl rfl 18 rfl rfl dX1_columnSum_6 ?_
      refine mg_icmp_ge C 39 dX1_columnSum_9 (by decide) (fun h9 => ?_) (fun h9 => ?_)
      · refine mg_iload_n C dX1_columnSum_39 rfl ?_
        exact mg_iret C hQ dX1_columnSum_40 (⟨_, rfl, rfl⟩)
      · have hlt : i < R := (by rcases Nat.lt_or_ge i R with h | h; exact h; exact absurd (by rw [d0]; exact nI_le h (by omega)) h9)
        have hin8 : vp_in (nI i) 8 := vp_in_nI (by omega) (by decide)
        have hin9 : vp_in (nI i * 24 + nI cc) 192 := (by rw [pl_eq]; exact vp_in_nI (by omega) (by decide))
        refine mg_iload_n C dX1_columnSum_12 rfl ?_
        refine mg_aload_n C dX1_columnSum_13 rfl ?_
        refine mg_get C inG_X1 fX1_21 (ci := 1) rfl rfl 18 rfl rfl dX1_columnSum_14 ?_
        refine mg_iload_n C dX1_columnSum_17 rfl ?_
        refine mg_iald C 14 rfl (hin8) dX1_columnSum_18 ?_
        refine mg_aload_n C dX1_columnSum_19 rfl ?_
        refine mg_get C inG_X1 fX1_9 (ci := 1) rfl rfl 18 rfl rfl dX1_columnSum_20 ?_
        refine mg_aload_n C dX1_columnSum_23 rfl ?_
        refine mg_iload_n C dX1_columnSum_24 rfl ?_
        refine mg_iload_n C dX1_columnSum_25 rfl ?_
        refine mg_callV C (ct_X1_place E _ _ _ _ _ _ _ _) oX1_55 18 rfl rfl rfl rfl rfl dX1_columnSum_26 (fun o26 w26 z26 => ?_)
        obtain ⟨rfl, rfl⟩ := z26
        refine mg_v ?_
        refine mg_iald C 17 rfl (hin9) dX1_columnSum_29 ?_
        refine mg_imul C dX1_columnSum_30 ?_
        refine mg_iadd C dX1_columnSum_31 ?_
        refine mg_istore_n C dX1_columnSum_32 rfl ?_
        refine mg_lve (lv' := [(0, _), (1, _), (2, _), (3, _)]) rfl ?_
        refine mg_iinc C dX1_columnSum_33 rfl rfl ?_
        refine mg_lve (lv' := [(0, _), (1, _), (2, _), (3, _)]) rfl ?_
        refine mg_goto C 4 dX1_columnSum_36 (by decide) ?_
        rw [show nI i + Int32.ofInt 1 = nI (i + 1) from (nI_succ i).symm]
        exact ih (i + 1) _ (by omega) (by omega)
  refine mg_iconst (v := 0) C dX1_columnSum_0 (by decide) ?_
  refine mg_istore_n C dX1_columnSum_1 rfl ?_
  refine mg_lve (lv' := [(0, _), (1, _), (2, _)]) rfl ?_
  refine mg_iconst (v := 0) C dX1_columnSum_2 (by decide) ?_
  refine mg_istore_n C dX1_columnSum_3 rfl ?_
  refine mg_lve (lv' := [(0, _), (1, _), (2, _), (3, _)]) rfl ?_
  exact loop (R + 1) 0 _ (by omega) (by omega)
set_option maxHeartbeats 400000 in
set_option maxRecDepth 100000 in
theorem cv_sum (E : En) (ad : Nat → Nat) (fl : Nat) (g : Nat → Int32) (a : Nat → Nat → Int32) (v : Nat → Int64) (tl : va_W) (c : Int32) (hV : CV fl g a) : Ct E mX4_sum 2 0 0 [.ref (ad 19), .int c] (cw E ad fl g a v tl) (fun o w => ∃ (r : Int32) (ad1 : Nat → Nat) (fl1 : Nat) (g1 : Nat → Int32) (a1 : Nat → Nat → Int32) (v1 : Nat → Int64), o = some (.int r) ∧ Sh g a g1 a1 ∧ CV fl1 g1 a1 ∧ ad1 19 = ad 19 ∧ w = cw E ad1 fl1 g1 a1 v1 tl) := by
  refine Ct.of (by decide) (Nat.le_of_ble_eq_true rfl) (fun X C hQ hin => ?_)
  have C : Cx E X cX4_sum 2 RX4 (some .int) 2 80 0 0 := C
  obtain ⟨R, Cc, T, n, m, D, F, ⟨⟨d0, d0a, d0b⟩, ⟨d1, d1a, d1b⟩, ⟨d2, d2a, d2b⟩, ⟨d4, d4a⟩, d5, ⟨d6, d6a⟩, dcm, dn0, dn1⟩, ⟨dF, dF1, dF2⟩, drow, dout⟩ := id hV.1
  refine mg_iload_n C dX4_sum_0 rfl ?_
  refine mg_iconst (v := 0) C dX4_sum_1 (by decide) ?_
  refine mg_aload_n C dX4_sum_2 rfl ?_
  refine mg_get C inG_X4 fX4_10 (ci := 4) rfl rfl 19 rfl rfl dX4_sum_3 ?_
  refine mg_getN C inG_X1 fX4_89 (ci := 1) rfl rfl 18 rfl rfl dX4_sum_6 ?_
  refine mg_iconst (v := 1) C dX4_sum_9 (by decide) ?_
  refine mg_isub C dX4_sum_10 ?_
  refine mg_callS C (ct_X4_within E _ _ _ _) oX4_39 rfl rfl rfl dX4_sum_11 (fun o11 w11 z11 => ?_)
  obtain ⟨rfl, rfl⟩ := z11
  refine mg_v ?_
  refine mg_if_ne C 20 dX4_sum_14 (by decide) (fun h14 => ?_) (fun h14 => ?_)
  · obtain ⟨cc, ecc, hcc⟩ := wi_in d1 (by omega) h14
    subst ecc
    refine mg_aload_n C dX4_sum_20 rfl ?_
    refine mg_get C inG_X4 fX4_10 (ci := 4) rfl rfl 19 rfl rfl dX4_sum_21 ?_
    refine mg_aload_n C dX4_sum_24 rfl ?_
    refine mg_get C inG_X4 fX4_10 (ci := 4) rfl rfl 19 rfl rfl dX4_sum_25 ?_
    refine mg_iload_n C dX4_sum_28 rfl ?_
    refine mg_callVN C (cw_X1_columnSum E _ _ _ _ _ _ R cc d0 d0b (by omega)) oX4_92 18 rfl rfl rfl rfl rfl dX4_sum_29 (fun o29 w29 z29 => ?_)
    obtain ⟨r1, rfl, rfl⟩ := z29
    refine mg_v ?_
    refine mg_callVN C (ct_X1_convert E _ _ _ _ _ _ _) oX4_96 18 rfl rfl rfl rfl rfl dX4_sum_32 (fun o32 w32 z32 => ?_)
    obtain ⟨rfl, rfl⟩ := z32
    refine mg_v ?_
    exact mg_iret C hQ dX4_sum_35 (⟨_, ad, fl, g, a, v, rfl, Sh.rf, hV, rfl, rfl⟩)
  · refine mg_bipush (v := (-2)) C dX4_sum_17 (by decide) ?_
    exact mg_iret C hQ dX4_sum_19 (⟨_, ad, fl, g, a, v, rfl, Sh.rf, hV, rfl, rfl⟩)
set_option maxHeartbeats 400000 in
set_option maxRecDepth 100000 in
theorem cw_X1_ageOne (E : En) (ad : Nat → Nat) (fl : Nat) (g : Nat → Int32) (a : Nat → Nat → Int32) (v : Nat → Int64) (tl : va_W) (z : Int32) (hz : vp_in z 192) : Ct E mX1_ageOne 1 0 0 [.ref (ad 18), .int z] (cw E ad fl g a v tl) (fun o w => ∃ (r : Int32) (a1 : Nat → Nat → Int32), o = some (.int r) ∧ (a1 1 = a 1 ∧ a1 3 = a 3 ∧ a1 4 = a 4 ∧ a1 5 = a 5 ∧ a1 13 = a 13) ∧ w = cw E ad fl g a1 v tl) := by
  refine Ct.of (by decide) (Nat.le_of_ble_eq_true rfl) (fun X C hQ hin => ?_)
  have C : Cx E X cX1_ageOne 2 RX1 (some .boolean) 1 40 0 0 := C
  refine mg_aload_n C dX1_ageOne_0 rfl ?_
  refine mg_iload_n C dX1_ageOne_1 rfl ?_
  refine mg_callV C (ct_X1_sticks E _ _ _ _ _ _ _ hz) oX1_51 18 rfl rfl rfl rfl rfl dX1_ageOne_2 (fun o2 w2 z2 => ?_)
  obtain ⟨rfl, rfl⟩ := z2
  refine mg_v ?_
  refine mg_if_eq C 10 dX1_ageOne_5 (by decide) (fun h5 => ?_) (fun h5 => ?_)
  · refine mg_aload_n C dX1_ageOne_10 rfl ?_
    refine mg_get C inG_X1 fX1_18 (ci := 1) rfl rfl 18 rfl rfl dX1_ageOne_11 ?_
    refine mg_iload_n C dX1_ageOne_14 rfl ?_
    refine mg_dup2_11 C dX1_ageOne_15 rfl rfl ?_
    refine mg_iald C 15 rfl (hz) dX1_ageOne_16 ?_
    refine mg_iconst (v := 1) C dX1_ageOne_17 (by decide) ?_
    refine mg_iadd C dX1_ageOne_18 ?_
    refine mg_topi (fun zv19 ezv19 => ?_)
    refine mg_iast C 15 rfl (hz) dX1_ageOne_19 (ws' := (cw E ad fl g (ups a 2 (z : Int32).toNatClampNeg zv19) v tl)) rfl ?_
    refine mg_aload_n C dX1_ageOne_20 rfl ?_
    refine mg_get C inG_X1 fX1_9 (ci := 1) rfl rfl 18 rfl rfl dX1_ageOne_21 ?_
    refine mg_iload_n C dX1_ageOne_24 rfl ?_
    refine mg_iald C 17 rfl (hz) dX1_ageOne_25 ?_
    refine mg_if_eq C 47 dX1_ageOne_26 (by decide) (fun h26 => ?_) (fun h26 => ?_)
    · refine mg_iconst (v := 0) C dX1_ageOne_47 (by decide) ?_
      exact mg_zret C hQ (rfl) dX1_ageOne_48 (by refine ⟨_, _, rfl, ?_, rfl⟩; exact ⟨rfl, rfl, rfl, rfl, rfl⟩)
    · refine mg_aload_n C dX1_ageOne_29 rfl ?_
      refine mg_get C inG_X1 fX1_18 (ci := 1) rfl rfl 18 rfl rfl dX1_ageOne_30 ?_
      refine mg_iload_n C dX1_ageOne_33 rfl ?_
      refine mg_iald C 15 rfl (hz) dX1_ageOne_34 ?_
      refine mg_bipush (v := 16) C dX1_ageOne_35 (by decide) ?_
      refine mg_aload_n C dX1_ageOne_37 rfl ?_
      refine mg_get C inG_X1 fX1_9 (ci := 1) rfl rfl 18 rfl rfl dX1_ageOne_38 ?_
      refine mg_iload_n C dX1_ageOne_41 rfl ?_
      refine mg_iald C 17 rfl (hz) dX1_ageOne_42 ?_
      refine mg_isub C dX1_ageOne_43 ?_
      refine mg_icmp_ge C 49 dX1_ageOne_44 (by decide) (fun h44 => ?_) (fun h44 => ?_)
      · refine mg_aload_n C dX1_ageOne_49 rfl ?_
        refine mg_get C inG_X1 fX1_9 (ci := 1) rfl rfl 18 rfl rfl dX1_ageOne_50 ?_
        refine mg_iload_n C dX1_ageOne_53 rfl ?_
        refine mg_dup2_11 C dX1_ageOne_54 rfl rfl ?_
        refine mg_iald C 17 rfl (hz) dX1_ageOne_55 ?_
        refine mg_iconst (v := 1) C dX1_ageOne_56 (by decide) ?_
        refine mg_isub C dX1_ageOne_57 ?_
        refine mg_topi (fun zv58 ezv58 => ?_)
        refine mg_iast C 17 rfl (hz) dX1_ageOne_58 (ws' := (cw E ad fl g (ups (ups a 2 (z : Int32).toNatClampNeg zv19) 0 (z : Int32).toNatClampNeg zv58) v tl)) rfl ?_
        refine mg_aload_n C dX1_ageOne_59 rfl ?_
        refine mg_get C inG_X1 fX1_18 (ci := 1) rfl rfl 18 rfl rfl dX1_ageOne_60 ?_
        refine mg_iload_n C dX1_ageOne_63 rfl ?_
        refine mg_iconst (v := 0) C dX1_ageOne_64 (by decide) ?_
        refine mg_iast C 15 rfl (hz) dX1_ageOne_65 (ws' := (cw E ad fl g (ups (ups (ups a 2 (z : Int32).toNatClampNeg zv19) 0 (z : Int32).toNatClampNeg zv58) 2 (z : Int32).toNatClampNeg 0) v tl)) rfl ?_
        refine mg_iconst (v := 1) C dX1_ageOne_66 (by decide) ?_
        exact mg_zret C hQ (rfl) dX1_ageOne_67 (by refine ⟨_, _, rfl, ?_, rfl⟩; exact ⟨rfl, rfl, rfl, rfl, rfl⟩)
      · refine mg_iconst (v := 0) C dX1_ageOne_47 (by decide) ?_
        exact mg_zret C hQ (rfl) dX1_ageOne_48 (by refine ⟨_, _, rfl, ?_, rfl⟩; exact ⟨rfl, rfl, rfl, rfl, rfl⟩)
  · refine mg_iconst (v := 0) C dX1_ageOne_8 (by decide) ?_
    exact mg_zret C hQ (rfl) dX1_ageOne_9 (by refine ⟨_, _, rfl, ?_, rfl⟩; exact ⟨rfl, rfl, rfl, rfl, rfl⟩)
set_option maxHeartbeats 400000 in
set_option maxRecDepth 100000 in
theorem cw_X1_ageAll (E : En) (ad : Nat → Nat) (fl : Nat) (g : Nat → Int32) (a : Nat → Nat → Int32) (v : Nat → Int64) (tl : va_W) (R Cc : Nat) (d0 : g 0 = nI R) (hR : R ≤ 8) (d1 : g 1 = nI Cc) (hC : Cc ≤ 24) : Ct E mX1_ageAll 2 0 0 [.ref (ad 18)] (cw E ad fl g a v tl) (fun o w => ∃ (r : Int32) (a1 : Nat → Nat → Int32), o = some (.int r) ∧ (a1 1 = a 1 ∧ a1 3 = a 3 ∧ a1 4 = a 4 ∧ a1 5 = a 5 ∧ a1 13 = a 13) ∧ w = cw E ad fl g a1 v tl) := by
  refine Ct.of (by decide) (Nat.le_of_ble_eq_true rfl) (fun X C hQ hin => ?_)
  have C : Cx E X cX1_ageAll 4 RX1 (some .int) 2 80 0 0 := C
  have inner : ∀ (i : Nat), i < R → (∀ (y : Int32) (a1 : Nat → Nat → Int32), (a1 1 = a 1 ∧ a1 3 = a 3 ∧ a1 4 = a 4 ∧ a1 5 = a 5 ∧ a1 13 = a 13) → GG E X (cw E ad fl g a1 v tl) 0 0 49 [(0, .ref (ad 18)), (1, .int y), (2, .int (nI i)), (3, .int (nI Cc))] []) → ∀ (m j : Nat) (y : Int32) (a1 : Nat → Nat → Int32), Cc < j + m → j ≤ Cc → (a1 1 = a 1 ∧ a1 3 = a 3 ∧ a1 4 = a 4 ∧ a1 5 = a 5 ∧ a1 13 = a 13) → GG E X (cw E ad fl g a1 v tl) 0 0 14 [(0, .ref (ad 18)), (1, .int y), (2, .int (nI i)), (3, .int (nI j))] [] := by
    intro i hiR out m
    induction m with
    | zero => intro j y a1 hm hj; omega
    | succ m ih =>
      intro j y a1 hm hj hk
      refine mg_iload_n C dX1_ageAll_14 rfl ?_
      refine mg_aload_n C dX1_ageAll_15 rfl ?_
      refine mg_get C inG_X1 fX1_32 (ci := 1) rfl rfl 18 rfl rfl dX1_ageAll_16 ?_
      refine mg_icmp_ge C 49 dX1_ageAll_19 (by decide) (fun h19 => ?_) (fun h19 => ?_)
      · have hge : j = Cc := (by rcases Nat.lt_or_ge j Cc with h | h; exact absurd (by rw [d1] at h19; exact h19) (nI_ge h (by omega)); omega)
        subst hge
        exact out y a1 hk
      · have hlt : j < Cc := (by rcases Nat.lt_or_ge j Cc with h | h; exact h; exact absurd (by rw [d1]; exact nI_le h (by omega)) h19)
        have hin9 : vp_in (nI i * 24 + nI j) 192 := (by rw [pl_eq]; exact vp_in_nI (by omega) (by decide))
        refine mg_iload_n C dX1_ageAll_22 rfl ?_
        refine mg_aload_n C dX1_ageAll_23 rfl ?_
        refine mg_aload_n C dX1_ageAll_24 rfl ?_
        refine mg_iload_n C dX1_ageAll_25 rfl ?_
        refine mg_iload_n C dX1_ageAll_26 rfl ?_
        refine mg_callV C (ct_X1_place E _ _ _ _ _ _ _ _) oX1_55 18 rfl rfl rfl rfl rfl dX1_ageAll_27 (fun o27 w27 z27 => ?_)
        obtain ⟨rfl, rfl⟩ := z27
        refine mg_v ?_
        refine mg_callV C (cw_X1_ageOne E _ _ _ _ _ _ _ hin9) oX1_64 18 rfl rfl rfl rfl rfl dX1_ageAll_30 (fun o30 w30 z30 => ?_)
        obtain ⟨r1, a2, rfl, hk2, rfl⟩ := z30
        refine mg_v ?_
        refine mg_if_eq C 40 dX1_ageAll_33 (by decide) (fun h33 => ?_) (fun h33 => ?_)
        · refine mg_iconst (v := 0) C dX1_ageAll_40 (by decide) ?_
          refine mg_iadd C dX1_ageAll_41 ?_
          refine mg_istore_n C dX1_ageAll_42 rfl ?_
          refine mg_lve (lv' := [(0, _), (1, _), (2, _), (3, _)]) rfl ?_
          refine mg_iinc C dX1_ageAll_43 rfl rfl ?_
          refine mg_lve (lv' := [(0, _), (1, _), (2, _), (3, _)]) rfl ?_
          refine mg_goto C 14 dX1_ageAll_46 (by decide) ?_
          rw [show nI j + Int32.ofInt 1 = nI (j + 1) from (nI_succ j).symm]
          exact ih (j + 1) _ _ (by omega) (by omega) ⟨hk2.1.trans hk.1, hk2.2.1.trans hk.2.1, hk2.2.2.1.trans hk.2.2.1, hk2.2.2.2.1.trans hk.2.2.2.1, hk2.2.2.2.2.trans hk.2.2.2.2⟩
        · refine mg_iconst (v := 1) C dX1_ageAll_36 (by decide) ?_
          refine mg_goto C 41 dX1_ageAll_37 (by decide) ?_
          refine mg_iadd C dX1_ageAll_41 ?_
          refine mg_istore_n C dX1_ageAll_42 rfl ?_
          refine mg_lve (lv' := [(0, _), (1, _), (2, _), (3, _)]) rfl ?_
          refine mg_iinc C dX1_ageAll_43 rfl rfl ?_
          refine mg_lve (lv' := [(0, _), (1, _), (2, _), (3, _)]) rfl ?_
          refine mg_goto C 14 dX1_ageAll_46 (by decide) ?_
          rw [show nI j + Int32.ofInt 1 = nI (j + 1) from (nI_succ j).symm]
          exact ih (j + 1) _ _ (by omega) (by omega) ⟨hk2.1.trans hk.1, hk2.2.1.trans hk.2.1, hk2.2.2.1.trans hk.2.2.1, hk2.2.2.2.1.trans hk.2.2.2.1, hk2.2.2.2.2.trans hk.2.2.2.2⟩
  have loop : ∀ (m i : Nat) (y : Int32) (a1 : Nat → Nat → Int32), R < i + m → i ≤ R → (a1 1 = a 1 ∧ a1 3 = a 3 ∧ a1 4 = a 4 ∧ a1 5 = a 5 ∧ a1 13 = a 13) → GG E X (cw E ad fl g a1 v tl) 0 0 4 [(0, .ref (ad 18)), (1, .int y), (2, .int (nI i))] [] := by
    intro m
    induction m with
    | zero => intro i y a1 hm hi; omega
    | succ m ih =>
      intro i y a1 hm hi hk
      refine mg_iload_n C dX1_ageAll_4 rfl ?_
      refine mg_aload_n C dX1_ageAll_5 rfl ?_
      refine mg_get C inG_X1 fX1_28 (ci := 1) rfl rfl 18 rfl rfl dX1_ageAll_6 ?_
      refine mg_icmp_ge C 55 dX1_ageAll_9 (by decide) (fun h9 => ?_) (fun h9 => ?_)
      · refine mg_iload_n C dX1_ageAll_55 rfl ?_
        exact mg_iret C hQ dX1_ageAll_56 (⟨_, a1, rfl, hk, rfl⟩)
      · have hlt : i < R := (by rcases Nat.lt_or_ge i R with h | h; exact h; exact absurd (by rw [d0]; exact nI_le h (by omega)) h9)
        refine mg_iconst (v := 0) C dX1_ageAll_12 (by decide) ?_
        refine mg_istore_n C dX1_ageAll_13 rfl ?_
        refine mg_lve (lv' := [(0, _), (1, _), (2, _), (3, _)]) rfl ?_
        refine inner i hlt (fun y1 a2 hk2 => ?_) (Cc + 1) 0 y a1 (by omega) (by omega) hk
        refine mg_iinc C dX1_ageAll_49 rfl rfl ?_
        refine mg_goto C 4 dX1_ageAll_52 (by decide) ?_
        refine mg_lv (lv' := [(0, _), (1, _), (2, _)]) (lv_tk 3 rfl) ?_
        rw [show nI i + Int32.ofInt 1 = nI (i + 1) from (nI_succ i).symm]
        exact ih (i + 1) _ _ (by omega) (by omega) hk2
  refine mg_iconst (v := 0) C dX1_ageAll_0 (by decide) ?_
  refine mg_istore_n C dX1_ageAll_1 rfl ?_
  refine mg_lve (lv' := [(0, _), (1, _)]) rfl ?_
  refine mg_iconst (v := 0) C dX1_ageAll_2 (by decide) ?_
  refine mg_istore_n C dX1_ageAll_3 rfl ?_
  refine mg_lve (lv' := [(0, _), (1, _), (2, _)]) rfl ?_
  exact loop (R + 1) 0 _ a (by omega) (by omega) ⟨rfl, rfl, rfl, rfl, rfl⟩
set_option maxHeartbeats 400000 in
set_option maxRecDepth 100000 in
theorem cv_fade (E : En) (ad : Nat → Nat) (fl : Nat) (g : Nat → Int32) (a : Nat → Nat → Int32) (v : Nat → Int64) (tl : va_W) (k : Int32) (hV : CV fl g a) : Ct E mX4_fade 3 0 0 [.ref (ad 19), .int k] (cw E ad fl g a v tl) (fun o w => ∃ (r : Int32) (ad1 : Nat → Nat) (fl1 : Nat) (g1 : Nat → Int32) (a1 : Nat → Nat → Int32) (v1 : Nat → Int64), o = some (.int r) ∧ Sh g a g1 a1 ∧ CV fl1 g1 a1 ∧ ad1 19 = ad 19 ∧ w = cw E ad1 fl1 g1 a1 v1 tl) := by
  refine Ct.of (by decide) (Nat.le_of_ble_eq_true rfl) (fun X C hQ hin => ?_)
  have C : Cx E X cX4_fade 4 RX4 (some .int) 3 120 0 0 := C
  obtain ⟨R, Cc, T, n, m, D, F, ⟨⟨d0, d0a, d0b⟩, ⟨d1, d1a, d1b⟩, ⟨d2, d2a, d2b⟩, ⟨d4, d4a⟩, d5, ⟨d6, d6a⟩, dcm, dn0, dn1⟩, ⟨dF, dF1, dF2⟩, drow, dout⟩ := id hV.1
  have loop : ∀ (kk : Nat), kk < 1000 → ∀ (m i : Nat) (y : Int32) (a1 : Nat → Nat → Int32), kk < i + m → i ≤ kk → (a1 1 = a 1 ∧ a1 3 = a 3 ∧ a1 4 = a 4 ∧ a1 5 = a 5 ∧ a1 13 = a 13) → GG E X (cw E ad fl g a1 v tl) 0 0 17 [(0, .ref (ad 19)), (1, .int (nI kk)), (2, .int y), (3, .int (nI i))] [] := by
    intro kk hkk m
    induction m with
    | zero => intro i y a1 hm hi; omega
    | succ m ih =>
      intro i y a1 hm hi hk
      refine mg_iload_n C dX4_fade_17 rfl ?_
      refine mg_iload_n C dX4_fade_18 rfl ?_
      refine mg_icmp_ge C 38 dX4_fade_19 (by decide) (fun h19 => ?_) (fun h19 => ?_)
      · refine mg_iload_n C dX4_fade_38 rfl ?_
        exact mg_iret C hQ dX4_fade_39 (⟨_, ad, fl, g, a1, v, rfl, Sh.ar hk.1 hk.2.1 hk.2.2.1 hk.2.2.2.2, hV.ar hk.2.2.2.1 hk.1, rfl, rfl⟩)
      · have hlt : i < kk := (by rcases Nat.lt_or_ge i kk with h | h; exact h; exact absurd (nI_le h (by omega)) h19)
        refine mg_iload_n C dX4_fade_22 rfl ?_
        refine mg_aload_n C dX4_fade_23 rfl ?_
        refine mg_get C inG_X4 fX4_10 (ci := 4) rfl rfl 19 rfl rfl dX4_fade_24 ?_
        refine mg_callVN C (cw_X1_ageAll E _ _ _ _ _ _ R Cc d0 d0b d1 d1b) oX4_151 18 rfl rfl rfl rfl rfl dX4_fade_27 (fun o27 w27 z27 => ?_)
        obtain ⟨r1, a2, rfl, hk2, rfl⟩ := z27
        refine mg_v ?_
        refine mg_iadd C dX4_fade_30 ?_
        refine mg_istore_n C dX4_fade_31 rfl ?_
        refine mg_lve (lv' := [(0, _), (1, _), (2, _), (3, _)]) rfl ?_
        refine mg_iinc C dX4_fade_32 rfl rfl ?_
        refine mg_lve (lv' := [(0, _), (1, _), (2, _), (3, _)]) rfl ?_
        refine mg_goto C 17 dX4_fade_35 (by decide) ?_
        rw [show nI i + Int32.ofInt 1 = nI (i + 1) from (nI_succ i).symm]
        exact ih (i + 1) _ _ (by omega) (by omega) ⟨hk2.1.trans hk.1, hk2.2.1.trans hk.2.1, hk2.2.2.1.trans hk.2.2.1, hk2.2.2.2.1.trans hk.2.2.2.1, hk2.2.2.2.2.trans hk.2.2.2.2⟩
  refine mg_iload_n C dX4_fade_0 rfl ?_
  refine mg_iconst (v := 1) C dX4_fade_1 (by decide) ?_
  refine mg_bipush (v := 100) C dX4_fade_2 (by decide) ?_
  refine mg_callS C (ct_X4_within E _ _ _ _) oX4_39 rfl rfl rfl dX4_fade_4 (fun o4 w4 z4 => ?_)
  obtain ⟨rfl, rfl⟩ := z4
  refine mg_v ?_
  refine mg_if_ne C 13 dX4_fade_7 (by decide) (fun h7 => ?_) (fun h7 => ?_)
  · refine mg_iconst (v := 0) C dX4_fade_13 (by decide) ?_
    refine mg_istore_n C dX4_fade_14 rfl ?_
    refine mg_lve (lv' := [(0, _), (1, _), (2, _)]) rfl ?_
    refine mg_iconst (v := 0) C dX4_fade_15 (by decide) ?_
    refine mg_istore_n C dX4_fade_16 rfl ?_
    refine mg_lve (lv' := [(0, _), (1, _), (2, _), (3, _)]) rfl ?_
    obtain ⟨kk, ek, h1, h2⟩ := wi_mk (P := 1) (Q := 100) rfl rfl h7
    subst ek
    exact loop kk (by omega) (kk + 1) 0 _ a (by omega) (by omega) ⟨rfl, rfl, rfl, rfl, rfl⟩
  · refine mg_bipush (v := (-2)) C dX4_fade_10 (by decide) ?_
    exact mg_iret C hQ dX4_fade_12 (⟨_, ad, fl, g, a, v, rfl, Sh.rf, hV, rfl, rfl⟩)
set_option maxHeartbeats 400000 in
set_option maxRecDepth 100000 in
theorem cw_X1_pulseTo (E : En) (ad : Nat → Nat) (fl : Nat) (g : Nat → Int32) (a : Nat → Nat → Int32) (v : Nat → Int64) (tl : va_W) (z y : Int32) (hz : vp_in z 192) : Ct E mX1_pulseTo 1 0 0 [.ref (ad 18), .int z, .int y] (cw E ad fl g a v tl) (fun o w => ∃ (r : Int32) (a1 : Nat → Nat → Int32), o = some (.int r) ∧ (a1 1 = a 1 ∧ a1 3 = a 3 ∧ a1 4 = a 4 ∧ a1 5 = a 5 ∧ a1 13 = a 13) ∧ w = cw E ad fl g a1 v tl) := by
  refine Ct.of (by decide) (Nat.le_of_ble_eq_true rfl) (fun X C hQ hin => ?_)
  have C : Cx E X cX1_pulseTo 4 RX1 (some .int) 1 40 0 0 := C
  have loop : ∀ (m i : Nat) (a1 : Nat → Nat → Int32), 40 < i + m → i ≤ 40 → (a1 1 = a 1 ∧ a1 3 = a 3 ∧ a1 4 = a 4 ∧ a1 5 = a 5 ∧ a1 13 = a 13) → GG E X (cw E ad fl g a1 v tl) 0 0 2 [(0, .ref (ad 18)), (1, .int z), (2, .int y), (3, .int (nI i))] [] := by
    intro m
    induction m with
    | zero => intro i a1 hm hi; omega
    | succ m ih =>
      intro i a1 hm hi hk
      refine mg_iload_n C dX1_pulseTo_2 rfl ?_
      refine mg_bipush (v := 40) C dX1_pulseTo_3 (by decide) ?_
      refine mg_icmp_ge C 73 dX1_pulseTo_5 (by decide) (fun h5 => ?_) (fun h5 => ?_)
      · refine mg_iload_n C dX1_pulseTo_73 rfl ?_
        exact mg_iret C hQ dX1_pulseTo_74 (⟨_, a1, rfl, hk, rfl⟩)
      · have hlt : i < 40 := (by rcases Nat.lt_or_ge i 40 with h | h; exact h; exact absurd (show (40 : Int32) ≤ nI i from nI_le (a := 40) h (by omega)) h5)
        refine mg_aload_n C dX1_pulseTo_8 rfl ?_
        refine mg_get C inG_X1 fX1_9 (ci := 1) rfl rfl 18 rfl rfl dX1_pulseTo_9 ?_
        refine mg_iload_n C dX1_pulseTo_12 rfl ?_
        refine mg_iald C 17 rfl (hz) dX1_pulseTo_13 ?_
        refine mg_iload_n C dX1_pulseTo_14 rfl ?_
        refine mg_icmp_eq C 73 dX1_pulseTo_15 (by decide) (fun h15 => ?_) (fun h15 => ?_)
        · refine mg_iload_n C dX1_pulseTo_73 rfl ?_
          exact mg_iret C hQ dX1_pulseTo_74 (⟨_, a1, rfl, hk, rfl⟩)
        · refine mg_aload_n C dX1_pulseTo_18 rfl ?_
          refine mg_get C inG_X1 fX1_9 (ci := 1) rfl rfl 18 rfl rfl dX1_pulseTo_19 ?_
          refine mg_iload_n C dX1_pulseTo_22 rfl ?_
          refine mg_aload_n C dX1_pulseTo_23 rfl ?_
          refine mg_get C inG_X1 fX1_9 (ci := 1) rfl rfl 18 rfl rfl dX1_pulseTo_24 ?_
          refine mg_iload_n C dX1_pulseTo_27 rfl ?_
          refine mg_iald C 17 rfl (hz) dX1_pulseTo_28 ?_
          refine mg_iload_n C dX1_pulseTo_29 rfl ?_
          refine mg_icmp_ge C 51 dX1_pulseTo_30 (by decide) (fun h30 => ?_) (fun h30 => ?_)
          · refine mg_aload_n C dX1_pulseTo_51 rfl ?_
            refine mg_get C inG_X1 fX1_9 (ci := 1) rfl rfl 18 rfl rfl dX1_pulseTo_52 ?_
            refine mg_iload_n C dX1_pulseTo_55 rfl ?_
            refine mg_iald C 17 rfl (hz) dX1_pulseTo_56 ?_
            refine mg_iconst (v := 1) C dX1_pulseTo_57 (by decide) ?_
            refine mg_isub C dX1_pulseTo_58 ?_
            refine mg_topi (fun zv59 ezv59 => ?_)
            refine mg_iast C 17 rfl (hz) dX1_pulseTo_59 (ws' := (cw E ad fl g (ups a1 0 (z : Int32).toNatClampNeg zv59) v tl)) rfl ?_
            refine mg_aload_n C dX1_pulseTo_60 rfl ?_
            refine mg_get C inG_X1 fX1_18 (ci := 1) rfl rfl 18 rfl rfl dX1_pulseTo_61 ?_
            refine mg_iload_n C dX1_pulseTo_64 rfl ?_
            refine mg_iconst (v := 0) C dX1_pulseTo_65 (by decide) ?_
            refine mg_iast C 15 rfl (hz) dX1_pulseTo_66 (ws' := (cw E ad fl g (ups (ups a1 0 (z : Int32).toNatClampNeg zv59) 2 (z : Int32).toNatClampNeg 0) v tl)) rfl ?_
            refine mg_iinc C dX1_pulseTo_67 rfl rfl ?_
            refine mg_lve (lv' := [(0, _), (1, _), (2, _), (3, _)]) rfl ?_
            refine mg_goto C 2 dX1_pulseTo_70 (by decide) ?_
            rw [show nI i + Int32.ofInt 1 = nI (i + 1) from (nI_succ i).symm]
            exact ih (i + 1) _ (by omega) (by omega) hk
          · refine mg_aload_n C dX1_pulseTo_33 rfl ?_
            refine mg_get C inG_X1 fX1_9 (ci := 1) rfl rfl 18 rfl rfl dX1_pulseTo_34 ?_
            refine mg_iload_n C dX1_pulseTo_37 rfl ?_
            refine mg_iald C 17 rfl (hz) dX1_pulseTo_38 ?_
            refine mg_iconst (v := 2) C dX1_pulseTo_39 (by decide) ?_
            refine mg_iadd C dX1_pulseTo_40 ?_
            refine mg_aload_n C dX1_pulseTo_41 rfl ?_
            refine mg_get C inG_X1 fX1_35 (ci := 1) rfl rfl 18 rfl rfl dX1_pulseTo_42 ?_
            refine mg_mmin C dX1_pulseTo_45 oX1_59m rfl ?_
            refine mg_goto C 59 dX1_pulseTo_48 (by decide) ?_
            refine mg_topi (fun zv59 ezv59 => ?_)
            refine mg_iast C 17 rfl (hz) dX1_pulseTo_59 (ws' := (cw E ad fl g (ups a1 0 (z : Int32).toNatClampNeg zv59) v tl)) rfl ?_
            refine mg_aload_n C dX1_pulseTo_60 rfl ?_
            refine mg_get C inG_X1 fX1_18 (ci := 1) rfl rfl 18 rfl rfl dX1_pulseTo_61 ?_
            refine mg_iload_n C dX1_pulseTo_64 rfl ?_
            refine mg_iconst (v := 0) C dX1_pulseTo_65 (by decide) ?_
            refine mg_iast C 15 rfl (hz) dX1_pulseTo_66 (ws' := (cw E ad fl g (ups (ups a1 0 (z : Int32).toNatClampNeg zv59) 2 (z : Int32).toNatClampNeg 0) v tl)) rfl ?_
            refine mg_iinc C dX1_pulseTo_67 rfl rfl ?_
            refine mg_lve (lv' := [(0, _), (1, _), (2, _), (3, _)]) rfl ?_
            refine mg_goto C 2 dX1_pulseTo_70 (by decide) ?_
            rw [show nI i + Int32.ofInt 1 = nI (i + 1) from (nI_succ i).symm]
            exact ih (i + 1) _ (by omega) (by omega) hk
  refine mg_iconst (v := 0) C dX1_pulseTo_0 (by decide) ?_
  refine mg_istore_n C dX1_pulseTo_1 rfl ?_
  refine mg_lve (lv' := [(0, _), (1, _), (2, _), (3, _)]) rfl ?_
  exact loop 41 0 a (by omega) (by omega) ⟨rfl, rfl, rfl, rfl, rfl⟩
set_option maxHeartbeats 400000 in
set_option maxRecDepth 100000 in
theorem cv_pulse (E : En) (ad : Nat → Nat) (fl : Nat) (g : Nat → Int32) (a : Nat → Nat → Int32) (v : Nat → Int64) (tl : va_W) (r c y : Int32) (hV : CV fl g a) : Ct E mX4_pulse 2 0 0 [.ref (ad 19), .int r, .int c, .int y] (cw E ad fl g a v tl) (fun o w => ∃ (r : Int32) (ad1 : Nat → Nat) (fl1 : Nat) (g1 : Nat → Int32) (a1 : Nat → Nat → Int32) (v1 : Nat → Int64), o = some (.int r) ∧ Sh g a g1 a1 ∧ CV fl1 g1 a1 ∧ ad1 19 = ad 19 ∧ w = cw E ad1 fl1 g1 a1 v1 tl) := by
  refine Ct.of (by decide) (Nat.le_of_ble_eq_true rfl) (fun X C hQ hin => ?_)
  have C : Cx E X cX4_pulse 5 RX4 (some .int) 2 80 0 0 := C
  obtain ⟨R, Cc, T, n, m, D, F, ⟨⟨d0, d0a, d0b⟩, ⟨d1, d1a, d1b⟩, ⟨d2, d2a, d2b⟩, ⟨d4, d4a⟩, d5, ⟨d6, d6a⟩, dcm, dn0, dn1⟩, ⟨dF, dF1, dF2⟩, drow, dout⟩ := id hV.1
  refine mg_aload_n C dX4_pulse_0 rfl ?_
  refine mg_get C inG_X4 fX4_10 (ci := 4) rfl rfl 19 rfl rfl dX4_pulse_1 ?_
  refine mg_iload_n C dX4_pulse_4 rfl ?_
  refine mg_iload_n C dX4_pulse_5 rfl ?_
  refine mg_callVN C (ct_X1_hasCell E _ _ _ _ _ _ _ _) oX4_54 18 rfl rfl rfl rfl rfl dX4_pulse_6 (fun o6 w6 z6 => ?_)
  obtain ⟨rfl, rfl⟩ := z6
  refine mg_v ?_
  refine mg_if_eq C 27 dX4_pulse_9 (by decide) (fun h9 => ?_) (fun h9 => ?_)
  · refine mg_bipush (v := (-2)) C dX4_pulse_27 (by decide) ?_
    exact mg_iret C hQ dX4_pulse_29 (⟨_, ad, fl, g, a, v, rfl, Sh.rf, hV, rfl, rfl⟩)
  · obtain ⟨i, j, rfl, hi, rfl, hj⟩ := hc_nat d0 ⟨d0a, d0b⟩ d1 ⟨d1a, d1b⟩ h9
    have hin9 : vp_in (nI i * 24 + nI j) 192 := (by rw [pl_eq]; exact vp_in_nI (by omega) (by decide))
    refine mg_iload_n C dX4_pulse_12 rfl ?_
    refine mg_iconst (v := 0) C dX4_pulse_13 (by decide) ?_
    refine mg_aload_n C dX4_pulse_14 rfl ?_
    refine mg_get C inG_X4 fX4_10 (ci := 4) rfl rfl 19 rfl rfl dX4_pulse_15 ?_
    refine mg_getN C inG_X1 fX4_58 (ci := 1) rfl rfl 18 rfl rfl dX4_pulse_18 ?_
    refine mg_callS C (ct_X4_within E _ _ _ _) oX4_39 rfl rfl rfl dX4_pulse_21 (fun o21 w21 z21 => ?_)
    obtain ⟨rfl, rfl⟩ := z21
    refine mg_v ?_
    refine mg_if_ne C 30 dX4_pulse_24 (by decide) (fun h24 => ?_) (fun h24 => ?_)
    · refine mg_aload_n C dX4_pulse_30 rfl ?_
      refine mg_get C inG_X4 fX4_10 (ci := 4) rfl rfl 19 rfl rfl dX4_pulse_31 ?_
      refine mg_iload_n C dX4_pulse_34 rfl ?_
      refine mg_iload_n C dX4_pulse_35 rfl ?_
      refine mg_callVN C (ct_X1_place E _ _ _ _ _ _ _ _) oX4_62 18 rfl rfl rfl rfl rfl dX4_pulse_36 (fun o36 w36 z36 => ?_)
      obtain ⟨rfl, rfl⟩ := z36
      refine mg_v ?_
      refine mg_istore C dX4_pulse_39 rfl ?_
      refine mg_lve (lv' := [(0, _), (1, _), (2, _), (3, _), (4, _)]) rfl ?_
      refine mg_aload_n C dX4_pulse_41 rfl ?_
      refine mg_get C inG_X4 fX4_10 (ci := 4) rfl rfl 19 rfl rfl dX4_pulse_42 ?_
      refine mg_iload C dX4_pulse_45 rfl ?_
      refine mg_callVN C (ct_X1_sticks E _ _ _ _ _ _ _ hin9) oX4_154 18 rfl rfl rfl rfl rfl dX4_pulse_47 (fun o47 w47 z47 => ?_)
      obtain ⟨rfl, rfl⟩ := z47
      refine mg_v ?_
      refine mg_if_eq C 58 dX4_pulse_50 (by decide) (fun h50 => ?_) (fun h50 => ?_)
      · refine mg_aload_n C dX4_pulse_58 rfl ?_
        refine mg_get C inG_X4 fX4_10 (ci := 4) rfl rfl 19 rfl rfl dX4_pulse_59 ?_
        refine mg_iload C dX4_pulse_62 rfl ?_
        refine mg_iload_n C dX4_pulse_64 rfl ?_
        refine mg_callVN C (cw_X1_pulseTo E _ _ _ _ _ _ _ _ hin9) oX4_158 18 rfl rfl rfl rfl rfl dX4_pulse_65 (fun o65 w65 z65 => ?_)
        obtain ⟨r1, a2, rfl, hk, rfl⟩ := z65
        refine mg_v ?_
        exact mg_iret C hQ dX4_pulse_68 (⟨_, ad, fl, g, a2, v, rfl, Sh.ar hk.1 hk.2.1 hk.2.2.1 hk.2.2.2.2, hV.ar hk.2.2.2.1 hk.1, rfl, rfl⟩)
      · refine mg_bipush (v := (-3)) C dX4_pulse_53 (by decide) ?_
        refine mg_goto C 68 dX4_pulse_55 (by decide) ?_
        exact mg_iret C hQ dX4_pulse_68 (⟨_, ad, fl, g, a, v, rfl, Sh.rf, hV, rfl, rfl⟩)
    · refine mg_bipush (v := (-2)) C dX4_pulse_27 (by decide) ?_
      exact mg_iret C hQ dX4_pulse_29 (⟨_, ad, fl, g, a, v, rfl, Sh.rf, hV, rfl, rfl⟩)
/-- how many CELLS of ROW r STICK, of the first c -/
def skC (a : Nat → Nat → Int32) (r : Nat) : Nat → Nat
  | 0 => 0
  | c + 1 => skC a r c + (if a 1 (r * 24 + c) = -1 then 0 else 1)
def skR (a : Nat → Nat → Int32) (C : Nat) : Nat → Nat
  | 0 => 0
  | r + 1 => skR a C r + skC a r C
theorem sk_pl {a : Nat → Nat → Int32} {i j : Nat} (h : i * 24 + j < 192) : sk a (nI i * 24 + nI j) = if a 1 (i * 24 + j) = -1 then 0 else 1 := by
  unfold sk; rw [pl_eq, nI_clamp (by omega)]
set_option maxHeartbeats 400000 in
set_option maxRecDepth 100000 in
theorem cw_X1_stickingCells (E : En) (ad : Nat → Nat) (fl : Nat) (g : Nat → Int32) (a : Nat → Nat → Int32) (v : Nat → Int64) (tl : va_W) (R Cc : Nat) (d0 : g 0 = nI R) (hR : R ≤ 8) (d1 : g 1 = nI Cc) (hC : Cc ≤ 24) : Ct E mX1_stickingCells 1 0 0 [.ref (ad 18)] (cw E ad fl g a v tl) (fun o w => o = some (.int (nI (skR a Cc R))) ∧ w = cw E ad fl g a v tl) := by
  refine Ct.of (by decide) (Nat.le_of_ble_eq_true rfl) (fun X C hQ hin => ?_)
  have C : Cx E X cX1_stickingCells 4 RX1 (some .int) 1 40 0 0 := C
  have inner : ∀ (i : Nat), i < R → ∀ (y : Nat), GG E X (cw E ad fl g a v tl) 0 0 49 [(0, .ref (ad 18)), (1, .int (nI (y + skC a i Cc))), (2, .int (nI i)), (3, .int (nI Cc))] [] → ∀ (m j : Nat), Cc < j + m → j ≤ Cc → GG E X (cw E ad fl g a v tl) 0 0 14 [(0, .ref (ad 18)), (1, .int (nI (y + skC a i j))), (2, .int (nI i)), (3, .int (nI j))] [] := by
    intro i hiR y out m
    induction m with
    | zero => intro j hm hj; omega
    | succ m ih =>
      intro j hm hj
      refine mg_iload_n C dX1_stickingCells_14 rfl ?_
      refine mg_aload_n C dX1_stickingCells_15 rfl ?_
      refine mg_get C inG_X1 fX1_32 (ci := 1) rfl rfl 18 rfl rfl dX1_stickingCells_16 ?_
      refine mg_icmp_ge C 49 dX1_stickingCells_19 (by decide) (fun h19 => ?_) (fun h19 => ?_)
      · have hge : j = Cc := (by rcases Nat.lt_or_ge j Cc with h | h; exact absurd (by rw [d1] at h19; exact h19) (nI_ge h (by omega)); omega)
        subst hge
        exact out
      · have hlt : j < Cc := (by rcases Nat.lt_or_ge j Cc with h | h; exact h; exact absurd (by rw [d1]; exact nI_le h (by omega)) h19)
        have hin9 : vp_in (nI i * 24 + nI j) 192 := (by rw [pl_eq]; exact vp_in_nI (by omega) (by decide))
        have hij : i * 24 + j < 192 := (by omega)
        refine mg_iload_n C dX1_stickingCells_22 rfl ?_
        refine mg_aload_n C dX1_stickingCells_23 rfl ?_
        refine mg_aload_n C dX1_stickingCells_24 rfl ?_
        refine mg_iload_n C dX1_stickingCells_25 rfl ?_
        refine mg_iload_n C dX1_stickingCells_26 rfl ?_
        refine mg_callV C (ct_X1_place E _ _ _ _ _ _ _ _) oX1_55 18 rfl rfl rfl rfl rfl dX1_stickingCells_27 (fun o27 w27 z27 => ?_)
        obtain ⟨rfl, rfl⟩ := z27
        refine mg_v ?_
        refine mg_callV C (ct_X1_sticks E _ _ _ _ _ _ _ hin9) oX1_51 18 rfl rfl rfl rfl rfl dX1_stickingCells_30 (fun o30 w30 z30 => ?_)
        obtain ⟨rfl, rfl⟩ := z30
        refine mg_v ?_
        refine mg_if_eq C 40 dX1_stickingCells_33 (by decide) (fun h33 => ?_) (fun h33 => ?_)
        · refine mg_iconst (v := 0) C dX1_stickingCells_40 (by decide) ?_
          refine mg_iadd C dX1_stickingCells_41 ?_
          refine mg_istore_n C dX1_stickingCells_42 rfl ?_
          refine mg_lve (lv' := [(0, _), (1, _), (2, _), (3, _)]) rfl ?_
          refine mg_iinc C dX1_stickingCells_43 rfl rfl ?_
          refine mg_lve (lv' := [(0, _), (1, _), (2, _), (3, _)]) rfl ?_
          refine mg_goto C 14 dX1_stickingCells_46 (by decide) ?_
          have e1 : y + skC a i (j + 1) = y + skC a i j := (by rw [skC, if_pos (by have h5 := h33; rw [sk_pl hij] at h5; by_cases q : a 1 (i * 24 + j) = -1; exact q; rw [if_neg q] at h5; exact absurd h5 (by decide))]; rfl)
          refine mg_lve (lv' := [(0, .ref (ad 18)), (1, .int (nI (y + skC a i (j + 1)))), (2, .int (nI i)), (3, .int (nI (j + 1)))]) (by rw [e1, nI_succ j, Int32.add_zero]; rfl) ?_
          exact ih (j + 1) (by omega) (by omega)
        · refine mg_iconst (v := 1) C dX1_stickingCells_36 (by decide) ?_
          refine mg_goto C 41 dX1_stickingCells_37 (by decide) ?_
          refine mg_iadd C dX1_stickingCells_41 ?_
          refine mg_istore_n C dX1_stickingCells_42 rfl ?_
          refine mg_lve (lv' := [(0, _), (1, _), (2, _), (3, _)]) rfl ?_
          refine mg_iinc C dX1_stickingCells_43 rfl rfl ?_
          refine mg_lve (lv' := [(0, _), (1, _), (2, _), (3, _)]) rfl ?_
          refine mg_goto C 14 dX1_stickingCells_46 (by decide) ?_
          have e1 : y + skC a i (j + 1) = y + skC a i j + 1 := (by rw [skC, if_neg (by have h5 := h33; rw [sk_pl hij] at h5; intro q; rw [if_pos q] at h5; exact h5 rfl)]; omega)
          refine mg_lve (lv' := [(0, .ref (ad 18)), (1, .int (nI (y + skC a i (j + 1)))), (2, .int (nI i)), (3, .int (nI (j + 1)))]) (by rw [e1, nI_succ j, nI_succ (y + skC a i j)]; rfl) ?_
          exact ih (j + 1) (by omega) (by omega)
  have loop : ∀ (m i : Nat), R < i + m → i ≤ R → GG E X (cw E ad fl g a v tl) 0 0 4 [(0, .ref (ad 18)), (1, .int (nI (skR a Cc i))), (2, .int (nI i))] [] := by
    intro m
    induction m with
    | zero => intro i hm hi; omega
    | succ m ih =>
      intro i hm hi
      refine mg_iload_n C dX1_stickingCells_4 rfl ?_
      refine mg_aload_n C dX1_stickingCells_5 rfl ?_
      refine mg_get C inG_X1 fX1_28 (ci := 1) rfl rfl 18 rfl rfl dX1_stickingCells_6 ?_
      refine mg_icmp_ge C 55 dX1_stickingCells_9 (by decide) (fun h9 => ?_) (fun h9 => ?_)
      · have hge : i = R := (by rcases Nat.lt_or_ge i R with h | h; exact absurd (by rw [d0] at h9; exact h9) (nI_ge h (by omega)); omega)
        subst hge
        refine mg_iload_n C dX1_stickingCells_55 rfl ?_
        exact mg_iret C hQ dX1_stickingCells_56 (⟨rfl, rfl⟩)
      · have hlt : i < R := (by rcases Nat.lt_or_ge i R with h | h; exact h; exact absurd (by rw [d0]; exact nI_le h (by omega)) h9)
        refine mg_iconst (v := 0) C dX1_stickingCells_12 (by decide) ?_
        refine mg_istore_n C dX1_stickingCells_13 rfl ?_
        refine mg_lve (lv' := [(0, _), (1, _), (2, _), (3, _)]) rfl ?_
        refine inner i hlt (skR a Cc i) ?_ (Cc + 1) 0 (by omega) (by omega)
        refine mg_iinc C dX1_stickingCells_49 rfl rfl ?_
        refine mg_goto C 4 dX1_stickingCells_52 (by decide) ?_
        refine mg_lv (lv' := [(0, _), (1, _), (2, _)]) (lv_tk 3 rfl) ?_
        rw [show nI i + Int32.ofInt 1 = nI (i + 1) from (nI_succ i).symm]
        exact ih (i + 1) (by omega) (by omega)
  refine mg_iconst (v := 0) C dX1_stickingCells_0 (by decide) ?_
  refine mg_istore_n C dX1_stickingCells_1 rfl ?_
  refine mg_lve (lv' := [(0, _), (1, _)]) rfl ?_
  refine mg_iconst (v := 0) C dX1_stickingCells_2 (by decide) ?_
  refine mg_istore_n C dX1_stickingCells_3 rfl ?_
  refine mg_lve (lv' := [(0, _), (1, _), (2, _)]) rfl ?_
  exact loop (R + 1) 0 (by omega) (by omega)
