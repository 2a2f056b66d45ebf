def sLay (g : Nat → Int32) : Nat → Int32 := if ex g = 0 then g else ug g 8 1
theorem KP.cv {fl : Nat} {g : Nat → Int32} {a a1 : Nat → Nat → Int32} (h : CV fl g a) (hk : a1 1 = a 1 ∧ a1 3 = a 3 ∧ a1 4 = a 4 ∧ a1 5 = a 5 ∧ a1 13 = a 13) : CV fl g a1 := h.ar hk.2.2.2.1 hk.1
theorem KP.sh {g : Nat → Int32} {a a1 : Nat → Nat → Int32} (hk : a1 1 = a 1 ∧ a1 3 = a 3 ∧ a1 4 = a 4 ∧ a1 5 = a 5 ∧ a1 13 = a 13) : Sh g a g a1 := Sh.ar hk.1 hk.2.1 hk.2.2.1 hk.2.2.2.2
theorem CV.g8 {fl : Nat} {g : Nat → Int32} {a : Nat → Nat → Int32} {b : Int32} (h : CV fl g a) : CV fl (ug g 8 b) a := h
theorem CV.g9 {fl : Nat} {g : Nat → Int32} {a : Nat → Nat → Int32} {b : Int32} (h : CV fl g a) : CV fl (ug g 9 b) a := h
set_option maxHeartbeats 400000 in
set_option maxRecDepth 100000 in
theorem cv_lay (E : En) (ad : Nat → Nat) (fl : Nat) (g : Nat → Int32) (a : Nat → Nat → Int32) (v : Nat → Int64) (tl : va_W)  (hV : CV fl g a) : Ct E mX4_lay 3 0 0 [.ref (ad 19)] (cw E ad fl g a v tl) (fun o w => ∃ (r : Int32) (ad1 : Nat → Nat) (fl1 : Nat) (g1 : Nat → Int32) (a1 : Nat → Nat → Int32) (v1 : Nat → Int64), o = some (.int r) ∧ Sh (sLay g) a g1 a1 ∧ CV fl1 g1 a1 ∧ ad1 19 = ad 19 ∧ w = cw E ad1 fl1 g1 a1 v1 tl) := by
  refine Ct.of (by decide) (Nat.le_of_ble_eq_true rfl) (fun X C hQ hin => ?_)
  have C : Cx E X cX4_lay 1 RX4 (some .int) 3 120 0 0 := C
  obtain ⟨R, Cc, T, n, m, D, F, ⟨⟨d0, d0a, d0b⟩, ⟨d1, d1a, d1b⟩, ⟨d2, d2a, d2b⟩, ⟨d4, d4a⟩, d5, ⟨d6, d6a⟩, dcm, dn0, dn1⟩, ⟨dF, dF1, dF2⟩, drow, dout⟩ := id hV.1
  refine mg_aload_n C dX4_lay_0 rfl ?_
  refine mg_get C inG_X4 fX4_21 (ci := 4) rfl rfl 19 rfl rfl dX4_lay_1 ?_
  refine mg_callVN C (ct_X3_exists E _ _ _ _ _ _) oX4_116 13 rfl rfl rfl rfl rfl dX4_lay_4 (fun o4 w4 z4 => ?_)
  obtain ⟨rfl, rfl⟩ := z4
  refine mg_v ?_
  refine mg_if_eq C 20 dX4_lay_7 (by decide) (fun h7 => ?_) (fun h7 => ?_)
  · refine mg_bipush (v := (-3)) C dX4_lay_20 (by decide) ?_
    exact mg_iret C hQ dX4_lay_22 (⟨_, ad, fl, g, a, v, rfl, by rw [sLay, if_pos h7]; exact Sh.rf, hV, rfl, rfl⟩)
  · refine mg_aload_n C dX4_lay_10 rfl ?_
    refine mg_get C inG_X4 fX4_21 (ci := 4) rfl rfl 19 rfl rfl dX4_lay_11 ?_
    refine mg_callVN C (cw_X3_layAll E _ _ _ _ _ _ R Cc T n m D ⟨⟨d0, d0a, d0b⟩, ⟨d1, d1a, d1b⟩, ⟨d2, d2a, d2b⟩, ⟨d4, d4a⟩, d5, ⟨d6, d6a⟩, dcm, dn0, dn1⟩ drow) oX4_120 13 rfl rfl rfl rfl rfl dX4_lay_14 (fun o14 w14 z14 => ?_)
    obtain ⟨r1, a2, rfl, hk, rfl⟩ := z14
    refine mg_v ?_
    refine mg_goto C 22 dX4_lay_17 (by decide) ?_
    exact mg_iret C hQ dX4_lay_22 (⟨_, ad, fl, ug g 8 1, a2, v, rfl, by rw [sLay, if_neg h7]; exact KP.sh hk, (KP.cv hV hk).g8, rfl, rfl⟩)
set_option maxHeartbeats 400000 in
set_option maxRecDepth 100000 in
theorem cv_mapped (E : En) (ad : Nat → Nat) (fl : Nat) (g : Nat → Int32) (a : Nat → Nat → Int32) (v : Nat → Int64) (tl : va_W) (i : Int32) (hV : CV fl g a) : Ct E mX4_mapped 1 0 0 [.ref (ad 19), .int i] (cw E ad fl g a v tl) (fun o w => ∃ (r : Int32) (ad1 : Nat → Nat) (fl1 : Nat) (g1 : Nat → Int32) (a1 : Nat → Nat → Int32) (v1 : Nat → Int64), o = some (.int r) ∧ Sh g a g1 a1 ∧ CV fl1 g1 a1 ∧ ad1 19 = ad 19 ∧ w = cw E ad1 fl1 g1 a1 v1 tl) := by
  refine Ct.of (by decide) (Nat.le_of_ble_eq_true rfl) (fun X C hQ hin => ?_)
  have C : Cx E X cX4_mapped 2 RX4 (some .int) 1 40 0 0 := C
  obtain ⟨R, Cc, T, n, m, D, F, ⟨⟨d0, d0a, d0b⟩, ⟨d1, d1a, d1b⟩, ⟨d2, d2a, d2b⟩, ⟨d4, d4a⟩, d5, ⟨d6, d6a⟩, dcm, dn0, dn1⟩, ⟨dF, dF1, dF2⟩, drow, dout⟩ := id hV.1
  refine mg_iload_n C dX4_mapped_0 rfl ?_
  refine mg_if_ge C 7 dX4_mapped_1 (by decide) (fun h1 => ?_) (fun h1 => ?_)
  · refine mg_aload_n C dX4_mapped_7 rfl ?_
    refine mg_get C inG_X4 fX4_21 (ci := 4) rfl rfl 19 rfl rfl dX4_mapped_8 ?_
    refine mg_callVN C (ct_X3_exists E _ _ _ _ _ _) oX4_116 13 rfl rfl rfl rfl rfl dX4_mapped_11 (fun o11 w11 z11 => ?_)
    obtain ⟨rfl, rfl⟩ := z11
    refine mg_v ?_
    refine mg_if_ne C 20 dX4_mapped_14 (by decide) (fun h14 => ?_) (fun h14 => ?_)
    · refine mg_iload_n C dX4_mapped_20 rfl ?_
      refine mg_iconst (v := 0) C dX4_mapped_21 (by decide) ?_
      refine mg_aload_n C dX4_mapped_22 rfl ?_
      refine mg_get C inG_X4 fX4_21 (ci := 4) rfl rfl 19 rfl rfl dX4_mapped_23 ?_
      refine mg_getN C inG_X3 fX4_102 (ci := 3) rfl rfl 13 rfl rfl dX4_mapped_26 ?_
      refine mg_iconst (v := 1) C dX4_mapped_29 (by decide) ?_
      refine mg_isub C dX4_mapped_30 ?_
      refine mg_callS C (ct_X4_within E _ _ _ _) oX4_39 rfl rfl rfl dX4_mapped_31 (fun o31 w31 z31 => ?_)
      obtain ⟨rfl, rfl⟩ := z31
      refine mg_v ?_
      refine mg_if_eq C 49 dX4_mapped_34 (by decide) (fun h34 => ?_) (fun h34 => ?_)
      · refine mg_bipush (v := (-2)) C dX4_mapped_49 (by decide) ?_
        exact mg_iret C hQ dX4_mapped_51 (⟨_, ad, fl, g, a, v, rfl, Sh.rf, hV, rfl, rfl⟩)
      · have hini : vp_in i 8 := (by obtain ⟨q, eq, hq⟩ := wi_in d4 (by omega) h34; rw [eq]; exact vp_in_nI (by omega) (by decide))
        refine mg_aload_n C dX4_mapped_37 rfl ?_
        refine mg_get C inG_X4 fX4_21 (ci := 4) rfl rfl 19 rfl rfl dX4_mapped_38 ?_
        refine mg_getN C inG_X3 fX4_142 (ci := 3) rfl rfl 13 rfl rfl dX4_mapped_41 ?_
        refine mg_iload_n C dX4_mapped_44 rfl ?_
        refine mg_iald C 11 rfl (hini) dX4_mapped_45 ?_
        refine mg_goto C 51 dX4_mapped_46 (by decide) ?_
        exact mg_iret C hQ dX4_mapped_51 (⟨_, ad, fl, g, a, v, rfl, Sh.rf, hV, rfl, rfl⟩)
    · refine mg_bipush (v := (-3)) C dX4_mapped_17 (by decide) ?_
      exact mg_iret C hQ dX4_mapped_19 (⟨_, ad, fl, g, a, v, rfl, Sh.rf, hV, rfl, rfl⟩)
  · refine mg_bipush (v := (-2)) C dX4_mapped_4 (by decide) ?_
    exact mg_iret C hQ dX4_mapped_6 (⟨_, ad, fl, g, a, v, rfl, Sh.rf, hV, rfl, rfl⟩)
set_option maxHeartbeats 400000 in
set_option maxRecDepth 100000 in
theorem cw_X3_bitSum (E : En) (ad : Nat → Nat) (fl : Nat) (g : Nat → Int32) (a : Nat → Nat → Int32) (v : Nat → Int64) (tl : va_W) (n col : Nat) (b : Int32) (d4 : g 4 = nI n) (hn : n ≤ 8) (hcol : col < 24) (drow : ∀ i, i < 8 → ∃ r, r < 8 ∧ a 5 i = nI r) : Ct E mX3_bitSum 1 0 0 [.ref (ad 13), .int (nI col), .int b] (cw E ad fl g a v tl) (fun o w => ∃ r : Int32, o = some (.int r) ∧ w = cw E ad fl g a v tl) := by
  refine Ct.of (by decide) (Nat.le_of_ble_eq_true rfl) (fun X C hQ hin => ?_)
  have C : Cx E X cX3_bitSum 5 RX3 (some .int) 1 40 0 0 := C
  have loop : ∀ (m1 i : Nat) (y : Int32), n < i + m1 → i ≤ n → GG E X (cw E ad fl g a v tl) 0 0 5 [(0, .ref (ad 13)), (1, .int (nI col)), (2, .int b), (3, .int y), (4, .int (nI i))] [] := by
    intro m1
    induction m1 with
    | zero => intro i y hm hi; omega
    | succ m1 ih =>
      intro i y hm hi
      refine mg_iload C dX3_bitSum_5 rfl ?_
      refine mg_aload_n C dX3_bitSum_7 rfl ?_
      refine mg_get C inG_X3 fX3_31 (ci := 3) rfl rfl 13 rfl rfl dX3_bitSum_8 ?_
      refine mg_icmp_ge C 61 dX3_bitSum_11 (by decide) (fun h11 => ?_) (fun h11 => ?_)
      · refine mg_iload_n C dX3_bitSum_61 rfl ?_
        exact mg_iret C hQ dX3_bitSum_62 (⟨_, rfl, rfl⟩)
      · have hlt : i < n := (by rcases Nat.lt_or_ge i n with h | h; exact h; exact absurd (by rw [d4]; exact nI_le h (by omega)) h11)
        have hin8 : vp_in (nI i) 8 := vp_in_nI (by omega) (by decide)
        obtain ⟨rr, hrr, err⟩ := drow i (by omega)
        have hin9 : vp_in (nI rr * 24 + nI col) 192 := (by rw [pl_eq]; exact vp_in_nI (by omega) (by decide))
        refine mg_iload_n C dX3_bitSum_14 rfl ?_
        refine mg_aload_n C dX3_bitSum_15 rfl ?_
        refine mg_get C inG_X3 fX3_27 (ci := 3) rfl rfl 13 rfl rfl dX3_bitSum_16 ?_
        refine mg_getN C inG_X1 fX3_100 (ci := 1) rfl rfl 18 rfl rfl dX3_bitSum_19 ?_
        refine mg_iload C dX3_bitSum_22 rfl ?_
        refine mg_iald C 14 rfl (hin8) dX3_bitSum_24 ?_
        refine mg_iload_n C dX3_bitSum_25 rfl ?_
        refine mg_ishr C dX3_bitSum_26 ?_
        refine mg_iconst (v := 1) C dX3_bitSum_27 (by decide) ?_
        refine mg_iand C dX3_bitSum_28 ?_
        refine mg_aload_n C dX3_bitSum_29 rfl ?_
        refine mg_get C inG_X3 fX3_27 (ci := 3) rfl rfl 13 rfl rfl dX3_bitSum_30 ?_
        refine mg_getN C inG_X1 fX3_103 (ci := 1) rfl rfl 18 rfl rfl dX3_bitSum_33 ?_
        refine mg_aload_n C dX3_bitSum_36 rfl ?_
        refine mg_get C inG_X3 fX3_27 (ci := 3) rfl rfl 13 rfl rfl dX3_bitSum_37 ?_
        refine mg_aload_n C dX3_bitSum_40 rfl ?_
        refine mg_get C inG_X3 fX3_15 (ci := 3) rfl rfl 13 rfl rfl dX3_bitSum_41 ?_
        refine mg_iload C dX3_bitSum_44 rfl ?_
        refine mg_iald C 11 rfl (hin8) dX3_bitSum_46 ?_
        refine mg_tos (w := .int (nI rr)) (by rw [nI_clamp (by omega), err]) ?_
        refine mg_iload_n C dX3_bitSum_47 rfl ?_
        refine mg_callVN C (ct_X1_place E _ _ _ _ _ _ _ _) oX3_83 18 rfl rfl rfl rfl rfl dX3_bitSum_48 (fun o48 w48 z48 => ?_)
        obtain ⟨rfl, rfl⟩ := z48
        refine mg_v ?_
        refine mg_iald C 17 rfl (hin9) dX3_bitSum_51 ?_
        refine mg_imul C dX3_bitSum_52 ?_
        refine mg_iadd C dX3_bitSum_53 ?_
        refine mg_istore_n C dX3_bitSum_54 rfl ?_
        refine mg_lve (lv' := [(0, _), (1, _), (2, _), (3, _), (4, _)]) rfl ?_
        refine mg_iinc C dX3_bitSum_55 rfl rfl ?_
        refine mg_lve (lv' := [(0, _), (1, _), (2, _), (3, _), (4, _)]) rfl ?_
        refine mg_goto C 5 dX3_bitSum_58 (by decide) ?_
        rw [show nI i + Int32.ofInt 1 = nI (i + 1) from (nI_succ i).symm]
        exact ih (i + 1) _ (by omega) (by omega)
  refine mg_iconst (v := 0) C dX3_bitSum_0 (by decide) ?_
  refine mg_istore_n C dX3_bitSum_1 rfl ?_
  refine mg_lve (lv' := [(0, _), (1, _), (2, _), (3, _)]) rfl ?_
  refine mg_iconst (v := 0) C dX3_bitSum_2 (by decide) ?_
  refine mg_istore C dX3_bitSum_3 rfl ?_
  refine mg_lve (lv' := [(0, _), (1, _), (2, _), (3, _), (4, _)]) rfl ?_
  exact loop (n + 1) 0 _ (by omega) (by omega)
set_option maxHeartbeats 400000 in
set_option maxRecDepth 100000 in
theorem cw_X3_meshProduct (E : En) (ad : Nat → Nat) (fl : Nat) (g : Nat → Int32) (a : Nat → Nat → Int32) (v : Nat → Int64) (tl : va_W) (R Cc T n m D : Nat) (hd : Dim g R Cc T n m D) (k : Nat) (hkm : k < m) (drow : ∀ i, i < 8 → ∃ r, r < 8 ∧ a 5 i = nI r) : Ct E mX3_meshProduct 2 0 0 [.ref (ad 13), .int (nI k)] (cw E ad fl g a v tl) (fun o w => ∃ r : Int64, o = some (.long r) ∧ w = cw E ad fl g a v tl) := by
  refine Ct.of (by decide) (Nat.le_of_ble_eq_true rfl) (fun X C hQ hin => ?_)
  have C : Cx E X cX3_meshProduct 11 RX3 (some .long) 2 80 0 0 := C
  obtain ⟨⟨d0, d0a, d0b⟩, ⟨d1, d1a, d1b⟩, ⟨d2, d2a, d2b⟩, ⟨d4, d4a⟩, d5, ⟨d6, d6a⟩, dcm, dn0, dn1⟩ := id hd
  have inner : ∀ (b : Nat), (∀ (y z : Int64), GG E X (cw E ad fl g a v tl) 0 0 110 [(0, .ref (ad 13)), (1, .int (nI k)), (2, .long y), (4, .int (nI b)), (5, .long z), (7, .int (nI D))] []) → ∀ (m1 j : Nat) (y z : Int64), D < j + m1 → j ≤ D → GG E X (cw E ad fl g a v tl) 0 0 21 [(0, .ref (ad 13)), (1, .int (nI k)), (2, .long y), (4, .int (nI b)), (5, .long z), (7, .int (nI j))] [] := by
    intro b out m1
    induction m1 with
    | zero => intro j y z hm hj; omega
    | succ m1 ih =>
      intro j y z hm hj
      refine mg_iload C dX3_meshProduct_21 rfl ?_
      refine mg_aload_n C dX3_meshProduct_23 rfl ?_
      refine mg_get C inG_X3 fX3_38 (ci := 3) rfl rfl 13 rfl rfl dX3_meshProduct_24 ?_
      refine mg_icmp_ge C 110 dX3_meshProduct_27 (by decide) (fun h27 => ?_) (fun h27 => ?_)
      · have hge : j = D := (by rcases Nat.lt_or_ge j D with h | h; exact absurd (by rw [d6] at h27; exact h27) (nI_ge h (by omega)); omega)
        subst hge
        exact out y z
      · have hlt : j < D := (by rcases Nat.lt_or_ge j D with h | h; exact h; exact absurd (by rw [d6]; exact nI_le h (by omega)) h27)
        refine mg_iconst (v := 2) C dX3_meshProduct_30 (by decide) ?_
        refine mg_aload_n C dX3_meshProduct_31 rfl ?_
        refine mg_get C inG_X3 fX3_38 (ci := 3) rfl rfl 13 rfl rfl dX3_meshProduct_32 ?_
        refine mg_imul C dX3_meshProduct_35 ?_
        refine mg_iload_n C dX3_meshProduct_36 rfl ?_
        refine mg_imul C dX3_meshProduct_37 ?_
        refine mg_iload C dX3_meshProduct_38 rfl ?_
        refine mg_iadd C dX3_meshProduct_40 ?_
        refine mg_tos (w := .int (nI (2 * D * k + 0 + j))) (by rw [d6, show (2 : Int32) = nI 2 from rfl, pk_mul, pk_mul, nI_add, Nat.add_zero]) ?_
        refine mg_istore C dX3_meshProduct_41 rfl ?_
        refine mg_lve (lv' := [(0, _), (1, _), (2, _), (4, _), (5, _), (7, _), (8, _)]) rfl ?_
        refine mg_aload_n C dX3_meshProduct_43 rfl ?_
        refine mg_get C inG_X3 fX3_27 (ci := 3) rfl rfl 13 rfl rfl dX3_meshProduct_44 ?_
        refine mg_aload_n C dX3_meshProduct_47 rfl ?_
        refine mg_iload C dX3_meshProduct_48 rfl ?_
        refine mg_iload C dX3_meshProduct_50 rfl ?_
        refine mg_callV C (cw_X3_bitSum E _ _ _ _ _ _ n (2 * D * k + 0 + j) _ d4 (by omega) (Nat.lt_of_lt_of_le (uc_in (C := Cc) hkm hlt (Or.inl rfl) dcm) d1b) drow) oX3_94 13 rfl rfl rfl rfl rfl dX3_meshProduct_52 (fun o52 w52 z52 => ?_)
        obtain ⟨r1, rfl, rfl⟩ := z52
        refine mg_v ?_
        refine mg_callVN C (ct_X1_convert E _ _ _ _ _ _ _) oX3_97 18 rfl rfl rfl rfl rfl dX3_meshProduct_55 (fun o55 w55 z55 => ?_)
        obtain ⟨rfl, rfl⟩ := z55
        refine mg_v ?_
        refine mg_istore C dX3_meshProduct_58 rfl ?_
        refine mg_lve (lv' := [(0, _), (1, _), (2, _), (4, _), (5, _), (7, _), (8, _), (9, _)]) rfl ?_
        refine mg_aload_n C dX3_meshProduct_60 rfl ?_
        refine mg_get C inG_X3 fX3_27 (ci := 3) rfl rfl 13 rfl rfl dX3_meshProduct_61 ?_
        refine mg_aload_n C dX3_meshProduct_64 rfl ?_
        refine mg_iload C dX3_meshProduct_65 rfl ?_
        refine mg_aload_n C dX3_meshProduct_67 rfl ?_
        refine mg_get C inG_X3 fX3_38 (ci := 3) rfl rfl 13 rfl rfl dX3_meshProduct_68 ?_
        refine mg_iadd C dX3_meshProduct_71 ?_
        refine mg_tos (w := .int (nI (2 * D * k + D + j))) (by rw [d6, nI_add]; congr 2; omega) ?_
        refine mg_iload C dX3_meshProduct_72 rfl ?_
        refine mg_callV C (cw_X3_bitSum E _ _ _ _ _ _ n (2 * D * k + D + j) _ d4 (by omega) (Nat.lt_of_lt_of_le (uc_in (C := Cc) hkm hlt (Or.inr rfl) dcm) d1b) drow) oX3_94 13 rfl rfl rfl rfl rfl dX3_meshProduct_74 (fun o74 w74 z74 => ?_)
        obtain ⟨r2, rfl, rfl⟩ := z74
        refine mg_v ?_
        refine mg_callVN C (ct_X1_convert E _ _ _ _ _ _ _) oX3_97 18 rfl rfl rfl rfl rfl dX3_meshProduct_77 (fun o77 w77 z77 => ?_)
        obtain ⟨rfl, rfl⟩ := z77
        refine mg_v ?_
        refine mg_istore C dX3_meshProduct_80 rfl ?_
        refine mg_lve (lv' := [(0, _), (1, _), (2, _), (4, _), (5, _), (7, _), (8, _), (9, _), (10, _)]) rfl ?_
        refine mg_lload_n C dX3_meshProduct_82 rfl ?_
        refine mg_lload C dX3_meshProduct_83 rfl ?_
        refine mg_iload C dX3_meshProduct_85 rfl ?_
        refine mg_iload C dX3_meshProduct_87 rfl ?_
        refine mg_isub C dX3_meshProduct_89 ?_
        refine mg_i2l C dX3_meshProduct_90 ?_
        refine mg_lmul C dX3_meshProduct_91 ?_
        refine mg_ladd C dX3_meshProduct_92 ?_
        refine mg_lstore_n C dX3_meshProduct_93 rfl ?_
        refine mg_lve (lv' := [(0, _), (1, _), (2, _), (4, _), (5, _), (7, _), (8, _), (9, _), (10, _)]) rfl ?_
        refine mg_lload C dX3_meshProduct_94 rfl ?_
        refine mg_aload_n C dX3_meshProduct_96 rfl ?_
        refine mg_callV C (ct_X3_base E _ _ _ _ _ _) oX3_45 13 rfl rfl rfl rfl rfl dX3_meshProduct_97 (fun o97 w97 z97 => ?_)
        obtain ⟨rfl, rfl⟩ := z97
        refine mg_v ?_
        refine mg_i2l C dX3_meshProduct_100 ?_
        refine mg_lmul C dX3_meshProduct_101 ?_
        refine mg_lstore C dX3_meshProduct_102 rfl ?_
        refine mg_lve (lv' := [(0, _), (1, _), (2, _), (4, _), (5, _), (7, _), (8, _), (9, _), (10, _)]) rfl ?_
        refine mg_iinc C dX3_meshProduct_104 rfl rfl ?_
        refine mg_lve (lv' := [(0, _), (1, _), (2, _), (4, _), (5, _), (7, _), (8, _), (9, _), (10, _)]) rfl ?_
        refine mg_goto C 21 dX3_meshProduct_107 (by decide) ?_
        refine mg_lv (lv' := [(0, _), (1, _), (2, _), (4, _), (5, _), (7, _)]) (lv_tk 6 rfl) ?_
        rw [show nI j + Int32.ofInt 1 = nI (j + 1) from (nI_succ j).symm]
        exact ih (j + 1) _ _ (by omega) (by omega)
  have loop : ∀ (m1 b : Nat) (y : Int64), 8 < b + m1 → b ≤ 8 → GG E X (cw E ad fl g a v tl) 0 0 5 [(0, .ref (ad 13)), (1, .int (nI k)), (2, .long y), (4, .int (nI b))] [] := by
    intro m1
    induction m1 with
    | zero => intro b y hm hb; omega
    | succ m1 ih =>
      intro b y hm hb
      refine mg_iload C dX3_meshProduct_5 rfl ?_
      refine mg_bipush (v := 8) C dX3_meshProduct_7 (by decide) ?_
      refine mg_icmp_ge C 116 dX3_meshProduct_9 (by decide) (fun h9 => ?_) (fun h9 => ?_)
      · refine mg_lload_n C dX3_meshProduct_116 rfl ?_
        exact mg_lret C hQ dX3_meshProduct_117 (⟨_, rfl, rfl⟩)
      · have hlt : b < 8 := (by rcases Nat.lt_or_ge b 8 with h | h; exact h; exact absurd (show (8 : Int32) ≤ nI b from nI_le (a := 8) h (by omega)) h9)
        refine mg_lconst (v := 1) C dX3_meshProduct_12 (by decide) ?_
        refine mg_iload C dX3_meshProduct_13 rfl ?_
        refine mg_lshl C dX3_meshProduct_15 ?_
        refine mg_lstore C dX3_meshProduct_16 rfl ?_
        refine mg_lve (lv' := [(0, _), (1, _), (2, _), (4, _), (5, _)]) rfl ?_
        refine mg_iconst (v := 0) C dX3_meshProduct_18 (by decide) ?_
        refine mg_istore C dX3_meshProduct_19 rfl ?_
        refine mg_lve (lv' := [(0, _), (1, _), (2, _), (4, _), (5, _), (7, _)]) rfl ?_
        refine inner b (fun y1 z1 => ?_) (D + 1) 0 _ _ (by omega) (by omega)
        refine mg_iinc C dX3_meshProduct_110 rfl rfl ?_
        refine mg_goto C 5 dX3_meshProduct_113 (by decide) ?_
        refine mg_lv (lv' := [(0, _), (1, _), (2, _), (4, _)]) (lv_tk 4 rfl) ?_
        rw [show nI b + Int32.ofInt 1 = nI (b + 1) from (nI_succ b).symm]
        exact ih (b + 1) _ (by omega) (by omega)
  refine mg_lconst (v := 0) C dX3_meshProduct_0 (by decide) ?_
  refine mg_lstore_n C dX3_meshProduct_1 rfl ?_
  refine mg_lve (lv' := [(0, _), (1, _), (2, _)]) rfl ?_
  refine mg_iconst (v := 0) C dX3_meshProduct_2 (by decide) ?_
  refine mg_istore C dX3_meshProduct_3 rfl ?_
  refine mg_lve (lv' := [(0, _), (1, _), (2, _), (4, _)]) rfl ?_
  exact loop 9 0 _ (by omega) (by omega)
set_option maxHeartbeats 400000 in
set_option maxRecDepth 100000 in
theorem cv_product (E : En) (ad : Nat → Nat) (fl : Nat) (g : Nat → Int32) (a : Nat → Nat → Int32) (v : Nat → Int64) (tl : va_W) (k : Int32) (hV : CV fl g a) : Ct E mX4_product 3 0 0 [.ref (ad 19), .int k] (cw E ad fl g a v tl) (fun o w => ∃ (r : Int64) (ad1 : Nat → Nat) (fl1 : Nat) (g1 : Nat → Int32) (a1 : Nat → Nat → Int32) (v1 : Nat → Int64), o = some (.long r) ∧ Sh g a g1 a1 ∧ CV fl1 g1 a1 ∧ ad1 19 = ad 19 ∧ w = cw E ad1 fl1 g1 a1 v1 tl) := by
  refine Ct.of (by decide) (Nat.le_of_ble_eq_true rfl) (fun X C hQ hin => ?_)
  have C : Cx E X cX4_product 2 RX4 (some .long) 3 120 0 0 := C
  obtain ⟨R, Cc, T, n, m, D, F, ⟨⟨d0, d0a, d0b⟩, ⟨d1, d1a, d1b⟩, ⟨d2, d2a, d2b⟩, ⟨d4, d4a⟩, d5, ⟨d6, d6a⟩, dcm, dn0, dn1⟩, ⟨dF, dF1, dF2⟩, drow, dout⟩ := id hV.1
  refine mg_aload_n C dX4_product_0 rfl ?_
  refine mg_get C inG_X4 fX4_21 (ci := 4) rfl rfl 19 rfl rfl dX4_product_1 ?_
  refine mg_getN C inG_X3 fX4_124 (ci := 3) rfl rfl 13 rfl rfl dX4_product_4 ?_
  refine mg_if_eq C 27 dX4_product_7 (by decide) (fun h7 => ?_) (fun h7 => ?_)
  · refine mg_ldc2 C dX4_product_27 kX4_127 ?_
    exact mg_lret C hQ dX4_product_30 (⟨_, ad, fl, g, a, v, rfl, Sh.rf, hV, rfl, rfl⟩)
  · refine mg_iload_n C dX4_product_10 rfl ?_
    refine mg_iconst (v := 0) C dX4_product_11 (by decide) ?_
    refine mg_aload_n C dX4_product_12 rfl ?_
    refine mg_get C inG_X4 fX4_21 (ci := 4) rfl rfl 19 rfl rfl dX4_product_13 ?_
    refine mg_getN C inG_X3 fX4_105 (ci := 3) rfl rfl 13 rfl rfl dX4_product_16 ?_
    refine mg_iconst (v := 1) C dX4_product_19 (by decide) ?_
    refine mg_isub C dX4_product_20 ?_
    refine mg_callS C (ct_X4_within E _ _ _ _) oX4_39 rfl rfl rfl dX4_product_21 (fun o21 w21 z21 => ?_)
    obtain ⟨rfl, rfl⟩ := z21
    refine mg_v ?_
    refine mg_if_ne C 31 dX4_product_24 (by decide) (fun h24 => ?_) (fun h24 => ?_)
    · obtain ⟨kk, ekk, hkk⟩ := wi_in d5 (by rcases Nat.eq_zero_or_pos n with e | e; rw [dn0 e]; omega; have q := m12 (n := n) dcm d1b (dn1 (by omega)).1; omega) h24
      subst ekk
      refine mg_aload_n C dX4_product_31 rfl ?_
      refine mg_get C inG_X4 fX4_21 (ci := 4) rfl rfl 19 rfl rfl dX4_product_32 ?_
      refine mg_iload_n C dX4_product_35 rfl ?_
      refine mg_callVN C (cw_X3_meshProduct E _ _ _ _ _ _ R Cc T n m D ⟨⟨d0, d0a, d0b⟩, ⟨d1, d1a, d1b⟩, ⟨d2, d2a, d2b⟩, ⟨d4, d4a⟩, d5, ⟨d6, d6a⟩, dcm, dn0, dn1⟩ kk hkk drow) oX4_129 13 rfl rfl rfl rfl rfl dX4_product_36 (fun o36 w36 z36 => ?_)
      obtain ⟨r1, rfl, rfl⟩ := z36
      refine mg_v ?_
      exact mg_lret C hQ dX4_product_39 (⟨_, ad, fl, g, a, v, rfl, Sh.rf, hV, rfl, rfl⟩)
    · refine mg_ldc2 C dX4_product_27 kX4_127 ?_
      exact mg_lret C hQ dX4_product_30 (⟨_, ad, fl, g, a, v, rfl, Sh.rf, hV, rfl, rfl⟩)
def dueS (a : Nat → Nat → Int32) (k : Nat) : Nat → Int64
  | 0 => 0
  | i + 1 => dueS a k i + (a 3 i).toInt64 * (a 4 (i * 12 + k)).toInt64
def gDue (g : Nat → Int32) (a : Nat → Nat → Int32) (k : Int32) : Int64 := if wi k 0 (g 5 - 1) = 0 then -2000000000000000000 else dueS a k.toNatClampNeg (g 4).toNatClampNeg
set_option maxHeartbeats 400000 in
set_option maxRecDepth 100000 in
theorem cw_X3_trueProduct (E : En) (ad : Nat → Nat) (fl : Nat) (g : Nat → Int32) (a : Nat → Nat → Int32) (v : Nat → Int64) (tl : va_W) (n k : Nat) (d4 : g 4 = nI n) (hn : n ≤ 8) (hk : k < 12) : Ct E mX3_trueProduct 1 0 0 [.ref (ad 13), .int (nI k)] (cw E ad fl g a v tl) (fun o w => o = some (.long (dueS a k n)) ∧ w = cw E ad fl g a v tl) := by
  refine Ct.of (by decide) (Nat.le_of_ble_eq_true rfl) (fun X C hQ hin => ?_)
  have C : Cx E X cX3_trueProduct 5 RX3 (some .long) 1 40 0 0 := C
  have loop : ∀ (m1 i : Nat), n < i + m1 → i ≤ n → GG E X (cw E ad fl g a v tl) 0 0 5 [(0, .ref (ad 13)), (1, .int (nI k)), (2, .long (dueS a k i)), (4, .int (nI i))] [] := by
    intro m1
    induction m1 with
    | zero => intro i hm hi; omega
    | succ m1 ih =>
      intro i hm hi
      refine mg_iload C dX3_trueProduct_5 rfl ?_
      refine mg_aload_n C dX3_trueProduct_7 rfl ?_
      refine mg_get C inG_X3 fX3_31 (ci := 3) rfl rfl 13 rfl rfl dX3_trueProduct_8 ?_
      refine mg_icmp_ge C 43 dX3_trueProduct_11 (by decide) (fun h11 => ?_) (fun h11 => ?_)
      · have hge : i = n := (by rcases Nat.lt_or_ge i n with h | h; exact absurd (by rw [d4] at h11; exact h11) (nI_ge h (by omega)); omega)
        subst hge
        refine mg_lload_n C dX3_trueProduct_43 rfl ?_
        exact mg_lret C hQ dX3_trueProduct_44 (⟨rfl, rfl⟩)
      · have hlt : i < n := (by rcases Nat.lt_or_ge i n with h | h; exact h; exact absurd (by rw [d4]; exact nI_le h (by omega)) h11)
        have hin8 : vp_in (nI i) 8 := vp_in_nI (by omega) (by decide)
        refine mg_lload_n C dX3_trueProduct_14 rfl ?_
        refine mg_aload_n C dX3_trueProduct_15 rfl ?_
        refine mg_get C inG_X3 fX3_27 (ci := 3) rfl rfl 13 rfl rfl dX3_trueProduct_16 ?_
        refine mg_getN C inG_X1 fX3_100 (ci := 1) rfl rfl 18 rfl rfl dX3_trueProduct_19 ?_
        refine mg_iload C dX3_trueProduct_22 rfl ?_
        refine mg_iald C 14 rfl (hin8) dX3_trueProduct_24 ?_
        refine mg_i2l C dX3_trueProduct_25 ?_
        refine mg_aload_n C dX3_trueProduct_26 rfl ?_
        refine mg_iload C dX3_trueProduct_27 rfl ?_
        refine mg_iload_n C dX3_trueProduct_29 rfl ?_
        refine mg_callV C (ct_X3_numberAt E _ _ _ _ _ _ _ _ (by omega)) oX3_67 13 rfl rfl rfl rfl rfl dX3_trueProduct_30 (fun o30 w30 z30 => ?_)
        obtain ⟨rfl, rfl⟩ := z30
        refine mg_v ?_
        refine mg_i2l C dX3_trueProduct_33 ?_
        refine mg_lmul C dX3_trueProduct_34 ?_
        refine mg_ladd C dX3_trueProduct_35 ?_
        refine mg_lstore_n C dX3_trueProduct_36 rfl ?_
        refine mg_lve (lv' := [(0, _), (1, _), (2, _), (4, _)]) rfl ?_
        refine mg_iinc C dX3_trueProduct_37 rfl rfl ?_
        refine mg_lve (lv' := [(0, _), (1, _), (2, _), (4, _)]) rfl ?_
        refine mg_goto C 5 dX3_trueProduct_40 (by decide) ?_
        refine mg_lve (lv' := [(0, .ref (ad 13)), (1, .int (nI k)), (2, .long (dueS a k (i + 1))), (4, .int (nI (i + 1)))]) (by rw [nI_succ i, dueS, nI_clamp (by omega)]; rfl) ?_
        exact ih (i + 1) (by omega) (by omega)
  refine mg_lconst (v := 0) C dX3_trueProduct_0 (by decide) ?_
  refine mg_lstore_n C dX3_trueProduct_1 rfl ?_
  refine mg_lve (lv' := [(0, _), (1, _), (2, _)]) rfl ?_
  refine mg_iconst (v := 0) C dX3_trueProduct_2 (by decide) ?_
  refine mg_istore C dX3_trueProduct_3 rfl ?_
  refine mg_lve (lv' := [(0, _), (1, _), (2, _), (4, _)]) rfl ?_
  exact loop (n + 1) 0 (by omega) (by omega)
set_option maxHeartbeats 400000 in
set_option maxRecDepth 100000 in
theorem cv_due (E : En) (ad : Nat → Nat) (fl : Nat) (g : Nat → Int32) (a : Nat → Nat → Int32) (v : Nat → Int64) (tl : va_W) (k : Int32) (hV : CV fl g a) : Ct E mX4_due 2 0 0 [.ref (ad 19), .int k] (cw E ad fl g a v tl) (fun o w => ∃ (ad1 : Nat → Nat) (fl1 : Nat) (g1 : Nat → Int32) (a1 : Nat → Nat → Int32) (v1 : Nat → Int64), o = some (.long (gDue g a k)) ∧ Sh g a g1 a1 ∧ CV fl1 g1 a1 ∧ ad1 19 = ad 19 ∧ w = cw E ad1 fl1 g1 a1 v1 tl) := by
  refine Ct.of (by decide) (Nat.le_of_ble_eq_true rfl) (fun X C hQ hin => ?_)
  have C : Cx E X cX4_due 2 RX4 (some .long) 2 80 0 0 := C
  obtain ⟨R, Cc, T, n, m, D, F, ⟨⟨d0, d0a, d0b⟩, ⟨d1, d1a, d1b⟩, ⟨d2, d2a, d2b⟩, ⟨d4, d4a⟩, d5, ⟨d6, d6a⟩, dcm, dn0, dn1⟩, ⟨dF, dF1, dF2⟩, drow, dout⟩ := id hV.1
  refine mg_iload_n C dX4_due_0 rfl ?_
  refine mg_iconst (v := 0) C dX4_due_1 (by decide) ?_
  refine mg_aload_n C dX4_due_2 rfl ?_
  refine mg_get C inG_X4 fX4_21 (ci := 4) rfl rfl 19 rfl rfl dX4_due_3 ?_
  refine mg_getN C inG_X3 fX4_105 (ci := 3) rfl rfl 13 rfl rfl dX4_due_6 ?_
  refine mg_iconst (v := 1) C dX4_due_9 (by decide) ?_
  refine mg_isub C dX4_due_10 ?_
  refine mg_callS C (ct_X4_within E _ _ _ _) oX4_39 rfl rfl rfl dX4_due_11 (fun o11 w11 z11 => ?_)
  obtain ⟨rfl, rfl⟩ := z11
  refine mg_v ?_
  refine mg_if_ne C 21 dX4_due_14 (by decide) (fun h14 => ?_) (fun h14 => ?_)
  · have hm12 : m ≤ 12 := (by rcases Nat.eq_zero_or_pos n with e | e; rw [dn0 e]; omega; have q := m12 (n := n) dcm d1b (dn1 (by omega)).1; omega)
    obtain ⟨kk, ekk, hkk⟩ := wi_in d5 (by omega) h14
    subst ekk
    refine mg_aload_n C dX4_due_21 rfl ?_
    refine mg_get C inG_X4 fX4_21 (ci := 4) rfl rfl 19 rfl rfl dX4_due_22 ?_
    refine mg_iload_n C dX4_due_25 rfl ?_
    refine mg_callVN C (cw_X3_trueProduct E _ _ _ _ _ _ n kk d4 (by omega) (by omega)) oX4_133 13 rfl rfl rfl rfl rfl dX4_due_26 (fun o26 w26 z26 => ?_)
    obtain ⟨rfl, rfl⟩ := z26
    refine mg_v ?_
    exact mg_lret C hQ dX4_due_29 (⟨ad, fl, g, a, v, by rw [gDue, if_neg h14, d4, nI_clamp (by omega), nI_clamp (by omega)], Sh.rf, hV, rfl, rfl⟩)
  · refine mg_ldc2 C dX4_due_17 kX4_127 ?_
    exact mg_lret C hQ dX4_due_20 (⟨ad, fl, g, a, v, by rw [gDue, if_pos h14], Sh.rf, hV, rfl, rfl⟩)
def eb (q : Nat) : Nat → Nat → Nat
  | 0, b => b
  | f + 1, b => if 2 ^ b - 1 < q then eb q f (b + 1) else b
def gEn (g : Nat → Int32) : Int32 := if ex g = 0 then -3 else nI (eb (g 4 * g 2).toNatClampNeg 15 1)
theorem mb_eq {b : Nat} (h : b < 16) : (1 : Int32) <<< (nI b &&& 31) - 1 = nI (2 ^ b - 1) := by
  rw [show (1 : Int32) = nI 1 from rfl, ni_shl (by omega), Nat.shiftLeft_eq, Nat.one_mul, pk_sub Nat.one_le_two_pow]
theorem mb_lt {b : Nat} (h : b < 16) : 2 ^ b - 1 < 65536 := by
  have : 2 ^ b ≤ 2 ^ 16 := Nat.pow_le_pow_right (by omega) (by omega)
  have : (2 : Nat) ^ 16 = 65536 := rfl
  omega
set_option maxHeartbeats 400000 in
set_option maxRecDepth 100000 in
theorem cw_X3_bitsEnough (E : En) (ad : Nat → Nat) (fl : Nat) (g : Nat → Int32) (a : Nat → Nat → Int32) (v : Nat → Int64) (tl : va_W) (n T q : Nat) (d4 : g 4 = nI n) (d2 : g 2 = nI T) (hq : n * T = q) (hq2 : q < 65536) : Ct E mX3_bitsEnough 0 0 0 [.ref (ad 13)] (cw E ad fl g a v tl) (fun o w => o = some (.int (nI (eb q 15 1))) ∧ w = cw E ad fl g a v tl) := by
  refine Ct.of (by decide) (Nat.le_of_ble_eq_true rfl) (fun X C hQ hin => ?_)
  have C : Cx E X cX3_bitsEnough 3 RX3 (some .int) 0 0 0 0 := C
  have loop : ∀ (m1 b : Nat), 16 < b + m1 → 1 ≤ b → b ≤ 16 → eb q (16 - b) b = eb q 15 1 → GG E X (cw E ad fl g a v tl) 0 0 15 [(0, .ref (ad 13)), (1, .int (nI q)), (2, .int (nI b))] [] := by
    intro m1
    induction m1 with
    | zero => intro b hm hb1 hb; omega
    | succ m1 ih =>
      intro b hm hb1 hb he
      refine mg_iload_n C dX3_bitsEnough_15 rfl ?_
      refine mg_bipush (v := 16) C dX3_bitsEnough_16 (by decide) ?_
      refine mg_icmp_ge C 36 dX3_bitsEnough_18 (by decide) (fun h18 => ?_) (fun h18 => ?_)
      · have eb0 : b = 16 := (by rcases Nat.lt_or_ge b 16 with h | h; exact absurd h18 (nI_ge (b := 16) h (by decide)); omega)
        have hans : eb q 15 1 = b := (by rw [← he, eb0]; rfl)
        refine mg_iload_n C dX3_bitsEnough_36 rfl ?_
        exact mg_iret C hQ dX3_bitsEnough_37 (⟨by rw [hans], rfl⟩)
      · have hlt : b < 16 := (by rcases Nat.lt_or_ge b 16 with h | h; exact h; exact absurd (show (16 : Int32) ≤ nI b from nI_le (a := 16) h (by omega)) h18)
        have hmb := mb_lt hlt
        refine mg_iconst (v := 1) C dX3_bitsEnough_21 (by decide) ?_
        refine mg_iload_n C dX3_bitsEnough_22 rfl ?_
        refine mg_ishl C dX3_bitsEnough_23 ?_
        refine mg_iconst (v := 1) C dX3_bitsEnough_24 (by decide) ?_
        refine mg_isub C dX3_bitsEnough_25 ?_
        refine mg_tos (w := .int (nI (2 ^ b - 1))) (congrArg Value.int (mb_eq hlt)) ?_
        refine mg_iload_n C dX3_bitsEnough_26 rfl ?_
        refine mg_icmp_ge C 36 dX3_bitsEnough_27 (by decide) (fun h27 => ?_) (fun h27 => ?_)
        · have hans : eb q 15 1 = b := (by rw [← he, show 16 - b = (15 - b) + 1 by omega, eb, if_neg (by have h5 := (nI_leI (by omega) (by omega)).mp h27; omega)])
          refine mg_iload_n C dX3_bitsEnough_36 rfl ?_
          exact mg_iret C hQ dX3_bitsEnough_37 (⟨by rw [hans], rfl⟩)
        · refine mg_iinc C dX3_bitsEnough_30 rfl rfl ?_
          refine mg_lve (lv' := [(0, _), (1, _), (2, _)]) rfl ?_
          refine mg_goto C 15 dX3_bitsEnough_33 (by decide) ?_
          refine mg_lve (lv' := [(0, .ref (ad 13)), (1, .int (nI q)), (2, .int (nI (b + 1)))]) (by rw [nI_succ b]; rfl) ?_
          refine ih (b + 1) (by omega) (by omega) (by omega) ?_
          rw [← he, show 16 - b = (15 - b) + 1 by omega, eb, if_pos (by rcases Nat.lt_or_ge (2 ^ b - 1) q with h | h; exact h; exact absurd (nI_le h (by omega)) h27), show 16 - (b + 1) = 15 - b by omega]
  refine mg_aload_n C dX3_bitsEnough_0 rfl ?_
  refine mg_get C inG_X3 fX3_31 (ci := 3) rfl rfl 13 rfl rfl dX3_bitsEnough_1 ?_
  refine mg_aload_n C dX3_bitsEnough_4 rfl ?_
  refine mg_get C inG_X3 fX3_27 (ci := 3) rfl rfl 13 rfl rfl dX3_bitsEnough_5 ?_
  refine mg_getN C inG_X1 fX3_62 (ci := 1) rfl rfl 18 rfl rfl dX3_bitsEnough_8 ?_
  refine mg_imul C dX3_bitsEnough_11 ?_
  refine mg_tos (w := .int (nI q)) (by rw [d4, d2, pk_mul, hq]) ?_
  refine mg_istore_n C dX3_bitsEnough_12 rfl ?_
  refine mg_lve (lv' := [(0, _), (1, _)]) rfl ?_
  refine mg_iconst (v := 1) C dX3_bitsEnough_13 (by decide) ?_
  refine mg_istore_n C dX3_bitsEnough_14 rfl ?_
  refine mg_lve (lv' := [(0, _), (1, _), (2, _)]) rfl ?_
  exact loop 16 1 (by omega) (by omega) (by omega) rfl
set_option maxHeartbeats 400000 in
set_option maxRecDepth 100000 in
theorem cv_enough (E : En) (ad : Nat → Nat) (fl : Nat) (g : Nat → Int32) (a : Nat → Nat → Int32) (v : Nat → Int64) (tl : va_W)  (hV : CV fl g a) : Ct E mX4_enough 1 0 0 [.ref (ad 19)] (cw E ad fl g a v tl) (fun o w => ∃ (ad1 : Nat → Nat) (fl1 : Nat) (g1 : Nat → Int32) (a1 : Nat → Nat → Int32) (v1 : Nat → Int64), o = some (.int (gEn g)) ∧ Sh g a g1 a1 ∧ CV fl1 g1 a1 ∧ ad1 19 = ad 19 ∧ w = cw E ad1 fl1 g1 a1 v1 tl) := by
  refine Ct.of (by decide) (Nat.le_of_ble_eq_true rfl) (fun X C hQ hin => ?_)
  have C : Cx E X cX4_enough 1 RX4 (some .int) 1 40 0 0 := C
  obtain ⟨R, Cc, T, n, m, D, F, ⟨⟨d0, d0a, d0b⟩, ⟨d1, d1a, d1b⟩, ⟨d2, d2a, d2b⟩, ⟨d4, d4a⟩, d5, ⟨d6, d6a⟩, dcm, dn0, dn1⟩, ⟨dF, dF1, dF2⟩, drow, dout⟩ := id hV.1
  refine mg_aload_n C dX4_enough_0 rfl ?_
  refine mg_get C inG_X4 fX4_21 (ci := 4) rfl rfl 19 rfl rfl dX4_enough_1 ?_
  refine mg_callVN C (ct_X3_exists E _ _ _ _ _ _) oX4_116 13 rfl rfl rfl rfl rfl dX4_enough_4 (fun o4 w4 z4 => ?_)
  obtain ⟨rfl, rfl⟩ := z4
  refine mg_v ?_
  refine mg_if_eq C 20 dX4_enough_7 (by decide) (fun h7 => ?_) (fun h7 => ?_)
  · refine mg_bipush (v := (-3)) C dX4_enough_20 (by decide) ?_
    exact mg_iret C hQ dX4_enough_22 (⟨ad, fl, g, a, v, by rw [gEn, if_pos h7], Sh.rf, hV, rfl, rfl⟩)
  · have hnT : n * T ≤ 8 * 15 := Nat.mul_le_mul (by omega) (by omega)
    refine mg_aload_n C dX4_enough_10 rfl ?_
    refine mg_get C inG_X4 fX4_21 (ci := 4) rfl rfl 19 rfl rfl dX4_enough_11 ?_
    refine mg_callVN C (cw_X3_bitsEnough E _ _ _ _ _ _ n T (n * T) d4 d2 rfl (by omega)) oX4_136 13 rfl rfl rfl rfl rfl dX4_enough_14 (fun o14 w14 z14 => ?_)
    obtain ⟨rfl, rfl⟩ := z14
    refine mg_v ?_
    refine mg_goto C 22 dX4_enough_17 (by decide) ?_
    exact mg_iret C hQ dX4_enough_22 (⟨ad, fl, g, a, v, by rw [gEn, if_neg h7, d4, d2, pk_mul, nI_clamp (by omega)], Sh.rf, hV, rfl, rfl⟩)
