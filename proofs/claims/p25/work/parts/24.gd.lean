set_option maxHeartbeats 400000 in
set_option maxRecDepth 100000 in
theorem ct_X3_usedColumns (E : En) (ad : Nat → Nat) (fl : Nat) (g : Nat → Int32) (a : Nat → Nat → Int32) (v : Nat → Int64) (tl : va_W)   : Ct E mX3_usedColumns 0 0 0 [.ref (ad 13)] (cw E ad fl g a v tl) (fun o w => o = some (.int (2 * g 6 * g 5)) ∧ w = cw E ad fl g a v tl) := by
  refine Ct.of (by decide) (Nat.le_of_ble_eq_true rfl) (fun X C hQ hin => ?_)
  have C : Cx E X cX3_usedColumns 1 RX3 (some .int) 0 0 0 0 := C
  refine mg_iconst (v := 2) C dX3_usedColumns_0 (by decide) ?_
  refine mg_aload_n C dX3_usedColumns_1 rfl ?_
  refine mg_get C inG_X3 fX3_38 (ci := 3) rfl rfl 13 rfl rfl dX3_usedColumns_2 ?_
  refine mg_imul C dX3_usedColumns_5 ?_
  refine mg_aload_n C dX3_usedColumns_6 rfl ?_
  refine mg_get C inG_X3 fX3_35 (ci := 3) rfl rfl 13 rfl rfl dX3_usedColumns_7 ?_
  refine mg_imul C dX3_usedColumns_10 ?_
  exact mg_iret C hQ dX3_usedColumns_11 (⟨rfl, rfl⟩)
theorem uc_eq {g : Nat → Int32} {D m : Nat} (d6 : g 6 = nI D) (d5 : g 5 = nI m) : 2 * g 6 * g 5 = nI (2 * D * m) := by rw [d6, d5, show (2 : Int32) = nI 2 from rfl, pk_mul, pk_mul]
theorem uc_in {D m k e j C : Nat} (hk : k < m) (hj : j < D) (he : e = 0 ∨ e = D) (h : 2 * D * m ≤ C) : 2 * D * k + e + j < C := by
  have h1 : 2 * D * (k + 1) ≤ 2 * D * m := Nat.mul_le_mul (Nat.le_refl _) hk
  have h2 : 2 * D * (k + 1) = 2 * D * k + 2 * D := Nat.mul_succ ..
  omega
theorem m12 {n m D C : Nat} (h : 2 * D * m ≤ C) (hC : C ≤ 24) (hD : 1 ≤ D) : m ≤ 12 := by
  have q2 : 2 * 1 * m ≤ 2 * D * m := Nat.mul_le_mul (Nat.mul_le_mul (Nat.le_refl 2) hD) (Nat.le_refl m)
  omega
set_option maxHeartbeats 400000 in
set_option maxRecDepth 100000 in
theorem cw_X3_spellRow (E : En) (ad : Nat → Nat) (fl : Nat) (g : Nat → Int32) (a : Nat → Nat → Int32) (v : Nat → Int64) (tl : va_W) (R Cc T n m D : Nat) (hd : Dim g R Cc T n m D) (i : Nat) (hin : i < n) : Ct E mX3_spellRow 1 0 0 [.ref (ad 13), .int (nI i)] (cw E ad fl g a v tl) (fun o w => ∃ a1 : Nat → Nat → Int32, o = none ∧ (∀ j, j ≠ 6 → a1 j = a j) ∧ w = cw E ad fl g a1 v tl) := by
  refine Ct.of (by decide) (Nat.le_of_ble_eq_true rfl) (fun X C hQ hin => ?_)
  have C : Cx E X cX3_spellRow 8 RX3 none 1 40 0 0 := C
  obtain ⟨⟨d0, d0a, d0b⟩, ⟨d1, d1a, d1b⟩, ⟨d2, d2a, d2b⟩, ⟨d4, d4a⟩, d5, ⟨d6, d6a⟩, dcm, dn0, dn1⟩ := id hd
  have hD1 := (dn1 (by omega)).1
  have hm12 := m12 (n := n) dcm d1b hD1
  have hb : ¬ g 2 + 1 = 0 := (by rw [d2, nI_1]; exact nI_ne0 (by omega) (by omega))
  have inner : ∀ (k f0 : Nat) (z : Int32), (∀ j, j < D → f0 + j < 24) → (∀ (y : Int32) (a1 : Nat → Nat → Int32), (∀ j, j ≠ 6 → a1 j = a j) → GG E X (cw E ad fl g a1 v tl) 0 0 100 [(0, .ref (ad 13)), (1, .int (nI i)), (2, .int (g 2 + 1)), (3, .int (nI k)), (4, .int z), (5, .int (nI f0)), (6, .int y), (7, .int (nI D))] []) → ∀ (m1 j : Nat) (y : Int32) (a1 : Nat → Nat → Int32), D < j + m1 → j ≤ D → (∀ j, j ≠ 6 → a1 j = a j) → GG E X (cw E ad fl g a1 v tl) 0 0 65 [(0, .ref (ad 13)), (1, .int (nI i)), (2, .int (g 2 + 1)), (3, .int (nI k)), (4, .int z), (5, .int (nI f0)), (6, .int y), (7, .int (nI j))] [] := by
    intro k f0 z hf out m1
    induction m1 with
    | zero => intro j y a1 hm hj; omega
    | succ m1 ih =>
      intro j y a1 hm hj ho
      have hfj := hf j
      refine mg_iload C dX3_spellRow_65 rfl ?_
      refine mg_aload_n C dX3_spellRow_67 rfl ?_
      refine mg_get C inG_X3 fX3_38 (ci := 3) rfl rfl 13 rfl rfl dX3_spellRow_68 ?_
      refine mg_icmp_ge C 100 dX3_spellRow_71 (by decide) (fun h71 => ?_) (fun h71 => ?_)
      · have hge : j = D := (by rcases Nat.lt_or_ge j D with h | h; exact absurd (by rw [d6] at h71; exact h71) (nI_ge h (by omega)); omega)
        subst hge
        exact out y a1 ho
      · have hlt : j < D := (by rcases Nat.lt_or_ge j D with h | h; exact h; exact absurd (by rw [d6]; exact nI_le h (by omega)) h71)
        have hinw : vp_in (nI f0 + nI j) 24 := (by rw [nI_add]; exact vp_in_nI (by omega) (by decide))
        refine mg_aload_n C dX3_spellRow_74 rfl ?_
        refine mg_get C inG_X3 fX3_18 (ci := 3) rfl rfl 13 rfl rfl dX3_spellRow_75 ?_
        refine mg_iload C dX3_spellRow_78 rfl ?_
        refine mg_iload C dX3_spellRow_80 rfl ?_
        refine mg_iadd C dX3_spellRow_82 ?_
        refine mg_iload C dX3_spellRow_83 rfl ?_
        refine mg_iload_n C dX3_spellRow_85 rfl ?_
        refine mg_irem C dX3_spellRow_86 (hb) ?_
        refine mg_topi (fun zv87 ezv87 => ?_)
        refine mg_iast C 10 rfl (hinw) dX3_spellRow_87 (ws' := (cw E ad fl g (ups a1 6 _ zv87) v tl)) rfl ?_
        refine mg_iload C dX3_spellRow_88 rfl ?_
        refine mg_iload_n C dX3_spellRow_90 rfl ?_
        refine mg_idiv C dX3_spellRow_91 (hb) ?_
        refine mg_istore C dX3_spellRow_92 rfl ?_
        refine mg_lve (lv' := [(0, _), (1, _), (2, _), (3, _), (4, _), (5, _), (6, _), (7, _)]) rfl ?_
        refine mg_iinc C dX3_spellRow_94 rfl rfl ?_
        refine mg_lve (lv' := [(0, _), (1, _), (2, _), (3, _), (4, _), (5, _), (6, _), (7, _)]) rfl ?_
        refine mg_goto C 65 dX3_spellRow_97 (by decide) ?_
        rw [show nI j + Int32.ofInt 1 = nI (j + 1) from (nI_succ j).symm]
        exact ih (j + 1) _ _ (by omega) (by omega) (fun q hq => (ups_n hq).trans (ho q hq))
  have loop : ∀ (m1 k : Nat) (a1 : Nat → Nat → Int32), m < k + m1 → k ≤ m → (∀ j, j ≠ 6 → a1 j = a j) → GG E X (cw E ad fl g a1 v tl) 0 0 15 [(0, .ref (ad 13)), (1, .int (nI i)), (2, .int (g 2 + 1)), (3, .int (nI k))] [] := by
    intro m1
    induction m1 with
    | zero => intro k a1 hm hk; omega
    | succ m1 ih =>
      intro k a1 hm hk ho
      refine mg_iload_n C dX3_spellRow_15 rfl ?_
      refine mg_aload_n C dX3_spellRow_16 rfl ?_
      refine mg_get C inG_X3 fX3_35 (ci := 3) rfl rfl 13 rfl rfl dX3_spellRow_17 ?_
      refine mg_icmp_ge C 106 dX3_spellRow_20 (by decide) (fun h20 => ?_) (fun h20 => ?_)
      · exact mg_vret C hQ dX3_spellRow_106 (⟨a1, rfl, ho, rfl⟩)
      · have hlt : k < m := (by rcases Nat.lt_or_ge k m with h | h; exact h; exact absurd (by rw [d5]; exact nI_le h (by omega)) h20)
        refine mg_aload_n C dX3_spellRow_23 rfl ?_
        refine mg_iload_n C dX3_spellRow_24 rfl ?_
        refine mg_iload_n C dX3_spellRow_25 rfl ?_
        refine mg_callV C (ct_X3_numberAt E _ _ _ _ _ _ _ _ (by omega)) oX3_67 13 rfl rfl rfl rfl rfl dX3_spellRow_26 (fun o26 w26 z26 => ?_)
        obtain ⟨rfl, rfl⟩ := z26
        refine mg_v ?_
        refine mg_istore C dX3_spellRow_29 rfl ?_
        refine mg_lve (lv' := [(0, _), (1, _), (2, _), (3, _), (4, _)]) rfl ?_
        refine mg_iconst (v := 2) C dX3_spellRow_31 (by decide) ?_
        refine mg_aload_n C dX3_spellRow_32 rfl ?_
        refine mg_get C inG_X3 fX3_38 (ci := 3) rfl rfl 13 rfl rfl dX3_spellRow_33 ?_
        refine mg_imul C dX3_spellRow_36 ?_
        refine mg_iload_n C dX3_spellRow_37 rfl ?_
        refine mg_imul C dX3_spellRow_38 ?_
        refine mg_iload C dX3_spellRow_39 rfl ?_
        refine mg_if_ge C 51 dX3_spellRow_41 (by decide) (fun h41 => ?_) (fun h41 => ?_)
        · refine mg_iconst (v := 0) C dX3_spellRow_51 (by decide) ?_
          refine mg_iadd C dX3_spellRow_52 ?_
          refine mg_tos (w := .int (nI (2 * D * k + 0))) (by rw [d6, show (2 : Int32) = nI 2 from rfl, pk_mul, pk_mul, show (0 : Int32) = nI 0 from rfl, nI_add]) ?_
          refine mg_istore C dX3_spellRow_53 rfl ?_
          refine mg_lve (lv' := [(0, _), (1, _), (2, _), (3, _), (4, _), (5, _)]) rfl ?_
          refine mg_iload C dX3_spellRow_55 rfl ?_
          refine mg_mabs C dX3_spellRow_57 oX3_70m rfl ?_
          refine mg_istore C dX3_spellRow_60 rfl ?_
          refine mg_lve (lv' := [(0, _), (1, _), (2, _), (3, _), (4, _), (5, _), (6, _)]) rfl ?_
          refine mg_iconst (v := 0) C dX3_spellRow_62 (by decide) ?_
          refine mg_istore C dX3_spellRow_63 rfl ?_
          refine mg_lve (lv' := [(0, _), (1, _), (2, _), (3, _), (4, _), (5, _), (6, _), (7, _)]) rfl ?_
          refine inner k (2 * D * k + 0) _ (fun j hj => Nat.lt_of_lt_of_le (uc_in (C := Cc) hlt hj (Or.inl rfl) dcm) d1b) (fun y1 a2 ho2 => ?_) (D + 1) 0 _ a1 (by omega) (by omega) ho
          refine mg_iinc C dX3_spellRow_100 rfl rfl ?_
          refine mg_goto C 15 dX3_spellRow_103 (by decide) ?_
          refine mg_lv (lv' := [(0, _), (1, _), (2, _), (3, _)]) (lv_tk 4 rfl) ?_
          rw [show nI k + Int32.ofInt 1 = nI (k + 1) from (nI_succ k).symm]
          exact ih (k + 1) a2 (by omega) (by omega) ho2
        · refine mg_aload_n C dX3_spellRow_44 rfl ?_
          refine mg_get C inG_X3 fX3_38 (ci := 3) rfl rfl 13 rfl rfl dX3_spellRow_45 ?_
          refine mg_goto C 52 dX3_spellRow_48 (by decide) ?_
          refine mg_iadd C dX3_spellRow_52 ?_
          refine mg_tos (w := .int (nI (2 * D * k + D))) (by rw [d6, show (2 : Int32) = nI 2 from rfl, pk_mul, pk_mul, nI_add]) ?_
          refine mg_istore C dX3_spellRow_53 rfl ?_
          refine mg_lve (lv' := [(0, _), (1, _), (2, _), (3, _), (4, _), (5, _)]) rfl ?_
          refine mg_iload C dX3_spellRow_55 rfl ?_
          refine mg_mabs C dX3_spellRow_57 oX3_70m rfl ?_
          refine mg_istore C dX3_spellRow_60 rfl ?_
          refine mg_lve (lv' := [(0, _), (1, _), (2, _), (3, _), (4, _), (5, _), (6, _)]) rfl ?_
          refine mg_iconst (v := 0) C dX3_spellRow_62 (by decide) ?_
          refine mg_istore C dX3_spellRow_63 rfl ?_
          refine mg_lve (lv' := [(0, _), (1, _), (2, _), (3, _), (4, _), (5, _), (6, _), (7, _)]) rfl ?_
          refine inner k (2 * D * k + D) _ (fun j hj => Nat.lt_of_lt_of_le (uc_in (C := Cc) hlt hj (Or.inr rfl) dcm) d1b) (fun y1 a2 ho2 => ?_) (D + 1) 0 _ a1 (by omega) (by omega) ho
          refine mg_iinc C dX3_spellRow_100 rfl rfl ?_
          refine mg_goto C 15 dX3_spellRow_103 (by decide) ?_
          refine mg_lv (lv' := [(0, _), (1, _), (2, _), (3, _)]) (lv_tk 4 rfl) ?_
          rw [show nI k + Int32.ofInt 1 = nI (k + 1) from (nI_succ k).symm]
          exact ih (k + 1) a2 (by omega) (by omega) ho2
  refine mg_aload_n C dX3_spellRow_0 rfl ?_
  refine mg_callV C (ct_X3_base E _ _ _ _ _ _) oX3_45 13 rfl rfl rfl rfl rfl dX3_spellRow_1 (fun o1 w1 z1 => ?_)
  obtain ⟨rfl, rfl⟩ := z1
  refine mg_v ?_
  refine mg_istore_n C dX3_spellRow_4 rfl ?_
  refine mg_lve (lv' := [(0, _), (1, _), (2, _)]) rfl ?_
  refine mg_aload_n C dX3_spellRow_5 rfl ?_
  refine mg_get C inG_X3 fX3_18 (ci := 3) rfl rfl 13 rfl rfl dX3_spellRow_6 ?_
  refine mg_iconst (v := 0) C dX3_spellRow_9 (by decide) ?_
  refine mg_callS C (ct_J7_fill_53178 E _ 10 _ _ _ rfl rfl _) oX3_56 rfl rfl rfl dX3_spellRow_10 (fun o10 w10 z10 => ?_)
  obtain ⟨rfl, rfl⟩ := z10
  refine mg_ws (ws' := (cw E ad fl g (upa a 6 (fun _ => 0)) v tl)) rfl ?_
  refine mg_v0 ?_
  refine mg_iconst (v := 0) C dX3_spellRow_13 (by decide) ?_
  refine mg_istore_n C dX3_spellRow_14 rfl ?_
  refine mg_lve (lv' := [(0, _), (1, _), (2, _), (3, _)]) rfl ?_
  exact loop (m + 1) 0 _ (by omega) (by omega) (fun q hq => upa_n hq)
theorem pu_k {a : Nat → Nat → Int32} {z y : Int32} : pu a z y 1 = a 1 ∧ pu a z y 3 = a 3 ∧ pu a z y 4 = a 4 ∧ pu a z y 5 = a 5 ∧ pu a z y 13 = a 13 := by
  unfold pu
  by_cases h : sk a z = 0
  · rw [if_pos h]; exact ⟨rfl, rfl, rfl, rfl, rfl⟩
  · rw [if_neg h]; exact ⟨rfl, rfl, rfl, rfl, rfl⟩
set_option maxHeartbeats 400000 in
set_option maxRecDepth 100000 in
theorem cw_X3_layAll (E : En) (ad : Nat → Nat) (fl : Nat) (g : Nat → Int32) (a : Nat → Nat → Int32) (v : Nat → Int64) (tl : va_W) (R Cc T n m D : Nat) (hd : Dim g R Cc T n m D) (drow : ∀ i, i < 8 → ∃ r, r < 8 ∧ a 5 i = nI r) : Ct E mX3_layAll 2 0 0 [.ref (ad 13)] (cw E ad fl g a v tl) (fun o w => ∃ (r : Int32) (a1 : Nat → Nat → Int32), o = some (.int r) ∧ (a1 1 = a 1 ∧ a1 3 = a 3 ∧ a1 4 = a 4 ∧ a1 5 = a 5 ∧ a1 13 = a 13) ∧ w = cw E ad fl (ug g 8 1) a1 v tl) := by
  refine Ct.of (by decide) (Nat.le_of_ble_eq_true rfl) (fun X C hQ hin => ?_)
  have C : Cx E X cX3_layAll 5 RX3 (some .int) 2 80 0 0 := C
  obtain ⟨⟨d0, d0a, d0b⟩, ⟨d1, d1a, d1b⟩, ⟨d2, d2a, d2b⟩, ⟨d4, d4a⟩, d5, ⟨d6, d6a⟩, dcm, dn0, dn1⟩ := id hd
  have inner : ∀ (i : Nat), i < n → (∀ (y : Int32) (a1 : Nat → Nat → Int32), (a1 1 = a 1 ∧ a1 3 = a 3 ∧ a1 4 = a 4 ∧ a1 5 = a 5 ∧ a1 13 = a 13) → GG E X (cw E ad fl g a1 v tl) 0 0 90 [(0, .ref (ad 13)), (1, .int y), (2, .int (nI i)), (3, .int (nI (2 * D * m)))] []) → ∀ (m1 c : Nat) (y : Int32) (a1 : Nat → Nat → Int32), 2 * D * m < c + m1 → c ≤ 2 * D * m → (a1 1 = a 1 ∧ a1 3 = a 3 ∧ a1 4 = a 4 ∧ a1 5 = a 5 ∧ a1 13 = a 13) → GG E X (cw E ad fl g a1 v tl) 0 0 19 [(0, .ref (ad 13)), (1, .int y), (2, .int (nI i)), (3, .int (nI c))] [] := by
    intro i hiN out m1
    induction m1 with
    | zero => intro c y a1 hm hc; omega
    | succ m1 ih =>
      intro c y a1 hm hc hk
      refine mg_iload_n C dX3_layAll_19 rfl ?_
      refine mg_aload_n C dX3_layAll_20 rfl ?_
      refine mg_callV C (ct_X3_usedColumns E _ _ _ _ _ _) oX3_80 13 rfl rfl rfl rfl rfl dX3_layAll_21 (fun o21 w21 z21 => ?_)
      obtain ⟨rfl, rfl⟩ := z21
      refine mg_v ?_
      refine mg_tos (w := .int (nI (2 * D * m))) (by rw [uc_eq d6 d5]) ?_
      refine mg_icmp_ge C 90 dX3_layAll_24 (by decide) (fun h24 => ?_) (fun h24 => ?_)
      · have hge : c = 2 * D * m := (by rcases Nat.lt_or_ge c (2 * D * m) with h | h; exact absurd (h24) (nI_ge h (by omega)); omega)
        rw [hge]
        exact out y a1 hk
      · have hlt : c < (2 * D * m) := (by rcases Nat.lt_or_ge c (2 * D * m) with h | h; exact h; exact absurd (nI_le h (by omega)) h24)
        have hin8 : vp_in (nI i) 8 := vp_in_nI (by omega) (by decide)
        have hinw : vp_in (nI c) 24 := vp_in_nI (by omega) (by decide)
        obtain ⟨rr, hrr, err⟩ := drow i (by omega)
        have hin9 : vp_in (nI rr * 24 + nI c) 192 := (by rw [pl_eq]; exact vp_in_nI (by omega) (by decide))
        refine mg_aload_n C dX3_layAll_27 rfl ?_
        refine mg_get C inG_X3 fX3_27 (ci := 3) rfl rfl 13 rfl rfl dX3_layAll_28 ?_
        refine mg_aload_n C dX3_layAll_31 rfl ?_
        refine mg_get C inG_X3 fX3_15 (ci := 3) rfl rfl 13 rfl rfl dX3_layAll_32 ?_
        refine mg_iload_n C dX3_layAll_35 rfl ?_
        refine mg_iald C 11 rfl (hin8) dX3_layAll_36 ?_
        refine mg_tos (w := .int (nI rr)) (by rw [nI_clamp (by omega), hk.2.2.2.1, err]) ?_
        refine mg_iload_n C dX3_layAll_37 rfl ?_
        refine mg_callVN C (ct_X1_place E _ _ _ _ _ _ _ _) oX3_83 18 rfl rfl rfl rfl rfl dX3_layAll_38 (fun o38 w38 z38 => ?_)
        obtain ⟨rfl, rfl⟩ := z38
        refine mg_v ?_
        refine mg_istore C dX3_layAll_41 rfl ?_
        refine mg_lve (lv' := [(0, _), (1, _), (2, _), (3, _), (4, _)]) rfl ?_
        refine mg_aload_n C dX3_layAll_43 rfl ?_
        refine mg_get C inG_X3 fX3_27 (ci := 3) rfl rfl 13 rfl rfl dX3_layAll_44 ?_
        refine mg_iload C dX3_layAll_47 rfl ?_
        refine mg_aload_n C dX3_layAll_49 rfl ?_
        refine mg_get C inG_X3 fX3_18 (ci := 3) rfl rfl 13 rfl rfl dX3_layAll_50 ?_
        refine mg_iload_n C dX3_layAll_53 rfl ?_
        refine mg_iald C 10 rfl (hinw) dX3_layAll_54 ?_
        refine mg_callVN C (ct_X1_put E _ _ _ _ _ _ _ _ hin9) oX3_86 18 rfl rfl rfl rfl rfl dX3_layAll_55 (fun o55 w55 z55 => ?_)
        obtain ⟨rfl, rfl⟩ := z55
        refine mg_v0 ?_
        refine mg_iload_n C dX3_layAll_58 rfl ?_
        refine mg_aload_n C dX3_layAll_59 rfl ?_
        refine mg_get C inG_X3 fX3_27 (ci := 3) rfl rfl 13 rfl rfl dX3_layAll_60 ?_
        refine mg_iload C dX3_layAll_63 rfl ?_
        refine mg_aload_n C dX3_layAll_65 rfl ?_
        refine mg_get C inG_X3 fX3_18 (ci := 3) rfl rfl 13 rfl rfl dX3_layAll_66 ?_
        refine mg_iload_n C dX3_layAll_69 rfl ?_
        refine mg_iald C 10 rfl (hinw) dX3_layAll_70 ?_
        refine mg_callVN C (ct_X1_sticksAtAnother E _ _ _ _ _ _ _ _ hin9) oX3_90 18 rfl rfl rfl rfl rfl dX3_layAll_71 (fun o71 w71 z71 => ?_)
        obtain ⟨rfl, rfl⟩ := z71
        refine mg_v ?_
        refine mg_if_eq C 81 dX3_layAll_74 (by decide) (fun h74 => ?_) (fun h74 => ?_)
        · refine mg_iconst (v := 0) C dX3_layAll_81 (by decide) ?_
          refine mg_iadd C dX3_layAll_82 ?_
          refine mg_istore_n C dX3_layAll_83 rfl ?_
          refine mg_lve (lv' := [(0, _), (1, _), (2, _), (3, _), (4, _)]) rfl ?_
          refine mg_iinc C dX3_layAll_84 rfl rfl ?_
          refine mg_lve (lv' := [(0, _), (1, _), (2, _), (3, _), (4, _)]) rfl ?_
          refine mg_goto C 19 dX3_layAll_87 (by decide) ?_
          refine mg_lv (lv' := [(0, _), (1, _), (2, _), (3, _)]) (lv_tk 4 rfl) ?_
          rw [show nI c + Int32.ofInt 1 = nI (c + 1) from (nI_succ c).symm]
          have hk2 := pu_k (a := a1) (z := nI rr * 24 + nI c) (y := a1 6 (nI c).toNatClampNeg)
          exact ih (c + 1) _ _ (by omega) (by omega) ⟨hk2.1.trans hk.1, hk2.2.1.trans hk.2.1, hk2.2.2.1.trans hk.2.2.1, hk2.2.2.2.1.trans hk.2.2.2.1, hk2.2.2.2.2.trans hk.2.2.2.2⟩
        · refine mg_iconst (v := 1) C dX3_layAll_77 (by decide) ?_
          refine mg_goto C 82 dX3_layAll_78 (by decide) ?_
          refine mg_iadd C dX3_layAll_82 ?_
          refine mg_istore_n C dX3_layAll_83 rfl ?_
          refine mg_lve (lv' := [(0, _), (1, _), (2, _), (3, _), (4, _)]) rfl ?_
          refine mg_iinc C dX3_layAll_84 rfl rfl ?_
          refine mg_lve (lv' := [(0, _), (1, _), (2, _), (3, _), (4, _)]) rfl ?_
          refine mg_goto C 19 dX3_layAll_87 (by decide) ?_
          refine mg_lv (lv' := [(0, _), (1, _), (2, _), (3, _)]) (lv_tk 4 rfl) ?_
          rw [show nI c + Int32.ofInt 1 = nI (c + 1) from (nI_succ c).symm]
          have hk2 := pu_k (a := a1) (z := nI rr * 24 + nI c) (y := a1 6 (nI c).toNatClampNeg)
          exact ih (c + 1) _ _ (by omega) (by omega) ⟨hk2.1.trans hk.1, hk2.2.1.trans hk.2.1, hk2.2.2.1.trans hk.2.2.1, hk2.2.2.2.1.trans hk.2.2.2.1, hk2.2.2.2.2.trans hk.2.2.2.2⟩
  have loop : ∀ (m1 i : Nat) (y : Int32) (a1 : Nat → Nat → Int32), n < i + m1 → i ≤ n → (a1 1 = a 1 ∧ a1 3 = a 3 ∧ a1 4 = a 4 ∧ a1 5 = a 5 ∧ a1 13 = a 13) → GG E X (cw E ad fl g a1 v tl) 0 0 4 [(0, .ref (ad 13)), (1, .int y), (2, .int (nI i))] [] := by
    intro m1
    induction m1 with
    | zero => intro i y a1 hm hi; omega
    | succ m1 ih =>
      intro i y a1 hm hi hk
      refine mg_iload_n C dX3_layAll_4 rfl ?_
      refine mg_aload_n C dX3_layAll_5 rfl ?_
      refine mg_get C inG_X3 fX3_31 (ci := 3) rfl rfl 13 rfl rfl dX3_layAll_6 ?_
      refine mg_icmp_ge C 96 dX3_layAll_9 (by decide) (fun h9 => ?_) (fun h9 => ?_)
      · refine mg_aload_n C dX3_layAll_96 rfl ?_
        refine mg_iconst (v := 1) C dX3_layAll_97 (by decide) ?_
        refine mg_put C inG_X3 fX3_41 (ci := 3) rfl rfl tyX3 tyX3_ok nmX3 rfl 13 rfl rfl rfl rfl dX3_layAll_98 (ws' := (cw E ad fl (ug g 8 1) a1 v tl)) rfl ?_
        refine mg_iload_n C dX3_layAll_101 rfl ?_
        exact mg_iret C hQ dX3_layAll_102 (⟨y, a1, rfl, hk, rfl⟩)
      · have hlt : i < n := (by rcases Nat.lt_or_ge i n with h | h; exact h; exact absurd (by rw [d4]; exact nI_le h (by omega)) h9)
        refine mg_aload_n C dX3_layAll_12 rfl ?_
        refine mg_iload_n C dX3_layAll_13 rfl ?_
        refine mg_callV C (cw_X3_spellRow E _ _ _ _ _ _ R Cc T n m D hd i hlt) oX3_76 13 rfl rfl rfl rfl rfl dX3_layAll_14 (fun o14 w14 z14 => ?_)
        obtain ⟨a2, rfl, ho2, rfl⟩ := z14
        refine mg_v0 ?_
        refine mg_iconst (v := 0) C dX3_layAll_17 (by decide) ?_
        refine mg_istore_n C dX3_layAll_18 rfl ?_
        refine mg_lve (lv' := [(0, _), (1, _), (2, _), (3, _)]) rfl ?_
        refine inner i hlt (fun y1 a3 hk3 => ?_) (2 * D * m + 1) 0 y a2 (by omega) (by omega) ⟨(ho2 1 (by decide)).trans hk.1, (ho2 3 (by decide)).trans hk.2.1, (ho2 4 (by decide)).trans hk.2.2.1, (ho2 5 (by decide)).trans hk.2.2.2.1, (ho2 13 (by decide)).trans hk.2.2.2.2⟩
        refine mg_iinc C dX3_layAll_90 rfl rfl ?_
        refine mg_goto C 4 dX3_layAll_93 (by decide) ?_
        refine mg_lv (lv' := [(0, _), (1, _), (2, _)]) (lv_tk 3 rfl) ?_
        rw [show nI i + Int32.ofInt 1 = nI (i + 1) from (nI_succ i).symm]
        exact ih (i + 1) y1 a3 (by omega) (by omega) hk3
  refine mg_iconst (v := 0) C dX3_layAll_0 (by decide) ?_
  refine mg_istore_n C dX3_layAll_1 rfl ?_
  refine mg_lve (lv' := [(0, _), (1, _)]) rfl ?_
  refine mg_iconst (v := 0) C dX3_layAll_2 (by decide) ?_
  refine mg_istore_n C dX3_layAll_3 rfl ?_
  refine mg_lve (lv' := [(0, _), (1, _), (2, _)]) rfl ?_
  exact loop (n + 1) 0 _ a (by omega) (by omega) ⟨rfl, rfl, rfl, rfl, rfl⟩
