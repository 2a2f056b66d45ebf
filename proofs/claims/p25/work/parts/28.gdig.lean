set_option maxHeartbeats 400000 in
set_option maxRecDepth 100000 in
theorem cw_X1_addTo (E : En) (ad : Nat → Nat) (fl : Nat) (g : Nat → Int32) (a : Nat → Nat → Int32) (v : Nat → Int64) (tl : va_W) (R Cc : Nat) (d0 : g 0 = nI R) (hR : R ≤ 8) (d1 : g 1 = nI Cc) (hC : Cc ≤ 24) (s0 : Int64) : Ct E mX1_addTo 1 0 0 [.ref (ad 18), .long s0] (cw E ad fl g a v tl) (fun o w => ∃ r : Int64, o = some (.long r) ∧ w = cw E ad fl g a v tl) := by
  refine Ct.of (by decide) (Nat.le_of_ble_eq_true rfl) (fun X C hQ hin => ?_)
  have C : Cx E X cX1_addTo 8 RX1 (some .long) 1 40 0 0 := C
  have lp3 : ∀ (r c : Nat), r < R → c < Cc → (∀ y : Int64, GG E X (cw E ad fl g a v tl) 0 0 63 [(0, .ref (ad 18)), (1, .long s0), (3, .long y), (5, .int (nI r)), (6, .int (nI c)), (7, .int (nI 3))] []) → ∀ (m1 q : Nat) (y : Int64), 3 < q + m1 → q ≤ 3 → GG E X (cw E ad fl g a v tl) 0 0 29 [(0, .ref (ad 18)), (1, .long s0), (3, .long y), (5, .int (nI r)), (6, .int (nI c)), (7, .int (nI q))] [] := by
    intro r c hrR hcC out
    intro m1
    induction m1 with
    | zero => intro q y hm hi; omega
    | succ m1 ih =>
      intro q y hm hi
      refine mg_iload C dX1_addTo_29 rfl ?_
      refine mg_iconst (v := 2) C dX1_addTo_31 (by decide) ?_
      refine mg_icmp_gt C 63 dX1_addTo_32 (by decide) (fun h32 => ?_) (fun h32 => ?_)
      · have hge : q = 3 := (by rcases Nat.lt_or_ge q 3 with h | h; exact absurd h32 (nI_nlt (b := q) (a := 2) (by omega) (by omega)); omega)
        subst hge
        exact out y
      · have hlt : q < 3 := (by rcases Nat.lt_or_ge q 3 with h | h; exact h; exact absurd (show (2 : Int32) < nI q from nI_lt (a := 2) (by omega) (by omega)) h32)
        have hin9 : vp_in (nI r * 24 + nI c) 192 := (by rw [pl_eq]; exact vp_in_nI (by omega) (by decide))
        refine mg_ldc2 C dX1_addTo_35 kX1_67 ?_
        refine mg_lload_n C dX1_addTo_38 rfl ?_
        refine mg_lmul C dX1_addTo_39 ?_
        refine mg_aload_n C dX1_addTo_40 rfl ?_
        refine mg_aload_n C dX1_addTo_41 rfl ?_
        refine mg_iload C dX1_addTo_42 rfl ?_
        refine mg_iload C dX1_addTo_44 rfl ?_
        refine mg_callV C (ct_X1_place E _ _ _ _ _ _ _ _) oX1_55 18 rfl rfl rfl rfl rfl dX1_addTo_46 (fun o46 w46 z46 => ?_)
        obtain ⟨rfl, rfl⟩ := z46
        refine mg_v ?_
        refine mg_iload C dX1_addTo_49 rfl ?_
        refine mg_callV C (ct_X1_tellCell E _ _ _ _ _ _ _ _ hin9) oX1_69 18 rfl rfl rfl rfl rfl dX1_addTo_51 (fun o51 w51 z51 => ?_)
        obtain ⟨rfl, rfl⟩ := z51
        refine mg_v ?_
        refine mg_i2l C dX1_addTo_54 ?_
        refine mg_ladd C dX1_addTo_55 ?_
        refine mg_lstore_n C dX1_addTo_56 rfl ?_
        refine mg_lve (lv' := [(0, _), (1, _), (3, _), (5, _), (6, _), (7, _)]) rfl ?_
        refine mg_iinc C dX1_addTo_57 rfl rfl ?_
        refine mg_lve (lv' := [(0, _), (1, _), (3, _), (5, _), (6, _), (7, _)]) rfl ?_
        refine mg_goto C 29 dX1_addTo_60 (by decide) ?_
        rw [show nI q + Int32.ofInt 1 = nI (q + 1) from (nI_succ q).symm]
        exact ih (q + 1) _ (by omega) (by omega)
  have lp2 : ∀ (r : Nat), r < R → (∀ y : Int64, GG E X (cw E ad fl g a v tl) 0 0 69 [(0, .ref (ad 18)), (1, .long s0), (3, .long y), (5, .int (nI r)), (6, .int (nI Cc))] []) → ∀ (m1 c : Nat) (y : Int64), Cc < c + m1 → c ≤ Cc → GG E X (cw E ad fl g a v tl) 0 0 17 [(0, .ref (ad 18)), (1, .long s0), (3, .long y), (5, .int (nI r)), (6, .int (nI c))] [] := by
    intro r hrR out
    intro m1
    induction m1 with
    | zero => intro c y hm hi; omega
    | succ m1 ih =>
      intro c y hm hi
      refine mg_iload C dX1_addTo_17 rfl ?_
      refine mg_aload_n C dX1_addTo_19 rfl ?_
      refine mg_get C inG_X1 fX1_32 (ci := 1) rfl rfl 18 rfl rfl dX1_addTo_20 ?_
      refine mg_icmp_ge C 69 dX1_addTo_23 (by decide) (fun h23 => ?_) (fun h23 => ?_)
      · have hge : c = Cc := (by rcases Nat.lt_or_ge c Cc with h | h; exact absurd (by rw [d1] at h23; exact h23) (nI_ge h (by omega)); omega)
        subst hge
        exact out y
      · have hlt : c < Cc := (by rcases Nat.lt_or_ge c Cc with h | h; exact h; exact absurd (by rw [d1]; exact nI_le h (by omega)) h23)
        refine mg_iconst (v := 0) C dX1_addTo_26 (by decide) ?_
        refine mg_istore C dX1_addTo_27 rfl ?_
        refine mg_lve (lv' := [(0, _), (1, _), (3, _), (5, _), (6, _), (7, _)]) rfl ?_
        refine lp3 r c hrR hlt (fun y1 => ?_) 4 0 y (by omega) (by omega)
        refine mg_iinc C dX1_addTo_63 rfl rfl ?_
        refine mg_goto C 17 dX1_addTo_66 (by decide) ?_
        refine mg_lv (lv' := [(0, _), (1, _), (3, _), (5, _), (6, _)]) (lv_tk 5 rfl) ?_
        rw [show nI c + Int32.ofInt 1 = nI (c + 1) from (nI_succ c).symm]
        exact ih (c + 1) y1 (by omega) (by omega)
  have lp4 : ∀ (m1 r : Nat) (y : Int64), R < r + m1 → r ≤ R → GG E X (cw E ad fl g a v tl) 0 0 78 [(0, .ref (ad 18)), (1, .long s0), (3, .long y), (5, .int (nI r))] [] := by
    intro m1
    induction m1 with
    | zero => intro r y hm hi; omega
    | succ m1 ih =>
      intro r y hm hi
      refine mg_iload C dX1_addTo_78 rfl ?_
      refine mg_aload_n C dX1_addTo_80 rfl ?_
      refine mg_get C inG_X1 fX1_28 (ci := 1) rfl rfl 18 rfl rfl dX1_addTo_81 ?_
      refine mg_icmp_ge C 108 dX1_addTo_84 (by decide) (fun h84 => ?_) (fun h84 => ?_)
      · refine mg_lload_n C dX1_addTo_108 rfl ?_
        exact mg_lret C hQ dX1_addTo_109 (⟨_, rfl, rfl⟩)
      · have hlt : r < R := (by rcases Nat.lt_or_ge r R with h | h; exact h; exact absurd (by rw [d0]; exact nI_le h (by omega)) h84)
        have hin8 : vp_in (nI r) 8 := vp_in_nI (by omega) (by decide)
        refine mg_ldc2 C dX1_addTo_87 kX1_67 ?_
        refine mg_lload_n C dX1_addTo_90 rfl ?_
        refine mg_lmul C dX1_addTo_91 ?_
        refine mg_aload_n C dX1_addTo_92 rfl ?_
        refine mg_get C inG_X1 fX1_21 (ci := 1) rfl rfl 18 rfl rfl dX1_addTo_93 ?_
        refine mg_iload C dX1_addTo_96 rfl ?_
        refine mg_iald C 14 rfl (hin8) dX1_addTo_98 ?_
        refine mg_i2l C dX1_addTo_99 ?_
        refine mg_ladd C dX1_addTo_100 ?_
        refine mg_lstore_n C dX1_addTo_101 rfl ?_
        refine mg_lve (lv' := [(0, _), (1, _), (3, _), (5, _)]) rfl ?_
        refine mg_iinc C dX1_addTo_102 rfl rfl ?_
        refine mg_lve (lv' := [(0, _), (1, _), (3, _), (5, _)]) rfl ?_
        refine mg_goto C 78 dX1_addTo_105 (by decide) ?_
        rw [show nI r + Int32.ofInt 1 = nI (r + 1) from (nI_succ r).symm]
        exact ih (r + 1) _ (by omega) (by omega)
  have lp1 : ∀ (m1 r : Nat) (y : Int64), R < r + m1 → r ≤ R → GG E X (cw E ad fl g a v tl) 0 0 5 [(0, .ref (ad 18)), (1, .long s0), (3, .long y), (5, .int (nI r))] [] := by
    intro m1
    induction m1 with
    | zero => intro r y hm hi; omega
    | succ m1 ih =>
      intro r y hm hi
      refine mg_iload C dX1_addTo_5 rfl ?_
      refine mg_aload_n C dX1_addTo_7 rfl ?_
      refine mg_get C inG_X1 fX1_28 (ci := 1) rfl rfl 18 rfl rfl dX1_addTo_8 ?_
      refine mg_icmp_ge C 75 dX1_addTo_11 (by decide) (fun h11 => ?_) (fun h11 => ?_)
      · refine mg_iconst (v := 0) C dX1_addTo_75 (by decide) ?_
        refine mg_istore C dX1_addTo_76 rfl ?_
        refine mg_lve (lv' := [(0, _), (1, _), (3, _), (5, _)]) rfl ?_
        exact lp4 (R + 1) 0 y (by omega) (by omega)
      · have hlt : r < R := (by rcases Nat.lt_or_ge r R with h | h; exact h; exact absurd (by rw [d0]; exact nI_le h (by omega)) h11)
        refine mg_iconst (v := 0) C dX1_addTo_14 (by decide) ?_
        refine mg_istore C dX1_addTo_15 rfl ?_
        refine mg_lve (lv' := [(0, _), (1, _), (3, _), (5, _), (6, _)]) rfl ?_
        refine lp2 r hlt (fun y1 => ?_) (Cc + 1) 0 y (by omega) (by omega)
        refine mg_iinc C dX1_addTo_69 rfl rfl ?_
        refine mg_goto C 5 dX1_addTo_72 (by decide) ?_
        refine mg_lv (lv' := [(0, _), (1, _), (3, _), (5, _)]) (lv_tk 4 rfl) ?_
        rw [show nI r + Int32.ofInt 1 = nI (r + 1) from (nI_succ r).symm]
        exact ih (r + 1) y1 (by omega) (by omega)
  refine mg_lload_n C dX1_addTo_0 rfl ?_
  refine mg_lstore_n C dX1_addTo_1 rfl ?_
  refine mg_lve (lv' := [(0, _), (1, _), (3, _)]) rfl ?_
  refine mg_iconst (v := 0) C dX1_addTo_2 (by decide) ?_
  refine mg_istore C dX1_addTo_3 rfl ?_
  refine mg_lve (lv' := [(0, _), (1, _), (3, _), (5, _)]) rfl ?_
  exact lp1 (R + 1) 0 _ (by omega) (by omega)
set_option maxHeartbeats 400000 in
set_option maxRecDepth 100000 in
theorem cw_X3_addTo (E : En) (ad : Nat → Nat) (fl : Nat) (g : Nat → Int32) (a : Nat → Nat → Int32) (v : Nat → Int64) (tl : va_W) (R Cc T n m D : Nat) (hd : Dim g R Cc T n m D) (s0 : Int64) : Ct E mX3_addTo 1 0 0 [.ref (ad 13), .long s0] (cw E ad fl g a v tl) (fun o w => ∃ r : Int64, o = some (.long r) ∧ w = cw E ad fl g a v tl) := by
  refine Ct.of (by decide) (Nat.le_of_ble_eq_true rfl) (fun X C hQ hin => ?_)
  have C : Cx E X cX3_addTo 7 RX3 (some .long) 1 40 0 0 := C
  obtain ⟨⟨d0, d0a, d0b⟩, ⟨d1, d1a, d1b⟩, ⟨d2, d2a, d2b⟩, ⟨d4, d4a⟩, d5, ⟨d6, d6a⟩, dcm, dn0, dn1⟩ := id hd
  have lp2 : ∀ (i : Nat), i < n → m ≤ 12 → (∀ y : Int64, GG E X (cw E ad fl g a v tl) 0 0 63 [(0, .ref (ad 13)), (1, .long s0), (3, .long y), (5, .int (nI i)), (6, .int (nI m))] []) → ∀ (m1 k : Nat) (y : Int64), m < k + m1 → k ≤ m → GG E X (cw E ad fl g a v tl) 0 0 32 [(0, .ref (ad 13)), (1, .long s0), (3, .long y), (5, .int (nI i)), (6, .int (nI k))] [] := by
    intro i hiN hm12 out
    intro m1
    induction m1 with
    | zero => intro k y hm hi; omega
    | succ m1 ih =>
      intro k y hm hi
      refine mg_iload C dX3_addTo_32 rfl ?_
      refine mg_aload_n C dX3_addTo_34 rfl ?_
      refine mg_get C inG_X3 fX3_35 (ci := 3) rfl rfl 13 rfl rfl dX3_addTo_35 ?_
      refine mg_icmp_ge C 63 dX3_addTo_38 (by decide) (fun h38 => ?_) (fun h38 => ?_)
      · have hge : k = m := (by rcases Nat.lt_or_ge k m with h | h; exact absurd (by rw [d5] at h38; exact h38) (nI_ge h (by omega)); omega)
        subst hge
        exact out y
      · have hlt : k < m := (by rcases Nat.lt_or_ge k m with h | h; exact h; exact absurd (by rw [d5]; exact nI_le h (by omega)) h38)
        refine mg_ldc2 C dX3_addTo_41 kX3_144 ?_
        refine mg_lload_n C dX3_addTo_44 rfl ?_
        refine mg_lmul C dX3_addTo_45 ?_
        refine mg_aload_n C dX3_addTo_46 rfl ?_
        refine mg_iload C dX3_addTo_47 rfl ?_
        refine mg_iload C dX3_addTo_49 rfl ?_
        refine mg_callV C (ct_X3_numberAt E _ _ _ _ _ _ _ _ (by omega)) oX3_67 13 rfl rfl rfl rfl rfl dX3_addTo_51 (fun o51 w51 z51 => ?_)
        obtain ⟨rfl, rfl⟩ := z51
        refine mg_v ?_
        refine mg_i2l C dX3_addTo_54 ?_
        refine mg_ladd C dX3_addTo_55 ?_
        refine mg_lstore_n C dX3_addTo_56 rfl ?_
        refine mg_lve (lv' := [(0, _), (1, _), (3, _), (5, _), (6, _)]) rfl ?_
        refine mg_iinc C dX3_addTo_57 rfl rfl ?_
        refine mg_lve (lv' := [(0, _), (1, _), (3, _), (5, _), (6, _)]) rfl ?_
        refine mg_goto C 32 dX3_addTo_60 (by decide) ?_
        rw [show nI k + Int32.ofInt 1 = nI (k + 1) from (nI_succ k).symm]
        exact ih (k + 1) _ (by omega) (by omega)
  have lp1 : ∀ (m1 i : Nat) (y : Int64), n < i + m1 → i ≤ n → GG E X (cw E ad fl g a v tl) 0 0 5 [(0, .ref (ad 13)), (1, .long s0), (3, .long y), (5, .int (nI i))] [] := by
    intro m1
    induction m1 with
    | zero => intro i y hm hi; omega
    | succ m1 ih =>
      intro i y hm hi
      refine mg_iload C dX3_addTo_5 rfl ?_
      refine mg_aload_n C dX3_addTo_7 rfl ?_
      refine mg_get C inG_X3 fX3_31 (ci := 3) rfl rfl 13 rfl rfl dX3_addTo_8 ?_
      refine mg_icmp_ge C 69 dX3_addTo_11 (by decide) (fun h11 => ?_) (fun h11 => ?_)
      · refine mg_lload_n C dX3_addTo_69 rfl ?_
        exact mg_lret C hQ dX3_addTo_70 (⟨_, rfl, rfl⟩)
      · have hlt : i < n := (by rcases Nat.lt_or_ge i n with h | h; exact h; exact absurd (by rw [d4]; exact nI_le h (by omega)) h11)
        have hin8 : vp_in (nI i) 8 := vp_in_nI (by omega) (by decide)
        have hm12 := m12 (n := n) dcm d1b (dn1 (by omega)).1
        refine mg_ldc2 C dX3_addTo_14 kX3_144 ?_
        refine mg_lload_n C dX3_addTo_17 rfl ?_
        refine mg_lmul C dX3_addTo_18 ?_
        refine mg_aload_n C dX3_addTo_19 rfl ?_
        refine mg_get C inG_X3 fX3_15 (ci := 3) rfl rfl 13 rfl rfl dX3_addTo_20 ?_
        refine mg_iload C dX3_addTo_23 rfl ?_
        refine mg_iald C 11 rfl (hin8) dX3_addTo_25 ?_
        refine mg_i2l C dX3_addTo_26 ?_
        refine mg_ladd C dX3_addTo_27 ?_
        refine mg_lstore_n C dX3_addTo_28 rfl ?_
        refine mg_lve (lv' := [(0, _), (1, _), (3, _), (5, _)]) rfl ?_
        refine mg_iconst (v := 0) C dX3_addTo_29 (by decide) ?_
        refine mg_istore C dX3_addTo_30 rfl ?_
        refine mg_lve (lv' := [(0, _), (1, _), (3, _), (5, _), (6, _)]) rfl ?_
        refine lp2 i hlt hm12 (fun y1 => ?_) (m + 1) 0 _ (by omega) (by omega)
        refine mg_iinc C dX3_addTo_63 rfl rfl ?_
        refine mg_goto C 5 dX3_addTo_66 (by decide) ?_
        refine mg_lv (lv' := [(0, _), (1, _), (3, _), (5, _)]) (lv_tk 4 rfl) ?_
        rw [show nI i + Int32.ofInt 1 = nI (i + 1) from (nI_succ i).symm]
        exact ih (i + 1) y1 (by omega) (by omega)
  refine mg_lload_n C dX3_addTo_0 rfl ?_
  refine mg_lstore_n C dX3_addTo_1 rfl ?_
  refine mg_lve (lv' := [(0, _), (1, _), (3, _)]) rfl ?_
  refine mg_iconst (v := 0) C dX3_addTo_2 (by decide) ?_
  refine mg_istore C dX3_addTo_3 rfl ?_
  refine mg_lve (lv' := [(0, _), (1, _), (3, _), (5, _)]) rfl ?_
  exact lp1 (n + 1) 0 _ (by omega) (by omega)
set_option maxHeartbeats 400000 in
set_option maxRecDepth 100000 in
theorem cw_X2_addTo (E : En) (ad : Nat → Nat) (fl : Nat) (g : Nat → Int32) (a : Nat → Nat → Int32) (v : Nat → Int64) (tl : va_W) (F : Nat) (dF : g 15 = nI F) (dF1 : F ≤ fl) (dF2 : fl ≤ 8000) (s0 : Int64) : Ct E mX2_addTo 1 0 0 [.ref (ad 4), .long s0] (cw E ad fl g a v tl) (fun o w => ∃ r : Int64, o = some (.long r) ∧ w = cw E ad fl g a v tl) := by
  refine Ct.of (by decide) (Nat.le_of_ble_eq_true rfl) (fun X C hQ hin => ?_)
  have C : Cx E X cX2_addTo 7 RX2 (some .long) 1 40 0 0 := C
  have lp2 : ∀ (i : Nat), i < F → (∀ y : Int64, GG E X (cw E ad fl g a v tl) 0 0 49 [(0, .ref (ad 4)), (1, .long s0), (3, .long y), (5, .int (nI i)), (6, .int (nI 3))] []) → ∀ (m1 k : Nat) (y : Int64), 3 < k + m1 → k ≤ 3 → GG E X (cw E ad fl g a v tl) 0 0 17 [(0, .ref (ad 4)), (1, .long s0), (3, .long y), (5, .int (nI i)), (6, .int (nI k))] [] := by
    intro i hiF out
    intro m1
    induction m1 with
    | zero => intro k y hm hi; omega
    | succ m1 ih =>
      intro k y hm hi
      refine mg_iload C dX2_addTo_17 rfl ?_
      refine mg_iconst (v := 2) C dX2_addTo_19 (by decide) ?_
      refine mg_icmp_gt C 49 dX2_addTo_20 (by decide) (fun h20 => ?_) (fun h20 => ?_)
      · have hge : k = 3 := (by rcases Nat.lt_or_ge k 3 with h | h; exact absurd h20 (nI_nlt (b := k) (a := 2) (by omega) (by omega)); omega)
        subst hge
        exact out y
      · have hlt : k < 3 := (by rcases Nat.lt_or_ge k 3 with h | h; exact h; exact absurd (show (2 : Int32) < nI k from nI_lt (a := 2) (by omega) (by omega)) h20)
        have hini : vp_in (nI i) fl := vp_in_nI (by omega) (by omega)
        refine mg_ldc2 C dX2_addTo_23 kX2_106 ?_
        refine mg_lload_n C dX2_addTo_26 rfl ?_
        refine mg_lmul C dX2_addTo_27 ?_
        refine mg_aload_n C dX2_addTo_28 rfl ?_
        refine mg_get C inG_X2 fX2_22 (ci := 2) rfl rfl 4 rfl rfl dX2_addTo_29 ?_
        refine mg_iload C dX2_addTo_32 rfl ?_
        refine mg_iald C 0 rfl (hini) dX2_addTo_34 ?_
        refine mg_iload C dX2_addTo_35 rfl ?_
        refine mg_callSN C (ct_X4_actPart E _ _ _) oX2_108 rfl rfl rfl dX2_addTo_37 (fun o37 w37 z37 => ?_)
        obtain ⟨rfl, rfl⟩ := z37
        refine mg_v ?_
        refine mg_i2l C dX2_addTo_40 ?_
        refine mg_ladd C dX2_addTo_41 ?_
        refine mg_lstore_n C dX2_addTo_42 rfl ?_
        refine mg_lve (lv' := [(0, _), (1, _), (3, _), (5, _), (6, _)]) rfl ?_
        refine mg_iinc C dX2_addTo_43 rfl rfl ?_
        refine mg_lve (lv' := [(0, _), (1, _), (3, _), (5, _), (6, _)]) rfl ?_
        refine mg_goto C 17 dX2_addTo_46 (by decide) ?_
        rw [show nI k + Int32.ofInt 1 = nI (k + 1) from (nI_succ k).symm]
        exact ih (k + 1) _ (by omega) (by omega)
  have lp1 : ∀ (m1 i : Nat) (y : Int64), F < i + m1 → i ≤ F → GG E X (cw E ad fl g a v tl) 0 0 5 [(0, .ref (ad 4)), (1, .long s0), (3, .long y), (5, .int (nI i))] [] := by
    intro m1
    induction m1 with
    | zero => intro i y hm hi; omega
    | succ m1 ih =>
      intro i y hm hi
      refine mg_iload C dX2_addTo_5 rfl ?_
      refine mg_aload_n C dX2_addTo_7 rfl ?_
      refine mg_get C inG_X2 fX2_51 (ci := 2) rfl rfl 4 rfl rfl dX2_addTo_8 ?_
      refine mg_icmp_ge C 55 dX2_addTo_11 (by decide) (fun h11 => ?_) (fun h11 => ?_)
      · refine mg_lload_n C dX2_addTo_55 rfl ?_
        exact mg_lret C hQ dX2_addTo_56 (⟨_, rfl, rfl⟩)
      · have hlt : i < F := (by rcases Nat.lt_or_ge i F with h | h; exact h; exact absurd (by rw [dF]; exact nI_le h (by omega)) h11)
        refine mg_iconst (v := 0) C dX2_addTo_14 (by decide) ?_
        refine mg_istore C dX2_addTo_15 rfl ?_
        refine mg_lve (lv' := [(0, _), (1, _), (3, _), (5, _), (6, _)]) rfl ?_
        refine lp2 i hlt (fun y1 => ?_) 4 0 _ (by omega) (by omega)
        refine mg_iinc C dX2_addTo_49 rfl rfl ?_
        refine mg_goto C 5 dX2_addTo_52 (by decide) ?_
        refine mg_lv (lv' := [(0, _), (1, _), (3, _), (5, _)]) (lv_tk 4 rfl) ?_
        rw [show nI i + Int32.ofInt 1 = nI (i + 1) from (nI_succ i).symm]
        exact ih (i + 1) y1 (by omega) (by omega)
  refine mg_lload_n C dX2_addTo_0 rfl ?_
  refine mg_lstore_n C dX2_addTo_1 rfl ?_
  refine mg_lve (lv' := [(0, _), (1, _), (3, _)]) rfl ?_
  refine mg_iconst (v := 0) C dX2_addTo_2 (by decide) ?_
  refine mg_istore C dX2_addTo_3 rfl ?_
  refine mg_lve (lv' := [(0, _), (1, _), (3, _), (5, _)]) rfl ?_
  exact lp1 (F + 1) 0 _ (by omega) (by omega)
set_option maxHeartbeats 400000 in
set_option maxRecDepth 100000 in
theorem cv_digest (E : En) (ad : Nat → Nat) (fl : Nat) (g : Nat → Int32) (a : Nat → Nat → Int32) (v : Nat → Int64) (tl : va_W) (hV : CV fl g a) : Ct E mX4_digest 3 0 0 [.ref (ad 19)] (cw E ad fl g a v tl) (fun o w => ∃ (r : Int64) (ad1 : Nat → Nat) (fl1 : Nat) (g1 : Nat → Int32) (a1 : Nat → Nat → Int32) (v1 : Nat → Int64), o = some (.long r) ∧ Sh g a g1 a1 ∧ CV fl1 g1 a1 ∧ ad1 19 = ad 19 ∧ w = cw E ad1 fl1 g1 a1 v1 tl) := by
  refine Ct.of (by decide) (Nat.le_of_ble_eq_true rfl) (fun X C hQ hin => ?_)
  have C : Cx E X cX4_digest 4 RX4 (some .long) 3 120 0 0 := C
  obtain ⟨R, Cc, T, n, m, D, F, ⟨⟨d0, d0a, d0b⟩, ⟨d1, d1a, d1b⟩, ⟨d2, d2a, d2b⟩, ⟨d4, d4a⟩, d5, ⟨d6, d6a⟩, dcm, dn0, dn1⟩, ⟨dF, dF1, dF2⟩, drow, dout⟩ := id hV.1
  have lp1 : ∀ (m1 q : Nat) (y : Int64), 9 < q + m1 → q ≤ 9 → GG E X (cw E ad fl g a v tl) 0 0 6 [(0, .ref (ad 19)), (1, .long y), (3, .int (nI q))] [] := by
    intro m1
    induction m1 with
    | zero => intro q y hm hi; omega
    | succ m1 ih =>
      intro q y hm hi
      refine mg_iload_n C dX4_digest_6 rfl ?_
      refine mg_bipush (v := 9) C dX4_digest_7 (by decide) ?_
      refine mg_icmp_ge C 31 dX4_digest_9 (by decide) (fun h9 => ?_) (fun h9 => ?_)
      · refine mg_aload_n C dX4_digest_31 rfl ?_
        refine mg_get C inG_X4 fX4_10 (ci := 4) rfl rfl 19 rfl rfl dX4_digest_32 ?_
        refine mg_lload_n C dX4_digest_35 rfl ?_
        refine mg_callVN C (cw_X1_addTo E _ _ _ _ _ _ R Cc d0 d0b d1 d1b _) oX4_195 18 rfl rfl rfl rfl rfl dX4_digest_36 (fun o36 w36 z36 => ?_)
        obtain ⟨r36, rfl, rfl⟩ := z36
        refine mg_v ?_
        refine mg_lstore_n C dX4_digest_39 rfl ?_
        refine mg_lve (lv' := [(0, _), (1, _), (3, _)]) rfl ?_
        refine mg_aload_n C dX4_digest_40 rfl ?_
        refine mg_get C inG_X4 fX4_21 (ci := 4) rfl rfl 19 rfl rfl dX4_digest_41 ?_
        refine mg_lload_n C dX4_digest_44 rfl ?_
        refine mg_callVN C (cw_X3_addTo E _ _ _ _ _ _ R Cc T n m D ⟨⟨d0, d0a, d0b⟩, ⟨d1, d1a, d1b⟩, ⟨d2, d2a, d2b⟩, ⟨d4, d4a⟩, d5, ⟨d6, d6a⟩, dcm, dn0, dn1⟩ _) oX4_199 13 rfl rfl rfl rfl rfl dX4_digest_45 (fun o45 w45 z45 => ?_)
        obtain ⟨r45, rfl, rfl⟩ := z45
        refine mg_v ?_
        refine mg_lstore_n C dX4_digest_48 rfl ?_
        refine mg_lve (lv' := [(0, _), (1, _), (3, _)]) rfl ?_
        refine mg_aload_n C dX4_digest_49 rfl ?_
        refine mg_get C inG_X4 fX4_35 (ci := 4) rfl rfl 19 rfl rfl dX4_digest_50 ?_
        refine mg_lload_n C dX4_digest_53 rfl ?_
        refine mg_callVN C (cw_X2_addTo E _ _ _ _ _ _ F dF dF1 dF2 _) oX4_200 4 rfl rfl rfl rfl rfl dX4_digest_54 (fun o54 w54 z54 => ?_)
        obtain ⟨r54, rfl, rfl⟩ := z54
        refine mg_v ?_
        exact mg_lret C hQ dX4_digest_57 (⟨_, ad, fl, g, a, v, rfl, Sh.rf, hV, rfl, rfl⟩)
      · have hlt : q < 9 := (by rcases Nat.lt_or_ge q 9 with h | h; exact h; exact absurd (show (9 : Int32) ≤ nI q from nI_le (a := 9) h (by omega)) h9)
        refine mg_ldc2 C dX4_digest_12 kX4_190 ?_
        refine mg_lload_n C dX4_digest_15 rfl ?_
        refine mg_lmul C dX4_digest_16 ?_
        refine mg_aload_n C dX4_digest_17 rfl ?_
        refine mg_iload_n C dX4_digest_18 rfl ?_
        refine mg_callV C (cx_count E _ _ _ _ _ _ _ hV) oX4_192 19 rfl rfl rfl rfl rfl dX4_digest_19 (fun o19 w19 z19 => ?_)
        obtain ⟨rfl, rfl⟩ := z19
        refine mg_v ?_
        refine mg_i2l C dX4_digest_22 ?_
        refine mg_ladd C dX4_digest_23 ?_
        refine mg_lstore_n C dX4_digest_24 rfl ?_
        refine mg_lve (lv' := [(0, _), (1, _), (3, _)]) rfl ?_
        refine mg_iinc C dX4_digest_25 rfl rfl ?_
        refine mg_lve (lv' := [(0, _), (1, _), (3, _)]) rfl ?_
        refine mg_goto C 6 dX4_digest_28 (by decide) ?_
        rw [show nI q + Int32.ofInt 1 = nI (q + 1) from (nI_succ q).symm]
        exact ih (q + 1) _ (by omega) (by omega)
  refine mg_ldc2 C dX4_digest_0 kX4_188 ?_
  refine mg_lstore_n C dX4_digest_3 rfl ?_
  refine mg_lve (lv' := [(0, _), (1, _)]) rfl ?_
  refine mg_iconst (v := 0) C dX4_digest_4 (by decide) ?_
  refine mg_istore_n C dX4_digest_5 rfl ?_
  refine mg_lve (lv' := [(0, _), (1, _), (3, _)]) rfl ?_
  exact lp1 10 0 _ (by omega) (by omega)
